section
-- ===== PART A: goes FIRST, ahead of the names: the tables' words, and 'selects' of the private methods out of them =====
/-- a private method of a class that the tables say can be made, by its rows of tables_1 -/
def lw_okq (q : MethodName × Nat) : Prop := (q.1.cls ≠ "java/lang/invoke/MethodHandle" ∧ q.1.cls ≠ "java/lang/invoke/VarHandle") ∧ Cond.instantiable q.1.cls q.2 ∈ tables_1 ∧ Cond.privateMethod q.1 ∈ tables_1 ∧ Cond.instanceMethod q.1 ∈ tables_1
theorem lw_p0 : lw_okq (⟨"MarkerText", "conditionAt", "(I)LMarkerText$Condition;"⟩, 9) := ⟨⟨by decide +kernel, by decide +kernel⟩, List.mem_of_getElem? (i := 35) (by decide +kernel), List.mem_of_getElem? (i := 283) (by decide +kernel), List.mem_of_getElem? (i := 284) (by decide +kernel)⟩
theorem lw_p1 : lw_okq (⟨"MarkerText", "findChoice", "(II)I"⟩, 9) := ⟨⟨by decide +kernel, by decide +kernel⟩, List.mem_of_getElem? (i := 35) (by decide +kernel), List.mem_of_getElem? (i := 311) (by decide +kernel), List.mem_of_getElem? (i := 312) (by decide +kernel)⟩
theorem lw_p2 : lw_okq (⟨"MarkerText$Choices", "addTested", "(Ljava/util/ArrayList;I)V"⟩, 7) := ⟨⟨by decide +kernel, by decide +kernel⟩, List.mem_of_getElem? (i := 80) (by decide +kernel), List.mem_of_getElem? (i := 319) (by decide +kernel), List.mem_of_getElem? (i := 320) (by decide +kernel)⟩
theorem lw_p3 : lw_okq (⟨"MarkerText$Choices", "add", "(JI)V"⟩, 7) := ⟨⟨by decide +kernel, by decide +kernel⟩, List.mem_of_getElem? (i := 80) (by decide +kernel), List.mem_of_getElem? (i := 340) (by decide +kernel), List.mem_of_getElem? (i := 341) (by decide +kernel)⟩
theorem lw_p4 : lw_okq (⟨"MarkerText$Choices", "addKnown", "(LMarkerText$Name;I)V"⟩, 7) := ⟨⟨by decide +kernel, by decide +kernel⟩, List.mem_of_getElem? (i := 80) (by decide +kernel), List.mem_of_getElem? (i := 345) (by decide +kernel), List.mem_of_getElem? (i := 346) (by decide +kernel)⟩
theorem lw_p5 : lw_okq (⟨"MarkerText$Choices", "levelOfPick", "(I)J"⟩, 7) := ⟨⟨by decide +kernel, by decide +kernel⟩, List.mem_of_getElem? (i := 80) (by decide +kernel), List.mem_of_getElem? (i := 359) (by decide +kernel), List.mem_of_getElem? (i := 360) (by decide +kernel)⟩
theorem lw_p6 : lw_okq (⟨"MarkerText$Parting", "countIn", "(II)V"⟩, 6) := ⟨⟨by decide +kernel, by decide +kernel⟩, List.mem_of_getElem? (i := 113) (by decide +kernel), List.mem_of_getElem? (i := 388) (by decide +kernel), List.mem_of_getElem? (i := 389) (by decide +kernel)⟩
theorem lw_p7 : lw_okq (⟨"MarkerText", "nameAt", "(I)LMarkerText$Name;"⟩, 9) := ⟨⟨by decide +kernel, by decide +kernel⟩, List.mem_of_getElem? (i := 35) (by decide +kernel), List.mem_of_getElem? (i := 410) (by decide +kernel), List.mem_of_getElem? (i := 411) (by decide +kernel)⟩
theorem lw_p8 : lw_okq (⟨"MarkerText", "takeText", "()Ljava/lang/String;"⟩, 9) := ⟨⟨by decide +kernel, by decide +kernel⟩, List.mem_of_getElem? (i := 35) (by decide +kernel), List.mem_of_getElem? (i := 458) (by decide +kernel), List.mem_of_getElem? (i := 459) (by decide +kernel)⟩
theorem lw_p9 : lw_okq (⟨"java/lang/Throwable", "fillInStackTrace", "(I)Ljava/lang/Throwable;"⟩, 6) := ⟨⟨by decide +kernel, by decide +kernel⟩, List.mem_of_getElem? (i := 528) (by decide +kernel), List.mem_of_getElem? (i := 526) (by decide +kernel), List.mem_of_getElem? (i := 527) (by decide +kernel)⟩
theorem lw_p10 : lw_okq (⟨"MarkerText$Reader", "readJoined", "(I)LMarkerText$Node;"⟩, 7) := ⟨⟨by decide +kernel, by decide +kernel⟩, List.mem_of_getElem? (i := 824) (by decide +kernel), List.mem_of_getElem? (i := 885) (by decide +kernel), List.mem_of_getElem? (i := 886) (by decide +kernel)⟩
theorem lw_p11 : lw_okq (⟨"MarkerText$Reader", "readTest", "()LMarkerText$Node;"⟩, 7) := ⟨⟨by decide +kernel, by decide +kernel⟩, List.mem_of_getElem? (i := 824) (by decide +kernel), List.mem_of_getElem? (i := 889) (by decide +kernel), List.mem_of_getElem? (i := 890) (by decide +kernel)⟩
theorem lw_p12 : lw_okq (⟨"MarkerText$Reader", "skipBlanks", "()V"⟩, 7) := ⟨⟨by decide +kernel, by decide +kernel⟩, List.mem_of_getElem? (i := 824) (by decide +kernel), List.mem_of_getElem? (i := 893) (by decide +kernel), List.mem_of_getElem? (i := 894) (by decide +kernel)⟩
theorem lw_p13 : lw_okq (⟨"MarkerText$Reader", "wordHere", "()Ljava/lang/String;"⟩, 7) := ⟨⟨by decide +kernel, by decide +kernel⟩, List.mem_of_getElem? (i := 824) (by decide +kernel), List.mem_of_getElem? (i := 899) (by decide +kernel), List.mem_of_getElem? (i := 900) (by decide +kernel)⟩
theorem lw_p14 : lw_okq (⟨"MarkerText$Reader", "characterHere", "()C"⟩, 7) := ⟨⟨by decide +kernel, by decide +kernel⟩, List.mem_of_getElem? (i := 824) (by decide +kernel), List.mem_of_getElem? (i := 929) (by decide +kernel), List.mem_of_getElem? (i := 930) (by decide +kernel)⟩
theorem lw_p15 : lw_okq (⟨"MarkerText$Reader", "readOpened", "(Z)LMarkerText$Node;"⟩, 7) := ⟨⟨by decide +kernel, by decide +kernel⟩, List.mem_of_getElem? (i := 824) (by decide +kernel), List.mem_of_getElem? (i := 933) (by decide +kernel), List.mem_of_getElem? (i := 934) (by decide +kernel)⟩
def lw_privs_1 : List (MethodName × Nat) := [(⟨"MarkerText", "conditionAt", "(I)LMarkerText$Condition;"⟩, 9), (⟨"MarkerText", "findChoice", "(II)I"⟩, 9), (⟨"MarkerText$Choices", "addTested", "(Ljava/util/ArrayList;I)V"⟩, 7), (⟨"MarkerText$Choices", "add", "(JI)V"⟩, 7), (⟨"MarkerText$Choices", "addKnown", "(LMarkerText$Name;I)V"⟩, 7), (⟨"MarkerText$Choices", "levelOfPick", "(I)J"⟩, 7), (⟨"MarkerText$Parting", "countIn", "(II)V"⟩, 6), (⟨"MarkerText", "nameAt", "(I)LMarkerText$Name;"⟩, 9), (⟨"MarkerText", "takeText", "()Ljava/lang/String;"⟩, 9), (⟨"java/lang/Throwable", "fillInStackTrace", "(I)Ljava/lang/Throwable;"⟩, 6), (⟨"MarkerText$Reader", "readJoined", "(I)LMarkerText$Node;"⟩, 7), (⟨"MarkerText$Reader", "readTest", "()LMarkerText$Node;"⟩, 7), (⟨"MarkerText$Reader", "skipBlanks", "()V"⟩, 7), (⟨"MarkerText$Reader", "wordHere", "()Ljava/lang/String;"⟩, 7), (⟨"MarkerText$Reader", "characterHere", "()C"⟩, 7), (⟨"MarkerText$Reader", "readOpened", "(Z)LMarkerText$Node;"⟩, 7)]
theorem lw_r1 : ∀ q ∈ lw_privs_1, lw_okq q := List.forall_mem_cons.mpr ⟨lw_p0, List.forall_mem_cons.mpr ⟨lw_p1, List.forall_mem_cons.mpr ⟨lw_p2, List.forall_mem_cons.mpr ⟨lw_p3, List.forall_mem_cons.mpr ⟨lw_p4, List.forall_mem_cons.mpr ⟨lw_p5, List.forall_mem_cons.mpr ⟨lw_p6, List.forall_mem_cons.mpr ⟨lw_p7, List.forall_mem_cons.mpr ⟨lw_p8, List.forall_mem_cons.mpr ⟨lw_p9, List.forall_mem_cons.mpr ⟨lw_p10, List.forall_mem_cons.mpr ⟨lw_p11, List.forall_mem_cons.mpr ⟨lw_p12, List.forall_mem_cons.mpr ⟨lw_p13, List.forall_mem_cons.mpr ⟨lw_p14, List.forall_mem_cons.mpr ⟨lw_p15, fun _ h => absurd h List.not_mem_nil⟩⟩⟩⟩⟩⟩⟩⟩⟩⟩⟩⟩⟩⟩⟩⟩
theorem lw_p16 : lw_okq (⟨"MarkerText$Reader", "takesSign", "(C)Z"⟩, 7) := ⟨⟨by decide +kernel, by decide +kernel⟩, List.mem_of_getElem? (i := 824) (by decide +kernel), List.mem_of_getElem? (i := 957) (by decide +kernel), List.mem_of_getElem? (i := 958) (by decide +kernel)⟩
theorem lw_p17 : lw_okq (⟨"MarkerText$Reader", "readComparison", "(I)LMarkerText$Node;"⟩, 7) := ⟨⟨by decide +kernel, by decide +kernel⟩, List.mem_of_getElem? (i := 824) (by decide +kernel), List.mem_of_getElem? (i := 975) (by decide +kernel), List.mem_of_getElem? (i := 976) (by decide +kernel)⟩
theorem lw_p18 : lw_okq (⟨"MarkerText$Reader", "takesWord", "(Ljava/lang/String;)Z"⟩, 7) := ⟨⟨by decide +kernel, by decide +kernel⟩, List.mem_of_getElem? (i := 824) (by decide +kernel), List.mem_of_getElem? (i := 983) (by decide +kernel), List.mem_of_getElem? (i := 984) (by decide +kernel)⟩
theorem lw_p19 : lw_okq (⟨"MarkerText$Reader", "readOperator", "()I"⟩, 7) := ⟨⟨by decide +kernel, by decide +kernel⟩, List.mem_of_getElem? (i := 824) (by decide +kernel), List.mem_of_getElem? (i := 987) (by decide +kernel), List.mem_of_getElem? (i := 988) (by decide +kernel)⟩
theorem lw_p20 : lw_okq (⟨"MarkerText$Reader", "readList", "(LMarkerText$Name;)[J"⟩, 7) := ⟨⟨by decide +kernel, by decide +kernel⟩, List.mem_of_getElem? (i := 824) (by decide +kernel), List.mem_of_getElem? (i := 991) (by decide +kernel), List.mem_of_getElem? (i := 992) (by decide +kernel)⟩
theorem lw_p21 : lw_okq (⟨"MarkerText$Reader", "readValue", "(LMarkerText$Name;)J"⟩, 7) := ⟨⟨by decide +kernel, by decide +kernel⟩, List.mem_of_getElem? (i := 824) (by decide +kernel), List.mem_of_getElem? (i := 995) (by decide +kernel), List.mem_of_getElem? (i := 996) (by decide +kernel)⟩
theorem lw_p22 : lw_okq (⟨"MarkerText$Reader", "readSingle", "(LMarkerText$Name;)[J"⟩, 7) := ⟨⟨by decide +kernel, by decide +kernel⟩, List.mem_of_getElem? (i := 824) (by decide +kernel), List.mem_of_getElem? (i := 1009) (by decide +kernel), List.mem_of_getElem? (i := 1010) (by decide +kernel)⟩
theorem lw_p23 : lw_okq (⟨"java/util/ArrayList", "add", "(Ljava/lang/Object;[Ljava/lang/Object;I)V"⟩, 3) := ⟨⟨by decide +kernel, by decide +kernel⟩, List.mem_of_getElem? (i := 830) (by decide +kernel), List.mem_of_getElem? (i := 1040) (by decide +kernel), List.mem_of_getElem? (i := 1041) (by decide +kernel)⟩
theorem lw_p24 : lw_okq (⟨"java/util/ArrayList", "grow", "()[Ljava/lang/Object;"⟩, 3) := ⟨⟨by decide +kernel, by decide +kernel⟩, List.mem_of_getElem? (i := 830) (by decide +kernel), List.mem_of_getElem? (i := 1044) (by decide +kernel), List.mem_of_getElem? (i := 1045) (by decide +kernel)⟩
theorem lw_p25 : lw_okq (⟨"java/util/ArrayList", "grow", "(I)[Ljava/lang/Object;"⟩, 3) := ⟨⟨by decide +kernel, by decide +kernel⟩, List.mem_of_getElem? (i := 830) (by decide +kernel), List.mem_of_getElem? (i := 1048) (by decide +kernel), List.mem_of_getElem? (i := 1049) (by decide +kernel)⟩
theorem lw_p26 : lw_okq (⟨"MarkerTextModel", "word", "(II)J"⟩, 52) := ⟨⟨by decide +kernel, by decide +kernel⟩, List.mem_of_getElem? (i := 1165) (by decide +kernel), List.mem_of_getElem? (i := 1347) (by decide +kernel), List.mem_of_getElem? (i := 1348) (by decide +kernel)⟩
theorem lw_p27 : lw_okq (⟨"MarkerTextModel", "meaning", "(J)I"⟩, 52) := ⟨⟨by decide +kernel, by decide +kernel⟩, List.mem_of_getElem? (i := 1165) (by decide +kernel), List.mem_of_getElem? (i := 1353) (by decide +kernel), List.mem_of_getElem? (i := 1354) (by decide +kernel)⟩
theorem lw_p28 : lw_okq (⟨"MarkerTextModel", "fails", "(ZZ)Z"⟩, 52) := ⟨⟨by decide +kernel, by decide +kernel⟩, List.mem_of_getElem? (i := 1165) (by decide +kernel), List.mem_of_getElem? (i := 1363) (by decide +kernel), List.mem_of_getElem? (i := 1364) (by decide +kernel)⟩
theorem lw_p29 : lw_okq (⟨"MarkerTextModel", "isName", "(I)Z"⟩, 52) := ⟨⟨by decide +kernel, by decide +kernel⟩, List.mem_of_getElem? (i := 1165) (by decide +kernel), List.mem_of_getElem? (i := 1371) (by decide +kernel), List.mem_of_getElem? (i := 1372) (by decide +kernel)⟩
theorem lw_p30 : lw_okq (⟨"MarkerTextModel", "isValue", "(III)Z"⟩, 52) := ⟨⟨by decide +kernel, by decide +kernel⟩, List.mem_of_getElem? (i := 1165) (by decide +kernel), List.mem_of_getElem? (i := 1375) (by decide +kernel), List.mem_of_getElem? (i := 1376) (by decide +kernel)⟩
theorem lw_p31 : lw_okq (⟨"MarkerTextModel", "isText", "(II)Z"⟩, 52) := ⟨⟨by decide +kernel, by decide +kernel⟩, List.mem_of_getElem? (i := 1165) (by decide +kernel), List.mem_of_getElem? (i := 1379) (by decide +kernel), List.mem_of_getElem? (i := 1380) (by decide +kernel)⟩
def lw_privs_2 : List (MethodName × Nat) := [(⟨"MarkerText$Reader", "takesSign", "(C)Z"⟩, 7), (⟨"MarkerText$Reader", "readComparison", "(I)LMarkerText$Node;"⟩, 7), (⟨"MarkerText$Reader", "takesWord", "(Ljava/lang/String;)Z"⟩, 7), (⟨"MarkerText$Reader", "readOperator", "()I"⟩, 7), (⟨"MarkerText$Reader", "readList", "(LMarkerText$Name;)[J"⟩, 7), (⟨"MarkerText$Reader", "readValue", "(LMarkerText$Name;)J"⟩, 7), (⟨"MarkerText$Reader", "readSingle", "(LMarkerText$Name;)[J"⟩, 7), (⟨"java/util/ArrayList", "add", "(Ljava/lang/Object;[Ljava/lang/Object;I)V"⟩, 3), (⟨"java/util/ArrayList", "grow", "()[Ljava/lang/Object;"⟩, 3), (⟨"java/util/ArrayList", "grow", "(I)[Ljava/lang/Object;"⟩, 3), (⟨"MarkerTextModel", "word", "(II)J"⟩, 52), (⟨"MarkerTextModel", "meaning", "(J)I"⟩, 52), (⟨"MarkerTextModel", "fails", "(ZZ)Z"⟩, 52), (⟨"MarkerTextModel", "isName", "(I)Z"⟩, 52), (⟨"MarkerTextModel", "isValue", "(III)Z"⟩, 52), (⟨"MarkerTextModel", "isText", "(II)Z"⟩, 52)]
theorem lw_r2 : ∀ q ∈ lw_privs_2, lw_okq q := List.forall_mem_cons.mpr ⟨lw_p16, List.forall_mem_cons.mpr ⟨lw_p17, List.forall_mem_cons.mpr ⟨lw_p18, List.forall_mem_cons.mpr ⟨lw_p19, List.forall_mem_cons.mpr ⟨lw_p20, List.forall_mem_cons.mpr ⟨lw_p21, List.forall_mem_cons.mpr ⟨lw_p22, List.forall_mem_cons.mpr ⟨lw_p23, List.forall_mem_cons.mpr ⟨lw_p24, List.forall_mem_cons.mpr ⟨lw_p25, List.forall_mem_cons.mpr ⟨lw_p26, List.forall_mem_cons.mpr ⟨lw_p27, List.forall_mem_cons.mpr ⟨lw_p28, List.forall_mem_cons.mpr ⟨lw_p29, List.forall_mem_cons.mpr ⟨lw_p30, List.forall_mem_cons.mpr ⟨lw_p31, fun _ h => absurd h List.not_mem_nil⟩⟩⟩⟩⟩⟩⟩⟩⟩⟩⟩⟩⟩⟩⟩⟩
theorem lw_p32 : lw_okq (⟨"MarkerTextModel", "isVersion", "(II)Z"⟩, 52) := ⟨⟨by decide +kernel, by decide +kernel⟩, List.mem_of_getElem? (i := 1165) (by decide +kernel), List.mem_of_getElem? (i := 1387) (by decide +kernel), List.mem_of_getElem? (i := 1388) (by decide +kernel)⟩
theorem lw_p33 : lw_okq (⟨"MarkerTextModel", "read", "()V"⟩, 52) := ⟨⟨by decide +kernel, by decide +kernel⟩, List.mem_of_getElem? (i := 1165) (by decide +kernel), List.mem_of_getElem? (i := 1400) (by decide +kernel), List.mem_of_getElem? (i := 1401) (by decide +kernel)⟩
theorem lw_p34 : lw_okq (⟨"MarkerTextModel", "skip", "()V"⟩, 52) := ⟨⟨by decide +kernel, by decide +kernel⟩, List.mem_of_getElem? (i := 1165) (by decide +kernel), List.mem_of_getElem? (i := 1404) (by decide +kernel), List.mem_of_getElem? (i := 1405) (by decide +kernel)⟩
theorem lw_p35 : lw_okq (⟨"MarkerTextModel", "readFirst", "()V"⟩, 52) := ⟨⟨by decide +kernel, by decide +kernel⟩, List.mem_of_getElem? (i := 1165) (by decide +kernel), List.mem_of_getElem? (i := 1408) (by decide +kernel), List.mem_of_getElem? (i := 1409) (by decide +kernel)⟩
theorem lw_p36 : lw_okq (⟨"MarkerTextModel", "now", "()I"⟩, 52) := ⟨⟨by decide +kernel, by decide +kernel⟩, List.mem_of_getElem? (i := 1165) (by decide +kernel), List.mem_of_getElem? (i := 1412) (by decide +kernel), List.mem_of_getElem? (i := 1413) (by decide +kernel)⟩
theorem lw_p37 : lw_okq (⟨"MarkerTextModel", "open", "(II)V"⟩, 52) := ⟨⟨by decide +kernel, by decide +kernel⟩, List.mem_of_getElem? (i := 1165) (by decide +kernel), List.mem_of_getElem? (i := 1416) (by decide +kernel), List.mem_of_getElem? (i := 1417) (by decide +kernel)⟩
theorem lw_p38 : lw_okq (⟨"MarkerTextModel", "fault", "(I)V"⟩, 52) := ⟨⟨by decide +kernel, by decide +kernel⟩, List.mem_of_getElem? (i := 1165) (by decide +kernel), List.mem_of_getElem? (i := 1420) (by decide +kernel), List.mem_of_getElem? (i := 1421) (by decide +kernel)⟩
theorem lw_p39 : lw_okq (⟨"MarkerTextModel", "push", "(I)V"⟩, 52) := ⟨⟨by decide +kernel, by decide +kernel⟩, List.mem_of_getElem? (i := 1165) (by decide +kernel), List.mem_of_getElem? (i := 1424) (by decide +kernel), List.mem_of_getElem? (i := 1425) (by decide +kernel)⟩
theorem lw_p40 : lw_okq (⟨"MarkerTextModel", "letters", "(I)I"⟩, 52) := ⟨⟨by decide +kernel, by decide +kernel⟩, List.mem_of_getElem? (i := 1165) (by decide +kernel), List.mem_of_getElem? (i := 1428) (by decide +kernel), List.mem_of_getElem? (i := 1429) (by decide +kernel)⟩
theorem lw_p41 : lw_okq (⟨"MarkerTextModel", "readTest", "(I)V"⟩, 52) := ⟨⟨by decide +kernel, by decide +kernel⟩, List.mem_of_getElem? (i := 1165) (by decide +kernel), List.mem_of_getElem? (i := 1432) (by decide +kernel), List.mem_of_getElem? (i := 1433) (by decide +kernel)⟩
theorem lw_p42 : lw_okq (⟨"MarkerTextModel", "readList", "(I)V"⟩, 52) := ⟨⟨by decide +kernel, by decide +kernel⟩, List.mem_of_getElem? (i := 1165) (by decide +kernel), List.mem_of_getElem? (i := 1436) (by decide +kernel), List.mem_of_getElem? (i := 1437) (by decide +kernel)⟩
theorem lw_p43 : lw_okq (⟨"MarkerTextModel", "expect", "(I)V"⟩, 52) := ⟨⟨by decide +kernel, by decide +kernel⟩, List.mem_of_getElem? (i := 1165) (by decide +kernel), List.mem_of_getElem? (i := 1440) (by decide +kernel), List.mem_of_getElem? (i := 1441) (by decide +kernel)⟩
theorem lw_p44 : lw_okq (⟨"MarkerTextModel", "readValue", "(I)V"⟩, 52) := ⟨⟨by decide +kernel, by decide +kernel⟩, List.mem_of_getElem? (i := 1165) (by decide +kernel), List.mem_of_getElem? (i := 1444) (by decide +kernel), List.mem_of_getElem? (i := 1445) (by decide +kernel)⟩
theorem lw_p45 : lw_okq (⟨"MarkerTextModel", "operator", "()I"⟩, 52) := ⟨⟨by decide +kernel, by decide +kernel⟩, List.mem_of_getElem? (i := 1165) (by decide +kernel), List.mem_of_getElem? (i := 1448) (by decide +kernel), List.mem_of_getElem? (i := 1449) (by decide +kernel)⟩
theorem lw_p46 : lw_okq (⟨"MarkerTextModel", "addTest", "(III)V"⟩, 52) := ⟨⟨by decide +kernel, by decide +kernel⟩, List.mem_of_getElem? (i := 1165) (by decide +kernel), List.mem_of_getElem? (i := 1452) (by decide +kernel), List.mem_of_getElem? (i := 1453) (by decide +kernel)⟩
theorem lw_p47 : lw_okq (⟨"MarkerTextModel", "addNode", "(III)I"⟩, 52) := ⟨⟨by decide +kernel, by decide +kernel⟩, List.mem_of_getElem? (i := 1165) (by decide +kernel), List.mem_of_getElem? (i := 1456) (by decide +kernel), List.mem_of_getElem? (i := 1457) (by decide +kernel)⟩
def lw_privs_3 : List (MethodName × Nat) := [(⟨"MarkerTextModel", "isVersion", "(II)Z"⟩, 52), (⟨"MarkerTextModel", "read", "()V"⟩, 52), (⟨"MarkerTextModel", "skip", "()V"⟩, 52), (⟨"MarkerTextModel", "readFirst", "()V"⟩, 52), (⟨"MarkerTextModel", "now", "()I"⟩, 52), (⟨"MarkerTextModel", "open", "(II)V"⟩, 52), (⟨"MarkerTextModel", "fault", "(I)V"⟩, 52), (⟨"MarkerTextModel", "push", "(I)V"⟩, 52), (⟨"MarkerTextModel", "letters", "(I)I"⟩, 52), (⟨"MarkerTextModel", "readTest", "(I)V"⟩, 52), (⟨"MarkerTextModel", "readList", "(I)V"⟩, 52), (⟨"MarkerTextModel", "expect", "(I)V"⟩, 52), (⟨"MarkerTextModel", "readValue", "(I)V"⟩, 52), (⟨"MarkerTextModel", "operator", "()I"⟩, 52), (⟨"MarkerTextModel", "addTest", "(III)V"⟩, 52), (⟨"MarkerTextModel", "addNode", "(III)I"⟩, 52)]
theorem lw_r3 : ∀ q ∈ lw_privs_3, lw_okq q := List.forall_mem_cons.mpr ⟨lw_p32, List.forall_mem_cons.mpr ⟨lw_p33, List.forall_mem_cons.mpr ⟨lw_p34, List.forall_mem_cons.mpr ⟨lw_p35, List.forall_mem_cons.mpr ⟨lw_p36, List.forall_mem_cons.mpr ⟨lw_p37, List.forall_mem_cons.mpr ⟨lw_p38, List.forall_mem_cons.mpr ⟨lw_p39, List.forall_mem_cons.mpr ⟨lw_p40, List.forall_mem_cons.mpr ⟨lw_p41, List.forall_mem_cons.mpr ⟨lw_p42, List.forall_mem_cons.mpr ⟨lw_p43, List.forall_mem_cons.mpr ⟨lw_p44, List.forall_mem_cons.mpr ⟨lw_p45, List.forall_mem_cons.mpr ⟨lw_p46, List.forall_mem_cons.mpr ⟨lw_p47, fun _ h => absurd h List.not_mem_nil⟩⟩⟩⟩⟩⟩⟩⟩⟩⟩⟩⟩⟩⟩⟩⟩
theorem lw_p48 : lw_okq (⟨"MarkerTextModel", "complete", "()V"⟩, 52) := ⟨⟨by decide +kernel, by decide +kernel⟩, List.mem_of_getElem? (i := 1165) (by decide +kernel), List.mem_of_getElem? (i := 1460) (by decide +kernel), List.mem_of_getElem? (i := 1461) (by decide +kernel)⟩
theorem lw_p49 : lw_okq (⟨"MarkerTextModel", "isOnTop", "(I)Z"⟩, 52) := ⟨⟨by decide +kernel, by decide +kernel⟩, List.mem_of_getElem? (i := 1165) (by decide +kernel), List.mem_of_getElem? (i := 1464) (by decide +kernel), List.mem_of_getElem? (i := 1465) (by decide +kernel)⟩
theorem lw_p50 : lw_okq (⟨"MarkerTextModel", "apply", "()V"⟩, 52) := ⟨⟨by decide +kernel, by decide +kernel⟩, List.mem_of_getElem? (i := 1165) (by decide +kernel), List.mem_of_getElem? (i := 1468) (by decide +kernel), List.mem_of_getElem? (i := 1469) (by decide +kernel)⟩
theorem lw_p51 : lw_okq (⟨"MarkerTextModel", "readNext", "()Z"⟩, 52) := ⟨⟨by decide +kernel, by decide +kernel⟩, List.mem_of_getElem? (i := 1165) (by decide +kernel), List.mem_of_getElem? (i := 1472) (by decide +kernel), List.mem_of_getElem? (i := 1473) (by decide +kernel)⟩
theorem lw_p52 : lw_okq (⟨"MarkerTextModel", "isCondition", "(I)Z"⟩, 52) := ⟨⟨by decide +kernel, by decide +kernel⟩, List.mem_of_getElem? (i := 1165) (by decide +kernel), List.mem_of_getElem? (i := 1484) (by decide +kernel), List.mem_of_getElem? (i := 1485) (by decide +kernel)⟩
theorem lw_p53 : lw_okq (⟨"MarkerTextModel", "isHeld", "(IZ)Z"⟩, 52) := ⟨⟨by decide +kernel, by decide +kernel⟩, List.mem_of_getElem? (i := 1165) (by decide +kernel), List.mem_of_getElem? (i := 1488) (by decide +kernel), List.mem_of_getElem? (i := 1489) (by decide +kernel)⟩
theorem lw_p54 : lw_okq (⟨"MarkerTextModel", "isTrue", "(IZ)Z"⟩, 52) := ⟨⟨by decide +kernel, by decide +kernel⟩, List.mem_of_getElem? (i := 1165) (by decide +kernel), List.mem_of_getElem? (i := 1492) (by decide +kernel), List.mem_of_getElem? (i := 1493) (by decide +kernel)⟩
theorem lw_p55 : lw_okq (⟨"MarkerTextModel", "some", "(III)I"⟩, 52) := ⟨⟨by decide +kernel, by decide +kernel⟩, List.mem_of_getElem? (i := 1165) (by decide +kernel), List.mem_of_getElem? (i := 1503) (by decide +kernel), List.mem_of_getElem? (i := 1504) (by decide +kernel)⟩
theorem lw_p56 : lw_okq (⟨"MarkerTextModel", "prepare", "(I)Z"⟩, 52) := ⟨⟨by decide +kernel, by decide +kernel⟩, List.mem_of_getElem? (i := 1165) (by decide +kernel), List.mem_of_getElem? (i := 1507) (by decide +kernel), List.mem_of_getElem? (i := 1508) (by decide +kernel)⟩
theorem lw_p57 : lw_okq (⟨"MarkerTextModel", "gather", "(I)V"⟩, 52) := ⟨⟨by decide +kernel, by decide +kernel⟩, List.mem_of_getElem? (i := 1165) (by decide +kernel), List.mem_of_getElem? (i := 1511) (by decide +kernel), List.mem_of_getElem? (i := 1512) (by decide +kernel)⟩
theorem lw_p58 : lw_okq (⟨"MarkerTextModel", "sort", "(IJ)V"⟩, 52) := ⟨⟨by decide +kernel, by decide +kernel⟩, List.mem_of_getElem? (i := 1165) (by decide +kernel), List.mem_of_getElem? (i := 1515) (by decide +kernel), List.mem_of_getElem? (i := 1516) (by decide +kernel)⟩
theorem lw_p59 : lw_okq (⟨"MarkerTextModel", "samples", "(I)I"⟩, 52) := ⟨⟨by decide +kernel, by decide +kernel⟩, List.mem_of_getElem? (i := 1165) (by decide +kernel), List.mem_of_getElem? (i := 1520) (by decide +kernel), List.mem_of_getElem? (i := 1521) (by decide +kernel)⟩
theorem lw_p60 : lw_okq (⟨"MarkerTextModel", "locate", "(I)V"⟩, 52) := ⟨⟨by decide +kernel, by decide +kernel⟩, List.mem_of_getElem? (i := 1165) (by decide +kernel), List.mem_of_getElem? (i := 1524) (by decide +kernel), List.mem_of_getElem? (i := 1525) (by decide +kernel)⟩
theorem lw_p61 : lw_okq (⟨"MarkerTextModel", "truth", "(I)I"⟩, 52) := ⟨⟨by decide +kernel, by decide +kernel⟩, List.mem_of_getElem? (i := 1165) (by decide +kernel), List.mem_of_getElem? (i := 1528) (by decide +kernel), List.mem_of_getElem? (i := 1529) (by decide +kernel)⟩
theorem lw_p62 : lw_okq (⟨"MarkerTextModel", "advance", "()Z"⟩, 52) := ⟨⟨by decide +kernel, by decide +kernel⟩, List.mem_of_getElem? (i := 1165) (by decide +kernel), List.mem_of_getElem? (i := 1532) (by decide +kernel), List.mem_of_getElem? (i := 1533) (by decide +kernel)⟩
theorem lw_p63 : lw_okq (⟨"MarkerTextModel", "print", "(I)V"⟩, 52) := ⟨⟨by decide +kernel, by decide +kernel⟩, List.mem_of_getElem? (i := 1165) (by decide +kernel), List.mem_of_getElem? (i := 1564) (by decide +kernel), List.mem_of_getElem? (i := 1565) (by decide +kernel)⟩
def lw_privs_4 : List (MethodName × Nat) := [(⟨"MarkerTextModel", "complete", "()V"⟩, 52), (⟨"MarkerTextModel", "isOnTop", "(I)Z"⟩, 52), (⟨"MarkerTextModel", "apply", "()V"⟩, 52), (⟨"MarkerTextModel", "readNext", "()Z"⟩, 52), (⟨"MarkerTextModel", "isCondition", "(I)Z"⟩, 52), (⟨"MarkerTextModel", "isHeld", "(IZ)Z"⟩, 52), (⟨"MarkerTextModel", "isTrue", "(IZ)Z"⟩, 52), (⟨"MarkerTextModel", "some", "(III)I"⟩, 52), (⟨"MarkerTextModel", "prepare", "(I)Z"⟩, 52), (⟨"MarkerTextModel", "gather", "(I)V"⟩, 52), (⟨"MarkerTextModel", "sort", "(IJ)V"⟩, 52), (⟨"MarkerTextModel", "samples", "(I)I"⟩, 52), (⟨"MarkerTextModel", "locate", "(I)V"⟩, 52), (⟨"MarkerTextModel", "truth", "(I)I"⟩, 52), (⟨"MarkerTextModel", "advance", "()Z"⟩, 52), (⟨"MarkerTextModel", "print", "(I)V"⟩, 52)]
theorem lw_r4 : ∀ q ∈ lw_privs_4, lw_okq q := List.forall_mem_cons.mpr ⟨lw_p48, List.forall_mem_cons.mpr ⟨lw_p49, List.forall_mem_cons.mpr ⟨lw_p50, List.forall_mem_cons.mpr ⟨lw_p51, List.forall_mem_cons.mpr ⟨lw_p52, List.forall_mem_cons.mpr ⟨lw_p53, List.forall_mem_cons.mpr ⟨lw_p54, List.forall_mem_cons.mpr ⟨lw_p55, List.forall_mem_cons.mpr ⟨lw_p56, List.forall_mem_cons.mpr ⟨lw_p57, List.forall_mem_cons.mpr ⟨lw_p58, List.forall_mem_cons.mpr ⟨lw_p59, List.forall_mem_cons.mpr ⟨lw_p60, List.forall_mem_cons.mpr ⟨lw_p61, List.forall_mem_cons.mpr ⟨lw_p62, List.forall_mem_cons.mpr ⟨lw_p63, fun _ h => absurd h List.not_mem_nil⟩⟩⟩⟩⟩⟩⟩⟩⟩⟩⟩⟩⟩⟩⟩⟩
theorem lw_p64 : lw_okq (⟨"MarkerTextModel", "later", "(I)V"⟩, 52) := ⟨⟨by decide +kernel, by decide +kernel⟩, List.mem_of_getElem? (i := 1165) (by decide +kernel), List.mem_of_getElem? (i := 1568) (by decide +kernel), List.mem_of_getElem? (i := 1569) (by decide +kernel)⟩
theorem lw_p65 : lw_okq (⟨"MarkerTextModel", "putAll", "(J)V"⟩, 52) := ⟨⟨by decide +kernel, by decide +kernel⟩, List.mem_of_getElem? (i := 1165) (by decide +kernel), List.mem_of_getElem? (i := 1574) (by decide +kernel), List.mem_of_getElem? (i := 1575) (by decide +kernel)⟩
theorem lw_p66 : lw_okq (⟨"MarkerTextModel", "put", "(I)V"⟩, 52) := ⟨⟨by decide +kernel, by decide +kernel⟩, List.mem_of_getElem? (i := 1165) (by decide +kernel), List.mem_of_getElem? (i := 1579) (by decide +kernel), List.mem_of_getElem? (i := 1580) (by decide +kernel)⟩
theorem lw_p67 : lw_okq (⟨"MarkerTextModel", "printTest", "(I)V"⟩, 52) := ⟨⟨by decide +kernel, by decide +kernel⟩, List.mem_of_getElem? (i := 1165) (by decide +kernel), List.mem_of_getElem? (i := 1583) (by decide +kernel), List.mem_of_getElem? (i := 1584) (by decide +kernel)⟩
theorem lw_p68 : lw_okq (⟨"MarkerTextModel", "laterNode", "(IZ)V"⟩, 52) := ⟨⟨by decide +kernel, by decide +kernel⟩, List.mem_of_getElem? (i := 1165) (by decide +kernel), List.mem_of_getElem? (i := 1602) (by decide +kernel), List.mem_of_getElem? (i := 1603) (by decide +kernel)⟩
def lw_privs_5 : List (MethodName × Nat) := [(⟨"MarkerTextModel", "later", "(I)V"⟩, 52), (⟨"MarkerTextModel", "putAll", "(J)V"⟩, 52), (⟨"MarkerTextModel", "put", "(I)V"⟩, 52), (⟨"MarkerTextModel", "printTest", "(I)V"⟩, 52), (⟨"MarkerTextModel", "laterNode", "(IZ)V"⟩, 52)]
theorem lw_r5 : ∀ q ∈ lw_privs_5, lw_okq q := List.forall_mem_cons.mpr ⟨lw_p64, List.forall_mem_cons.mpr ⟨lw_p65, List.forall_mem_cons.mpr ⟨lw_p66, List.forall_mem_cons.mpr ⟨lw_p67, List.forall_mem_cons.mpr ⟨lw_p68, fun _ h => absurd h List.not_mem_nil⟩⟩⟩⟩⟩
def lw_privs : List (MethodName × Nat) := lw_privs_1 ++ (lw_privs_2 ++ (lw_privs_3 ++ (lw_privs_4 ++ (lw_privs_5))))
def lw_tbl : List Cond := k2_sels lw_privs ++ tables_1
theorem lw_privs_ok : ∀ q ∈ lw_privs, lw_okq q := by
  show ∀ q ∈ lw_privs_1 ++ (lw_privs_2 ++ (lw_privs_3 ++ (lw_privs_4 ++ (lw_privs_5)))), lw_okq q
  exact List.forall_mem_append.mpr ⟨lw_r1, List.forall_mem_append.mpr ⟨lw_r2, List.forall_mem_append.mpr ⟨lw_r3, List.forall_mem_append.mpr ⟨lw_r4, lw_r5⟩⟩⟩⟩
-- ===== end of PART A; then your names; then what follows =====
end
section
section XK
/-- which words go along when the tables warm -/
def xgw (w : Cond) : Bool := (w.onTables && w.keeps) || match w with
  | .arrayClass _ => true
  | .fieldLinkNest _ _ _ _ _ _ => true
  | .methodLinkNest _ _ _ _ => true
  | .declares _ => true
  | .castable _ _ => true
  | .arrayOver (.object _) => true
  | _ => false
/-- the words of the tables that a contract carries -/
def xok (w : Cond) : Bool := match w with
  | .arrayClass _ => true
  | .arrayOver (.object _) => true
  | w => w.onTables && xgw w
/-- private methods of a superclass: a receiver of the subclass selects them too -/
def xpriv : List (String × MethodName × MethodName) := [("java/lang/StringBuilder", ⟨"java/lang/AbstractStringBuilder", "isLatin1", "()Z"⟩, ⟨"java/lang/AbstractStringBuilder", "ensureCapacityInternal", "(I)V"⟩), ("java/lang/StringBuilder", ⟨"java/lang/AbstractStringBuilder", "isLatin1", "()Z"⟩, ⟨"java/lang/AbstractStringBuilder", "newCapacity", "(I)I"⟩), ("java/lang/StringBuilder", ⟨"java/lang/AbstractStringBuilder", "isLatin1", "()Z"⟩, ⟨"java/lang/AbstractStringBuilder", "inflate", "()V"⟩), ("java/lang/StringBuilder", ⟨"java/lang/AbstractStringBuilder", "isLatin1", "()Z"⟩, ⟨"java/lang/AbstractStringBuilder", "appendNull", "()Ljava/lang/AbstractStringBuilder;"⟩), ("java/lang/StringBuilder", ⟨"java/lang/AbstractStringBuilder", "isLatin1", "()Z"⟩, ⟨"java/lang/AbstractStringBuilder", "putStringAt", "(ILjava/lang/String;)V"⟩), ("java/lang/StringBuilder", ⟨"java/lang/AbstractStringBuilder", "isLatin1", "()Z"⟩, ⟨"java/lang/AbstractStringBuilder", "inflateIfNeededFor", "(Ljava/lang/String;)V"⟩)]
def xpsel : List Cond := xpriv.map (fun q => Cond.selects q.1 q.2.2 q.2.2)
def xpok (q : String × MethodName × MethodName) : Prop := q.2.1.cls = q.2.2.cls ∧ (q.2.2.cls ≠ "java/lang/invoke/MethodHandle" ∧ q.2.2.cls ≠ "java/lang/invoke/VarHandle") ∧ Cond.selects q.1 q.2.1 q.2.1 ∈ tables_1 ∧ Cond.privateMethod q.2.2 ∈ tables_1 ∧ Cond.instanceMethod q.2.2 ∈ tables_1
theorem xpp0 : xpok ("java/lang/StringBuilder", ⟨"java/lang/AbstractStringBuilder", "isLatin1", "()Z"⟩, ⟨"java/lang/AbstractStringBuilder", "ensureCapacityInternal", "(I)V"⟩) := ⟨rfl, ⟨by decide, by decide⟩, List.mem_of_getElem? (i := 224) (by decide +kernel), List.mem_of_getElem? (i := 187) (by decide +kernel), List.mem_of_getElem? (i := 188) (by decide +kernel)⟩
theorem xpp1 : xpok ("java/lang/StringBuilder", ⟨"java/lang/AbstractStringBuilder", "isLatin1", "()Z"⟩, ⟨"java/lang/AbstractStringBuilder", "newCapacity", "(I)I"⟩) := ⟨rfl, ⟨by decide, by decide⟩, List.mem_of_getElem? (i := 224) (by decide +kernel), List.mem_of_getElem? (i := 191) (by decide +kernel), List.mem_of_getElem? (i := 192) (by decide +kernel)⟩
theorem xpp2 : xpok ("java/lang/StringBuilder", ⟨"java/lang/AbstractStringBuilder", "isLatin1", "()Z"⟩, ⟨"java/lang/AbstractStringBuilder", "inflate", "()V"⟩) := ⟨rfl, ⟨by decide, by decide⟩, List.mem_of_getElem? (i := 224) (by decide +kernel), List.mem_of_getElem? (i := 230) (by decide +kernel), List.mem_of_getElem? (i := 231) (by decide +kernel)⟩
theorem xpp3 : xpok ("java/lang/StringBuilder", ⟨"java/lang/AbstractStringBuilder", "isLatin1", "()Z"⟩, ⟨"java/lang/AbstractStringBuilder", "appendNull", "()Ljava/lang/AbstractStringBuilder;"⟩) := ⟨rfl, ⟨by decide, by decide⟩, List.mem_of_getElem? (i := 224) (by decide +kernel), List.mem_of_getElem? (i := 575) (by decide +kernel), List.mem_of_getElem? (i := 576) (by decide +kernel)⟩
theorem xpp4 : xpok ("java/lang/StringBuilder", ⟨"java/lang/AbstractStringBuilder", "isLatin1", "()Z"⟩, ⟨"java/lang/AbstractStringBuilder", "putStringAt", "(ILjava/lang/String;)V"⟩) := ⟨rfl, ⟨by decide, by decide⟩, List.mem_of_getElem? (i := 224) (by decide +kernel), List.mem_of_getElem? (i := 583) (by decide +kernel), List.mem_of_getElem? (i := 584) (by decide +kernel)⟩
theorem xpp5 : xpok ("java/lang/StringBuilder", ⟨"java/lang/AbstractStringBuilder", "isLatin1", "()Z"⟩, ⟨"java/lang/AbstractStringBuilder", "inflateIfNeededFor", "(Ljava/lang/String;)V"⟩) := ⟨rfl, ⟨by decide, by decide⟩, List.mem_of_getElem? (i := 224) (by decide +kernel), List.mem_of_getElem? (i := 587) (by decide +kernel), List.mem_of_getElem? (i := 588) (by decide +kernel)⟩
theorem xpriv_ok : ∀ q ∈ xpriv, xpok q := List.forall_mem_cons.mpr ⟨xpp0, List.forall_mem_cons.mpr ⟨xpp1, List.forall_mem_cons.mpr ⟨xpp2, List.forall_mem_cons.mpr ⟨xpp3, List.forall_mem_cons.mpr ⟨xpp4, List.forall_mem_cons.mpr ⟨xpp5, fun _ h => absurd h List.not_mem_nil⟩⟩⟩⟩⟩⟩
theorem xpsel_ok {args : Array Value} {s : State} (hts : ∀ w ∈ tables_1, w.before args s = true) : ∀ w ∈ xpsel, w.before args s = true := by
  intro w hw
  obtain ⟨q, hq, rfl⟩ := List.mem_map.mp hw
  obtain ⟨e, hy, h0, hp, hi⟩ := xpriv_ok q hq
  obtain ⟨mk, methM, hnamed, hmethM, -, -⟩ := Cond.instanceMethod_spec (hts _ hi)
  obtain ⟨c2, r2, m2, q1, q2, q3, q4, kP, hkP, hkPi⟩ := Cond.selects_spec (hts _ h0)
  have hfound : s.methodFound? q.2.2.cls q.2.2.name q.2.2.desc = some mk := State.methodFound?_of_named hnamed hy
  have hm2 : m2.cls = mk.cls := Option.some.inj ((findClass_of_methodNamed q3).symm.trans (by rw [e]; exact findClass_of_methodNamed hnamed))
  rw [hm2] at hkP
  have hsel : selectMethod {} s.vm c2 mk = .method mk := selectMethod_private hmethM (Cond.privateMethod_at (hts _ hp) mk methM hnamed hmethM)
  simp only [Cond.before, Cond.holds, Cond.value, q1, hfound, hnamed, hsel, hkP]
  simp; exact hkPi
def xT : List Cond := (xpsel ++ lw_tbl).filter xok
theorem xok_or {w : Cond} (h : xok w = true) : (w.onTables = true ∧ xgw w = true) ∨ (∃ ty, w = .arrayClass ty) ∨ ∃ C, w = .arrayOver (.object C) := by
  unfold xok at h
  split at h
  · exact Or.inr (Or.inl ⟨_, rfl⟩)
  · exact Or.inr (Or.inr ⟨_, rfl⟩)
  · exact Or.inl (Bool.and_eq_true_iff.mp h)
theorem xT_or {w : Cond} (h : w ∈ xT) : (w.onTables = true ∧ xgw w = true) ∨ (∃ ty, w = .arrayClass ty) ∨ ∃ C, w = .arrayOver (.object C) := xok_or (List.mem_filter.mp h).2
/-- a word at the same tables, whatever the arguments -/
theorem xT_same {w : Cond} (h : w ∈ xT) {s U : State} {a b : Array Value} (hv : s.vm = U.vm) (hw : w.before a s = true) : w.before b U = true := by
  rcases xT_or h with ⟨q, -⟩ | ⟨ty, rfl⟩ | ⟨C, rfl⟩
  · exact va_tabs q hv hw
  · exact word_at (by rw [← hv]; exact State.WarmedH.refl s) (Or.inr ⟨_, rfl⟩) hw
  · exact va_AO.moved (by rw [hv]; exact Vm.Alike.refl _) hw
theorem xT_tbl {w : Cond} (h : w ∈ tables_1) (hg : xok w = true) : w ∈ xT := List.mem_filter.mpr ⟨List.mem_append_right _ (List.mem_append_right _ h), hg⟩
theorem xT_ps {w : Cond} (h : w ∈ xpsel) (hg : xok w = true) : w ∈ xT := List.mem_filter.mpr ⟨List.mem_append_left _ h, hg⟩
theorem xT_at {w : Cond} (i : Nat) (h : tables_1[i]? = some w) (hg : xok w = true) : w ∈ xT := xT_tbl (List.mem_of_getElem? h) hg
theorem xT_sel {q : MethodName × Nat} (h : q ∈ lw_privs) (hg : xok (Cond.selects q.1.cls q.1 q.1) = true) : Cond.selects q.1.cls q.1 q.1 ∈ xT := List.mem_filter.mpr ⟨List.mem_append_right _ (List.mem_append_left _ (List.mem_map.mpr ⟨q, h, rfl⟩)), hg⟩
theorem xT_many (ps : List Nat) (ws : List Cond) (h : ws.map some = ps.map (fun i => tables_1[i]?)) (hg : ws.all xok = true) : ∀ w ∈ ws, w ∈ xT := by
  intro w hw
  refine xT_tbl ?_ (List.all_eq_true.mp hg w hw)
  have h1 : some w ∈ ps.map (fun i => tables_1[i]?) := by rw [← h]; exact List.mem_map.mpr ⟨w, hw, rfl⟩
  obtain ⟨i, -, hi⟩ := List.mem_map.mp h1
  exact List.mem_of_getElem? hi
abbrev R_MarkerText : String := "MarkerText"
def T_MarkerText : u_T := fun k => match k with
  | 0 => ("MarkerText", "text", "Ljava/lang/StringBuilder;", true)
  | 1 => ("MarkerText", "names", "[LMarkerText$Name;", true)
  | 2 => ("MarkerText", "nameCount", "I", false)
  | 3 => ("MarkerText", "conditions", "[LMarkerText$Condition;", true)
  | 4 => ("MarkerText", "conditionCount", "I", false)
  | 5 => ("MarkerText", "illPlace", "I", false)
  | 6 => ("MarkerText", "environment", "[J", true)
  | 7 => ("MarkerText", "choices", "LMarkerText$Choices;", true)
  | _ => ("MarkerText", "parting", "LMarkerText$Parting;", true)
abbrev k_MarkerText : Nat := 0
abbrev R_StringBuilder : String := "java/lang/StringBuilder"
def T_StringBuilder : u_T := fun k => match k with
  | 0 => ("java/lang/AbstractStringBuilder", "value", "[B", false)
  | 1 => ("java/lang/AbstractStringBuilder", "coder", "B", false)
  | 2 => ("java/lang/AbstractStringBuilder", "maybeLatin1", "Z", false)
  | _ => ("java/lang/AbstractStringBuilder", "count", "I", false)
abbrev k_StringBuilder : Nat := 1
abbrev R_Choices : String := "MarkerText$Choices"
def T_Choices : u_T := fun k => match k with
  | 0 => ("MarkerText$Choices", "values", "[J", true)
  | 1 => ("MarkerText$Choices", "used", "I", false)
  | 2 => ("MarkerText$Choices", "starts", "[I", true)
  | 3 => ("MarkerText$Choices", "samples", "[I", true)
  | 4 => ("MarkerText$Choices", "picks", "[I", true)
  | 5 => ("MarkerText$Choices", "levels", "[J", true)
  | _ => ("MarkerText$Choices", "count", "I", false)
abbrev k_Choices : Nat := 2
abbrev R_Parting : String := "MarkerText$Parting"
def T_Parting : u_T := fun k => match k with
  | 0 => ("MarkerText$Parting", "count", "I", false)
  | 1 => ("MarkerText$Parting", "truths", "[I", true)
  | 2 => ("MarkerText$Parting", "sizes", "[I", true)
  | 3 => ("MarkerText$Parting", "firsts", "[I", true)
  | 4 => ("MarkerText$Parting", "classOfTruths", "[I", true)
  | _ => ("MarkerText$Parting", "samples", "[I", true)
abbrev k_Parting : Nat := 3
abbrev R_String : String := "java/lang/String"
def T_String : u_T := fun k => match k with
  | 0 => ("java/lang/String", "value", "[B", true)
  | 1 => ("java/lang/String", "coder", "B", true)
  | 2 => ("java/lang/String", "hash", "I", false)
  | _ => ("java/lang/String", "hashIsZero", "Z", false)
abbrev k_String : Nat := 4
abbrev R_IllegalArgumentException : String := "java/lang/IllegalArgumentException"
def T_IllegalArgumentException : u_T := fun k => match k with
  | 0 => ("java/lang/Throwable", "cause", "Ljava/lang/Throwable;", false)
  | 1 => ("java/lang/Throwable", "stackTrace", "[Ljava/lang/StackTraceElement;", false)
  | 2 => ("java/lang/Throwable", "suppressedExceptions", "Ljava/util/List;", false)
  | 3 => ("java/lang/Throwable", "detailMessage", "Ljava/lang/String;", false)
  | 4 => ("java/lang/Throwable", "backtrace", "Ljava/lang/Object;", false)
  | _ => ("java/lang/Throwable", "depth", "I", false)
abbrev k_IllegalArgumentException : Nat := 5
abbrev R_IllegalStateException : String := "java/lang/IllegalStateException"
def T_IllegalStateException : u_T := fun k => match k with
  | 0 => ("java/lang/Throwable", "cause", "Ljava/lang/Throwable;", false)
  | 1 => ("java/lang/Throwable", "stackTrace", "[Ljava/lang/StackTraceElement;", false)
  | 2 => ("java/lang/Throwable", "suppressedExceptions", "Ljava/util/List;", false)
  | 3 => ("java/lang/Throwable", "detailMessage", "Ljava/lang/String;", false)
  | 4 => ("java/lang/Throwable", "backtrace", "Ljava/lang/Object;", false)
  | _ => ("java/lang/Throwable", "depth", "I", false)
abbrev k_IllegalStateException : Nat := 6
abbrev R_Name : String := "MarkerText$Name"
def T_Name : u_T := fun k => match k with
  | 0 => ("MarkerText$Name", "spelling", "Ljava/lang/String;", true)
  | 1 => ("MarkerText$Name", "kind", "I", true)
  | 2 => ("MarkerText$Name", "known", "[J", true)
  | _ => ("MarkerText$Name", "knownCount", "I", false)
abbrev k_Name : Nat := 7
abbrev R_Reader : String := "MarkerText$Reader"
def T_Reader : u_T := fun k => match k with
  | 0 => ("MarkerText$Reader", "text", "Ljava/lang/String;", true)
  | 1 => ("MarkerText$Reader", "names", "[LMarkerText$Name;", true)
  | 2 => ("MarkerText$Reader", "tests", "Ljava/util/ArrayList;", true)
  | 3 => ("MarkerText$Reader", "line", "Ljava/lang/StringBuilder;", true)
  | 4 => ("MarkerText$Reader", "at", "I", false)
  | 5 => ("MarkerText$Reader", "open", "I", false)
  | _ => ("MarkerText$Reader", "testCount", "I", false)
abbrev k_Reader : Nat := 8
abbrev R_ArrayList : String := "java/util/ArrayList"
def T_ArrayList : u_T := fun k => match k with
  | 0 => ("java/util/ArrayList", "elementData", "[Ljava/lang/Object;", false)
  | 1 => ("java/util/ArrayList", "size", "I", false)
  | _ => ("java/util/AbstractList", "modCount", "I", false)
abbrev k_ArrayList : Nat := 9
abbrev R_Negation : String := "MarkerText$Negation"
def T_Negation : u_T := fun k => match k with
  | 0 => ("MarkerText$Negation", "inner", "LMarkerText$Node;", true)
  | _ => ("MarkerText$Node", "strength", "I", true)
abbrev k_Negation : Nat := 10
abbrev R_Constant : String := "MarkerText$Constant"
def T_Constant : u_T := fun k => match k with
  | 0 => ("MarkerText$Constant", "truth", "Z", true)
  | _ => ("MarkerText$Node", "strength", "I", true)
abbrev k_Constant : Nat := 11
abbrev R_Test : String := "MarkerText$Test"
def T_Test : u_T := fun k => match k with
  | 0 => ("MarkerText$Test", "name", "I", true)
  | 1 => ("MarkerText$Test", "accepted", "I", true)
  | 2 => ("MarkerText$Test", "values", "[J", true)
  | 3 => ("MarkerText$Test", "shown", "Ljava/lang/String;", true)
  | _ => ("MarkerText$Node", "strength", "I", true)
abbrev k_Test : Nat := 12
abbrev R_Join : String := "MarkerText$Join"
def T_Join : u_T := fun k => match k with
  | 0 => ("MarkerText$Join", "first", "LMarkerText$Node;", true)
  | 1 => ("MarkerText$Join", "second", "LMarkerText$Node;", true)
  | _ => ("MarkerText$Node", "strength", "I", true)
abbrev k_Join : Nat := 13
abbrev R_Condition : String := "MarkerText$Condition"
def T_Condition : u_T := fun k => match k with
  | 0 => ("MarkerText$Condition", "root", "LMarkerText$Node;", true)
  | 1 => ("MarkerText$Condition", "tests", "Ljava/util/ArrayList;", true)
  | _ => ("MarkerText$Condition", "shown", "Ljava/lang/String;", true)
abbrev k_Condition : Nat := 14
abbrev R_MarkerTextModel : String := "MarkerTextModel"
def T_MarkerTextModel : u_T := fun k => match k with
  | 0 => ("MarkerTextModel", "thrown", "I", false)
  | 1 => ("MarkerTextModel", "text", "[I", true)
  | 2 => ("MarkerTextModel", "size", "I", false)
  | 3 => ("MarkerTextModel", "names", "I", false)
  | 4 => ("MarkerTextModel", "letters", "[I", true)
  | 5 => ("MarkerTextModel", "lengths", "[I", true)
  | 6 => ("MarkerTextModel", "kinds", "[I", true)
  | 7 => ("MarkerTextModel", "knownMany", "[I", true)
  | 8 => ("MarkerTextModel", "known", "[J", true)
  | 9 => ("MarkerTextModel", "given", "[Z", true)
  | 10 => ("MarkerTextModel", "gives", "[J", true)
  | 11 => ("MarkerTextModel", "conditions", "I", false)
  | 12 => ("MarkerTextModel", "nodeKinds", "[I", true)
  | 13 => ("MarkerTextModel", "lefts", "[I", true)
  | 14 => ("MarkerTextModel", "rights", "[I", true)
  | 15 => ("MarkerTextModel", "nodes", "[I", true)
  | 16 => ("MarkerTextModel", "tops", "[I", true)
  | 17 => ("MarkerTextModel", "testNames", "[I", true)
  | 18 => ("MarkerTextModel", "operators", "[I", true)
  | 19 => ("MarkerTextModel", "firsts", "[I", true)
  | 20 => ("MarkerTextModel", "manies", "[I", true)
  | 21 => ("MarkerTextModel", "tests", "[I", true)
  | 22 => ("MarkerTextModel", "keys", "[J", true)
  | 23 => ("MarkerTextModel", "written", "[I", true)
  | 24 => ("MarkerTextModel", "writtenSizes", "[I", true)
  | 25 => ("MarkerTextModel", "places", "[I", true)
  | 26 => ("MarkerTextModel", "values", "[I", true)
  | 27 => ("MarkerTextModel", "at", "I", false)
  | 28 => ("MarkerTextModel", "slot", "I", false)
  | 29 => ("MarkerTextModel", "wrong", "I", false)
  | 30 => ("MarkerTextModel", "place", "I", false)
  | 31 => ("MarkerTextModel", "piles", "[I", true)
  | 32 => ("MarkerTextModel", "pile", "I", false)
  | 33 => ("MarkerTextModel", "opens", "I", false)
  | 34 => ("MarkerTextModel", "ready", "[I", true)
  | 35 => ("MarkerTextModel", "readyMany", "I", false)
  | 36 => ("MarkerTextModel", "key", "J", false)
  | 37 => ("MarkerTextModel", "sorted", "[J", true)
  | 38 => ("MarkerTextModel", "many", "[I", true)
  | 39 => ("MarkerTextModel", "asked", "[Z", true)
  | 40 => ("MarkerTextModel", "choice", "[I", true)
  | 41 => ("MarkerTextModel", "truths", "[Z", true)
  | 42 => ("MarkerTextModel", "classes", "I", false)
  | 43 => ("MarkerTextModel", "classSet", "I", false)
  | 44 => ("MarkerTextModel", "classNames", "I", false)
  | 45 => ("MarkerTextModel", "classBits", "[I", true)
  | 46 => ("MarkerTextModel", "classMany", "[I", true)
  | 47 => ("MarkerTextModel", "classSamples", "[I", true)
  | 48 => ("MarkerTextModel", "print", "[I", true)
  | 49 => ("MarkerTextModel", "printed", "I", false)
  | 50 => ("MarkerTextModel", "todo", "[I", true)
  | _ => ("MarkerTextModel", "todoMany", "I", false)
abbrev k_MarkerTextModel : Nat := 15
abbrev k_abyte : Nat := 16
abbrev k_aint : Nat := 17
abbrev k_along : Nat := 18
abbrev k_aboolean : Nat := 19
abbrev k_aName : Nat := 20
abbrev k_aCondition : Nat := 21
abbrev k_aObject : Nat := 22
abbrev k_asbyte : Nat := 23
abbrev k_aenv : Nat := 24
abbrev k_aknown : Nat := 25
abbrev k_avals : Nat := 26
abbrev k_achv : Nat := 27
abbrev k_achl : Nat := 28
abbrev k_astarts : Nat := 29
abbrev k_asamples : Nat := 30
abbrev k_apicks : Nat := 31
abbrev k_aptr : Nat := 32
abbrev k_apsz : Nat := 33
abbrev k_apfi : Nat := 34
abbrev k_apcl : Nat := 35
abbrev k_apsa : Nat := 36
def xk : List (vw_C ⊕ FieldType) := [.inl (R_MarkerText, T_MarkerText, 9), .inl (R_StringBuilder, T_StringBuilder, 4), .inl (R_Choices, T_Choices, 7), .inl (R_Parting, T_Parting, 6), .inl (R_String, T_String, 4), .inl (R_IllegalArgumentException, T_IllegalArgumentException, 6), .inl (R_IllegalStateException, T_IllegalStateException, 6), .inl (R_Name, T_Name, 4), .inl (R_Reader, T_Reader, 7), .inl (R_ArrayList, T_ArrayList, 3), .inl (R_Negation, T_Negation, 2), .inl (R_Constant, T_Constant, 2), .inl (R_Test, T_Test, 5), .inl (R_Join, T_Join, 3), .inl (R_Condition, T_Condition, 3), .inl (R_MarkerTextModel, T_MarkerTextModel, 52), .inr (.byte), .inr (.int), .inr (.long), .inr (.boolean), .inr (.object "MarkerText$Name"), .inr (.object "MarkerText$Condition"), .inr (.object "java/lang/Object"), .inr (.byte), .inr (.long), .inr (.long), .inr (.long), .inr (.long), .inr (.long), .inr (.int), .inr (.int), .inr (.int), .inr (.int), .inr (.int), .inr (.int), .inr (.int), .inr (.int)]
def xkP : vw_C ⊕ FieldType → Prop
  | .inl q => (∀ w ∈ u_ws q.1 q.2.1 q.2.2, w ∈ xT) ∧ (∀ j, j < q.2.2 → (parseFieldDescriptor (q.2.1 j).2.2.1).isSome = true) ∧ (∀ a, a < q.2.2 → ∀ b, b < q.2.2 → a ≠ b → (q.2.1 a).2.1 ≠ (q.2.1 b).2.1)
  | .inr _ => True
theorem xkp_MarkerText : xkP (.inl (R_MarkerText, T_MarkerText, 9)) := ⟨xT_many [149, 151, 153, 155, 157, 159, 161, 163, 165] _ (by decide +kernel) (by decide +kernel), by decide +kernel, by decide +kernel⟩
theorem xkp_StringBuilder : xkP (.inl (R_StringBuilder, T_StringBuilder, 4)) := ⟨xT_many [65, 67, 69, 71] _ (by decide +kernel) (by decide +kernel), by decide +kernel, by decide +kernel⟩
theorem xkp_Choices : xkP (.inl (R_Choices, T_Choices, 7)) := ⟨xT_many [95, 97, 99, 101, 103, 105, 107] _ (by decide +kernel) (by decide +kernel), by decide +kernel, by decide +kernel⟩
theorem xkp_Parting : xkP (.inl (R_Parting, T_Parting, 6)) := ⟨xT_many [127, 129, 131, 133, 135, 137] _ (by decide +kernel) (by decide +kernel), by decide +kernel, by decide +kernel⟩
theorem xkp_String : xkP (.inl (R_String, T_String, 4)) := ⟨xT_many [635, 637, 639, 641] _ (by decide +kernel) (by decide +kernel), by decide +kernel, by decide +kernel⟩
theorem xkp_IllegalArgumentException : xkP (.inl (R_IllegalArgumentException, T_IllegalArgumentException, 6)) := ⟨xT_many [501, 503, 505, 507, 509, 619] _ (by decide +kernel) (by decide +kernel), by decide +kernel, by decide +kernel⟩
theorem xkp_IllegalStateException : xkP (.inl (R_IllegalStateException, T_IllegalStateException, 6)) := ⟨xT_many [702, 703, 704, 705, 706, 712] _ (by decide +kernel) (by decide +kernel), by decide +kernel, by decide +kernel⟩
theorem xkp_Name : xkP (.inl (R_Name, T_Name, 4)) := ⟨xT_many [728, 730, 732, 734] _ (by decide +kernel) (by decide +kernel), by decide +kernel, by decide +kernel⟩
theorem xkp_Reader : xkP (.inl (R_Reader, T_Reader, 7)) := ⟨xT_many [865, 867, 869, 871, 873, 875, 877] _ (by decide +kernel) (by decide +kernel), by decide +kernel, by decide +kernel⟩
theorem xkp_ArrayList : xkP (.inl (R_ArrayList, T_ArrayList, 3)) := ⟨xT_many [848, 850, 852] _ (by decide +kernel) (by decide +kernel), by decide +kernel, by decide +kernel⟩
theorem xkp_Negation : xkP (.inl (R_Negation, T_Negation, 2)) := ⟨xT_many [951, 953] _ (by decide +kernel) (by decide +kernel), by decide +kernel, by decide +kernel⟩
theorem xkp_Constant : xkP (.inl (R_Constant, T_Constant, 2)) := ⟨xT_many [970, 972] _ (by decide +kernel) (by decide +kernel), by decide +kernel, by decide +kernel⟩
theorem xkp_Test : xkP (.inl (R_Test, T_Test, 5)) := ⟨xT_many [1025, 1027, 1029, 1031, 1033] _ (by decide +kernel) (by decide +kernel), by decide +kernel, by decide +kernel⟩
theorem xkp_Join : xkP (.inl (R_Join, T_Join, 3)) := ⟨xT_many [1093, 1095, 1097] _ (by decide +kernel) (by decide +kernel), by decide +kernel, by decide +kernel⟩
theorem xkp_Condition : xkP (.inl (R_Condition, T_Condition, 3)) := ⟨xT_many [1147, 1149, 1151] _ (by decide +kernel) (by decide +kernel), by decide +kernel, by decide +kernel⟩
theorem xkp_MarkerTextModel : xkP (.inl (R_MarkerTextModel, T_MarkerTextModel, 52)) := ⟨xT_many [1222, 1224, 1226, 1228, 1230, 1232, 1234, 1236, 1238, 1240, 1242, 1244, 1246, 1248, 1250, 1252, 1254, 1256, 1258, 1260, 1262, 1264, 1266, 1268, 1270, 1272, 1274, 1276, 1278, 1280, 1282, 1284, 1286, 1288, 1290, 1292, 1294, 1296, 1298, 1300, 1302, 1304, 1306, 1308, 1310, 1312, 1314, 1316, 1318, 1320, 1322, 1324] _ (by decide +kernel) (by decide +kernel), by decide +kernel, by decide +kernel⟩
theorem xk_all : ∀ e ∈ xk, xkP e := List.forall_mem_cons.mpr ⟨xkp_MarkerText, List.forall_mem_cons.mpr ⟨xkp_StringBuilder, List.forall_mem_cons.mpr ⟨xkp_Choices, List.forall_mem_cons.mpr ⟨xkp_Parting, List.forall_mem_cons.mpr ⟨xkp_String, List.forall_mem_cons.mpr ⟨xkp_IllegalArgumentException, List.forall_mem_cons.mpr ⟨xkp_IllegalStateException, List.forall_mem_cons.mpr ⟨xkp_Name, List.forall_mem_cons.mpr ⟨xkp_Reader, List.forall_mem_cons.mpr ⟨xkp_ArrayList, List.forall_mem_cons.mpr ⟨xkp_Negation, List.forall_mem_cons.mpr ⟨xkp_Constant, List.forall_mem_cons.mpr ⟨xkp_Test, List.forall_mem_cons.mpr ⟨xkp_Join, List.forall_mem_cons.mpr ⟨xkp_Condition, List.forall_mem_cons.mpr ⟨xkp_MarkerTextModel, List.forall_mem_cons.mpr ⟨trivial, List.forall_mem_cons.mpr ⟨trivial, List.forall_mem_cons.mpr ⟨trivial, List.forall_mem_cons.mpr ⟨trivial, List.forall_mem_cons.mpr ⟨trivial, List.forall_mem_cons.mpr ⟨trivial, List.forall_mem_cons.mpr ⟨trivial, List.forall_mem_cons.mpr ⟨trivial, List.forall_mem_cons.mpr ⟨trivial, List.forall_mem_cons.mpr ⟨trivial, List.forall_mem_cons.mpr ⟨trivial, List.forall_mem_cons.mpr ⟨trivial, List.forall_mem_cons.mpr ⟨trivial, List.forall_mem_cons.mpr ⟨trivial, List.forall_mem_cons.mpr ⟨trivial, List.forall_mem_cons.mpr ⟨trivial, List.forall_mem_cons.mpr ⟨trivial, List.forall_mem_cons.mpr ⟨trivial, List.forall_mem_cons.mpr ⟨trivial, List.forall_mem_cons.mpr ⟨trivial, List.forall_mem_cons.mpr ⟨trivial, fun _ h => absurd h List.not_mem_nil⟩⟩⟩⟩⟩⟩⟩⟩⟩⟩⟩⟩⟩⟩⟩⟩⟩⟩⟩⟩⟩⟩⟩⟩⟩⟩⟩⟩⟩⟩⟩⟩⟩⟩⟩⟩⟩
theorem xk_lay {k : Nat} {C : String} {T : u_T} {N : Nat} (h : xk[k]? = some (.inl (C, T, N))) : ∀ w ∈ u_ws C T N, w ∈ xT := (xk_all _ (List.mem_of_getElem? h)).1
theorem xk_ty {k : Nat} {C : String} {T : u_T} {N : Nat} (h : xk[k]? = some (.inl (C, T, N))) : ∀ j, j < N → ∃ ty, parseFieldDescriptor (T j).2.2.1 = some ty := fun j hj => Option.isSome_iff_exists.mp ((xk_all _ (List.mem_of_getElem? h)).2.1 j hj)
theorem xk_nm {k : Nat} {C : String} {T : u_T} {N : Nat} (h : xk[k]? = some (.inl (C, T, N))) : ∀ a, a < N → ∀ b, b < N → a ≠ b → (T a).2.1 ≠ (T b).2.1 := (xk_all _ (List.mem_of_getElem? h)).2.2
/-- the String constants: whose pool, which entry, the text, our number for it -/
def xStr : List (String × Nat × String × Nat) := [("java/util/Arrays", 337, " > ", 0), ("java/util/Arrays", 48, "fromIndex(", 1), ("java/util/Arrays", 57, ") > toIndex(", 2), ("java/util/Arrays", 59, ")", 3), ("MarkerText", 216, "or", 4), ("MarkerText", 222, "and", 5), ("MarkerText", 224, "not", 6), ("MarkerText", 226, "in", 7), ("MarkerText", 228, "true", 8), ("MarkerText", 230, "false", 9), ("MarkerText", 78, "no new name", 10), ("MarkerText", 83, "no such kind", 11), ("MarkerText", 87, "too many names", 12), ("MarkerText", 97, "no such name", 13), ("MarkerText$Name", 33, ".0123456789abcdefghijklmnopqrstuvwxyz", 14), ("MarkerText", 110, "no new value of the name's kind", 15), ("MarkerText", 115, "too many known values", 16), ("java/lang/StringLatin1", 151, "", 17), ("java/lang/StringUTF16", 295, "", 18), ("MarkerText$Reader", 95, "not", 19), ("MarkerText$Reader", 109, "true", 20), ("MarkerText$Reader", 111, "false", 21), ("MarkerText$Reader", 146, "in", 22), ("MarkerText$Reader", 176, ", ", 23), ("MarkerText$Reader", 79, "or", 24), ("MarkerText$Reader", 81, "and", 25), ("MarkerText$Constant", 13, "true", 26), ("MarkerText$Constant", 15, "false", 27), ("MarkerText$Negation", 17, "not ", 28), ("MarkerText$Join", 29, " or ", 29), ("MarkerText$Join", 31, " and ", 30), ("MarkerText", 133, "the text is ill", 31), ("MarkerText", 135, "too many conditions", 32), ("MarkerText", 141, "no value of the name's kind", 33)]
/-- the texts of the String constants, by their numbers -/
def xtx : Nat → List Nat
  | 0 => [32, 62, 32]
  | 1 => [102, 114, 111, 109, 73, 110, 100, 101, 120, 40]
  | 2 => [41, 32, 62, 32, 116, 111, 73, 110, 100, 101, 120, 40]
  | 3 => [41]
  | 4 => [111, 114]
  | 5 => [97, 110, 100]
  | 6 => [110, 111, 116]
  | 7 => [105, 110]
  | 8 => [116, 114, 117, 101]
  | 9 => [102, 97, 108, 115, 101]
  | 10 => [110, 111, 32, 110, 101, 119, 32, 110, 97, 109, 101]
  | 11 => [110, 111, 32, 115, 117, 99, 104, 32, 107, 105, 110, 100]
  | 12 => [116, 111, 111, 32, 109, 97, 110, 121, 32, 110, 97, 109, 101, 115]
  | 13 => [110, 111, 32, 115, 117, 99, 104, 32, 110, 97, 109, 101]
  | 14 => [46, 48, 49, 50, 51, 52, 53, 54, 55, 56, 57, 97, 98, 99, 100, 101, 102, 103, 104, 105, 106, 107, 108, 109, 110, 111, 112, 113, 114, 115, 116, 117, 118, 119, 120, 121, 122]
  | 15 => [110, 111, 32, 110, 101, 119, 32, 118, 97, 108, 117, 101, 32, 111, 102, 32, 116, 104, 101, 32, 110, 97, 109, 101, 39, 115, 32, 107, 105, 110, 100]
  | 16 => [116, 111, 111, 32, 109, 97, 110, 121, 32, 107, 110, 111, 119, 110, 32, 118, 97, 108, 117, 101, 115]
  | 17 => []
  | 18 => []
  | 19 => [110, 111, 116]
  | 20 => [116, 114, 117, 101]
  | 21 => [102, 97, 108, 115, 101]
  | 22 => [105, 110]
  | 23 => [44, 32]
  | 24 => [111, 114]
  | 25 => [97, 110, 100]
  | 26 => [116, 114, 117, 101]
  | 27 => [102, 97, 108, 115, 101]
  | 28 => [110, 111, 116, 32]
  | 29 => [32, 111, 114, 32]
  | 30 => [32, 97, 110, 100, 32]
  | 31 => [116, 104, 101, 32, 116, 101, 120, 116, 32, 105, 115, 32, 105, 108, 108]
  | 32 => [116, 111, 111, 32, 109, 97, 110, 121, 32, 99, 111, 110, 100, 105, 116, 105, 111, 110, 115]
  | 33 => [110, 111, 32, 118, 97, 108, 117, 101, 32, 111, 102, 32, 116, 104, 101, 32, 110, 97, 109, 101, 39, 115, 32, 107, 105, 110, 100]
  | _ => []
abbrev xnstr : Nat := 34
abbrev xCB : Nat := 600002
abbrev xSB : Nat := 7302232
end XK
end
section
/-! A SMALL MACHINE OVER THE KIT'S: cells as lists of values, a heap as a function, budgets as two numbers. XW: from this frame the method comes to its end with P. XM: a method's contract at one start. -/
section XC
/-- our cells: address to kind and contents -/
abbrev XH : Type := Nat → Option (Nat × List Value)
/-- class numbers and slots; where our cells begin; the cells that stay as they are; the places of strings and statics -/
abbrev XG : Type := va_G × Nat × XH × (Nat → Nat) × (Nat → Value)
/-- a method: its name, its code, how many locals, what it returns -/
abbrev XMt : Type := MethodName × ByteArray × Nat × Option FieldType
/-- the statics that are read: class, name, descriptor, value -/
def xSta (G : XG) : List (String × String × String × Value) := [("java/lang/String", "COMPACT_STRINGS", "Z", .int 1), ("java/lang/StringUTF16", "$assertionsDisabled", "Z", .int 1), ("java/lang/StringUTF16", "HI_BYTE_SHIFT", "I", .int 0), ("java/lang/StringUTF16", "LO_BYTE_SHIFT", "I", .int 8), ("java/util/ArrayList", "DEFAULTCAPACITY_EMPTY_ELEMENTDATA", "[Ljava/lang/Object;", .ref (G.2.2.2.1 100)), ("jdk/internal/util/Preconditions", "SIOOBE_FORMATTER", "Ljava/util/function/BiFunction;", G.2.2.2.2 0), ("java/lang/Throwable", "UNASSIGNED_STACK", "[Ljava/lang/StackTraceElement;", G.2.2.2.2 1), ("java/lang/Throwable", "SUPPRESSED_SENTINEL", "Ljava/util/List;", G.2.2.2.2 2)]
abbrev xA (G : XG) : Nat → Prop := fun q => G.2.1 ≤ q
def xarr (k : Nat) : Bool := match xk[k]? with
  | some (.inr _) => true
  | _ => false
def xN (k : Nat) : Nat := match xk[k]? with
  | some (.inl q) => q.2.2
  | _ => 0
def xcell (D : va_G) (k : Nat) (vs : List Value) (cell : Cell) : Prop := cell.cls = D.1 k ∧ (∀ (j : Nat) (v : Value), vs[j]? = some v → (xarr k = true ∨ j < xN k) ∧ cell.slots[D.2 k j]? = some v) ∧ (xarr k = true → cell.slots.size = vs.length)
/-- a cell that stays: of an array's class and size no more is known than what an instruction asks -/
def xcellW (D : va_G) (U : State) (k : Nat) (vs : List Value) (cell : Cell) : Prop := (xarr k = false → cell.cls = D.1 k) ∧ (∀ (j : Nat) (v : Value), vs[j]? = some v → (xarr k = true ∨ j < xN k) ∧ cell.slots[D.2 k j]? = some v) ∧ (∀ ty, xk[k]? = some (.inr ty) → U.isArrayOf cell ty ∧ vs.length ≤ cell.slots.size ∧ cell.slots.size.toInt32 = Int32.ofNat vs.length)
theorem xcellW.moved {D : va_G} {u U : State} {k : Nat} {vs : List Value} {cell : Cell} (hvm : u.vm.Alike U.vm) (h : xcellW D u k vs cell) : xcellW D U k vs cell := ⟨h.1, h.2.1, fun ty ht => ⟨State.isArrayOf_alike hvm (h.2.2 ty ht).1, (h.2.2 ty ht).2⟩⟩
def xhp (G : XG) (h : XH) (H : Heap) : Prop := ∀ (a k : Nat) (vs : List Value), h a = some (k, vs) → G.2.1 ≤ a ∧ ∃ cell : Cell, H[a]? = some cell ∧ cell.vm = .none ∧ xcell G.1 k vs cell
def xkh (G : XG) (U : State) (H : Heap) : Prop := ∀ (a k : Nat) (vs : List Value), G.2.2.1 a = some (k, vs) → a < G.2.1 ∧ ∃ cell : Cell, H[a]? = some cell ∧ cell.vm ≠ .unknown ∧ cell.vm.isStatics = false ∧ xcellW G.1 U k vs cell
/-- the kinds: what the tables say of each -/
def xK (D : va_G) (U : State) : Prop := ∀ (k : Nat) (r : vw_C ⊕ FieldType), xk[k]? = some r → match r with
  | .inl q => u_Kn U q.1 q.2.1 q.2.2 (D.1 k) (D.2 k)
  | .inr ty => ArrOfT U (D.1 k) ty ∧ va_RA U (D.1 k) ty ∧ ∀ j : Nat, D.2 k j = j
/-- a static field, as its class lays it -/
def xLs (A : Nat → Prop) (U : State) (H : Heap) (q : String × String × String) : Prop := ∃ (c : ClassId) (k : Class) (i : Nat) (f : Field) (a : Nat) (cell : Cell), U.vm.findClass q.1 = some c ∧ U.fieldFound? q.1 q.2.1 q.2.2 = some (c, k, i, f) ∧ f.isStatic = true ∧ k.statics = some a ∧ H[a]? = some cell ∧ cell.vm.isStatics = true ∧ cell.cls = c ∧ f.slot < cell.slots.size ∧ k.staticTypes[f.slot]? = some f.type ∧ ¬ A a
theorem xLs.moved {A : Nat → Prop} {u U : State} {H : Heap} {q : String × String × String} (hvm : u.vm.Alike U.vm) (h : xLs A u H q) : xLs A U H q := by
  obtain ⟨c, k, i, f, a, cell, h1, h2, h3, h4, h5, h6, h7, h8, h9, h10⟩ := h
  obtain ⟨k', hi', he⟩ := State.fieldFound?_setVm hvm h2
  exact ⟨c, k', i, f, a, cell, by rw [hvm.findClass]; exact h1, hi', h3, by rw [he]; exact h4, h5, h6, h7, h8, by rw [he]; exact h9, h10⟩
theorem xLs.kept {A : Nat → Prop} {U : State} {H H1 : Heap} {q : String × String × String} (h : xLs A U H q) (hq : ∀ a : Nat, a < H.size → ¬ A a → H1[a]? = H[a]?) : xLs A U H1 q := by
  obtain ⟨c, k, i, f, a, cell, h1, h2, h3, h4, h5, h6, h7, h8, h9, h10⟩ := h
  exact ⟨c, k, i, f, a, cell, h1, h2, h3, h4, by rw [hq a (Array.getElem?_eq_some_iff.mp h5).1 h10]; exact h5, h6, h7, h8, h9, h10⟩
theorem xLs.use {A : Nat → Prop} {s : State} {H : Heap} {locs : List Loc} {args : Array Value} {q : String × String × String} (h : xLs A s H q) (hN : va_S A s.heap H locs) (hA : ∀ a, ¬ A a → a < s.heap.size) : (Cond.laysStatic q.1 q.2.1 q.2.2).before args s = true := by
  obtain ⟨c, k, i, f, a, cell, h1, h2, h3, h4, h5, h6, h7, h8, h9, h10⟩ := h
  have h5' : s.heap[a]? = some cell := by rw [← hN.2.1 a (hA a h10) h10]; exact h5
  simp [Cond.before, Cond.holds, Cond.value, h1, h2, h3, h4, h5', h6, h7, h8, h9]
abbrev xThS : List (String × String × String) := [("java/lang/Throwable", "UNASSIGNED_STACK", "[Ljava/lang/StackTraceElement;"), ("java/lang/Throwable", "SUPPRESSED_SENTINEL", "Ljava/util/List;")]
/-- what the tables say, at any state of the run -/
def xV (G : XG) (U : State) (H : Heap) : Prop := xK G.1 U ∧ (∀ w ∈ xT, va_Nw w U) ∧ ((∀ q ∈ xStr, vk_R q.1 q.2.1 q.2.2.1 (G.2.2.2.1 q.2.2.2) U) ∧ va_Mi "[Ljava/lang/Object;" (G.2.2.2.1 101) U ∧ ∀ q ∈ xThS, xLs (xA G) U H q) ∧ (∀ q ∈ xSta G, va_Z q.1 q.2.1 q.2.2.1 q.2.2.2 (xA G) U H) ∧ xkh G U H
def xU (z : Nat) (H : Heap) : Nat := ((H.toList.drop z).map (fun q : Cell => q.slots.size)).sum
/-- what the heap holds -/
def xS (G : XG) (h : XH) (c n : Nat) (H : Heap) : Prop := xhp G h H ∧ G.2.1 ≤ H.size ∧ H.size ≤ G.2.1 + c ∧ xU G.2.1 H ≤ n ∧ c ≤ xCB ∧ n ≤ xSB
def xQ (G : XG) (P : Option Value → XH → Nat → Nat → Prop) : Array Value → State → Outcome → State → Prop := fun _ st o t => (∃ (v : Option Value) (h : XH) (c n : Nat), o = .returned v ∧ P v h c n ∧ xS G h c n t.heap) ∧ va_F (xA G) st t
def xRm (d c0 n0 : Nat) : Room := { frames := d, cells := xCB - c0, slots := xSB - n0, locals := d * 60 + 11000 }
def xPre (G : XG) (h : XH) (c n c0 n0 : Nat) (U : State) : Prop := U.heap.size = G.2.1 + c0 ∧ xU G.2.1 U.heap = n0 ∧ xV G U U.heap ∧ xS G h c n U.heap
/-- A CONTRACT AT ONE START: from the arguments, the heap h and the budgets used, with d frames of room, the method returns with P -/
def XM (l : Launch) (G : XG) (d : Nat) (M : XMt) (args : List Value) (h : XH) (c n : Nat) (P : Option Value → XH → Nat → Nat → Prop) : Prop :=
  ∀ c0 n0 : Nat, Met l M.1 [Cond.code M.1 M.2.1 M.2.2.1 M.2.2.2] (xRm d c0 n0) (va_Pc args (xPre G h c n c0 n0)) (xQ G P) (xCB - c0) (xSB - n0) (xA G)
/-! locals -/
def xpr (L : List (Option Value)) : List (Nat × Value) := (List.range L.length).filterMap fun i => match L[i]? with
  | some (some v) => some (i, v)
  | _ => none
theorem xpr_mem {L : List (Option Value)} {i : Nat} {v : Value} : (i, v) ∈ xpr L ↔ L[i]? = some (some v) := by
  unfold xpr
  rw [List.mem_filterMap]
  constructor
  · rintro ⟨j, -, hj⟩
    split at hj
    · rename_i w hw
      cases hj
      exact hw
    · cases hj
  · intro h
    refine ⟨i, List.mem_range.mpr (List.getElem?_eq_some_iff.mp h).1, ?_⟩
    simp [h]
def xlr (ls : Array Slot) (L : List (Option Value)) : Prop := lv_has ls L.length (xpr L)
theorem xlr.at {ls : Array Slot} {L : List (Option Value)} (h : xlr ls L) {i : Nat} {v : Value} (hi : L[i]? = some (some v)) : ls[i]? = some (.val v) := h.2.2 (i, v) (xpr_mem.mpr hi)
def xc2 : Option (Option Value) → Bool
  | some (some (.long _)) => true
  | some (some (.double _)) => true
  | _ => false
theorem xc2_of {L : List (Option Value)} {j : Nat} {v : Value} (h : L[j]? = some (some v)) (hc : v.category = 2) : xc2 L[j]? = true := by
  rw [h]
  cases v <;> first | rfl | (simp [Value.category] at hc)
/-- a store of one slot -/
def xset1 (L : List (Option Value)) (i : Nat) (v : Value) : List (Option Value) := match i with
  | 0 => L.set 0 (some v)
  | j + 1 => bif xc2 L[j]? then (L.set j none).set (j + 1) (some v) else L.set (j + 1) (some v)
def xset2 (L : List (Option Value)) (i : Nat) (v : Value) : List (Option Value) := (xset1 L i v).set (i + 1) none
theorem xset1_len (L : List (Option Value)) (i : Nat) (v : Value) : (xset1 L i v).length = L.length := by
  unfold xset1
  split
  · simp
  · cases xc2 _ <;> simp
theorem xset1_at {L : List (Option Value)} {i k : Nat} {v w : Value} (h : (xset1 L i v)[k]? = some (some w)) : (k = i ∧ w = v) ∨ (k ≠ i ∧ L[k]? = some (some w) ∧ ¬ (k + 1 = i ∧ w.category = 2)) := by
  unfold xset1 at h
  split at h
  · by_cases hk : k = 0
    · subst hk
      rw [List.getElem?_set] at h
      simp at h
      exact Or.inl ⟨rfl, h.2.symm⟩
    · rw [List.getElem?_set_ne (Ne.symm hk)] at h
      exact Or.inr ⟨hk, h, fun q => by omega⟩
  · rename_i j
    by_cases hk : k = j + 1
    · subst hk
      left
      refine ⟨rfl, ?_⟩
      cases hc : xc2 L[j]? <;> simp only [hc, cond_true, cond_false] at h <;> rw [List.getElem?_set] at h <;> simp at h <;> exact h.2.symm
    · right
      refine ⟨hk, ?_⟩
      cases hc : xc2 L[j]? with
      | true =>
        simp only [hc, cond_true] at h
        rw [List.getElem?_set_ne (Ne.symm hk)] at h
        by_cases hj : k = j
        · subst hj
          rw [List.getElem?_set] at h
          simp at h
        · rw [List.getElem?_set_ne (Ne.symm hj)] at h
          exact ⟨h, fun q => hj (by omega)⟩
      | false =>
        simp only [hc, cond_false] at h
        rw [List.getElem?_set_ne (Ne.symm hk)] at h
        refine ⟨h, fun q => ?_⟩
        have e : k = j := by omega
        subst e
        rw [xc2_of h q.2] at hc
        cases hc
theorem xlr.st1 {ls : Array Slot} {L : List (Option Value)} {i : Nat} {v : Value} (h : lv_has ls L.length ((i, v) :: (xpr L).filter (fun q => !(q.1 == i) && !(q.1 + 1 == i && q.2.category == 2)))) : xlr ls (xset1 L i v) := by
  refine ⟨by rw [xset1_len]; exact h.1, h.2.1, fun q hq => ?_⟩
  obtain ⟨k, w⟩ := q
  rcases xset1_at (xpr_mem.mp hq) with ⟨rfl, rfl⟩ | ⟨h1, h2, h3⟩
  · exact h.2.2 _ List.mem_cons_self
  · refine h.2.2 (k, w) (List.mem_cons_of_mem _ (List.mem_filter.mpr ⟨xpr_mem.mpr h2, ?_⟩))
    simp only [Bool.and_eq_true, Bool.not_eq_true', beq_eq_false_iff_ne, ne_eq, Bool.and_eq_false_iff]
    refine ⟨h1, ?_⟩
    by_cases hk : k + 1 = i
    · exact Or.inr (fun q => h3 ⟨hk, q⟩)
    · exact Or.inl hk
theorem xlr.st2 {ls : Array Slot} {L : List (Option Value)} {i : Nat} {v : Value} (h : lv_has ls L.length ((i, v) :: (xpr L).filter (fun q => !(q.1 == i) && (!(q.1 == i + 1) && !(q.1 + 1 == i && q.2.category == 2))))) : xlr ls (xset2 L i v) := by
  unfold xset2
  refine ⟨by rw [List.length_set, xset1_len]; exact h.1, h.2.1, fun q hq => ?_⟩
  obtain ⟨k, w⟩ := q
  have hk := xpr_mem.mp hq
  by_cases hki : k = i + 1
  · subst hki
    rw [List.getElem?_set] at hk
    simp at hk
  · rw [List.getElem?_set_ne (Ne.symm hki)] at hk
    rcases xset1_at hk with ⟨rfl, rfl⟩ | ⟨h1, h2, h3⟩
    · exact h.2.2 _ List.mem_cons_self
    · refine h.2.2 (k, w) (List.mem_cons_of_mem _ (List.mem_filter.mpr ⟨xpr_mem.mpr h2, ?_⟩))
      simp only [Bool.and_eq_true, Bool.not_eq_true', beq_eq_false_iff_ne, ne_eq, Bool.and_eq_false_iff]
      refine ⟨h1, hki, ?_⟩
      by_cases hk : k + 1 = i
      · exact Or.inr (fun q => h3 ⟨hk, q⟩)
      · exact Or.inl hk
/-- the locals with which a method begins -/
def xin : List Value → List (Option Value)
  | [] => []
  | .long x :: vs => some (.long x) :: none :: xin vs
  | .double x :: vs => some (.double x) :: none :: xin vs
  | v :: vs => some v :: xin vs
theorem xin_at (vs : List Value) : ∀ (i k : Nat) (w : Value), (xin vs)[k]? = some (some w) → (i + k, w) ∈ lv_args i vs := by
  induction vs with
  | nil => intro i k w h; simp [xin] at h
  | cons v vs ih =>
    intro i k w h
    have two : ∀ (z : Value), z.category = 2 → (some z :: none :: xin vs)[k]? = some (some w) → (i + k, w) ∈ lv_args i (z :: vs) := by
      intro z hz h
      simp only [lv_args, hz, if_true]
      match k, h with
      | 0, h => simp at h; subst h; simp
      | 1, h => simp at h
      | k + 2, h =>
        simp at h
        have := ih (i + 2) k w h
        exact List.mem_cons_of_mem _ (by rw [show i + (k + 2) = i + 2 + k by omega]; exact this)
    have one : ∀ (z : Value), z.category = 1 → (some z :: xin vs)[k]? = some (some w) → (i + k, w) ∈ lv_args i (z :: vs) := by
      intro z hz h
      simp only [lv_args, hz]
      match k, h with
      | 0, h => simp at h; subst h; simp
      | k + 1, h =>
        simp at h
        have := ih (i + 1) k w h
        exact List.mem_cons_of_mem _ (by rw [show i + (k + 1) = i + 1 + k by omega]; exact this)
    cases v with
    | long x => exact two _ rfl h
    | double x => exact two _ rfl h
    | int x => exact one _ rfl h
    | float x => exact one _ rfl h
    | null => exact one _ rfl h
    | ref x => exact one _ rfl h
    | retAddr x => exact one _ rfl h
theorem xin_len (vs : List Value) : (xin vs).length = (lg_sl vs).length := by
  induction vs with
  | nil => rfl
  | cons v vs ih => cases v <;> simp [xin, lg_sl, Value.category] at ih ⊢ <;> omega
theorem xlr.entry (vs : List Value) {n : Nat} (hn : (xin vs).length ≤ n) : xlr ((lg_sl vs ++ List.replicate (n - (lg_sl vs).length) Slot.unset).toArray) (xin vs ++ List.replicate (n - (xin vs).length) none) := by
  have h := lv_entry vs (n := n) (by rw [← xin_len]; exact hn)
  refine ⟨by rw [h.1]; simp; omega, h.2.1, fun q hq => ?_⟩
  obtain ⟨k, w⟩ := q
  have hk := xpr_mem.mp hq
  refine h.2.2 (k, w) ?_
  rw [List.getElem?_append] at hk
  split at hk
  · have := xin_at vs 0 k w hk
    rwa [Nat.zero_add] at this
  · rw [List.getElem?_replicate] at hk
    split at hk <;> cases hk
/-! the heap's size -/
theorem xU_eq {z : Nat} {H H' : Heap} (h : H'.toList.map (fun q : Cell => q.slots.size) = H.toList.map (fun q : Cell => q.slots.size)) : xU z H' = xU z H := by
  unfold xU
  rw [List.map_drop, List.map_drop, h]
theorem xU_put {z a : Nat} {H H' : Heap} {cell cell' : Cell} (hz : H'.size = H.size) (ha : H[a]? = some cell) (ha' : H'[a]? = some cell') (hs : cell'.slots.size = cell.slots.size) (ho : ∀ q : Nat, q ≠ a → H'[q]? = H[q]?) : xU z H' = xU z H := by
  refine xU_eq (List.ext_getElem? fun i => ?_)
  rw [List.getElem?_map, List.getElem?_map, Array.getElem?_toList, Array.getElem?_toList]
  by_cases hi : i = a
  · subst hi
    rw [ha, ha']
    simp [hs]
  · rw [ho i hi]
theorem xU_push {z : Nat} {H : Heap} {cell : Cell} (hz : z ≤ H.size) : xU z (H.push cell) = xU z H + cell.slots.size := by
  unfold xU
  rw [Array.toList_push, List.drop_append_of_le_length (by simpa using hz)]
  simp
theorem xU_grow {z : Nat} {s T : State} {locs : List Loc} {cells slots : Nat} (hz : z ≤ s.heap.size) (h : s.sameButNew T locs cells slots) : xU z T.heap = xU z s.heap + ((T.heap.toList.drop s.heap.size).map (fun q : Cell => q.slots.size)).sum := by
  obtain ⟨-, h2, -, -, -, h6⟩ := h
  have e : (T.heap.toList.map (fun q : Cell => q.slots.size)).take s.heap.size = s.heap.toList.map (fun q : Cell => q.slots.size) := by
    refine List.ext_getElem? fun i => ?_
    rw [List.getElem?_take]
    by_cases hi : i < s.heap.size
    · rw [if_pos hi, List.getElem?_map, List.getElem?_map, Array.getElem?_toList, Array.getElem?_toList]
      obtain ⟨c', g1, -, g3, -⟩ := h6 i s.heap[i] (Array.getElem?_eq_getElem hi)
      rw [g1, Array.getElem?_eq_getElem hi]
      simp [g3]
    · rw [if_neg hi, List.getElem?_eq_none (by simp; omega)]
  unfold xU
  rw [List.map_drop, List.map_drop, List.map_drop, ← e]
  generalize T.heap.toList.map (fun q : Cell => q.slots.size) = f
  conv => lhs; rw [← List.take_append_drop s.heap.size f]
  by_cases hf : z ≤ (f.take s.heap.size).length
  · rw [List.drop_append_of_le_length hf, List.sum_append]
  · have hl : f.length ≤ z := by
      rw [List.length_take] at hf
      omega
    rw [List.drop_eq_nil_of_le (show (f.take s.heap.size ++ f.drop s.heap.size).length ≤ z by rw [List.take_append_drop]; exact hl), List.drop_eq_nil_of_le (show (f.take s.heap.size).length ≤ z by rw [List.length_take]; omega), List.drop_eq_nil_of_le (show f.length ≤ s.heap.size by omega)]
    rfl
end XC
end
section
section XW1
/-- what stays through a method's run -/
def xFix (p : Program) (s : State) (m : MethodId) (meth : Method) (cd : Code) (M : XMt) : Prop := p.tables.exec = Jvm.exec ∧ cd.code = M.2.1 ∧ cd.maxLocals = M.2.2.1 ∧ meth.sig.returnType = M.2.2.2 ∧ s.vm.findClass M.1.cls = some m.cls ∧ meth.locks = false ∧ meth.name = M.1.name ∧ s.methodNamed? M.1 = some m
def xRo (G : XG) (R : Room) (d : Nat) (s : State) : Prop := R.frames = d ∧ R.locals = d * 60 + 11000 ∧ R.cells = xCB - (s.heap.size - G.2.1) ∧ R.slots = xSB - xU G.2.1 s.heap ∧ G.2.1 ≤ s.heap.size
/-- an end: of a method's run over 'below', from 'args' and the state at its beginning -/
abbrev XPo : Type := List Frame → Array Value → State → Room → State → Prop
/-- FROM THE FRAME AT pc WITH LOCALS L AND STACK st, over the heap h, THE METHOD M COMES TO AN END Q -/
def XX (l : Launch) (G : XG) (M : XMt) (d pc : Nat) (L : List (Option Value)) (st : List Value) (h : XH) (c n : Nat) (Q : XPo) : Prop :=
  ∀ (p : Program) (e : Env) (R : Room) (s : State) (m : MethodId) (args : Array Value) (below : List Frame) (meth : Method) (cd : Code) (H : Heap) (locs : List Loc) (cells slots : Nat) (ls : Array Slot),
    xFix p s m meth cd M → xRo G R d s → xlr ls L → L.length = M.2.2.1 → xV G s H → xS G h c n H → va_S (xA G) s.heap H locs →
    W p l e R s m args below meth cd H locs cells slots (Q below args s R) (F0 m pc ls st)
/-- the end: it returns with P -/
def xret (G : XG) (P : Option Value → XH → Nat → Nat → Prop) : XPo := fun below args s R => MQ below (xQ G P) args s R.cells R.slots (xA G)
/-- FROM THE FRAME AT pc .., THE METHOD M RETURNS WITH P -/
abbrev XW (l : Launch) (G : XG) (M : XMt) (d pc : Nat) (L : List (Option Value)) (st : List Value) (h : XH) (c n : Nat) (P : Option Value → XH → Nat → Nat → Prop) : Prop := XX l G M d pc L st h c n (xret G P)
variable {l : Launch} {G : XG} {M : XMt} {d pc : Nat} {L : List (Option Value)} {rest : List Value} {h : XH} {c n : Nat} {P : Option Value → XH → Nat → Nat → Prop}
/-- the numbers of cells and slots follow from the heap -/
theorem x_tight {p : Program} {e : Env} {R : Room} {s : State} {m : MethodId} {args : Array Value} {below : List Frame} {meth : Method} {cd : Code} {H : Heap} {locs : List Loc} {cells slots : Nat} {Q : State → Prop} {g : JFrame} {z k j : Nat} (hz : z ≤ s.heap.size) (hk : H.size ≤ s.heap.size + k) (hj : xU z H ≤ xU z s.heap + j)
    (kk : W p l e R s m args below meth cd H locs k j Q g) : W p l e R s m args below meth cd H locs cells slots Q g := by
  intro T hT X
  refine kk T hT { X with same := ?_ }
  have hs := X.same
  have e := xU_grow hz hs
  obtain ⟨h1, h2, h3, h4, h5, h6⟩ := hs
  have hH : (T.setVm s.vm).heap = H := hT
  rw [hH] at e
  refine ⟨h1, h2, by rw [hH]; exact hk, h4, ?_, h6⟩
  rw [hH]
  show ((H.toList.drop s.heap.size).map (fun q : Cell => q.slots.size)).sum ≤ j
  omega
theorem x_mono {p : Program} {e : Env} {R : Room} {s : State} {m : MethodId} {args : Array Value} {below : List Frame} {meth : Method} {cd : Code} {H : Heap} {locs : List Loc} {cells slots : Nat} {Q : State → Prop} {g : JFrame} {z : Nat} (hz : z ≤ s.heap.size)
    (kk : xU z s.heap ≤ xU z H → s.heap.size ≤ H.size → W p l e R s m args below meth cd H locs cells slots Q g) : W p l e R s m args below meth cd H locs cells slots Q g := by
  intro T hT X
  have e := xU_grow hz X.same
  have hH : (T.setVm s.vm).heap = H := hT
  have h2 := X.same.2.1
  rw [hH] at e h2
  exact kk (by omega) h2 T hT X
/-- a method's end -/
theorem x_end {p : Program} {e : Env} {R : Room} {s : State} {m : MethodId} {args : Array Value} {below : List Frame} {meth : Method} {cd : Code} {H : Heap} {locs : List Loc} {cells slots : Nat} {Q : State → Prop} {g : JFrame} (hR : xRo G R d s) (hS : xS G h c n H)
    (kk : W p l e R s m args below meth cd H locs R.cells R.slots Q g) : W p l e R s m args below meth cd H locs cells slots Q g := by
  obtain ⟨-, -, h3, h4, h5⟩ := hR
  obtain ⟨-, -, g1, g2, g3, g4⟩ := hS
  exact x_tight h5 (by rw [h3]; omega) (by rw [h4]; omega) kk
theorem x_q {s t : State} {args : Array Value} {H : Heap} {locs : List Loc} {v : Option Value} (hP : P v h c n) (hS : xS G h c n H) (hF : va_S (xA G) s.heap H locs) (ht : t.heap = H) : xQ G P args s (.returned v) t := ⟨⟨v, h, c, n, rfl, hP, by rw [ht]; exact hS⟩, hF.F ht⟩
theorem x_iret {x : Int32} (hd : decode M.2.1 pc = .ok (.ireturn, 1)) (hr : M.2.2.2 = some .int) (hP : P (some (.int x)) h c n) : XW l G M d pc L [.int x] h c n P := by
  intro p e R s m args below meth cd H locs cells slots ls hF hR hl hL hV hS hN
  refine x_end hR hS ?_
  exact W.iret hF.1 hF.2.1 (hF.2.2.2.1.trans hr) (fun t ht hW => x_q hP hS hN ht) hN.2.2 hd hF.2.2.2.2.2.1
theorem x_zret {x : Int32} {ty : FieldType} (hd : decode M.2.1 pc = .ok (.ireturn, 1)) (hr : M.2.2.2 = some ty) (hn : narrow ty (.int x) = .int x) (hP : P (some (.int x)) h c n) : XW l G M d pc L [.int x] h c n P := by
  intro p e R s m args below meth cd H locs cells slots ls hF hR hl hL hV hS hN
  refine x_end hR hS ?_
  exact W.zret hF.1 hF.2.1 (hF.2.2.2.1.trans hr) hn (fun t ht hW => x_q hP hS hN ht) hN.2.2 hd hF.2.2.2.2.2.1
theorem x_lret {x : Int64} (hd : decode M.2.1 pc = .ok (.lreturn, 1)) (hr : M.2.2.2 = some .long) (hP : P (some (.long x)) h c n) : XW l G M d pc L [.long x] h c n P := by
  intro p e R s m args below meth cd H locs cells slots ls hF hR hl hL hV hS hN
  refine x_end hR hS ?_
  exact W.lret hF.1 hF.2.1 (hF.2.2.2.1.trans hr) (fun t ht hW => x_q hP hS hN ht) hN.2.2 hd hF.2.2.2.2.2.1
theorem x_vret (hd : decode M.2.1 pc = .ok (.return_, 1)) (hr : M.2.2.2 = none) (hP : P none h c n) : XW l G M d pc L [] h c n P := by
  intro p e R s m args below meth cd H locs cells slots ls hF hR hl hL hV hS hN
  refine x_end hR hS ?_
  exact W.vret hF.1 hF.2.1 (hF.2.2.2.1.trans hr) (fun t ht hW => x_q hP hS hN ht) hN.2.2 hd hF.2.2.2.2.2.1
def xisr : Value → Bool
  | .null => true
  | .ref _ => true
  | _ => false
theorem xisr_or {v : Value} (h : xisr v = true) : v = .null ∨ ∃ a, v = .ref a := by
  cases v <;> first | exact Or.inl rfl | exact Or.inr ⟨_, rfl⟩ | cases h
def xrty : Option FieldType → Bool
  | some (.object _) => true
  | some (.array _) => true
  | _ => false
theorem x_aret {v : Value} (hd : decode M.2.1 pc = .ok (.areturn, 1)) (hr : xrty M.2.2.2 = true) (hv : xisr v = true) (hP : P (some v) h c n) : XW l G M d pc L [v] h c n P := by
  intro p e R s m args below meth cd H locs cells slots ls hF hR hl hL hV hS hN
  refine x_end hR hS ?_
  obtain ⟨rt, hrt, hrs⟩ : ∃ rt, M.2.2.2 = some rt ∧ ((∃ n, rt = .object n) ∨ ∃ t, rt = .array t) := by
    cases hm : M.2.2.2 with
    | none => rw [hm] at hr; cases hr
    | some rt =>
      rw [hm] at hr
      refine ⟨rt, rfl, ?_⟩
      cases rt <;> first | exact Or.inl ⟨_, rfl⟩ | exact Or.inr ⟨_, rfl⟩ | cases hr
  exact W.aret hF.1 hF.2.1 (hF.2.2.2.1.trans hrt) hrs (xisr_or hv) (fun t ht hW => x_q hP hS hN ht) hN.2.2 hd hF.2.2.2.2.2.1
/-- a contract out of a walk -/
theorem XM.of {args : List Value} (hy : plainName M.1.cls = true) (hn : (xin args).length ≤ M.2.2.1) (hw : XW l G M d 0 (xin args ++ List.replicate (M.2.2.1 - (xin args).length) none) [] h c n P) : XM l G d M args h c n P := by
  intro c0 n0
  refine Met.ofW (cc := M.2.1) (maxL := M.2.2.1) (ret := M.2.2.2) (ws' := []) hy rfl ?_
  intro p e s m args' below meth cd s₁ B hml hv
  obtain ⟨rfl, hz, hu, hV, hS⟩ := hv
  rw [lg_entry_eq]
  have hR : xRo G (xRm d c0 n0) d s := ⟨rfl, rfl, by rw [hz, Nat.add_sub_cancel_left]; rfl, by rw [hu]; rfl, by rw [hz]; exact Nat.le_add_right _ _⟩
  exact hw p e (xRm d c0 n0) s m _ below meth cd s.heap [] 0 0 _ ⟨B.exec, B.bytes, hml, B.returns, findClass_of_methodNamed B.named, B.notSynchronized, (name_of_methodNamed B.named B.method).1, B.named⟩ hR (xlr.entry args hn) (by simp; omega) hV hS va_S.rf
/-- a weaker end -/
theorem XM.mono {args : List Value} {P' : Option Value → XH → Nat → Nat → Prop} (h0 : XM l G d M args h c n P) (hP : ∀ v h' c' n', P v h' c' n' → P' v h' c' n') : XM l G d M args h c n P' := by
  intro c0 n0 p e ha hc hk s m as below hf happ hPc hKc
  obtain ⟨k, o, h1, h2, h3, ⟨⟨⟨v, h', c', n', e1, e2, e3⟩, e4⟩, e5⟩⟩ := h0 c0 n0 p e ha hc hk s m as below hf happ hPc hKc
  exact ⟨k, o, h1, h2, h3, ⟨⟨v, h', c', n', e1, hP _ _ _ _ e2, e3⟩, e4⟩, e5⟩
end XW1
end
section
section XR
variable {l : Launch} {G : XG} {M : XMt} {d pc : Nat} {L : List (Option Value)} {rest : List Value} {h : XH} {c n : Nat} {P : XPo}
theorem x_iconst {i : Int} {v : Int32} (hd : decode M.2.1 pc = .ok (.iconst i, 1)) (hv : Int32.ofInt i = v) (k : XX l G M d (pc + 1) L (.int v :: rest) h c n P) : XX l G M d pc L (rest) h c n P := by
  intro p e R s m args below meth cd H locs cells slots ls hF hR hl hL hV hS hN
  exact lv_iconst hF.1 hF.2.1 hd hv (k p e R s m args below meth cd H locs cells slots ls hF hR hl hL hV hS hN)
theorem x_bipush {i : Int} {v : Int32} (hd : decode M.2.1 pc = .ok (.bipush i, 2)) (hv : (Int8.ofInt i).toInt32 = v) (k : XX l G M d (pc + 2) L (.int v :: rest) h c n P) : XX l G M d pc L (rest) h c n P := by
  intro p e R s m args below meth cd H locs cells slots ls hF hR hl hL hV hS hN
  exact lv_bipush hF.1 hF.2.1 hd hv (k p e R s m args below meth cd H locs cells slots ls hF hR hl hL hV hS hN)
theorem x_sipush {i : Int} {v : Int32} (hd : decode M.2.1 pc = .ok (.sipush i, 3)) (hv : (Int16.ofInt i).toInt32 = v) (k : XX l G M d (pc + 3) L (.int v :: rest) h c n P) : XX l G M d pc L (rest) h c n P := by
  intro p e R s m args below meth cd H locs cells slots ls hF hR hl hL hV hS hN
  exact lv_sipush hF.1 hF.2.1 hd hv (k p e R s m args below meth cd H locs cells slots ls hF hR hl hL hV hS hN)
theorem x_lconst {i : Fin 2} {v : Int64} (hd : decode M.2.1 pc = .ok (.lconst i, 1)) (hv : Int64.ofNat (i : Nat) = v) (k : XX l G M d (pc + 1) L (.long v :: rest) h c n P) : XX l G M d pc L (rest) h c n P := by
  intro p e R s m args below meth cd H locs cells slots ls hF hR hl hL hV hS hN
  exact lv_lconst hF.1 hF.2.1 hd hv (k p e R s m args below meth cd H locs cells slots ls hF hR hl hL hV hS hN)
theorem x_null  (hd : decode M.2.1 pc = .ok (.aconst_null, 1)) (k : XX l G M d (pc + 1) L (.null :: rest) h c n P) : XX l G M d pc L (rest) h c n P := by
  intro p e R s m args below meth cd H locs cells slots ls hF hR hl hL hV hS hN
  exact lv_null hF.1 hF.2.1 hd (k p e R s m args below meth cd H locs cells slots ls hF hR hl hL hV hS hN)
theorem x_iload_n {q : Fin 4} {x : Int32} (hd : decode M.2.1 pc = .ok (.iload_n q, 1)) (hx : L[(q : Nat)]? = some (some (.int x))) (k : XX l G M d (pc + 1) L (.int x :: rest) h c n P) : XX l G M d pc L (rest) h c n P := by
  intro p e R s m args below meth cd H locs cells slots ls hF hR hl hL hV hS hN
  exact lv_iload_n hF.1 hF.2.1 hd rfl (hl.at hx) (k p e R s m args below meth cd H locs cells slots ls hF hR hl hL hV hS hN)
theorem x_iload {q : Nat} {x : Int32} (hd : decode M.2.1 pc = .ok (.iload q, 2)) (hx : L[q]? = some (some (.int x))) (k : XX l G M d (pc + 2) L (.int x :: rest) h c n P) : XX l G M d pc L (rest) h c n P := by
  intro p e R s m args below meth cd H locs cells slots ls hF hR hl hL hV hS hN
  exact lv_iload hF.1 hF.2.1 hd (hl.at hx) (k p e R s m args below meth cd H locs cells slots ls hF hR hl hL hV hS hN)
theorem x_lload_n {q : Fin 4} {x : Int64} (hd : decode M.2.1 pc = .ok (.lload_n q, 1)) (hx : L[(q : Nat)]? = some (some (.long x))) (k : XX l G M d (pc + 1) L (.long x :: rest) h c n P) : XX l G M d pc L (rest) h c n P := by
  intro p e R s m args below meth cd H locs cells slots ls hF hR hl hL hV hS hN
  exact lv_lload_n hF.1 hF.2.1 hd rfl (hl.at hx) (k p e R s m args below meth cd H locs cells slots ls hF hR hl hL hV hS hN)
theorem x_lload {q : Nat} {x : Int64} (hd : decode M.2.1 pc = .ok (.lload q, 2)) (hx : L[q]? = some (some (.long x))) (k : XX l G M d (pc + 2) L (.long x :: rest) h c n P) : XX l G M d pc L (rest) h c n P := by
  intro p e R s m args below meth cd H locs cells slots ls hF hR hl hL hV hS hN
  exact lv_lload hF.1 hF.2.1 hd (hl.at hx) (k p e R s m args below meth cd H locs cells slots ls hF hR hl hL hV hS hN)
theorem x_aload_n {q : Fin 4} {v : Value} (hd : decode M.2.1 pc = .ok (.aload_n q, 1)) (hx : L[(q : Nat)]? = some (some v)) (hv : xisr v = true) (k : XX l G M d (pc + 1) L (v :: rest) h c n P) : XX l G M d pc L (rest) h c n P := by
  intro p e R s m args below meth cd H locs cells slots ls hF hR hl hL hV hS hN
  rcases xisr_or hv with rfl | ⟨a, rfl⟩
  · exact lv_aload_nN hF.1 hF.2.1 hd rfl (hl.at hx) (k p e R s m args below meth cd H locs cells slots ls hF hR hl hL hV hS hN)
  · exact lv_aload_n hF.1 hF.2.1 hd rfl (hl.at hx) (k p e R s m args below meth cd H locs cells slots ls hF hR hl hL hV hS hN)
theorem x_aload {q : Nat} {v : Value} (hd : decode M.2.1 pc = .ok (.aload q, 2)) (hx : L[q]? = some (some v)) (hv : xisr v = true) (k : XX l G M d (pc + 2) L (v :: rest) h c n P) : XX l G M d pc L (rest) h c n P := by
  intro p e R s m args below meth cd H locs cells slots ls hF hR hl hL hV hS hN
  rcases xisr_or hv with rfl | ⟨a, rfl⟩
  · exact lv_aloadN hF.1 hF.2.1 hd (hl.at hx) (k p e R s m args below meth cd H locs cells slots ls hF hR hl hL hV hS hN)
  · exact lv_aload hF.1 hF.2.1 hd (hl.at hx) (k p e R s m args below meth cd H locs cells slots ls hF hR hl hL hV hS hN)
theorem x_istore_n {q : Fin 4} {x : Int32} {L' : List (Option Value)} (hd : decode M.2.1 pc = .ok (.istore_n q, 1)) (hq : Nat.blt (q : Nat) L.length = true) (hL' : xset1 L (q : Nat) (.int x) = L') (k : XX l G M d (pc + 1) L' (rest) h c n P) : XX l G M d pc L (.int x :: rest) h c n P := by
  intro p e R s m args below meth cd H locs cells slots ls hF hR hl hL hV hS hN
  subst hL'
  refine lv_istore_n hF.1 hF.2.1 hd rfl hl (Nat.le_of_ble_eq_true hq) rfl (fun ls' hl' => ?_)
  exact k p e R s m args below meth cd H locs cells slots ls' hF hR (xlr.st1 hl') (by simp [xset2, xset1_len, hL]) hV hS hN
theorem x_istore {q : Nat} {x : Int32} {L' : List (Option Value)} (hd : decode M.2.1 pc = .ok (.istore q, 2)) (hq : Nat.blt (q : Nat) L.length = true) (hL' : xset1 L (q : Nat) (.int x) = L') (k : XX l G M d (pc + 2) L' (rest) h c n P) : XX l G M d pc L (.int x :: rest) h c n P := by
  intro p e R s m args below meth cd H locs cells slots ls hF hR hl hL hV hS hN
  subst hL'
  refine lv_istore hF.1 hF.2.1 hd hl (Nat.le_of_ble_eq_true hq) rfl (fun ls' hl' => ?_)
  exact k p e R s m args below meth cd H locs cells slots ls' hF hR (xlr.st1 hl') (by simp [xset2, xset1_len, hL]) hV hS hN
theorem x_lstore_n {q : Fin 4} {x : Int64} {L' : List (Option Value)} (hd : decode M.2.1 pc = .ok (.lstore_n q, 1)) (hq : Nat.blt ((q : Nat) + 1) L.length = true) (hL' : xset2 L (q : Nat) (.long x) = L') (k : XX l G M d (pc + 1) L' (rest) h c n P) : XX l G M d pc L (.long x :: rest) h c n P := by
  intro p e R s m args below meth cd H locs cells slots ls hF hR hl hL hV hS hN
  subst hL'
  refine lv_lstore_n hF.1 hF.2.1 hd rfl hl (Nat.le_of_ble_eq_true hq) rfl (fun ls' hl' => ?_)
  exact k p e R s m args below meth cd H locs cells slots ls' hF hR (xlr.st2 hl') (by simp [xset2, xset1_len, hL]) hV hS hN
theorem x_lstore {q : Nat} {x : Int64} {L' : List (Option Value)} (hd : decode M.2.1 pc = .ok (.lstore q, 2)) (hq : Nat.blt ((q : Nat) + 1) L.length = true) (hL' : xset2 L (q : Nat) (.long x) = L') (k : XX l G M d (pc + 2) L' (rest) h c n P) : XX l G M d pc L (.long x :: rest) h c n P := by
  intro p e R s m args below meth cd H locs cells slots ls hF hR hl hL hV hS hN
  subst hL'
  refine lv_lstore hF.1 hF.2.1 hd hl (Nat.le_of_ble_eq_true hq) rfl (fun ls' hl' => ?_)
  exact k p e R s m args below meth cd H locs cells slots ls' hF hR (xlr.st2 hl') (by simp [xset2, xset1_len, hL]) hV hS hN
theorem x_astore_n {q : Fin 4} {v : Value} {L' : List (Option Value)} (hd : decode M.2.1 pc = .ok (.astore_n q, 1)) (hv : xisr v = true) (hq : Nat.blt (q : Nat) L.length = true) (hL' : xset1 L (q : Nat) v = L') (k : XX l G M d (pc + 1) L' (rest) h c n P) : XX l G M d pc L (v :: rest) h c n P := by
  intro p e R s m args below meth cd H locs cells slots ls hF hR hl hL hV hS hN
  subst hL'
  rcases xisr_or hv with rfl | ⟨a, rfl⟩
  · refine lv_astore_nN hF.1 hF.2.1 hd rfl hl (Nat.le_of_ble_eq_true hq) rfl (fun ls' hl' => ?_)
    exact k p e R s m args below meth cd H locs cells slots ls' hF hR (xlr.st1 hl') (by simp [xset1_len, hL]) hV hS hN
  · refine lv_astore_n hF.1 hF.2.1 hd rfl hl (Nat.le_of_ble_eq_true hq) rfl (fun ls' hl' => ?_)
    exact k p e R s m args below meth cd H locs cells slots ls' hF hR (xlr.st1 hl') (by simp [xset1_len, hL]) hV hS hN
theorem x_astore {q : Nat} {v : Value} {L' : List (Option Value)} (hd : decode M.2.1 pc = .ok (.astore q, 2)) (hv : xisr v = true) (hq : Nat.blt (q : Nat) L.length = true) (hL' : xset1 L (q : Nat) v = L') (k : XX l G M d (pc + 2) L' (rest) h c n P) : XX l G M d pc L (v :: rest) h c n P := by
  intro p e R s m args below meth cd H locs cells slots ls hF hR hl hL hV hS hN
  subst hL'
  rcases xisr_or hv with rfl | ⟨a, rfl⟩
  · refine lv_astoreN hF.1 hF.2.1 hd hl (Nat.le_of_ble_eq_true hq) rfl (fun ls' hl' => ?_)
    exact k p e R s m args below meth cd H locs cells slots ls' hF hR (xlr.st1 hl') (by simp [xset1_len, hL]) hV hS hN
  · refine lv_astore hF.1 hF.2.1 hd hl (Nat.le_of_ble_eq_true hq) rfl (fun ls' hl' => ?_)
    exact k p e R s m args below meth cd H locs cells slots ls' hF hR (xlr.st1 hl') (by simp [xset1_len, hL]) hV hS hN
theorem x_iinc {q : Nat} {i : Int} {x v : Int32} {L' : List (Option Value)} (hd : decode M.2.1 pc = .ok (.iinc q i, 3)) (hx : L[q]? = some (some (.int x))) (hv : x + Int32.ofInt i = v) (hq : Nat.blt q L.length = true) (hL' : xset1 L q (.int v) = L') (k : XX l G M d (pc + 3) L' (rest) h c n P) : XX l G M d pc L (rest) h c n P := by
  intro p e R s m args below meth cd H locs cells slots ls hF hR hl hL hV hS hN
  subst hL'
  obtain ⟨j, hj⟩ := List.getElem?_of_mem (xpr_mem.mpr hx)
  refine lv_iinc hF.1 hF.2.1 hd hl hj hv (Nat.le_of_ble_eq_true hq) rfl (fun ls' hl' => ?_)
  exact k p e R s m args below meth cd H locs cells slots ls' hF hR (xlr.st1 hl') (by simp [xset1_len, hL]) hV hS hN
theorem x_iadd {x y : Int32} (hd : decode M.2.1 pc = .ok (.iadd, 1)) (k : XX l G M d (pc + 1) L (.int (x + y) :: rest) h c n P) : XX l G M d pc L (.int y :: .int x :: rest) h c n P := by
  intro p e R s m args below meth cd H locs cells slots ls hF hR hl hL hV hS hN
  exact lv_iadd hF.1 hF.2.1 hd (k p e R s m args below meth cd H locs cells slots ls hF hR hl hL hV hS hN)
theorem x_isub {x y : Int32} (hd : decode M.2.1 pc = .ok (.isub, 1)) (k : XX l G M d (pc + 1) L (.int (x - y) :: rest) h c n P) : XX l G M d pc L (.int y :: .int x :: rest) h c n P := by
  intro p e R s m args below meth cd H locs cells slots ls hF hR hl hL hV hS hN
  exact lv_isub hF.1 hF.2.1 hd (k p e R s m args below meth cd H locs cells slots ls hF hR hl hL hV hS hN)
theorem x_imul {x y : Int32} (hd : decode M.2.1 pc = .ok (.imul, 1)) (k : XX l G M d (pc + 1) L (.int (x * y) :: rest) h c n P) : XX l G M d pc L (.int y :: .int x :: rest) h c n P := by
  intro p e R s m args below meth cd H locs cells slots ls hF hR hl hL hV hS hN
  exact lv_imul hF.1 hF.2.1 hd (k p e R s m args below meth cd H locs cells slots ls hF hR hl hL hV hS hN)
theorem x_iand {x y : Int32} (hd : decode M.2.1 pc = .ok (.iand, 1)) (k : XX l G M d (pc + 1) L (.int (x &&& y) :: rest) h c n P) : XX l G M d pc L (.int y :: .int x :: rest) h c n P := by
  intro p e R s m args below meth cd H locs cells slots ls hF hR hl hL hV hS hN
  exact lv_iand hF.1 hF.2.1 hd (k p e R s m args below meth cd H locs cells slots ls hF hR hl hL hV hS hN)
theorem x_ior {x y : Int32} (hd : decode M.2.1 pc = .ok (.ior, 1)) (k : XX l G M d (pc + 1) L (.int (x ||| y) :: rest) h c n P) : XX l G M d pc L (.int y :: .int x :: rest) h c n P := by
  intro p e R s m args below meth cd H locs cells slots ls hF hR hl hL hV hS hN
  exact lv_ior hF.1 hF.2.1 hd (k p e R s m args below meth cd H locs cells slots ls hF hR hl hL hV hS hN)
theorem x_ixor {x y : Int32} (hd : decode M.2.1 pc = .ok (.ixor, 1)) (k : XX l G M d (pc + 1) L (.int (x ^^^ y) :: rest) h c n P) : XX l G M d pc L (.int y :: .int x :: rest) h c n P := by
  intro p e R s m args below meth cd H locs cells slots ls hF hR hl hL hV hS hN
  exact lv_ixor hF.1 hF.2.1 hd (k p e R s m args below meth cd H locs cells slots ls hF hR hl hL hV hS hN)
theorem x_ishl {x y : Int32} (hd : decode M.2.1 pc = .ok (.ishl, 1)) (k : XX l G M d (pc + 1) L (.int (x <<< (y &&& 31)) :: rest) h c n P) : XX l G M d pc L (.int y :: .int x :: rest) h c n P := by
  intro p e R s m args below meth cd H locs cells slots ls hF hR hl hL hV hS hN
  exact lv_ishl hF.1 hF.2.1 hd (k p e R s m args below meth cd H locs cells slots ls hF hR hl hL hV hS hN)
theorem x_ishr {x y : Int32} (hd : decode M.2.1 pc = .ok (.ishr, 1)) (k : XX l G M d (pc + 1) L (.int (x >>> (y &&& 31)) :: rest) h c n P) : XX l G M d pc L (.int y :: .int x :: rest) h c n P := by
  intro p e R s m args below meth cd H locs cells slots ls hF hR hl hL hV hS hN
  exact lv_ishr hF.1 hF.2.1 hd (k p e R s m args below meth cd H locs cells slots ls hF hR hl hL hV hS hN)
theorem x_iushr {x y v : Int32} (hd : decode M.2.1 pc = .ok (.iushr, 1)) (hv : (x.toUInt32 >>> (y.toUInt32 &&& Int32.toUInt32 31)).toInt32 = v) (k : XX l G M d (pc + 1) L (.int v :: rest) h c n P) : XX l G M d pc L (.int y :: .int x :: rest) h c n P := by
  intro p e R s m args below meth cd H locs cells slots ls hF hR hl hL hV hS hN
  exact lv_iushr hF.1 hF.2.1 hd hv (k p e R s m args below meth cd H locs cells slots ls hF hR hl hL hV hS hN)
theorem x_idiv {x y : Int32} (hd : decode M.2.1 pc = .ok (.idiv, 1)) (hne : ¬ y = 0) (k : XX l G M d (pc + 1) L (.int (x / y) :: rest) h c n P) : XX l G M d pc L (.int y :: .int x :: rest) h c n P := by
  intro p e R s m args below meth cd H locs cells slots ls hF hR hl hL hV hS hN
  exact lv_idiv hF.1 hF.2.1 hd hne (k p e R s m args below meth cd H locs cells slots ls hF hR hl hL hV hS hN)
theorem x_irem {x y : Int32} (hd : decode M.2.1 pc = .ok (.irem, 1)) (hne : ¬ y = 0) (k : XX l G M d (pc + 1) L (.int (x - x / y * y) :: rest) h c n P) : XX l G M d pc L (.int y :: .int x :: rest) h c n P := by
  intro p e R s m args below meth cd H locs cells slots ls hF hR hl hL hV hS hN
  exact lv_irem hF.1 hF.2.1 hd hne (k p e R s m args below meth cd H locs cells slots ls hF hR hl hL hV hS hN)
theorem x_ineg {x : Int32} (hd : decode M.2.1 pc = .ok (.ineg, 1)) (k : XX l G M d (pc + 1) L (.int (-x) :: rest) h c n P) : XX l G M d pc L (.int x :: rest) h c n P := by
  intro p e R s m args below meth cd H locs cells slots ls hF hR hl hL hV hS hN
  exact lv_ineg hF.1 hF.2.1 hd (k p e R s m args below meth cd H locs cells slots ls hF hR hl hL hV hS hN)
theorem x_ladd {x y : Int64} (hd : decode M.2.1 pc = .ok (.ladd, 1)) (k : XX l G M d (pc + 1) L (.long (x + y) :: rest) h c n P) : XX l G M d pc L (.long y :: .long x :: rest) h c n P := by
  intro p e R s m args below meth cd H locs cells slots ls hF hR hl hL hV hS hN
  exact lv_ladd hF.1 hF.2.1 hd (k p e R s m args below meth cd H locs cells slots ls hF hR hl hL hV hS hN)
theorem x_lsub {x y : Int64} (hd : decode M.2.1 pc = .ok (.lsub, 1)) (k : XX l G M d (pc + 1) L (.long (x - y) :: rest) h c n P) : XX l G M d pc L (.long y :: .long x :: rest) h c n P := by
  intro p e R s m args below meth cd H locs cells slots ls hF hR hl hL hV hS hN
  exact lv_lsub hF.1 hF.2.1 hd (k p e R s m args below meth cd H locs cells slots ls hF hR hl hL hV hS hN)
theorem x_lmul {x y : Int64} (hd : decode M.2.1 pc = .ok (.lmul, 1)) (k : XX l G M d (pc + 1) L (.long (x * y) :: rest) h c n P) : XX l G M d pc L (.long y :: .long x :: rest) h c n P := by
  intro p e R s m args below meth cd H locs cells slots ls hF hR hl hL hV hS hN
  exact lv_lmul hF.1 hF.2.1 hd (k p e R s m args below meth cd H locs cells slots ls hF hR hl hL hV hS hN)
theorem x_land {x y : Int64} (hd : decode M.2.1 pc = .ok (.land, 1)) (k : XX l G M d (pc + 1) L (.long (x &&& y) :: rest) h c n P) : XX l G M d pc L (.long y :: .long x :: rest) h c n P := by
  intro p e R s m args below meth cd H locs cells slots ls hF hR hl hL hV hS hN
  exact lv_land hF.1 hF.2.1 hd (k p e R s m args below meth cd H locs cells slots ls hF hR hl hL hV hS hN)
theorem x_lor {x y : Int64} (hd : decode M.2.1 pc = .ok (.lor, 1)) (k : XX l G M d (pc + 1) L (.long (x ||| y) :: rest) h c n P) : XX l G M d pc L (.long y :: .long x :: rest) h c n P := by
  intro p e R s m args below meth cd H locs cells slots ls hF hR hl hL hV hS hN
  exact lv_lor hF.1 hF.2.1 hd (k p e R s m args below meth cd H locs cells slots ls hF hR hl hL hV hS hN)
theorem x_lxor {x y : Int64} (hd : decode M.2.1 pc = .ok (.lxor, 1)) (k : XX l G M d (pc + 1) L (.long (x ^^^ y) :: rest) h c n P) : XX l G M d pc L (.long y :: .long x :: rest) h c n P := by
  intro p e R s m args below meth cd H locs cells slots ls hF hR hl hL hV hS hN
  exact lv_lxor hF.1 hF.2.1 hd (k p e R s m args below meth cd H locs cells slots ls hF hR hl hL hV hS hN)
theorem x_i2l {x : Int32} (hd : decode M.2.1 pc = .ok (.i2l, 1)) (k : XX l G M d (pc + 1) L (.long x.toInt64 :: rest) h c n P) : XX l G M d pc L (.int x :: rest) h c n P := by
  intro p e R s m args below meth cd H locs cells slots ls hF hR hl hL hV hS hN
  exact lv_i2l hF.1 hF.2.1 hd rfl (k p e R s m args below meth cd H locs cells slots ls hF hR hl hL hV hS hN)
theorem x_l2i {x : Int64} (hd : decode M.2.1 pc = .ok (.l2i, 1)) (k : XX l G M d (pc + 1) L (.int x.toInt32 :: rest) h c n P) : XX l G M d pc L (.long x :: rest) h c n P := by
  intro p e R s m args below meth cd H locs cells slots ls hF hR hl hL hV hS hN
  exact lv_l2i hF.1 hF.2.1 hd rfl (k p e R s m args below meth cd H locs cells slots ls hF hR hl hL hV hS hN)
theorem x_i2b {x : Int32} (hd : decode M.2.1 pc = .ok (.i2b, 1)) (k : XX l G M d (pc + 1) L (.int x.toInt8.toInt32 :: rest) h c n P) : XX l G M d pc L (.int x :: rest) h c n P := by
  intro p e R s m args below meth cd H locs cells slots ls hF hR hl hL hV hS hN
  exact lv_i2b hF.1 hF.2.1 hd rfl (k p e R s m args below meth cd H locs cells slots ls hF hR hl hL hV hS hN)
theorem x_i2s {x : Int32} (hd : decode M.2.1 pc = .ok (.i2s, 1)) (k : XX l G M d (pc + 1) L (.int x.toInt16.toInt32 :: rest) h c n P) : XX l G M d pc L (.int x :: rest) h c n P := by
  intro p e R s m args below meth cd H locs cells slots ls hF hR hl hL hV hS hN
  exact lv_i2s hF.1 hF.2.1 hd rfl (k p e R s m args below meth cd H locs cells slots ls hF hR hl hL hV hS hN)
theorem x_i2c {x : Int32} (hd : decode M.2.1 pc = .ok (.i2c, 1)) (k : XX l G M d (pc + 1) L (.int (x.toUInt32 % 65536).toInt32 :: rest) h c n P) : XX l G M d pc L (.int x :: rest) h c n P := by
  intro p e R s m args below meth cd H locs cells slots ls hF hR hl hL hV hS hN
  exact lv_i2c hF.1 hF.2.1 hd rfl (k p e R s m args below meth cd H locs cells slots ls hF hR hl hL hV hS hN)
theorem x_lushr {x v : Int64} {y : Int32} (hd : decode M.2.1 pc = .ok (.lushr, 1)) (hv : (x.toUInt64 >>> (y.toInt64.toUInt64 &&& Int64.toUInt64 63)).toInt64 = v) (k : XX l G M d (pc + 1) L (.long v :: rest) h c n P) : XX l G M d pc L (.int y :: .long x :: rest) h c n P := by
  intro p e R s m args below meth cd H locs cells slots ls hF hR hl hL hV hS hN
  exact lv_lushr hF.1 hF.2.1 hd hv (k p e R s m args below meth cd H locs cells slots ls hF hR hl hL hV hS hN)
theorem x_lshl {x v : Int64} {y : Int32} (hd : decode M.2.1 pc = .ok (.lshl, 1)) (hv : x <<< (y.toInt64 &&& 63) = v) (k : XX l G M d (pc + 1) L (.long v :: rest) h c n P) : XX l G M d pc L (.int y :: .long x :: rest) h c n P := by
  intro p e R s m args below meth cd H locs cells slots ls hF hR hl hL hV hS hN
  exact lv_lshl hF.1 hF.2.1 hd hv (k p e R s m args below meth cd H locs cells slots ls hF hR hl hL hV hS hN)
theorem x_lshr {x v : Int64} {y : Int32} (hd : decode M.2.1 pc = .ok (.lshr, 1)) (hv : x >>> (y.toInt64 &&& 63) = v) (k : XX l G M d (pc + 1) L (.long v :: rest) h c n P) : XX l G M d pc L (.int y :: .long x :: rest) h c n P := by
  intro p e R s m args below meth cd H locs cells slots ls hF hR hl hL hV hS hN
  exact lv_lshr hF.1 hF.2.1 hd hv (k p e R s m args below meth cd H locs cells slots ls hF hR hl hL hV hS hN)
theorem x_lcmp {x y : Int64} (hd : decode M.2.1 pc = .ok (.lcmp, 1)) (k : XX l G M d (pc + 1) L (.int (lg_cmp x y) :: rest) h c n P) : XX l G M d pc L (.long y :: .long x :: rest) h c n P := by
  intro p e R s m args below meth cd H locs cells slots ls hF hR hl hL hV hS hN
  exact W.lcmp hF.1 hF.2.1 hd (k p e R s m args below meth cd H locs cells slots ls hF hR hl hL hV hS hN)
theorem x_dup {a : Value} (hd : decode M.2.1 pc = .ok (.dup, 1)) (ha : a.category = 1) (k : XX l G M d (pc + 1) L (a :: a :: rest) h c n P) : XX l G M d pc L (a :: rest) h c n P := by
  intro p e R s m args below meth cd H locs cells slots ls hF hR hl hL hV hS hN
  exact lv_dup hF.1 hF.2.1 hd ha (k p e R s m args below meth cd H locs cells slots ls hF hR hl hL hV hS hN)
theorem x_pop {a : Value} (hd : decode M.2.1 pc = .ok (.pop, 1)) (ha : a.category = 1) (k : XX l G M d (pc + 1) L (rest) h c n P) : XX l G M d pc L (a :: rest) h c n P := by
  intro p e R s m args below meth cd H locs cells slots ls hF hR hl hL hV hS hN
  exact lv_pop hF.1 hF.2.1 hd ha (k p e R s m args below meth cd H locs cells slots ls hF hR hl hL hV hS hN)
theorem x_dup_x1 {a b : Value} (hd : decode M.2.1 pc = .ok (.dup_x1, 1)) (ha : a.category = 1) (hb : b.category = 1) (k : XX l G M d (pc + 1) L (a :: b :: a :: rest) h c n P) : XX l G M d pc L (a :: b :: rest) h c n P := by
  intro p e R s m args below meth cd H locs cells slots ls hF hR hl hL hV hS hN
  exact lv_dup_x1 hF.1 hF.2.1 hd ha hb (k p e R s m args below meth cd H locs cells slots ls hF hR hl hL hV hS hN)
theorem x_dup_x2 {a b f : Value} (hd : decode M.2.1 pc = .ok (.dup_x2, 1)) (ha : a.category = 1) (hb : b.category = 1) (hf : f.category = 1) (k : XX l G M d (pc + 1) L (a :: b :: f :: a :: rest) h c n P) : XX l G M d pc L (a :: b :: f :: rest) h c n P := by
  intro p e R s m args below meth cd H locs cells slots ls hF hR hl hL hV hS hN
  exact lv_dup_x2 hF.1 hF.2.1 hd ha hb hf (k p e R s m args below meth cd H locs cells slots ls hF hR hl hL hV hS hN)
theorem x_dup2_11 {a b : Value} (hd : decode M.2.1 pc = .ok (.dup2, 1)) (ha : a.category = 1) (hb : b.category = 1) (k : XX l G M d (pc + 1) L (a :: b :: a :: b :: rest) h c n P) : XX l G M d pc L (a :: b :: rest) h c n P := by
  intro p e R s m args below meth cd H locs cells slots ls hF hR hl hL hV hS hN
  exact lv_dup2_11 hF.1 hF.2.1 hd ha hb (k p e R s m args below meth cd H locs cells slots ls hF hR hl hL hV hS hN)
theorem x_dup2_2 {a : Value} (hd : decode M.2.1 pc = .ok (.dup2, 1)) (ha : a.category = 2) (k : XX l G M d (pc + 1) L (a :: a :: rest) h c n P) : XX l G M d pc L (a :: rest) h c n P := by
  intro p e R s m args below meth cd H locs cells slots ls hF hR hl hL hV hS hN
  exact lv_dup2_2 hF.1 hF.2.1 hd ha (k p e R s m args below meth cd H locs cells slots ls hF hR hl hL hV hS hN)
theorem x_dup2_x1_2 {a b : Value} (hd : decode M.2.1 pc = .ok (.dup2_x1, 1)) (ha : a.category = 2) (hb : b.category = 1) (k : XX l G M d (pc + 1) L (a :: b :: a :: rest) h c n P) : XX l G M d pc L (a :: b :: rest) h c n P := by
  intro p e R s m args below meth cd H locs cells slots ls hF hR hl hL hV hS hN
  exact lv_dup2_x1_2 hF.1 hF.2.1 hd ha hb (k p e R s m args below meth cd H locs cells slots ls hF hR hl hL hV hS hN)
theorem x_dup2_x2_2 {a b f : Value} (hd : decode M.2.1 pc = .ok (.dup2_x2, 1)) (ha : a.category = 2) (hb : b.category = 1) (hf : f.category = 1) (k : XX l G M d (pc + 1) L (a :: b :: f :: a :: rest) h c n P) : XX l G M d pc L (a :: b :: f :: rest) h c n P := by
  intro p e R s m args below meth cd H locs cells slots ls hF hR hl hL hV hS hN
  exact lv_dup2_x2_2 hF.1 hF.2.1 hd ha hb hf (k p e R s m args below meth cd H locs cells slots ls hF hR hl hL hV hS hN)
theorem x_pop2_2 {a : Value} (hd : decode M.2.1 pc = .ok (.pop2, 1)) (ha : a.category = 2) (k : XX l G M d (pc + 1) L (rest) h c n P) : XX l G M d pc L (a :: rest) h c n P := by
  intro p e R s m args below meth cd H locs cells slots ls hF hR hl hL hV hS hN
  exact lv_pop2_2 hF.1 hF.2.1 hd ha (k p e R s m args below meth cd H locs cells slots ls hF hR hl hL hV hS hN)
theorem x_if_eq {x : Int32} {off : Int} {tgt : Nat} (hd : decode M.2.1 pc = .ok (.ifCond .eq off, 3)) (ht : (pc : Int) + off = (tgt : Int)) (kt : x = 0 → XX l G M d tgt L rest h c n P) (kf : ¬ x = 0 → XX l G M d (pc + 3) L rest h c n P) : XX l G M d pc L (.int x :: rest) h c n P := by
  intro p e R s m args below meth cd H locs cells slots ls hF hR hl hL hV hS hN
  exact lv_if_eq hF.1 hF.2.1 hd ht (fun q => kt q p e R s m args below meth cd H locs cells slots ls hF hR hl hL hV hS hN) (fun q => kf q p e R s m args below meth cd H locs cells slots ls hF hR hl hL hV hS hN)
theorem x_icmp_eq {x y : Int32} {off : Int} {tgt : Nat} (hd : decode M.2.1 pc = .ok (.if_icmp .eq off, 3)) (ht : (pc : Int) + off = (tgt : Int)) (kt : x = y → XX l G M d tgt L rest h c n P) (kf : ¬ x = y → XX l G M d (pc + 3) L rest h c n P) : XX l G M d pc L (.int y :: .int x :: rest) h c n P := by
  intro p e R s m args below meth cd H locs cells slots ls hF hR hl hL hV hS hN
  exact lv_icmp_eq hF.1 hF.2.1 hd ht (fun q => kt q p e R s m args below meth cd H locs cells slots ls hF hR hl hL hV hS hN) (fun q => kf q p e R s m args below meth cd H locs cells slots ls hF hR hl hL hV hS hN)
theorem x_if_ne {x : Int32} {off : Int} {tgt : Nat} (hd : decode M.2.1 pc = .ok (.ifCond .ne off, 3)) (ht : (pc : Int) + off = (tgt : Int)) (kt : ¬ x = 0 → XX l G M d tgt L rest h c n P) (kf : x = 0 → XX l G M d (pc + 3) L rest h c n P) : XX l G M d pc L (.int x :: rest) h c n P := by
  intro p e R s m args below meth cd H locs cells slots ls hF hR hl hL hV hS hN
  exact lv_if_ne hF.1 hF.2.1 hd ht (fun q => kt q p e R s m args below meth cd H locs cells slots ls hF hR hl hL hV hS hN) (fun q => kf q p e R s m args below meth cd H locs cells slots ls hF hR hl hL hV hS hN)
theorem x_icmp_ne {x y : Int32} {off : Int} {tgt : Nat} (hd : decode M.2.1 pc = .ok (.if_icmp .ne off, 3)) (ht : (pc : Int) + off = (tgt : Int)) (kt : ¬ x = y → XX l G M d tgt L rest h c n P) (kf : x = y → XX l G M d (pc + 3) L rest h c n P) : XX l G M d pc L (.int y :: .int x :: rest) h c n P := by
  intro p e R s m args below meth cd H locs cells slots ls hF hR hl hL hV hS hN
  exact lv_icmp_ne hF.1 hF.2.1 hd ht (fun q => kt q p e R s m args below meth cd H locs cells slots ls hF hR hl hL hV hS hN) (fun q => kf q p e R s m args below meth cd H locs cells slots ls hF hR hl hL hV hS hN)
theorem x_if_lt {x : Int32} {off : Int} {tgt : Nat} (hd : decode M.2.1 pc = .ok (.ifCond .lt off, 3)) (ht : (pc : Int) + off = (tgt : Int)) (kt : x < 0 → XX l G M d tgt L rest h c n P) (kf : ¬ x < 0 → XX l G M d (pc + 3) L rest h c n P) : XX l G M d pc L (.int x :: rest) h c n P := by
  intro p e R s m args below meth cd H locs cells slots ls hF hR hl hL hV hS hN
  exact lv_if_lt hF.1 hF.2.1 hd ht (fun q => kt q p e R s m args below meth cd H locs cells slots ls hF hR hl hL hV hS hN) (fun q => kf q p e R s m args below meth cd H locs cells slots ls hF hR hl hL hV hS hN)
theorem x_icmp_lt {x y : Int32} {off : Int} {tgt : Nat} (hd : decode M.2.1 pc = .ok (.if_icmp .lt off, 3)) (ht : (pc : Int) + off = (tgt : Int)) (kt : x < y → XX l G M d tgt L rest h c n P) (kf : ¬ x < y → XX l G M d (pc + 3) L rest h c n P) : XX l G M d pc L (.int y :: .int x :: rest) h c n P := by
  intro p e R s m args below meth cd H locs cells slots ls hF hR hl hL hV hS hN
  exact lv_icmp_lt hF.1 hF.2.1 hd ht (fun q => kt q p e R s m args below meth cd H locs cells slots ls hF hR hl hL hV hS hN) (fun q => kf q p e R s m args below meth cd H locs cells slots ls hF hR hl hL hV hS hN)
theorem x_if_ge {x : Int32} {off : Int} {tgt : Nat} (hd : decode M.2.1 pc = .ok (.ifCond .ge off, 3)) (ht : (pc : Int) + off = (tgt : Int)) (kt : 0 ≤ x → XX l G M d tgt L rest h c n P) (kf : ¬ 0 ≤ x → XX l G M d (pc + 3) L rest h c n P) : XX l G M d pc L (.int x :: rest) h c n P := by
  intro p e R s m args below meth cd H locs cells slots ls hF hR hl hL hV hS hN
  exact lv_if_ge hF.1 hF.2.1 hd ht (fun q => kt q p e R s m args below meth cd H locs cells slots ls hF hR hl hL hV hS hN) (fun q => kf q p e R s m args below meth cd H locs cells slots ls hF hR hl hL hV hS hN)
theorem x_icmp_ge {x y : Int32} {off : Int} {tgt : Nat} (hd : decode M.2.1 pc = .ok (.if_icmp .ge off, 3)) (ht : (pc : Int) + off = (tgt : Int)) (kt : y ≤ x → XX l G M d tgt L rest h c n P) (kf : ¬ y ≤ x → XX l G M d (pc + 3) L rest h c n P) : XX l G M d pc L (.int y :: .int x :: rest) h c n P := by
  intro p e R s m args below meth cd H locs cells slots ls hF hR hl hL hV hS hN
  exact lv_icmp_ge hF.1 hF.2.1 hd ht (fun q => kt q p e R s m args below meth cd H locs cells slots ls hF hR hl hL hV hS hN) (fun q => kf q p e R s m args below meth cd H locs cells slots ls hF hR hl hL hV hS hN)
theorem x_if_gt {x : Int32} {off : Int} {tgt : Nat} (hd : decode M.2.1 pc = .ok (.ifCond .gt off, 3)) (ht : (pc : Int) + off = (tgt : Int)) (kt : 0 < x → XX l G M d tgt L rest h c n P) (kf : ¬ 0 < x → XX l G M d (pc + 3) L rest h c n P) : XX l G M d pc L (.int x :: rest) h c n P := by
  intro p e R s m args below meth cd H locs cells slots ls hF hR hl hL hV hS hN
  exact lv_if_gt hF.1 hF.2.1 hd ht (fun q => kt q p e R s m args below meth cd H locs cells slots ls hF hR hl hL hV hS hN) (fun q => kf q p e R s m args below meth cd H locs cells slots ls hF hR hl hL hV hS hN)
theorem x_icmp_gt {x y : Int32} {off : Int} {tgt : Nat} (hd : decode M.2.1 pc = .ok (.if_icmp .gt off, 3)) (ht : (pc : Int) + off = (tgt : Int)) (kt : y < x → XX l G M d tgt L rest h c n P) (kf : ¬ y < x → XX l G M d (pc + 3) L rest h c n P) : XX l G M d pc L (.int y :: .int x :: rest) h c n P := by
  intro p e R s m args below meth cd H locs cells slots ls hF hR hl hL hV hS hN
  exact lv_icmp_gt hF.1 hF.2.1 hd ht (fun q => kt q p e R s m args below meth cd H locs cells slots ls hF hR hl hL hV hS hN) (fun q => kf q p e R s m args below meth cd H locs cells slots ls hF hR hl hL hV hS hN)
theorem x_if_le {x : Int32} {off : Int} {tgt : Nat} (hd : decode M.2.1 pc = .ok (.ifCond .le off, 3)) (ht : (pc : Int) + off = (tgt : Int)) (kt : x ≤ 0 → XX l G M d tgt L rest h c n P) (kf : ¬ x ≤ 0 → XX l G M d (pc + 3) L rest h c n P) : XX l G M d pc L (.int x :: rest) h c n P := by
  intro p e R s m args below meth cd H locs cells slots ls hF hR hl hL hV hS hN
  exact lv_if_le hF.1 hF.2.1 hd ht (fun q => kt q p e R s m args below meth cd H locs cells slots ls hF hR hl hL hV hS hN) (fun q => kf q p e R s m args below meth cd H locs cells slots ls hF hR hl hL hV hS hN)
theorem x_icmp_le {x y : Int32} {off : Int} {tgt : Nat} (hd : decode M.2.1 pc = .ok (.if_icmp .le off, 3)) (ht : (pc : Int) + off = (tgt : Int)) (kt : x ≤ y → XX l G M d tgt L rest h c n P) (kf : ¬ x ≤ y → XX l G M d (pc + 3) L rest h c n P) : XX l G M d pc L (.int y :: .int x :: rest) h c n P := by
  intro p e R s m args below meth cd H locs cells slots ls hF hR hl hL hV hS hN
  exact lv_icmp_le hF.1 hF.2.1 hd ht (fun q => kt q p e R s m args below meth cd H locs cells slots ls hF hR hl hL hV hS hN) (fun q => kf q p e R s m args below meth cd H locs cells slots ls hF hR hl hL hV hS hN)
theorem x_goto {off : Int} {tgt : Nat} (hd : decode M.2.1 pc = .ok (.goto off, 3)) (ht : (pc : Int) + off = (tgt : Int)) (k : XX l G M d tgt L rest h c n P) : XX l G M d pc L (rest) h c n P := by
  intro p e R s m args below meth cd H locs cells slots ls hF hR hl hL hV hS hN
  exact lv_goto hF.1 hF.2.1 hd ht (k p e R s m args below meth cd H locs cells slots ls hF hR hl hL hV hS hN)
theorem x_ifnull {a : Nat} {off : Int} (hd : decode M.2.1 pc = .ok (.ifnull off, 3)) (k : XX l G M d (pc + 3) L rest h c n P) : XX l G M d pc L (.ref a :: rest) h c n P := by
  intro p e R s m args below meth cd H locs cells slots ls hF hR hl hL hV hS hN
  exact lv_ifnull hF.1 hF.2.1 hd (k p e R s m args below meth cd H locs cells slots ls hF hR hl hL hV hS hN)
theorem x_ifnullN {off : Int} {tgt : Nat} (hd : decode M.2.1 pc = .ok (.ifnull off, 3)) (ht : (pc : Int) + off = (tgt : Int)) (k : XX l G M d tgt L rest h c n P) : XX l G M d pc L (.null :: rest) h c n P := by
  intro p e R s m args below meth cd H locs cells slots ls hF hR hl hL hV hS hN
  exact lv_ifnullN hF.1 hF.2.1 hd ht (k p e R s m args below meth cd H locs cells slots ls hF hR hl hL hV hS hN)
theorem x_ifnonnull {a : Nat} {off : Int} {tgt : Nat} (hd : decode M.2.1 pc = .ok (.ifnonnull off, 3)) (ht : (pc : Int) + off = (tgt : Int)) (k : XX l G M d tgt L rest h c n P) : XX l G M d pc L (.ref a :: rest) h c n P := by
  intro p e R s m args below meth cd H locs cells slots ls hF hR hl hL hV hS hN
  exact lv_ifnonnull hF.1 hF.2.1 hd ht (k p e R s m args below meth cd H locs cells slots ls hF hR hl hL hV hS hN)
theorem x_ifnonnullN {off : Int} (hd : decode M.2.1 pc = .ok (.ifnonnull off, 3)) (k : XX l G M d (pc + 3) L rest h c n P) : XX l G M d pc L (.null :: rest) h c n P := by
  intro p e R s m args below meth cd H locs cells slots ls hF hR hl hL hV hS hN
  exact lv_ifnonnullN hF.1 hF.2.1 hd (k p e R s m args below meth cd H locs cells slots ls hF hR hl hL hV hS hN)
theorem x_tableIn {dflt lo hi : Int} {offs : Array Int} {len : Nat} {x : Int32} {off : Int} {tgt : Nat} (hd : decode M.2.1 pc = .ok (.tableswitch dflt lo hi offs, len)) (h1 : ¬ x.toInt < lo) (h2 : ¬ hi < x.toInt) (ho : offs[(x.toInt - lo).toNat]? = some off) (ht : (pc : Int) + off = (tgt : Int)) (k : XX l G M d tgt L rest h c n P) : XX l G M d pc L (.int x :: rest) h c n P := by
  intro p e R s m args below meth cd H locs cells slots ls hF hR hl hL hV hS hN
  exact lv_tableIn hF.1 hF.2.1 hd h1 h2 ho ht (k p e R s m args below meth cd H locs cells slots ls hF hR hl hL hV hS hN)
theorem x_tableOut {dflt lo hi : Int} {offs : Array Int} {len : Nat} {x : Int32} {tgt : Nat} (hd : decode M.2.1 pc = .ok (.tableswitch dflt lo hi offs, len)) (h1 : x.toInt < lo ∨ hi < x.toInt) (ht : (pc : Int) + dflt = (tgt : Int)) (k : XX l G M d tgt L rest h c n P) : XX l G M d pc L (.int x :: rest) h c n P := by
  intro p e R s m args below meth cd H locs cells slots ls hF hR hl hL hV hS hN
  exact lv_tableOut hF.1 hF.2.1 hd h1 ht (k p e R s m args below meth cd H locs cells slots ls hF hR hl hL hV hS hN)
theorem x_lookup {dflt : Int} {ps : Array (Int × Int)} {len : Nat} {x : Int32} {off : Int} {tgt : Nat} (hd : decode M.2.1 pc = .ok (.lookupswitch dflt ps, len)) (hp : (ps.toList.zip (ps.toList.drop 1)).all (fun (a, next) => a.1 < next.1) = true) (ho : Op.lookupswitch.offset ps.toList dflt x.toInt = off) (ht : (pc : Int) + off = (tgt : Int)) (k : XX l G M d tgt L rest h c n P) : XX l G M d pc L (.int x :: rest) h c n P := by
  intro p e R s m args below meth cd H locs cells slots ls hF hR hl hL hV hS hN
  exact lv_lookup hF.1 hF.2.1 hd hp ho ht (k p e R s m args below meth cd H locs cells slots ls hF hR hl hL hV hS hN)
end XR
end
section
section XHP
variable {l : Launch} {G : XG} {M : XMt} {d pc : Nat} {L : List (Option Value)} {rest : List Value} {h : XH} {c n : Nat} {P : XPo}
def xup (h : XH) (a : Nat) (e : Nat × List Value) : XH := fun q => if q = a then some e else h q
theorem xup_self {h : XH} {a : Nat} {e : Nat × List Value} : xup h a e a = some e := if_pos rfl
theorem xup_ne {h : XH} {a q : Nat} {e : Nat × List Value} (hq : q ≠ a) : xup h a e q = h q := if_neg hq
/-- a cell that is there: ours, or one that stays -/
def xr (G : XG) (h : XH) (a k : Nat) (vs : List Value) : Prop := h a = some (k, vs) ∨ G.2.2.1 a = some (k, vs)
theorem xarr_of {k : Nat} {ty : FieldType} (hk : xk[k]? = some (.inr ty)) : xarr k = true := by unfold xarr; rw [hk]
theorem xcell.w {D : va_G} {s : State} {k : Nat} {vs : List Value} {cell : Cell} (hK : xK D s) (hs : cell.vm.isStatics = false) (h : xcell D k vs cell) : xcellW D s k vs cell := by
  refine ⟨fun _ => h.1, h.2.1, fun ty ht => ⟨?_, Nat.le_of_eq (h.2.2 (xarr_of ht)).symm, congrArg Nat.toInt32 (h.2.2 (xarr_of ht))⟩⟩
  obtain ⟨h1, -, -⟩ := (hK k _ ht : ArrOfT s (D.1 k) ty ∧ va_RA s (D.1 k) ty ∧ ∀ j : Nat, D.2 k j = j)
  obtain ⟨-, h2⟩ := h1 0 (fun _ => .null)
  rw [← h.1] at h2
  exact ⟨fun q hq => (by rw [hq] at hs; cases hs), h2⟩
theorem xcw_cls {D : va_G} {s : State} {k : Nat} {vs : List Value} {cell : Cell} {q : vw_C} (hk : xk[k]? = some (.inl q)) (h : xcellW D s k vs cell) : cell.cls = D.1 k := h.1 (by unfold xarr; rw [hk])
theorem xr_cell {s : State} {H : Heap} {a k : Nat} {vs : List Value} (ha : xr G h a k vs) (hV : xV G s H) (hS : xS G h c n H) : ∃ cell : Cell, H[a]? = some cell ∧ cell.vm ≠ .unknown ∧ cell.vm.isStatics = false ∧ xcellW G.1 s k vs cell := by
  rcases ha with ha | ha
  · obtain ⟨-, cell, g1, g2, g3⟩ := hS.1 a k vs ha
    have g2' : cell.vm.isStatics = false := by rw [g2]; rfl
    exact ⟨cell, g1, (by rw [g2]; exact fun q => (by cases q)), g2', g3.w hV.1 g2'⟩
  · exact (hV.2.2.2.2 a k vs ha).2
theorem xV.ts {s : State} {H : Heap} (hV : xV G s H) (args : Array Value) : ∀ w ∈ xT, w.before args s = true := fun w hw => xT_same hw rfl (hV.2.1 w hw)
theorem xkh.kept {U : State} {H H1 : Heap} (hk : xkh G U H) (hq : ∀ a : Nat, a < H.size → ¬ xA G a → H1[a]? = H[a]?) : xkh G U H1 := by
  intro a k vs ha
  obtain ⟨g1, cell, g2, g3⟩ := hk a k vs ha
  exact ⟨g1, cell, by rw [hq a (Array.getElem?_eq_some_iff.mp g2).1 (Nat.not_le.mpr g1)]; exact g2, g3⟩
theorem xV.kept {s : State} {H H1 : Heap} (hV : xV G s H) (hq : ∀ a : Nat, a < H.size → ¬ xA G a → H1[a]? = H[a]?) : xV G s H1 := ⟨hV.1, hV.2.1, ⟨hV.2.2.1.1, hV.2.2.1.2.1, fun q hm => (hV.2.2.1.2.2 q hm).kept hq⟩, fun q hm => (hV.2.2.2.1 q hm).kept hq, hV.2.2.2.2.kept hq⟩
/-- a write into one of our cells -/
theorem xS.put {H H1 : Heap} {a k : Nat} {vs vs' : List Value} {cell cell' : Cell} (hS : xS G h c n H) (ha : h a = some (k, vs)) (g1 : H[a]? = some cell) (e1 : H1[a]? = some cell') (e2 : H1.size = H.size) (e3 : ∀ q : Nat, q ≠ a → H1[q]? = H[q]?) (es : cell'.slots.size = cell.slots.size) (ev : cell'.vm = .none) (ec : xcell G.1 k vs' cell') : xS G (xup h a (k, vs')) c n H1 := by
  obtain ⟨h1, h2, h3, h4, h5⟩ := hS
  refine ⟨fun q kq vq hq => ?_, by rw [e2]; exact h2, by rw [e2]; exact h3, by rw [xU_put e2 g1 e1 es e3]; exact h4, h5⟩
  by_cases hqa : q = a
  · subst hqa
    rw [xup_self] at hq
    cases hq
    exact ⟨(h1 q k vs ha).1, cell', e1, ev, ec⟩
  · rw [xup_ne hqa] at hq
    obtain ⟨q1, q2, q3⟩ := h1 q kq vq hq
    exact ⟨q1, q2, by rw [e3 q hqa]; exact q3⟩
theorem xS.ge {H : Heap} {a k : Nat} {vs : List Value} (hS : xS G h c n H) (ha : h a = some (k, vs)) : xA G a := (hS.1 a k vs ha).1
theorem va_S.put1 {H0 H H1 : Heap} {locs : List Loc} {a i : Nat} (hN : va_S (xA G) H0 H locs) (ha : xA G a) (e2 : H1.size = H.size) (e3 : ∀ q : Nat, q ≠ a → H1[q]? = H[q]?) : va_S (xA G) H0 H1 (locs ++ [⟨a, i⟩]) := hN.put e2 e3 ha
theorem xV.put {s : State} {H H1 : Heap} {a : Nat} (hV : xV G s H) (ha : xA G a) (e3 : ∀ q : Nat, q ≠ a → H1[q]? = H[q]?) : xV G s H1 := hV.kept (fun q _ hq => e3 q (fun e => hq (by rw [e]; exact ha)))
/-- a new cell -/
theorem xS.new {H : Heap} {k z : Nat} {vs : List Value} {cell : Cell} (hS : xS G h c n H) (ev : cell.vm = .none) (ez : cell.slots.size = z) (ec : xcell G.1 k vs cell) (hc : c + 1 ≤ xCB) (hn : n + z ≤ xSB) : xS G (xup h H.size (k, vs)) (c + 1) (n + z) (H.push cell) ∧ h H.size = none := by
  obtain ⟨h1, h2, h3, h4, h5, h6⟩ := hS
  have hnone : h H.size = none := by
    cases hh : h H.size with
    | none => rfl
    | some e =>
      obtain ⟨-, cell, g1, -⟩ := h1 H.size e.1 e.2 hh
      exact absurd (Array.getElem?_eq_some_iff.mp g1).1 (Nat.lt_irrefl _)
  refine ⟨⟨fun q kq vq hq => ?_, by rw [Array.size_push]; omega, by rw [Array.size_push]; omega, by rw [xU_push h2, ez]; omega, hc, hn⟩, hnone⟩
  by_cases hqa : q = H.size
  · subst hqa
    rw [xup_self] at hq
    cases hq
    exact ⟨h2, cell, Array.getElem?_push_size, ev, ec⟩
  · rw [xup_ne hqa] at hq
    obtain ⟨q1, c1, q2, q3⟩ := h1 q kq vq hq
    exact ⟨q1, c1, by rw [Array.getElem?_push, if_neg hqa]; exact q2, q3⟩
theorem xV.new {s : State} {H : Heap} {cell : Cell} (hV : xV G s H) : xV G s (H.push cell) := hV.kept (fun q hq _ => by rw [Array.getElem?_push, if_neg (Nat.ne_of_lt hq)])
theorem va_S.new {H0 H : Heap} {locs : List Loc} {cell : Cell} (hN : va_S (xA G) H0 H locs) : va_S (xA G) H0 (H.push cell) locs := ⟨by rw [Array.size_push]; exact Nat.le_succ_of_le hN.1, fun q h1 h2 => by rw [Array.getElem?_push, if_neg (Nat.ne_of_lt (Nat.lt_of_lt_of_le h1 hN.1))]; exact hN.2.1 q h1 h2, hN.2.2⟩
theorem xkh.none {s : State} {H : Heap} (hV : xV G s H) (hS : xS G h c n H) : G.2.2.1 H.size = none := by
  cases hh : G.2.2.1 H.size with
  | none => rfl
  | some e =>
    obtain ⟨g1, -⟩ := hV.2.2.2.2 H.size e.1 e.2 hh
    exact absurd (Nat.lt_of_lt_of_le g1 hS.2.1) (Nat.lt_irrefl _)
/-! fields -/
/-- what an instruction that names a field links: kind k's field number j -/
def xF (own : String) (idx k j : Nat) : Prop := ∃ (C : String) (T : u_T) (N : Nat) (ref : String), xk[k]? = some (.inl (C, T, N)) ∧ j < N ∧ (Cond.fieldLink own idx ref (T j).2.1 (T j).2.2.1 ∈ xT ∨ ∃ host, Cond.fieldLinkNest own idx ref (T j).2.1 (T j).2.2.1 host ∈ xT) ∧ (ref = (T j).1 ∨ Cond.sameField ref (T j).1 (T j).2.1 (T j).2.2.1 ∈ xT)
/-- the type of a field that isn't final; of one that is -/
def xP (k j : Nat) (fin : Bool) (ty : FieldType) : Prop := ∃ (C : String) (T : u_T) (N : Nat), xk[k]? = some (.inl (C, T, N)) ∧ (T j).2.2.2 = fin ∧ parseFieldDescriptor (T j).2.2.1 = some ty
theorem x_get {a k j idx : Nat} {vs : List Value} {v : Value} (hx : xF M.1.cls idx k j) (ha : xr G h a k vs) (hv : vs[j]? = some v) (hd : decode M.2.1 pc = .ok (.getfield idx, 3)) (kk : XX l G M d (pc + 3) L (v :: rest) h c n P) : XX l G M d pc L (.ref a :: rest) h c n P := by
  intro p e R s m args below meth cd H locs cells slots ls hF hR hl hL hV hS hN
  obtain ⟨C, T, N, ref, hk, hj, hlk, hsm⟩ := hx
  have hts := hV.ts args
  obtain ⟨cell, g1, g2, -, g3⟩ := xr_cell ha hV hS
  obtain ⟨hSl, hfc, kC, hkC, hkind⟩ := (hV.1 k _ hk : u_Kn s C T N (G.1.1 k) (G.1.2 k))
  obtain ⟨cf, kf, fi, f, hi, hsl⟩ := hSl j hj
  have hi' : s.fieldFound? ref (T j).2.1 (T j).2.2.1 = some (cf, kf, fi, f) := by
    rcases hsm with rfl | hsm
    · exact hi
    · exact u_same (hts _ hsm) _ hi
  have hst := (u_facts hfc hkC (u_lays hts (xk_lay hk) hj) hi).1
  have hv' : cell.slots[f.slot]? = some v := by rw [hsl]; exact (g3.2.1 j v hv).2
  rcases hlk with hlk | ⟨host, hlk⟩
  · exact W.getf hF.1 hF.2.1 hF.2.2.2.2.1 (hts _ hlk) hi' hst g1 g2 (v := v) hv' rfl rfl hd (kk p e R s m args below meth cd H locs cells slots ls hF hR hl hL hV hS hN)
  · exact va_Wgetf hF.1 hF.2.1 hF.2.2.2.2.1 (hts _ hlk) hi' hst g1 g2 (v := v) hv' rfl rfl hd (kk p e R s m args below meth cd H locs cells slots ls hF hR hl hL hV hS hN)
theorem xcell_set {D : va_G} {s : State} {args : Array Value} {cell : Cell} {k j : Nat} {vs : List Value} {v v0 : Value} {C : String} {T : u_T} {N : Nat} (hts : ∀ w ∈ xT, w.before args s = true) (hK : xK D s) (hk : xk[k]? = some (.inl (C, T, N))) (hj : j < N) (g3 : xcell D k vs cell) (h0 : vs[j]? = some v0) : xcell D k (vs.set j v) (cell.setSlot (D.2 k j) v) := by
  have hnk : xN k = N := by unfold xN; rw [hk]
  have hak : xarr k = false := by unfold xarr; rw [hk]
  have hap : ∀ x y, x < N → y < N → x ≠ y → (D.2 k) x ≠ (D.2 k) y := by
    intro x y hx hy hne
    obtain ⟨hS, -⟩ := (hK k _ hk : u_Kn s C T N (D.1 k) (D.2 k))
    obtain ⟨_, _, _, fa, hia, ea⟩ := hS x hx
    obtain ⟨_, _, _, fb, hib, eb⟩ := hS y hy
    rw [← ea, ← eb]
    refine u_apart (u_lays hts (xk_lay hk) hx) (u_lays hts (xk_lay hk) hy) hia hib ?_
    obtain ⟨ty, hty⟩ := xk_ty hk x hx
    obtain ⟨ty', hty'⟩ := xk_ty hk y hy
    rw [(State.fieldFound?_type hia hty).1, (State.fieldFound?_type hib hty').1]
    exact xk_nm hk x hx y hy hne
  have hjl : j < vs.length := (List.getElem?_eq_some_iff.mp h0).1
  refine ⟨g3.1, fun i w hw => ?_, fun q => by rw [hak] at q; cases q⟩
  by_cases hij : i = j
  · subst hij
    rw [List.getElem?_set_self hjl] at hw
    cases hw
    exact ⟨Or.inr (by rw [hnk]; exact hj), Cell.slots_setSlot_self _ (k2_hasslot (g3.2.1 i v0 h0).2)⟩
  · rw [List.getElem?_set_ne (Ne.symm hij)] at hw
    obtain ⟨q1, q2⟩ := g3.2.1 i w hw
    have hi : i < N := by
      rcases q1 with q | q
      · rw [hak] at q; cases q
      · rw [hnk] at q; exact q
    exact ⟨q1, by rw [slot_ne _ _ (hap j i hj hi (Ne.symm hij))]; exact q2⟩
theorem x_put {a k j idx : Nat} {vs vs' : List Value} {v v0 : Value} {ty : FieldType} (hx : xF M.1.cls idx k j) (hp : xP k j false ty) (hn : narrow ty v = v) (hf : fits ty v = true) (ha : h a = some (k, vs)) (h0 : vs[j]? = some v0) (hs : vs.set j v = vs') (hd : decode M.2.1 pc = .ok (.putfield idx, 3)) (kk : XX l G M d (pc + 3) L rest (xup h a (k, vs')) c n P) : XX l G M d pc L (v :: .ref a :: rest) h c n P := by
  intro p e R s m args below meth cd H locs cells slots ls hF hR hl hL hV hS hN
  subst hs
  obtain ⟨C, T, N, ref, hk, hj, hlk, hsm⟩ := hx
  obtain ⟨C', T', N', hk', hfin, hpt⟩ := hp
  cases hk.symm.trans hk'
  have hts := hV.ts args
  obtain ⟨ga, cell, g1, g2, g3⟩ := hS.1 a k vs ha
  obtain ⟨hSl, hfc, kC, hkC, hkind⟩ := (hV.1 k _ hk : u_Kn s C T N (G.1.1 k) (G.1.2 k))
  obtain ⟨cf, kf, fi, f, hi, hsl⟩ := hSl j hj
  have hi' : s.fieldFound? ref (T j).2.1 (T j).2.2.1 = some (cf, kf, fi, f) := by
    rcases hsm with rfl | hsm
    · exact hi
    · exact u_same (hts _ hsm) _ hi
  have hlay := hts _ (xk_lay hk _ (u_in_lay hj))
  unfold u_lay at hlay
  rw [if_neg (by rw [hfin]; decide)] at hlay
  have hst := (u_facts hfc hkC (u_lays hts (xk_lay hk) hj) hi).1
  have h6 := u_store hfc hkC hkind hlay hi hpt hn hf
  have hlt : f.slot < cell.slots.size := by rw [hsl]; exact k2_hasslot (g3.2.1 j v0 h0).2
  have fin : ∀ H' : Heap, H'[a]? = some (cell.setSlot f.slot v) → H'.size = H.size → (∀ q, q ≠ a → H'[q]? = H[q]?) → W p l e R s m args below meth cd H' (locs ++ [⟨a, f.slot⟩]) cells slots (P below args s R) (F0 m (pc + 3) ls rest) := by
    intro H' e1 e2 e3
    rw [hsl] at e1 ⊢
    exact kk p e R s m args below meth cd H' _ cells slots ls hF hR hl hL (hV.put ga e3) (hS.put ha g1 e1 e2 e3 (k2_slotsz _ _ _) g2 (xcell_set hts hV.1 hk hj g3 h0)) (va_S.put1 hN ga e2 e3)
  rcases hlk with hlk | ⟨host, hlk⟩
  · exact W.putK hF.1 hF.2.1 (f := f) ⟨hF.2.2.2.2.1, hts _ hlk, ⟨_, _, _, hi'⟩, hst⟩ (by rw [g3.1]; exact h6) g1 g2 hlt rfl rfl hd fin
  · exact va_WputK hF.1 hF.2.1 (f := f) hF.2.2.2.2.1 (hts _ hlk) hi' hst (by rw [g3.1]; exact h6) g1 g2 hlt rfl rfl hd fin
theorem x_putF {a k j idx : Nat} {vs vs' : List Value} {v v0 : Value} {ty : FieldType} (hx : xF M.1.cls idx k j) (hp : xP k j true ty) (hdc : ∃ (C : String) (T : u_T) (N : Nat), xk[k]? = some (.inl (C, T, N)) ∧ (T j).1 = M.1.cls ∧ Cond.fieldLink M.1.cls idx (T j).1 (T j).2.1 (T j).2.2.1 ∈ xT) (hin : M.1.name = "<init>") (hn : narrow ty v = v) (hf : fits ty v = true) (ha : h a = some (k, vs)) (h0 : vs[j]? = some v0) (hs : vs.set j v = vs') (hd : decode M.2.1 pc = .ok (.putfield idx, 3)) (kk : XX l G M d (pc + 3) L rest (xup h a (k, vs')) c n P) : XX l G M d pc L (v :: .ref a :: rest) h c n P := by
  intro p e R s m args below meth cd H locs cells slots ls hF hR hl hL hV hS hN
  subst hs
  obtain ⟨C, T, N, ref, hk, hj, -, -⟩ := hx
  obtain ⟨C', T', N', hk', hfin, hpt⟩ := hp
  cases hk.symm.trans hk'
  obtain ⟨C'', T'', N'', hk'', hdecl, hlk⟩ := hdc
  cases hk.symm.trans hk''
  have hts := hV.ts args
  obtain ⟨ga, cell, g1, g2, g3⟩ := hS.1 a k vs ha
  obtain ⟨hSl, hfc, kC, hkC, hkind⟩ := (hV.1 k _ hk : u_Kn s C T N (G.1.1 k) (G.1.2 k))
  obtain ⟨cf, kf, fi, f, hi, hsl⟩ := hSl j hj
  have hlay := hts _ (xk_lay hk _ (u_in_lay hj))
  unfold u_lay at hlay
  rw [if_pos hfin] at hlay
  have hst := (u_facts hfc hkC (u_lays hts (xk_lay hk) hj) hi).1
  have hcf : m.cls = cf := by
    obtain ⟨_, _, c', _, _, _, -, -, hf', -, -, -, hown2, -⟩ := Cond.laysFinal_spec hlay
    have e1 : c' = cf := by have := hi.symm.trans hf'; simp at this; exact this.1.symm
    rw [hdecl] at hown2
    rw [← e1]; exact Option.some.inj (hF.2.2.2.2.1.symm.trans hown2)
  have h6 := u_fits hfc hkC hkind (Or.inr hlay) hi hpt hn hf
  have hlt : f.slot < cell.slots.size := by rw [hsl]; exact k2_hasslot (g3.2.1 j v0 h0).2
  refine W.putFinK hF.1 hF.2.1 hF.2.2.2.2.1 (hts _ hlk) hi hst hcf (hF.2.2.2.2.2.2.1.trans hin) (by rw [g3.1]; exact h6) g1 g2 hlt rfl rfl hd fun H' e1 e2 e3 => ?_
  rw [hsl] at e1 ⊢
  exact kk p e R s m args below meth cd H' _ cells slots ls hF hR hl hL (hV.put ga e3) (hS.put ha g1 e1 e2 e3 (k2_slotsz _ _ _) g2 (xcell_set hts hV.1 hk hj g3 h0)) (va_S.put1 hN ga e2 e3)
/-- what 'new' links: kind k, how many slots, the fields' first values -/
def xNw (own : String) (idx k z : Nat) (vs : List Value) : Prop := ∃ (C : String) (T : u_T) (N : Nat), xk[k]? = some (.inl (C, T, N)) ∧ vs.length = N ∧ (∀ j, j < N → (parseFieldDescriptor (T j).2.2.1).map defaultValue = vs[j]?) ∧ Cond.classLink own idx C ∈ xT ∧ Cond.instantiable C z ∈ xT ∧ Cond.initialized C ∈ xT
theorem x_new {k z idx : Nat} {vs : List Value} (hx : xNw M.1.cls idx k z vs) (hc : c + 1 ≤ xCB) (hn : n + z ≤ xSB) (hd : decode M.2.1 pc = .ok (.new idx, 3)) (kk : ∀ q : Nat, h q = none → G.2.2.1 q = none → XX l G M d (pc + 3) L (.ref q :: rest) (xup h q (k, vs)) (c + 1) (n + z) P) : XX l G M d pc L rest h c n P := by
  intro p e R s m args below meth cd H locs cells slots ls hF hR hl hL hV hS hN
  obtain ⟨C, T, N, hk, hlen, hdef, h1, h2, h3⟩ := hx
  have hts := hV.ts args
  have hKn := (hV.1 k _ hk : u_Kn s C T N (G.1.1 k) (G.1.2 k))
  obtain ⟨r1, r2, r3, r4, r5⟩ := hR
  obtain ⟨s1, s2, s3, s4, s5, s6⟩ := hS
  refine x_mono r5 fun m1 m2 => ?_
  refine x_tight (k := R.cells - 1) (j := R.slots - z) r5 (by rw [r3]; omega) (by rw [r4]; omega) ?_
  refine W.newc hF.1 hF.2.1 hF.2.2.2.2.1 (hts _ h1) (hts _ h2) (hts _ h3) rfl hd (by rw [r3]; omega) (by rw [r4]; omega) fun cC kC f1 f2 f3 f4 => ?_
  have hcC : cC = G.1.1 k := Option.some.inj (f1.symm.trans hKn.2.1)
  subst hcC
  have hnk : xN k = N := by unfold xN; rw [hk]
  have hak : xarr k = false := by unfold xarr; rw [hk]
  have hb : t_OB H.size (G.1.1 k) N (G.1.2 k) (H.push { cls := G.1.1 k, slots := kC.instanceTypes.map defaultValue, vm := .none }) (fun j => defaultValue ((parseFieldDescriptor (T j).2.2.1).getD .int)) := by
    refine u_born (fun j => (parseFieldDescriptor (T j).2.2.1).getD .int) hts (xk_lay hk) hKn f2 Array.getElem?_push_size (fun j hj => ?_)
    obtain ⟨ty, hty⟩ := xk_ty hk j hj
    rw [hty]; rfl
  obtain ⟨cell, b1, b2, b3, b4⟩ := hb
  rw [Array.getElem?_push_size] at b1
  cases b1
  have hcell : xcell G.1 k vs { cls := G.1.1 k, slots := kC.instanceTypes.map defaultValue, vm := .none } := by
    refine ⟨rfl, fun j v hv => ?_, fun q => by rw [hak] at q; cases q⟩
    have hj : j < N := by rw [← hlen]; exact (List.getElem?_eq_some_iff.mp hv).1
    refine ⟨Or.inr (by rw [hnk]; exact hj), ?_⟩
    rw [b4 j hj]
    have hdj := hdef j hj
    obtain ⟨ty, hty⟩ := xk_ty hk j hj
    rw [hv, hty] at hdj
    dsimp only
    rw [hty]
    exact hdj
  obtain ⟨hS', hno⟩ := xS.new (k := k) (z := z) (vs := vs) (cell := { cls := G.1.1 k, slots := kC.instanceTypes.map defaultValue, vm := .none }) ⟨s1, s2, s3, s4, s5, s6⟩ rfl (by simp [f4]) hcell hc hn
  exact kk H.size hno (xkh.none hV ⟨s1, s2, s3, s4, s5, s6⟩) p e R s m args below meth cd _ locs _ _ ls hF ⟨r1, r2, r3, r4, r5⟩ hl hL hV.new hS' (va_S.new hN)
/-! arrays -/
theorem xarr_ok {s : State} {k : Nat} {ty : FieldType} {D : va_G} {cell : Cell} {vs : List Value} (hK : xK D s) (hk : xk[k]? = some (.inr ty)) (hc : xcell D k vs cell) (hs : cell.vm.isStatics = false) : s.isArrayOf cell ty := by
  obtain ⟨h1, -, -⟩ := (hK k _ hk : ArrOfT s (D.1 k) ty ∧ va_RA s (D.1 k) ty ∧ ∀ j : Nat, D.2 k j = j)
  obtain ⟨-, h2⟩ := h1 0 (fun _ => .null)
  rw [← hc.1] at h2
  exact ⟨fun q hq => (by rw [hq] at hs; cases hs), h2⟩
theorem xarr_at {s : State} {k j : Nat} {ty : FieldType} {D : va_G} {cell : Cell} {vs : List Value} {v : Value} (hK : xK D s) (hk : xk[k]? = some (.inr ty)) (hc : ∀ (j : Nat) (v : Value), vs[j]? = some v → (xarr k = true ∨ j < xN k) ∧ cell.slots[D.2 k j]? = some v) (hv : vs[j]? = some v) : cell.slots[j]? = some v := by
  obtain ⟨-, -, h3⟩ := (hK k _ hk : ArrOfT s (D.1 k) ty ∧ va_RA s (D.1 k) ty ∧ ∀ j : Nat, D.2 k j = j)
  have := (hc j v hv).2
  rwa [h3 j] at this
theorem xarr_sz {k : Nat} {ty : FieldType} {D : va_G} {cell : Cell} {vs : List Value} (hk : xk[k]? = some (.inr ty)) (hc : xcell D k vs cell) : cell.slots.size = vs.length := hc.2.2 (xarr_of hk)
theorem xarr_okw {s : State} {k : Nat} {ty : FieldType} {D : va_G} {cell : Cell} {vs : List Value} (hk : xk[k]? = some (.inr ty)) (hc : xcellW D s k vs cell) : s.isArrayOf cell ty := (hc.2.2 ty hk).1
theorem xarr_szw {s : State} {k : Nat} {ty : FieldType} {D : va_G} {cell : Cell} {vs : List Value} (hk : xk[k]? = some (.inr ty)) (hc : xcellW D s k vs cell) : vs.length ≤ cell.slots.size := (hc.2.2 ty hk).2.1
theorem xarr_szi {s : State} {k : Nat} {ty : FieldType} {D : va_G} {cell : Cell} {vs : List Value} (hk : xk[k]? = some (.inr ty)) (hc : xcellW D s k vs cell) : cell.slots.size.toInt32 = Int32.ofNat vs.length := (hc.2.2 ty hk).2.2
theorem xarr_in {i : Int32} {vs : List Value} {v : Value} (h0 : ¬ i < 0) (hv : vs[i.toNatClampNeg]? = some v) {cell : Cell} (hz : vs.length ≤ cell.slots.size) : ¬ (i < 0 ∨ cell.slots.size ≤ i.toNatClampNeg) := by
  rintro (q | q)
  · exact h0 q
  · have := (List.getElem?_eq_some_iff.mp hv).1
    omega
theorem xarr_set {s : State} {k j : Nat} {ty : FieldType} {D : va_G} {cell : Cell} {vs : List Value} {v v0 : Value} (hK : xK D s) (hk : xk[k]? = some (.inr ty)) (hc : xcell D k vs cell) (h0 : vs[j]? = some v0) : xcell D k (vs.set j v) (cell.setSlot j v) := by
  have h3 := (hK k _ hk : ArrOfT s (D.1 k) ty ∧ va_RA s (D.1 k) ty ∧ ∀ j : Nat, D.2 k j = j).2.2
  have hjl : j < vs.length := (List.getElem?_eq_some_iff.mp h0).1
  refine ⟨hc.1, fun i w hw => ⟨Or.inl (xarr_of hk), ?_⟩, fun q => by rw [k2_slotsz, hc.2.2 q, List.length_set]⟩
  rw [h3 i]
  by_cases hij : i = j
  · subst hij
    rw [List.getElem?_set_self hjl] at hw
    cases hw
    exact Cell.slots_setSlot_self _ (k2_hasslot (xarr_at hK hk hc.2.1 h0))
  · rw [List.getElem?_set_ne (Ne.symm hij)] at hw
    rw [slot_ne _ _ (Ne.symm hij)]
    exact xarr_at hK hk hc.2.1 hw
theorem x_alen {a k : Nat} {vs : List Value} {ty : FieldType} {v : Int32} (hk : xk[k]? = some (.inr ty)) (ha : xr G h a k vs) (hv : Int32.ofNat vs.length = v) (hd : decode M.2.1 pc = .ok (.arraylength, 1)) (kk : XX l G M d (pc + 1) L (.int v :: rest) h c n P) : XX l G M d pc L (.ref a :: rest) h c n P := by
  intro p e R s m args below meth cd H locs cells slots ls hF hR hl hL hV hS hN
  obtain ⟨cell, g1, g2, g2', g3⟩ := xr_cell ha hV hS
  exact W.alen hF.1 hF.2.1 g1 (xarr_okw hk g3) ((xarr_szi hk g3).trans hv) rfl rfl hd (kk p e R s m args below meth cd H locs cells slots ls hF hR hl hL hV hS hN)
theorem x_iald {a k : Nat} {vs : List Value} {i : Int32} {v : Value} (hk : xk[k]? = some (.inr .int)) (ha : xr G h a k vs) (h0 : ¬ i < 0) (hv : vs[i.toNatClampNeg]? = some v) (hd : decode M.2.1 pc = .ok (.iaload, 1)) (kk : XX l G M d (pc + 1) L (v :: rest) h c n P) : XX l G M d pc L (.int i :: .ref a :: rest) h c n P := by
  intro p e R s m args below meth cd H locs cells slots ls hF hR hl hL hV hS hN
  obtain ⟨cell, g1, g2, g2', g3⟩ := xr_cell ha hV hS
  exact W.iald hF.1 hF.2.1 g1 (xarr_okw hk g3) g2 (xarr_in h0 hv (xarr_szw hk g3)) (xarr_at hV.1 hk g3.2.1 hv) rfl rfl hd (kk p e R s m args below meth cd H locs cells slots ls hF hR hl hL hV hS hN)
theorem x_bald {a k : Nat} {vs : List Value} {i : Int32} {v : Value} (hk : xk[k]? = some (.inr .byte)) (ha : xr G h a k vs) (h0 : ¬ i < 0) (hv : vs[i.toNatClampNeg]? = some v) (hd : decode M.2.1 pc = .ok (.baload, 1)) (kk : XX l G M d (pc + 1) L (v :: rest) h c n P) : XX l G M d pc L (.int i :: .ref a :: rest) h c n P := by
  intro p e R s m args below meth cd H locs cells slots ls hF hR hl hL hV hS hN
  obtain ⟨cell, g1, g2, g2', g3⟩ := xr_cell ha hV hS
  exact W.bald hF.1 hF.2.1 g1 (xarr_okw hk g3) g2 (xarr_in h0 hv (xarr_szw hk g3)) (xarr_at hV.1 hk g3.2.1 hv) rfl rfl hd (kk p e R s m args below meth cd H locs cells slots ls hF hR hl hL hV hS hN)
theorem x_zald {a k : Nat} {vs : List Value} {i : Int32} {v : Value} (hk : xk[k]? = some (.inr .boolean)) (ha : xr G h a k vs) (h0 : ¬ i < 0) (hv : vs[i.toNatClampNeg]? = some v) (hd : decode M.2.1 pc = .ok (.baload, 1)) (kk : XX l G M d (pc + 1) L (v :: rest) h c n P) : XX l G M d pc L (.int i :: .ref a :: rest) h c n P := by
  intro p e R s m args below meth cd H locs cells slots ls hF hR hl hL hV hS hN
  obtain ⟨cell, g1, g2, g2', g3⟩ := xr_cell ha hV hS
  exact W.zald hF.1 hF.2.1 g1 (xarr_okw hk g3) g2 (xarr_in h0 hv (xarr_szw hk g3)) (xarr_at hV.1 hk g3.2.1 hv) rfl rfl hd (kk p e R s m args below meth cd H locs cells slots ls hF hR hl hL hV hS hN)
theorem x_cald {a k : Nat} {vs : List Value} {i : Int32} {v : Value} (hk : xk[k]? = some (.inr .char)) (ha : xr G h a k vs) (h0 : ¬ i < 0) (hv : vs[i.toNatClampNeg]? = some v) (hd : decode M.2.1 pc = .ok (.caload, 1)) (kk : XX l G M d (pc + 1) L (v :: rest) h c n P) : XX l G M d pc L (.int i :: .ref a :: rest) h c n P := by
  intro p e R s m args below meth cd H locs cells slots ls hF hR hl hL hV hS hN
  obtain ⟨cell, g1, g2, g2', g3⟩ := xr_cell ha hV hS
  exact W.cald hF.1 hF.2.1 g1 (xarr_okw hk g3) g2 (xarr_in h0 hv (xarr_szw hk g3)) (xarr_at hV.1 hk g3.2.1 hv) rfl rfl hd (kk p e R s m args below meth cd H locs cells slots ls hF hR hl hL hV hS hN)
theorem x_lald {a k : Nat} {vs : List Value} {i : Int32} {v : Value} (hk : xk[k]? = some (.inr .long)) (ha : xr G h a k vs) (h0 : ¬ i < 0) (hv : vs[i.toNatClampNeg]? = some v) (hd : decode M.2.1 pc = .ok (.laload, 1)) (kk : XX l G M d (pc + 1) L (v :: rest) h c n P) : XX l G M d pc L (.int i :: .ref a :: rest) h c n P := by
  intro p e R s m args below meth cd H locs cells slots ls hF hR hl hL hV hS hN
  obtain ⟨cell, g1, g2, g2', g3⟩ := xr_cell ha hV hS
  exact W.lald hF.1 hF.2.1 g1 (xarr_okw hk g3) g2 (xarr_in h0 hv (xarr_szw hk g3)) (xarr_at hV.1 hk g3.2.1 hv) rfl rfl hd (kk p e R s m args below meth cd H locs cells slots ls hF hR hl hL hV hS hN)
theorem x_aald {a k : Nat} {vs : List Value} {i : Int32} {v : Value} {ty : FieldType} (hk : xk[k]? = some (.inr ty)) (hty : ty.isReference = true) (ha : xr G h a k vs) (h0 : ¬ i < 0) (hv : vs[i.toNatClampNeg]? = some v) (hd : decode M.2.1 pc = .ok (.aaload, 1)) (kk : XX l G M d (pc + 1) L (v :: rest) h c n P) : XX l G M d pc L (.int i :: .ref a :: rest) h c n P := by
  intro p e R s m args below meth cd H locs cells slots ls hF hR hl hL hV hS hN
  obtain ⟨cell, g1, g2, g2', g3⟩ := xr_cell ha hV hS
  exact W.aald hF.1 hF.2.1 g1 (xarr_okw hk g3) hty g2 (xarr_in h0 hv (xarr_szw hk g3)) (xarr_at hV.1 hk g3.2.1 hv) rfl rfl hd (kk p e R s m args below meth cd H locs cells slots ls hF hR hl hL hV hS hN)
theorem x_iast {a k : Nat} {vs : List Value} {i : Int32} {x : Int32} {v0 : Value} (hk : xk[k]? = some (.inr .int)) (ha : h a = some (k, vs)) (h0 : ¬ i < 0) (hv : vs[i.toNatClampNeg]? = some v0) (hd : decode M.2.1 pc = .ok (.iastore, 1)) (kk : XX l G M d (pc + 1) L rest (xup h a (k, vs.set i.toNatClampNeg (.int x))) c n P) : XX l G M d pc L (.int x :: .int i :: .ref a :: rest) h c n P := by
  intro p e R s m args below meth cd H locs cells slots ls hF hR hl hL hV hS hN
  obtain ⟨ga, cell, g1, g2, g3⟩ := hS.1 a k vs ha
  have g2' : cell.vm.isStatics = false := by rw [g2]; rfl
  refine W.iast hF.1 hF.2.1 g1 (xarr_ok hV.1 hk g3 g2') (by rw [g2]; exact fun q => (by cases q)) (xarr_in h0 hv (Nat.le_of_eq (xarr_sz hk g3).symm)) rfl rfl hd fun H' e1 e2 e3 => ?_
  exact kk p e R s m args below meth cd H' _ cells slots ls hF hR hl hL (hV.put ga e3) (hS.put ha g1 e1 e2 e3 (k2_slotsz _ _ _) g2 (xarr_set hV.1 hk g3 hv)) (va_S.put1 hN ga e2 e3)
theorem x_last {a k : Nat} {vs : List Value} {i : Int32} {x : Int64} {v0 : Value} (hk : xk[k]? = some (.inr .long)) (ha : h a = some (k, vs)) (h0 : ¬ i < 0) (hv : vs[i.toNatClampNeg]? = some v0) (hd : decode M.2.1 pc = .ok (.lastore, 1)) (kk : XX l G M d (pc + 1) L rest (xup h a (k, vs.set i.toNatClampNeg (.long x))) c n P) : XX l G M d pc L (.long x :: .int i :: .ref a :: rest) h c n P := by
  intro p e R s m args below meth cd H locs cells slots ls hF hR hl hL hV hS hN
  obtain ⟨ga, cell, g1, g2, g3⟩ := hS.1 a k vs ha
  have g2' : cell.vm.isStatics = false := by rw [g2]; rfl
  refine W.last hF.1 hF.2.1 g1 (xarr_ok hV.1 hk g3 g2') (by rw [g2]; exact fun q => (by cases q)) (xarr_in h0 hv (Nat.le_of_eq (xarr_sz hk g3).symm)) rfl rfl hd fun H' e1 e2 e3 => ?_
  exact kk p e R s m args below meth cd H' _ cells slots ls hF hR hl hL (hV.put ga e3) (hS.put ha g1 e1 e2 e3 (k2_slotsz _ _ _) g2 (xarr_set hV.1 hk g3 hv)) (va_S.put1 hN ga e2 e3)
/-- a new array of numbers -/
theorem x_newa {k : Nat} {atype : ArrayType} {ty : FieldType} {i : Int32} {z : Nat} (hk : xk[k]? = some (.inr ty)) (hty : newarray.typeOf atype = ty) (hno : ∀ C, ty ≠ .object C) (hw : Cond.arrayClass ty ∈ xT) (h0 : ¬ i < 0) (hz : i.toNatClampNeg = z) (hb : z * componentBytes ty ≤ 536870912) (hc : c + 1 ≤ xCB) (hn : n + z ≤ xSB) (hd : decode M.2.1 pc = .ok (.newarray atype, 2))
    (kk : ∀ q : Nat, h q = none → G.2.2.1 q = none → XX l G M d (pc + 2) L (.ref q :: rest) (xup h q (k, List.replicate z (defaultValue ty))) (c + 1) (n + z) P) : XX l G M d pc L (.int i :: rest) h c n P := by
  intro p e R s m args below meth cd H locs cells slots ls hF hR hl hL hV hS hN
  subst hty
  subst hz
  have hts := hV.ts args
  obtain ⟨q1, q2, q3⟩ := (hV.1 k _ hk : ArrOfT s (G.1.1 k) (newarray.typeOf atype) ∧ va_RA s (G.1.1 k) (newarray.typeOf atype) ∧ ∀ j : Nat, G.1.2 k j = j)
  obtain ⟨r1, r2, r3, r4, r5⟩ := hR
  obtain ⟨s1, s2, s3, s4, s5, s6⟩ := hS
  refine x_mono r5 fun m1 m2 => ?_
  refine x_tight (k := R.cells - 1) (j := R.slots - i.toNatClampNeg) r5 (by rw [r3]; omega) (by rw [r4]; omega) ?_
  refine W.newa hF.1 hF.2.1 (hts _ hw) rfl hd rfl h0 hb (by rw [r3]; omega) (by rw [r4]; omega) fun cA kA comp f1 f2 f3 => ?_
  have hcA : s.vm.findClass ("[" ++ (newarray.typeOf atype).toString) = some (G.1.1 k) := by
    revert q2 hno
    generalize newarray.typeOf atype = ty
    intro hno q2
    cases ty <;> first | exact q2 | exact absurd rfl (hno _)
  have hcC : cA = G.1.1 k := Option.some.inj (f1.symm.trans hcA)
  subst hcC
  have hcell : xcell G.1 k (List.replicate i.toNatClampNeg (defaultValue (newarray.typeOf atype))) { cls := G.1.1 k, slots := Array.replicate i.toNatClampNeg (defaultValue (newarray.typeOf atype)), vm := .none } := by
    refine ⟨rfl, fun j v hv => ⟨Or.inl (xarr_of hk), ?_⟩, fun _ => by simp⟩
    rw [q3 j]
    rw [List.getElem?_replicate] at hv
    simp only [Array.getElem?_replicate]
    exact hv
  obtain ⟨hS', hno'⟩ := xS.new (k := k) (z := i.toNatClampNeg) (cell := { cls := G.1.1 k, slots := Array.replicate i.toNatClampNeg (defaultValue (newarray.typeOf atype)), vm := .none }) ⟨s1, s2, s3, s4, s5, s6⟩ rfl (by simp) hcell hc hn
  exact kk H.size hno' (xkh.none hV ⟨s1, s2, s3, s4, s5, s6⟩) p e R s m args below meth cd _ locs _ _ ls hF ⟨r1, r2, r3, r4, r5⟩ hl hL hV.new hS' (va_S.new hN)
end XHP
end
section
section XCL
variable {l : Launch} {G : XG} {M : XMt} {d pc : Nat} {L : List (Option Value)} {rest : List Value} {h : XH} {c n : Nat} {P : XPo}
theorem xNw_warm {w : Cond} (hT : w ∈ xT) {s U : State} (hW : s.WarmedH U.vm) (h : va_Nw w s) : va_Nw w U := by
  rcases (xT_or hT).symm with (⟨ty, rfl⟩ | ⟨C, rfl⟩) | ⟨-, hg⟩
  · exact word_at hW (Or.inr ⟨_, rfl⟩) h
  · exact va_AO.moved hW.alike h
  unfold xgw at hg
  rcases Bool.or_eq_true_iff.mp hg with hg | hg
  · exact word_at hW (Or.inl hg) h
  · split at hg
    · exact word_at hW (Or.inr ⟨_, rfl⟩) h
    · exact va_Nw.warmF hW h
    · exact va_Nw.warmM hW h
    · exact va_Nw.warmD hW h
    · exact va_Nw.warmC hW h
    · exact va_AO.moved hW.alike h
    · cases hg
theorem xK.moved {D : va_G} {u U : State} (hvm : u.vm.Alike U.vm) (hK : xK D u) : xK D U := by
  intro k r hr
  have h1 := hK k r hr
  cases r with
  | inl q => exact u_Kn_moved hvm h1
  | inr ty => exact ⟨arrOfT_moved hvm h1.1, h1.2.1.moved hvm, h1.2.2⟩
theorem xkh.moved {u U : State} {H : Heap} (hvm : u.vm.Alike U.vm) (hk : xkh G u H) : xkh G U H := by
  intro a k vs ha
  obtain ⟨g1, cell, g2, g3, g4, g5⟩ := hk a k vs ha
  exact ⟨g1, cell, g2, g3, g4, g5.moved hvm⟩
theorem xV.warm {s U : State} {H : Heap} (hW : s.WarmedH U.vm) (hV : xV G s H) : xV G U H :=
  ⟨hV.1.moved hW.alike, fun w hw => xNw_warm hw hW (hV.2.1 w hw), ⟨fun q hq => (hV.2.2.1.1 q hq).warm hW, hV.2.2.1.2.1.moved hW.alike, fun q hq => (hV.2.2.1.2.2 q hq).moved hW.alike⟩, fun q hq => (hV.2.2.2.1 q hq).moved hW.alike, hV.2.2.2.2.moved hW.alike⟩
theorem xV.same {s U : State} {H : Heap} (hv : s.vm = U.vm) (hV : xV G s H) : xV G U H := by
  have hA : s.vm.Alike U.vm := by rw [hv]; exact Vm.Alike.refl _
  exact ⟨hV.1.moved hA, fun w hw => xT_same hw hv (hV.2.1 w hw), ⟨fun q hq => (hV.2.2.1.1 q hq).same hv.symm, hV.2.2.1.2.1.moved hA, fun q hq => (hV.2.2.1.2.2 q hq).moved hA⟩, fun q hq => (hV.2.2.2.1 q hq).moved hA, hV.2.2.2.2.moved hA⟩
theorem xPre.blind {c0 n0 : Nat} {av : List Value} : FrameBlind (va_Pc av (xPre G h c n c0 n0)) := by
  intro a U g mk hq
  obtain ⟨q0, q1, q2, q3, q4⟩ := hq
  exact ⟨q0, q1, q2, xV.same (s := U) (U := U.calling g mk a) rfl q3, q4⟩
theorem xPre.at {s U : State} {H : Heap} {av : List Value} (hV : xV G s H) (hS : xS G h c n H) (hU : U.heap = H) (hW : s.WarmedH U.vm) : va_Pc av (xPre G h c n (H.size - G.2.1) (xU G.2.1 H)) av.toArray U :=
  ⟨rfl, by rw [hU]; have := hS.2.1; omega, by rw [hU], by rw [hU]; exact hV.warm hW, by rw [hU]; exact hS⟩
/-- behind a call -/
theorem x_cont {p : Program} {e : Env} {R : Room} {s : State} {m : MethodId} {args a : Array Value} {below : List Frame} {meth : Method} {cd : Code} {H : Heap} {locs : List Loc} {cells slots mc ms : Nat} {Q : State → Prop} {ls : Array Slot} {st0 : List Value} {P' : Option Value → XH → Nat → Nat → Prop}
    (hr : va_Run p l e R s m args below meth cd H locs cells slots mc ms (F0 m pc ls st0) rest (xQ G P' a) (xA G)) (hN : va_S (xA G) s.heap H locs)
    (kk : ∀ (v : Option Value) (h' : XH) (c' n' : Nat) (H1 : Heap) (locs1 : List Loc), P' v h' c' n' → xS G h' c' n' H1 → va_S (xA G) s.heap H1 locs1 → (∀ q : Nat, q < H.size → ¬ xA G q → H1[q]? = H[q]?) → W p l e R s m args below meth cd H1 locs1 (cells + mc) (slots + ms) Q (F0 m (pc + 3) ls (v.toList ++ rest))) : W p l e R s m args below meth cd H locs cells slots Q (F0 m pc ls st0) := by
  intro T hT X
  obtain ⟨v, st₀, t, T', L, h0, X', hL, e1, e2, ⟨⟨v', h', c', n', hv, hp, hb⟩, hz, hk⟩, st⟩ := hr T hT X
  cases hv
  rw [h0] at hz hk
  obtain ⟨t2, a1, b1⟩ := kk v h' c' n' T'.heap (locs ++ L) hp (by rw [e1]; exact hb)
    ⟨Nat.le_trans hN.1 (by rw [e1]; exact hz), fun q h1 h2 => by rw [e1, hk q (Nat.lt_of_lt_of_le h1 hN.1) h2]; exact hN.2.1 q h1 h2, fun q hq => by
      rcases List.mem_append.mp hq with h | h
      · exact hN.2.2 q h
      · exact hL q h⟩ (fun q h1 h2 => by rw [e1]; exact hk q h1 h2) T' rfl X'
  exact ⟨t2, st t2 a1, b1⟩
/-- what a callee's words are -/
def xcb (Mc : XMt) (nn : Nat) : Prop := Cond.code Mc.1 Mc.2.1 Mc.2.2.1 Mc.2.2.2 ∈ xT ∧ Cond.initialized Mc.1.cls ∈ xT ∧ Mc.2.2.1 ≤ 41 ∧ (Mc.1.cls ≠ "java/lang/invoke/MethodHandle" ∧ Mc.1.cls ≠ "java/lang/invoke/VarHandle" ∧ (parseMethodDescriptor Mc.1.desc).map (fun d => d.parameters.length) = some nn)
theorem xcb_good {Mc : XMt} {nn : Nat} (hx : xcb Mc nn) : GoodIn xT [Cond.code Mc.1 Mc.2.1 Mc.2.2.1 Mc.2.2.2] := by
  intro w hw
  rw [List.mem_singleton] at hw
  subst hw
  exact ⟨hx.1, Or.inl (by first | rfl | simp [Cond.onTables, Cond.keeps, Cond.steady])⟩
def xCS (own : String) (idx : Nat) (Mc : XMt) (nn : Nat) : Prop := xcb Mc nn ∧ Cond.static Mc.1 ∈ xT ∧ (Cond.methodLink own idx Mc.1 ∈ xT ∨ ∃ host, Cond.methodLinkNest own idx Mc.1 host ∈ xT)
theorem x_callS {Mc : XMt} {As st : List Value} {idx nn : Nat} {P' : Option Value → XH → Nat → Nat → Prop} (hx : xCS M.1.cls idx Mc nn) (hM : XM l G d Mc As h c n P') (hn : As.length = nn) (hst : st = As.reverse ++ rest) (hr : (rest.map fun v => v.category).sum ≤ 8) (hd : decode M.2.1 pc = .ok (.invokestatic idx, 3))
    (kk : ∀ (v : Option Value) (h' : XH) (c' n' : Nat), P' v h' c' n' → XX l G M (d + 1) (pc + 3) L (v.toList ++ rest) h' c' n' P) : XX l G M (d + 1) pc L st h c n P := by
  intro p e R s m args below meth cd H locs cells slots ls hF hR hl hL hV hS hN
  obtain ⟨hb, hsta, hlk⟩ := hx
  have hts := hV.ts args
  have hR0 := hR
  obtain ⟨r1, r2, r3, r4, r5⟩ := hR
  have hS0 := hS
  obtain ⟨s1, s2, s3, s4, s5, s6⟩ := hS
  have h41 := hb.2.2.1
  refine x_mono r5 fun m1 m2 => ?_
  refine x_tight (k := H.size - s.heap.size) (j := xU G.2.1 H - xU G.2.1 s.heap) r5 (by omega) (by omega) ?_
  have fin := fun (v : Option Value) (h' : XH) (c' n' : Nat) (H1 : Heap) (locs1 : List Loc) (hp : P' v h' c' n') (hS1 : xS G h' c' n' H1) (hN1 : va_S (xA G) s.heap H1 locs1) (hk1 : ∀ q : Nat, q < H.size → ¬ xA G q → H1[q]? = H[q]?) =>
    kk v h' c' n' hp p e R s m args below meth cd H1 locs1 (H.size - s.heap.size + (xCB - (H.size - G.2.1))) (xU G.2.1 H - xU G.2.1 s.heap + (xSB - xU G.2.1 H)) ls hF hR0 hl hL (hV.kept hk1) hS1 hN1
  have hp : PreS s H (va_Pc As (xPre G h c n (H.size - G.2.1) (xU G.2.1 H))) As := ⟨xPre.blind, fun U hU hW => xPre.at hV hS0 hU hW⟩
  have hf : H.size - s.heap.size + (xCB - (H.size - G.2.1)) ≤ R.cells ∧ xU G.2.1 H - xU G.2.1 s.heap + (xSB - xU G.2.1 H) ≤ R.slots := ⟨by rw [r3]; omega, by rw [r4]; omega⟩
  have hRR : (xRm d (H.size - G.2.1) (xU G.2.1 H)).frames + 1 ≤ R.frames ∧ 8 + (Mc.2.2.1 + 11) + (xRm d (H.size - G.2.1) (xU G.2.1 H)).locals ≤ R.locals := ⟨by rw [r1]; exact Nat.le_refl _, by rw [r2]; show 8 + (Mc.2.2.1 + 11) + (d * 60 + 11000) ≤ _; omega⟩
  rcases hlk with hlk | ⟨host, hlk⟩
  · exact x_cont (va_runS (Ts := xT) (bytes := Mc.2.1) (maxL := Mc.2.2.1) (ret := Mc.2.2.2) ⟨hF.1, hF.2.1, hF.2.2.1, hF.2.2.2.2.1, hts⟩ (hM (H.size - G.2.1) (xU G.2.1 H)) ⟨callB_of nn hts (xcb_good hb) rfl rfl rfl (hts _ hb.2.1) (hts _ hlk) hb.2.2.2 hRR, hts _ hsta⟩ hp rfl hn (hl.1.trans hL) hst (by show 2 * 0 + _ ≤ 8; omega) hd hf) hN fin
  · exact x_cont (va_runSN (Ts := xT) (bytes := Mc.2.1) (maxL := Mc.2.2.1) (ret := Mc.2.2.2) ⟨hF.1, hF.2.1, hF.2.2.1, hF.2.2.2.2.1, hts⟩ (hM (H.size - G.2.1) (xU G.2.1 H)) ⟨va_cnB nn hts (xcb_good hb) rfl rfl rfl (hV.2.1 _ hlk) (hts _ hb.2.1) hb.2.2.2 hRR, hts _ hsta, trivial⟩ hp rfl hn (hl.1.trans hL) hst (by show 2 * 0 + _ ≤ 8; omega) hd hf) hN fin
def xCI (own : String) (idx : Nat) (Mc : XMt) (nn : Nat) : Prop := xcb Mc nn ∧ Mc.2.2.2 = none ∧ Mc.1.name = "<init>" ∧ Cond.instanceMethod Mc.1 ∈ xT ∧ (Cond.methodLink own idx Mc.1 ∈ xT ∨ ∃ host, Cond.methodLinkNest own idx Mc.1 host ∈ xT)
theorem x_callI {Mc : XMt} {As st : List Value} {b idx nn : Nat} {P' : Option Value → XH → Nat → Nat → Prop} (hx : xCI M.1.cls idx Mc nn) (hM : XM l G d Mc (.ref b :: As) h c n P') (hn : As.length = nn) (hst : st = As.reverse ++ .ref b :: rest) (hr : (rest.map fun v => v.category).sum ≤ 8) (hd : decode M.2.1 pc = .ok (.invokespecial idx, 3))
    (kk : ∀ (v : Option Value) (h' : XH) (c' n' : Nat), P' v h' c' n' → XX l G M (d + 1) (pc + 3) L (v.toList ++ rest) h' c' n' P) : XX l G M (d + 1) pc L st h c n P := by
  intro p e R s m args below meth cd H locs cells slots ls hF hR hl hL hV hS hN
  obtain ⟨hb, hret, hin, hins, hlk⟩ := hx
  have hts := hV.ts args
  have hR0 := hR
  obtain ⟨r1, r2, r3, r4, r5⟩ := hR
  have hS0 := hS
  obtain ⟨s1, s2, s3, s4, s5, s6⟩ := hS
  have h41 := hb.2.2.1
  have hgood := xcb_good hb
  refine x_mono r5 fun m1 m2 => ?_
  refine x_tight (k := H.size - s.heap.size) (j := xU G.2.1 H - xU G.2.1 s.heap) r5 (by omega) (by omega) ?_
  have fin := fun (v : Option Value) (h' : XH) (c' n' : Nat) (H1 : Heap) (locs1 : List Loc) (hp : P' v h' c' n') (hS1 : xS G h' c' n' H1) (hN1 : va_S (xA G) s.heap H1 locs1) (hk1 : ∀ q : Nat, q < H.size → ¬ xA G q → H1[q]? = H[q]?) =>
    kk v h' c' n' hp p e R s m args below meth cd H1 locs1 (H.size - s.heap.size + (xCB - (H.size - G.2.1))) (xU G.2.1 H - xU G.2.1 s.heap + (xSB - xU G.2.1 H)) ls hF hR0 hl hL (hV.kept hk1) hS1 hN1
  have hp : PreS s H (va_Pc (.ref b :: As) (xPre G h c n (H.size - G.2.1) (xU G.2.1 H))) (.ref b :: As) := ⟨xPre.blind, fun U hU hW => xPre.at hV hS0 hU hW⟩
  have hf : H.size - s.heap.size + (xCB - (H.size - G.2.1)) ≤ R.cells ∧ xU G.2.1 H - xU G.2.1 s.heap + (xSB - xU G.2.1 H) ≤ R.slots := ⟨by rw [r3]; omega, by rw [r4]; omega⟩
  have hRR : (xRm d (H.size - G.2.1) (xU G.2.1 H)).frames + 1 ≤ R.frames ∧ 8 + (Mc.2.2.1 + 11) + (xRm d (H.size - G.2.1) (xU G.2.1 H)).locals ≤ R.locals := ⟨by rw [r1]; exact Nat.le_refl _, by rw [r2]; show 8 + (Mc.2.2.1 + 11) + (d * 60 + 11000) ≤ _; omega⟩
  have hM0 := hM (H.size - G.2.1) (xU G.2.1 H)
  rw [hret] at hM0 hgood
  rcases hlk with hlk | ⟨host, hlk⟩
  · exact x_cont (va_runI (Ts := xT) (bytes := Mc.2.1) (maxL := Mc.2.2.1) ⟨hF.1, hF.2.1, hF.2.2.1, hF.2.2.2.2.1, hts⟩ hM0 ⟨callB_of nn hts hgood rfl rfl rfl (hts _ hb.2.1) (hts _ hlk) hb.2.2.2 hRR, hin, hts _ hins⟩ hp rfl hn (hl.1.trans hL) hst (by show 2 * 0 + _ ≤ 8; omega) hd hf) hN fin
  · exact x_cont (va_runIN (Ts := xT) (bytes := Mc.2.1) (maxL := Mc.2.2.1) ⟨hF.1, hF.2.1, hF.2.2.1, hF.2.2.2.2.1, hts⟩ hM0 ⟨va_cnB nn hts hgood rfl rfl rfl (hV.2.1 _ hlk) (hts _ hb.2.1) hb.2.2.2 hRR, hin, hts _ hins⟩ hp rfl hn (hl.1.trans hL) hst (by show 2 * 0 + _ ≤ 8; omega) hd hf) hN fin
/-- which method a receiver of class C selects -/
def xsl (C : String) (y : MethodName) : Prop := Cond.selects C y y ∈ xT ∨ False
theorem xsl_at {C : String} {y : MethodName} {s : State} {args : Array Value} (h : xsl C y) (hts : ∀ w ∈ xT, w.before args s = true) : (Cond.selects C y y).before args s = true := hts _ (h.elim id False.elim)
/-- a call on a receiver whose kind is known -/
def xCV (own : String) (idx : Nat) (C : String) (Mc : XMt) (nn : Nat) : Prop := xcb Mc nn ∧ Cond.instanceMethod Mc.1 ∈ xT ∧
  ((Cond.methodLink own idx Mc.1 ∈ xT ∧ xsl C Mc.1) ∨ (∃ host, Cond.methodLinkNest own idx Mc.1 host ∈ xT ∧ xsl C Mc.1) ∨
   (∃ (x : MethodName) (owner : String), Cond.methodLink own idx x ∈ xT ∧ Cond.sameMethod x.cls owner x.name x.desc ∈ xT ∧ Cond.selects C x Mc.1 ∈ xT ∧ x.desc = Mc.1.desc ∧ (owner ≠ "java/lang/invoke/MethodHandle" ∧ owner ≠ "java/lang/invoke/VarHandle") ∧ (Cond.declares ⟨owner, x.name, x.desc⟩ ∈ xT ∨ (Cond.instanceMethod ⟨owner, x.name, x.desc⟩ ∈ xT ∧ ∃ b m r, Cond.code ⟨owner, x.name, x.desc⟩ b m r ∈ xT))))
theorem x_callV {Mc : XMt} {As st vs : List Value} {b k idx nn N : Nat} {C : String} {T : u_T} {P' : Option Value → XH → Nat → Nat → Prop} (hk : xk[k]? = some (.inl (C, T, N))) (hx : xCV M.1.cls idx C Mc nn) (ha : xr G h b k vs) (hM : XM l G d Mc (.ref b :: As) h c n P') (hn : As.length = nn) (hst : st = As.reverse ++ .ref b :: rest) (hr : (rest.map fun v => v.category).sum ≤ 8) (hd : decode M.2.1 pc = .ok (.invokevirtual idx, 3))
    (kk : ∀ (v : Option Value) (h' : XH) (c' n' : Nat), P' v h' c' n' → XX l G M (d + 1) (pc + 3) L (v.toList ++ rest) h' c' n' P) : XX l G M (d + 1) pc L st h c n P := by
  intro p e R s m args below meth cd H locs cells slots ls hF hR hl hL hV hS hN
  obtain ⟨hb, hins, hlk⟩ := hx
  have hts := hV.ts args
  have hR0 := hR
  obtain ⟨r1, r2, r3, r4, r5⟩ := hR
  have hS0 := hS
  obtain ⟨s1, s2, s3, s4, s5, s6⟩ := hS
  have h41 := hb.2.2.1
  refine x_mono r5 fun m1 m2 => ?_
  refine x_tight (k := H.size - s.heap.size) (j := xU G.2.1 H - xU G.2.1 s.heap) r5 (by omega) (by omega) ?_
  have fin := fun (v : Option Value) (h' : XH) (c' n' : Nat) (H1 : Heap) (locs1 : List Loc) (hp : P' v h' c' n') (hS1 : xS G h' c' n' H1) (hN1 : va_S (xA G) s.heap H1 locs1) (hk1 : ∀ q : Nat, q < H.size → ¬ xA G q → H1[q]? = H[q]?) =>
    kk v h' c' n' hp p e R s m args below meth cd H1 locs1 (H.size - s.heap.size + (xCB - (H.size - G.2.1))) (xU G.2.1 H - xU G.2.1 s.heap + (xSB - xU G.2.1 H)) ls hF hR0 hl hL (hV.kept hk1) hS1 hN1
  obtain ⟨cellB, b1, -, b2, b3⟩ := xr_cell ha hV hS0
  have hcB : s.vm.findClass C = some cellB.cls := by rw [xcw_cls hk b3]; exact (hV.1 k _ hk : u_Kn s C T N (G.1.1 k) (G.1.2 k)).2.1
  have hp : PreV s H C b (va_Pc (.ref b :: As) (xPre G h c n (H.size - G.2.1) (xU G.2.1 H))) As := ⟨xPre.blind, ⟨cellB, b1, b2, hcB⟩, fun U hU hW => xPre.at hV hS0 hU hW⟩
  have hf : H.size - s.heap.size + (xCB - (H.size - G.2.1)) ≤ R.cells ∧ xU G.2.1 H - xU G.2.1 s.heap + (xSB - xU G.2.1 H) ≤ R.slots := ⟨by rw [r3]; omega, by rw [r4]; omega⟩
  have hRR : (xRm d (H.size - G.2.1) (xU G.2.1 H)).frames + 1 ≤ R.frames ∧ 8 + (Mc.2.2.1 + 11) + (xRm d (H.size - G.2.1) (xU G.2.1 H)).locals ≤ R.locals := ⟨by rw [r1]; exact Nat.le_refl _, by rw [r2]; show 8 + (Mc.2.2.1 + 11) + (d * 60 + 11000) ≤ _; omega⟩
  rcases hlk with ⟨hlk, hsel⟩ | ⟨host, hlk, hsel⟩ | ⟨x, owner, hlk, hsm, hsel, hde, how, hdecl⟩
  · exact x_cont (va_runV (Ts := xT) (C := C) (bytes := Mc.2.1) (maxL := Mc.2.2.1) (ret := Mc.2.2.2) ⟨hF.1, hF.2.1, hF.2.2.1, hF.2.2.2.2.1, hts⟩ (hM (H.size - G.2.1) (xU G.2.1 H)) ⟨callB_of nn hts (xcb_good hb) rfl rfl rfl (hts _ hb.2.1) (hts _ hlk) hb.2.2.2 hRR, hts _ hins, xsl_at hsel hts⟩ hp rfl hn (hl.1.trans hL) hst (by show 2 * 0 + _ ≤ 8; omega) hd hf) hN fin
  · exact x_cont (va_runVN (Ts := xT) (C := C) (bytes := Mc.2.1) (maxL := Mc.2.2.1) (ret := Mc.2.2.2) ⟨hF.1, hF.2.1, hF.2.2.1, hF.2.2.2.2.1, hts⟩ (hM (H.size - G.2.1) (xU G.2.1 H)) ⟨va_cnB nn hts (xcb_good hb) rfl rfl rfl (hV.2.1 _ hlk) (hts _ hb.2.1) hb.2.2.2 hRR, hts _ hins, xsl_at hsel hts⟩ hp rfl hn (hl.1.trans hL) hst (by show 2 * 0 + _ ≤ 8; omega) hd hf) hN fin
  · have hD : va_Decl s ⟨owner, x.name, x.desc⟩ := by
      rcases hdecl with q | ⟨q, b0, m0, r0, q'⟩
      · exact va_Decl.abs (hV.2.1 _ q)
      · exact va_Decl.of (hts _ q) (hts _ q')
    have hcu : va_CU R s args M.1.cls C owner idx x Mc.1 Mc.2.1 Mc.2.2.1 Mc.2.2.2 [Cond.code Mc.1 Mc.2.1 Mc.2.2.1 Mc.2.2.2] (xRm d (H.size - G.2.1) (xU G.2.1 H)) (xCB - (H.size - G.2.1)) (xSB - xU G.2.1 H) nn := by
      refine ⟨⟨rfl, rfl, hRR.1, hRR.2, pay_in hts (xcb_good hb), List.mem_singleton.mpr rfl⟩, hts _ hb.1, hts _ hb.2.1, how, fun sig hsig => ?_, hts _ hlk, hts _ hsm, hD, hts _ hsel, hts _ hins⟩
      have h2 := hb.2.2.2.2.2
      rw [← hde, hsig] at h2
      exact (Option.some.inj h2).symm
    exact x_cont (va_runU (Ts := xT) (C := C) (owner := owner) (bytes := Mc.2.1) (maxL := Mc.2.2.1) (ret := Mc.2.2.2) ⟨hF.1, hF.2.1, hF.2.2.1, hF.2.2.2.2.1, hts⟩ (hM (H.size - G.2.1) (xU G.2.1 H)) hcu hp rfl hn (hl.1.trans hL) hst (by show 2 * 0 + _ ≤ 8; omega) hd hf) hN fin
/-- Object.<init> -/
theorem x_objInit {a idx : Nat} (hlk : Cond.methodLink M.1.cls idx Lib.objectInit ∈ xT) (hin : Cond.instanceMethod Lib.objectInit ∈ xT) (hco : Cond.code Lib.objectInit ⟨#[0xb1]⟩ 1 none ∈ xT) (hr : (rest.map fun v => v.category).sum ≤ 8) (hd : decode M.2.1 pc = .ok (.invokespecial idx, 3)) (kk : XX l G M (d + 1) (pc + 3) L rest h c n P) : XX l G M (d + 1) pc L (.ref a :: rest) h c n P := by
  intro p e R s m args below meth cd H locs cells slots ls hF hR hl hL hV hS hN
  have hts := hV.ts args
  obtain ⟨r1, r2, r3, r4, r5⟩ := hR
  exact W.objInit hF.1 hF.2.1 hF.2.2.2.2.1 (hts _ hlk) (hts _ hin) (hts _ hco) rfl (by show ls.size = _; rw [hl.1, hL, hF.2.2.1]) rfl hd (by rw [r1]; omega) (by rw [r2]; show 2 * 0 + _ + 12 ≤ _; omega) (kk p e R s m args below meth cd H locs cells slots ls hF ⟨r1, r2, r3, r4, r5⟩ hl hL hV hS hN)
/-- constants of the pool -/
theorem x_ldc {idx : Nat} {v : Int32} (hw : Cond.constant M.1.cls idx v ∈ xT) (hd : decode M.2.1 pc = .ok (.ldc idx, 2)) (kk : XX l G M d (pc + 2) L (.int v :: rest) h c n P) : XX l G M d pc L rest h c n P := by
  intro p e R s m args below meth cd H locs cells slots ls hF hR hl hL hV hS hN
  exact lv_ldc hF.1 hF.2.1 hF.2.2.2.2.1 (hV.ts args _ hw) hd (kk p e R s m args below meth cd H locs cells slots ls hF hR hl hL hV hS hN)
theorem x_ldc2 {idx : Nat} {v : Int64} (hw : Cond.constantLong M.1.cls idx v ∈ xT) (hd : decode M.2.1 pc = .ok (.ldc2_w idx, 3)) (kk : XX l G M d (pc + 3) L (.long v :: rest) h c n P) : XX l G M d pc L rest h c n P := by
  intro p e R s m args below meth cd H locs cells slots ls hF hR hl hL hV hS hN
  exact lv_ldc2 hF.1 hF.2.1 hF.2.2.2.2.1 (hV.ts args _ hw) hd (kk p e R s m args below meth cd H locs cells slots ls hF hR hl hL hV hS hN)
theorem x_ldcS {idx i : Nat} {tx : String} (hw : (M.1.cls, idx, tx, i) ∈ xStr) (hd : decode M.2.1 pc = .ok (.ldc idx, 2)) (kk : XX l G M d (pc + 2) L (.ref (G.2.2.2.1 i) :: rest) h c n P) : XX l G M d pc L rest h c n P := by
  intro p e R s m args below meth cd H locs cells slots ls hF hR hl hL hV hS hN
  exact va_ldcS hF.1 hF.2.1 hF.2.2.2.2.1 (hV.2.2.1.1 _ hw) hd (kk p e R s m args below meth cd H locs cells slots ls hF hR hl hL hV hS hN)
theorem x_gets {idx : Nat} {C nm ds : String} {v : Value} (hw : Cond.fieldLink M.1.cls idx C nm ds ∈ xT) (hz : (C, nm, ds, v) ∈ xSta G) (hd : decode M.2.1 pc = .ok (.getstatic idx, 3)) (kk : XX l G M d (pc + 3) L (v :: rest) h c n P) : XX l G M d pc L rest h c n P := by
  intro p e R s m args below meth cd H locs cells slots ls hF hR hl hL hV hS hN
  obtain ⟨cf, kf, fi, f, a, cell, h1, h2, h3, h4, h5, h6, h7, h8⟩ := hV.2.2.2.1 _ hz
  exact W.gets hF.1 hF.2.1 hF.2.2.2.2.1 (hV.ts args _ hw) h1 h2 h3 h4 h5 (fun q => by rw [q] at h6; cases h6) h7 rfl hd (kk p e R s m args below meth cd H locs cells slots ls hF hR hl hL hV hS hN)
end XCL
end
section
section XMO
variable {l : Launch} {G : XG} {M : XMt} {d pc : Nat} {L : List (Option Value)} {rest : List Value} {h : XH} {c n : Nat} {P : XPo}
theorem xisr_rf {v : Value} (hv : xisr v = true) : ∃ r : Option Nat, v = va_rf r := by
  rcases xisr_or hv with rfl | ⟨a, rfl⟩
  · exact ⟨none, rfl⟩
  · exact ⟨some a, rfl⟩
theorem x_acmp_eq {v w : Value} {off : Int} {tgt : Nat} (hv : xisr v = true) (hw : xisr w = true) (hd : decode M.2.1 pc = .ok (.if_acmp .eq off, 3)) (ht : (pc : Int) + off = (tgt : Int)) (kt : v = w → XX l G M d tgt L rest h c n P) (kf : ¬ v = w → XX l G M d (pc + 3) L rest h c n P) : XX l G M d pc L (w :: v :: rest) h c n P := by
  intro p e R s m args below meth cd H locs cells slots ls hF hR hl hL hV hS hN
  obtain ⟨r, rfl⟩ := xisr_rf hv
  obtain ⟨q, rfl⟩ := xisr_rf hw
  exact lv_acmp_eq hF.1 hF.2.1 hd ht (fun e1 => kt (by rw [e1]) p e R s m args below meth cd H locs cells slots ls hF hR hl hL hV hS hN) (fun e1 => kf (fun e2 => e1 (by cases r <;> cases q <;> first | rfl | cases e2 <;> rfl)) p e R s m args below meth cd H locs cells slots ls hF hR hl hL hV hS hN)
theorem x_acmp_ne {v w : Value} {off : Int} {tgt : Nat} (hv : xisr v = true) (hw : xisr w = true) (hd : decode M.2.1 pc = .ok (.if_acmp .ne off, 3)) (ht : (pc : Int) + off = (tgt : Int)) (kt : ¬ v = w → XX l G M d tgt L rest h c n P) (kf : v = w → XX l G M d (pc + 3) L rest h c n P) : XX l G M d pc L (w :: v :: rest) h c n P := by
  intro p e R s m args below meth cd H locs cells slots ls hF hR hl hL hV hS hN
  obtain ⟨r, rfl⟩ := xisr_rf hv
  obtain ⟨q, rfl⟩ := xisr_rf hw
  exact lv_acmp_ne hF.1 hF.2.1 hd ht (fun e1 => kt (fun e2 => e1 (by cases r <;> cases q <;> first | rfl | cases e2 <;> rfl)) p e R s m args below meth cd H locs cells slots ls hF hR hl hL hV hS hN) (fun e1 => kf (by rw [e1]) p e R s m args below meth cd H locs cells slots ls hF hR hl hL hV hS hN)
/-- the class of a cell whose kind is known -/
theorem xr_cls {s : State} {H : Heap} {a k N : Nat} {vs : List Value} {C : String} {T : u_T} (hk : xk[k]? = some (.inl (C, T, N))) (ha : xr G h a k vs) (hV : xV G s H) (hS : xS G h c n H) : ∃ cell : Cell, H[a]? = some cell ∧ cell.vm.isStatics = false ∧ s.vm.findClass C = some cell.cls := by
  obtain ⟨cell, b1, -, b2, b3⟩ := xr_cell ha hV hS
  exact ⟨cell, b1, b2, by rw [xcw_cls hk b3]; exact (hV.1 k _ hk : u_Kn s C T N (G.1.1 k) (G.1.2 k)).2.1⟩
theorem x_castY {a k N idx : Nat} {vs : List Value} {C nm : String} {T : u_T} (hk : xk[k]? = some (.inl (C, T, N))) (hlk : Cond.classLink M.1.cls idx nm ∈ xT) (hcs : C = nm ∨ Cond.castable C nm ∈ xT) (ha : xr G h a k vs) (hd : decode M.2.1 pc = .ok (.checkcast idx, 3)) (kk : XX l G M d (pc + 3) L (.ref a :: rest) h c n P) : XX l G M d pc L (.ref a :: rest) h c n P := by
  intro p e R s m args below meth cd H locs cells slots ls hF hR hl hL hV hS hN
  rcases hcs with rfl | hcs
  · exact va_castS hF.1 hF.2.1 hF.2.2.2.2.1 (hV.ts args _ hlk) (hV.1 k _ hk : u_Kn s C T N (G.1.1 k) (G.1.2 k)).2 (xr_cls hk ha hV hS) hd (kk p e R s m args below meth cd H locs cells slots ls hF hR hl hL hV hS hN)
  · exact va_castY hF.1 hF.2.1 hF.2.2.2.2.1 (hV.ts args _ hlk) (hV.2.1 _ hcs) (xr_cls hk ha hV hS) hd (kk p e R s m args below meth cd H locs cells slots ls hF hR hl hL hV hS hN)
theorem x_instY {a k N idx : Nat} {vs : List Value} {C nm : String} {T : u_T} (hk : xk[k]? = some (.inl (C, T, N))) (hlk : Cond.classLink M.1.cls idx nm ∈ xT) (hcs : C = nm ∨ Cond.castable C nm ∈ xT) (ha : xr G h a k vs) (hd : decode M.2.1 pc = .ok (.instanceof idx, 3)) (kk : XX l G M d (pc + 3) L (.int 1 :: rest) h c n P) : XX l G M d pc L (.ref a :: rest) h c n P := by
  intro p e R s m args below meth cd H locs cells slots ls hF hR hl hL hV hS hN
  rcases hcs with rfl | hcs
  · exact va_instS hF.1 hF.2.1 hF.2.2.2.2.1 (hV.ts args _ hlk) (hV.1 k _ hk : u_Kn s C T N (G.1.1 k) (G.1.2 k)).2 (xr_cls hk ha hV hS) hd (kk p e R s m args below meth cd H locs cells slots ls hF hR hl hL hV hS hN)
  · exact va_instY hF.1 hF.2.1 hF.2.2.2.2.1 (hV.ts args _ hlk) (hV.2.1 _ hcs) (xr_cls hk ha hV hS) hd (kk p e R s m args below meth cd H locs cells slots ls hF hR hl hL hV hS hN)
theorem x_castN {idx : Nat} (hd : decode M.2.1 pc = .ok (.checkcast idx, 3)) (kk : XX l G M d (pc + 3) L (.null :: rest) h c n P) : XX l G M d pc L (.null :: rest) h c n P := by
  intro p e R s m args below meth cd H locs cells slots ls hF hR hl hL hV hS hN
  exact lv_castN hF.1 hF.2.1 hd (kk p e R s m args below meth cd H locs cells slots ls hF hR hl hL hV hS hN)
/-- arrays of references -/
theorem x_anew {k idx z : Nat} {C : String} {i : Int32} (hk : xk[k]? = some (.inr (.object C))) (hlk : Cond.classLink M.1.cls idx C ∈ xT) (hov : Cond.arrayOver (.object C) ∈ xT) (h0 : ¬ i < 0) (hz : i.toNatClampNeg = z) (hb : z * 4 ≤ 536870912) (hc : c + 1 ≤ xCB) (hn : n + z ≤ xSB) (hd : decode M.2.1 pc = .ok (.anewarray idx, 3))
    (kk : ∀ q : Nat, h q = none → G.2.2.1 q = none → XX l G M d (pc + 3) L (.ref q :: rest) (xup h q (k, List.replicate z .null)) (c + 1) (n + z) P) : XX l G M d pc L (.int i :: rest) h c n P := by
  intro p e R s m args below meth cd H locs cells slots ls hF hR hl hL hV hS hN
  subst hz
  have hts := hV.ts args
  obtain ⟨q1, ⟨kA0, comp0, q21, q22, q23, q24⟩, q3⟩ := (hV.1 k _ hk : ArrOfT s (G.1.1 k) (.object C) ∧ va_RA s (G.1.1 k) (.object C) ∧ ∀ j : Nat, G.1.2 k j = j)
  obtain ⟨r1, r2, r3, r4, r5⟩ := hR
  obtain ⟨s1, s2, s3, s4, s5, s6⟩ := hS
  refine x_mono r5 fun m1 m2 => ?_
  refine x_tight (k := R.cells - 1) (j := R.slots - i.toNatClampNeg) r5 (by rw [r3]; omega) (by rw [r4]; omega) ?_
  refine W.anew hF.1 hF.2.1 hF.2.2.2.2.1 (hts _ hlk) (hts _ hov) rfl hd rfl h0 hb (by rw [r3]; omega) (by rw [r4]; omega) fun cA kA comp f1 f2 f3 f4 => ?_
  have hcC : cA = G.1.1 k := Option.some.inj (f1.symm.trans q24)
  subst hcC
  have hcell : xcell G.1 k (List.replicate i.toNatClampNeg .null) { cls := G.1.1 k, slots := Array.replicate i.toNatClampNeg .null, vm := .none } := by
    refine ⟨rfl, fun j v hv => ⟨Or.inl (xarr_of hk), ?_⟩, fun _ => by simp⟩
    rw [q3 j]
    rw [List.getElem?_replicate] at hv
    simp only [Array.getElem?_replicate]
    exact hv
  obtain ⟨hS', hno'⟩ := xS.new (k := k) (z := i.toNatClampNeg) (cell := { cls := G.1.1 k, slots := Array.replicate i.toNatClampNeg .null, vm := .none }) ⟨s1, s2, s3, s4, s5, s6⟩ rfl (by simp) hcell hc hn
  exact kk H.size hno' (xkh.none hV ⟨s1, s2, s3, s4, s5, s6⟩) p e R s m args below meth cd _ locs _ _ ls hF ⟨r1, r2, r3, r4, r5⟩ hl hL hV.new hS' (va_S.new hN)
theorem x_aast {a b k kb N : Nat} {vs vb : List Value} {i : Int32} {v0 : Value} {E C : String} {T : u_T} (hk : xk[k]? = some (.inr (.object E))) (hkb : xk[kb]? = some (.inl (C, T, N))) (hcs : C = E ∨ Cond.castable C E ∈ xT) (ha : h a = some (k, vs)) (hb : xr G h b kb vb) (h0 : ¬ i < 0) (hv : vs[i.toNatClampNeg]? = some v0) (hd : decode M.2.1 pc = .ok (.aastore, 1)) (kk : XX l G M d (pc + 1) L rest (xup h a (k, vs.set i.toNatClampNeg (.ref b))) c n P) : XX l G M d pc L (.ref b :: .int i :: .ref a :: rest) h c n P := by
  intro p e R s m args below meth cd H locs cells slots ls hF hR hl hL hV hS hN
  obtain ⟨ga, cell, g1, g2, g3⟩ := hS.1 a k vs ha
  obtain ⟨cellB, b1, -, b2, b3⟩ := xr_cell hb hV hS
  obtain ⟨q1, ⟨kA, comp, q21, q22, q23, q24⟩, q3⟩ := (hV.1 k _ hk : ArrOfT s (G.1.1 k) (.object E) ∧ va_RA s (G.1.1 k) (.object E) ∧ ∀ j : Nat, G.1.2 k j = j)
  have hKb := (hV.1 kb _ hkb : u_Kn s C T N (G.1.1 kb) (G.1.2 kb)).2
  obtain ⟨kC, hkC, hkind⟩ := hKb.2
  obtain ⟨kcomp, hkcomp, -⟩ := Vm.findClass_spec q23
  have hass : s.vm.assignable cellB.cls comp = true := by
    rw [xcw_cls hkb b3]
    rcases hcs with rfl | hcs
    · have e1 : comp = G.1.1 kb := Option.some.inj (q23.symm.trans hKb.1)
      rw [e1]
      exact va_assign hKb
    · obtain ⟨c0, t0, f1, f2, f3⟩ := Cond.castable_spec (va_Nw.use (A := args) rfl (hV.2.1 _ hcs))
      cases hKb.1.symm.trans f1
      cases q23.symm.trans f2
      exact f3
  have hz := xarr_sz hk g3
  have hlt : i.toNatClampNeg < vs.length := (List.getElem?_eq_some_iff.mp hv).1
  refine W.aast hF.1 hF.2.1 g1 (fun q hq => by rw [g2] at hq; cases hq) (by rw [g2]; exact fun q => (by cases q)) (by rw [g3.1]; exact q21) q22 rfl hkcomp ⟨h0, by omega⟩ b1 (fun q hq => by rw [hq] at b2; cases b2) (by rw [xcw_cls hkb b3]; exact hkC) hass rfl rfl hd fun H' e1 e2 e3 => ?_
  exact kk p e R s m args below meth cd H' _ cells slots ls hF hR hl hL (hV.put ga e3) (hS.put ha g1 e1 e2 e3 (k2_slotsz _ _ _) g2 (xarr_set hV.1 hk g3 hv)) (va_S.put1 hN ga e2 e3)
/-- System.arraycopy of numbers -/
def xcopy (vs0 vs1 : List Value) (sp dp n : Nat) : List Value := vs1.take dp ++ ((vs0.drop sp).take n ++ vs1.drop (dp + n))
theorem xcopy_len {vs0 vs1 : List Value} {sp dp n : Nat} (h4 : sp + n ≤ vs0.length) (h5 : dp + n ≤ vs1.length) : (xcopy vs0 vs1 sp dp n).length = vs1.length := by
  unfold xcopy
  simp
  omega
theorem xcopy_at {vs0 vs1 : List Value} {sp dp n j : Nat} (h4 : sp + n ≤ vs0.length) (h5 : dp + n ≤ vs1.length) : (xcopy vs0 vs1 sp dp n)[j]? = if dp ≤ j ∧ j < dp + n then vs0[sp + (j - dp)]? else vs1[j]? := by
  unfold xcopy
  rw [List.getElem?_append]
  have l1 : (vs1.take dp).length = dp := by rw [List.length_take]; omega
  rw [l1]
  by_cases hj : j < dp
  · rw [if_pos hj, if_neg (by omega), List.getElem?_take, if_pos hj]
  · rw [if_neg hj, List.getElem?_append]
    have l2 : ((vs0.drop sp).take n).length = n := by rw [List.length_take, List.length_drop]; omega
    rw [l2]
    by_cases hj2 : j - dp < n
    · rw [if_pos hj2, if_pos (by omega), List.getElem?_take, if_pos hj2, List.getElem?_drop]
    · rw [if_neg hj2, if_neg (by omega), List.getElem?_drop]
      congr 1
      omega
theorem xnn {z : Int32} (hz : ¬ z < 0) : z.toInt = (z.toNatClampNeg : Int) := by
  have hz0 : (0 : Int) ≤ z.toInt := by
    have := Int32.not_lt.mp hz
    simpa using Int32.le_iff_toInt_le.mp this
  show z.toInt = ((z.toInt.toNat : Nat) : Int)
  omega
set_option maxRecDepth 20000 in
theorem x_copyP {a0 a1 k0 k idx : Nat} {vs0 vs1 : List Value} {ty : FieldType} {sp dp nn : Int32} (hk0 : xk[k0]? = some (.inr ty)) (hk : xk[k]? = some (.inr ty)) (hpr : refKind ty = false) (hlk : Cond.methodLink M.1.cls idx arraycopyName ∈ xT) (hna : Cond.native arraycopyName ∈ xT) (hsta : Cond.static arraycopyName ∈ xT) (hini : Cond.initialized "java/lang/System" ∈ xT)
    (ha0 : xr G h a0 k0 vs0) (ha1 : h a1 = some (k, vs1)) (h1 : ¬ sp < 0) (h2 : ¬ dp < 0) (h3 : ¬ nn < 0) (h4 : sp.toNatClampNeg + nn.toNatClampNeg ≤ vs0.length) (h5 : dp.toNatClampNeg + nn.toNatClampNeg ≤ vs1.length) (hfit : ∀ v ∈ vs0, fits ty v = true) (hr : (rest.map fun v => v.category).sum ≤ 8) (hd : decode M.2.1 pc = .ok (.invokestatic idx, 3))
    (kk : XX l G M (d + 1) (pc + 3) L rest (xup h a1 (k, xcopy vs0 vs1 sp.toNatClampNeg dp.toNatClampNeg nn.toNatClampNeg)) c n P) : XX l G M (d + 1) pc L (.int nn :: .int dp :: .ref a1 :: .int sp :: .ref a0 :: rest) h c n P := by
  intro p e R s m args below meth cd H locs cells slots ls hF hR hl hL hV hS hN
  have hts := hV.ts args
  have hR0 := hR
  obtain ⟨r1, r2, r3, r4, r5⟩ := hR
  obtain ⟨cs, g1, g2, g2', g3⟩ := xr_cell ha0 hV hS
  obtain ⟨ga, cd1, e1, e2, e3⟩ := hS.1 a1 k vs1 ha1
  have hA := (hV.1 k _ hk : ArrOfT s (G.1.1 k) ty ∧ va_RA s (G.1.1 k) ty ∧ ∀ j : Nat, G.1.2 k j = j)
  obtain ⟨-, kA, hkA, cmA, hkk⟩ := hA.1 0 (fun _ => .null)
  have hkA' : s.vm.classes[G.1.1 k]? = some kA := hkA
  obtain ⟨-, kA0, hkA0', cmA0, hkk0⟩ := xarr_okw hk0 g3
  have z0 := xarr_szw hk0 g3
  have z1 := xarr_sz hk e3
  have hat : ∀ j, j < vs0.length → cs.slots[j]? = vs0[j]? := fun j hj => by
    rw [List.getElem?_eq_getElem hj]
    exact xarr_at hV.1 hk0 g3.2.1 (List.getElem?_eq_getElem hj)
  have hgd : ∀ j (hj : j < vs0.length), cs.slots.getD j .null = vs0[j] := fun j hj => by
    rw [Array.getD_eq_getD_getElem?, hat j hj, List.getElem?_eq_getElem hj]
    rfl
  have hnw : nativeFrameWords "java/lang/System" "arraycopy" 5 ≤ 1000 := by decide +kernel
  intro T hT X
  obtain ⟨vm', X', step⟩ := X.arraycopy hF.1 hF.2.2.2.2.1 (hts _ hlk) (hts _ hna) (hts _ hsta) (hts _ hini) (src := a0) (dst := a1) (cs := cs) (cd := cd1) (srcPos := sp) (destPos := dp) (n := nn) (by rw [hT]; exact g1) (by rw [hT]; exact e1)
    (fun q hq => by rw [hq] at g2'; cases g2') (fun q hq => by rw [e2] at hq; cases hq) g2 (by rw [e2]; exact fun q => (by cases q)) hkA0' (by rw [e3.1]; exact hkA') hkk0 hkk (by simp [hpr]) h1 h2 h3
    (by rw [xnn h1, xnn h3]; omega) (by rw [xnn h2, xnn h3, z1]; omega)
    (fun vm₁ _ i hi => by
      have hj : sp.toNatClampNeg + i < vs0.length := by omega
      have hf := hfit _ (List.getElem_mem hj)
      rw [hgd _ hj]
      refine ⟨hf, ?_⟩
      revert hf
      generalize vs0[sp.toNatClampNeg + i] = v
      intro hf
      cases v <;> first | exact True.intro | (exfalso; cases ty <;> simp [refKind] at hpr <;> simp [fits] at hf))
    (g := F0 m pc ls (.int nn :: .int dp :: .ref a1 :: .int sp :: .ref a0 :: rest)) rfl (by show ls.size = _; rw [hl.1, hL, hF.2.2.1]) (rest := rest) rfl (by rw [hF.2.1]; exact hd) (by rw [r1]; omega) (by show 2 * 0 + _ + _ ≤ _; rw [r2]; omega)
  have hlt : a1 < H.size := (Array.getElem?_eq_some_iff.mp e1).1
  have hheap : ((T.setVm vm').setCell a1 (copied cs cd1 sp dp nn)).heap = H.setIfInBounds a1 (copied cs cd1 sp dp nn) := by rw [← hT]; rfl
  have oq : ∀ q : Nat, q ≠ a1 → (H.setIfInBounds a1 (copied cs cd1 sp dp nn))[q]? = H[q]? := fun q hq => by simp [Array.getElem?_setIfInBounds, Ne.symm hq]
  have oa : (H.setIfInBounds a1 (copied cs cd1 sp dp nn))[a1]? = some (copied cs cd1 sp dp nn) := by simp [Array.getElem?_setIfInBounds, hlt]
  obtain ⟨f1, f2, f3, -, -⟩ := Cell.storeRun_facts cd1 dp.toNatClampNeg (cs.stretch sp.toNatClampNeg nn.toNatClampNeg)
  have hsl : (cs.stretch sp.toNatClampNeg nn.toNatClampNeg).length = nn.toNatClampNeg := by simp [Cell.stretch]
  have hcell : xcell G.1 k (xcopy vs0 vs1 sp.toNatClampNeg dp.toNatClampNeg nn.toNatClampNeg) (copied cs cd1 sp dp nn) := by
    refine ⟨f1.trans e3.1, fun j v hv => ⟨Or.inl (xarr_of hk), ?_⟩, fun _ => by rw [f3, z1, xcopy_len h4 h5]⟩
    rw [hA.2.2 j]
    show (cd1.storeRun dp.toNatClampNeg (cs.stretch sp.toNatClampNeg nn.toNatClampNeg)).slots[j]? = some v
    rw [Cell.storeRun_get _ _ _ _ (by rw [hsl, z1]; exact h5), hsl]
    rw [xcopy_at h4 h5] at hv
    by_cases hj : dp.toNatClampNeg ≤ j ∧ j < dp.toNatClampNeg + nn.toNatClampNeg
    · rw [if_pos hj] at hv ⊢
      unfold Cell.stretch
      rw [List.getElem?_map, List.getElem?_range (by omega)]
      have hj' : sp.toNatClampNeg + (j - dp.toNatClampNeg) < vs0.length := by omega
      rw [List.getElem?_eq_getElem hj'] at hv
      simp only [Option.map_some]
      rw [hgd _ hj']
      exact hv
    · rw [if_neg hj] at hv ⊢
      exact xarr_at hV.1 hk e3.2.1 hv
  obtain ⟨t, a1', b1⟩ := kk p e R s m args below meth cd _ _ cells slots ls hF hR0 hl hL (hV.put ga oq) (hS.put ha1 e1 oa (by simp) oq f3 (f2.trans e2) hcell) ⟨by simp; exact hN.1, fun q q1 q2 => by
      rw [oq q (fun e => q2 (by rw [e]; exact ga))]
      exact hN.2.1 q q1 q2, fun q hq => by
      rcases List.mem_append.mp hq with hh | hh
      · exact hN.2.2 q hh
      · obtain ⟨z, -, hz⟩ := List.mem_map.mp hh
        rw [← hz]
        exact ga⟩ _ hheap X'
  exact ⟨t, step t a1', b1⟩
/-- Math.min, Math.max -/
theorem x_mmin {idx : Nat} {x y : Int32} (hlk : Cond.methodLink M.1.cls idx Lib.Math.min.name ∈ xT) (hsta : Cond.static Lib.Math.min.name ∈ xT) (hini : Cond.initialized "java/lang/Math" ∈ xT) (hco : Cond.code Lib.Math.min.name Lib.Math.min.code 2 (some .int) ∈ xT) (hr : (rest.map fun v => v.category).sum ≤ 8) (hd : decode M.2.1 pc = .ok (.invokestatic idx, 3)) (kk : XX l G M (d + 1) (pc + 3) L (.int (if y < x then y else x) :: rest) h c n P) : XX l G M (d + 1) pc L (.int y :: .int x :: rest) h c n P := by
  intro p e R s m args below meth cd H locs cells slots ls hF hR hl hL hV hS hN
  have hts := hV.ts args
  have hR0 := hR
  obtain ⟨r1, r2, r3, r4, r5⟩ := hR
  refine x_end hR0 hS ?_
  exact va_mmin hF.1 hF.2.1 (by rw [hl.1, hL, hF.2.2.1]) hF.2.2.2.2.1 (hts _ hlk) (hts _ hsta) (hts _ hini) (hts _ hco) (by rw [r1]; omega) (by rw [r2]; omega) (Nat.le_refl _) (Nat.le_refl _) hd (kk p e R s m args below meth cd H locs _ _ ls hF hR0 hl hL hV hS hN)
theorem x_mmax {idx : Nat} {x y : Int32} (hlk : Cond.methodLink M.1.cls idx Lib.Math.max.name ∈ xT) (hsta : Cond.static Lib.Math.max.name ∈ xT) (hini : Cond.initialized "java/lang/Math" ∈ xT) (hco : Cond.code Lib.Math.max.name Lib.Math.max.code 2 (some .int) ∈ xT) (hr : (rest.map fun v => v.category).sum ≤ 8) (hd : decode M.2.1 pc = .ok (.invokestatic idx, 3)) (kk : XX l G M (d + 1) (pc + 3) L (.int (if x < y then y else x) :: rest) h c n P) : XX l G M (d + 1) pc L (.int y :: .int x :: rest) h c n P := by
  intro p e R s m args below meth cd H locs cells slots ls hF hR hl hL hV hS hN
  have hts := hV.ts args
  have hR0 := hR
  obtain ⟨r1, r2, r3, r4, r5⟩ := hR
  refine x_end hR0 hS ?_
  exact va_mmax hF.1 hF.2.1 (by rw [hl.1, hL, hF.2.2.1]) hF.2.2.2.2.1 (hts _ hlk) (hts _ hsta) (hts _ hini) (hts _ hco) (by rw [r1]; omega) (by rw [r2]; omega) (Nat.le_refl _) (Nat.le_refl _) hd (kk p e R s m args below meth cd H locs _ _ ls hF hR0 hl hL hV hS hN)
end XMO
end
section
section XM2
variable {l : Launch} {G : XG} {M : XMt} {d pc : Nat} {L : List (Option Value)} {rest : List Value} {h : XH} {c n : Nat} {P : XPo}
theorem x_bast {a k : Nat} {vs : List Value} {i x y : Int32} {v0 : Value} (hk : xk[k]? = some (.inr .byte)) (ha : h a = some (k, vs)) (h0 : ¬ i < 0) (hv : vs[i.toNatClampNeg]? = some v0) (hy : narrow .byte (.int x) = .int y) (hd : decode M.2.1 pc = .ok (.bastore, 1)) (kk : XX l G M d (pc + 1) L rest (xup h a (k, vs.set i.toNatClampNeg (.int y))) c n P) : XX l G M d pc L (.int x :: .int i :: .ref a :: rest) h c n P := by
  intro p e R s m args below meth cd H locs cells slots ls hF hR hl hL hV hS hN
  obtain ⟨ga, cell, g1, g2, g3⟩ := hS.1 a k vs ha
  have g2' : cell.vm.isStatics = false := by rw [g2]; rfl
  refine W.bast hF.1 hF.2.1 g1 (xarr_ok hV.1 hk g3 g2') (by rw [g2]; exact fun q => (by cases q)) (xarr_in h0 hv (Nat.le_of_eq (xarr_sz hk g3).symm)) rfl rfl hd fun H' e1 e2 e3 => ?_
  rw [hy] at e1
  exact kk p e R s m args below meth cd H' _ cells slots ls hF hR hl hL (hV.put ga e3) (hS.put ha g1 e1 e2 e3 (k2_slotsz _ _ _) g2 (xarr_set hV.1 hk g3 hv)) (va_S.put1 hN ga e2 e3)
theorem x_zast {a k : Nat} {vs : List Value} {i x y : Int32} {v0 : Value} (hk : xk[k]? = some (.inr .boolean)) (ha : h a = some (k, vs)) (h0 : ¬ i < 0) (hv : vs[i.toNatClampNeg]? = some v0) (hy : narrow .boolean (.int x) = .int y) (hd : decode M.2.1 pc = .ok (.bastore, 1)) (kk : XX l G M d (pc + 1) L rest (xup h a (k, vs.set i.toNatClampNeg (.int y))) c n P) : XX l G M d pc L (.int x :: .int i :: .ref a :: rest) h c n P := by
  intro p e R s m args below meth cd H locs cells slots ls hF hR hl hL hV hS hN
  obtain ⟨ga, cell, g1, g2, g3⟩ := hS.1 a k vs ha
  have g2' : cell.vm.isStatics = false := by rw [g2]; rfl
  refine W.zast hF.1 hF.2.1 g1 (xarr_ok hV.1 hk g3 g2') (by rw [g2]; exact fun q => (by cases q)) (xarr_in h0 hv (Nat.le_of_eq (xarr_sz hk g3).symm)) rfl rfl hd fun H' e1 e2 e3 => ?_
  rw [hy] at e1
  exact kk p e R s m args below meth cd H' _ cells slots ls hF hR hl hL (hV.put ga e3) (hS.put ha g1 e1 e2 e3 (k2_slotsz _ _ _) g2 (xarr_set hV.1 hk g3 hv)) (va_S.put1 hN ga e2 e3)
/-- super.m(..) -/
def xCU (own : String) (idx : Nat) (Mc : XMt) (nn : Nat) : Prop := xcb Mc nn ∧ Mc.1.name ≠ "<init>" ∧ Cond.instanceMethod Mc.1 ∈ xT ∧ Cond.methodLink own idx Mc.1 ∈ xT ∧ Cond.sameMethod Mc.1.cls Mc.1.cls Mc.1.name Mc.1.desc ∈ xT ∧ Cond.superclass own Mc.1.cls ∈ xT
theorem x_callU {Mc : XMt} {As st vs : List Value} {b k idx nn N : Nat} {C : String} {T : u_T} {P' : Option Value → XH → Nat → Nat → Prop} (hk : xk[k]? = some (.inl (C, T, N))) (hx : xCU M.1.cls idx Mc nn) (ha : xr G h b k vs) (hM : XM l G d Mc (.ref b :: As) h c n P') (hn : As.length = nn) (hst : st = As.reverse ++ .ref b :: rest) (hr : (rest.map fun v => v.category).sum ≤ 8) (hd : decode M.2.1 pc = .ok (.invokespecial idx, 3))
    (kk : ∀ (v : Option Value) (h' : XH) (c' n' : Nat), P' v h' c' n' → XX l G M (d + 1) (pc + 3) L (v.toList ++ rest) h' c' n' P) : XX l G M (d + 1) pc L st h c n P := by
  intro p e R s m args below meth cd H locs cells slots ls hF hR hl hL hV hS hN
  obtain ⟨hb, hno, hins, hlk, hsm, hsu⟩ := hx
  have hts := hV.ts args
  have hR0 := hR
  obtain ⟨r1, r2, r3, r4, r5⟩ := hR
  have hS0 := hS
  obtain ⟨s1, s2, s3, s4, s5, s6⟩ := hS
  have h41 := hb.2.2.1
  refine x_mono r5 fun m1 m2 => ?_
  refine x_tight (k := H.size - s.heap.size) (j := xU G.2.1 H - xU G.2.1 s.heap) r5 (by omega) (by omega) ?_
  have fin := fun (v : Option Value) (h' : XH) (c' n' : Nat) (H1 : Heap) (locs1 : List Loc) (hp : P' v h' c' n') (hS1 : xS G h' c' n' H1) (hN1 : va_S (xA G) s.heap H1 locs1) (hk1 : ∀ q : Nat, q < H.size → ¬ xA G q → H1[q]? = H[q]?) =>
    kk v h' c' n' hp p e R s m args below meth cd H1 locs1 (H.size - s.heap.size + (xCB - (H.size - G.2.1))) (xU G.2.1 H - xU G.2.1 s.heap + (xSB - xU G.2.1 H)) ls hF hR0 hl hL (hV.kept hk1) hS1 hN1
  obtain ⟨cellB, b1, -, b2, b3⟩ := xr_cell ha hV hS0
  have hKn := (hV.1 k _ hk : u_Kn s C T N (G.1.1 k) (G.1.2 k)).2
  have hcB : s.vm.findClass C = some cellB.cls := by rw [xcw_cls hk b3]; exact hKn.1
  have hp : PreV s H C b (va_Pc (.ref b :: As) (xPre G h c n (H.size - G.2.1) (xU G.2.1 H))) As := ⟨xPre.blind, ⟨cellB, b1, b2, hcB⟩, fun U hU hW => xPre.at hV hS0 hU hW⟩
  have hf : H.size - s.heap.size + (xCB - (H.size - G.2.1)) ≤ R.cells ∧ xU G.2.1 H - xU G.2.1 s.heap + (xSB - xU G.2.1 H) ≤ R.slots := ⟨by rw [r3]; omega, by rw [r4]; omega⟩
  have hRR : (xRm d (H.size - G.2.1) (xU G.2.1 H)).frames + 1 ≤ R.frames ∧ 8 + (Mc.2.2.1 + 11) + (xRm d (H.size - G.2.1) (xU G.2.1 H)).locals ≤ R.locals := ⟨by rw [r1]; exact Nat.le_refl _, by rw [r2]; show 8 + (Mc.2.2.1 + 11) + (d * 60 + 11000) ≤ _; omega⟩
  have hcs : va_CS R s args M.1.cls idx Mc.1 Mc.2.1 Mc.2.2.1 Mc.2.2.2 [Cond.code Mc.1 Mc.2.1 Mc.2.2.1 Mc.2.2.2] (xRm d (H.size - G.2.1) (xU G.2.1 H)) (xCB - (H.size - G.2.1)) (xSB - xU G.2.1 H) nn := by
    refine ⟨⟨rfl, rfl, hRR.1, hRR.2, pay_in hts (xcb_good hb), List.mem_singleton.mpr rfl⟩, hts _ hlk, hts _ hsm, hts _ hsu, hts _ hins, hts _ hb.2.1, hts _ hb.1, hno, fun sig hsig => ?_⟩
    have h2 := hb.2.2.2.2.2
    rw [hsig] at h2
    exact (Option.some.inj h2).symm
  exact x_cont (va_runSU (Ts := xT) (C := C) hKn (bytes := Mc.2.1) (maxL := Mc.2.2.1) (ret := Mc.2.2.2) ⟨hF.1, hF.2.1, hF.2.2.1, hF.2.2.2.2.1, hts⟩ (hM (H.size - G.2.1) (xU G.2.1 H)) hcs hp rfl hn (hl.1.trans hL) hst (by show 2 * 0 + _ ≤ 8; omega) hd hf) hN fin
/-- a contract with less room needs no more -/
theorem xr_h {a k : Nat} {vs : List Value} (ha : h a = some (k, vs)) : xr G h a k vs := Or.inl ha
theorem xr_up {a q k : Nat} {vs : List Value} {e : Nat × List Value} (ha : xr G h a k vs) (hq : h q = none) : xr G (xup h q e) a k vs := by
  rcases ha with ha | ha
  · refine Or.inl ?_
    rw [xup_ne (fun z => by rw [z, hq] at ha; cases ha)]
    exact ha
  · exact Or.inr ha
theorem xup_old {a q k : Nat} {vs : List Value} {e : Nat × List Value} (ha : h a = some (k, vs)) (hq : h q = none) : xup h q e a = some (k, vs) := by
  rw [xup_ne (fun z => by rw [z, hq] at ha; cases ha)]
  exact ha
theorem xup_up {q : Nat} {e e' : Nat × List Value} : xup (xup h q e) q e' = xup h q e' := by
  funext z
  by_cases hz : z = q
  · subst hz; rw [xup_self, xup_self]
  · rw [xup_ne hz, xup_ne hz, xup_ne hz]
theorem xup_cm {q r : Nat} {e e' : Nat × List Value} (hqr : q ≠ r) : xup (xup h q e) r e' = xup (xup h r e') q e := by
  funext z
  by_cases hz : z = q
  · subst hz; rw [xup_ne hqr, xup_self, xup_self]
  · rw [xup_ne hz]
    by_cases hr : z = r
    · subst hr; rw [xup_self, xup_self]
    · rw [xup_ne hr, xup_ne hr, xup_ne hz]
theorem x_top {v w : Value} (e : v = w) (k : XX l G M d pc L (w :: rest) h c n P) : XX l G M d pc L (v :: rest) h c n P := by rw [e]; exact k
theorem x_st {st st' : List Value} (e : st = st') (k : XX l G M d pc L st' h c n P) : XX l G M d pc L st h c n P := by rw [e]; exact k
theorem x_lo {L' : List (Option Value)} {st : List Value} (e : L = L') (k : XX l G M d pc L' st h c n P) : XX l G M d pc L st h c n P := by rw [e]; exact k
theorem x_hp {st : List Value} {h' : XH} (e : h = h') (k : XX l G M d pc L st h' c n P) : XX l G M d pc L st h c n P := by rw [e]; exact k
theorem xarr_nm {s : State} {cA : ClassId} {ty : FieldType} (hno : ∀ C, ty ≠ .object C) (h : va_RA s cA ty) : s.vm.findClass ("[" ++ ty.toString) = some cA := by
  cases ty <;> first | exact h | exact absurd rfl (hno _)
/-- a[].clone() of an array of numbers -/
theorem x_clone {a k k1 idx : Nat} {vs : List Value} {ty : FieldType} {ad : String} (hk : xk[k]? = some (.inr ty)) (hk1 : xk[k1]? = some (.inr ty)) (hno : ∀ C, ty ≠ .object C) (had : "[" ++ ty.toString = ad)
    (w1 : Cond.methodLink M.1.cls idx ⟨ad, "clone", "()Ljava/lang/Object;"⟩ ∈ xT) (w2 : Cond.sameMethod ad "java/lang/Object" "clone" "()Ljava/lang/Object;" ∈ xT) (w3 : Cond.native ⟨"java/lang/Object", "clone", "()Ljava/lang/Object;"⟩ ∈ xT) (w4 : Cond.instanceMethod ⟨"java/lang/Object", "clone", "()Ljava/lang/Object;"⟩ ∈ xT) (w5 : Cond.selects ad ⟨ad, "clone", "()Ljava/lang/Object;"⟩ ⟨"java/lang/Object", "clone", "()Ljava/lang/Object;"⟩ ∈ xT) (w6 : Cond.castable ad "java/lang/Cloneable" ∈ xT)
    (ha : h a = some (k, vs)) (hfit : ∀ v ∈ vs, fits ty v = true) (hc : c + 1 ≤ xCB) (hn : n + vs.length ≤ xSB) (hr : (rest.map fun v => v.category).sum ≤ 8) (hd : decode M.2.1 pc = .ok (.invokevirtual idx, 3))
    (kk : ∀ q : Nat, h q = none → G.2.2.1 q = none → XX l G M (d + 1) (pc + 3) L (.ref q :: rest) (xup h q (k1, vs)) (c + 1) (n + vs.length) P) : XX l G M (d + 1) pc L (.ref a :: rest) h c n P := by
  intro p e R s m args below meth cd H locs cells slots ls hF hR hl hL hV hS hN
  have hts := hV.ts args
  have hS0 := hS
  obtain ⟨r1, r2, r3, r4, r5⟩ := hR
  obtain ⟨s1, s2, s3, s4, s5, s6⟩ := hS
  obtain ⟨-, cell, g1, g2o, g3⟩ := hS0.1 a k vs ha
  have g2 : cell.vm ≠ .unknown := by rw [g2o]; exact fun q => (by cases q)
  have g2' : cell.vm.isStatics = false := by rw [g2o]; rfl
  have hA := (hV.1 k _ hk : ArrOfT s (G.1.1 k) ty ∧ va_RA s (G.1.1 k) ty ∧ ∀ j : Nat, G.1.2 k j = j)
  have hnm : s.vm.findClass ad = some (G.1.1 k) := by rw [← had]; exact xarr_nm hno hA.2.1
  have hz := xarr_sz hk g3
  have hat : ∀ (i : Nat) (v : Value), cell.slots[i]? = some v → v ∈ vs := fun i v hv => by
    have hi : i < vs.length := by rw [← hz]; exact (Array.getElem?_eq_some_iff.mp hv).1
    have := xarr_at hV.1 hk g3.2.1 (List.getElem?_eq_getElem hi)
    rw [hv] at this
    cases this
    exact List.getElem_mem hi
  refine x_mono r5 fun m1 m2 => ?_
  refine x_tight (k := R.cells - 1) (j := R.slots - vs.length) r5 (by rw [r3]; omega) (by rw [r4]; omega) ?_
  obtain ⟨c0, t0', f1, f2, f3⟩ := Cond.castable_spec (va_Nw.use (A := args) rfl (hV.2.1 _ w6))
  cases hnm.symm.trans f1
  intro T hT X
  obtain ⟨-, kA, hkA, comp, hkind⟩ := State.isArrayOf_alike X.warmed.alike (hA.1 0 (fun _ => .null))
  obtain ⟨-, kS, hkS, compS, hkindS⟩ := hA.1 0 (fun _ => .null)
  obtain ⟨vm', X', st⟩ := X.cloneArray hF.1 hF.2.2.2.2.1 (hts _ w1) (hts _ w2) (hts _ w3) (hts _ w4) (hts _ w5) (a := a) (cell := cell) (by rw [hT]; exact g1) (fun q hq => (by rw [hq] at g2'; cases g2')) g2 (by rw [g3.1]; exact hnm) f2 (by rw [g3.1]; exact f3)
    (fun i v hv => by
      rw [g3.1]
      have hk' : T.vm.classes[G.1.1 k]? = some kA := hkA
      simpa [State.fitsSlot, State.slotType?, hk', hkind] using hfit v (hat i v hv))
    (g := F0 m pc ls (.ref a :: rest)) rfl (by show ls.size = _; rw [hl.1, hL, hF.2.2.1]) rfl (by rw [hF.2.1]; exact hd) (by rw [r1]; omega) (by show 2 * 0 + _ + 14 ≤ _; rw [r2]; omega) (by rw [r3]; omega) (by rw [r4, hz]; omega) (hloader := by rw [g3.1]; exact Vm.clonesLoader_of_array hkS hkindS)
  have hA1 := (hV.1 k1 _ hk1 : ArrOfT s (G.1.1 k1) ty ∧ va_RA s (G.1.1 k1) ty ∧ ∀ j : Nat, G.1.2 k1 j = j)
  have hkk1 : G.1.1 k = G.1.1 k1 := Option.some.inj ((xarr_nm hno hA.2.1).symm.trans (xarr_nm hno hA1.2.1))
  have hcell : xcell G.1 k1 vs ({ cls := cell.cls, slots := cell.slots } : Cell) := ⟨g3.1.trans hkk1, fun j v hv => ⟨Or.inl (xarr_of hk1), by rw [hA1.2.2 j]; exact xarr_at hV.1 hk g3.2.1 hv⟩, fun _ => hz⟩
  obtain ⟨hS', hno'⟩ := xS.new (k := k1) (z := vs.length) (cell := { cls := cell.cls, slots := cell.slots }) hS0 rfl hz hcell hc hn
  obtain ⟨t, b1, b2⟩ := kk H.size hno' (xkh.none hV hS0) p e R s m args below meth cd _ locs _ _ ls hF ⟨r1, r2, r3, r4, r5⟩ hl hL hV.new hS' (va_S.new hN) _ (by rw [← hT]; rfl) X'
  refine ⟨t, st t ?_, b2⟩
  rw [hT]
  exact b1
theorem x_castA {a k idx : Nat} {vs : List Value} {ty : FieldType} {nm : String} (hk : xk[k]? = some (.inr ty)) (hno : ∀ C, ty ≠ .object C) (had : "[" ++ ty.toString = nm) (hlk : Cond.classLink M.1.cls idx nm ∈ xT) (ha : h a = some (k, vs)) (hd : decode M.2.1 pc = .ok (.checkcast idx, 3)) (kk : XX l G M d (pc + 3) L (.ref a :: rest) h c n P) : XX l G M d pc L (.ref a :: rest) h c n P := by
  intro p e R s m args below meth cd H locs cells slots ls hF hR hl hL hV hS hN
  obtain ⟨-, cell, g1, g2, g3⟩ := hS.1 a k vs ha
  have g2' : cell.vm.isStatics = false := by rw [g2]; rfl
  have hA := (hV.1 k _ hk : ArrOfT s (G.1.1 k) ty ∧ va_RA s (G.1.1 k) ty ∧ ∀ j : Nat, G.1.2 k j = j)
  exact va_castE hF.1 hF.2.1 hF.2.2.2.2.1 (hV.ts args _ hlk) ⟨cell, g1, g2', by rw [g3.1, ← had]; exact xarr_nm hno hA.2.1⟩ hd (kk p e R s m args below meth cd H locs cells slots ls hF hR hl hL hV hS hN)
end XM2
end
section
section XM3
variable {l : Launch} {G : XG} {M : XMt} {d pc : Nat} {L : List (Option Value)} {rest : List Value} {h : XH} {c n : Nat} {P : XPo}
/-- Object[].class -/
theorem x_ldcM {idx : Nat} (hlk : Cond.classLink M.1.cls idx "[Ljava/lang/Object;" ∈ xT) (hd : decode M.2.1 pc = .ok (.ldc idx, 2)) (kk : XX l G M d (pc + 2) L (.ref (G.2.2.2.1 101) :: rest) h c n P) : XX l G M d pc L rest h c n P := by
  intro p e R s m args below meth cd H locs cells slots ls hF hR hl hL hV hS hN
  exact va_ldcM hF.1 hF.2.1 hF.2.2.2.2.1 (hV.ts args _ hlk) hV.2.2.1.2.1 hd (kk p e R s m args below meth cd H locs cells slots ls hF hR hl hL hV hS hN)
/-- getClass() of an Object[] -/
theorem x_getC {a k idx : Nat} {vs : List Value} (hk : xk[k]? = some (.inr (.object "java/lang/Object"))) (w1 : Cond.methodLink M.1.cls idx ⟨"java/lang/Object", "getClass", "()Ljava/lang/Class;"⟩ ∈ xT) (w2 : Cond.declares ⟨"java/lang/Object", "getClass", "()Ljava/lang/Class;"⟩ ∈ xT) (w3 : Cond.selects "[Ljava/lang/Object;" ⟨"java/lang/Object", "getClass", "()Ljava/lang/Class;"⟩ ⟨"java/lang/Object", "getClass", "()Ljava/lang/Class;"⟩ ∈ xT) (w4 : Cond.instanceMethod ⟨"java/lang/Object", "getClass", "()Ljava/lang/Class;"⟩ ∈ xT) (w5 : Cond.native ⟨"java/lang/Object", "getClass", "()Ljava/lang/Class;"⟩ ∈ xT)
    (ha : h a = some (k, vs)) (hr : (rest.map fun v => v.category).sum ≤ 8) (hd : decode M.2.1 pc = .ok (.invokevirtual idx, 3)) (kk : XX l G M (d + 1) (pc + 3) L (.ref (G.2.2.2.1 101) :: rest) h c n P) : XX l G M (d + 1) pc L (.ref a :: rest) h c n P := by
  intro p e R s m args below meth cd H locs cells slots ls hF hR hl hL hV hS hN
  have hts := hV.ts args
  have hR0 := hR
  obtain ⟨r1, r2, r3, r4, r5⟩ := hR
  obtain ⟨-, cell, g1, g2, g3⟩ := hS.1 a k vs ha
  have g2' : cell.vm.isStatics = false := by rw [g2]; rfl
  have hA := (hV.1 k _ hk : ArrOfT s (G.1.1 k) (.object "java/lang/Object") ∧ va_RA s (G.1.1 k) (.object "java/lang/Object") ∧ ∀ j : Nat, G.1.2 k j = j)
  exact va_getC hF.1 hF.2.1 (by rw [hl.1, hL, hF.2.2.1]) hF.2.2.2.2.1 (hts _ w1) (hts _ w2) (hts _ w3) (hts _ w4) (hts _ w5) hV.2.2.1.2.1 ⟨cell, g1, g2', by rw [g3.1]; exact va_nmO hA.2.1 (by decide +kernel)⟩ (by rw [r1]; omega) (by rw [r2]; omega) hd (kk p e R s m args below meth cd H locs cells slots ls hF hR0 hl hL hV hS hN)
/-- a value that an Object[] may hold -/
def xel (G : XG) (h : XH) (E : String) (v : Value) : Prop := v = .null ∨ ∃ (a k N : Nat) (vs : List Value) (C : String) (T : u_T), v = .ref a ∧ xr G h a k vs ∧ xk[k]? = some (.inl (C, T, N)) ∧ Cond.castable C E ∈ xT
theorem x_copyR {a0 a1 k idx : Nat} {vs0 vs1 : List Value} {E : String} {sp dp nn : Int32} (hk : xk[k]? = some (.inr (.object E))) (hlk : Cond.methodLink M.1.cls idx arraycopyName ∈ xT) (hna : Cond.native arraycopyName ∈ xT) (hsta : Cond.static arraycopyName ∈ xT) (hini : Cond.initialized "java/lang/System" ∈ xT)
    (ha0 : h a0 = some (k, vs0)) (ha1 : h a1 = some (k, vs1)) (h1 : ¬ sp < 0) (h2 : ¬ dp < 0) (h3 : ¬ nn < 0) (h4 : sp.toNatClampNeg + nn.toNatClampNeg ≤ vs0.length) (h5 : dp.toNatClampNeg + nn.toNatClampNeg ≤ vs1.length) (hel : ∀ v ∈ vs0, xel G h E v) (hr : (rest.map fun v => v.category).sum ≤ 8) (hd : decode M.2.1 pc = .ok (.invokestatic idx, 3))
    (kk : XX l G M (d + 1) (pc + 3) L rest (xup h a1 (k, xcopy vs0 vs1 sp.toNatClampNeg dp.toNatClampNeg nn.toNatClampNeg)) c n P) : XX l G M (d + 1) pc L (.int nn :: .int dp :: .ref a1 :: .int sp :: .ref a0 :: rest) h c n P := by
  intro p e R s m args below meth cd H locs cells slots ls hF hR hl hL hV hS hN
  have hts := hV.ts args
  have hR0 := hR
  obtain ⟨r1, r2, r3, r4, r5⟩ := hR
  obtain ⟨-, cs, g1, g2o, g3⟩ := hS.1 a0 k vs0 ha0
  have g2 : cs.vm ≠ .unknown := by rw [g2o]; exact fun q => (by cases q)
  have g2' : cs.vm.isStatics = false := by rw [g2o]; rfl
  obtain ⟨ga, cd1, e1, e2, e3⟩ := hS.1 a1 k vs1 ha1
  have hA := (hV.1 k _ hk : ArrOfT s (G.1.1 k) (.object E) ∧ va_RA s (G.1.1 k) (.object E) ∧ ∀ j : Nat, G.1.2 k j = j)
  obtain ⟨kA, comp, hkA', hkk, hcomp, -⟩ := hA.2.1
  have z0 := xarr_sz hk g3
  have z1 := xarr_sz hk e3
  have hat : ∀ j, j < vs0.length → cs.slots[j]? = vs0[j]? := fun j hj => by
    rw [List.getElem?_eq_getElem hj]
    exact xarr_at hV.1 hk g3.2.1 (List.getElem?_eq_getElem hj)
  have hgd : ∀ j (hj : j < vs0.length), cs.slots.getD j .null = vs0[j] := fun j hj => by
    rw [Array.getD_eq_getD_getElem?, hat j hj, List.getElem?_eq_getElem hj]
    rfl
  obtain ⟨kcomp, hkcomp, -⟩ := Vm.findClass_spec hcomp
  have hnw : nativeFrameWords "java/lang/System" "arraycopy" 5 ≤ 1000 := by decide +kernel
  intro T hT X
  obtain ⟨vm', X', step⟩ := X.arraycopy hF.1 hF.2.2.2.2.1 (hts _ hlk) (hts _ hna) (hts _ hsta) (hts _ hini) (src := a0) (dst := a1) (cs := cs) (cd := cd1) (srcPos := sp) (destPos := dp) (n := nn) (by rw [hT]; exact g1) (by rw [hT]; exact e1)
    (fun q hq => by rw [hq] at g2'; cases g2') (fun q hq => by rw [e2] at hq; cases hq) g2 (by rw [e2]; exact fun q => (by cases q)) (by rw [g3.1]; exact hkA') (by rw [e3.1]; exact hkA') hkk hkk (by simp [refKind]) h1 h2 h3
    (by rw [xnn h1, xnn h3]; omega) (by rw [xnn h2, xnn h3, z1]; omega)
    (fun vm₁ hal i hi => by
      have hj : sp.toNatClampNeg + i < vs0.length := by omega
      have hf := hel _ (List.getElem_mem hj)
      rw [hgd _ hj]
      revert hf
      generalize vs0[sp.toNatClampNeg + i] = v
      rintro (rfl | ⟨a, k', N, vs, C, Tt, rfl, har, hkk', hcas⟩)
      · exact ⟨rfl, trivial⟩
      · refine ⟨rfl, ?_⟩
        obtain ⟨cell, b1, b2, b3, b4⟩ := xr_cell har hV hS
        have hKb := (hV.1 k' _ hkk' : u_Kn s C Tt N (G.1.1 k') (G.1.2 k')).2
        obtain ⟨kC, hkC, -⟩ := hKb.2
        obtain ⟨c0, t0, f1, f2, f3⟩ := Cond.castable_spec (va_Nw.use (A := args) rfl (hV.2.1 _ hcas))
        cases hKb.1.symm.trans f1
        cases hcomp.symm.trans f2
        obtain ⟨kC', hkC', -⟩ := hal.2.2 _ _ hkC
        obtain ⟨kc', hkc', -⟩ := hal.2.2 _ _ hkcomp
        refine ⟨cell, (by show T.heap[a]? = _; rw [hT]; exact b1), (fun q hq => (by rw [hq] at b3; cases b3)), ⟨kC', (by rw [xcw_cls hkk' b4]; exact hkC')⟩, ⟨kc', hkc'⟩, ?_⟩
        rw [xcw_cls hkk' b4]
        show vm₁.assignable _ _ = true
        rw [hal.assignable]
        exact f3)
    (g := F0 m pc ls (.int nn :: .int dp :: .ref a1 :: .int sp :: .ref a0 :: rest)) rfl (by show ls.size = _; rw [hl.1, hL, hF.2.2.1]) (rest := rest) rfl (by rw [hF.2.1]; exact hd) (by rw [r1]; omega) (by show 2 * 0 + _ + _ ≤ _; rw [r2]; omega)
  have hlt : a1 < H.size := (Array.getElem?_eq_some_iff.mp e1).1
  have hheap : ((T.setVm vm').setCell a1 (copied cs cd1 sp dp nn)).heap = H.setIfInBounds a1 (copied cs cd1 sp dp nn) := by rw [← hT]; rfl
  have oq : ∀ q : Nat, q ≠ a1 → (H.setIfInBounds a1 (copied cs cd1 sp dp nn))[q]? = H[q]? := fun q hq => by simp [Array.getElem?_setIfInBounds, Ne.symm hq]
  have oa : (H.setIfInBounds a1 (copied cs cd1 sp dp nn))[a1]? = some (copied cs cd1 sp dp nn) := by simp [Array.getElem?_setIfInBounds, hlt]
  obtain ⟨f1, f2, f3, -, -⟩ := Cell.storeRun_facts cd1 dp.toNatClampNeg (cs.stretch sp.toNatClampNeg nn.toNatClampNeg)
  have hsl : (cs.stretch sp.toNatClampNeg nn.toNatClampNeg).length = nn.toNatClampNeg := by simp [Cell.stretch]
  have hcell : xcell G.1 k (xcopy vs0 vs1 sp.toNatClampNeg dp.toNatClampNeg nn.toNatClampNeg) (copied cs cd1 sp dp nn) := by
    refine ⟨f1.trans e3.1, fun j v hv => ⟨Or.inl (xarr_of hk), ?_⟩, fun _ => by rw [f3, z1, xcopy_len h4 h5]⟩
    rw [hA.2.2 j]
    show (cd1.storeRun dp.toNatClampNeg (cs.stretch sp.toNatClampNeg nn.toNatClampNeg)).slots[j]? = some v
    rw [Cell.storeRun_get _ _ _ _ (by rw [hsl, z1]; exact h5), hsl]
    rw [xcopy_at h4 h5] at hv
    by_cases hj : dp.toNatClampNeg ≤ j ∧ j < dp.toNatClampNeg + nn.toNatClampNeg
    · rw [if_pos hj] at hv ⊢
      unfold Cell.stretch
      rw [List.getElem?_map, List.getElem?_range (by omega)]
      have hj' : sp.toNatClampNeg + (j - dp.toNatClampNeg) < vs0.length := by omega
      rw [List.getElem?_eq_getElem hj'] at hv
      simp only [Option.map_some]
      rw [hgd _ hj']
      exact hv
    · rw [if_neg hj] at hv ⊢
      exact xarr_at hV.1 hk e3.2.1 hv
  obtain ⟨t, a1', b1⟩ := kk p e R s m args below meth cd _ _ cells slots ls hF hR0 hl hL (hV.put ga oq) (hS.put ha1 e1 oa (by simp) oq f3 (f2.trans e2) hcell) ⟨by simp; exact hN.1, fun q q1 q2 => by
      rw [oq q (fun e => q2 (by rw [e]; exact ga))]
      exact hN.2.1 q q1 q2, fun q hq => by
      rcases List.mem_append.mp hq with hh | hh
      · exact hN.2.2 q hh
      · obtain ⟨z, -, hz⟩ := List.mem_map.mp hh
        rw [← hz]
        exact ga⟩ _ hheap X'
  exact ⟨t, step t a1', b1⟩
end XM3
end
section
/-! THROWS: methods that may throw, callers that catch. A thrown object is told to P as some (.retAddr its address). -/
section XTH
variable {l : Launch} {G : XG} {M : XMt} {d pc : Nat} {L : List (Option Value)} {rest : List Value} {h : XH} {c n : Nat} {P : Option Value → XH → Nat → Nat → Prop}
def xo : Outcome → Option Value
  | .returned v => v
  | .threw a => some (.retAddr a)
def xQT (G : XG) (P : Option Value → XH → Nat → Nat → Prop) (st : State) (o : Outcome) (t : State) : Prop := (∃ (h : XH) (c n : Nat), P (xo o) h c n ∧ xS G h c n t.heap) ∧ va_F (xA G) st t ∧ ∀ (v : Option Value) (a : Nat), o = .returned v → v ≠ some (.retAddr a)
def xFE (G : XG) (st t : State) (mc ms : Nat) : Prop := ∃ Lo : List Loc, st.WarmedH t.vm ∧ st.sameButNew ({ t with vm := st.vm } : State) Lo mc ms ∧ ∀ q ∈ Lo, xA G q.base
/-- the end: it returns with P, or throws -/
def xret2 (G : XG) (P : Option Value → XH → Nat → Nat → Prop) : XPo := fun below _ s R t => ∃ o, t.status = .running ∧ Ended t below o ∧ xQT G P s o t ∧ xFE G s t R.cells R.slots
theorem x_ret2 {st : List Value} (k : XW l G M d pc L st h c n (fun v h' c' n' => (∀ a, v ≠ some (.retAddr a)) ∧ P v h' c' n')) : XX l G M d pc L st h c n (xret2 G P) := by
  intro p e R s m args below meth cd H locs cells slots ls hF hR hl hL hV hS hN T hT X
  obtain ⟨t, a1, o, b1, b2, ⟨⟨v, h', c', n', e1, e2, e3⟩, e4⟩, Lo, ⟨-, w1, w2⟩, w3⟩ := k p e R s m args below meth cd H locs cells slots ls hF hR hl hL hV hS hN T hT X
  subst e1
  exact ⟨t, a1, .returned v, b1, b2, ⟨⟨h', c', n', e2.2, e3⟩, e4, fun w a hw => by cases hw; exact e2.1 a⟩, Lo, w1, w2, w3⟩
/-- A CONTRACT AT ONE START of a method that may throw -/
def XMT (l : Launch) (G : XG) (d : Nat) (M : XMt) (args : List Value) (h : XH) (c n : Nat) (P : Option Value → XH → Nat → Nat → Prop) : Prop :=
  ∀ c0 n0 : Nat, MetFree l M.1 (headSpec [Cond.code M.1 M.2.1 M.2.2.1 M.2.2.2] (xRm d c0 n0)) (va_Pc args (xPre G h c n c0 n0)) (fun _ _ _ _ _ => True) (fun _ st o t => xQT G P st o t ∧ xFE G st t (xCB - c0) (xSB - n0))
theorem XMT.of {args : List Value} (hy : plainName M.1.cls = true) (hn : (xin args).length ≤ M.2.2.1) (hw : XX l G M d 0 (xin args ++ List.replicate (M.2.2.1 - (xin args).length) none) [] h c n (xret2 G P)) : XMT l G d M args h c n P := by
  intro c0 n0
  refine MetFree.of_bodyS (code := M.2.1) (maxLocals := M.2.2.1) (ret := M.2.2.2) hy ?_ ?_
  · intro args s m hb hnm
    obtain ⟨meth, cd, h1, h2, h3, h4, h5, h6, -, -⟩ := Cond.code_spec hnm (atoms_spec (ws := [Cond.code M.1 M.2.1 M.2.2.1 M.2.2.2]) hb _ List.mem_cons_self)
    exact ⟨meth, cd, h1, h2, h3, h4, h5, h6⟩
  · intro p e s m args' below meth cd s₁ B hml hv _
    have hh0 : s₁.heap = s.heap := by rw [B.state]; rfl
    obtain ⟨rfl, hz, hu, hV, hS⟩ := hv
    have hR : xRo G (xRm d c0 n0) d s := ⟨rfl, rfl, by rw [hz, Nat.add_sub_cancel_left]; rfl, by rw [hu]; rfl, by rw [hz]; exact Nat.le_add_right _ _⟩
    have hk : W p l e (xRm d c0 n0) s m args.toArray below meth cd s.heap [] 0 0 (xret2 G P below args.toArray s (xRm d c0 n0)) (entryFrame m args.toArray M.2.2.1) := by
      rw [lg_entry_eq]
      exact hw p e (xRm d c0 n0) s m _ below meth cd s.heap [] 0 0 _ ⟨B.exec, B.bytes, hml, B.returns, findClass_of_methodNamed B.named, B.notSynchronized, (name_of_methodNamed B.named B.method).1, B.named⟩ hR (xlr.entry args hn) (by simp; omega) hV hS va_S.rf
    obtain ⟨t, a1, o, b1, b2, b3⟩ := hk s₁ hh0 (Stand.of_body B)
    exact ⟨t, o, a1, b1, b2, b3⟩
theorem XMT.mono {args : List Value} {P' : Option Value → XH → Nat → Nat → Prop} (h0 : XMT l G d M args h c n P) (hP : ∀ v h' c' n', P v h' c' n' → P' v h' c' n') : XMT l G d M args h c n P' := by
  intro c0 n0 p e ha hc hk s m as below hf happ hPc hKc
  obtain ⟨k, o, h1, h2, h3, ⟨⟨⟨h', c', n', e2, e3⟩, e4⟩, e5⟩⟩ := h0 c0 n0 p e ha hc hk s m as below hf happ hPc hKc
  exact ⟨k, o, h1, h2, h3, ⟨⟨⟨h', c', n', hP _ _ _ _ e2, e3⟩, e4⟩, e5⟩⟩
end XTH
/-! a call that may come back by a throw -/
section XTB
variable {l : Launch} {R : Room} {p : Program} {e : Env} {below : List Frame} {s : State} {sargs : Array Value} {y : MethodName} {len Wd : Nat} {m : MethodId} {meth : Method} {cd : Code} {U : State} {Ls : List Loc} {c0 s0 mc ms : Nat} {F : Addr → Prop}
def xback (V : State) (g : JFrame) (len : Nat) : Outcome → State
  | .returned v => V.setTop { g with pc := g.pc + len, stack := v.toList ++ g.stack }
  | .threw b => (V.setTop g).pushFrame (.throwing b)
theorem xt_free {S : Spec} {Pp : Array Value → State → Prop} {Q : Array Value → State → Outcome → State → Prop} {bytes : ByteArray} {maxL : Nat} {ret : Option FieldType} {mk : MethodId} {a : Array Value} {g : JFrame} {ig : Instr}
    (hM : MetFree l y S Pp (fun _ _ _ _ _ => True) Q) (X : Stand p l e R s m sargs below meth cd U Ls c0 s0) (hg : g.method = m) (hsize : g.locals.size = cd.maxLocals) (hdg : decode cd.code g.pc = .ok (ig, len)) (hW : 2 * g.monitorRoom + (g.stack.map fun v => v.category).sum ≤ Wd) (hn : U.methodNamed? y = some mk)
    (hframes : S.room.frames + 1 ≤ R.frames) (hlocals : Wd + (maxL + 11) + S.room.locals ≤ R.locals) (h1 : S.pre.before a U = true) (h2 : (Cond.code y bytes maxL ret).before a U = true) (h3 : (Cond.initialized y.cls).before a U = true) (h4 : c0 + S.room.cells ≤ R.cells) (h5 : s0 + S.room.slots ≤ R.slots)
    (hP : Pp a (U.calling g mk a)) (hQ : ∀ o t, Q a (U.calling g mk a) o t → ∃ L : List Loc, (U.calling g mk a).WarmedH t.vm ∧ (U.calling g mk a).sameButNew ({ t with vm := (U.calling g mk a).vm } : State) L mc ms ∧ ∀ q ∈ L, F q.base) :
    ∃ (o : Outcome) (t V : State) (L : List Loc), Q a (U.calling g mk a) o t ∧ V.heap = t.heap ∧ V.vm = t.vm ∧ (∀ q ∈ L, F q.base) ∧ Stand p l e R s m sargs below meth cd V (Ls ++ L) (c0 + mc) (s0 + ms) ∧
      Steps p.tables e below (doInvoke e (U.setTop g) [] mk a).1 (xback V g len o) := by
  obtain ⟨methY, cY, hmY, hcY, -, hlY, -, -, -, -⟩ := Cond.code_spec hn h2
  obtain ⟨kY, hkY, -⟩ := className_of_methodNamed hn
  have hinitY : kY.init = .initialized := Cond.initialized_spec (findClass_of_methodNamed hn) hkY h3
  have h : At U g.method cd below := by rw [hg]; exact X.here
  have happ : S.appliesLoose y e.platform (U.calling g mk a) = true :=
    Spec.appliesLoose_calling (g := g) h hdg hn hkY hinitY
      (X.room_calling (g := g) (R' := S.room) hsize hmY hcY hframes (by rw [hlY]; omega) h4 h5) h1
  obtain ⟨mid, hmid⟩ := h.above
  have hfr : (U.setTop g).frames = (.java g :: mid) ++ below := by rw [State.frames_setTop' g h.top, hmid]; rfl
  obtain ⟨o, s₂, hsteps, -, hend, hq⟩ := Steps.callFree hM p X.admits X.cas X.clock (acts := []) hfr happ hP trivial
  have hq' : Q a (U.calling g mk a) o s₂ := hq
  rw [State.frames_setTop' g h.top] at hend
  obtain ⟨L, hW₂, ⟨e2, q2, q3, q4, q5, q6⟩, hFr⟩ := hQ _ _ hq'
  have e3 : s₂ = ({ (U.calling g mk a).setFrames s₂.frames with heap := s₂.heap, slotsUsed := s₂.slotsUsed } : State).setVm s₂.vm := by
    have : s₂ = ({ s₂ with vm := (U.calling g mk a).vm } : State).setVm s₂.vm := rfl
    rw [e2] at this
    exact this
  have hW' : U.WarmedH s₂.vm := hW₂
  obtain ⟨g₀, hg0⟩ := Option.isSome_iff_exists.mp h.top
  obtain ⟨r, hr⟩ := State.topJava?_eq_some.mp hg0
  have hr' : (({ U with heap := s₂.heap, slotsUsed := s₂.slotsUsed } : State).setVm s₂.vm).frames = .java g₀ :: r := hr
  have hs₂ : s₂ = xback (({ U with heap := s₂.heap, slotsUsed := s₂.slotsUsed } : State).setVm s₂.vm) g len o := by
    cases o with
    | returned v =>
      obtain ⟨c₂, i₂, len₂, hc₂, hd₂, hf₂⟩ := hend
      have hcc : c₂ = cd := by
        have h1 : s₂.code? g.method = U.code? g.method := by
          rw [State.code?_eq, State.code?_eq, hW'.alike.method?]
        exact Option.some.inj (hc₂.symm.trans (h1.trans h.code))
      subst hcc
      have hlen : len₂ = len := by rw [hdg] at hd₂; cases hd₂; rfl
      subst hlen
      refine e3.trans ?_
      show _ = (({ U with heap := s₂.heap, slotsUsed := s₂.slotsUsed } : State).setVm s₂.vm).setTop { g with pc := g.pc + len₂, stack := v.toList ++ g.stack }
      rw [hf₂, State.calling_eq h.top, State.setFrames_setFrames, State.setTop_of_frames _ hr', hr]
      rfl
    | threw b =>
      have hf₂ : s₂.frames = .throwing b :: .java g :: U.frames.tail := hend
      refine e3.trans ?_
      show _ = ((({ U with heap := s₂.heap, slotsUsed := s₂.slotsUsed } : State).setVm s₂.vm).setTop g).pushFrame (.throwing b)
      rw [hf₂, State.calling_eq h.top, State.setFrames_setFrames, State.pushFrame, State.frames_setTop _ hr', State.setTop_of_frames _ hr', State.setFrames_setFrames, hr]
      rfl
  have hsame : U.sameButNew ({ U with heap := s₂.heap, slotsUsed := s₂.slotsUsed } : State) L mc ms := by
    refine ⟨?_, q2, q3, q4, q5, q6⟩
    obtain ⟨t, ht, -⟩ := State.frames_cons hr
    show ({ U with heap := s₂.heap, slotsUsed := s₂.slotsUsed } : State) = { U.setFrames U.frames with heap := s₂.heap, slotsUsed := s₂.slotsUsed }
    rw [State.setFrames_self ht]
  subst hg
  refine ⟨o, s₂, (({ U with heap := s₂.heap, slotsUsed := s₂.slotsUsed } : State).setVm s₂.vm), L, hq', rfl, rfl, hFr,
    ⟨X.admits, X.cas, X.clock, X.frames, X.room, X.hears, X.method, X.code, (X.here.setHeapUsed s₂.heap s₂.slotsUsed).setVm hW'.alike, X.tail, State.WarmedH.trans X.warmed hW', X.limits, X.bytes, X.same.trans (hsame.setVm s.vm)⟩, ?_⟩
  rw [← hs₂]
  exact hsteps
end XTB
/-! into a handler whose class isn't resolved yet -/
section XTC
variable {e : Env} {s : State} {f : JFrame} {a : Addr}
theorem xh_go {Q : Handler → Pre} {E : CtlPost} {d : Bool} {acts : List Action} {x : ExceptionTableEntry} {t : List ExceptionTableEntry} {c : ClassId} {cell : Cell} {vm' : Vm} (hx : covers x f.pc = true) (h0 : x.catchType ≠ 0)
    (hg : (Jvm.resolveClass f.method.cls x.catchType).Gives e.toSetting s.vm (.ok c) vm') (hsz : vm'.classes.size ≤ s.vm.classes.size) (hcell : s.heap[a]? = some cell) (hobj : ∀ k, cell.vm ≠ .statics k)
    (hk : ∃ k, vm'.classes[cell.cls]? = some k) (hc : ∃ k, vm'.classes[c]? = some k) :
    wp (findHandler.go f a (x :: t)) Q E e d acts s ↔ if vm'.assignable cell.cls c = true then Q (.found x.handlerPc) d acts (s.setVm vm') else wp (findHandler.go f a t) Q E e d acts (s.setVm vm') := by
  simp only [covers] at hx
  obtain ⟨ha, ht⟩ := hg.op (op := VmOp.resolveClass f.method.cls x.catchType) rfl
  cases hfit : vm'.assignable cell.cls c <;>
    simp [findHandler.go, hx, h0, ha, ht, hsz, hcell, hobj, hk, hc, hfit, VmOp.dirties, VmOp.acts]
def FindsV (e : Env) (s : State) (f : JFrame) (a : Addr) (h : Handler) (vm' : Vm) : Prop :=
  ∀ (Q : Handler → Pre) (E : CtlPost) (d : Bool) (acts : List Action), wp (findHandler f a) Q E e d acts s ↔ Q h d acts (s.setVm vm')
theorem stepThrowing_catchV {r : List Frame} {pc : Nat} {vm' : Vm} (hfind : FindsV e s f a (.found pc) vm') :
    (stepThrowing e s a (.java f :: r)).Is ((s.setVm vm').setFrames (.java { f with pc := pc, stack := [.ref a] } :: r)) [] := by
  simp only [stepThrowing, searchFrame, vmDo]
  generalize hr : Sem.go _ e false [] s = res
  obtain ⟨as, rfl, ha⟩ := Sem.eq_ok_of hr (a := Handler.found pc) (s' := s.setVm vm') (acts' := []) (by simp [hfind _ _ _ _])
  exact ⟨rfl, ha⟩
theorem Steps.caughtV {tb : Tables} {g : JFrame} {c : Code} {below : List Frame} {target : State} (h : At s g.method c below) {pc : Nat} {vm' : Vm} (hfind : FindsV e ((s.setTop g).pushFrame (.throwing a)) g a (.found pc) vm')
    (hrest : Steps tb e below ((s.setVm vm').setTop { g with pc := pc, stack := [.ref a] }) target) :
    Steps tb e below ((s.setTop g).pushFrame (.throwing a)) target := by
  obtain ⟨hgo, hw⟩ := h.throwing a
  refine Steps.head hgo hw ?_
  rw [stepThread_throwing (frames_entered h.top _), (stepThrowing_catchV (s := (s.setTop g).pushFrame (.throwing a)) hfind).1]
  obtain ⟨g₀, hg⟩ := Option.isSome_iff_exists.mp h.top
  obtain ⟨r, hr⟩ := State.topJava?_eq_some.mp hg
  have hr' : (s.setVm vm').frames = .java g₀ :: r := hr
  rw [State.setTop_of_frames _ hr'] at hrest
  rw [hr]
  have e1 : (((s.setTop g).pushFrame (.throwing a)).setVm vm').setFrames (.java { g with pc := pc, stack := [.ref a] } :: r) = (s.setVm vm').setFrames (.java { g with pc := pc, stack := [.ref a] } :: r) := by
    rw [State.setTop_of_frames _ hr, State.pushFrame, State.setFrames_setFrames]
    show (((s.setVm vm').setFrames _).setFrames _) = _
    rw [State.setFrames_setFrames]
  show Steps tb e below ((((s.setTop g).pushFrame (.throwing a)).setVm vm').setFrames (.java { g with pc := pc, stack := [.ref a] } :: r)) target
  rw [e1]
  exact hrest
end XTC
section XTV
variable {l : Launch} {G : XG} {M : XMt} {d pc : Nat} {L : List (Option Value)} {rest : List Value} {h : XH} {c n : Nat} {Q : XPo}
/-- a call that may throw an object of one class, which the first row of the caller's table catches -/
theorem x_callVT {Mc : XMt} {As st vs : List Value} {b k idx nn N s1 e1 ct hpc kE NE : Nat} {C CE : String} {T TE : u_T} {P' : Option Value → XH → Nat → Nat → Prop} {hh : List (Nat × Nat × Nat × Nat)}
    (hk : xk[k]? = some (.inl (C, T, N))) (hb : xcb Mc nn) (hins : Cond.instanceMethod Mc.1 ∈ xT) (hlk : Cond.methodLink M.1.cls idx Mc.1 ∈ xT) (hsel : Cond.selects C Mc.1 Mc.1 ∈ xT)
    (hcw : Cond.codeWith M.1 M.2.1 M.2.2.1 M.2.2.2 ((s1, e1, hpc, ct) :: hh) ∈ xT) (hcov : s1 ≤ pc ∧ pc < e1) (hct : ct ≠ 0) (hkE : xk[kE]? = some (.inl (CE, TE, NE))) (hcl : Cond.classLink M.1.cls ct CE ∈ xT)
    (ha : xr G h b k vs) (hM : XMT l G d Mc (.ref b :: As) h c n P') (hn : As.length = nn) (hst : st = As.reverse ++ .ref b :: rest) (hr : (rest.map fun v => v.category).sum ≤ 8) (hd : decode M.2.1 pc = .ok (.invokevirtual idx, 3))
    (kk : ∀ (v : Option Value) (h' : XH) (c' n' : Nat), P' v h' c' n' → (∀ a, v ≠ some (.retAddr a)) → XX l G M (d + 1) (pc + 3) L (v.toList ++ rest) h' c' n' Q)
    (kt : ∀ (a : Nat) (h' : XH) (c' n' : Nat), P' (some (.retAddr a)) h' c' n' → (∃ ws, h' a = some (kE, ws)) ∧ XX l G M (d + 1) hpc L [.ref a] h' c' n' Q) : XX l G M (d + 1) pc L st h c n Q := by
  intro p e R s m args below meth cd H locs cells slots ls hF hR hl hL hV hS hN
  have hts := hV.ts args
  have hR0 := hR
  obtain ⟨r1, r2, r3, r4, r5⟩ := hR
  have hS0 := hS
  obtain ⟨s1', s2, s3, s4, s5, s6⟩ := hS
  have h41 := hb.2.2.1
  have hy : Mc.1.cls ≠ "java/lang/invoke/MethodHandle" ∧ Mc.1.cls ≠ "java/lang/invoke/VarHandle" := ⟨hb.2.2.2.1, hb.2.2.2.2.1⟩
  refine x_mono r5 fun m1 m2 => ?_
  refine x_tight (k := H.size - s.heap.size) (j := xU G.2.1 H - xU G.2.1 s.heap) r5 (by omega) (by omega) ?_
  obtain ⟨cellB, b1, -, b2, b3⟩ := xr_cell ha hV hS0
  have hcB : s.vm.findClass C = some cellB.cls := by rw [xcw_cls hk b3]; exact (hV.1 k _ hk : u_Kn s C T N (G.1.1 k) (G.1.2 k)).2.1
  intro T' hT X
  obtain ⟨mk, methM, hnamed, hmethM, hstM, habM⟩ := Cond.instanceMethod_spec (hts _ hins)
  obtain ⟨methM', cM, hmethM', -, -, -, -, -, -, hsigM⟩ := Cond.code_spec hnamed (hts _ hb.1)
  cases hmethM.symm.trans hmethM'
  obtain ⟨c2, r2', m2', q1, q2, q3, q4, kP, hkP, hkPi⟩ := Cond.selects_spec (hts _ hsel)
  cases hcB.symm.trans q1
  cases (State.methodFound?_of_named hnamed hy).symm.trans q2
  cases hnamed.symm.trans q3
  have hselP : selectMethod e.platform s.vm cellB.cls mk = .method mk := by rw [Launch.admits_selectMethod X.admits]; exact q4
  have hlen : As.length = methM.sig.parameters.length := by
    have h2 := hb.2.2.2.2.2
    rw [hsigM] at h2
    exact hn.trans (Option.some.inj h2).symm
  obtain ⟨vm₁, X₁, hstep₁⟩ := X.invokevirtual hF.1 hF.2.2.2.2.1 (hts _ hlk) hnamed hmethM hstM hkP hkPi hy (a := b) (cell := cellB) (by rw [hT]; exact b1)
    (fun z hz => by rw [hz] at b2; cases b2) hselP hmethM habM hkP hkPi (g := F0 m pc ls st) rfl (argsL := As) (rest := rest) hlen hst (by rw [hF.2.1]; exact hd)
  have hU : (T'.setVm vm₁).heap = H := hT
  have hpre : va_Pc (.ref b :: As) (xPre G h c n (H.size - G.2.1) (xU G.2.1 H)) (Value.ref b :: As).toArray (T'.setVm vm₁) := xPre.at hV hS0 hU X₁.warmed
  have hgood := xcb_good hb
  obtain ⟨o, t, V, Lo, ⟨⟨⟨h', c', n', hp, hS1⟩, hFm, hne⟩, -⟩, ev1, ev2, hLo, X', hst'⟩ := xt_free (bytes := Mc.2.1) (maxL := Mc.2.2.1) (ret := Mc.2.2.2) (mc := xCB - (H.size - G.2.1)) (ms := xSB - xU G.2.1 H) (F := xA G) (Wd := 8) (len := 3) (hM (H.size - G.2.1) (xU G.2.1 H)) X₁ (g := (F0 m pc ls rest)) (a := (Value.ref b :: As).toArray) rfl (by show ls.size = _; rw [hl.1, hL, hF.2.2.1]) (by rw [hF.2.1]; exact hd) (by show 2 * 0 + (rest.map fun v => v.category).sum ≤ 8; omega) (X₁.named hnamed)
    (by show d + 1 ≤ R.frames; rw [r1]; exact Nat.le_refl _) (by show 8 + (Mc.2.2.1 + 11) + (d * 60 + 11000) ≤ _; rw [r2]; omega)
    (atoms_intro fun w hw => pay_in hts hgood w hw _ _ X₁.warmed) (pay_in hts hgood _ List.mem_cons_self _ _ X₁.warmed) (word_at X₁.warmed (Or.inl (by first | rfl | simp [Cond.onTables, Cond.keeps, Cond.steady])) (hts _ hb.2.1))
    (by show H.size - s.heap.size + (xCB - (H.size - G.2.1)) ≤ _; rw [r3]; omega) (by show xU G.2.1 H - xU G.2.1 s.heap + (xSB - xU G.2.1 H) ≤ _; rw [r4]; omega)
    (xPre.blind _ _ _ _ hpre) (fun o t hq => hq.2)
  have hz : H.size ≤ t.heap.size := by have := hFm.1; rwa [show ((T'.setVm vm₁).calling (F0 m pc ls rest) mk (Value.ref b :: As).toArray).heap = H from hU] at this
  have hkp : ∀ q : Nat, q < H.size → ¬ xA G q → t.heap[q]? = H[q]? := fun q h1 h2 => by have := hFm.2 q (by rw [show ((T'.setVm vm₁).calling (F0 m pc ls rest) mk (Value.ref b :: As).toArray).heap = H from hU]; exact h1) h2; rwa [show ((T'.setVm vm₁).calling (F0 m pc ls rest) mk (Value.ref b :: As).toArray).heap = H from hU] at this
  have hN1 : va_S (xA G) s.heap t.heap (locs ++ Lo) := ⟨Nat.le_trans hN.1 hz, fun q h1 h2 => by rw [hkp q (Nat.lt_of_lt_of_le h1 hN.1) h2]; exact hN.2.1 q h1 h2, fun q hq => by
    rcases List.mem_append.mp hq with hh | hh
    · exact hN.2.2 q hh
    · exact hLo q hh⟩
  have hV1 := hV.kept hkp
  cases o with
  | returned v =>
    obtain ⟨t2, a1, a2⟩ := kk v h' c' n' hp (fun a => hne v a rfl) p e R s m args below meth cd t.heap (locs ++ Lo) _ _ ls hF hR0 hl hL hV1 hS1 hN1 V ev1 X'
    exact ⟨t2, hstep₁ _ fun acts => by rw [doInvoke_state]; exact hst'.trans a1, a2⟩
  | threw a =>
    obtain ⟨⟨ws, hws⟩, kx⟩ := kt a h' c' n' hp
    have hpl : e.platform.magicAccessors = ({} : Platform).magicAccessors := by rw [X.admits.platform]
    obtain ⟨cE, hfE, hclE⟩ := Cond.classLink_spec hF.2.2.2.2.1 (hts _ hcl) e.platform hpl
    have hKE := (hV.1 kE _ hkE : u_Kn s CE TE NE (G.1.1 kE) (G.1.2 kE))
    cases hfE.symm.trans hKE.2.1
    obtain ⟨hg₁, hwarm₁, hready₁⟩ := State.classEntry (e := e) X'.warmed hclE
    have hsz : (V.vm.noted m.cls ct (.cls (G.1.1 kE))).classes.size ≤ V.vm.classes.size := by no_record
    generalize V.vm.noted m.cls ct (.cls (G.1.1 kE)) = vm₂ at hg₁ hwarm₁ hready₁ hsz
    obtain ⟨-, cell, g1, g2, g3⟩ := hS1.1 a kE ws hws
    obtain ⟨kC, hkC, -⟩ := hKE.2.2
    obtain ⟨k₂, hk₂, -⟩ := hwarm₁.alike.2.2 _ _ hkC
    obtain ⟨m9, meth9, cd9, hn9, hm9, hc9, -, -, ht9, -, -, -⟩ := Cond.codeWith_spec (hts _ hcw)
    cases hF.2.2.2.2.2.2.2.symm.trans hn9
    cases X.method.symm.trans hm9
    cases X.code.symm.trans hc9
    obtain ⟨x, tl, hx, hx1, -⟩ : ∃ (x : ExceptionTableEntry) (tl : List ExceptionTableEntry), cd.exceptionTable.toList = x :: tl ∧ (x.startPc, x.endPc, x.handlerPc, x.catchType) = (s1, e1, hpc, ct) ∧ True := by
      cases hq : cd.exceptionTable.toList with
      | nil => rw [hq] at ht9; cases ht9
      | cons x tl =>
        rw [hq] at ht9
        exact ⟨x, tl, rfl, (List.cons.inj ht9).1, trivial⟩
    simp only [Prod.mk.injEq] at hx1
    obtain ⟨x1, x2, x3, x4⟩ := hx1
    have hvmV : ((V.setTop (F0 m pc ls rest)).pushFrame (.throwing a)).vm = V.vm := Stand.throwing_vm _ _ _
    have hhpV : ((V.setTop (F0 m pc ls rest)).pushFrame (.throwing a)).heap = V.heap := Stand.throwing_heap _ _ _
    have hfind : FindsV e ((V.setTop (F0 m pc ls rest)).pushFrame (.throwing a)) (F0 m pc ls rest) a (.found hpc) vm₂ := by
      intro Qh E dd acts
      rw [W.findHandler_eq (meth := meth) (code := cd) (by rw [hvmV]; exact X'.method') X'.code, hx]
      rw [xh_go (c := G.1.1 kE) (cell := cell) (vm' := vm₂) (by simp only [covers, x1, x2]; simp [hcov.1, hcov.2]) (by rw [x4]; exact hct) (by rw [hvmV, x4]; exact hg₁) (by rw [hvmV]; exact hsz) (by rw [hhpV, ev1]; exact g1) (fun k hk => by rw [g2] at hk; cases hk) ⟨k₂, by rw [g3.1]; exact hk₂⟩ ⟨k₂, hk₂⟩]
      rw [if_pos (by rw [g3.1]; exact va_asg _ _), x3]
    have X₂ := X'.noted hwarm₁
    obtain ⟨t2, a1, a2⟩ := kx p e R s m args below meth cd t.heap (locs ++ Lo) _ _ ls hF hR0 hl hL hV1 hS1 hN1 (V.setVm vm₂) ev1 X₂
    refine ⟨t2, hstep₁ _ fun acts => ?_, a2⟩
    rw [doInvoke_state]
    refine hst'.trans ?_
    exact Steps.caughtV (s := V) (g := (F0 m pc ls rest)) X'.here hfind a1
end XTV
/-! methods with a table of handlers, that return -/
section XTW
variable {l : Launch} {G : XG} {M : XMt} {d pc : Nat} {L : List (Option Value)} {rest : List Value} {h : XH} {c n : Nat} {P : Option Value → XH → Nat → Nat → Prop} {Q : XPo} {hh : List (Nat × Nat × Nat × Nat)}
def XMW (l : Launch) (G : XG) (d : Nat) (M : XMt) (hh : List (Nat × Nat × Nat × Nat)) (args : List Value) (h : XH) (c n : Nat) (P : Option Value → XH → Nat → Nat → Prop) : Prop :=
  ∀ c0 n0 : Nat, Met l M.1 [Cond.codeWith M.1 M.2.1 M.2.2.1 M.2.2.2 hh] (xRm d c0 n0) (va_Pc args (xPre G h c n c0 n0)) (xQ G P) (xCB - c0) (xSB - n0) (xA G)
theorem XMW.of {args : List Value} (hy : plainName M.1.cls = true) (hn : (xin args).length ≤ M.2.2.1) (hw : XW l G M d 0 (xin args ++ List.replicate (M.2.2.1 - (xin args).length) none) [] h c n P) : XMW l G d M hh args h c n P := by
  intro c0 n0
  refine va_MetW (cc := M.2.1) (maxL := M.2.2.1) (ret := M.2.2.2) (hh := hh) (ws' := []) hy rfl ?_
  intro p e s m args' below meth cd s₁ B hml hv
  obtain ⟨rfl, hz, hu, hV, hS⟩ := hv
  rw [lg_entry_eq]
  have hR : xRo G (xRm d c0 n0) d s := ⟨rfl, rfl, by rw [hz, Nat.add_sub_cancel_left]; rfl, by rw [hu]; rfl, by rw [hz]; exact Nat.le_add_right _ _⟩
  exact hw p e (xRm d c0 n0) s m _ below meth cd s.heap [] 0 0 _ ⟨B.exec, B.bytes, hml, B.returns, findClass_of_methodNamed B.named, B.notSynchronized, (name_of_methodNamed B.named B.method).1, B.named⟩ hR (xlr.entry args hn) (by simp; omega) hV hS va_S.rf
def xcbW (Mc : XMt) (hh : List (Nat × Nat × Nat × Nat)) (nn : Nat) : Prop := Cond.codeWith Mc.1 Mc.2.1 Mc.2.2.1 Mc.2.2.2 hh ∈ xT ∧ Cond.initialized Mc.1.cls ∈ xT ∧ Mc.2.2.1 ≤ 41 ∧ (Mc.1.cls ≠ "java/lang/invoke/MethodHandle" ∧ Mc.1.cls ≠ "java/lang/invoke/VarHandle" ∧ (parseMethodDescriptor Mc.1.desc).map (fun d => d.parameters.length) = some nn)
theorem x_callSW {Mc : XMt} {As st : List Value} {idx nn : Nat} {P' : Option Value → XH → Nat → Nat → Prop} (hb : xcbW Mc hh nn) (hsta : Cond.static Mc.1 ∈ xT) (hlk : Cond.methodLink M.1.cls idx Mc.1 ∈ xT) (hM : XMW l G d Mc hh As h c n P') (hn : As.length = nn) (hst : st = As.reverse ++ rest) (hr : (rest.map fun v => v.category).sum ≤ 8) (hd : decode M.2.1 pc = .ok (.invokestatic idx, 3))
    (kk : ∀ (v : Option Value) (h' : XH) (c' n' : Nat), P' v h' c' n' → XX l G M (d + 1) (pc + 3) L (v.toList ++ rest) h' c' n' Q) : XX l G M (d + 1) pc L st h c n Q := by
  intro p e R s m args below meth cd H locs cells slots ls hF hR hl hL hV hS hN
  have hts := hV.ts args
  have hR0 := hR
  obtain ⟨r1, r2, r3, r4, r5⟩ := hR
  have hS0 := hS
  obtain ⟨s1, s2, s3, s4, s5, s6⟩ := hS
  have h41 := hb.2.2.1
  refine x_mono r5 fun m1 m2 => ?_
  refine x_tight (k := H.size - s.heap.size) (j := xU G.2.1 H - xU G.2.1 s.heap) r5 (by omega) (by omega) ?_
  have fin := fun (v : Option Value) (h' : XH) (c' n' : Nat) (H1 : Heap) (locs1 : List Loc) (hp : P' v h' c' n') (hS1 : xS G h' c' n' H1) (hN1 : va_S (xA G) s.heap H1 locs1) (hk1 : ∀ q : Nat, q < H.size → ¬ xA G q → H1[q]? = H[q]?) =>
    kk v h' c' n' hp p e R s m args below meth cd H1 locs1 (H.size - s.heap.size + (xCB - (H.size - G.2.1))) (xU G.2.1 H - xU G.2.1 s.heap + (xSB - xU G.2.1 H)) ls hF hR0 hl hL (hV.kept hk1) hS1 hN1
  have hp : PreS s H (va_Pc As (xPre G h c n (H.size - G.2.1) (xU G.2.1 H))) As := ⟨xPre.blind, fun U hU hW => xPre.at hV hS0 hU hW⟩
  have hgood : GoodIn xT [Cond.codeWith Mc.1 Mc.2.1 Mc.2.2.1 Mc.2.2.2 hh] := by
    intro w hw
    rw [List.mem_singleton] at hw
    subst hw
    exact ⟨hb.1, Or.inl (by first | rfl | simp [Cond.onTables, Cond.keeps, Cond.steady])⟩
  refine x_cont (P' := P') (a := As.toArray) (mc := xCB - (H.size - G.2.1)) (ms := xSB - xU G.2.1 H) ?_ hN fin
  have hK : Back l R p e below s args Mc.1 3 8 (PreOf R (xCB - (H.size - G.2.1)) (xSB - xU G.2.1 H) (va_Pc As (xPre G h c n (H.size - G.2.1) (xU G.2.1 H)))) (PostOf (xQ G P') (xCB - (H.size - G.2.1)) (xSB - xU G.2.1 H) (xA G)) :=
    va_backW (hh := hh) (bytes := Mc.2.1) (maxL := Mc.2.2.1) (ret := Mc.2.2.2) (hM (H.size - G.2.1) (xU G.2.1 H)) hp.1 rfl rfl (by show d + 1 ≤ R.frames; rw [r1]; exact Nat.le_refl _) (by show 8 + (Mc.2.2.1 + 11) + (d * 60 + 11000) ≤ _; rw [r2]; omega) (pay_in hts hgood) List.mem_cons_self (fun a' U hW => word_at hW (Or.inl (by first | rfl | simp [Cond.onTables, Cond.keeps, Cond.steady])) (hts _ hb.2.1))
  intro T hT X
  obtain ⟨mk, methM, cM, hnamed, hmethM, -, -, -, -, -, -, hsigM⟩ := Cond.codeWith_spec (hts _ hb.1)
  have hstatic : methM.isStatic = true := Cond.static_spec hnamed hmethM (hts _ hsta)
  obtain ⟨kP, hkP, -⟩ := className_of_methodNamed hnamed
  have hinitP : kP.init = .initialized := Cond.initialized_spec (findClass_of_methodNamed hnamed) hkP (hts _ hb.2.1)
  have hlen : As.length = methM.sig.parameters.length := by
    have h2 := hb.2.2.2.2.2
    rw [hsigM] at h2
    exact hn.trans (Option.some.inj h2).symm
  obtain ⟨vm₁, X₁, hstep₁⟩ := X.invokestatic hF.1 hF.2.2.2.2.1 (hts _ hlk) hnamed hmethM hstatic hkP hinitP ⟨hb.2.2.2.1, hb.2.2.2.2.1⟩ (g := F0 m pc ls st) rfl (argsL := As) (rest := rest) hlen hst (by rw [hF.2.1]; exact hd)
  obtain ⟨v, ⟨U', l2, c2, s2'⟩, X', ⟨g', mk', t, Lo, e1, e2, hq, h1, hL', h2, h3⟩, hsteps⟩ := hK m meth cd ⟨T.setVm vm₁, locs, H.size - s.heap.size, xU G.2.1 H - xU G.2.1 s.heap⟩ (F0 m pc ls rest) (.invokestatic idx) mk As.toArray X₁ rfl (by show ls.size = _; rw [hl.1, hL, hF.2.2.1]) (by rw [hF.2.1]; exact hd) (by show 2 * 0 + (rest.map fun v => v.category).sum ≤ 8; omega) (X₁.named hnamed) ⟨(by show H.size - s.heap.size + (xCB - (H.size - G.2.1)) ≤ _; rw [r3]; omega), (by show xU G.2.1 H - xU G.2.1 s.heap + (xSB - xU G.2.1 H) ≤ _; rw [r4]; omega), hp.2 (T.setVm vm₁) hT X₁.warmed⟩
  dsimp only [Pt.U, Pt.locs, Pt.cells, Pt.slots] at X' e1 e2 h1 h2 h3 hsteps
  subst h1; subst h2; subst h3
  exact ⟨v, (T.setVm vm₁).calling g' mk' As.toArray, t, U', Lo, hT, X', hL', e1, e2, hq, fun target hh => hstep₁ _ fun acts => by rw [doInvoke_state]; exact hsteps.trans hh⟩
end XTW
end
section
/-! new X("..") and its throw, in one row -/
section XTN
variable {l : Launch} {G : XG} {M : XMt} {d pc : Nat} {L : List (Option Value)} {rest : List Value} {h : XH} {c n : Nat} {P : Option Value → XH → Nat → Nat → Prop}
def xThr (own : String) (ic : Nat) (X : String) (names : List String) : List Cond :=
  Bundle.throwableAtoms ++ (Bundle.throwableSAtoms ++ (Bundle.chainSAtoms X names ++
  [.methodLink own ic (Bundle.initS X), .instantiable X 6, .selects X Bundle.tFill0 Bundle.tFill0, .selects X Bundle.tFill Bundle.tFill,
   .lays X Bundle.tN "cause" "Ljava/lang/Throwable;", .lays X Bundle.tN "stackTrace" Bundle.steD, .lays X Bundle.tN "suppressedExceptions" Bundle.listD, .lays X Bundle.tN "detailMessage" "Ljava/lang/String;",
   .fieldLink Bundle.tN 198 Bundle.tN "backtrace" "Ljava/lang/Object;", .lays Bundle.tN Bundle.tN "backtrace" "Ljava/lang/Object;", .lays X Bundle.tN "backtrace" "Ljava/lang/Object;"]))
theorem xisr_ref {v : Value} (h : xisr v = true) : v.isRef = true := by cases v <;> first | rfl | cases h
set_option maxHeartbeats 2000000 in
theorem x_throwS {k idx ic si i : Nat} {X tx : String} {names : List String} {vs : List Value} {T : u_T} {N : Nat} (hG : ∀ j, xisr (G.2.2.2.2 j) = true) (htr : l.stackTraces = false) (hco : Cond.code M.1 M.2.1 M.2.2.1 M.2.2.2 ∈ xT)
    (hk : xk[k]? = some (.inl (X, T, N))) (hX : Bundle.fit X = true) (hnames : ∀ q ∈ names, Bundle.fit q = true) (hnl : names.length ≤ 4) (hx : xNw M.1.cls idx k 6 vs) (hat : ∀ w ∈ xThr M.1.cls ic X names, w ∈ xT ∨ ∃ q ∈ xThS, w = Cond.laysStatic q.1 q.2.1 q.2.2) (hstr : (M.1.cls, si, tx, i) ∈ xStr)
    (hdd : 8 ≤ d) (hr : (rest.map fun v => v.category).sum ≤ 8) (hc : c + 1 ≤ xCB) (hn : n + 6 ≤ xSB)
    (hd0 : decode M.2.1 pc = .ok (.new idx, 3)) (hd1 : decode M.2.1 (pc + 3) = .ok (.dup, 1)) (hd2 : decode M.2.1 (pc + 3 + 1) = .ok (.ldc si, 2)) (hd3 : decode M.2.1 (pc + 3 + 1 + 2) = .ok (.invokespecial ic, 3)) (hd4 : decode M.2.1 (pc + 3 + 1 + 2 + 3) = .ok (.athrow, 1))
    (hP : ∀ a, h a = none → G.2.2.1 a = none → P (some (.retAddr a)) (xup h a (k, [])) (c + 1) (n + 6)) : XX l G M d pc L rest h c n (xret2 G P) := by
  intro p e R s m args below meth cd H locs cells slots ls hF hR hl hL hV hS hN
  have hts := hV.ts args
  have hS0 := hS
  obtain ⟨r1, r2, r3, r4, r5⟩ := id hR
  obtain ⟨s1, s2, s3, s4, s5, s6⟩ := hS
  obtain ⟨C, T', N', hk', hlen, hdef, h1, h2, h3⟩ := hx
  cases hk.symm.trans hk'
  have hKn := (hV.1 k _ hk : u_Kn s X T N (G.1.1 k) (G.1.2 k))
  refine x_mono r5 fun m1 m2 => ?_
  refine x_tight (k := R.cells - 1) (j := R.slots - 6) r5 (by rw [r3]; omega) (by rw [r4]; omega) ?_
  refine W.newc hF.1 hF.2.1 hF.2.2.2.2.1 (hts _ h1) (hts _ h2) (hts _ h3) rfl hd0 (by rw [r3]; omega) (by rw [r4]; omega) fun cC kC f1 f2 f3 f4 => ?_
  have hcC : cC = G.1.1 k := Option.some.inj (f1.symm.trans hKn.2.1)
  refine lv_dup hF.1 hF.2.1 hd1 rfl ?_
  refine va_ldcS hF.1 hF.2.1 hF.2.2.2.2.1 (hV.2.2.1.1 _ hstr) hd2 ?_
  intro U hU Y0
  have hts' : ∀ w ∈ xThr M.1.cls ic X names, w.before args s = true := fun w hw => by
    rcases hat w hw with hw | ⟨q, hq, rfl⟩
    · exact hts _ hw
    · exact (hV.2.2.1.2.2 q hq).use hN (fun a ha => Nat.lt_of_lt_of_le (Nat.not_le.mp ha) r5)
  have howns : e.platform.frameOwnsMonitors = true := by rw [Y0.admits.platform]
  have hfin : e.platform.finalization = false := by rw [Y0.admits.platform]
  have hpl : e.platform.magicAccessors = ({} : Platform).magicAccessors := by rw [Y0.admits.platform]
  have htr' : e.platform.stackTraces = false := by rw [Y0.admits.platform]; exact htr
  have a' : ∀ x, x ∈ xThr M.1.cls ic X names → x.holds args s none s [] = true := fun x hx => hts' x hx
  obtain ⟨Tc, Z0, Lk, -, Y⟩ := ThrowableC.of_atoms (args := args) howns hfin hpl (fun x hx => hts' x (by simp [xThr, hx]))
  obtain ⟨Z, Mm, LZ, LM, hnZ⟩ := Init0T.ofS_atoms (args := args) hpl Lk Y (fun x hx => hts' x (by simp [xThr, hx]))
  obtain ⟨P1, Ps, hlenP, L1, hLP, hP1m, hlink1, hlink⟩ := Bundle.chainS (args := args) hpl hnZ names X hX hnames (fun x hx => hts' x (by simp [xThr, hx]))
  have hfound : s.vm.findClass X = some P1.m.cls := findClass_of_methodNamed hP1m
  have hcP : cC = P1.m.cls := Option.some.inj (f1.symm.trans hfound)
  have hsel0 : selectMethod e.platform s.vm cC Tc.fill0 = .method Tc.fill0 := by
    obtain ⟨c2, r2, m2, q1, q2, q3, q4, -⟩ := Cond.selects_spec (a' (.selects X Bundle.tFill0 Bundle.tFill0) (by simp [xThr]))
    cases Option.some.inj (q1.symm.trans f1)
    cases Option.some.inj (q2.symm.trans (State.methodFound?_of_named Y.fill0 (by decide)))
    cases Option.some.inj (q3.symm.trans Y.fill0)
    rw [Launch.admits_selectMethod Y0.admits]; exact q4
  have hselF : selectMethod e.platform s.vm cC Tc.fill = .method Tc.fill := by
    obtain ⟨c2, r2, m2, q1, q2, q3, q4, -⟩ := Cond.selects_spec (a' (.selects X Bundle.tFill Bundle.tFill) (by simp [xThr]))
    cases Option.some.inj (q1.symm.trans f1)
    cases Option.some.inj (q2.symm.trans (State.methodFound?_of_named Y.fill (by decide)))
    cases Option.some.inj (q3.symm.trans Y.fill)
    rw [Launch.admits_selectMethod Y0.admits]; exact q4
  obtain ⟨uf, uk, ui, ug, ua, ucell, z1, z2, z3, z4, z5, z6, z7, z8⟩ := hV.2.2.2.1 ("java/lang/Throwable", "UNASSIGNED_STACK", "[Ljava/lang/StackTraceElement;", G.2.2.2.2 1) (List.mem_of_getElem? (i := 6) rfl)
  obtain ⟨vf, vk, vi, vg, va, vcell, y1, y2, y3, y4, y5, y6, y7, y8⟩ := hV.2.2.2.1 ("java/lang/Throwable", "SUPPRESSED_SENTINEL", "Ljava/util/List;", G.2.2.2.2 2) (List.mem_of_getElem? (i := 7) rfl)
  cases Option.some.inj (z1.symm.trans Y.unassigned)
  cases Option.some.inj (y1.symm.trans Y.sentinel)
  cases Option.some.inj (z4.symm.trans Lk.statics)
  cases Option.some.inj (y4.symm.trans Lk.statics)
  cases Option.some.inj (z5.symm.trans y5)
  have haS : Tc.aS < H.size := (Array.getElem?_eq_some_iff.mp z5).1
  have hUh : U.heap = H.push { cls := cC, slots := kC.instanceTypes.map defaultValue, vm := .none } := hU
  have hcellS : U.heap[Tc.aS]? = some ucell := by rw [hUh, Array.getElem?_push, if_neg (Nat.ne_of_lt haS)]; exact z5
  have hcell : U.heap[H.size]? = some (freshCell cC kC) := by rw [hUh]; exact Array.getElem?_push_size
  obtain ⟨ci198, i198, fB, hk198, hg198, ha198, hsB, -, hnB, htB, hffB⟩ := Cond.ownField (t := .object "java/lang/Object") Y.found Lk.cls (by decide +kernel) (a' (.fieldLink Bundle.tN 198 Bundle.tN "backtrace" "Ljava/lang/Object;") (by simp [xThr])) (a' (.lays Bundle.tN Bundle.tN "backtrace" "Ljava/lang/Object;") (by simp [xThr])) e.platform hpl
  obtain ⟨iM, hffM⟩ := Y.msg
  obtain ⟨tyC, dC, hdC, hdnC⟩ := Cond.laysAt f1 f2 Y.cause (a' (.lays X Bundle.tN "cause" "Ljava/lang/Throwable;") (by simp [xThr]))
  obtain ⟨tyS, dS, hdS, hdnS⟩ := Cond.laysAt f1 f2 Y.stack (a' (.lays X Bundle.tN "stackTrace" Bundle.steD) (by simp [xThr]))
  obtain ⟨tyP, dP, hdP, hdnP⟩ := Cond.laysAt f1 f2 Y.supp (a' (.lays X Bundle.tN "suppressedExceptions" Bundle.listD) (by simp [xThr]))
  obtain ⟨tyM, dM, hdM, hdnM⟩ := Cond.laysAt f1 f2 hffM (a' (.lays X Bundle.tN "detailMessage" "Ljava/lang/String;") (by simp [xThr]))
  obtain ⟨tyB, dB, hdB, hdnB⟩ := Cond.laysAt f1 f2 hffB (a' (.lays X Bundle.tN "backtrace" "Ljava/lang/Object;") (by simp [xThr]))
  have bC := Cond.laysApart hdB hdC hdnB hdnC (by rw [hnB, Y.causeName]; decide)
  have bS := Cond.laysApart hdB hdS hdnB hdnS (by rw [hnB, Y.stackName]; decide)
  have bP := Cond.laysApart hdB hdP hdnB hdnP (by rw [hnB, Y.suppName]; decide)
  have hskip : SkipFacts Tc e.platform s (fun u => u) ⟨G.2.2.2.2 1, xisr_ref (hG 1)⟩ ((preparedCellV Tc.toThrowableT (freshCell cC kC) H.size ⟨G.2.2.2.2 1, xisr_ref (hG 1)⟩ ⟨G.2.2.2.2 2, xisr_ref (hG 2)⟩).withEntry U.cur) :=
    ⟨{ ci198 := ci198, i198 := i198, fBack := fB }, ⟨hk198, hg198, ha198, hsB⟩, by
      have := fresh_default (c := cC) tyB
      rw [htB] at this
      simpa [preparedCellV, Cell.setSlot, Cell.withEntry, Array.getElem?_setIfInBounds, bC, bS, bP, bC.symm, bS.symm, bP.symm, defaultValue] using this, fun _ _ => rfl⟩
  obtain ⟨tm, methC, cdC, kC', vm₁, hnC, -, -, -, -, -, -, -, hW₁, st1⟩ := Steps.initColdS (tb := p.tables) (e := e) (below := below) (s := s) (U := U) Y0.here hF.1 Y0.warmed hpl hF.2.2.2.2.1 (t := Bundle.initS X) rfl rfl (Bundle.fit_spec hX).2
    (a' (.methodLink M.1.cls ic (Bundle.initS X)) (by simp [xThr])) (hts' (.instanceMethod (Bundle.initS X)) (by cases names <;> simp [xThr, Bundle.chainSAtoms, Bundle.passSAtoms])) (bytes := Bundle.six) (maxL := 2) (hts' (.code (Bundle.initS X) Bundle.six 2 none) (by cases names <;> simp [xThr, Bundle.chainSAtoms, Bundle.passSAtoms]))
    (f := F0 m (pc + 3 + 1 + 2) ls (.ref (G.2.2.2.1 i) :: .ref H.size :: .ref H.size :: rest)) rfl (a := H.size) (msg := .ref (G.2.2.2.1 i)) (rest := .ref H.size :: rest) rfl (by rw [hF.2.1]; exact hd3)
  cases Option.some.inj (hnC.symm.trans hP1m)
  have X₁ := Y0.noted hW₁
  obtain ⟨vm₂, X₂, st2⟩ := X₁.ctorMessageOffV hF.1 (g := F0 m (pc + 3 + 1 + 2) ls (.ref H.size :: rest)) rfl (by show ls.size = _; rw [hl.1, hL, hF.2.2.1]) Tc Lk Z LZ Mm LM (P1 :: Ps)
    (fun Pq hPq => by rcases List.mem_cons.mp hPq with rfl | hPq; exact L1; exact hLP Pq hPq) ⟨hlink1, hlink⟩ (u0 := ⟨G.2.2.2.2 1, xisr_ref (hG 1)⟩) (sen := ⟨G.2.2.2.2 2, xisr_ref (hG 2)⟩) (self := H.size) (msg := .ref (G.2.2.2.1 i)) rfl (cell := freshCell cC kC) (cellS := ucell)
    hcell (fun _ => by simp) (by simp) rfl rfl hsel0 hselF hcellS (Nat.ne_of_lt haS) (fun q => by rw [q] at z6; cases z6) z7 y7
    (Takes.of_laid f2 f3 tyC (by rw [Y.causeType]; rfl)) (Takes.of_laid f2 f3 tyS (by rw [Y.stackType]; exact fits_refV_array _ _)) (Takes.of_laid f2 f3 tyP (by rw [Y.suppType]; exact fits_refV_object _ _))
    (Takes.of_laid f2 f3 tyM (by rw [Y.msgType]; rfl)) Y.objLocals hskip htr' [] (ig := .invokespecial ic) (len := 3) (by rw [hF.2.1]; exact hd3)
    (by simp only [List.length_cons, hlenP]; rw [r1]; omega) (by
      have hca : (Value.ref H.size).category = 1 := rfl
      show 2 * 0 + ((Value.ref H.size).category + (rest.map fun v => v.category).sum) + (13 * (Ps.length + 1) + 42) ≤ R.locals
      rw [r2]
      omega)
  obtain ⟨meth9, cd9, hm9, hc9, -, -, -, -, he9, -⟩ := Cond.code_spec hF.2.2.2.2.2.2.2 (hts _ hco)
  cases Y0.method.symm.trans hm9
  cases Y0.code.symm.trans hc9
  obtain ⟨hwalk, hrun, hended, hWU, hsame⟩ := X₂.athrowLeaves hF.1 (g := F0 m (pc + 3 + 1 + 2 + 3) ls (.ref H.size :: rest)) rfl rfl rfl (covers_of_empty he9 _) (a := H.size) (rest := rest) rfl (by rw [hF.2.1]; exact hd4) (hlocks := hF.2.2.2.2.2.1)
  have hlt : H.size < U.heap.size := by rw [hUh]; simp
  have hheap : ((((U.setVm vm₁).setVm vm₂).setCell H.size (plainBareV Tc.toThrowableT (freshCell cC kC) H.size ⟨G.2.2.2.2 1, xisr_ref (hG 1)⟩ ⟨G.2.2.2.2 2, xisr_ref (hG 2)⟩ (.ref (G.2.2.2.1 i)))).setFrames (.throwing H.size :: below)).heap = H.push (plainBareV Tc.toThrowableT (freshCell cC kC) H.size ⟨G.2.2.2.2 1, xisr_ref (hG 1)⟩ ⟨G.2.2.2.2 2, xisr_ref (hG 2)⟩ (.ref (G.2.2.2.1 i))) := by
    show U.heap.setIfInBounds H.size _ = _
    rw [hUh]
    refine Array.ext_getElem? fun q => ?_
    rw [Array.getElem?_setIfInBounds, Array.getElem?_push, Array.getElem?_push]
    by_cases hq : H.size = q
    · subst hq; simp
    · simp [hq, Ne.symm hq]
  have hcl : xcell G.1 k [] (plainBareV Tc.toThrowableT (freshCell cC kC) H.size ⟨G.2.2.2.2 1, xisr_ref (hG 1)⟩ ⟨G.2.2.2.2 2, xisr_ref (hG 2)⟩ (.ref (G.2.2.2.1 i))) := by
    refine ⟨hcC, fun j v hv => by simp at hv, fun q => ?_⟩
    unfold xarr at q
    rw [hk] at q
    cases q
  obtain ⟨hS', hno⟩ := xS.new (k := k) (z := 6) (vs := []) (cell := plainBareV Tc.toThrowableT (freshCell cC kC) H.size ⟨G.2.2.2.2 1, xisr_ref (hG 1)⟩ ⟨G.2.2.2.2 2, xisr_ref (hG 2)⟩ (.ref (G.2.2.2.1 i))) hS0 rfl (by simp [plainBareV, preparedCellV, Cell.setSlot, f4]) hcl hc hn
  refine ⟨_, st1 _ (fun acts => ?_), .threw H.size, hrun, hended, ⟨⟨xup h H.size (k, []), c + 1, n + 6, hP _ hno (xkh.none hV hS0), by rw [hheap]; exact hS'⟩, (va_S.new hN).F hheap, fun v a hv => by cases hv⟩, _, hWU, hsame.mono (by rw [r3]; omega) (by rw [r4]; omega), fun q hq => ?_⟩
  · rw [doInvoke_state]
    exact st2 _ hwalk
  · rcases List.mem_append.mp hq with hh | hh
    · exact hN.2.2 q hh
    · have hb : q.base = H.size := by
        simp only [List.mem_cons, List.not_mem_nil, or_false] at hh
        rcases hh with rfl | rfl | rfl | rfl | rfl <;> rfl
      rw [hb]
      exact s2
end XTN
end
section
section
abbrev y_ASB_length : MethodName := ⟨"java/lang/AbstractStringBuilder", "length", "()I"⟩
abbrev M_ASB_length : XMt := (y_ASB_length, prog_15_method_6_code, 1, (some .int))
theorem d_ASB_length_0 : decode M_ASB_length.2.1 0 = .ok (.aload_n 0, 1) := by decide +kernel
theorem d_ASB_length_1 : decode M_ASB_length.2.1 1 = .ok (.getfield 79, 3) := by decide +kernel
theorem xw_64 : (Jvm.Cond.fieldLink "java/lang/AbstractStringBuilder" (79 : Nat) "java/lang/AbstractStringBuilder" "count" "I") ∈ xT := xT_at 64 (by decide +kernel) (by decide +kernel)
theorem xf_ASB_79_SB : xF "java/lang/AbstractStringBuilder" 79 k_StringBuilder 3 := ⟨_, _, _, "java/lang/AbstractStringBuilder", rfl, by decide, Or.inl xw_64, Or.inl rfl⟩
theorem d_ASB_length_4 : decode M_ASB_length.2.1 4 = .ok (.ireturn, 1) := by decide +kernel
abbrev y_SB_length : MethodName := ⟨"java/lang/StringBuilder", "length", "()I"⟩
abbrev M_SB_length : XMt := (y_SB_length, prog_26_method_93_code, 1, (some .int))
theorem d_SB_length_0 : decode M_SB_length.2.1 0 = .ok (.aload_n 0, 1) := by decide +kernel
theorem d_SB_length_1 : decode M_SB_length.2.1 1 = .ok (.invokespecial 343, 3) := by decide +kernel
theorem xw_178 : (Jvm.Cond.code ({ cls := "java/lang/AbstractStringBuilder", name := "length", desc := "()I" } : Jvm.MethodName) prog_15_method_6_code (1 : Nat) (Option.some Jvm.ClassFile.FieldType.int)) ∈ xT := xT_at 178 (by decide +kernel) (by decide +kernel)
theorem xw_2 : (Jvm.Cond.initialized "java/lang/AbstractStringBuilder") ∈ xT := xT_at 2 (by decide +kernel) (by decide +kernel)
theorem xcb_ASB_length : xcb M_ASB_length 0 := ⟨xw_178, xw_2, by decide, by decide, by decide, by decide +kernel⟩
theorem xw_177 : (Jvm.Cond.instanceMethod ({ cls := "java/lang/AbstractStringBuilder", name := "length", desc := "()I" } : Jvm.MethodName)) ∈ xT := xT_at 177 (by decide +kernel) (by decide +kernel)
theorem xw_176 : (Jvm.Cond.methodLink "java/lang/StringBuilder" (343 : Nat) ({ cls := "java/lang/AbstractStringBuilder", name := "length", desc := "()I" } : Jvm.MethodName)) ∈ xT := xT_at 176 (by decide +kernel) (by decide +kernel)
theorem xw_1605 : (Jvm.Cond.sameMethod "java/lang/AbstractStringBuilder" "java/lang/AbstractStringBuilder" "length" "()I") ∈ xT := xT_at 1605 (by decide +kernel) (by decide +kernel)
theorem xw_73 : (Jvm.Cond.superclass "java/lang/StringBuilder" "java/lang/AbstractStringBuilder") ∈ xT := xT_at 73 (by decide +kernel) (by decide +kernel)
theorem xcu_SB_343 : xCU "java/lang/StringBuilder" 343 M_ASB_length 0 := ⟨xcb_ASB_length, by decide, xw_177, xw_176, xw_1605, xw_73⟩
theorem d_SB_length_4 : decode M_SB_length.2.1 4 = .ok (.ireturn, 1) := by decide +kernel
abbrev y_ASB_isLatin1 : MethodName := ⟨"java/lang/AbstractStringBuilder", "isLatin1", "()Z"⟩
abbrev M_ASB_isLatin1 : XMt := (y_ASB_isLatin1, prog_15_method_68_code, 1, (some .boolean))
theorem d_ASB_isLatin1_0 : decode M_ASB_isLatin1.2.1 0 = .ok (.getstatic 18, 3) := by decide +kernel
theorem xw_51 : (Jvm.Cond.fieldLink "java/lang/AbstractStringBuilder" (18 : Nat) "java/lang/String" "COMPACT_STRINGS" "Z") ∈ xT := xT_at 51 (by decide +kernel) (by decide +kernel)
theorem d_ASB_isLatin1_3 : decode M_ASB_isLatin1.2.1 3 = .ok (.ifCond .eq 14, 3) := by decide +kernel
theorem d_ASB_isLatin1_6 : decode M_ASB_isLatin1.2.1 6 = .ok (.aload_n 0, 1) := by decide +kernel
theorem d_ASB_isLatin1_7 : decode M_ASB_isLatin1.2.1 7 = .ok (.getfield 22, 3) := by decide +kernel
theorem xw_61 : (Jvm.Cond.fieldLink "java/lang/AbstractStringBuilder" (22 : Nat) "java/lang/AbstractStringBuilder" "coder" "B") ∈ xT := xT_at 61 (by decide +kernel) (by decide +kernel)
theorem xf_ASB_22_SB : xF "java/lang/AbstractStringBuilder" 22 k_StringBuilder 1 := ⟨_, _, _, "java/lang/AbstractStringBuilder", rfl, by decide, Or.inl xw_61, Or.inl rfl⟩
theorem d_ASB_isLatin1_10 : decode M_ASB_isLatin1.2.1 10 = .ok (.ifCond .ne 7, 3) := by decide +kernel
theorem d_ASB_isLatin1_13 : decode M_ASB_isLatin1.2.1 13 = .ok (.iconst 1, 1) := by decide +kernel
theorem d_ASB_isLatin1_14 : decode M_ASB_isLatin1.2.1 14 = .ok (.goto 4, 3) := by decide +kernel
theorem d_ASB_isLatin1_18 : decode M_ASB_isLatin1.2.1 18 = .ok (.ireturn, 1) := by decide +kernel
abbrev y_SL1_canEncode_C : MethodName := ⟨"java/lang/StringLatin1", "canEncode", "(C)Z"⟩
abbrev M_SL1_canEncode_C : XMt := (y_SL1_canEncode_C, prog_27_method_3_code, 1, (some .boolean))
theorem d_SL1_canEncode_C_0 : decode M_SL1_canEncode_C.2.1 0 = .ok (.iload_n 0, 1) := by decide +kernel
theorem d_SL1_canEncode_C_1 : decode M_SL1_canEncode_C.2.1 1 = .ok (.sipush 255, 3) := by decide +kernel
theorem d_SL1_canEncode_C_4 : decode M_SL1_canEncode_C.2.1 4 = .ok (.if_icmp .gt 7, 3) := by decide +kernel
theorem d_SL1_canEncode_C_7 : decode M_SL1_canEncode_C.2.1 7 = .ok (.iconst 1, 1) := by decide +kernel
theorem d_SL1_canEncode_C_8 : decode M_SL1_canEncode_C.2.1 8 = .ok (.goto 4, 3) := by decide +kernel
theorem d_SL1_canEncode_C_12 : decode M_SL1_canEncode_C.2.1 12 = .ok (.ireturn, 1) := by decide +kernel
end
section SB1
variable {l : Launch} {G : XG} {h : XH} {c n d : Nat}
/-- an end that changes nothing -/
abbrev xSame (w : Value) (h : XH) (c n : Nat) : Option Value → XH → Nat → Nat → Prop := fun v h' c' n' => v = some w ∧ h' = h ∧ c' = c ∧ n' = n
/-- characters of one byte, as the byte arrays hold them -/
def xby (t : List Nat) : List Value := t.map (fun ch => .int (nI ch))
def xasc (t : List Nat) : Prop := ∀ ch ∈ t, ch < 128
/-- a StringBuilder: its fields -/
theorem c_ASB_length {a va : Nat} {w z : Value} {k : Int32} (ha : h a = some (k_StringBuilder, [.ref va, w, z, .int k])) : XM l G d M_ASB_length [.ref a] h c n (xSame (.int k) h c n) := by
  refine XM.of (by decide +kernel) (Nat.le_of_ble_eq_true rfl) ?_
  refine x_aload_n d_ASB_length_0 rfl rfl ?_
  refine x_get xf_ASB_79_SB (Or.inl ha) rfl d_ASB_length_1 ?_
  refine x_iret d_ASB_length_4 rfl ?_
  exact ⟨rfl, rfl, rfl, rfl⟩
theorem c_SB_length (hd : 1 ≤ d) {a va : Nat} {w z : Value} {k : Int32} (ha : h a = some (k_StringBuilder, [.ref va, w, z, .int k])) : XM l G d M_SB_length [.ref a] h c n (xSame (.int k) h c n) := by
  obtain ⟨d, rfl⟩ : ∃ q, d = q + 1 := ⟨d - 1, by omega⟩
  refine XM.of (by decide +kernel) (Nat.le_of_ble_eq_true rfl) ?_
  refine x_aload_n d_SB_length_0 rfl rfl ?_
  refine x_callU (As := []) (k := k_StringBuilder) rfl xcu_SB_343 (Or.inl ha) (c_ASB_length ha) rfl rfl (Nat.le_of_ble_eq_true rfl) d_SB_length_1 ?_
  rintro v h' c' n' ⟨rfl, rfl, rfl, rfl⟩
  refine x_iret d_SB_length_4 rfl ?_
  exact ⟨rfl, rfl, rfl, rfl⟩
theorem c_ASB_isLatin1 {a va : Nat} {z : Value} {k : Value} (ha : h a = some (k_StringBuilder, [.ref va, .int 0, z, k])) : XM l G d M_ASB_isLatin1 [.ref a] h c n (xSame (.int 1) h c n) := by
  refine XM.of (by decide +kernel) (Nat.le_of_ble_eq_true rfl) ?_
  refine x_gets xw_51 (List.mem_of_getElem? (i := 0) rfl) d_ASB_isLatin1_0 ?_
  refine x_if_eq (tgt := 17) d_ASB_isLatin1_3 (by decide) (fun ht => absurd ht (by decide)) (fun _ => ?_)
  refine x_aload_n d_ASB_isLatin1_6 rfl rfl ?_
  refine x_get xf_ASB_22_SB (Or.inl ha) rfl d_ASB_isLatin1_7 ?_
  refine x_if_ne (tgt := 17) d_ASB_isLatin1_10 (by decide) (fun ht => absurd (by decide) ht) (fun _ => ?_)
  refine x_iconst (v := 1) d_ASB_isLatin1_13 (by decide) ?_
  refine x_goto (tgt := 18) d_ASB_isLatin1_14 (by decide) ?_
  refine x_zret d_ASB_isLatin1_18 rfl rfl ?_
  exact ⟨rfl, rfl, rfl, rfl⟩
theorem c_SL1_canEncode_C {q : Nat} (hq : q < 256) : XM l G d M_SL1_canEncode_C [.int (nI q)] h c n (xSame (.int 1) h c n) := by
  refine XM.of (by decide +kernel) (Nat.le_of_ble_eq_true rfl) ?_
  refine x_iload_n d_SL1_canEncode_C_0 rfl ?_
  refine x_sipush (v := 255) d_SL1_canEncode_C_1 (by decide) ?_
  refine x_icmp_gt (tgt := 11) d_SL1_canEncode_C_4 (by decide) (fun ht => absurd ht (by exact nI_nlt (a := 255) (b := q) (by omega) (by omega))) (fun _ => ?_)
  refine x_iconst (v := 1) d_SL1_canEncode_C_7 (by decide) ?_
  refine x_goto (tgt := 12) d_SL1_canEncode_C_8 (by decide) ?_
  refine x_zret d_SL1_canEncode_C_12 rfl rfl ?_
  exact ⟨rfl, rfl, rfl, rfl⟩
end SB1
end
section
section
abbrev y_ArraysSupport_newLength : MethodName := ⟨"jdk/internal/util/ArraysSupport", "newLength", "(III)I"⟩
abbrev M_ArraysSupport_newLength : XMt := (y_ArraysSupport_newLength, prog_40_method_27_code, 4, (some .int))
theorem d_ArraysSupport_newLength_0 : decode M_ArraysSupport_newLength.2.1 0 = .ok (.iload_n 0, 1) := by decide +kernel
theorem d_ArraysSupport_newLength_1 : decode M_ArraysSupport_newLength.2.1 1 = .ok (.iload_n 1, 1) := by decide +kernel
theorem d_ArraysSupport_newLength_2 : decode M_ArraysSupport_newLength.2.1 2 = .ok (.iload_n 2, 1) := by decide +kernel
theorem d_ArraysSupport_newLength_3 : decode M_ArraysSupport_newLength.2.1 3 = .ok (.invokestatic 194, 3) := by decide +kernel
theorem xw_197 : (Jvm.Cond.methodLink "jdk/internal/util/ArraysSupport" (194 : Nat) ({ cls := "java/lang/Math", name := "max", desc := "(II)I" } : Jvm.MethodName)) ∈ xT := xT_at 197 (by decide +kernel) (by decide +kernel)
theorem xw_198 : (Jvm.Cond.static ({ cls := "java/lang/Math", name := "max", desc := "(II)I" } : Jvm.MethodName)) ∈ xT := xT_at 198 (by decide +kernel) (by decide +kernel)
theorem xw_10 : (Jvm.Cond.initialized "java/lang/Math") ∈ xT := xT_at 10 (by decide +kernel) (by decide +kernel)
theorem xw_199 : (Jvm.Cond.code ({ cls := "java/lang/Math", name := "max", desc := "(II)I" } : Jvm.MethodName) prog_23_method_65_code (2 : Nat) (Option.some Jvm.ClassFile.FieldType.int)) ∈ xT := xT_at 199 (by decide +kernel) (by decide +kernel)
theorem d_ArraysSupport_newLength_6 : decode M_ArraysSupport_newLength.2.1 6 = .ok (.iadd, 1) := by decide +kernel
theorem d_ArraysSupport_newLength_7 : decode M_ArraysSupport_newLength.2.1 7 = .ok (.istore_n 3, 1) := by decide +kernel
theorem d_ArraysSupport_newLength_8 : decode M_ArraysSupport_newLength.2.1 8 = .ok (.iconst 0, 1) := by decide +kernel
theorem d_ArraysSupport_newLength_9 : decode M_ArraysSupport_newLength.2.1 9 = .ok (.iload_n 3, 1) := by decide +kernel
theorem d_ArraysSupport_newLength_10 : decode M_ArraysSupport_newLength.2.1 10 = .ok (.if_icmp .ge 11, 3) := by decide +kernel
theorem d_ArraysSupport_newLength_13 : decode M_ArraysSupport_newLength.2.1 13 = .ok (.iload_n 3, 1) := by decide +kernel
theorem d_ArraysSupport_newLength_14 : decode M_ArraysSupport_newLength.2.1 14 = .ok (.ldc 200, 2) := by decide +kernel
theorem xw_200 : (Jvm.Cond.constant "jdk/internal/util/ArraysSupport" (200 : Nat) (2147483639 : Int32)) ∈ xT := xT_at 200 (by decide +kernel) (by decide +kernel)
theorem d_ArraysSupport_newLength_16 : decode M_ArraysSupport_newLength.2.1 16 = .ok (.if_icmp .gt 5, 3) := by decide +kernel
theorem d_ArraysSupport_newLength_19 : decode M_ArraysSupport_newLength.2.1 19 = .ok (.iload_n 3, 1) := by decide +kernel
theorem d_ArraysSupport_newLength_20 : decode M_ArraysSupport_newLength.2.1 20 = .ok (.ireturn, 1) := by decide +kernel
abbrev y_ASB_newCapacity : MethodName := ⟨"java/lang/AbstractStringBuilder", "newCapacity", "(I)I"⟩
abbrev M_ASB_newCapacity : XMt := (y_ASB_newCapacity, prog_15_method_10_code, 6, (some .int))
theorem d_ASB_newCapacity_0 : decode M_ASB_newCapacity.2.1 0 = .ok (.aload_n 0, 1) := by decide +kernel
theorem d_ASB_newCapacity_1 : decode M_ASB_newCapacity.2.1 1 = .ok (.getfield 15, 3) := by decide +kernel
theorem xw_60 : (Jvm.Cond.fieldLink "java/lang/AbstractStringBuilder" (15 : Nat) "java/lang/AbstractStringBuilder" "value" "[B") ∈ xT := xT_at 60 (by decide +kernel) (by decide +kernel)
theorem xf_ASB_15_SB : xF "java/lang/AbstractStringBuilder" 15 k_StringBuilder 0 := ⟨_, _, _, "java/lang/AbstractStringBuilder", rfl, by decide, Or.inl xw_60, Or.inl rfl⟩
theorem d_ASB_newCapacity_4 : decode M_ASB_newCapacity.2.1 4 = .ok (.arraylength, 1) := by decide +kernel
theorem d_ASB_newCapacity_5 : decode M_ASB_newCapacity.2.1 5 = .ok (.istore_n 2, 1) := by decide +kernel
theorem d_ASB_newCapacity_6 : decode M_ASB_newCapacity.2.1 6 = .ok (.iload_n 1, 1) := by decide +kernel
theorem d_ASB_newCapacity_7 : decode M_ASB_newCapacity.2.1 7 = .ok (.aload_n 0, 1) := by decide +kernel
theorem d_ASB_newCapacity_8 : decode M_ASB_newCapacity.2.1 8 = .ok (.getfield 22, 3) := by decide +kernel
theorem d_ASB_newCapacity_11 : decode M_ASB_newCapacity.2.1 11 = .ok (.ishl, 1) := by decide +kernel
theorem d_ASB_newCapacity_12 : decode M_ASB_newCapacity.2.1 12 = .ok (.istore_n 3, 1) := by decide +kernel
theorem d_ASB_newCapacity_13 : decode M_ASB_newCapacity.2.1 13 = .ok (.iload_n 3, 1) := by decide +kernel
theorem d_ASB_newCapacity_14 : decode M_ASB_newCapacity.2.1 14 = .ok (.iload_n 2, 1) := by decide +kernel
theorem d_ASB_newCapacity_15 : decode M_ASB_newCapacity.2.1 15 = .ok (.isub, 1) := by decide +kernel
theorem d_ASB_newCapacity_16 : decode M_ASB_newCapacity.2.1 16 = .ok (.istore 4, 2) := by decide +kernel
theorem d_ASB_newCapacity_18 : decode M_ASB_newCapacity.2.1 18 = .ok (.iload_n 2, 1) := by decide +kernel
theorem d_ASB_newCapacity_19 : decode M_ASB_newCapacity.2.1 19 = .ok (.iload 4, 2) := by decide +kernel
theorem d_ASB_newCapacity_21 : decode M_ASB_newCapacity.2.1 21 = .ok (.iload_n 2, 1) := by decide +kernel
theorem d_ASB_newCapacity_22 : decode M_ASB_newCapacity.2.1 22 = .ok (.iconst 2, 1) := by decide +kernel
theorem d_ASB_newCapacity_23 : decode M_ASB_newCapacity.2.1 23 = .ok (.aload_n 0, 1) := by decide +kernel
theorem d_ASB_newCapacity_24 : decode M_ASB_newCapacity.2.1 24 = .ok (.getfield 22, 3) := by decide +kernel
theorem d_ASB_newCapacity_27 : decode M_ASB_newCapacity.2.1 27 = .ok (.ishl, 1) := by decide +kernel
theorem d_ASB_newCapacity_28 : decode M_ASB_newCapacity.2.1 28 = .ok (.iadd, 1) := by decide +kernel
theorem d_ASB_newCapacity_29 : decode M_ASB_newCapacity.2.1 29 = .ok (.invokestatic 114, 3) := by decide +kernel
theorem xw_196 : (Jvm.Cond.code ({ cls := "jdk/internal/util/ArraysSupport", name := "newLength", desc := "(III)I" } : Jvm.MethodName) prog_40_method_27_code (4 : Nat) (Option.some Jvm.ClassFile.FieldType.int)) ∈ xT := xT_at 196 (by decide +kernel) (by decide +kernel)
theorem xw_9 : (Jvm.Cond.initialized "jdk/internal/util/ArraysSupport") ∈ xT := xT_at 9 (by decide +kernel) (by decide +kernel)
theorem xcb_ArraysSupport_newLength : xcb M_ArraysSupport_newLength 3 := ⟨xw_196, xw_9, by decide, by decide, by decide, by decide +kernel⟩
theorem xw_194 : (Jvm.Cond.methodLink "java/lang/AbstractStringBuilder" (114 : Nat) ({ cls := "jdk/internal/util/ArraysSupport", name := "newLength", desc := "(III)I" } : Jvm.MethodName)) ∈ xT := xT_at 194 (by decide +kernel) (by decide +kernel)
theorem xw_195 : (Jvm.Cond.static ({ cls := "jdk/internal/util/ArraysSupport", name := "newLength", desc := "(III)I" } : Jvm.MethodName)) ∈ xT := xT_at 195 (by decide +kernel) (by decide +kernel)
theorem xcs_ASB_114 : xCS "java/lang/AbstractStringBuilder" 114 M_ArraysSupport_newLength 3 := ⟨xcb_ArraysSupport_newLength, xw_195, Or.inl xw_194⟩
theorem d_ASB_newCapacity_32 : decode M_ASB_newCapacity.2.1 32 = .ok (.istore 5, 2) := by decide +kernel
theorem d_ASB_newCapacity_34 : decode M_ASB_newCapacity.2.1 34 = .ok (.iload 5, 2) := by decide +kernel
theorem d_ASB_newCapacity_36 : decode M_ASB_newCapacity.2.1 36 = .ok (.ldc 39, 2) := by decide +kernel
theorem xw_204 : (Jvm.Cond.constant "java/lang/AbstractStringBuilder" (39 : Nat) (2147483647 : Int32)) ∈ xT := xT_at 204 (by decide +kernel) (by decide +kernel)
theorem d_ASB_newCapacity_38 : decode M_ASB_newCapacity.2.1 38 = .ok (.if_icmp .ne 13, 3) := by decide +kernel
theorem d_ASB_newCapacity_51 : decode M_ASB_newCapacity.2.1 51 = .ok (.iload 5, 2) := by decide +kernel
theorem d_ASB_newCapacity_53 : decode M_ASB_newCapacity.2.1 53 = .ok (.aload_n 0, 1) := by decide +kernel
theorem d_ASB_newCapacity_54 : decode M_ASB_newCapacity.2.1 54 = .ok (.getfield 22, 3) := by decide +kernel
theorem d_ASB_newCapacity_57 : decode M_ASB_newCapacity.2.1 57 = .ok (.ishr, 1) := by decide +kernel
theorem d_ASB_newCapacity_58 : decode M_ASB_newCapacity.2.1 58 = .ok (.ireturn, 1) := by decide +kernel
abbrev y_Arrays_copyOf_aBI : MethodName := ⟨"java/util/Arrays", "copyOf", "([BI)[B"⟩
abbrev M_Arrays_copyOf_aBI : XMt := (y_Arrays_copyOf_aBI, prog_34_method_121_code, 3, (some (.array .byte)))
theorem d_Arrays_copyOf_aBI_0 : decode M_Arrays_copyOf_aBI.2.1 0 = .ok (.iload_n 1, 1) := by decide +kernel
theorem d_Arrays_copyOf_aBI_1 : decode M_Arrays_copyOf_aBI.2.1 1 = .ok (.aload_n 0, 1) := by decide +kernel
theorem d_Arrays_copyOf_aBI_2 : decode M_Arrays_copyOf_aBI.2.1 2 = .ok (.arraylength, 1) := by decide +kernel
theorem d_Arrays_copyOf_aBI_3 : decode M_Arrays_copyOf_aBI.2.1 3 = .ok (.if_icmp .ne 11, 3) := by decide +kernel
theorem d_Arrays_copyOf_aBI_14 : decode M_Arrays_copyOf_aBI.2.1 14 = .ok (.iload_n 1, 1) := by decide +kernel
theorem d_Arrays_copyOf_aBI_15 : decode M_Arrays_copyOf_aBI.2.1 15 = .ok (.newarray .byte, 2) := by decide +kernel
theorem xw_74 : (Jvm.Cond.arrayClass Jvm.ClassFile.FieldType.byte) ∈ xT := xT_at 74 (by decide +kernel) (by decide +kernel)
theorem d_Arrays_copyOf_aBI_17 : decode M_Arrays_copyOf_aBI.2.1 17 = .ok (.astore_n 2, 1) := by decide +kernel
theorem d_Arrays_copyOf_aBI_18 : decode M_Arrays_copyOf_aBI.2.1 18 = .ok (.aload_n 0, 1) := by decide +kernel
theorem d_Arrays_copyOf_aBI_19 : decode M_Arrays_copyOf_aBI.2.1 19 = .ok (.iconst 0, 1) := by decide +kernel
theorem d_Arrays_copyOf_aBI_20 : decode M_Arrays_copyOf_aBI.2.1 20 = .ok (.aload_n 2, 1) := by decide +kernel
theorem d_Arrays_copyOf_aBI_21 : decode M_Arrays_copyOf_aBI.2.1 21 = .ok (.iconst 0, 1) := by decide +kernel
theorem d_Arrays_copyOf_aBI_22 : decode M_Arrays_copyOf_aBI.2.1 22 = .ok (.aload_n 0, 1) := by decide +kernel
theorem d_Arrays_copyOf_aBI_23 : decode M_Arrays_copyOf_aBI.2.1 23 = .ok (.arraylength, 1) := by decide +kernel
theorem d_Arrays_copyOf_aBI_24 : decode M_Arrays_copyOf_aBI.2.1 24 = .ok (.iload_n 1, 1) := by decide +kernel
theorem d_Arrays_copyOf_aBI_25 : decode M_Arrays_copyOf_aBI.2.1 25 = .ok (.invokestatic 304, 3) := by decide +kernel
theorem xw_215 : (Jvm.Cond.methodLink "java/util/Arrays" (304 : Nat) ({ cls := "java/lang/Math", name := "min", desc := "(II)I" } : Jvm.MethodName)) ∈ xT := xT_at 215 (by decide +kernel) (by decide +kernel)
theorem xw_216 : (Jvm.Cond.static ({ cls := "java/lang/Math", name := "min", desc := "(II)I" } : Jvm.MethodName)) ∈ xT := xT_at 216 (by decide +kernel) (by decide +kernel)
theorem xw_217 : (Jvm.Cond.code ({ cls := "java/lang/Math", name := "min", desc := "(II)I" } : Jvm.MethodName) prog_23_method_69_code (2 : Nat) (Option.some Jvm.ClassFile.FieldType.int)) ∈ xT := xT_at 217 (by decide +kernel) (by decide +kernel)
theorem d_Arrays_copyOf_aBI_28 : decode M_Arrays_copyOf_aBI.2.1 28 = .ok (.invokestatic 150, 3) := by decide +kernel
theorem xw_218 : (Jvm.Cond.methodLink "java/util/Arrays" (150 : Nat) ({ cls := "java/lang/System", name := "arraycopy", desc := "(Ljava/lang/Object;ILjava/lang/Object;II)V" } : Jvm.MethodName)) ∈ xT := xT_at 218 (by decide +kernel) (by decide +kernel)
theorem xw_220 : (Jvm.Cond.native ({ cls := "java/lang/System", name := "arraycopy", desc := "(Ljava/lang/Object;ILjava/lang/Object;II)V" } : Jvm.MethodName)) ∈ xT := xT_at 220 (by decide +kernel) (by decide +kernel)
theorem xw_219 : (Jvm.Cond.static ({ cls := "java/lang/System", name := "arraycopy", desc := "(Ljava/lang/Object;ILjava/lang/Object;II)V" } : Jvm.MethodName)) ∈ xT := xT_at 219 (by decide +kernel) (by decide +kernel)
theorem xw_12 : (Jvm.Cond.initialized "java/lang/System") ∈ xT := xT_at 12 (by decide +kernel) (by decide +kernel)
theorem d_Arrays_copyOf_aBI_31 : decode M_Arrays_copyOf_aBI.2.1 31 = .ok (.aload_n 2, 1) := by decide +kernel
theorem d_Arrays_copyOf_aBI_32 : decode M_Arrays_copyOf_aBI.2.1 32 = .ok (.areturn, 1) := by decide +kernel
end
section SB2
variable {l : Launch} {G : XG} {h : XH} {c n d : Nat}
theorem xby_len (t : List Nat) : (xby t).length = t.length := by simp [xby]
theorem xfit1 : ∀ q, q < 128 → fits .byte (.int (nI q)) = true ∧ (nI q).toInt8.toInt32 = nI q ∧ narrow .byte (.int (nI q)) = .int (nI q) ∧ nI q &&& 255 = nI q ∧ ((nI q).toUInt32 % 65536).toInt32 = nI q := by decide +kernel
theorem xby_fit {t : List Nat} (ht : xasc t) : ∀ v ∈ xby t, fits .byte v = true := by
  intro v hv
  obtain ⟨q, hq, rfl⟩ := List.mem_map.mp hv
  exact (xfit1 q (ht q hq)).1
theorem nI_max {g p : Nat} (hg : g < 2 ^ 31) (hp : p < 2 ^ 31) : (if nI g < nI p then nI p else nI g) = nI (max g p) := by
  by_cases h : g < p
  · rw [if_pos (nI_lt h hp), Nat.max_eq_right (Nat.le_of_lt h)]
  · rw [if_neg (nI_nlt (by omega) hg), Nat.max_eq_left (by omega)]
theorem nI_min {g p : Nat} (hg : g < 2 ^ 31) (hp : p < 2 ^ 31) : (if nI p < nI g then nI p else nI g) = nI (min g p) := by
  by_cases h : p < g
  · rw [if_pos (nI_lt h hg), Nat.min_eq_right (Nat.le_of_lt h)]
  · rw [if_neg (nI_nlt (by omega) hp), Nat.min_eq_left (by omega)]
theorem c_newLength (hd : 1 ≤ d) {o g p : Nat} (ho : o < 2 ^ 20) (hg : g < 2 ^ 20) (hp : p < 2 ^ 20) (h0 : 0 < o + max g p) : XM l G d M_ArraysSupport_newLength [.int (nI o), .int (nI g), .int (nI p)] h c n (xSame (.int (nI (o + max g p))) h c n) := by
  obtain ⟨d, rfl⟩ : ∃ q, d = q + 1 := ⟨d - 1, by omega⟩
  have hm : max g p < 2 ^ 20 := by omega
  refine XM.of (by decide +kernel) (Nat.le_of_ble_eq_true rfl) ?_
  refine x_iload_n d_ArraysSupport_newLength_0 rfl ?_
  refine x_iload_n d_ArraysSupport_newLength_1 rfl ?_
  refine x_iload_n d_ArraysSupport_newLength_2 rfl ?_
  refine x_mmax xw_197 xw_198 xw_10 xw_199 (Nat.le_of_ble_eq_true rfl) d_ArraysSupport_newLength_3 ?_
  refine x_top (w := .int (nI (max g p))) (by rw [nI_max (by omega) (by omega)]) ?_
  refine x_iadd d_ArraysSupport_newLength_6 ?_
  refine x_top (w := .int (nI (o + max g p))) (by rw [nI_add]) ?_
  refine x_istore_n (L' := [_, _, _, _]) d_ArraysSupport_newLength_7 rfl rfl ?_
  refine x_iconst (v := 0) d_ArraysSupport_newLength_8 (by decide) ?_
  refine x_iload_n d_ArraysSupport_newLength_9 rfl ?_
  refine x_icmp_ge (tgt := 21) d_ArraysSupport_newLength_10 (by decide) (fun ht => absurd ht (nI_nle h0 (by omega))) (fun _ => ?_)
  refine x_iload_n d_ArraysSupport_newLength_13 rfl ?_
  refine x_ldc (v := 2147483639) xw_200 d_ArraysSupport_newLength_14 ?_
  refine x_icmp_gt (tgt := 21) d_ArraysSupport_newLength_16 (by decide) (fun ht => absurd ht (by exact nI_nlt (a := 2147483639) (b := o + max g p) (by omega) (by omega))) (fun _ => ?_)
  refine x_iload_n d_ArraysSupport_newLength_19 rfl ?_
  refine x_iret d_ArraysSupport_newLength_20 rfl ?_
  exact ⟨rfl, rfl, rfl, rfl⟩
theorem c_newCapacity (hd : 2 ≤ d) {a va m : Nat} {z k : Value} {vs : List Value} (ha : h a = some (k_StringBuilder, [.ref va, .int 0, z, k])) (hv : h va = some (k_abyte, vs)) (hm : vs.length < m) (hb : m < 2 ^ 18) : XM l G d M_ASB_newCapacity [.ref a, .int (nI m)] h c n (xSame (.int (nI (max m (2 * vs.length + 2)))) h c n) := by
  obtain ⟨d, rfl⟩ : ∃ q, d = q + 1 := ⟨d - 1, by omega⟩
  refine XM.of (by decide +kernel) (Nat.le_of_ble_eq_true rfl) ?_
  refine x_aload_n d_ASB_newCapacity_0 rfl rfl ?_
  refine x_get xf_ASB_15_SB (Or.inl ha) rfl d_ASB_newCapacity_1 ?_
  refine x_alen (k := k_abyte) rfl (Or.inl hv) (v := nI vs.length) rfl d_ASB_newCapacity_4 ?_
  refine x_istore_n (L' := [_, _, _, _, _, _]) d_ASB_newCapacity_5 rfl rfl ?_
  refine x_iload_n d_ASB_newCapacity_6 rfl ?_
  refine x_aload_n d_ASB_newCapacity_7 rfl rfl ?_
  refine x_get xf_ASB_22_SB (Or.inl ha) rfl d_ASB_newCapacity_8 ?_
  refine x_ishl d_ASB_newCapacity_11 ?_
  refine x_top (w := .int (nI m)) (by rw [sb_shl0]) ?_
  refine x_istore_n (L' := [_, _, _, _, _, _]) d_ASB_newCapacity_12 rfl rfl ?_
  refine x_iload_n d_ASB_newCapacity_13 rfl ?_
  refine x_iload_n d_ASB_newCapacity_14 rfl ?_
  refine x_isub d_ASB_newCapacity_15 ?_
  refine x_top (w := .int (nI (m - vs.length))) (by rw [pk_sub (by omega)]) ?_
  refine x_istore (L' := [_, _, _, _, _, _]) d_ASB_newCapacity_16 rfl rfl ?_
  refine x_iload_n d_ASB_newCapacity_18 rfl ?_
  refine x_iload d_ASB_newCapacity_19 rfl ?_
  refine x_iload_n d_ASB_newCapacity_21 rfl ?_
  refine x_iconst (v := 2) d_ASB_newCapacity_22 (by decide) ?_
  refine x_aload_n d_ASB_newCapacity_23 rfl rfl ?_
  refine x_get xf_ASB_22_SB (Or.inl ha) rfl d_ASB_newCapacity_24 ?_
  refine x_ishl d_ASB_newCapacity_27 ?_
  refine x_st (st' := [.int 2, .int (nI vs.length), .int (nI (m - vs.length)), .int (nI vs.length)]) (by rw [sb_shl0]) ?_
  refine x_iadd d_ASB_newCapacity_28 ?_
  refine x_top (w := .int (nI (vs.length + 2))) (by rw [show (2 : Int32) = nI 2 from rfl, nI_add]) ?_
  refine x_callS (As := [_, _, _]) xcs_ASB_114 (c_newLength (by omega) (o := vs.length) (g := m - vs.length) (p := vs.length + 2) (by omega) (by omega) (by omega) (by omega)) rfl rfl (Nat.le_of_ble_eq_true rfl) d_ASB_newCapacity_29 ?_
  rintro v h' c' n' ⟨rfl, rfl, rfl, rfl⟩
  have e : vs.length + max (m - vs.length) (vs.length + 2) = max m (2 * vs.length + 2) := by omega
  rw [e]
  have hl : max m (2 * vs.length + 2) < 2 ^ 20 := by omega
  refine x_istore (L' := [_, _, _, _, _, _]) d_ASB_newCapacity_32 rfl rfl ?_
  refine x_iload d_ASB_newCapacity_34 rfl ?_
  refine x_ldc (v := 2147483647) xw_204 d_ASB_newCapacity_36 ?_
  refine x_icmp_ne (tgt := 51) d_ASB_newCapacity_38 (by decide) (fun _ => ?_) (fun hn => absurd hn (by rw [show (2147483647 : Int32) = nI 2147483647 from rfl, nI_eq (by omega) (by omega)]; omega))
  refine x_iload d_ASB_newCapacity_51 rfl ?_
  refine x_aload_n d_ASB_newCapacity_53 rfl rfl ?_
  refine x_get xf_ASB_22_SB (Or.inl ha) rfl d_ASB_newCapacity_54 ?_
  refine x_ishr d_ASB_newCapacity_57 ?_
  refine x_top (w := .int (nI (max m (2 * vs.length + 2)))) (by rw [sb_shr0]) ?_
  refine x_iret d_ASB_newCapacity_58 rfl ?_
  exact ⟨rfl, rfl, rfl, rfl⟩
/-- an end that is a new cell -/
abbrev xMade (k : Nat) (vs : List Value) (h : XH) (c n : Nat) : Option Value → XH → Nat → Nat → Prop := fun v h' c' n' => ∃ q, v = some (.ref q) ∧ h q = none ∧ h' = xup h q (k, vs) ∧ c' = c + 1 ∧ n' = n + vs.length
theorem xcopy_grow {vs : List Value} {m : Nat} {z : Value} (hm : vs.length ≤ m) : xcopy vs (List.replicate m z) 0 0 vs.length = vs ++ List.replicate (m - vs.length) z := by
  unfold xcopy
  simp
theorem c_copyOf_aB (hd : 1 ≤ d) {a m : Nat} {vs : List Value} (ha : xr G h a k_abyte vs) (hf : ∀ v ∈ vs, fits .byte v = true) (hm : vs.length < m) (hb : m < 2 ^ 20) (hc : c + 1 ≤ xCB) (hn : n + m ≤ xSB) : XM l G d M_Arrays_copyOf_aBI [.ref a, .int (nI m)] h c n (xMade k_abyte (vs ++ List.replicate (m - vs.length) (.int 0)) h c n) := by
  obtain ⟨d, rfl⟩ : ∃ q, d = q + 1 := ⟨d - 1, by omega⟩
  refine XM.of (by decide +kernel) (Nat.le_of_ble_eq_true rfl) ?_
  refine x_iload_n d_Arrays_copyOf_aBI_0 rfl ?_
  refine x_aload_n d_Arrays_copyOf_aBI_1 rfl rfl ?_
  refine x_alen (k := k_abyte) rfl ha (v := nI vs.length) rfl d_Arrays_copyOf_aBI_2 ?_
  refine x_icmp_ne (tgt := 14) d_Arrays_copyOf_aBI_3 (by decide) (fun _ => ?_) (fun hn => absurd hn (by rw [nI_eq (by omega) (by omega)]; omega))
  refine x_iload_n d_Arrays_copyOf_aBI_14 rfl ?_
  refine x_newa (k := k_abyte) rfl rfl (fun _ hz => by cases hz) xw_74 (nI_pos (by omega)) (nI_clamp (by omega)) (by show m * 1 ≤ _; omega) hc hn d_Arrays_copyOf_aBI_15 (fun q hn_q hk_q => ?_)
  refine x_astore_n (L' := [_, _, _]) d_Arrays_copyOf_aBI_17 rfl rfl rfl ?_
  refine x_aload_n d_Arrays_copyOf_aBI_18 rfl rfl ?_
  refine x_iconst (v := 0) d_Arrays_copyOf_aBI_19 (by decide) ?_
  refine x_aload_n d_Arrays_copyOf_aBI_20 rfl rfl ?_
  refine x_iconst (v := 0) d_Arrays_copyOf_aBI_21 (by decide) ?_
  refine x_aload_n d_Arrays_copyOf_aBI_22 rfl rfl ?_
  refine x_alen (k := k_abyte) rfl (xr_up ha hn_q) (v := nI vs.length) rfl d_Arrays_copyOf_aBI_23 ?_
  refine x_iload_n d_Arrays_copyOf_aBI_24 rfl ?_
  refine x_mmin xw_215 xw_216 xw_10 xw_217 (Nat.le_of_ble_eq_true rfl) d_Arrays_copyOf_aBI_25 ?_
  refine x_top (w := .int (nI vs.length)) (by rw [nI_min (by omega) (by omega), Nat.min_eq_left (by omega)]) ?_
  refine x_copyP (k0 := k_abyte) (k := k_abyte) rfl rfl rfl xw_218 xw_220 xw_219 xw_12 (xr_up ha hn_q) xup_self (by decide) (by decide) (nI_pos (by omega)) (by rw [nI_clamp (by omega)]; exact Nat.le_of_eq (by simp)) (by rw [nI_clamp (by omega)]; simp; omega) hf (Nat.le_of_ble_eq_true rfl) d_Arrays_copyOf_aBI_28 ?_
  refine x_hp (h' := xup h q (k_abyte, vs ++ List.replicate (m - vs.length) (.int 0))) (by rw [xup_up, nI_clamp (by omega), ← xcopy_grow (by omega)]; rfl) ?_
  refine x_aload_n d_Arrays_copyOf_aBI_31 rfl rfl ?_
  refine x_aret d_Arrays_copyOf_aBI_32 rfl rfl ?_
  exact ⟨q, rfl, hn_q, rfl, rfl, by simp; omega⟩
end SB2
end
section
section
abbrev y_ASB_ensureCapacityInternal : MethodName := ⟨"java/lang/AbstractStringBuilder", "ensureCapacityInternal", "(I)V"⟩
abbrev M_ASB_ensureCapacityInternal : XMt := (y_ASB_ensureCapacityInternal, prog_15_method_9_code, 3, none)
theorem d_ASB_ensureCapacityInternal_0 : decode M_ASB_ensureCapacityInternal.2.1 0 = .ok (.aload_n 0, 1) := by decide +kernel
theorem d_ASB_ensureCapacityInternal_1 : decode M_ASB_ensureCapacityInternal.2.1 1 = .ok (.getfield 15, 3) := by decide +kernel
theorem d_ASB_ensureCapacityInternal_4 : decode M_ASB_ensureCapacityInternal.2.1 4 = .ok (.arraylength, 1) := by decide +kernel
theorem d_ASB_ensureCapacityInternal_5 : decode M_ASB_ensureCapacityInternal.2.1 5 = .ok (.aload_n 0, 1) := by decide +kernel
theorem d_ASB_ensureCapacityInternal_6 : decode M_ASB_ensureCapacityInternal.2.1 6 = .ok (.getfield 22, 3) := by decide +kernel
theorem d_ASB_ensureCapacityInternal_9 : decode M_ASB_ensureCapacityInternal.2.1 9 = .ok (.ishr, 1) := by decide +kernel
theorem d_ASB_ensureCapacityInternal_10 : decode M_ASB_ensureCapacityInternal.2.1 10 = .ok (.istore_n 2, 1) := by decide +kernel
theorem d_ASB_ensureCapacityInternal_11 : decode M_ASB_ensureCapacityInternal.2.1 11 = .ok (.iload_n 1, 1) := by decide +kernel
theorem d_ASB_ensureCapacityInternal_12 : decode M_ASB_ensureCapacityInternal.2.1 12 = .ok (.iload_n 2, 1) := by decide +kernel
theorem d_ASB_ensureCapacityInternal_13 : decode M_ASB_ensureCapacityInternal.2.1 13 = .ok (.isub, 1) := by decide +kernel
theorem d_ASB_ensureCapacityInternal_14 : decode M_ASB_ensureCapacityInternal.2.1 14 = .ok (.ifCond .le 24, 3) := by decide +kernel
theorem d_ASB_ensureCapacityInternal_38 : decode M_ASB_ensureCapacityInternal.2.1 38 = .ok (.return_, 1) := by decide +kernel
theorem d_ASB_ensureCapacityInternal_17 : decode M_ASB_ensureCapacityInternal.2.1 17 = .ok (.aload_n 0, 1) := by decide +kernel
theorem d_ASB_ensureCapacityInternal_18 : decode M_ASB_ensureCapacityInternal.2.1 18 = .ok (.aload_n 0, 1) := by decide +kernel
theorem d_ASB_ensureCapacityInternal_19 : decode M_ASB_ensureCapacityInternal.2.1 19 = .ok (.getfield 15, 3) := by decide +kernel
theorem d_ASB_ensureCapacityInternal_22 : decode M_ASB_ensureCapacityInternal.2.1 22 = .ok (.aload_n 0, 1) := by decide +kernel
theorem d_ASB_ensureCapacityInternal_23 : decode M_ASB_ensureCapacityInternal.2.1 23 = .ok (.iload_n 1, 1) := by decide +kernel
theorem d_ASB_ensureCapacityInternal_24 : decode M_ASB_ensureCapacityInternal.2.1 24 = .ok (.invokevirtual 104, 3) := by decide +kernel
theorem xw_193 : (Jvm.Cond.code ({ cls := "java/lang/AbstractStringBuilder", name := "newCapacity", desc := "(I)I" } : Jvm.MethodName) prog_15_method_10_code (6 : Nat) (Option.some Jvm.ClassFile.FieldType.int)) ∈ xT := xT_at 193 (by decide +kernel) (by decide +kernel)
theorem xcb_ASB_newCapacity : xcb M_ASB_newCapacity 1 := ⟨xw_193, xw_2, by decide, by decide, by decide, by decide +kernel⟩
theorem xw_192 : (Jvm.Cond.instanceMethod ({ cls := "java/lang/AbstractStringBuilder", name := "newCapacity", desc := "(I)I" } : Jvm.MethodName)) ∈ xT := xT_at 192 (by decide +kernel) (by decide +kernel)
theorem xw_190 : (Jvm.Cond.methodLink "java/lang/AbstractStringBuilder" (104 : Nat) ({ cls := "java/lang/AbstractStringBuilder", name := "newCapacity", desc := "(I)I" } : Jvm.MethodName)) ∈ xT := xT_at 190 (by decide +kernel) (by decide +kernel)
theorem xps_ASB_newCapacity_SB : Cond.selects "java/lang/StringBuilder" y_ASB_newCapacity y_ASB_newCapacity ∈ xT := xT_ps (by decide +kernel) (by decide +kernel)
theorem xcv_ASB_104_SB : xCV "java/lang/AbstractStringBuilder" 104 "java/lang/StringBuilder" M_ASB_newCapacity 1 := ⟨xcb_ASB_newCapacity, xw_192, Or.inl ⟨xw_190, Or.inl xps_ASB_newCapacity_SB⟩⟩
theorem d_ASB_ensureCapacityInternal_27 : decode M_ASB_ensureCapacityInternal.2.1 27 = .ok (.aload_n 0, 1) := by decide +kernel
theorem d_ASB_ensureCapacityInternal_28 : decode M_ASB_ensureCapacityInternal.2.1 28 = .ok (.getfield 22, 3) := by decide +kernel
theorem d_ASB_ensureCapacityInternal_31 : decode M_ASB_ensureCapacityInternal.2.1 31 = .ok (.ishl, 1) := by decide +kernel
theorem d_ASB_ensureCapacityInternal_32 : decode M_ASB_ensureCapacityInternal.2.1 32 = .ok (.invokestatic 108, 3) := by decide +kernel
theorem xw_207 : (Jvm.Cond.code ({ cls := "java/util/Arrays", name := "copyOf", desc := "([BI)[B" } : Jvm.MethodName) prog_34_method_121_code (3 : Nat) (Option.some (Jvm.ClassFile.FieldType.array Jvm.ClassFile.FieldType.byte))) ∈ xT := xT_at 207 (by decide +kernel) (by decide +kernel)
theorem xw_11 : (Jvm.Cond.initialized "java/util/Arrays") ∈ xT := xT_at 11 (by decide +kernel) (by decide +kernel)
theorem xcb_Arrays_copyOf_aBI : xcb M_Arrays_copyOf_aBI 2 := ⟨xw_207, xw_11, by decide, by decide, by decide, by decide +kernel⟩
theorem xw_205 : (Jvm.Cond.methodLink "java/lang/AbstractStringBuilder" (108 : Nat) ({ cls := "java/util/Arrays", name := "copyOf", desc := "([BI)[B" } : Jvm.MethodName)) ∈ xT := xT_at 205 (by decide +kernel) (by decide +kernel)
theorem xw_206 : (Jvm.Cond.static ({ cls := "java/util/Arrays", name := "copyOf", desc := "([BI)[B" } : Jvm.MethodName)) ∈ xT := xT_at 206 (by decide +kernel) (by decide +kernel)
theorem xcs_ASB_108 : xCS "java/lang/AbstractStringBuilder" 108 M_Arrays_copyOf_aBI 2 := ⟨xcb_Arrays_copyOf_aBI, xw_206, Or.inl xw_205⟩
theorem d_ASB_ensureCapacityInternal_35 : decode M_ASB_ensureCapacityInternal.2.1 35 = .ok (.putfield 15, 3) := by decide +kernel
theorem xp_SB_0 : xP k_StringBuilder 0 false (.array .byte) := ⟨_, _, _, rfl, rfl, by decide +kernel⟩
abbrev y_ASB_append_C : MethodName := ⟨"java/lang/AbstractStringBuilder", "append", "(C)Ljava/lang/AbstractStringBuilder;"⟩
abbrev M_ASB_append_C : XMt := (y_ASB_append_C, prog_15_method_31_code, 2, (some (.object "java/lang/AbstractStringBuilder")))
theorem d_ASB_append_C_10 : decode M_ASB_append_C.2.1 10 = .ok (.aload_n 0, 1) := by decide +kernel
theorem d_ASB_append_C_11 : decode M_ASB_append_C.2.1 11 = .ok (.invokevirtual 83, 3) := by decide +kernel
theorem xw_225 : (Jvm.Cond.code ({ cls := "java/lang/AbstractStringBuilder", name := "isLatin1", desc := "()Z" } : Jvm.MethodName) prog_15_method_68_code (1 : Nat) (Option.some Jvm.ClassFile.FieldType.boolean)) ∈ xT := xT_at 225 (by decide +kernel) (by decide +kernel)
theorem xcb_ASB_isLatin1 : xcb M_ASB_isLatin1 0 := ⟨xw_225, xw_2, by decide, by decide, by decide, by decide +kernel⟩
theorem xw_222 : (Jvm.Cond.instanceMethod ({ cls := "java/lang/AbstractStringBuilder", name := "isLatin1", desc := "()Z" } : Jvm.MethodName)) ∈ xT := xT_at 222 (by decide +kernel) (by decide +kernel)
theorem xw_221 : (Jvm.Cond.methodLink "java/lang/AbstractStringBuilder" (83 : Nat) ({ cls := "java/lang/AbstractStringBuilder", name := "isLatin1", desc := "()Z" } : Jvm.MethodName)) ∈ xT := xT_at 221 (by decide +kernel) (by decide +kernel)
theorem xw_224 : (Jvm.Cond.selects "java/lang/StringBuilder" ({ cls := "java/lang/AbstractStringBuilder", name := "isLatin1", desc := "()Z" } : Jvm.MethodName) ({ cls := "java/lang/AbstractStringBuilder", name := "isLatin1", desc := "()Z" } : Jvm.MethodName)) ∈ xT := xT_at 224 (by decide +kernel) (by decide +kernel)
theorem xcv_ASB_83_SB : xCV "java/lang/AbstractStringBuilder" 83 "java/lang/StringBuilder" M_ASB_isLatin1 0 := ⟨xcb_ASB_isLatin1, xw_222, Or.inl ⟨xw_221, Or.inl xw_224⟩⟩
theorem d_ASB_append_C_14 : decode M_ASB_append_C.2.1 14 = .ok (.ifCond .eq 31, 3) := by decide +kernel
theorem d_ASB_append_C_17 : decode M_ASB_append_C.2.1 17 = .ok (.iload_n 1, 1) := by decide +kernel
theorem d_ASB_append_C_18 : decode M_ASB_append_C.2.1 18 = .ok (.invokestatic 191, 3) := by decide +kernel
theorem xw_228 : (Jvm.Cond.code ({ cls := "java/lang/StringLatin1", name := "canEncode", desc := "(C)Z" } : Jvm.MethodName) prog_27_method_3_code (1 : Nat) (Option.some Jvm.ClassFile.FieldType.boolean)) ∈ xT := xT_at 228 (by decide +kernel) (by decide +kernel)
theorem xw_13 : (Jvm.Cond.initialized "java/lang/StringLatin1") ∈ xT := xT_at 13 (by decide +kernel) (by decide +kernel)
theorem xcb_SL1_canEncode_C : xcb M_SL1_canEncode_C 1 := ⟨xw_228, xw_13, by decide, by decide, by decide, by decide +kernel⟩
theorem xw_226 : (Jvm.Cond.methodLink "java/lang/AbstractStringBuilder" (191 : Nat) ({ cls := "java/lang/StringLatin1", name := "canEncode", desc := "(C)Z" } : Jvm.MethodName)) ∈ xT := xT_at 226 (by decide +kernel) (by decide +kernel)
theorem xw_227 : (Jvm.Cond.static ({ cls := "java/lang/StringLatin1", name := "canEncode", desc := "(C)Z" } : Jvm.MethodName)) ∈ xT := xT_at 227 (by decide +kernel) (by decide +kernel)
theorem xcs_ASB_191 : xCS "java/lang/AbstractStringBuilder" 191 M_SL1_canEncode_C 1 := ⟨xcb_SL1_canEncode_C, xw_227, Or.inl xw_226⟩
theorem d_ASB_append_C_21 : decode M_ASB_append_C.2.1 21 = .ok (.ifCond .eq 24, 3) := by decide +kernel
theorem d_ASB_append_C_24 : decode M_ASB_append_C.2.1 24 = .ok (.aload_n 0, 1) := by decide +kernel
theorem d_ASB_append_C_25 : decode M_ASB_append_C.2.1 25 = .ok (.getfield 15, 3) := by decide +kernel
theorem d_ASB_append_C_28 : decode M_ASB_append_C.2.1 28 = .ok (.aload_n 0, 1) := by decide +kernel
theorem d_ASB_append_C_29 : decode M_ASB_append_C.2.1 29 = .ok (.dup, 1) := by decide +kernel
theorem d_ASB_append_C_30 : decode M_ASB_append_C.2.1 30 = .ok (.getfield 79, 3) := by decide +kernel
theorem d_ASB_append_C_33 : decode M_ASB_append_C.2.1 33 = .ok (.dup_x1, 1) := by decide +kernel
theorem d_ASB_append_C_34 : decode M_ASB_append_C.2.1 34 = .ok (.iconst 1, 1) := by decide +kernel
theorem d_ASB_append_C_35 : decode M_ASB_append_C.2.1 35 = .ok (.iadd, 1) := by decide +kernel
theorem d_ASB_append_C_36 : decode M_ASB_append_C.2.1 36 = .ok (.putfield 79, 3) := by decide +kernel
theorem xp_SB_3 : xP k_StringBuilder 3 false .int := ⟨_, _, _, rfl, rfl, by decide +kernel⟩
theorem d_ASB_append_C_39 : decode M_ASB_append_C.2.1 39 = .ok (.iload_n 1, 1) := by decide +kernel
theorem d_ASB_append_C_40 : decode M_ASB_append_C.2.1 40 = .ok (.i2b, 1) := by decide +kernel
theorem d_ASB_append_C_41 : decode M_ASB_append_C.2.1 41 = .ok (.bastore, 1) := by decide +kernel
theorem d_ASB_append_C_42 : decode M_ASB_append_C.2.1 42 = .ok (.goto 33, 3) := by decide +kernel
theorem d_ASB_append_C_75 : decode M_ASB_append_C.2.1 75 = .ok (.aload_n 0, 1) := by decide +kernel
theorem d_ASB_append_C_76 : decode M_ASB_append_C.2.1 76 = .ok (.areturn, 1) := by decide +kernel
theorem d_ASB_append_C_0 : decode M_ASB_append_C.2.1 0 = .ok (.aload_n 0, 1) := by decide +kernel
theorem d_ASB_append_C_1 : decode M_ASB_append_C.2.1 1 = .ok (.aload_n 0, 1) := by decide +kernel
theorem d_ASB_append_C_2 : decode M_ASB_append_C.2.1 2 = .ok (.getfield 79, 3) := by decide +kernel
theorem d_ASB_append_C_5 : decode M_ASB_append_C.2.1 5 = .ok (.iconst 1, 1) := by decide +kernel
theorem d_ASB_append_C_6 : decode M_ASB_append_C.2.1 6 = .ok (.iadd, 1) := by decide +kernel
theorem d_ASB_append_C_7 : decode M_ASB_append_C.2.1 7 = .ok (.invokevirtual 100, 3) := by decide +kernel
theorem xw_189 : (Jvm.Cond.code ({ cls := "java/lang/AbstractStringBuilder", name := "ensureCapacityInternal", desc := "(I)V" } : Jvm.MethodName) prog_15_method_9_code (3 : Nat) (Option.none : Option Jvm.ClassFile.FieldType)) ∈ xT := xT_at 189 (by decide +kernel) (by decide +kernel)
theorem xcb_ASB_ensureCapacityInternal : xcb M_ASB_ensureCapacityInternal 1 := ⟨xw_189, xw_2, by decide, by decide, by decide, by decide +kernel⟩
theorem xw_188 : (Jvm.Cond.instanceMethod ({ cls := "java/lang/AbstractStringBuilder", name := "ensureCapacityInternal", desc := "(I)V" } : Jvm.MethodName)) ∈ xT := xT_at 188 (by decide +kernel) (by decide +kernel)
theorem xw_186 : (Jvm.Cond.methodLink "java/lang/AbstractStringBuilder" (100 : Nat) ({ cls := "java/lang/AbstractStringBuilder", name := "ensureCapacityInternal", desc := "(I)V" } : Jvm.MethodName)) ∈ xT := xT_at 186 (by decide +kernel) (by decide +kernel)
theorem xps_ASB_ensureCapacityInternal_SB : Cond.selects "java/lang/StringBuilder" y_ASB_ensureCapacityInternal y_ASB_ensureCapacityInternal ∈ xT := xT_ps (by decide +kernel) (by decide +kernel)
theorem xcv_ASB_100_SB : xCV "java/lang/AbstractStringBuilder" 100 "java/lang/StringBuilder" M_ASB_ensureCapacityInternal 1 := ⟨xcb_ASB_ensureCapacityInternal, xw_188, Or.inl ⟨xw_186, Or.inl xps_ASB_ensureCapacityInternal_SB⟩⟩
abbrev y_SB_append_C : MethodName := ⟨"java/lang/StringBuilder", "append", "(C)Ljava/lang/StringBuilder;"⟩
abbrev M_SB_append_C : XMt := (y_SB_append_C, prog_26_method_14_code, 2, (some (.object "java/lang/StringBuilder")))
theorem d_SB_append_C_0 : decode M_SB_append_C.2.1 0 = .ok (.aload_n 0, 1) := by decide +kernel
theorem d_SB_append_C_1 : decode M_SB_append_C.2.1 1 = .ok (.iload_n 1, 1) := by decide +kernel
theorem d_SB_append_C_2 : decode M_SB_append_C.2.1 2 = .ok (.invokespecial 50, 3) := by decide +kernel
theorem xw_185 : (Jvm.Cond.code ({ cls := "java/lang/AbstractStringBuilder", name := "append", desc := "(C)Ljava/lang/AbstractStringBuilder;" } : Jvm.MethodName) prog_15_method_31_code (2 : Nat) (Option.some (Jvm.ClassFile.FieldType.object "java/lang/AbstractStringBuilder"))) ∈ xT := xT_at 185 (by decide +kernel) (by decide +kernel)
theorem xcb_ASB_append_C : xcb M_ASB_append_C 1 := ⟨xw_185, xw_2, by decide, by decide, by decide, by decide +kernel⟩
theorem xw_184 : (Jvm.Cond.instanceMethod ({ cls := "java/lang/AbstractStringBuilder", name := "append", desc := "(C)Ljava/lang/AbstractStringBuilder;" } : Jvm.MethodName)) ∈ xT := xT_at 184 (by decide +kernel) (by decide +kernel)
theorem xw_183 : (Jvm.Cond.methodLink "java/lang/StringBuilder" (50 : Nat) ({ cls := "java/lang/AbstractStringBuilder", name := "append", desc := "(C)Ljava/lang/AbstractStringBuilder;" } : Jvm.MethodName)) ∈ xT := xT_at 183 (by decide +kernel) (by decide +kernel)
theorem xw_1606 : (Jvm.Cond.sameMethod "java/lang/AbstractStringBuilder" "java/lang/AbstractStringBuilder" "append" "(C)Ljava/lang/AbstractStringBuilder;") ∈ xT := xT_at 1606 (by decide +kernel) (by decide +kernel)
theorem xcu_SB_50 : xCU "java/lang/StringBuilder" 50 M_ASB_append_C 1 := ⟨xcb_ASB_append_C, by decide, xw_184, xw_183, xw_1606, xw_73⟩
theorem d_SB_append_C_5 : decode M_SB_append_C.2.1 5 = .ok (.pop, 1) := by decide +kernel
theorem d_SB_append_C_6 : decode M_SB_append_C.2.1 6 = .ok (.aload_n 0, 1) := by decide +kernel
theorem d_SB_append_C_7 : decode M_SB_append_C.2.1 7 = .ok (.areturn, 1) := by decide +kernel
end
section SB3
variable {l : Launch} {G : XG} {h : XH} {c n d : Nat}
theorem nI_sub_le {m k : Nat} (hm : m < 2 ^ 30) (hk : k < 2 ^ 30) (h : m ≤ k) : nI m - nI k ≤ 0 := by
  rw [Int32.le_iff_toInt_le, pk_sub_toInt hm hk, Int32.toInt_zero]
  omega
theorem nI_sub_gt {m k : Nat} (hm : m < 2 ^ 30) (hk : k < 2 ^ 30) (h : k < m) : ¬ nI m - nI k ≤ 0 := by
  rw [Int32.le_iff_toInt_le, pk_sub_toInt hm hk, Int32.toInt_zero]
  omega
/-- an end of a void method that changes nothing -/
abbrev xVoid (h : XH) (c n : Nat) : Option Value → XH → Nat → Nat → Prop := fun v h' c' n' => v = none ∧ h' = h ∧ c' = c ∧ n' = n
theorem c_ensure_no (hd : 0 ≤ d) {a va m : Nat} {z k : Value} {vs : List Value} (ha : h a = some (k_StringBuilder, [.ref va, .int 0, z, k])) (hv : h va = some (k_abyte, vs)) (hm : m ≤ vs.length) (hb : vs.length < 2 ^ 20) : XM l G d M_ASB_ensureCapacityInternal [.ref a, .int (nI m)] h c n (xVoid h c n) := by
  refine XM.of (by decide +kernel) (Nat.le_of_ble_eq_true rfl) ?_
  refine x_aload_n d_ASB_ensureCapacityInternal_0 rfl rfl ?_
  refine x_get xf_ASB_15_SB (Or.inl ha) rfl d_ASB_ensureCapacityInternal_1 ?_
  refine x_alen (k := k_abyte) rfl (Or.inl hv) (v := nI vs.length) rfl d_ASB_ensureCapacityInternal_4 ?_
  refine x_aload_n d_ASB_ensureCapacityInternal_5 rfl rfl ?_
  refine x_get xf_ASB_22_SB (Or.inl ha) rfl d_ASB_ensureCapacityInternal_6 ?_
  refine x_ishr d_ASB_ensureCapacityInternal_9 ?_
  refine x_top (w := .int (nI vs.length)) (by rw [sb_shr0]) ?_
  refine x_istore_n (L' := [_, _, _]) d_ASB_ensureCapacityInternal_10 rfl rfl ?_
  refine x_iload_n d_ASB_ensureCapacityInternal_11 rfl ?_
  refine x_iload_n d_ASB_ensureCapacityInternal_12 rfl ?_
  refine x_isub d_ASB_ensureCapacityInternal_13 ?_
  refine x_if_le (tgt := 38) d_ASB_ensureCapacityInternal_14 (by decide) (fun _ => ?_) (fun hn => absurd (nI_sub_le (by omega) (by omega) hm) hn)
  refine x_vret d_ASB_ensureCapacityInternal_38 rfl ?_
  exact ⟨rfl, rfl, rfl, rfl⟩
theorem c_ensure_yes (hd : 3 ≤ d) {a va m : Nat} {z k : Value} {vs : List Value} (ha : h a = some (k_StringBuilder, [.ref va, .int 0, z, k])) (hv : h va = some (k_abyte, vs)) (hf : ∀ v ∈ vs, fits .byte v = true) (hm : vs.length < m) (hb : m < 2 ^ 18) (hc : c + 1 ≤ xCB) (hn : n + max m (2 * vs.length + 2) ≤ xSB) : XM l G d M_ASB_ensureCapacityInternal [.ref a, .int (nI m)] h c n
    (fun v h' c' n' => v = none ∧ ∃ q, h q = none ∧ h' = xup (xup h q (k_abyte, vs ++ List.replicate (max m (2 * vs.length + 2) - vs.length) (.int 0))) a (k_StringBuilder, [.ref q, .int 0, z, k]) ∧ c' = c + 1 ∧ n' = n + max m (2 * vs.length + 2)) := by
  obtain ⟨d, rfl⟩ : ∃ q, d = q + 1 := ⟨d - 1, by omega⟩
  refine XM.of (by decide +kernel) (Nat.le_of_ble_eq_true rfl) ?_
  refine x_aload_n d_ASB_ensureCapacityInternal_0 rfl rfl ?_
  refine x_get xf_ASB_15_SB (Or.inl ha) rfl d_ASB_ensureCapacityInternal_1 ?_
  refine x_alen (k := k_abyte) rfl (Or.inl hv) (v := nI vs.length) rfl d_ASB_ensureCapacityInternal_4 ?_
  refine x_aload_n d_ASB_ensureCapacityInternal_5 rfl rfl ?_
  refine x_get xf_ASB_22_SB (Or.inl ha) rfl d_ASB_ensureCapacityInternal_6 ?_
  refine x_ishr d_ASB_ensureCapacityInternal_9 ?_
  refine x_top (w := .int (nI vs.length)) (by rw [sb_shr0]) ?_
  refine x_istore_n (L' := [_, _, _]) d_ASB_ensureCapacityInternal_10 rfl rfl ?_
  refine x_iload_n d_ASB_ensureCapacityInternal_11 rfl ?_
  refine x_iload_n d_ASB_ensureCapacityInternal_12 rfl ?_
  refine x_isub d_ASB_ensureCapacityInternal_13 ?_
  refine x_if_le (tgt := 38) d_ASB_ensureCapacityInternal_14 (by decide) (fun ht => absurd ht (nI_sub_gt (by omega) (by omega) hm)) (fun _ => ?_)
  refine x_aload_n d_ASB_ensureCapacityInternal_17 rfl rfl ?_
  refine x_aload_n d_ASB_ensureCapacityInternal_18 rfl rfl ?_
  refine x_get xf_ASB_15_SB (Or.inl ha) rfl d_ASB_ensureCapacityInternal_19 ?_
  refine x_aload_n d_ASB_ensureCapacityInternal_22 rfl rfl ?_
  refine x_iload_n d_ASB_ensureCapacityInternal_23 rfl ?_
  refine x_callV (As := [_]) (k := k_StringBuilder) rfl xcv_ASB_104_SB (Or.inl ha) (c_newCapacity (by omega) ha hv hm hb) rfl rfl (Nat.le_of_ble_eq_true rfl) d_ASB_ensureCapacityInternal_24 ?_
  rintro v h' c' n' ⟨rfl, rfl, rfl, rfl⟩
  refine x_aload_n d_ASB_ensureCapacityInternal_27 rfl rfl ?_
  refine x_get xf_ASB_22_SB (Or.inl ha) rfl d_ASB_ensureCapacityInternal_28 ?_
  refine x_ishl d_ASB_ensureCapacityInternal_31 ?_
  refine x_top (w := .int (nI (max m (2 * vs.length + 2)))) (by rw [sb_shl0]) ?_
  have hM : vs.length < max m (2 * vs.length + 2) := by omega
  refine x_callS (As := [_, _]) xcs_ASB_108 (c_copyOf_aB (by omega) (Or.inl hv) hf hM (by omega) hc hn) rfl rfl (Nat.le_of_ble_eq_true rfl) d_ASB_ensureCapacityInternal_32 ?_
  rintro v h' c' n' ⟨q, rfl, hq, rfl, rfl, rfl⟩
  refine x_put xf_ASB_15_SB xp_SB_0 rfl rfl (xup_old ha hq) rfl rfl d_ASB_ensureCapacityInternal_35 ?_
  refine x_vret d_ASB_ensureCapacityInternal_38 rfl ?_
  exact ⟨rfl, q, hq, rfl, rfl, by simp; omega⟩
/-- A BUILDER: at a, its bytes at va, the text t, how many it could hold -/
def isB (h : XH) (a va : Nat) (t : List Nat) (m : Nat) : Prop := ∃ (z : Int32) (bs : List Value), h a = some (k_StringBuilder, [.ref va, .int 0, .int z, .int (nI t.length)]) ∧ h va = some (k_abyte, xby t ++ bs) ∧ t.length + bs.length = m ∧ (∀ v ∈ bs, fits .byte v = true) ∧ xasc t
/-- what was there stays, but for the cells F -/
def xfr (h h' : XH) (F : List Nat) : Prop := (∀ (q : Nat) (e : Nat × List Value), h q = some e → q ∉ F → h' q = some e) ∧ ∀ q : Nat, h' q = none → h q = none
theorem xfr.rf {F : List Nat} : xfr h h F := ⟨fun _ _ hq _ => hq, fun _ hq => hq⟩
theorem xfr.mono {h' : XH} {F F' : List Nat} (hf : xfr h h' F) (hs : ∀ q ∈ F, q ∈ F') : xfr h h' F' := ⟨fun q e hq hn => hf.1 q e hq (fun z => hn (hs q z)), hf.2⟩
theorem xfr.tr {h' h'' : XH} {F F' : List Nat} (h1 : xfr h h' F) (h2 : xfr h' h'' F') (hs : ∀ q, h q ≠ none → q ∈ F' → q ∈ F) : xfr h h'' F := ⟨fun q e hq hn => h2.1 q e (h1.1 q e hq hn) (fun z => hn (hs q (by rw [hq]; exact fun y => (by cases y)) z)), fun q hq => h1.2 q (h2.2 q hq)⟩
theorem xfr.up {a : Nat} {e : Nat × List Value} {h' : XH} {F : List Nat} (hf : xfr h h' F) (ha : a ∈ F ∨ h a = none) : xfr h (xup h' a e) F := by
  refine ⟨fun q x hq hn => ?_, fun q hq => ?_⟩
  · by_cases hqa : q = a
    · subst hqa
      rcases ha with z | z
      · exact absurd z hn
      · rw [z] at hq; cases hq
    · rw [xup_ne hqa]; exact hf.1 q x hq hn
  · by_cases hqa : q = a
    · subst hqa; rw [xup_self] at hq; cases hq
    · rw [xup_ne hqa] at hq; exact hf.2 q hq
/-- append a character: what comes of the builder, and what it costs at most -/
abbrev xgr (K m m' c n c' n' : Nat) : Prop := m ≤ m' ∧ m' ≤ K ∧ c' + m ≤ c + m' ∧ n' + 2 * m ≤ n + 2 * m'
/-- what comes of a builder of which no text is longer than half of K: its array grows from m to m', and that is what it costs -/
abbrev pB (K a va : Nat) (t : List Nat) (m : Nat) (h : XH) (c n : Nat) (h' : XH) (c' n' : Nat) : Prop := ∃ va' m', isB h' a va' t m' ∧ xfr h h' [a, va] ∧ (va' = va ∨ h va' = none) ∧ xgr K m m' c n c' n'
theorem xby_app (t : List Nat) (ch : Nat) : xby (t ++ [ch]) = xby t ++ [.int (nI ch)] := by simp [xby]
theorem xput_end {t : List Nat} {b : Value} {bs : List Value} {w : Value} : (xby t ++ (b :: bs)).set t.length w = xby t ++ (w :: bs) := by
  rw [List.set_append_right _ _ (by rw [xby_len]; exact Nat.le_refl _), xby_len, Nat.sub_self]
  rfl
theorem c_ASB_append_C (hd : 4 ≤ d) {K a va ch m : Nat} {t : List Nat} (hB : isB h a va t m) (hch : ch < 128) (hK : K < 2 ^ 16) (hm : m ≤ K) (hL : 2 * t.length + 4 ≤ K) (hc : c + K ≤ xCB + m) (hn : n + 2 * K ≤ xSB + 2 * m) : XM l G d M_ASB_append_C [.ref a, .int (nI ch)] h c n (fun v h' c' n' => v = some (.ref a) ∧ pB K a va (t ++ [ch]) m h c n h' c' n') := by
  obtain ⟨d, rfl⟩ : ∃ q, d = q + 1 := ⟨d - 1, by omega⟩
  obtain ⟨z, bs, ha, hv, hl, hbf, hat⟩ := hB
  have hat' : xasc (t ++ [ch]) := by
    intro x hx
    rcases List.mem_append.mp hx with q | q
    · exact hat x q
    · rw [List.mem_singleton] at q; rw [q]; exact hch
  have hav : a ≠ va := fun e => by rw [e, hv] at ha; cases ha
  have hvl : (xby t ++ bs).length = m := by rw [List.length_append, xby_len]; exact hl
  obtain ⟨f1, f2, f3, -, -⟩ := xfit1 ch hch
  -- the part behind ensureCapacityInternal, for a builder with room
  have fin : ∀ (h1 : XH) (v1 : Nat) (b : Value) (bs1 : List Value) (c1 n1 : Nat), h1 a = some (k_StringBuilder, [.ref v1, .int 0, .int z, .int (nI t.length)]) → h1 v1 = some (k_abyte, xby t ++ (b :: bs1)) → (∀ v ∈ bs1, fits .byte v = true) → a ≠ v1 →
      pB K a va (t ++ [ch]) m h c n (xup (xup h1 a (k_StringBuilder, [.ref v1, .int 0, .int z, .int (nI (t ++ [ch]).length)])) v1 (k_abyte, xby (t ++ [ch]) ++ bs1)) c1 n1 →
      XW l G M_ASB_append_C (d + 1) 10 [some (.ref a), some (.int (nI ch))] [] h1 c1 n1 (fun v h' c' n' => v = some (.ref a) ∧ pB K a va (t ++ [ch]) m h c n h' c' n') := by
    intro h1 v1 b bs1 c1 n1 e1 e2 e3 e4 hP
    refine x_aload_n d_ASB_append_C_10 rfl rfl ?_
    refine x_callV (As := []) (k := k_StringBuilder) rfl xcv_ASB_83_SB (Or.inl e1) (c_ASB_isLatin1 e1) rfl rfl (Nat.le_of_ble_eq_true rfl) d_ASB_append_C_11 ?_
    rintro v h' c' n' ⟨rfl, rfl, rfl, rfl⟩
    refine x_if_eq (tgt := 45) d_ASB_append_C_14 (by decide) (fun ht => absurd ht (by decide)) (fun _ => ?_)
    refine x_iload_n d_ASB_append_C_17 rfl ?_
    refine x_callS (As := [_]) xcs_ASB_191 (c_SL1_canEncode_C (by omega)) rfl rfl (Nat.le_of_ble_eq_true rfl) d_ASB_append_C_18 ?_
    rintro v h' c' n' ⟨rfl, rfl, rfl, rfl⟩
    refine x_if_eq (tgt := 45) d_ASB_append_C_21 (by decide) (fun ht => absurd ht (by decide)) (fun _ => ?_)
    refine x_aload_n d_ASB_append_C_24 rfl rfl ?_
    refine x_get xf_ASB_15_SB (Or.inl e1) rfl d_ASB_append_C_25 ?_
    refine x_aload_n d_ASB_append_C_28 rfl rfl ?_
    refine x_dup d_ASB_append_C_29 rfl ?_
    refine x_get xf_ASB_79_SB (Or.inl e1) rfl d_ASB_append_C_30 ?_
    refine x_dup_x1 d_ASB_append_C_33 rfl rfl ?_
    refine x_iconst (v := 1) d_ASB_append_C_34 (by decide) ?_
    refine x_iadd d_ASB_append_C_35 ?_
    refine x_st (st' := [.int (nI (t ++ [ch]).length), .ref a, .int (nI t.length), .ref v1]) (by rw [show (1 : Int32) = nI 1 from rfl, nI_add]; simp) ?_
    have hlt : t.length < 2 ^ 31 := by omega
    refine x_put xf_ASB_79_SB xp_SB_3 rfl rfl e1 rfl rfl d_ASB_append_C_36 ?_
    refine x_iload_n d_ASB_append_C_39 rfl ?_
    refine x_i2b d_ASB_append_C_40 ?_
    refine x_top (w := .int (nI ch)) (by rw [f2]) ?_
    have e5 : (xby t ++ (b :: bs1))[(nI t.length).toNatClampNeg]? = some b := by
      rw [nI_clamp hlt, List.getElem?_append_right (by rw [xby_len]; exact Nat.le_refl _), xby_len, Nat.sub_self]
      rfl
    refine x_bast (k := k_abyte) rfl (by rw [xup_ne (Ne.symm e4)]; exact e2) (nI_pos hlt) e5 f3 d_ASB_append_C_41 ?_
    refine x_goto (tgt := 75) d_ASB_append_C_42 (by decide) ?_
    refine x_aload_n d_ASB_append_C_75 rfl rfl ?_
    refine x_aret d_ASB_append_C_76 rfl rfl ?_
    refine ⟨rfl, ?_⟩
    rw [nI_clamp hlt, xput_end]
    rw [xby_app, List.append_assoc] at hP
    exact hP
  refine XM.of (by decide +kernel) (Nat.le_of_ble_eq_true rfl) ?_
  refine x_aload_n d_ASB_append_C_0 rfl rfl ?_
  refine x_aload_n d_ASB_append_C_1 rfl rfl ?_
  refine x_get xf_ASB_79_SB (Or.inl ha) rfl d_ASB_append_C_2 ?_
  refine x_iconst (v := 1) d_ASB_append_C_5 (by decide) ?_
  refine x_iadd d_ASB_append_C_6 ?_
  refine x_top (w := .int (nI (t.length + 1))) (by rw [show (1 : Int32) = nI 1 from rfl, nI_add]) ?_
  have hmem : ∀ q, q ∈ [a, va] → True := fun _ _ => trivial
  cases hbs : bs with
  | cons b bs1 =>
    subst hbs
    have hlen : (b :: bs1).length = bs1.length + 1 := rfl
    refine x_callV (As := [_]) (k := k_StringBuilder) rfl xcv_ASB_100_SB (Or.inl ha) (c_ensure_no (Nat.zero_le _) ha hv (by rw [hvl]; omega) (by rw [hvl]; omega)) rfl rfl (Nat.le_of_ble_eq_true rfl) d_ASB_append_C_7 ?_
    rintro v h' c' n' ⟨rfl, rfl, rfl, rfl⟩
    refine fin h' va b bs1 c' n' ha hv (fun v hv => hbf v (List.mem_cons_of_mem _ hv)) hav ⟨va, m, ⟨z, bs1, by rw [xup_ne hav, xup_self], xup_self, by simp; omega, fun v hv => hbf v (List.mem_cons_of_mem _ hv), hat'⟩, ?_, Or.inl rfl, by omega⟩
    exact (xfr.rf.up (Or.inl (by simp))).up (Or.inl (by simp))
  | nil =>
    subst hbs
    have hl' : t.length = m := by simpa using hl
    have hvs : ∀ v ∈ xby t ++ [], fits .byte v = true := by rw [List.append_nil]; exact xby_fit hat
    have hmx : max (t.length + 1) (2 * (xby t ++ []).length + 2) = 2 * m + 2 := by rw [hvl]; omega
    refine x_callV (As := [_]) (k := k_StringBuilder) rfl xcv_ASB_100_SB (Or.inl ha) (c_ensure_yes (by omega) ha hv hvs (by rw [hvl]; omega) (by omega) (by omega) (by rw [hmx]; omega)) rfl rfl (Nat.le_of_ble_eq_true rfl) d_ASB_append_C_7 ?_
    rintro v h' c' n' ⟨rfl, q, hq, rfl, rfl, rfl⟩
    rw [hmx, hvl]
    obtain ⟨w, hw⟩ : ∃ w, 2 * m + 2 - m = w + 1 := ⟨m + 1, by omega⟩
    have haq : a ≠ q := fun e => by rw [e, hq] at ha; cases ha
    have hvq : va ≠ q := fun e => by rw [e, hq] at hv; cases hv
    rw [hw, List.replicate_succ]
    refine fin _ q (.int 0) (List.replicate w (.int 0)) _ _ xup_self (by rw [xup_ne (Ne.symm haq), xup_self]; simp) (fun v hv => by rw [(List.mem_replicate.mp hv).2]; rfl) haq ⟨q, 2 * m + 2, ⟨z, List.replicate w (.int 0), by rw [xup_ne haq, xup_self], xup_self, by simp; omega, fun v hv => by rw [(List.mem_replicate.mp hv).2]; rfl, hat'⟩, ?_, Or.inr hq, by omega⟩
    exact (((xfr.rf.up (Or.inr hq)).up (Or.inl (by simp))).up (Or.inl (by simp))).up (Or.inr hq)
theorem c_SB_append_C (hd : 5 ≤ d) {K a va ch m : Nat} {t : List Nat} (hB : isB h a va t m) (hch : ch < 128) (hK : K < 2 ^ 16) (hm : m ≤ K) (hL : 2 * t.length + 4 ≤ K) (hc : c + K ≤ xCB + m) (hn : n + 2 * K ≤ xSB + 2 * m) : XM l G d M_SB_append_C [.ref a, .int (nI ch)] h c n (fun v h' c' n' => v = some (.ref a) ∧ pB K a va (t ++ [ch]) m h c n h' c' n') := by
  obtain ⟨d, rfl⟩ : ∃ q, d = q + 1 := ⟨d - 1, by omega⟩
  obtain ⟨z, bs, ha, -⟩ := id hB
  refine XM.of (by decide +kernel) (Nat.le_of_ble_eq_true rfl) ?_
  refine x_aload_n d_SB_append_C_0 rfl rfl ?_
  refine x_iload_n d_SB_append_C_1 rfl ?_
  refine x_callU (As := [_]) (k := k_StringBuilder) rfl xcu_SB_50 (Or.inl ha) (c_ASB_append_C (by omega) hB hch hK hm hL hc hn) rfl rfl (Nat.le_of_ble_eq_true rfl) d_SB_append_C_2 ?_
  rintro v h' c' n' ⟨rfl, hp⟩
  refine x_pop d_SB_append_C_5 rfl ?_
  refine x_aload_n d_SB_append_C_6 rfl rfl ?_
  refine x_aret d_SB_append_C_7 rfl rfl ?_
  exact ⟨rfl, hp⟩
end SB3
end
section
section
abbrev y_String_coder : MethodName := ⟨"java/lang/String", "coder", "()B"⟩
abbrev M_String_coder : XMt := (y_String_coder, prog_25_method_152_code, 1, (some .byte))
theorem d_String_coder_0 : decode M_String_coder.2.1 0 = .ok (.getstatic 38, 3) := by decide +kernel
theorem xw_429 : (Jvm.Cond.fieldLink "java/lang/String" (38 : Nat) "java/lang/String" "COMPACT_STRINGS" "Z") ∈ xT := xT_at 429 (by decide +kernel) (by decide +kernel)
theorem d_String_coder_3 : decode M_String_coder.2.1 3 = .ok (.ifCond .eq 10, 3) := by decide +kernel
theorem d_String_coder_6 : decode M_String_coder.2.1 6 = .ok (.aload_n 0, 1) := by decide +kernel
theorem d_String_coder_7 : decode M_String_coder.2.1 7 = .ok (.getfield 15, 3) := by decide +kernel
theorem xw_634 : (Jvm.Cond.fieldLink "java/lang/String" (15 : Nat) "java/lang/String" "coder" "B") ∈ xT := xT_at 634 (by decide +kernel) (by decide +kernel)
theorem xf_String_15_String : xF "java/lang/String" 15 k_String 1 := ⟨_, _, _, "java/lang/String", rfl, by decide, Or.inl xw_634, Or.inl rfl⟩
theorem d_String_coder_10 : decode M_String_coder.2.1 10 = .ok (.goto 4, 3) := by decide +kernel
theorem d_String_coder_14 : decode M_String_coder.2.1 14 = .ok (.ireturn, 1) := by decide +kernel
abbrev y_String_isLatin1 : MethodName := ⟨"java/lang/String", "isLatin1", "()Z"⟩
abbrev M_String_isLatin1 : XMt := (y_String_isLatin1, prog_25_method_154_code, 1, (some .boolean))
theorem d_String_isLatin1_0 : decode M_String_isLatin1.2.1 0 = .ok (.getstatic 38, 3) := by decide +kernel
theorem d_String_isLatin1_3 : decode M_String_isLatin1.2.1 3 = .ok (.ifCond .eq 14, 3) := by decide +kernel
theorem d_String_isLatin1_6 : decode M_String_isLatin1.2.1 6 = .ok (.aload_n 0, 1) := by decide +kernel
theorem d_String_isLatin1_7 : decode M_String_isLatin1.2.1 7 = .ok (.getfield 15, 3) := by decide +kernel
theorem d_String_isLatin1_10 : decode M_String_isLatin1.2.1 10 = .ok (.ifCond .ne 7, 3) := by decide +kernel
theorem d_String_isLatin1_13 : decode M_String_isLatin1.2.1 13 = .ok (.iconst 1, 1) := by decide +kernel
theorem d_String_isLatin1_14 : decode M_String_isLatin1.2.1 14 = .ok (.goto 4, 3) := by decide +kernel
theorem d_String_isLatin1_18 : decode M_String_isLatin1.2.1 18 = .ok (.ireturn, 1) := by decide +kernel
abbrev y_String_length : MethodName := ⟨"java/lang/String", "length", "()I"⟩
abbrev M_String_length : XMt := (y_String_length, prog_25_method_54_code, 1, (some .int))
theorem d_String_length_0 : decode M_String_length.2.1 0 = .ok (.aload_n 0, 1) := by decide +kernel
theorem d_String_length_1 : decode M_String_length.2.1 1 = .ok (.getfield 9, 3) := by decide +kernel
theorem xw_633 : (Jvm.Cond.fieldLink "java/lang/String" (9 : Nat) "java/lang/String" "value" "[B") ∈ xT := xT_at 633 (by decide +kernel) (by decide +kernel)
theorem xf_String_9_String : xF "java/lang/String" 9 k_String 0 := ⟨_, _, _, "java/lang/String", rfl, by decide, Or.inl xw_633, Or.inl rfl⟩
theorem d_String_length_4 : decode M_String_length.2.1 4 = .ok (.arraylength, 1) := by decide +kernel
theorem d_String_length_5 : decode M_String_length.2.1 5 = .ok (.aload_n 0, 1) := by decide +kernel
theorem d_String_length_6 : decode M_String_length.2.1 6 = .ok (.invokevirtual 335, 3) := by decide +kernel
theorem xw_428 : (Jvm.Cond.code ({ cls := "java/lang/String", name := "coder", desc := "()B" } : Jvm.MethodName) prog_25_method_152_code (1 : Nat) (Option.some Jvm.ClassFile.FieldType.byte)) ∈ xT := xT_at 428 (by decide +kernel) (by decide +kernel)
theorem xw_4 : (Jvm.Cond.initialized "java/lang/String") ∈ xT := xT_at 4 (by decide +kernel) (by decide +kernel)
theorem xcb_String_coder : xcb M_String_coder 0 := ⟨xw_428, xw_4, by decide, by decide, by decide, by decide +kernel⟩
theorem xw_426 : (Jvm.Cond.instanceMethod ({ cls := "java/lang/String", name := "coder", desc := "()B" } : Jvm.MethodName)) ∈ xT := xT_at 426 (by decide +kernel) (by decide +kernel)
theorem xw_425 : (Jvm.Cond.methodLink "java/lang/String" (335 : Nat) ({ cls := "java/lang/String", name := "coder", desc := "()B" } : Jvm.MethodName)) ∈ xT := xT_at 425 (by decide +kernel) (by decide +kernel)
theorem xw_427 : (Jvm.Cond.selects "java/lang/String" ({ cls := "java/lang/String", name := "coder", desc := "()B" } : Jvm.MethodName) ({ cls := "java/lang/String", name := "coder", desc := "()B" } : Jvm.MethodName)) ∈ xT := xT_at 427 (by decide +kernel) (by decide +kernel)
theorem xcv_String_335_String : xCV "java/lang/String" 335 "java/lang/String" M_String_coder 0 := ⟨xcb_String_coder, xw_426, Or.inl ⟨xw_425, Or.inl xw_427⟩⟩
theorem d_String_length_9 : decode M_String_length.2.1 9 = .ok (.ishr, 1) := by decide +kernel
theorem d_String_length_10 : decode M_String_length.2.1 10 = .ok (.ireturn, 1) := by decide +kernel
abbrev y_String_isEmpty : MethodName := ⟨"java/lang/String", "isEmpty", "()Z"⟩
abbrev M_String_isEmpty : XMt := (y_String_isEmpty, prog_25_method_55_code, 1, (some .boolean))
theorem d_String_isEmpty_0 : decode M_String_isEmpty.2.1 0 = .ok (.aload_n 0, 1) := by decide +kernel
theorem d_String_isEmpty_1 : decode M_String_isEmpty.2.1 1 = .ok (.getfield 9, 3) := by decide +kernel
theorem d_String_isEmpty_4 : decode M_String_isEmpty.2.1 4 = .ok (.arraylength, 1) := by decide +kernel
theorem d_String_isEmpty_5 : decode M_String_isEmpty.2.1 5 = .ok (.ifCond .ne 7, 3) := by decide +kernel
theorem d_String_isEmpty_8 : decode M_String_isEmpty.2.1 8 = .ok (.iconst 1, 1) := by decide +kernel
theorem d_String_isEmpty_9 : decode M_String_isEmpty.2.1 9 = .ok (.goto 4, 3) := by decide +kernel
theorem d_String_isEmpty_13 : decode M_String_isEmpty.2.1 13 = .ok (.ireturn, 1) := by decide +kernel
theorem d_String_isEmpty_12 : decode M_String_isEmpty.2.1 12 = .ok (.iconst 0, 1) := by decide +kernel
abbrev y_Preconditions_checkIndex : MethodName := ⟨"jdk/internal/util/Preconditions", "checkIndex", "(IILjava/util/function/BiFunction;)I"⟩
abbrev M_Preconditions_checkIndex : XMt := (y_Preconditions_checkIndex, prog_41_method_11_code, 3, (some .int))
theorem d_Preconditions_checkIndex_0 : decode M_Preconditions_checkIndex.2.1 0 = .ok (.iload_n 0, 1) := by decide +kernel
theorem d_Preconditions_checkIndex_1 : decode M_Preconditions_checkIndex.2.1 1 = .ok (.ifCond .lt 8, 3) := by decide +kernel
theorem d_Preconditions_checkIndex_4 : decode M_Preconditions_checkIndex.2.1 4 = .ok (.iload_n 0, 1) := by decide +kernel
theorem d_Preconditions_checkIndex_5 : decode M_Preconditions_checkIndex.2.1 5 = .ok (.iload_n 1, 1) := by decide +kernel
theorem d_Preconditions_checkIndex_6 : decode M_Preconditions_checkIndex.2.1 6 = .ok (.if_icmp .lt 10, 3) := by decide +kernel
theorem d_Preconditions_checkIndex_16 : decode M_Preconditions_checkIndex.2.1 16 = .ok (.iload_n 0, 1) := by decide +kernel
theorem d_Preconditions_checkIndex_17 : decode M_Preconditions_checkIndex.2.1 17 = .ok (.ireturn, 1) := by decide +kernel
abbrev y_String_checkIndex : MethodName := ⟨"java/lang/String", "checkIndex", "(II)V"⟩
abbrev M_String_checkIndex : XMt := (y_String_checkIndex, prog_25_method_155_code, 2, none)
theorem d_String_checkIndex_0 : decode M_String_checkIndex.2.1 0 = .ok (.iload_n 0, 1) := by decide +kernel
theorem d_String_checkIndex_1 : decode M_String_checkIndex.2.1 1 = .ok (.iload_n 1, 1) := by decide +kernel
theorem d_String_checkIndex_2 : decode M_String_checkIndex.2.1 2 = .ok (.getstatic 1053, 3) := by decide +kernel
theorem xw_248 : (Jvm.Cond.fieldLink "java/lang/String" (1053 : Nat) "jdk/internal/util/Preconditions" "SIOOBE_FORMATTER" "Ljava/util/function/BiFunction;") ∈ xT := xT_at 248 (by decide +kernel) (by decide +kernel)
theorem d_String_checkIndex_5 : decode M_String_checkIndex.2.1 5 = .ok (.invokestatic 1059, 3) := by decide +kernel
theorem xw_273 : (Jvm.Cond.code ({ cls := "jdk/internal/util/Preconditions", name := "checkIndex", desc := "(IILjava/util/function/BiFunction;)I" } : Jvm.MethodName) prog_41_method_11_code (3 : Nat) (Option.some Jvm.ClassFile.FieldType.int)) ∈ xT := xT_at 273 (by decide +kernel) (by decide +kernel)
theorem xw_14 : (Jvm.Cond.initialized "jdk/internal/util/Preconditions") ∈ xT := xT_at 14 (by decide +kernel) (by decide +kernel)
theorem xcb_Preconditions_checkIndex : xcb M_Preconditions_checkIndex 3 := ⟨xw_273, xw_14, by decide, by decide, by decide, by decide +kernel⟩
theorem xw_271 : (Jvm.Cond.methodLink "java/lang/String" (1059 : Nat) ({ cls := "jdk/internal/util/Preconditions", name := "checkIndex", desc := "(IILjava/util/function/BiFunction;)I" } : Jvm.MethodName)) ∈ xT := xT_at 271 (by decide +kernel) (by decide +kernel)
theorem xw_272 : (Jvm.Cond.static ({ cls := "jdk/internal/util/Preconditions", name := "checkIndex", desc := "(IILjava/util/function/BiFunction;)I" } : Jvm.MethodName)) ∈ xT := xT_at 272 (by decide +kernel) (by decide +kernel)
theorem xcs_String_1059 : xCS "java/lang/String" 1059 M_Preconditions_checkIndex 3 := ⟨xcb_Preconditions_checkIndex, xw_272, Or.inl xw_271⟩
theorem d_String_checkIndex_8 : decode M_String_checkIndex.2.1 8 = .ok (.pop, 1) := by decide +kernel
theorem d_String_checkIndex_9 : decode M_String_checkIndex.2.1 9 = .ok (.return_, 1) := by decide +kernel
abbrev y_SL1_charAt : MethodName := ⟨"java/lang/StringLatin1", "charAt", "([BI)C"⟩
abbrev M_SL1_charAt : XMt := (y_SL1_charAt, prog_27_method_2_code, 2, (some .char))
theorem d_SL1_charAt_0 : decode M_SL1_charAt.2.1 0 = .ok (.iload_n 1, 1) := by decide +kernel
theorem d_SL1_charAt_1 : decode M_SL1_charAt.2.1 1 = .ok (.aload_n 0, 1) := by decide +kernel
theorem d_SL1_charAt_2 : decode M_SL1_charAt.2.1 2 = .ok (.arraylength, 1) := by decide +kernel
theorem d_SL1_charAt_3 : decode M_SL1_charAt.2.1 3 = .ok (.invokestatic 9, 3) := by decide +kernel
theorem xw_270 : (Jvm.Cond.code ({ cls := "java/lang/String", name := "checkIndex", desc := "(II)V" } : Jvm.MethodName) prog_25_method_155_code (2 : Nat) (Option.none : Option Jvm.ClassFile.FieldType)) ∈ xT := xT_at 270 (by decide +kernel) (by decide +kernel)
theorem xcb_String_checkIndex : xcb M_String_checkIndex 2 := ⟨xw_270, xw_4, by decide, by decide, by decide, by decide +kernel⟩
theorem xw_441 : (Jvm.Cond.methodLink "java/lang/StringLatin1" (9 : Nat) ({ cls := "java/lang/String", name := "checkIndex", desc := "(II)V" } : Jvm.MethodName)) ∈ xT := xT_at 441 (by decide +kernel) (by decide +kernel)
theorem xw_269 : (Jvm.Cond.static ({ cls := "java/lang/String", name := "checkIndex", desc := "(II)V" } : Jvm.MethodName)) ∈ xT := xT_at 269 (by decide +kernel) (by decide +kernel)
theorem xcs_SL1_9 : xCS "java/lang/StringLatin1" 9 M_String_checkIndex 2 := ⟨xcb_String_checkIndex, xw_269, Or.inl xw_441⟩
theorem d_SL1_charAt_6 : decode M_SL1_charAt.2.1 6 = .ok (.aload_n 0, 1) := by decide +kernel
theorem d_SL1_charAt_7 : decode M_SL1_charAt.2.1 7 = .ok (.iload_n 1, 1) := by decide +kernel
theorem d_SL1_charAt_8 : decode M_SL1_charAt.2.1 8 = .ok (.baload, 1) := by decide +kernel
theorem d_SL1_charAt_9 : decode M_SL1_charAt.2.1 9 = .ok (.sipush 255, 3) := by decide +kernel
theorem d_SL1_charAt_12 : decode M_SL1_charAt.2.1 12 = .ok (.iand, 1) := by decide +kernel
theorem d_SL1_charAt_13 : decode M_SL1_charAt.2.1 13 = .ok (.i2c, 1) := by decide +kernel
theorem d_SL1_charAt_14 : decode M_SL1_charAt.2.1 14 = .ok (.ireturn, 1) := by decide +kernel
abbrev y_String_charAt : MethodName := ⟨"java/lang/String", "charAt", "(I)C"⟩
abbrev M_String_charAt : XMt := (y_String_charAt, prog_25_method_56_code, 2, (some .char))
theorem d_String_charAt_0 : decode M_String_charAt.2.1 0 = .ok (.aload_n 0, 1) := by decide +kernel
theorem d_String_charAt_1 : decode M_String_charAt.2.1 1 = .ok (.invokevirtual 492, 3) := by decide +kernel
theorem xw_437 : (Jvm.Cond.code ({ cls := "java/lang/String", name := "isLatin1", desc := "()Z" } : Jvm.MethodName) prog_25_method_154_code (1 : Nat) (Option.some Jvm.ClassFile.FieldType.boolean)) ∈ xT := xT_at 437 (by decide +kernel) (by decide +kernel)
theorem xcb_String_isLatin1 : xcb M_String_isLatin1 0 := ⟨xw_437, xw_4, by decide, by decide, by decide, by decide +kernel⟩
theorem xw_435 : (Jvm.Cond.instanceMethod ({ cls := "java/lang/String", name := "isLatin1", desc := "()Z" } : Jvm.MethodName)) ∈ xT := xT_at 435 (by decide +kernel) (by decide +kernel)
theorem xw_434 : (Jvm.Cond.methodLink "java/lang/String" (492 : Nat) ({ cls := "java/lang/String", name := "isLatin1", desc := "()Z" } : Jvm.MethodName)) ∈ xT := xT_at 434 (by decide +kernel) (by decide +kernel)
theorem xw_436 : (Jvm.Cond.selects "java/lang/String" ({ cls := "java/lang/String", name := "isLatin1", desc := "()Z" } : Jvm.MethodName) ({ cls := "java/lang/String", name := "isLatin1", desc := "()Z" } : Jvm.MethodName)) ∈ xT := xT_at 436 (by decide +kernel) (by decide +kernel)
theorem xcv_String_492_String : xCV "java/lang/String" 492 "java/lang/String" M_String_isLatin1 0 := ⟨xcb_String_isLatin1, xw_435, Or.inl ⟨xw_434, Or.inl xw_436⟩⟩
theorem d_String_charAt_4 : decode M_String_charAt.2.1 4 = .ok (.ifCond .eq 12, 3) := by decide +kernel
theorem d_String_charAt_7 : decode M_String_charAt.2.1 7 = .ok (.aload_n 0, 1) := by decide +kernel
theorem d_String_charAt_8 : decode M_String_charAt.2.1 8 = .ok (.getfield 9, 3) := by decide +kernel
theorem d_String_charAt_11 : decode M_String_charAt.2.1 11 = .ok (.iload_n 1, 1) := by decide +kernel
theorem d_String_charAt_12 : decode M_String_charAt.2.1 12 = .ok (.invokestatic 495, 3) := by decide +kernel
theorem xw_440 : (Jvm.Cond.code ({ cls := "java/lang/StringLatin1", name := "charAt", desc := "([BI)C" } : Jvm.MethodName) prog_27_method_2_code (2 : Nat) (Option.some Jvm.ClassFile.FieldType.char)) ∈ xT := xT_at 440 (by decide +kernel) (by decide +kernel)
theorem xcb_SL1_charAt : xcb M_SL1_charAt 2 := ⟨xw_440, xw_13, by decide, by decide, by decide, by decide +kernel⟩
theorem xw_438 : (Jvm.Cond.methodLink "java/lang/String" (495 : Nat) ({ cls := "java/lang/StringLatin1", name := "charAt", desc := "([BI)C" } : Jvm.MethodName)) ∈ xT := xT_at 438 (by decide +kernel) (by decide +kernel)
theorem xw_439 : (Jvm.Cond.static ({ cls := "java/lang/StringLatin1", name := "charAt", desc := "([BI)C" } : Jvm.MethodName)) ∈ xT := xT_at 439 (by decide +kernel) (by decide +kernel)
theorem xcs_String_495 : xCS "java/lang/String" 495 M_SL1_charAt 2 := ⟨xcb_SL1_charAt, xw_439, Or.inl xw_438⟩
theorem d_String_charAt_15 : decode M_String_charAt.2.1 15 = .ok (.ireturn, 1) := by decide +kernel
end
section ST1
variable {l : Launch} {G : XG} {h : XH} {c n d : Nat}
/-- A STRING: its cell and its bytes never change -/
def isS (G : XG) (h : XH) (a : Nat) (t : List Nat) : Prop := ∃ (va : Nat) (e : List Value), xr G h a k_String (.ref va :: .int 0 :: e) ∧ xr G h va k_asbyte (xby t) ∧ xasc t
/-- what is known of the cells that stay -/
def xGk (G : XG) : Prop := (∀ j, xisr (G.2.2.2.2 j) = true) ∧ (∀ i, i < xnstr → ∃ va, G.2.2.1 (G.2.2.2.1 i) = some (k_String, [.ref va, .int 0]) ∧ G.2.2.1 va = some (k_asbyte, xby (xtx i))) ∧ G.2.2.1 (G.2.2.2.1 100) = some (k_aObject, [])
theorem xtx_asc : ∀ i, i < xnstr → ∀ ch ∈ xtx i, ch < 128 := by decide +kernel
theorem xGk.str (hG : xGk G) {i : Nat} (hi : i < xnstr) : isS G h (G.2.2.2.1 i) (xtx i) := by
  obtain ⟨va, h1, h2⟩ := hG.2.1 i hi
  exact ⟨va, [], Or.inr h1, Or.inr h2, xtx_asc i hi⟩
/-- cells of other kinds than these -/
def xno (h : XH) (F ks : List Nat) : Prop := ∀ q ∈ F, ∀ e, h q = some e → e.1 ∉ ks
theorem xr.fr {h' : XH} {F : List Nat} {a k : Nat} {vs : List Value} (ha : xr G h a k vs) (hf : xfr h h' F) (hn : xno h F [k]) : xr G h' a k vs := by
  rcases ha with ha | ha
  · exact Or.inl (hf.1 a _ ha (fun z => hn a z _ ha (by simp)))
  · exact Or.inr ha
theorem xno.sub {F ks ks' : List Nat} (hn : xno h F ks) (hs : ∀ k ∈ ks', k ∈ ks) : xno h F ks' := fun q hq e he hk => hn q hq e he (hs _ hk)
theorem isS.fr {h' : XH} {F : List Nat} {a : Nat} {t : List Nat} (hS : isS G h a t) (hf : xfr h h' F) (hn : xno h F [k_String, k_asbyte]) : isS G h' a t := by
  obtain ⟨va, e, h1, h2, h3⟩ := hS
  exact ⟨va, e, h1.fr hf (hn.sub (by simp)), h2.fr hf (hn.sub (by simp)), h3⟩
theorem isS.up {q : Nat} {e : Nat × List Value} {a : Nat} {t : List Nat} (hS : isS G h a t) (hq : h q = none) : isS G (xup h q e) a t := by
  obtain ⟨va, e', h1, h2, h3⟩ := hS
  exact ⟨va, e', xr_up h1 hq, xr_up h2 hq, h3⟩
theorem c_String_coder {a : Nat} {va : Value} {e : List Value} (ha : xr G h a k_String (va :: .int 0 :: e)) : XM l G d M_String_coder [.ref a] h c n (xSame (.int 0) h c n) := by
  refine XM.of (by decide +kernel) (Nat.le_of_ble_eq_true rfl) ?_
  refine x_gets xw_429 (List.mem_of_getElem? (i := 0) rfl) d_String_coder_0 ?_
  refine x_if_eq (tgt := 13) d_String_coder_3 (by decide) (fun ht => absurd ht (by decide)) (fun _ => ?_)
  refine x_aload_n d_String_coder_6 rfl rfl ?_
  refine x_get xf_String_15_String ha rfl d_String_coder_7 ?_
  refine x_goto (tgt := 14) d_String_coder_10 (by decide) ?_
  refine x_zret d_String_coder_14 rfl rfl ?_
  exact ⟨rfl, rfl, rfl, rfl⟩
theorem c_String_isLatin1 {a : Nat} {va : Value} {e : List Value} (ha : xr G h a k_String (va :: .int 0 :: e)) : XM l G d M_String_isLatin1 [.ref a] h c n (xSame (.int 1) h c n) := by
  refine XM.of (by decide +kernel) (Nat.le_of_ble_eq_true rfl) ?_
  refine x_gets xw_429 (List.mem_of_getElem? (i := 0) rfl) d_String_isLatin1_0 ?_
  refine x_if_eq (tgt := 17) d_String_isLatin1_3 (by decide) (fun ht => absurd ht (by decide)) (fun _ => ?_)
  refine x_aload_n d_String_isLatin1_6 rfl rfl ?_
  refine x_get xf_String_15_String ha rfl d_String_isLatin1_7 ?_
  refine x_if_ne (tgt := 17) d_String_isLatin1_10 (by decide) (fun ht => absurd (by decide) ht) (fun _ => ?_)
  refine x_iconst (v := 1) d_String_isLatin1_13 (by decide) ?_
  refine x_goto (tgt := 18) d_String_isLatin1_14 (by decide) ?_
  refine x_zret d_String_isLatin1_18 rfl rfl ?_
  exact ⟨rfl, rfl, rfl, rfl⟩
theorem c_String_length (hd : 1 ≤ d) {a : Nat} {t : List Nat} (hS : isS G h a t) : XM l G d M_String_length [.ref a] h c n (xSame (.int (nI t.length)) h c n) := by
  obtain ⟨d, rfl⟩ : ∃ q, d = q + 1 := ⟨d - 1, by omega⟩
  obtain ⟨va, e, ha, hv, hat⟩ := hS
  refine XM.of (by decide +kernel) (Nat.le_of_ble_eq_true rfl) ?_
  refine x_aload_n d_String_length_0 rfl rfl ?_
  refine x_get xf_String_9_String ha rfl d_String_length_1 ?_
  refine x_alen (k := k_asbyte) rfl hv (v := nI t.length) (by rw [xby_len]; rfl) d_String_length_4 ?_
  refine x_aload_n d_String_length_5 rfl rfl ?_
  refine x_callV (As := []) (k := k_String) rfl xcv_String_335_String ha (c_String_coder ha) rfl rfl (Nat.le_of_ble_eq_true rfl) d_String_length_6 ?_
  rintro v h' c' n' ⟨rfl, rfl, rfl, rfl⟩
  refine x_ishr d_String_length_9 ?_
  refine x_top (w := .int (nI t.length)) (by rw [sb_shr0]) ?_
  refine x_iret d_String_length_10 rfl ?_
  exact ⟨rfl, rfl, rfl, rfl⟩
theorem c_String_isEmpty {a : Nat} {t : List Nat} (hS : isS G h a t) (hl : t.length < 2 ^ 31) : XM l G d M_String_isEmpty [.ref a] h c n (xSame (.int (if t = [] then 1 else 0)) h c n) := by
  obtain ⟨va, e, ha, hv, hat⟩ := hS
  refine XM.of (by decide +kernel) (Nat.le_of_ble_eq_true rfl) ?_
  refine x_aload_n d_String_isEmpty_0 rfl rfl ?_
  refine x_get xf_String_9_String ha rfl d_String_isEmpty_1 ?_
  refine x_alen (k := k_asbyte) rfl hv (v := nI t.length) (by rw [xby_len]; rfl) d_String_isEmpty_4 ?_
  cases ht : t with
  | nil =>
    subst ht
    refine x_if_ne (tgt := 12) d_String_isEmpty_5 (by decide) (fun ht => absurd (by rfl) ht) (fun _ => ?_)
    refine x_iconst (v := 1) d_String_isEmpty_8 (by decide) ?_
    refine x_goto (tgt := 13) d_String_isEmpty_9 (by decide) ?_
    refine x_zret d_String_isEmpty_13 rfl rfl ?_
    exact ⟨rfl, rfl, rfl, rfl⟩
  | cons x xs =>
    subst ht
    refine x_if_ne (tgt := 12) d_String_isEmpty_5 (by decide) (fun _ => ?_) (fun hn => absurd hn (nI_ne0 (by simp) hl))
    refine x_iconst (v := 0) d_String_isEmpty_12 (by decide) ?_
    refine x_zret d_String_isEmpty_13 rfl rfl ?_
    exact ⟨rfl, rfl, rfl, rfl⟩
theorem c_checkIndex {i m : Nat} {w : Value} (hw : xisr w = true) (hi : i < m) (hm : m < 2 ^ 31) : XM l G d M_Preconditions_checkIndex [.int (nI i), .int (nI m), w] h c n (xSame (.int (nI i)) h c n) := by
  rcases xisr_or hw with rfl | ⟨a, rfl⟩
  · refine XM.of (by decide +kernel) (Nat.le_of_ble_eq_true rfl) ?_
    refine x_iload_n d_Preconditions_checkIndex_0 rfl ?_
    refine x_if_lt (tgt := 9) d_Preconditions_checkIndex_1 (by decide) (fun ht => absurd ht (nI_pos (by omega))) (fun _ => ?_)
    refine x_iload_n d_Preconditions_checkIndex_4 rfl ?_
    refine x_iload_n d_Preconditions_checkIndex_5 rfl ?_
    refine x_icmp_lt (tgt := 16) d_Preconditions_checkIndex_6 (by decide) (fun _ => ?_) (fun hn => absurd (nI_lt hi hm) hn)
    refine x_iload_n d_Preconditions_checkIndex_16 rfl ?_
    refine x_iret d_Preconditions_checkIndex_17 rfl ?_
    exact ⟨rfl, rfl, rfl, rfl⟩
  · refine XM.of (by decide +kernel) (Nat.le_of_ble_eq_true rfl) ?_
    refine x_iload_n d_Preconditions_checkIndex_0 rfl ?_
    refine x_if_lt (tgt := 9) d_Preconditions_checkIndex_1 (by decide) (fun ht => absurd ht (nI_pos (by omega))) (fun _ => ?_)
    refine x_iload_n d_Preconditions_checkIndex_4 rfl ?_
    refine x_iload_n d_Preconditions_checkIndex_5 rfl ?_
    refine x_icmp_lt (tgt := 16) d_Preconditions_checkIndex_6 (by decide) (fun _ => ?_) (fun hn => absurd (nI_lt hi hm) hn)
    refine x_iload_n d_Preconditions_checkIndex_16 rfl ?_
    refine x_iret d_Preconditions_checkIndex_17 rfl ?_
    exact ⟨rfl, rfl, rfl, rfl⟩
theorem c_String_checkIndex (hG : xGk G) (hd : 1 ≤ d) {i m : Nat} (hi : i < m) (hm : m < 2 ^ 31) : XM l G d M_String_checkIndex [.int (nI i), .int (nI m)] h c n (xVoid h c n) := by
  obtain ⟨d, rfl⟩ : ∃ q, d = q + 1 := ⟨d - 1, by omega⟩
  refine XM.of (by decide +kernel) (Nat.le_of_ble_eq_true rfl) ?_
  refine x_iload_n d_String_checkIndex_0 rfl ?_
  refine x_iload_n d_String_checkIndex_1 rfl ?_
  refine x_gets xw_248 (List.mem_of_getElem? (i := 5) rfl) d_String_checkIndex_2 ?_
  refine x_callS (As := [_, _, _]) xcs_String_1059 (c_checkIndex (hG.1 0) hi hm) rfl rfl (Nat.le_of_ble_eq_true rfl) d_String_checkIndex_5 ?_
  rintro v h' c' n' ⟨rfl, rfl, rfl, rfl⟩
  refine x_pop d_String_checkIndex_8 rfl ?_
  refine x_vret d_String_checkIndex_9 rfl ?_
  exact ⟨rfl, rfl, rfl, rfl⟩
theorem xby_at {t : List Nat} {i : Nat} (hi : i < t.length) : (xby t)[i]? = some (.int (nI t[i])) := by
  unfold xby
  rw [List.getElem?_map, List.getElem?_eq_getElem hi]
  rfl
theorem c_SL1_charAt (hG : xGk G) (hd : 2 ≤ d) {va i : Nat} {t : List Nat} (hv : xr G h va k_asbyte (xby t)) (hat : xasc t) (hi : i < t.length) (hl : t.length < 2 ^ 31) : XM l G d M_SL1_charAt [.ref va, .int (nI i)] h c n (xSame (.int (nI t[i])) h c n) := by
  obtain ⟨d, rfl⟩ : ∃ q, d = q + 1 := ⟨d - 1, by omega⟩
  obtain ⟨-, -, -, f4, f5⟩ := xfit1 t[i] (hat _ (List.getElem_mem hi))
  refine XM.of (by decide +kernel) (Nat.le_of_ble_eq_true rfl) ?_
  refine x_iload_n d_SL1_charAt_0 rfl ?_
  refine x_aload_n d_SL1_charAt_1 rfl rfl ?_
  refine x_alen (k := k_asbyte) rfl hv (v := nI t.length) (by rw [xby_len]; rfl) d_SL1_charAt_2 ?_
  refine x_callS (As := [_, _]) xcs_SL1_9 (c_String_checkIndex hG (by omega) hi hl) rfl rfl (Nat.le_of_ble_eq_true rfl) d_SL1_charAt_3 ?_
  rintro v h' c' n' ⟨rfl, rfl, rfl, rfl⟩
  refine x_aload_n d_SL1_charAt_6 rfl rfl ?_
  refine x_iload_n d_SL1_charAt_7 rfl ?_
  refine x_bald (k := k_asbyte) rfl hv (nI_pos (by omega)) (by rw [nI_clamp (by omega)]; exact xby_at hi) d_SL1_charAt_8 ?_
  refine x_sipush (v := 255) d_SL1_charAt_9 (by decide) ?_
  refine x_iand d_SL1_charAt_12 ?_
  refine x_top (w := .int (nI t[i])) (by rw [f4]) ?_
  refine x_i2c d_SL1_charAt_13 ?_
  refine x_top (w := .int (nI t[i])) (by rw [f5]) ?_
  refine x_zret d_SL1_charAt_14 rfl (by show Value.int _ = _; rw [← lg_i2c_nf, f5]) ?_
  exact ⟨rfl, rfl, rfl, rfl⟩
theorem c_String_charAt (hG : xGk G) (hd : 3 ≤ d) {a i : Nat} {t : List Nat} (hS : isS G h a t) (hi : i < t.length) (hl : t.length < 2 ^ 31) : XM l G d M_String_charAt [.ref a, .int (nI i)] h c n (xSame (.int (nI t[i])) h c n) := by
  obtain ⟨d, rfl⟩ : ∃ q, d = q + 1 := ⟨d - 1, by omega⟩
  obtain ⟨va, e, ha, hv, hat⟩ := hS
  obtain ⟨-, -, -, f4, f5⟩ := xfit1 t[i] (hat _ (List.getElem_mem hi))
  refine XM.of (by decide +kernel) (Nat.le_of_ble_eq_true rfl) ?_
  refine x_aload_n d_String_charAt_0 rfl rfl ?_
  refine x_callV (As := []) (k := k_String) rfl xcv_String_492_String ha (c_String_isLatin1 ha) rfl rfl (Nat.le_of_ble_eq_true rfl) d_String_charAt_1 ?_
  rintro v h' c' n' ⟨rfl, rfl, rfl, rfl⟩
  refine x_if_eq (tgt := 16) d_String_charAt_4 (by decide) (fun ht => absurd ht (by decide)) (fun _ => ?_)
  refine x_aload_n d_String_charAt_7 rfl rfl ?_
  refine x_get xf_String_9_String ha rfl d_String_charAt_8 ?_
  refine x_iload_n d_String_charAt_11 rfl ?_
  refine x_callS (As := [_, _]) xcs_String_495 (c_SL1_charAt hG (by omega) hv hat hi hl) rfl rfl (Nat.le_of_ble_eq_true rfl) d_String_charAt_12 ?_
  rintro v h' c' n' ⟨rfl, rfl, rfl, rfl⟩
  refine x_zret d_String_charAt_15 rfl (by show Value.int _ = _; rw [← lg_i2c_nf, f5]) ?_
  exact ⟨rfl, rfl, rfl, rfl⟩
end ST1
end
section
section
abbrev y_SL1_equals : MethodName := ⟨"java/lang/StringLatin1", "equals", "([B[B)Z"⟩
abbrev M_SL1_equals : XMt := (y_SL1_equals, prog_27_method_13_code, 3, (some .boolean))
theorem d_SL1_equals_9 : decode M_SL1_equals.2.1 9 = .ok (.iload_n 2, 1) := by decide +kernel
theorem d_SL1_equals_10 : decode M_SL1_equals.2.1 10 = .ok (.aload_n 0, 1) := by decide +kernel
theorem d_SL1_equals_11 : decode M_SL1_equals.2.1 11 = .ok (.arraylength, 1) := by decide +kernel
theorem d_SL1_equals_12 : decode M_SL1_equals.2.1 12 = .ok (.if_icmp .ge 20, 3) := by decide +kernel
theorem d_SL1_equals_32 : decode M_SL1_equals.2.1 32 = .ok (.iconst 1, 1) := by decide +kernel
theorem d_SL1_equals_33 : decode M_SL1_equals.2.1 33 = .ok (.ireturn, 1) := by decide +kernel
theorem d_SL1_equals_15 : decode M_SL1_equals.2.1 15 = .ok (.aload_n 0, 1) := by decide +kernel
theorem d_SL1_equals_16 : decode M_SL1_equals.2.1 16 = .ok (.iload_n 2, 1) := by decide +kernel
theorem d_SL1_equals_17 : decode M_SL1_equals.2.1 17 = .ok (.baload, 1) := by decide +kernel
theorem d_SL1_equals_18 : decode M_SL1_equals.2.1 18 = .ok (.aload_n 1, 1) := by decide +kernel
theorem d_SL1_equals_19 : decode M_SL1_equals.2.1 19 = .ok (.iload_n 2, 1) := by decide +kernel
theorem d_SL1_equals_20 : decode M_SL1_equals.2.1 20 = .ok (.baload, 1) := by decide +kernel
theorem d_SL1_equals_21 : decode M_SL1_equals.2.1 21 = .ok (.if_icmp .eq 5, 3) := by decide +kernel
theorem d_SL1_equals_26 : decode M_SL1_equals.2.1 26 = .ok (.iinc 2 1, 3) := by decide +kernel
theorem d_SL1_equals_29 : decode M_SL1_equals.2.1 29 = .ok (.goto (-20), 3) := by decide +kernel
theorem d_SL1_equals_24 : decode M_SL1_equals.2.1 24 = .ok (.iconst 0, 1) := by decide +kernel
theorem d_SL1_equals_25 : decode M_SL1_equals.2.1 25 = .ok (.ireturn, 1) := by decide +kernel
theorem d_SL1_equals_0 : decode M_SL1_equals.2.1 0 = .ok (.aload_n 0, 1) := by decide +kernel
theorem d_SL1_equals_1 : decode M_SL1_equals.2.1 1 = .ok (.arraylength, 1) := by decide +kernel
theorem d_SL1_equals_2 : decode M_SL1_equals.2.1 2 = .ok (.aload_n 1, 1) := by decide +kernel
theorem d_SL1_equals_3 : decode M_SL1_equals.2.1 3 = .ok (.arraylength, 1) := by decide +kernel
theorem d_SL1_equals_4 : decode M_SL1_equals.2.1 4 = .ok (.if_icmp .ne 30, 3) := by decide +kernel
theorem d_SL1_equals_7 : decode M_SL1_equals.2.1 7 = .ok (.iconst 0, 1) := by decide +kernel
theorem d_SL1_equals_8 : decode M_SL1_equals.2.1 8 = .ok (.istore_n 2, 1) := by decide +kernel
theorem d_SL1_equals_34 : decode M_SL1_equals.2.1 34 = .ok (.iconst 0, 1) := by decide +kernel
theorem d_SL1_equals_35 : decode M_SL1_equals.2.1 35 = .ok (.ireturn, 1) := by decide +kernel
abbrev y_String_equals : MethodName := ⟨"java/lang/String", "equals", "(Ljava/lang/Object;)Z"⟩
abbrev M_String_equals : XMt := (y_String_equals, prog_25_method_66_code, 3, (some .boolean))
theorem d_String_equals_0 : decode M_String_equals.2.1 0 = .ok (.aload_n 0, 1) := by decide +kernel
theorem d_String_equals_1 : decode M_String_equals.2.1 1 = .ok (.aload_n 1, 1) := by decide +kernel
theorem d_String_equals_2 : decode M_String_equals.2.1 2 = .ok (.if_acmp .ne 5, 3) := by decide +kernel
theorem d_String_equals_5 : decode M_String_equals.2.1 5 = .ok (.iconst 1, 1) := by decide +kernel
theorem d_String_equals_6 : decode M_String_equals.2.1 6 = .ok (.ireturn, 1) := by decide +kernel
theorem d_String_equals_7 : decode M_String_equals.2.1 7 = .ok (.aload_n 1, 1) := by decide +kernel
theorem d_String_equals_8 : decode M_String_equals.2.1 8 = .ok (.instanceof 10, 3) := by decide +kernel
theorem xw_682 : (Jvm.Cond.classLink "java/lang/String" (10 : Nat) "java/lang/String") ∈ xT := xT_at 682 (by decide +kernel) (by decide +kernel)
theorem d_String_equals_11 : decode M_String_equals.2.1 11 = .ok (.ifCond .eq 43, 3) := by decide +kernel
theorem d_String_equals_14 : decode M_String_equals.2.1 14 = .ok (.aload_n 1, 1) := by decide +kernel
theorem d_String_equals_15 : decode M_String_equals.2.1 15 = .ok (.checkcast 10, 3) := by decide +kernel
theorem d_String_equals_18 : decode M_String_equals.2.1 18 = .ok (.astore_n 2, 1) := by decide +kernel
theorem d_String_equals_19 : decode M_String_equals.2.1 19 = .ok (.getstatic 38, 3) := by decide +kernel
theorem d_String_equals_22 : decode M_String_equals.2.1 22 = .ok (.ifCond .eq 14, 3) := by decide +kernel
theorem d_String_equals_25 : decode M_String_equals.2.1 25 = .ok (.aload_n 0, 1) := by decide +kernel
theorem d_String_equals_26 : decode M_String_equals.2.1 26 = .ok (.getfield 15, 3) := by decide +kernel
theorem d_String_equals_29 : decode M_String_equals.2.1 29 = .ok (.aload_n 2, 1) := by decide +kernel
theorem d_String_equals_30 : decode M_String_equals.2.1 30 = .ok (.getfield 15, 3) := by decide +kernel
theorem d_String_equals_33 : decode M_String_equals.2.1 33 = .ok (.if_icmp .ne 21, 3) := by decide +kernel
theorem d_String_equals_36 : decode M_String_equals.2.1 36 = .ok (.aload_n 0, 1) := by decide +kernel
theorem d_String_equals_37 : decode M_String_equals.2.1 37 = .ok (.getfield 9, 3) := by decide +kernel
theorem d_String_equals_40 : decode M_String_equals.2.1 40 = .ok (.aload_n 2, 1) := by decide +kernel
theorem d_String_equals_41 : decode M_String_equals.2.1 41 = .ok (.getfield 9, 3) := by decide +kernel
theorem d_String_equals_44 : decode M_String_equals.2.1 44 = .ok (.invokestatic 541, 3) := by decide +kernel
theorem xw_685 : (Jvm.Cond.code ({ cls := "java/lang/StringLatin1", name := "equals", desc := "([B[B)Z" } : Jvm.MethodName) prog_27_method_13_code (3 : Nat) (Option.some Jvm.ClassFile.FieldType.boolean)) ∈ xT := xT_at 685 (by decide +kernel) (by decide +kernel)
theorem xcb_SL1_equals : xcb M_SL1_equals 2 := ⟨xw_685, xw_13, by decide, by decide, by decide, by decide +kernel⟩
theorem xw_683 : (Jvm.Cond.methodLink "java/lang/String" (541 : Nat) ({ cls := "java/lang/StringLatin1", name := "equals", desc := "([B[B)Z" } : Jvm.MethodName)) ∈ xT := xT_at 683 (by decide +kernel) (by decide +kernel)
theorem xw_684 : (Jvm.Cond.static ({ cls := "java/lang/StringLatin1", name := "equals", desc := "([B[B)Z" } : Jvm.MethodName)) ∈ xT := xT_at 684 (by decide +kernel) (by decide +kernel)
theorem xcs_String_541 : xCS "java/lang/String" 541 M_SL1_equals 2 := ⟨xcb_SL1_equals, xw_684, Or.inl xw_683⟩
theorem d_String_equals_47 : decode M_String_equals.2.1 47 = .ok (.ifCond .eq 7, 3) := by decide +kernel
theorem d_String_equals_50 : decode M_String_equals.2.1 50 = .ok (.iconst 1, 1) := by decide +kernel
theorem d_String_equals_51 : decode M_String_equals.2.1 51 = .ok (.goto 4, 3) := by decide +kernel
theorem d_String_equals_55 : decode M_String_equals.2.1 55 = .ok (.ireturn, 1) := by decide +kernel
theorem d_String_equals_54 : decode M_String_equals.2.1 54 = .ok (.iconst 0, 1) := by decide +kernel
end
section ST2
variable {l : Launch} {G : XG} {h : XH} {c n d : Nat}
/-- our cells and those that stay are apart -/
def xwf (G : XG) (h : XH) : Prop := ∀ a e, h a = some e → G.2.2.1 a = none
theorem x_wf {M : XMt} {pc : Nat} {L : List (Option Value)} {st : List Value} {P : XPo} (k : xwf G h → XX l G M d pc L st h c n P) : XX l G M d pc L st h c n P := by
  intro p e R s m args below meth cd H locs cells slots ls hF hR hl hL hV hS hN
  refine k (fun a x ha => ?_) p e R s m args below meth cd H locs cells slots ls hF hR hl hL hV hS hN
  cases hk : G.2.2.1 a with
  | none => rfl
  | some y =>
    obtain ⟨g1, -⟩ := hV.2.2.2.2 a y.1 y.2 hk
    obtain ⟨g2, -⟩ := hS.1 a x.1 x.2 ha
    omega
theorem xr_fun {a k k' : Nat} {vs vs' : List Value} (hw : xwf G h) (h1 : xr G h a k vs) (h2 : xr G h a k' vs') : k = k' ∧ vs = vs' := by
  rcases h1 with h1 | h1 <;> rcases h2 with h2 | h2
  · cases h1.symm.trans h2; exact ⟨rfl, rfl⟩
  · rw [hw a _ h1] at h2; cases h2
  · rw [hw a _ h2] at h1; cases h1
  · cases h1.symm.trans h2; exact ⟨rfl, rfl⟩
theorem xby_inj {t u : List Nat} (ht : xasc t) (hu : xasc u) (e : xby t = xby u) : t = u := by
  unfold xby at e
  refine List.ext_getElem? fun i => ?_
  have h1 := congrArg (fun z => z[i]?) e
  simp only [List.getElem?_map] at h1
  cases h2 : t[i]? with
  | none =>
    rw [h2] at h1
    cases h3 : u[i]? with
    | none => rfl
    | some y => rw [h3] at h1; simp at h1
  | some x =>
    rw [h2] at h1
    cases h3 : u[i]? with
    | none => rw [h3] at h1; simp at h1
    | some y =>
      rw [h3] at h1
      simp at h1
      have hx := ht x (List.mem_of_getElem? h2)
      have hy := hu y (List.mem_of_getElem? h3)
      rw [(nI_eq (by omega) (by omega)).mp h1]
theorem isS.inj {a : Nat} {t u : List Nat} (hw : xwf G h) (h1 : isS G h a t) (h2 : isS G h a u) : t = u := by
  obtain ⟨va, e, a1, a2, a3⟩ := h1
  obtain ⟨vb, e', b1, b2, b3⟩ := h2
  obtain ⟨-, q⟩ := xr_fun hw a1 b1
  cases q
  exact xby_inj a3 b3 (xr_fun hw a2 b2).2
theorem xw_iinc1 {i : Nat} : nI i + Int32.ofInt 1 = nI (i + 1) := by rw [show Int32.ofInt 1 = nI 1 from rfl, nI_add]
theorem lp_SL1_equals {va vb : Nat} {t u : List Nat} {P : Option Value → XH → Nat → Nat → Prop} (hv : xr G h va k_asbyte (xby t)) (hu : xr G h vb k_asbyte (xby u)) (ht : xasc t) (hua : xasc u) (hlen : t.length = u.length) (hl : t.length < 2 ^ 30) (hP : P (some (.int (if t = u then 1 else 0))) h c n) :
    ∀ (k i : Nat), i + k = t.length → t.take i = u.take i → XW l G M_SL1_equals d 9 [some (.ref va), some (.ref vb), some (.int (nI i))] [] h c n P := by
  intro k
  induction k with
  | zero =>
    intro i hi he
    have htu : t = u := by rw [List.take_of_length_le (by omega), List.take_of_length_le (by omega)] at he; exact he
    rw [if_pos htu] at hP
    refine x_iload_n d_SL1_equals_9 rfl ?_
    refine x_aload_n d_SL1_equals_10 rfl rfl ?_
    refine x_alen (k := k_asbyte) rfl hv (v := nI t.length) (by rw [xby_len]; rfl) d_SL1_equals_11 ?_
    refine x_icmp_ge (tgt := 32) d_SL1_equals_12 (by decide) (fun _ => ?_) (fun hn => absurd (nI_le (by omega) (by omega)) hn)
    refine x_iconst (v := 1) d_SL1_equals_32 (by decide) ?_
    refine x_zret d_SL1_equals_33 rfl rfl ?_
    exact hP
  | succ k ih =>
    intro i hi he
    have hit : i < t.length := by omega
    have hiu : i < u.length := by omega
    refine x_iload_n d_SL1_equals_9 rfl ?_
    refine x_aload_n d_SL1_equals_10 rfl rfl ?_
    refine x_alen (k := k_asbyte) rfl hv (v := nI t.length) (by rw [xby_len]; rfl) d_SL1_equals_11 ?_
    refine x_icmp_ge (tgt := 32) d_SL1_equals_12 (by decide) (fun ht => absurd ht (nI_ge hit (by omega))) (fun _ => ?_)
    refine x_aload_n d_SL1_equals_15 rfl rfl ?_
    refine x_iload_n d_SL1_equals_16 rfl ?_
    refine x_bald (k := k_asbyte) rfl hv (nI_pos (by omega)) (by rw [nI_clamp (by omega)]; exact xby_at hit) d_SL1_equals_17 ?_
    refine x_aload_n d_SL1_equals_18 rfl rfl ?_
    refine x_iload_n d_SL1_equals_19 rfl ?_
    refine x_bald (k := k_asbyte) rfl hu (nI_pos (by omega)) (by rw [nI_clamp (by omega)]; exact xby_at hiu) d_SL1_equals_20 ?_
    have e1 := ht t[i] (List.getElem_mem hit)
    have e2 := hua u[i] (List.getElem_mem hiu)
    by_cases hq : t[i] = u[i]
    · refine x_icmp_eq (tgt := 26) d_SL1_equals_21 (by decide) (fun _ => ?_) (fun hn => absurd (by rw [hq]) hn)
      refine x_iinc (v := nI (i + 1)) (L' := [_, _, _]) d_SL1_equals_26 rfl (by exact xw_iinc1) rfl rfl ?_
      refine x_goto (tgt := 9) d_SL1_equals_29 (by decide) ?_
      exact ih (i + 1) (by omega) (by rw [List.take_succ_eq_append_getElem hit, List.take_succ_eq_append_getElem hiu, he, hq])
    · rw [if_neg (fun z => hq (by subst z; rfl))] at hP
      refine x_icmp_eq (tgt := 26) d_SL1_equals_21 (by decide) (fun ht => absurd ht (by rw [nI_eq (by omega) (by omega)]; exact hq)) (fun _ => ?_)
      refine x_iconst (v := 0) d_SL1_equals_24 (by decide) ?_
      refine x_zret d_SL1_equals_25 rfl rfl ?_
      exact hP
theorem c_SL1_equals {va vb : Nat} {t u : List Nat} (hv : xr G h va k_asbyte (xby t)) (hu : xr G h vb k_asbyte (xby u)) (ht : xasc t) (hua : xasc u) (hl : t.length < 2 ^ 30) (hl2 : u.length < 2 ^ 30) : XM l G d M_SL1_equals [.ref va, .ref vb] h c n (xSame (.int (if t = u then 1 else 0)) h c n) := by
  refine XM.of (by decide +kernel) (Nat.le_of_ble_eq_true rfl) ?_
  refine x_aload_n d_SL1_equals_0 rfl rfl ?_
  refine x_alen (k := k_asbyte) rfl hv (v := nI t.length) (by rw [xby_len]; rfl) d_SL1_equals_1 ?_
  refine x_aload_n d_SL1_equals_2 rfl rfl ?_
  refine x_alen (k := k_asbyte) rfl hu (v := nI u.length) (by rw [xby_len]; rfl) d_SL1_equals_3 ?_
  by_cases hq : t.length = u.length
  · refine x_icmp_ne (tgt := 34) d_SL1_equals_4 (by decide) (fun ht => absurd (by rw [hq]) ht) (fun _ => ?_)
    refine x_iconst (v := 0) d_SL1_equals_7 (by decide) ?_
    refine x_istore_n (L' := [_, _, _]) d_SL1_equals_8 rfl rfl ?_
    exact lp_SL1_equals hv hu ht hua hq hl ⟨rfl, rfl, rfl, rfl⟩ t.length 0 (by omega) rfl
  · refine x_icmp_ne (tgt := 34) d_SL1_equals_4 (by decide) (fun _ => ?_) (fun hn => absurd hn (by rw [nI_eq (by omega) (by omega)]; exact hq))
    refine x_iconst (v := 0) d_SL1_equals_34 (by decide) ?_
    refine x_zret d_SL1_equals_35 rfl rfl ?_
    rw [if_neg (fun z => hq (by rw [z]))]
    exact ⟨rfl, rfl, rfl, rfl⟩
theorem c_String_equals (hd : 1 ≤ d) {a b : Nat} {t u : List Nat} (hS : isS G h a t) (hU : isS G h b u) (hl : t.length < 2 ^ 30) (hl2 : u.length < 2 ^ 30) : XM l G d M_String_equals [.ref a, .ref b] h c n (xSame (.int (if t = u then 1 else 0)) h c n) := by
  obtain ⟨d, rfl⟩ : ∃ q, d = q + 1 := ⟨d - 1, by omega⟩
  refine XM.of (by decide +kernel) (Nat.le_of_ble_eq_true rfl) ?_
  refine x_wf fun hw => ?_
  refine x_aload_n d_String_equals_0 rfl rfl ?_
  refine x_aload_n d_String_equals_1 rfl rfl ?_
  by_cases hab : a = b
  · subst hab
    rw [isS.inj hw hS hU, if_pos rfl]
    refine x_acmp_ne (tgt := 7) rfl rfl d_String_equals_2 (by decide) (fun ht => absurd rfl ht) (fun _ => ?_)
    refine x_iconst (v := 1) d_String_equals_5 (by decide) ?_
    refine x_zret d_String_equals_6 rfl rfl ?_
    exact ⟨rfl, rfl, rfl, rfl⟩
  · obtain ⟨va, e, ha, hv, hat⟩ := hS
    obtain ⟨vb, e', hb, hvb, hbt⟩ := hU
    refine x_acmp_ne (tgt := 7) rfl rfl d_String_equals_2 (by decide) (fun _ => ?_) (fun hn => absurd hn (by intro z; cases z; exact hab rfl))
    refine x_aload_n d_String_equals_7 rfl rfl ?_
    refine x_instY (k := k_String) rfl xw_682 (Or.inl rfl) hb d_String_equals_8 ?_
    refine x_if_eq (tgt := 54) d_String_equals_11 (by decide) (fun ht => absurd ht (by decide)) (fun _ => ?_)
    refine x_aload_n d_String_equals_14 rfl rfl ?_
    refine x_castY (k := k_String) rfl xw_682 (Or.inl rfl) hb d_String_equals_15 ?_
    refine x_astore_n (L' := [_, _, _]) d_String_equals_18 rfl rfl rfl ?_
    refine x_gets xw_429 (List.mem_of_getElem? (i := 0) rfl) d_String_equals_19 ?_
    refine x_if_eq (tgt := 36) d_String_equals_22 (by decide) (fun ht => absurd ht (by decide)) (fun _ => ?_)
    refine x_aload_n d_String_equals_25 rfl rfl ?_
    refine x_get xf_String_15_String ha rfl d_String_equals_26 ?_
    refine x_aload_n d_String_equals_29 rfl rfl ?_
    refine x_get xf_String_15_String hb rfl d_String_equals_30 ?_
    refine x_icmp_ne (tgt := 54) d_String_equals_33 (by decide) (fun ht => absurd rfl ht) (fun _ => ?_)
    refine x_aload_n d_String_equals_36 rfl rfl ?_
    refine x_get xf_String_9_String ha rfl d_String_equals_37 ?_
    refine x_aload_n d_String_equals_40 rfl rfl ?_
    refine x_get xf_String_9_String hb rfl d_String_equals_41 ?_
    refine x_callS (As := [_, _]) xcs_String_541 (c_SL1_equals hv hvb hat hbt hl hl2) rfl rfl (Nat.le_of_ble_eq_true rfl) d_String_equals_44 ?_
    rintro v h' c' n' ⟨rfl, rfl, rfl, rfl⟩
    by_cases hq : t = u
    · rw [if_pos hq]
      refine x_if_eq (tgt := 54) d_String_equals_47 (by decide) (fun ht => absurd ht (by decide)) (fun _ => ?_)
      refine x_iconst (v := 1) d_String_equals_50 (by decide) ?_
      refine x_goto (tgt := 55) d_String_equals_51 (by decide) ?_
      refine x_zret d_String_equals_55 rfl rfl ?_
      exact ⟨rfl, rfl, rfl, rfl⟩
    · rw [if_neg hq]
      refine x_if_eq (tgt := 54) d_String_equals_47 (by decide) (fun _ => ?_) (fun hn => absurd rfl hn)
      refine x_iconst (v := 0) d_String_equals_54 (by decide) ?_
      refine x_zret d_String_equals_55 rfl rfl ?_
      exact ⟨rfl, rfl, rfl, rfl⟩
end ST2
end
section
section
abbrev y_Arrays_checkLength : MethodName := ⟨"java/util/Arrays", "checkLength", "(II)V"⟩
abbrev M_Arrays_checkLength : XMt := (y_Arrays_checkLength, prog_34_method_131_code, 2, none)
theorem d_Arrays_checkLength_0 : decode M_Arrays_checkLength.2.1 0 = .ok (.iload_n 1, 1) := by decide +kernel
theorem d_Arrays_checkLength_1 : decode M_Arrays_checkLength.2.1 1 = .ok (.iload_n 0, 1) := by decide +kernel
theorem d_Arrays_checkLength_2 : decode M_Arrays_checkLength.2.1 2 = .ok (.if_icmp .ge 35, 3) := by decide +kernel
theorem d_Arrays_checkLength_37 : decode M_Arrays_checkLength.2.1 37 = .ok (.return_, 1) := by decide +kernel
abbrev y_Arrays_copyOfRangeByte : MethodName := ⟨"java/util/Arrays", "copyOfRangeByte", "([BII)[B"⟩
abbrev M_Arrays_copyOfRangeByte : XMt := (y_Arrays_copyOfRangeByte, prog_34_method_133_code, 5, (some (.array .byte)))
theorem d_Arrays_copyOfRangeByte_0 : decode M_Arrays_copyOfRangeByte.2.1 0 = .ok (.iload_n 1, 1) := by decide +kernel
theorem d_Arrays_copyOfRangeByte_1 : decode M_Arrays_copyOfRangeByte.2.1 1 = .ok (.iload_n 2, 1) := by decide +kernel
theorem d_Arrays_copyOfRangeByte_2 : decode M_Arrays_copyOfRangeByte.2.1 2 = .ok (.invokestatic 343, 3) := by decide +kernel
theorem xw_489 : (Jvm.Cond.code ({ cls := "java/util/Arrays", name := "checkLength", desc := "(II)V" } : Jvm.MethodName) prog_34_method_131_code (2 : Nat) (Option.none : Option Jvm.ClassFile.FieldType)) ∈ xT := xT_at 489 (by decide +kernel) (by decide +kernel)
theorem xcb_Arrays_checkLength : xcb M_Arrays_checkLength 2 := ⟨xw_489, xw_11, by decide, by decide, by decide, by decide +kernel⟩
theorem xw_487 : (Jvm.Cond.methodLink "java/util/Arrays" (343 : Nat) ({ cls := "java/util/Arrays", name := "checkLength", desc := "(II)V" } : Jvm.MethodName)) ∈ xT := xT_at 487 (by decide +kernel) (by decide +kernel)
theorem xw_488 : (Jvm.Cond.static ({ cls := "java/util/Arrays", name := "checkLength", desc := "(II)V" } : Jvm.MethodName)) ∈ xT := xT_at 488 (by decide +kernel) (by decide +kernel)
theorem xcs_Arrays_343 : xCS "java/util/Arrays" 343 M_Arrays_checkLength 2 := ⟨xcb_Arrays_checkLength, xw_488, Or.inl xw_487⟩
theorem d_Arrays_copyOfRangeByte_5 : decode M_Arrays_copyOfRangeByte.2.1 5 = .ok (.iload_n 2, 1) := by decide +kernel
theorem d_Arrays_copyOfRangeByte_6 : decode M_Arrays_copyOfRangeByte.2.1 6 = .ok (.iload_n 1, 1) := by decide +kernel
theorem d_Arrays_copyOfRangeByte_7 : decode M_Arrays_copyOfRangeByte.2.1 7 = .ok (.isub, 1) := by decide +kernel
theorem d_Arrays_copyOfRangeByte_8 : decode M_Arrays_copyOfRangeByte.2.1 8 = .ok (.istore_n 3, 1) := by decide +kernel
theorem d_Arrays_copyOfRangeByte_9 : decode M_Arrays_copyOfRangeByte.2.1 9 = .ok (.iload_n 3, 1) := by decide +kernel
theorem d_Arrays_copyOfRangeByte_10 : decode M_Arrays_copyOfRangeByte.2.1 10 = .ok (.newarray .byte, 2) := by decide +kernel
theorem d_Arrays_copyOfRangeByte_12 : decode M_Arrays_copyOfRangeByte.2.1 12 = .ok (.astore 4, 2) := by decide +kernel
theorem d_Arrays_copyOfRangeByte_14 : decode M_Arrays_copyOfRangeByte.2.1 14 = .ok (.aload_n 0, 1) := by decide +kernel
theorem d_Arrays_copyOfRangeByte_15 : decode M_Arrays_copyOfRangeByte.2.1 15 = .ok (.iload_n 1, 1) := by decide +kernel
theorem d_Arrays_copyOfRangeByte_16 : decode M_Arrays_copyOfRangeByte.2.1 16 = .ok (.aload 4, 2) := by decide +kernel
theorem d_Arrays_copyOfRangeByte_18 : decode M_Arrays_copyOfRangeByte.2.1 18 = .ok (.iconst 0, 1) := by decide +kernel
theorem d_Arrays_copyOfRangeByte_19 : decode M_Arrays_copyOfRangeByte.2.1 19 = .ok (.aload_n 0, 1) := by decide +kernel
theorem d_Arrays_copyOfRangeByte_20 : decode M_Arrays_copyOfRangeByte.2.1 20 = .ok (.arraylength, 1) := by decide +kernel
theorem d_Arrays_copyOfRangeByte_21 : decode M_Arrays_copyOfRangeByte.2.1 21 = .ok (.iload_n 1, 1) := by decide +kernel
theorem d_Arrays_copyOfRangeByte_22 : decode M_Arrays_copyOfRangeByte.2.1 22 = .ok (.isub, 1) := by decide +kernel
theorem d_Arrays_copyOfRangeByte_23 : decode M_Arrays_copyOfRangeByte.2.1 23 = .ok (.iload_n 3, 1) := by decide +kernel
theorem d_Arrays_copyOfRangeByte_24 : decode M_Arrays_copyOfRangeByte.2.1 24 = .ok (.invokestatic 304, 3) := by decide +kernel
theorem d_Arrays_copyOfRangeByte_27 : decode M_Arrays_copyOfRangeByte.2.1 27 = .ok (.invokestatic 150, 3) := by decide +kernel
theorem d_Arrays_copyOfRangeByte_30 : decode M_Arrays_copyOfRangeByte.2.1 30 = .ok (.aload 4, 2) := by decide +kernel
theorem d_Arrays_copyOfRangeByte_32 : decode M_Arrays_copyOfRangeByte.2.1 32 = .ok (.areturn, 1) := by decide +kernel
abbrev y_Arrays_copyOfRange : MethodName := ⟨"java/util/Arrays", "copyOfRange", "([BII)[B"⟩
abbrev M_Arrays_copyOfRange : XMt := (y_Arrays_copyOfRange, prog_34_method_132_code, 3, (some (.array .byte)))
theorem d_Arrays_copyOfRange_0 : decode M_Arrays_copyOfRange.2.1 0 = .ok (.iload_n 1, 1) := by decide +kernel
theorem d_Arrays_copyOfRange_1 : decode M_Arrays_copyOfRange.2.1 1 = .ok (.ifCond .ne 9, 3) := by decide +kernel
theorem d_Arrays_copyOfRange_4 : decode M_Arrays_copyOfRange.2.1 4 = .ok (.iload_n 2, 1) := by decide +kernel
theorem d_Arrays_copyOfRange_5 : decode M_Arrays_copyOfRange.2.1 5 = .ok (.aload_n 0, 1) := by decide +kernel
theorem d_Arrays_copyOfRange_6 : decode M_Arrays_copyOfRange.2.1 6 = .ok (.arraylength, 1) := by decide +kernel
theorem d_Arrays_copyOfRange_7 : decode M_Arrays_copyOfRange.2.1 7 = .ok (.if_icmp .eq 10, 3) := by decide +kernel
theorem d_Arrays_copyOfRange_17 : decode M_Arrays_copyOfRange.2.1 17 = .ok (.aload_n 0, 1) := by decide +kernel
theorem d_Arrays_copyOfRange_18 : decode M_Arrays_copyOfRange.2.1 18 = .ok (.invokevirtual 310, 3) := by decide +kernel
theorem xw_208 : (Jvm.Cond.methodLink "java/util/Arrays" (310 : Nat) ({ cls := "[B", name := "clone", desc := "()Ljava/lang/Object;" } : Jvm.MethodName)) ∈ xT := xT_at 208 (by decide +kernel) (by decide +kernel)
theorem xw_209 : (Jvm.Cond.sameMethod "[B" "java/lang/Object" "clone" "()Ljava/lang/Object;") ∈ xT := xT_at 209 (by decide +kernel) (by decide +kernel)
theorem xw_210 : (Jvm.Cond.native ({ cls := "java/lang/Object", name := "clone", desc := "()Ljava/lang/Object;" } : Jvm.MethodName)) ∈ xT := xT_at 210 (by decide +kernel) (by decide +kernel)
theorem xw_211 : (Jvm.Cond.instanceMethod ({ cls := "java/lang/Object", name := "clone", desc := "()Ljava/lang/Object;" } : Jvm.MethodName)) ∈ xT := xT_at 211 (by decide +kernel) (by decide +kernel)
theorem xw_212 : (Jvm.Cond.selects "[B" ({ cls := "[B", name := "clone", desc := "()Ljava/lang/Object;" } : Jvm.MethodName) ({ cls := "java/lang/Object", name := "clone", desc := "()Ljava/lang/Object;" } : Jvm.MethodName)) ∈ xT := xT_at 212 (by decide +kernel) (by decide +kernel)
theorem xw_213 : (Jvm.Cond.castable "[B" "java/lang/Cloneable") ∈ xT := xT_at 213 (by decide +kernel) (by decide +kernel)
theorem d_Arrays_copyOfRange_21 : decode M_Arrays_copyOfRange.2.1 21 = .ok (.checkcast 311, 3) := by decide +kernel
theorem xw_214 : (Jvm.Cond.classLink "java/util/Arrays" (311 : Nat) "[B") ∈ xT := xT_at 214 (by decide +kernel) (by decide +kernel)
theorem d_Arrays_copyOfRange_24 : decode M_Arrays_copyOfRange.2.1 24 = .ok (.areturn, 1) := by decide +kernel
theorem d_Arrays_copyOfRange_10 : decode M_Arrays_copyOfRange.2.1 10 = .ok (.aload_n 0, 1) := by decide +kernel
theorem d_Arrays_copyOfRange_11 : decode M_Arrays_copyOfRange.2.1 11 = .ok (.iload_n 1, 1) := by decide +kernel
theorem d_Arrays_copyOfRange_12 : decode M_Arrays_copyOfRange.2.1 12 = .ok (.iload_n 2, 1) := by decide +kernel
theorem d_Arrays_copyOfRange_13 : decode M_Arrays_copyOfRange.2.1 13 = .ok (.invokestatic 339, 3) := by decide +kernel
theorem xw_486 : (Jvm.Cond.code ({ cls := "java/util/Arrays", name := "copyOfRangeByte", desc := "([BII)[B" } : Jvm.MethodName) prog_34_method_133_code (5 : Nat) (Option.some (Jvm.ClassFile.FieldType.array Jvm.ClassFile.FieldType.byte))) ∈ xT := xT_at 486 (by decide +kernel) (by decide +kernel)
theorem xcb_Arrays_copyOfRangeByte : xcb M_Arrays_copyOfRangeByte 3 := ⟨xw_486, xw_11, by decide, by decide, by decide, by decide +kernel⟩
theorem xw_484 : (Jvm.Cond.methodLink "java/util/Arrays" (339 : Nat) ({ cls := "java/util/Arrays", name := "copyOfRangeByte", desc := "([BII)[B" } : Jvm.MethodName)) ∈ xT := xT_at 484 (by decide +kernel) (by decide +kernel)
theorem xw_485 : (Jvm.Cond.static ({ cls := "java/util/Arrays", name := "copyOfRangeByte", desc := "([BII)[B" } : Jvm.MethodName)) ∈ xT := xT_at 485 (by decide +kernel) (by decide +kernel)
theorem xcs_Arrays_339 : xCS "java/util/Arrays" 339 M_Arrays_copyOfRangeByte 3 := ⟨xcb_Arrays_copyOfRangeByte, xw_485, Or.inl xw_484⟩
theorem d_Arrays_copyOfRange_16 : decode M_Arrays_copyOfRange.2.1 16 = .ok (.areturn, 1) := by decide +kernel
abbrev y_String_init_aBB : MethodName := ⟨"java/lang/String", "<init>", "([BB)V"⟩
abbrev M_String_init_aBB : XMt := (y_String_init_aBB, prog_25_method_151_code, 3, none)
theorem d_String_init_aBB_0 : decode M_String_init_aBB.2.1 0 = .ok (.aload_n 0, 1) := by decide +kernel
theorem d_String_init_aBB_1 : decode M_String_init_aBB.2.1 1 = .ok (.invokespecial 1, 3) := by decide +kernel
theorem xw_473 : (Jvm.Cond.methodLink "java/lang/String" (1 : Nat) ({ cls := "java/lang/Object", name := "<init>", desc := "()V" } : Jvm.MethodName)) ∈ xT := xT_at 473 (by decide +kernel) (by decide +kernel)
theorem xw_40 : (Jvm.Cond.instanceMethod ({ cls := "java/lang/Object", name := "<init>", desc := "()V" } : Jvm.MethodName)) ∈ xT := xT_at 40 (by decide +kernel) (by decide +kernel)
theorem xw_41 : (Jvm.Cond.code ({ cls := "java/lang/Object", name := "<init>", desc := "()V" } : Jvm.MethodName) object_method_1_code (1 : Nat) (Option.none : Option Jvm.ClassFile.FieldType)) ∈ xT := xT_at 41 (by decide +kernel) (by decide +kernel)
theorem d_String_init_aBB_4 : decode M_String_init_aBB.2.1 4 = .ok (.aload_n 0, 1) := by decide +kernel
theorem d_String_init_aBB_5 : decode M_String_init_aBB.2.1 5 = .ok (.aload_n 1, 1) := by decide +kernel
theorem d_String_init_aBB_6 : decode M_String_init_aBB.2.1 6 = .ok (.putfield 9, 3) := by decide +kernel
theorem xp_String_0 : xP k_String 0 true (.array .byte) := ⟨_, _, _, rfl, rfl, by decide +kernel⟩
theorem d_String_init_aBB_9 : decode M_String_init_aBB.2.1 9 = .ok (.aload_n 0, 1) := by decide +kernel
theorem d_String_init_aBB_10 : decode M_String_init_aBB.2.1 10 = .ok (.iload_n 2, 1) := by decide +kernel
theorem d_String_init_aBB_11 : decode M_String_init_aBB.2.1 11 = .ok (.putfield 15, 3) := by decide +kernel
theorem xp_String_1 : xP k_String 1 true .byte := ⟨_, _, _, rfl, rfl, by decide +kernel⟩
theorem d_String_init_aBB_14 : decode M_String_init_aBB.2.1 14 = .ok (.return_, 1) := by decide +kernel
abbrev y_SL1_newString : MethodName := ⟨"java/lang/StringLatin1", "newString", "([BII)Ljava/lang/String;"⟩
abbrev M_SL1_newString : XMt := (y_SL1_newString, prog_27_method_47_code, 3, (some (.object "java/lang/String")))
theorem d_SL1_newString_0 : decode M_SL1_newString.2.1 0 = .ok (.iload_n 2, 1) := by decide +kernel
theorem d_SL1_newString_1 : decode M_SL1_newString.2.1 1 = .ok (.ifCond .ne 6, 3) := by decide +kernel
theorem d_SL1_newString_4 : decode M_SL1_newString.2.1 4 = .ok (.ldc 151, 2) := by decide +kernel
theorem d_SL1_newString_6 : decode M_SL1_newString.2.1 6 = .ok (.areturn, 1) := by decide +kernel
theorem d_SL1_newString_7 : decode M_SL1_newString.2.1 7 = .ok (.new 1, 3) := by decide +kernel
theorem xw_912 : (Jvm.Cond.classLink "java/lang/StringLatin1" (1 : Nat) "java/lang/String") ∈ xT := xT_at 912 (by decide +kernel) (by decide +kernel)
theorem xw_466 : (Jvm.Cond.instantiable "java/lang/String" (4 : Nat)) ∈ xT := xT_at 466 (by decide +kernel) (by decide +kernel)
theorem xnw_SL1_1 : xNw "java/lang/StringLatin1" 1 k_String 4 [.null, .int 0, .int 0, .int 0] := ⟨_, _, _, rfl, rfl, by decide +kernel, xw_912, xw_466, xw_4⟩
theorem d_SL1_newString_10 : decode M_SL1_newString.2.1 10 = .ok (.dup, 1) := by decide +kernel
theorem d_SL1_newString_11 : decode M_SL1_newString.2.1 11 = .ok (.aload_n 0, 1) := by decide +kernel
theorem d_SL1_newString_12 : decode M_SL1_newString.2.1 12 = .ok (.iload_n 1, 1) := by decide +kernel
theorem d_SL1_newString_13 : decode M_SL1_newString.2.1 13 = .ok (.iload_n 1, 1) := by decide +kernel
theorem d_SL1_newString_14 : decode M_SL1_newString.2.1 14 = .ok (.iload_n 2, 1) := by decide +kernel
theorem d_SL1_newString_15 : decode M_SL1_newString.2.1 15 = .ok (.iadd, 1) := by decide +kernel
theorem d_SL1_newString_16 : decode M_SL1_newString.2.1 16 = .ok (.invokestatic 232, 3) := by decide +kernel
theorem xw_483 : (Jvm.Cond.code ({ cls := "java/util/Arrays", name := "copyOfRange", desc := "([BII)[B" } : Jvm.MethodName) prog_34_method_132_code (3 : Nat) (Option.some (Jvm.ClassFile.FieldType.array Jvm.ClassFile.FieldType.byte))) ∈ xT := xT_at 483 (by decide +kernel) (by decide +kernel)
theorem xcb_Arrays_copyOfRange : xcb M_Arrays_copyOfRange 3 := ⟨xw_483, xw_11, by decide, by decide, by decide, by decide +kernel⟩
theorem xw_913 : (Jvm.Cond.methodLink "java/lang/StringLatin1" (232 : Nat) ({ cls := "java/util/Arrays", name := "copyOfRange", desc := "([BII)[B" } : Jvm.MethodName)) ∈ xT := xT_at 913 (by decide +kernel) (by decide +kernel)
theorem xw_482 : (Jvm.Cond.static ({ cls := "java/util/Arrays", name := "copyOfRange", desc := "([BII)[B" } : Jvm.MethodName)) ∈ xT := xT_at 482 (by decide +kernel) (by decide +kernel)
theorem xcs_SL1_232 : xCS "java/lang/StringLatin1" 232 M_Arrays_copyOfRange 3 := ⟨xcb_Arrays_copyOfRange, xw_482, Or.inl xw_913⟩
theorem d_SL1_newString_19 : decode M_SL1_newString.2.1 19 = .ok (.iconst 0, 1) := by decide +kernel
theorem d_SL1_newString_20 : decode M_SL1_newString.2.1 20 = .ok (.invokespecial 112, 3) := by decide +kernel
theorem xw_916 : (Jvm.Cond.code ({ cls := "java/lang/String", name := "<init>", desc := "([BB)V" } : Jvm.MethodName) prog_25_method_151_code (3 : Nat) (Option.none : Option Jvm.ClassFile.FieldType)) ∈ xT := xT_at 916 (by decide +kernel) (by decide +kernel)
theorem xcb_String_init_aBB : xcb M_String_init_aBB 2 := ⟨xw_916, xw_4, by decide, by decide, by decide, by decide +kernel⟩
theorem xw_914 : (Jvm.Cond.methodLink "java/lang/StringLatin1" (112 : Nat) ({ cls := "java/lang/String", name := "<init>", desc := "([BB)V" } : Jvm.MethodName)) ∈ xT := xT_at 914 (by decide +kernel) (by decide +kernel)
theorem xw_915 : (Jvm.Cond.instanceMethod ({ cls := "java/lang/String", name := "<init>", desc := "([BB)V" } : Jvm.MethodName)) ∈ xT := xT_at 915 (by decide +kernel) (by decide +kernel)
theorem xci_SL1_112 : xCI "java/lang/StringLatin1" 112 M_String_init_aBB 2 := ⟨xcb_String_init_aBB, rfl, rfl, xw_915, Or.inl xw_914⟩
theorem d_SL1_newString_23 : decode M_SL1_newString.2.1 23 = .ok (.areturn, 1) := by decide +kernel
abbrev y_Preconditions_checkFromToIndex : MethodName := ⟨"jdk/internal/util/Preconditions", "checkFromToIndex", "(IIILjava/util/function/BiFunction;)I"⟩
abbrev M_Preconditions_checkFromToIndex : XMt := (y_Preconditions_checkFromToIndex, prog_41_method_12_code, 4, (some .int))
theorem d_Preconditions_checkFromToIndex_0 : decode M_Preconditions_checkFromToIndex.2.1 0 = .ok (.iload_n 0, 1) := by decide +kernel
theorem d_Preconditions_checkFromToIndex_1 : decode M_Preconditions_checkFromToIndex.2.1 1 = .ok (.ifCond .lt 13, 3) := by decide +kernel
theorem d_Preconditions_checkFromToIndex_4 : decode M_Preconditions_checkFromToIndex.2.1 4 = .ok (.iload_n 0, 1) := by decide +kernel
theorem d_Preconditions_checkFromToIndex_5 : decode M_Preconditions_checkFromToIndex.2.1 5 = .ok (.iload_n 1, 1) := by decide +kernel
theorem d_Preconditions_checkFromToIndex_6 : decode M_Preconditions_checkFromToIndex.2.1 6 = .ok (.if_icmp .gt 8, 3) := by decide +kernel
theorem d_Preconditions_checkFromToIndex_9 : decode M_Preconditions_checkFromToIndex.2.1 9 = .ok (.iload_n 1, 1) := by decide +kernel
theorem d_Preconditions_checkFromToIndex_10 : decode M_Preconditions_checkFromToIndex.2.1 10 = .ok (.iload_n 2, 1) := by decide +kernel
theorem d_Preconditions_checkFromToIndex_11 : decode M_Preconditions_checkFromToIndex.2.1 11 = .ok (.if_icmp .le 11, 3) := by decide +kernel
theorem d_Preconditions_checkFromToIndex_22 : decode M_Preconditions_checkFromToIndex.2.1 22 = .ok (.iload_n 0, 1) := by decide +kernel
theorem d_Preconditions_checkFromToIndex_23 : decode M_Preconditions_checkFromToIndex.2.1 23 = .ok (.ireturn, 1) := by decide +kernel
abbrev y_String_checkBoundsBeginEnd : MethodName := ⟨"java/lang/String", "checkBoundsBeginEnd", "(III)V"⟩
abbrev M_String_checkBoundsBeginEnd : XMt := (y_String_checkBoundsBeginEnd, prog_25_method_158_code, 3, none)
theorem d_String_checkBoundsBeginEnd_0 : decode M_String_checkBoundsBeginEnd.2.1 0 = .ok (.iload_n 0, 1) := by decide +kernel
theorem d_String_checkBoundsBeginEnd_1 : decode M_String_checkBoundsBeginEnd.2.1 1 = .ok (.iload_n 1, 1) := by decide +kernel
theorem d_String_checkBoundsBeginEnd_2 : decode M_String_checkBoundsBeginEnd.2.1 2 = .ok (.iload_n 2, 1) := by decide +kernel
theorem d_String_checkBoundsBeginEnd_3 : decode M_String_checkBoundsBeginEnd.2.1 3 = .ok (.getstatic 1053, 3) := by decide +kernel
theorem d_String_checkBoundsBeginEnd_6 : decode M_String_checkBoundsBeginEnd.2.1 6 = .ok (.invokestatic 1062, 3) := by decide +kernel
theorem xw_560 : (Jvm.Cond.code ({ cls := "jdk/internal/util/Preconditions", name := "checkFromToIndex", desc := "(IIILjava/util/function/BiFunction;)I" } : Jvm.MethodName) prog_41_method_12_code (4 : Nat) (Option.some Jvm.ClassFile.FieldType.int)) ∈ xT := xT_at 560 (by decide +kernel) (by decide +kernel)
theorem xcb_Preconditions_checkFromToIndex : xcb M_Preconditions_checkFromToIndex 4 := ⟨xw_560, xw_14, by decide, by decide, by decide, by decide +kernel⟩
theorem xw_558 : (Jvm.Cond.methodLink "java/lang/String" (1062 : Nat) ({ cls := "jdk/internal/util/Preconditions", name := "checkFromToIndex", desc := "(IIILjava/util/function/BiFunction;)I" } : Jvm.MethodName)) ∈ xT := xT_at 558 (by decide +kernel) (by decide +kernel)
theorem xw_559 : (Jvm.Cond.static ({ cls := "jdk/internal/util/Preconditions", name := "checkFromToIndex", desc := "(IIILjava/util/function/BiFunction;)I" } : Jvm.MethodName)) ∈ xT := xT_at 559 (by decide +kernel) (by decide +kernel)
theorem xcs_String_1062 : xCS "java/lang/String" 1062 M_Preconditions_checkFromToIndex 4 := ⟨xcb_Preconditions_checkFromToIndex, xw_559, Or.inl xw_558⟩
theorem d_String_checkBoundsBeginEnd_9 : decode M_String_checkBoundsBeginEnd.2.1 9 = .ok (.pop, 1) := by decide +kernel
theorem d_String_checkBoundsBeginEnd_10 : decode M_String_checkBoundsBeginEnd.2.1 10 = .ok (.return_, 1) := by decide +kernel
abbrev y_String_substring : MethodName := ⟨"java/lang/String", "substring", "(II)Ljava/lang/String;"⟩
abbrev M_String_substring : XMt := (y_String_substring, prog_25_method_92_code, 5, (some (.object "java/lang/String")))
theorem d_String_substring_0 : decode M_String_substring.2.1 0 = .ok (.aload_n 0, 1) := by decide +kernel
theorem d_String_substring_1 : decode M_String_substring.2.1 1 = .ok (.invokevirtual 505, 3) := by decide +kernel
theorem xw_424 : (Jvm.Cond.code ({ cls := "java/lang/String", name := "length", desc := "()I" } : Jvm.MethodName) prog_25_method_54_code (1 : Nat) (Option.some Jvm.ClassFile.FieldType.int)) ∈ xT := xT_at 424 (by decide +kernel) (by decide +kernel)
theorem xcb_String_length : xcb M_String_length 0 := ⟨xw_424, xw_4, by decide, by decide, by decide, by decide +kernel⟩
theorem xw_422 : (Jvm.Cond.instanceMethod ({ cls := "java/lang/String", name := "length", desc := "()I" } : Jvm.MethodName)) ∈ xT := xT_at 422 (by decide +kernel) (by decide +kernel)
theorem xw_767 : (Jvm.Cond.methodLink "java/lang/String" (505 : Nat) ({ cls := "java/lang/String", name := "length", desc := "()I" } : Jvm.MethodName)) ∈ xT := xT_at 767 (by decide +kernel) (by decide +kernel)
theorem xw_423 : (Jvm.Cond.selects "java/lang/String" ({ cls := "java/lang/String", name := "length", desc := "()I" } : Jvm.MethodName) ({ cls := "java/lang/String", name := "length", desc := "()I" } : Jvm.MethodName)) ∈ xT := xT_at 423 (by decide +kernel) (by decide +kernel)
theorem xcv_String_505_String : xCV "java/lang/String" 505 "java/lang/String" M_String_length 0 := ⟨xcb_String_length, xw_422, Or.inl ⟨xw_767, Or.inl xw_423⟩⟩
theorem d_String_substring_4 : decode M_String_substring.2.1 4 = .ok (.istore_n 3, 1) := by decide +kernel
theorem d_String_substring_5 : decode M_String_substring.2.1 5 = .ok (.iload_n 1, 1) := by decide +kernel
theorem d_String_substring_6 : decode M_String_substring.2.1 6 = .ok (.iload_n 2, 1) := by decide +kernel
theorem d_String_substring_7 : decode M_String_substring.2.1 7 = .ok (.iload_n 3, 1) := by decide +kernel
theorem d_String_substring_8 : decode M_String_substring.2.1 8 = .ok (.invokestatic 521, 3) := by decide +kernel
theorem xw_557 : (Jvm.Cond.code ({ cls := "java/lang/String", name := "checkBoundsBeginEnd", desc := "(III)V" } : Jvm.MethodName) prog_25_method_158_code (3 : Nat) (Option.none : Option Jvm.ClassFile.FieldType)) ∈ xT := xT_at 557 (by decide +kernel) (by decide +kernel)
theorem xcb_String_checkBoundsBeginEnd : xcb M_String_checkBoundsBeginEnd 3 := ⟨xw_557, xw_4, by decide, by decide, by decide, by decide +kernel⟩
theorem xw_907 : (Jvm.Cond.methodLink "java/lang/String" (521 : Nat) ({ cls := "java/lang/String", name := "checkBoundsBeginEnd", desc := "(III)V" } : Jvm.MethodName)) ∈ xT := xT_at 907 (by decide +kernel) (by decide +kernel)
theorem xw_556 : (Jvm.Cond.static ({ cls := "java/lang/String", name := "checkBoundsBeginEnd", desc := "(III)V" } : Jvm.MethodName)) ∈ xT := xT_at 556 (by decide +kernel) (by decide +kernel)
theorem xcs_String_521 : xCS "java/lang/String" 521 M_String_checkBoundsBeginEnd 3 := ⟨xcb_String_checkBoundsBeginEnd, xw_556, Or.inl xw_907⟩
theorem d_String_substring_22 : decode M_String_substring.2.1 22 = .ok (.iload_n 2, 1) := by decide +kernel
theorem d_String_substring_23 : decode M_String_substring.2.1 23 = .ok (.iload_n 1, 1) := by decide +kernel
theorem d_String_substring_24 : decode M_String_substring.2.1 24 = .ok (.isub, 1) := by decide +kernel
theorem d_String_substring_25 : decode M_String_substring.2.1 25 = .ok (.istore 4, 2) := by decide +kernel
theorem d_String_substring_27 : decode M_String_substring.2.1 27 = .ok (.aload_n 0, 1) := by decide +kernel
theorem d_String_substring_28 : decode M_String_substring.2.1 28 = .ok (.invokevirtual 492, 3) := by decide +kernel
theorem d_String_substring_31 : decode M_String_substring.2.1 31 = .ok (.ifCond .eq 16, 3) := by decide +kernel
theorem d_String_substring_34 : decode M_String_substring.2.1 34 = .ok (.aload_n 0, 1) := by decide +kernel
theorem d_String_substring_35 : decode M_String_substring.2.1 35 = .ok (.getfield 9, 3) := by decide +kernel
theorem d_String_substring_38 : decode M_String_substring.2.1 38 = .ok (.iload_n 1, 1) := by decide +kernel
theorem d_String_substring_39 : decode M_String_substring.2.1 39 = .ok (.iload 4, 2) := by decide +kernel
theorem d_String_substring_41 : decode M_String_substring.2.1 41 = .ok (.invokestatic 685, 3) := by decide +kernel
theorem xw_910 : (Jvm.Cond.code ({ cls := "java/lang/StringLatin1", name := "newString", desc := "([BII)Ljava/lang/String;" } : Jvm.MethodName) prog_27_method_47_code (3 : Nat) (Option.some (Jvm.ClassFile.FieldType.object "java/lang/String"))) ∈ xT := xT_at 910 (by decide +kernel) (by decide +kernel)
theorem xcb_SL1_newString : xcb M_SL1_newString 3 := ⟨xw_910, xw_13, by decide, by decide, by decide, by decide +kernel⟩
theorem xw_908 : (Jvm.Cond.methodLink "java/lang/String" (685 : Nat) ({ cls := "java/lang/StringLatin1", name := "newString", desc := "([BII)Ljava/lang/String;" } : Jvm.MethodName)) ∈ xT := xT_at 908 (by decide +kernel) (by decide +kernel)
theorem xw_909 : (Jvm.Cond.static ({ cls := "java/lang/StringLatin1", name := "newString", desc := "([BII)Ljava/lang/String;" } : Jvm.MethodName)) ∈ xT := xT_at 909 (by decide +kernel) (by decide +kernel)
theorem xcs_String_685 : xCS "java/lang/String" 685 M_SL1_newString 3 := ⟨xcb_SL1_newString, xw_909, Or.inl xw_908⟩
theorem d_String_substring_44 : decode M_String_substring.2.1 44 = .ok (.goto 13, 3) := by decide +kernel
theorem d_String_substring_57 : decode M_String_substring.2.1 57 = .ok (.areturn, 1) := by decide +kernel
theorem d_String_substring_11 : decode M_String_substring.2.1 11 = .ok (.iload_n 1, 1) := by decide +kernel
theorem d_String_substring_12 : decode M_String_substring.2.1 12 = .ok (.ifCond .ne 10, 3) := by decide +kernel
theorem d_String_substring_15 : decode M_String_substring.2.1 15 = .ok (.iload_n 2, 1) := by decide +kernel
theorem d_String_substring_16 : decode M_String_substring.2.1 16 = .ok (.iload_n 3, 1) := by decide +kernel
theorem d_String_substring_17 : decode M_String_substring.2.1 17 = .ok (.if_icmp .ne 5, 3) := by decide +kernel
theorem d_String_substring_20 : decode M_String_substring.2.1 20 = .ok (.aload_n 0, 1) := by decide +kernel
theorem d_String_substring_21 : decode M_String_substring.2.1 21 = .ok (.areturn, 1) := by decide +kernel
end
section ST3
variable {l : Launch} {G : XG} {h : XH} {c n d : Nat}
theorem c_checkLength {b e : Nat} (hbe : b ≤ e) (he : e < 2 ^ 31) : XM l G d M_Arrays_checkLength [.int (nI b), .int (nI e)] h c n (xVoid h c n) := by
  refine XM.of (by decide +kernel) (Nat.le_of_ble_eq_true rfl) ?_
  refine x_iload_n d_Arrays_checkLength_0 rfl ?_
  refine x_iload_n d_Arrays_checkLength_1 rfl ?_
  refine x_icmp_ge (tgt := 37) d_Arrays_checkLength_2 (by decide) (fun _ => ?_) (fun hn => absurd (nI_le hbe he) hn)
  refine x_vret d_Arrays_checkLength_37 rfl ?_
  exact ⟨rfl, rfl, rfl, rfl⟩
theorem xcopy_cut {vs : List Value} {b m : Nat} {z : Value} : xcopy vs (List.replicate m z) b 0 m = (vs.drop b).take m := by
  unfold xcopy
  simp
/-- a stretch of a byte array, as a String's bytes -/
theorem c_copyOfRangeByte (hd : 1 ≤ d) {k0 a b e : Nat} {vs : List Value} (hk0 : xk[k0]? = some (.inr .byte)) (ha : xr G h a k0 vs) (hf : ∀ v ∈ vs, fits .byte v = true) (hbe : b ≤ e) (he : e ≤ vs.length) (hl : vs.length < 2 ^ 20) (hc : c + 1 ≤ xCB) (hn : n + (e - b) ≤ xSB) : XM l G d M_Arrays_copyOfRangeByte [.ref a, .int (nI b), .int (nI e)] h c n (xMade k_asbyte ((vs.drop b).take (e - b)) h c n) := by
  obtain ⟨d, rfl⟩ : ∃ q, d = q + 1 := ⟨d - 1, by omega⟩
  refine XM.of (by decide +kernel) (Nat.le_of_ble_eq_true rfl) ?_
  refine x_iload_n d_Arrays_copyOfRangeByte_0 rfl ?_
  refine x_iload_n d_Arrays_copyOfRangeByte_1 rfl ?_
  refine x_callS (As := [_, _]) xcs_Arrays_343 (c_checkLength hbe (by omega)) rfl rfl (Nat.le_of_ble_eq_true rfl) d_Arrays_copyOfRangeByte_2 ?_
  rintro v h' c' n' ⟨rfl, rfl, rfl, rfl⟩
  refine x_iload_n d_Arrays_copyOfRangeByte_5 rfl ?_
  refine x_iload_n d_Arrays_copyOfRangeByte_6 rfl ?_
  refine x_isub d_Arrays_copyOfRangeByte_7 ?_
  refine x_top (w := .int (nI (e - b))) (by rw [pk_sub hbe]) ?_
  refine x_istore_n (L' := [_, _, _, _, _]) d_Arrays_copyOfRangeByte_8 rfl rfl ?_
  refine x_iload_n d_Arrays_copyOfRangeByte_9 rfl ?_
  refine x_newa (k := k_asbyte) rfl rfl (fun _ hz => by cases hz) xw_74 (nI_pos (by omega)) (nI_clamp (by omega)) (by show (e - b) * 1 ≤ _; omega) hc hn d_Arrays_copyOfRangeByte_10 (fun q hn_q hk_q => ?_)
  refine x_astore (L' := [_, _, _, _, _]) d_Arrays_copyOfRangeByte_12 rfl rfl rfl ?_
  refine x_aload_n d_Arrays_copyOfRangeByte_14 rfl rfl ?_
  refine x_iload_n d_Arrays_copyOfRangeByte_15 rfl ?_
  refine x_aload d_Arrays_copyOfRangeByte_16 rfl rfl ?_
  refine x_iconst (v := 0) d_Arrays_copyOfRangeByte_18 (by decide) ?_
  refine x_aload_n d_Arrays_copyOfRangeByte_19 rfl rfl ?_
  refine x_alen (k := k0) hk0 (xr_up ha hn_q) (v := nI vs.length) rfl d_Arrays_copyOfRangeByte_20 ?_
  refine x_iload_n d_Arrays_copyOfRangeByte_21 rfl ?_
  refine x_isub d_Arrays_copyOfRangeByte_22 ?_
  refine x_top (w := .int (nI (vs.length - b))) (by rw [pk_sub (by omega)]) ?_
  refine x_iload_n d_Arrays_copyOfRangeByte_23 rfl ?_
  refine x_mmin xw_215 xw_216 xw_10 xw_217 (Nat.le_of_ble_eq_true rfl) d_Arrays_copyOfRangeByte_24 ?_
  refine x_top (w := .int (nI (e - b))) (by rw [nI_min (by omega) (by omega), Nat.min_eq_right (by omega)]) ?_
  refine x_copyP (k0 := k0) (k := k_asbyte) hk0 rfl rfl xw_218 xw_220 xw_219 xw_12 (xr_up ha hn_q) xup_self (nI_pos (by omega)) (by decide) (nI_pos (by omega)) (by rw [nI_clamp (by omega), nI_clamp (by omega)]; omega) (by rw [nI_clamp (by omega)]; simp) hf (Nat.le_of_ble_eq_true rfl) d_Arrays_copyOfRangeByte_27 ?_
  refine x_hp (h' := xup h' q (k_asbyte, (vs.drop b).take (e - b))) (by rw [xup_up, nI_clamp (by omega), nI_clamp (by omega)]; exact congrArg (fun z => xup h' q (k_asbyte, z)) xcopy_cut) ?_
  refine x_aload d_Arrays_copyOfRangeByte_30 rfl rfl ?_
  refine x_aret d_Arrays_copyOfRangeByte_32 rfl rfl ?_
  exact ⟨q, rfl, hn_q, rfl, rfl, by simp; omega⟩
theorem c_copyOfRange (hd : 2 ≤ d) {k0 a b e : Nat} {vs : List Value} (hk0 : xk[k0]? = some (.inr .byte)) (ha : xr G h a k0 vs) (hf : ∀ v ∈ vs, fits .byte v = true) (hbe : b ≤ e) (he : e ≤ vs.length) (hl : vs.length < 2 ^ 20) (hc : c + 1 ≤ xCB) (hn : n + (e - b) ≤ xSB) (hcl : b = 0 → e = vs.length → h a = some (k0, vs)) : XM l G d M_Arrays_copyOfRange [.ref a, .int (nI b), .int (nI e)] h c n (xMade k_asbyte ((vs.drop b).take (e - b)) h c n) := by
  obtain ⟨d, rfl⟩ : ∃ q, d = q + 1 := ⟨d - 1, by omega⟩
  refine XM.of (by decide +kernel) (Nat.le_of_ble_eq_true rfl) ?_
  refine x_iload_n d_Arrays_copyOfRange_0 rfl ?_
  by_cases hb : b = 0
  · subst hb
    refine x_if_ne (tgt := 10) d_Arrays_copyOfRange_1 (by decide) (fun ht => absurd rfl ht) (fun _ => ?_)
    refine x_iload_n d_Arrays_copyOfRange_4 rfl ?_
    refine x_aload_n d_Arrays_copyOfRange_5 rfl rfl ?_
    refine x_alen (k := k0) hk0 ha (v := nI vs.length) rfl d_Arrays_copyOfRange_6 ?_
    by_cases hq : e = vs.length
    · refine x_icmp_eq (tgt := 17) d_Arrays_copyOfRange_7 (by decide) (fun _ => ?_) (fun hn => absurd (by rw [hq]) hn)
      refine x_aload_n d_Arrays_copyOfRange_17 rfl rfl ?_
      refine x_clone (k := k0) (k1 := k_asbyte) (ad := "[B") hk0 rfl (fun _ hz => by cases hz) (by decide +kernel) xw_208 xw_209 xw_210 xw_211 xw_212 xw_213 (hcl rfl hq) hf hc (by omega) (Nat.le_of_ble_eq_true rfl) d_Arrays_copyOfRange_18 (fun q hn_q hk_q => ?_)
      refine x_castA (k := k_asbyte) (nm := "[B") rfl (fun _ hz => by cases hz) (by decide +kernel) xw_214 xup_self d_Arrays_copyOfRange_21 ?_
      refine x_aret d_Arrays_copyOfRange_24 rfl rfl ?_
      refine ⟨q, rfl, hn_q, ?_, rfl, by simp; omega⟩
      rw [hq]
      simp
    · refine x_icmp_eq (tgt := 17) d_Arrays_copyOfRange_7 (by decide) (fun ht => absurd ht (by rw [nI_eq (by omega) (by omega)]; exact hq)) (fun _ => ?_)
      refine x_aload_n d_Arrays_copyOfRange_10 rfl rfl ?_
      refine x_iload_n d_Arrays_copyOfRange_11 rfl ?_
      refine x_iload_n d_Arrays_copyOfRange_12 rfl ?_
      refine x_callS (As := [_, _, _]) xcs_Arrays_339 (c_copyOfRangeByte (by omega) hk0 ha hf hbe he hl hc hn) rfl rfl (Nat.le_of_ble_eq_true rfl) d_Arrays_copyOfRange_13 ?_
      rintro v h' c' n' ⟨q, rfl, hq, rfl, rfl, rfl⟩
      refine x_aret d_Arrays_copyOfRange_16 rfl rfl ?_
      exact ⟨q, rfl, hq, rfl, rfl, rfl⟩
  · refine x_if_ne (tgt := 10) d_Arrays_copyOfRange_1 (by decide) (fun _ => ?_) (fun hn => absurd hn (nI_ne0 (by omega) (by omega)))
    refine x_aload_n d_Arrays_copyOfRange_10 rfl rfl ?_
    refine x_iload_n d_Arrays_copyOfRange_11 rfl ?_
    refine x_iload_n d_Arrays_copyOfRange_12 rfl ?_
    refine x_callS (As := [_, _, _]) xcs_Arrays_339 (c_copyOfRangeByte (by omega) hk0 ha hf hbe he hl hc hn) rfl rfl (Nat.le_of_ble_eq_true rfl) d_Arrays_copyOfRange_13 ?_
    rintro v h' c' n' ⟨q, rfl, hq, rfl, rfl, rfl⟩
    refine x_aret d_Arrays_copyOfRange_16 rfl rfl ?_
    exact ⟨q, rfl, hq, rfl, rfl, rfl⟩
/-- a String's birth -/
theorem c_String_init_aBB (hd : 1 ≤ d) {a q : Nat} {y z : Value} (ha : h a = some (k_String, [.null, .int 0, y, z])) : XM l G d M_String_init_aBB [.ref a, .ref q, .int 0] h c n (fun v h' c' n' => v = none ∧ h' = xup h a (k_String, [.ref q, .int 0, y, z]) ∧ c' = c ∧ n' = n) := by
  obtain ⟨d, rfl⟩ : ∃ q, d = q + 1 := ⟨d - 1, by omega⟩
  refine XM.of (by decide +kernel) (Nat.le_of_ble_eq_true rfl) ?_
  refine x_aload_n d_String_init_aBB_0 rfl rfl ?_
  refine x_objInit xw_473 xw_40 xw_41 (Nat.le_of_ble_eq_true rfl) d_String_init_aBB_1 ?_
  refine x_aload_n d_String_init_aBB_4 rfl rfl ?_
  refine x_aload_n d_String_init_aBB_5 rfl rfl ?_
  refine x_putF xf_String_9_String xp_String_0 ⟨_, _, _, rfl, rfl, xw_633⟩ rfl rfl rfl ha rfl rfl d_String_init_aBB_6 ?_
  refine x_aload_n d_String_init_aBB_9 rfl rfl ?_
  refine x_iload_n d_String_init_aBB_10 rfl ?_
  refine x_putF xf_String_15_String xp_String_1 ⟨_, _, _, rfl, rfl, xw_634⟩ rfl rfl rfl xup_self rfl rfl d_String_init_aBB_11 ?_
  refine x_vret d_String_init_aBB_14 rfl ?_
  exact ⟨rfl, by rw [xup_up]; rfl, rfl, rfl⟩
theorem xby_cut {t : List Nat} {b m : Nat} : ((xby t).drop b).take m = xby ((t.drop b).take m) := by
  unfold xby
  rw [List.map_take, List.map_drop]
theorem xasc_cut {t : List Nat} {b m : Nat} (ht : xasc t) : xasc ((t.drop b).take m) := fun ch hch => ht ch (List.mem_of_mem_drop (List.mem_of_mem_take hch))
/-- an end that is a String of its own, or one that was there -/
abbrev pS (G : XG) (t : List Nat) (h : XH) (c n : Nat) : Option Value → XH → Nat → Nat → Prop := fun v h' c' n' => ∃ q, v = some (.ref q) ∧ isS G h' q t ∧ xfr h h' [] ∧ c' ≤ c + 2 ∧ n' ≤ n + t.length + 4
theorem c_SL1_newString (hG : xGk G) (hd : 3 ≤ d) {a b m : Nat} {t : List Nat} (ha : xr G h a k_asbyte (xby t)) (ht : xasc t) (hm : b + m ≤ t.length) (hl : t.length < 2 ^ 20) (hc : c + 2 ≤ xCB) (hn : n + m + 4 ≤ xSB) (hcl : b = 0 → m = t.length → h a = some (k_asbyte, xby t)) : XM l G d M_SL1_newString [.ref a, .int (nI b), .int (nI m)] h c n (pS G ((t.drop b).take m) h c n) := by
  obtain ⟨d, rfl⟩ : ∃ q, d = q + 1 := ⟨d - 1, by omega⟩
  refine XM.of (by decide +kernel) (Nat.le_of_ble_eq_true rfl) ?_
  refine x_iload_n d_SL1_newString_0 rfl ?_
  have hlen : ((t.drop b).take m).length = m := by simp; omega
  by_cases hm0 : m = 0
  · subst hm0
    refine x_if_ne (tgt := 7) d_SL1_newString_1 (by decide) (fun ht => absurd rfl ht) (fun _ => ?_)
    refine x_ldcS (i := 17) (tx := "") (by decide +kernel) d_SL1_newString_4 ?_
    refine x_aret d_SL1_newString_6 rfl rfl ?_
    exact ⟨_, rfl, by rw [List.take_zero]; exact hG.str (i := 17) (by decide), xfr.rf, by omega, by omega⟩
  · refine x_if_ne (tgt := 7) d_SL1_newString_1 (by decide) (fun _ => ?_) (fun hn => absurd hn (nI_ne0 (by omega) (by omega)))
    refine x_new xnw_SL1_1 (by omega) (by omega) d_SL1_newString_7 (fun p hn_p hk_p => ?_)
    refine x_dup d_SL1_newString_10 rfl ?_
    refine x_aload_n d_SL1_newString_11 rfl rfl ?_
    refine x_iload_n d_SL1_newString_12 rfl ?_
    refine x_iload_n d_SL1_newString_13 rfl ?_
    refine x_iload_n d_SL1_newString_14 rfl ?_
    refine x_iadd d_SL1_newString_15 ?_
    refine x_top (w := .int (nI (b + m))) (by rw [nI_add]) ?_
    refine x_callS (As := [_, _, _]) xcs_SL1_232 (c_copyOfRange (by omega) (k0 := k_asbyte) rfl (xr_up ha hn_p) (xby_fit ht) (Nat.le_add_right b m) (by rw [xby_len]; omega) (by rw [xby_len]; omega) (by omega) (by omega) (fun z1 z2 => xup_old (hcl z1 (by rw [xby_len] at z2; omega)) hn_p)) rfl rfl (Nat.le_of_ble_eq_true rfl) d_SL1_newString_16 ?_
    rintro v h' c' n' ⟨q, rfl, hq, rfl, rfl, rfl⟩
    have hpq : p ≠ q := fun z => by rw [← z, xup_self] at hq; cases hq
    have hq0 : h q = none := by rw [xup_ne (Ne.symm hpq)] at hq; exact hq
    refine x_iconst (v := 0) d_SL1_newString_19 (by decide) ?_
    refine x_callI (As := [_, _]) xci_SL1_112 (c_String_init_aBB (by omega) (by rw [xup_ne hpq]; exact xup_self)) rfl rfl (Nat.le_of_ble_eq_true rfl) d_SL1_newString_20 ?_
    rintro v h' c' n' ⟨rfl, rfl, rfl, rfl⟩
    refine x_aret d_SL1_newString_23 rfl rfl ?_
    refine ⟨p, rfl, ⟨q, _, Or.inl xup_self, Or.inl (by rw [xup_ne (Ne.symm hpq), xup_self, Nat.add_sub_cancel_left, xby_cut]), xasc_cut ht⟩, ((xfr.rf.up (Or.inr hn_p)).up (Or.inr hq0)).up (Or.inr hn_p), by omega, ?_⟩
    simp
    omega
theorem c_checkFromTo {b e m : Nat} {w : Value} (hw : xisr w = true) (hbe : b ≤ e) (he : e ≤ m) (hm : m < 2 ^ 31) : XM l G d M_Preconditions_checkFromToIndex [.int (nI b), .int (nI e), .int (nI m), w] h c n (xSame (.int (nI b)) h c n) := by
  rcases xisr_or hw with rfl | ⟨a, rfl⟩
  · refine XM.of (by decide +kernel) (Nat.le_of_ble_eq_true rfl) ?_
    refine x_iload_n d_Preconditions_checkFromToIndex_0 rfl ?_
    refine x_if_lt (tgt := 14) d_Preconditions_checkFromToIndex_1 (by decide) (fun ht => absurd ht (nI_pos (by omega))) (fun _ => ?_)
    refine x_iload_n d_Preconditions_checkFromToIndex_4 rfl ?_
    refine x_iload_n d_Preconditions_checkFromToIndex_5 rfl ?_
    refine x_icmp_gt (tgt := 14) d_Preconditions_checkFromToIndex_6 (by decide) (fun ht => absurd ht (nI_nlt hbe (by omega))) (fun _ => ?_)
    refine x_iload_n d_Preconditions_checkFromToIndex_9 rfl ?_
    refine x_iload_n d_Preconditions_checkFromToIndex_10 rfl ?_
    refine x_icmp_le (tgt := 22) d_Preconditions_checkFromToIndex_11 (by decide) (fun _ => ?_) (fun hn => absurd (nI_le he hm) hn)
    refine x_iload_n d_Preconditions_checkFromToIndex_22 rfl ?_
    refine x_iret d_Preconditions_checkFromToIndex_23 rfl ?_
    exact ⟨rfl, rfl, rfl, rfl⟩
  · refine XM.of (by decide +kernel) (Nat.le_of_ble_eq_true rfl) ?_
    refine x_iload_n d_Preconditions_checkFromToIndex_0 rfl ?_
    refine x_if_lt (tgt := 14) d_Preconditions_checkFromToIndex_1 (by decide) (fun ht => absurd ht (nI_pos (by omega))) (fun _ => ?_)
    refine x_iload_n d_Preconditions_checkFromToIndex_4 rfl ?_
    refine x_iload_n d_Preconditions_checkFromToIndex_5 rfl ?_
    refine x_icmp_gt (tgt := 14) d_Preconditions_checkFromToIndex_6 (by decide) (fun ht => absurd ht (nI_nlt hbe (by omega))) (fun _ => ?_)
    refine x_iload_n d_Preconditions_checkFromToIndex_9 rfl ?_
    refine x_iload_n d_Preconditions_checkFromToIndex_10 rfl ?_
    refine x_icmp_le (tgt := 22) d_Preconditions_checkFromToIndex_11 (by decide) (fun _ => ?_) (fun hn => absurd (nI_le he hm) hn)
    refine x_iload_n d_Preconditions_checkFromToIndex_22 rfl ?_
    refine x_iret d_Preconditions_checkFromToIndex_23 rfl ?_
    exact ⟨rfl, rfl, rfl, rfl⟩
theorem c_checkBounds (hG : xGk G) (hd : 1 ≤ d) {b e m : Nat} (hbe : b ≤ e) (he : e ≤ m) (hm : m < 2 ^ 31) : XM l G d M_String_checkBoundsBeginEnd [.int (nI b), .int (nI e), .int (nI m)] h c n (xVoid h c n) := by
  obtain ⟨d, rfl⟩ : ∃ q, d = q + 1 := ⟨d - 1, by omega⟩
  refine XM.of (by decide +kernel) (Nat.le_of_ble_eq_true rfl) ?_
  refine x_iload_n d_String_checkBoundsBeginEnd_0 rfl ?_
  refine x_iload_n d_String_checkBoundsBeginEnd_1 rfl ?_
  refine x_iload_n d_String_checkBoundsBeginEnd_2 rfl ?_
  refine x_gets xw_248 (List.mem_of_getElem? (i := 5) rfl) d_String_checkBoundsBeginEnd_3 ?_
  refine x_callS (As := [_, _, _, _]) xcs_String_1062 (c_checkFromTo (hG.1 0) hbe he hm) rfl rfl (Nat.le_of_ble_eq_true rfl) d_String_checkBoundsBeginEnd_6 ?_
  rintro v h' c' n' ⟨rfl, rfl, rfl, rfl⟩
  refine x_pop d_String_checkBoundsBeginEnd_9 rfl ?_
  refine x_vret d_String_checkBoundsBeginEnd_10 rfl ?_
  exact ⟨rfl, rfl, rfl, rfl⟩
theorem c_substring (hG : xGk G) (hd : 4 ≤ d) {a b e : Nat} {t : List Nat} (hS : isS G h a t) (hbe : b ≤ e) (he : e ≤ t.length) (hl : t.length < 2 ^ 20) (hc : c + 2 ≤ xCB) (hn : n + (e - b) + 4 ≤ xSB) : XM l G d M_String_substring [.ref a, .int (nI b), .int (nI e)] h c n (pS G ((t.drop b).take (e - b)) h c n) := by
  obtain ⟨d, rfl⟩ : ∃ q, d = q + 1 := ⟨d - 1, by omega⟩
  refine XM.of (by decide +kernel) (Nat.le_of_ble_eq_true rfl) ?_
  obtain ⟨va, x, ha, hv, hat⟩ := id hS
  refine x_aload_n d_String_substring_0 rfl rfl ?_
  refine x_callV (As := []) (k := k_String) rfl xcv_String_505_String ha (c_String_length (by omega) hS) rfl rfl (Nat.le_of_ble_eq_true rfl) d_String_substring_1 ?_
  rintro v h' c' n' ⟨rfl, rfl, rfl, rfl⟩
  refine x_istore_n (L' := [_, _, _, _, _]) d_String_substring_4 rfl rfl ?_
  refine x_iload_n d_String_substring_5 rfl ?_
  refine x_iload_n d_String_substring_6 rfl ?_
  refine x_iload_n d_String_substring_7 rfl ?_
  refine x_callS (As := [_, _, _]) xcs_String_521 (c_checkBounds hG (by omega) hbe he (by omega)) rfl rfl (Nat.le_of_ble_eq_true rfl) d_String_substring_8 ?_
  rintro v h' c' n' ⟨rfl, rfl, rfl, rfl⟩
  have go : ¬ (b = 0 ∧ e = t.length) → XW l G M_String_substring (d + 1) 22 [some (.ref a), some (.int (nI b)), some (.int (nI e)), some (.int (nI t.length)), none] [] h' c' n' (pS G ((t.drop b).take (e - b)) h' c' n') := by
    intro hnw
    refine x_iload_n d_String_substring_22 rfl ?_
    refine x_iload_n d_String_substring_23 rfl ?_
    refine x_isub d_String_substring_24 ?_
    refine x_top (w := .int (nI (e - b))) (by rw [pk_sub hbe]) ?_
    refine x_istore (L' := [_, _, _, _, _]) d_String_substring_25 rfl rfl ?_
    refine x_aload_n d_String_substring_27 rfl rfl ?_
    refine x_callV (As := []) (k := k_String) rfl xcv_String_492_String ha (c_String_isLatin1 ha) rfl rfl (Nat.le_of_ble_eq_true rfl) d_String_substring_28 ?_
    rintro v h' c' n' ⟨rfl, rfl, rfl, rfl⟩
    refine x_if_eq (tgt := 47) d_String_substring_31 (by decide) (fun ht => absurd ht (by decide)) (fun _ => ?_)
    refine x_aload_n d_String_substring_34 rfl rfl ?_
    refine x_get xf_String_9_String ha rfl d_String_substring_35 ?_
    refine x_iload_n d_String_substring_38 rfl ?_
    refine x_iload d_String_substring_39 rfl ?_
    refine x_callS (As := [_, _, _]) xcs_String_685 (c_SL1_newString hG (by omega) hv hat (b := b) (m := e - b) (by omega) hl hc hn (fun z1 z2 => absurd ⟨z1, by omega⟩ hnw)) rfl rfl (Nat.le_of_ble_eq_true rfl) d_String_substring_41 ?_
    rintro v h' c' n' ⟨q, rfl, h1, h2, h3, h4⟩
    refine x_goto (tgt := 57) d_String_substring_44 (by decide) ?_
    refine x_aret d_String_substring_57 rfl rfl ?_
    exact ⟨q, rfl, h1, h2, h3, h4⟩
  refine x_iload_n d_String_substring_11 rfl ?_
  by_cases hb : b = 0
  · subst hb
    refine x_if_ne (tgt := 22) d_String_substring_12 (by decide) (fun ht => absurd rfl ht) (fun _ => ?_)
    refine x_iload_n d_String_substring_15 rfl ?_
    refine x_iload_n d_String_substring_16 rfl ?_
    by_cases hq : e = t.length
    · refine x_icmp_ne (tgt := 22) d_String_substring_17 (by decide) (fun ht => absurd (by rw [hq]) ht) (fun _ => ?_)
      refine x_aload_n d_String_substring_20 rfl rfl ?_
      refine x_aret d_String_substring_21 rfl rfl ?_
      exact ⟨a, rfl, by rw [hq]; simpa using hS, xfr.rf, by omega, by omega⟩
    · refine x_icmp_ne (tgt := 22) d_String_substring_17 (by decide) (fun _ => ?_) (fun hn => absurd hn (by rw [nI_eq (by omega) (by omega)]; exact hq))
      exact go (fun z => hq z.2)
  · refine x_if_ne (tgt := 22) d_String_substring_12 (by decide) (fun _ => ?_) (fun hn => absurd hn (nI_ne0 (by omega) (by omega)))
    exact go (fun z => hb z.1)
end ST3
end
section
section
abbrev y_ASB_init : MethodName := ⟨"java/lang/AbstractStringBuilder", "<init>", "(I)V"⟩
abbrev M_ASB_init : XMt := (y_ASB_init, prog_15_method_2_code, 2, none)
theorem d_ASB_init_0 : decode M_ASB_init.2.1 0 = .ok (.aload_n 0, 1) := by decide +kernel
theorem d_ASB_init_1 : decode M_ASB_init.2.1 1 = .ok (.invokespecial 3, 3) := by decide +kernel
theorem xw_50 : (Jvm.Cond.methodLink "java/lang/AbstractStringBuilder" (3 : Nat) ({ cls := "java/lang/Object", name := "<init>", desc := "()V" } : Jvm.MethodName)) ∈ xT := xT_at 50 (by decide +kernel) (by decide +kernel)
theorem d_ASB_init_4 : decode M_ASB_init.2.1 4 = .ok (.getstatic 18, 3) := by decide +kernel
theorem d_ASB_init_7 : decode M_ASB_init.2.1 7 = .ok (.ifCond .eq 18, 3) := by decide +kernel
theorem d_ASB_init_10 : decode M_ASB_init.2.1 10 = .ok (.aload_n 0, 1) := by decide +kernel
theorem d_ASB_init_11 : decode M_ASB_init.2.1 11 = .ok (.iload_n 1, 1) := by decide +kernel
theorem d_ASB_init_12 : decode M_ASB_init.2.1 12 = .ok (.newarray .byte, 2) := by decide +kernel
theorem d_ASB_init_14 : decode M_ASB_init.2.1 14 = .ok (.putfield 15, 3) := by decide +kernel
theorem d_ASB_init_17 : decode M_ASB_init.2.1 17 = .ok (.aload_n 0, 1) := by decide +kernel
theorem d_ASB_init_18 : decode M_ASB_init.2.1 18 = .ok (.iconst 0, 1) := by decide +kernel
theorem d_ASB_init_19 : decode M_ASB_init.2.1 19 = .ok (.putfield 22, 3) := by decide +kernel
theorem xp_SB_1 : xP k_StringBuilder 1 false .byte := ⟨_, _, _, rfl, rfl, by decide +kernel⟩
theorem d_ASB_init_22 : decode M_ASB_init.2.1 22 = .ok (.goto 16, 3) := by decide +kernel
theorem d_ASB_init_38 : decode M_ASB_init.2.1 38 = .ok (.return_, 1) := by decide +kernel
abbrev y_SB_init : MethodName := ⟨"java/lang/StringBuilder", "<init>", "()V"⟩
abbrev M_SB_init : XMt := (y_SB_init, prog_26_method_1_code, 1, none)
theorem d_SB_init_0 : decode M_SB_init.2.1 0 = .ok (.aload_n 0, 1) := by decide +kernel
theorem d_SB_init_1 : decode M_SB_init.2.1 1 = .ok (.bipush 16, 2) := by decide +kernel
theorem d_SB_init_3 : decode M_SB_init.2.1 3 = .ok (.invokespecial 1, 3) := by decide +kernel
theorem xw_49 : (Jvm.Cond.code ({ cls := "java/lang/AbstractStringBuilder", name := "<init>", desc := "(I)V" } : Jvm.MethodName) prog_15_method_2_code (2 : Nat) (Option.none : Option Jvm.ClassFile.FieldType)) ∈ xT := xT_at 49 (by decide +kernel) (by decide +kernel)
theorem xcb_ASB_init : xcb M_ASB_init 1 := ⟨xw_49, xw_2, by decide, by decide, by decide, by decide +kernel⟩
theorem xw_47 : (Jvm.Cond.methodLink "java/lang/StringBuilder" (1 : Nat) ({ cls := "java/lang/AbstractStringBuilder", name := "<init>", desc := "(I)V" } : Jvm.MethodName)) ∈ xT := xT_at 47 (by decide +kernel) (by decide +kernel)
theorem xw_48 : (Jvm.Cond.instanceMethod ({ cls := "java/lang/AbstractStringBuilder", name := "<init>", desc := "(I)V" } : Jvm.MethodName)) ∈ xT := xT_at 48 (by decide +kernel) (by decide +kernel)
theorem xci_SB_1 : xCI "java/lang/StringBuilder" 1 M_ASB_init 1 := ⟨xcb_ASB_init, rfl, rfl, xw_48, Or.inl xw_47⟩
theorem d_SB_init_6 : decode M_SB_init.2.1 6 = .ok (.return_, 1) := by decide +kernel
abbrev y_ASB_getValue : MethodName := ⟨"java/lang/AbstractStringBuilder", "getValue", "()[B"⟩
abbrev M_ASB_getValue : XMt := (y_ASB_getValue, prog_15_method_64_code, 1, (some (.array .byte)))
theorem d_ASB_getValue_0 : decode M_ASB_getValue.2.1 0 = .ok (.aload_n 0, 1) := by decide +kernel
theorem d_ASB_getValue_1 : decode M_ASB_getValue.2.1 1 = .ok (.getfield 15, 3) := by decide +kernel
theorem d_ASB_getValue_4 : decode M_ASB_getValue.2.1 4 = .ok (.areturn, 1) := by decide +kernel
abbrev y_String_init_AbstractStringBuilderVoid : MethodName := ⟨"java/lang/String", "<init>", "(Ljava/lang/AbstractStringBuilder;Ljava/lang/Void;)V"⟩
abbrev M_String_init_AbstractStringBuilderVoid : XMt := (y_String_init_AbstractStringBuilderVoid, prog_25_method_150_code, 5, none)
theorem d_String_init_AbstractStringBuilderVoid_0 : decode M_String_init_AbstractStringBuilderVoid.2.1 0 = .ok (.aload_n 0, 1) := by decide +kernel
theorem d_String_init_AbstractStringBuilderVoid_1 : decode M_String_init_AbstractStringBuilderVoid.2.1 1 = .ok (.invokespecial 1, 3) := by decide +kernel
theorem d_String_init_AbstractStringBuilderVoid_4 : decode M_String_init_AbstractStringBuilderVoid.2.1 4 = .ok (.aload_n 1, 1) := by decide +kernel
theorem d_String_init_AbstractStringBuilderVoid_5 : decode M_String_init_AbstractStringBuilderVoid.2.1 5 = .ok (.invokevirtual 552, 3) := by decide +kernel
theorem xw_478 : (Jvm.Cond.code ({ cls := "java/lang/AbstractStringBuilder", name := "getValue", desc := "()[B" } : Jvm.MethodName) prog_15_method_64_code (1 : Nat) (Option.some (Jvm.ClassFile.FieldType.array Jvm.ClassFile.FieldType.byte))) ∈ xT := xT_at 478 (by decide +kernel) (by decide +kernel)
theorem xcb_ASB_getValue : xcb M_ASB_getValue 0 := ⟨xw_478, xw_2, by decide, by decide, by decide, by decide +kernel⟩
theorem xw_475 : (Jvm.Cond.instanceMethod ({ cls := "java/lang/AbstractStringBuilder", name := "getValue", desc := "()[B" } : Jvm.MethodName)) ∈ xT := xT_at 475 (by decide +kernel) (by decide +kernel)
theorem xw_474 : (Jvm.Cond.methodLink "java/lang/String" (552 : Nat) ({ cls := "java/lang/AbstractStringBuilder", name := "getValue", desc := "()[B" } : Jvm.MethodName)) ∈ xT := xT_at 474 (by decide +kernel) (by decide +kernel)
theorem xw_477 : (Jvm.Cond.selects "java/lang/StringBuilder" ({ cls := "java/lang/AbstractStringBuilder", name := "getValue", desc := "()[B" } : Jvm.MethodName) ({ cls := "java/lang/AbstractStringBuilder", name := "getValue", desc := "()[B" } : Jvm.MethodName)) ∈ xT := xT_at 477 (by decide +kernel) (by decide +kernel)
theorem xcv_String_552_SB : xCV "java/lang/String" 552 "java/lang/StringBuilder" M_ASB_getValue 0 := ⟨xcb_ASB_getValue, xw_475, Or.inl ⟨xw_474, Or.inl xw_477⟩⟩
theorem d_String_init_AbstractStringBuilderVoid_8 : decode M_String_init_AbstractStringBuilderVoid.2.1 8 = .ok (.astore_n 3, 1) := by decide +kernel
theorem d_String_init_AbstractStringBuilderVoid_9 : decode M_String_init_AbstractStringBuilderVoid.2.1 9 = .ok (.aload_n 1, 1) := by decide +kernel
theorem d_String_init_AbstractStringBuilderVoid_10 : decode M_String_init_AbstractStringBuilderVoid.2.1 10 = .ok (.invokevirtual 549, 3) := by decide +kernel
theorem xw_175 : (Jvm.Cond.code ({ cls := "java/lang/StringBuilder", name := "length", desc := "()I" } : Jvm.MethodName) prog_26_method_93_code (1 : Nat) (Option.some Jvm.ClassFile.FieldType.int)) ∈ xT := xT_at 175 (by decide +kernel) (by decide +kernel)
theorem xw_3 : (Jvm.Cond.initialized "java/lang/StringBuilder") ∈ xT := xT_at 3 (by decide +kernel) (by decide +kernel)
theorem xcb_SB_length : xcb M_SB_length 0 := ⟨xw_175, xw_3, by decide, by decide, by decide, by decide +kernel⟩
theorem xw_173 : (Jvm.Cond.instanceMethod ({ cls := "java/lang/StringBuilder", name := "length", desc := "()I" } : Jvm.MethodName)) ∈ xT := xT_at 173 (by decide +kernel) (by decide +kernel)
theorem xw_479 : (Jvm.Cond.methodLink "java/lang/String" (549 : Nat) ({ cls := "java/lang/AbstractStringBuilder", name := "length", desc := "()I" } : Jvm.MethodName)) ∈ xT := xT_at 479 (by decide +kernel) (by decide +kernel)
theorem xw_1610 : (Jvm.Cond.selects "java/lang/StringBuilder" ({ cls := "java/lang/AbstractStringBuilder", name := "length", desc := "()I" } : Jvm.MethodName) ({ cls := "java/lang/StringBuilder", name := "length", desc := "()I" } : Jvm.MethodName)) ∈ xT := xT_at 1610 (by decide +kernel) (by decide +kernel)
theorem xcv_String_549_SB : xCV "java/lang/String" 549 "java/lang/StringBuilder" M_SB_length 0 := ⟨xcb_SB_length, xw_173, Or.inr (Or.inr ⟨⟨"java/lang/AbstractStringBuilder", "length", "()I"⟩, "java/lang/AbstractStringBuilder", xw_479, xw_1605, xw_1610, rfl, ⟨by decide, by decide⟩, Or.inr ⟨xw_177, _, _, _, xw_178⟩⟩)⟩
theorem d_String_init_AbstractStringBuilderVoid_13 : decode M_String_init_AbstractStringBuilderVoid.2.1 13 = .ok (.istore 4, 2) := by decide +kernel
theorem d_String_init_AbstractStringBuilderVoid_15 : decode M_String_init_AbstractStringBuilderVoid.2.1 15 = .ok (.aload_n 1, 1) := by decide +kernel
theorem d_String_init_AbstractStringBuilderVoid_16 : decode M_String_init_AbstractStringBuilderVoid.2.1 16 = .ok (.invokevirtual 1047, 3) := by decide +kernel
theorem xw_480 : (Jvm.Cond.methodLink "java/lang/String" (1047 : Nat) ({ cls := "java/lang/AbstractStringBuilder", name := "isLatin1", desc := "()Z" } : Jvm.MethodName)) ∈ xT := xT_at 480 (by decide +kernel) (by decide +kernel)
theorem xcv_String_1047_SB : xCV "java/lang/String" 1047 "java/lang/StringBuilder" M_ASB_isLatin1 0 := ⟨xcb_ASB_isLatin1, xw_222, Or.inl ⟨xw_480, Or.inl xw_224⟩⟩
theorem d_String_init_AbstractStringBuilderVoid_19 : decode M_String_init_AbstractStringBuilderVoid.2.1 19 = .ok (.ifCond .eq 22, 3) := by decide +kernel
theorem d_String_init_AbstractStringBuilderVoid_22 : decode M_String_init_AbstractStringBuilderVoid.2.1 22 = .ok (.aload_n 0, 1) := by decide +kernel
theorem d_String_init_AbstractStringBuilderVoid_23 : decode M_String_init_AbstractStringBuilderVoid.2.1 23 = .ok (.iconst 0, 1) := by decide +kernel
theorem d_String_init_AbstractStringBuilderVoid_24 : decode M_String_init_AbstractStringBuilderVoid.2.1 24 = .ok (.putfield 15, 3) := by decide +kernel
theorem d_String_init_AbstractStringBuilderVoid_27 : decode M_String_init_AbstractStringBuilderVoid.2.1 27 = .ok (.aload_n 0, 1) := by decide +kernel
theorem d_String_init_AbstractStringBuilderVoid_28 : decode M_String_init_AbstractStringBuilderVoid.2.1 28 = .ok (.aload_n 3, 1) := by decide +kernel
theorem d_String_init_AbstractStringBuilderVoid_29 : decode M_String_init_AbstractStringBuilderVoid.2.1 29 = .ok (.iconst 0, 1) := by decide +kernel
theorem d_String_init_AbstractStringBuilderVoid_30 : decode M_String_init_AbstractStringBuilderVoid.2.1 30 = .ok (.iload 4, 2) := by decide +kernel
theorem d_String_init_AbstractStringBuilderVoid_32 : decode M_String_init_AbstractStringBuilderVoid.2.1 32 = .ok (.invokestatic 54, 3) := by decide +kernel
theorem xw_481 : (Jvm.Cond.methodLink "java/lang/String" (54 : Nat) ({ cls := "java/util/Arrays", name := "copyOfRange", desc := "([BII)[B" } : Jvm.MethodName)) ∈ xT := xT_at 481 (by decide +kernel) (by decide +kernel)
theorem xcs_String_54 : xCS "java/lang/String" 54 M_Arrays_copyOfRange 3 := ⟨xcb_Arrays_copyOfRange, xw_482, Or.inl xw_481⟩
theorem d_String_init_AbstractStringBuilderVoid_35 : decode M_String_init_AbstractStringBuilderVoid.2.1 35 = .ok (.putfield 9, 3) := by decide +kernel
theorem d_String_init_AbstractStringBuilderVoid_38 : decode M_String_init_AbstractStringBuilderVoid.2.1 38 = .ok (.goto 59, 3) := by decide +kernel
theorem d_String_init_AbstractStringBuilderVoid_97 : decode M_String_init_AbstractStringBuilderVoid.2.1 97 = .ok (.return_, 1) := by decide +kernel
abbrev y_String_init_StringBuilder : MethodName := ⟨"java/lang/String", "<init>", "(Ljava/lang/StringBuilder;)V"⟩
abbrev M_String_init_StringBuilder : XMt := (y_String_init_StringBuilder, prog_25_method_53_code, 2, none)
theorem d_String_init_StringBuilder_0 : decode M_String_init_StringBuilder.2.1 0 = .ok (.aload_n 0, 1) := by decide +kernel
theorem d_String_init_StringBuilder_1 : decode M_String_init_StringBuilder.2.1 1 = .ok (.aload_n 1, 1) := by decide +kernel
theorem d_String_init_StringBuilder_2 : decode M_String_init_StringBuilder.2.1 2 = .ok (.aconst_null, 1) := by decide +kernel
theorem d_String_init_StringBuilder_3 : decode M_String_init_StringBuilder.2.1 3 = .ok (.invokespecial 489, 3) := by decide +kernel
theorem xw_472 : (Jvm.Cond.code ({ cls := "java/lang/String", name := "<init>", desc := "(Ljava/lang/AbstractStringBuilder;Ljava/lang/Void;)V" } : Jvm.MethodName) prog_25_method_150_code (5 : Nat) (Option.none : Option Jvm.ClassFile.FieldType)) ∈ xT := xT_at 472 (by decide +kernel) (by decide +kernel)
theorem xcb_String_init_AbstractStringBuilderVoid : xcb M_String_init_AbstractStringBuilderVoid 2 := ⟨xw_472, xw_4, by decide, by decide, by decide, by decide +kernel⟩
theorem xw_470 : (Jvm.Cond.methodLink "java/lang/String" (489 : Nat) ({ cls := "java/lang/String", name := "<init>", desc := "(Ljava/lang/AbstractStringBuilder;Ljava/lang/Void;)V" } : Jvm.MethodName)) ∈ xT := xT_at 470 (by decide +kernel) (by decide +kernel)
theorem xw_471 : (Jvm.Cond.instanceMethod ({ cls := "java/lang/String", name := "<init>", desc := "(Ljava/lang/AbstractStringBuilder;Ljava/lang/Void;)V" } : Jvm.MethodName)) ∈ xT := xT_at 471 (by decide +kernel) (by decide +kernel)
theorem xci_String_489 : xCI "java/lang/String" 489 M_String_init_AbstractStringBuilderVoid 2 := ⟨xcb_String_init_AbstractStringBuilderVoid, rfl, rfl, xw_471, Or.inl xw_470⟩
theorem d_String_init_StringBuilder_6 : decode M_String_init_StringBuilder.2.1 6 = .ok (.return_, 1) := by decide +kernel
abbrev y_SB_toString : MethodName := ⟨"java/lang/StringBuilder", "toString", "()Ljava/lang/String;"⟩
abbrev M_SB_toString : XMt := (y_SB_toString, prog_26_method_42_code, 1, (some (.object "java/lang/String")))
theorem d_SB_toString_0 : decode M_SB_toString.2.1 0 = .ok (.new 18, 3) := by decide +kernel
theorem xw_465 : (Jvm.Cond.classLink "java/lang/StringBuilder" (18 : Nat) "java/lang/String") ∈ xT := xT_at 465 (by decide +kernel) (by decide +kernel)
theorem xnw_SB_18 : xNw "java/lang/StringBuilder" 18 k_String 4 [.null, .int 0, .int 0, .int 0] := ⟨_, _, _, rfl, rfl, by decide +kernel, xw_465, xw_466, xw_4⟩
theorem d_SB_toString_3 : decode M_SB_toString.2.1 3 = .ok (.dup, 1) := by decide +kernel
theorem d_SB_toString_4 : decode M_SB_toString.2.1 4 = .ok (.aload_n 0, 1) := by decide +kernel
theorem d_SB_toString_5 : decode M_SB_toString.2.1 5 = .ok (.invokespecial 137, 3) := by decide +kernel
theorem xw_469 : (Jvm.Cond.code ({ cls := "java/lang/String", name := "<init>", desc := "(Ljava/lang/StringBuilder;)V" } : Jvm.MethodName) prog_25_method_53_code (2 : Nat) (Option.none : Option Jvm.ClassFile.FieldType)) ∈ xT := xT_at 469 (by decide +kernel) (by decide +kernel)
theorem xcb_String_init_StringBuilder : xcb M_String_init_StringBuilder 1 := ⟨xw_469, xw_4, by decide, by decide, by decide, by decide +kernel⟩
theorem xw_467 : (Jvm.Cond.methodLink "java/lang/StringBuilder" (137 : Nat) ({ cls := "java/lang/String", name := "<init>", desc := "(Ljava/lang/StringBuilder;)V" } : Jvm.MethodName)) ∈ xT := xT_at 467 (by decide +kernel) (by decide +kernel)
theorem xw_468 : (Jvm.Cond.instanceMethod ({ cls := "java/lang/String", name := "<init>", desc := "(Ljava/lang/StringBuilder;)V" } : Jvm.MethodName)) ∈ xT := xT_at 468 (by decide +kernel) (by decide +kernel)
theorem xci_SB_137 : xCI "java/lang/StringBuilder" 137 M_String_init_StringBuilder 1 := ⟨xcb_String_init_StringBuilder, rfl, rfl, xw_468, Or.inl xw_467⟩
theorem d_SB_toString_8 : decode M_SB_toString.2.1 8 = .ok (.areturn, 1) := by decide +kernel
abbrev y_ASB_setLength : MethodName := ⟨"java/lang/AbstractStringBuilder", "setLength", "(I)V"⟩
abbrev M_ASB_setLength : XMt := (y_ASB_setLength, prog_15_method_13_code, 2, none)
theorem d_ASB_setLength_0 : decode M_ASB_setLength.2.1 0 = .ok (.iload_n 1, 1) := by decide +kernel
theorem d_ASB_setLength_1 : decode M_ASB_setLength.2.1 1 = .ok (.ifCond .ge 12, 3) := by decide +kernel
theorem d_ASB_setLength_13 : decode M_ASB_setLength.2.1 13 = .ok (.aload_n 0, 1) := by decide +kernel
theorem d_ASB_setLength_14 : decode M_ASB_setLength.2.1 14 = .ok (.iload_n 1, 1) := by decide +kernel
theorem d_ASB_setLength_15 : decode M_ASB_setLength.2.1 15 = .ok (.invokevirtual 100, 3) := by decide +kernel
theorem d_ASB_setLength_18 : decode M_ASB_setLength.2.1 18 = .ok (.aload_n 0, 1) := by decide +kernel
theorem d_ASB_setLength_19 : decode M_ASB_setLength.2.1 19 = .ok (.getfield 79, 3) := by decide +kernel
theorem d_ASB_setLength_22 : decode M_ASB_setLength.2.1 22 = .ok (.iload_n 1, 1) := by decide +kernel
theorem d_ASB_setLength_23 : decode M_ASB_setLength.2.1 23 = .ok (.if_icmp .ge 40, 3) := by decide +kernel
theorem d_ASB_setLength_63 : decode M_ASB_setLength.2.1 63 = .ok (.aload_n 0, 1) := by decide +kernel
theorem d_ASB_setLength_64 : decode M_ASB_setLength.2.1 64 = .ok (.getfield 79, 3) := by decide +kernel
theorem d_ASB_setLength_67 : decode M_ASB_setLength.2.1 67 = .ok (.iload_n 1, 1) := by decide +kernel
theorem d_ASB_setLength_68 : decode M_ASB_setLength.2.1 68 = .ok (.if_icmp .le 8, 3) := by decide +kernel
theorem d_ASB_setLength_76 : decode M_ASB_setLength.2.1 76 = .ok (.aload_n 0, 1) := by decide +kernel
theorem d_ASB_setLength_77 : decode M_ASB_setLength.2.1 77 = .ok (.iload_n 1, 1) := by decide +kernel
theorem d_ASB_setLength_78 : decode M_ASB_setLength.2.1 78 = .ok (.putfield 79, 3) := by decide +kernel
theorem d_ASB_setLength_81 : decode M_ASB_setLength.2.1 81 = .ok (.return_, 1) := by decide +kernel
theorem d_ASB_setLength_71 : decode M_ASB_setLength.2.1 71 = .ok (.aload_n 0, 1) := by decide +kernel
theorem d_ASB_setLength_72 : decode M_ASB_setLength.2.1 72 = .ok (.iconst 1, 1) := by decide +kernel
theorem d_ASB_setLength_73 : decode M_ASB_setLength.2.1 73 = .ok (.putfield 73, 3) := by decide +kernel
theorem xw_62 : (Jvm.Cond.fieldLink "java/lang/AbstractStringBuilder" (73 : Nat) "java/lang/AbstractStringBuilder" "maybeLatin1" "Z") ∈ xT := xT_at 62 (by decide +kernel) (by decide +kernel)
theorem xf_ASB_73_SB : xF "java/lang/AbstractStringBuilder" 73 k_StringBuilder 2 := ⟨_, _, _, "java/lang/AbstractStringBuilder", rfl, by decide, Or.inl xw_62, Or.inl rfl⟩
theorem xp_SB_2 : xP k_StringBuilder 2 false .boolean := ⟨_, _, _, rfl, rfl, by decide +kernel⟩
abbrev y_SB_setLength : MethodName := ⟨"java/lang/StringBuilder", "setLength", "(I)V"⟩
abbrev M_SB_setLength : XMt := (y_SB_setLength, prog_26_method_89_code, 2, none)
theorem d_SB_setLength_0 : decode M_SB_setLength.2.1 0 = .ok (.aload_n 0, 1) := by decide +kernel
theorem d_SB_setLength_1 : decode M_SB_setLength.2.1 1 = .ok (.iload_n 1, 1) := by decide +kernel
theorem d_SB_setLength_2 : decode M_SB_setLength.2.1 2 = .ok (.invokespecial 333, 3) := by decide +kernel
theorem xw_650 : (Jvm.Cond.code ({ cls := "java/lang/AbstractStringBuilder", name := "setLength", desc := "(I)V" } : Jvm.MethodName) prog_15_method_13_code (2 : Nat) (Option.none : Option Jvm.ClassFile.FieldType)) ∈ xT := xT_at 650 (by decide +kernel) (by decide +kernel)
theorem xcb_ASB_setLength : xcb M_ASB_setLength 1 := ⟨xw_650, xw_2, by decide, by decide, by decide, by decide +kernel⟩
theorem xw_649 : (Jvm.Cond.instanceMethod ({ cls := "java/lang/AbstractStringBuilder", name := "setLength", desc := "(I)V" } : Jvm.MethodName)) ∈ xT := xT_at 649 (by decide +kernel) (by decide +kernel)
theorem xw_648 : (Jvm.Cond.methodLink "java/lang/StringBuilder" (333 : Nat) ({ cls := "java/lang/AbstractStringBuilder", name := "setLength", desc := "(I)V" } : Jvm.MethodName)) ∈ xT := xT_at 648 (by decide +kernel) (by decide +kernel)
theorem xw_1617 : (Jvm.Cond.sameMethod "java/lang/AbstractStringBuilder" "java/lang/AbstractStringBuilder" "setLength" "(I)V") ∈ xT := xT_at 1617 (by decide +kernel) (by decide +kernel)
theorem xcu_SB_333 : xCU "java/lang/StringBuilder" 333 M_ASB_setLength 1 := ⟨xcb_ASB_setLength, by decide, xw_649, xw_648, xw_1617, xw_73⟩
theorem d_SB_setLength_5 : decode M_SB_setLength.2.1 5 = .ok (.return_, 1) := by decide +kernel
end
section SB4
variable {l : Launch} {G : XG} {h : XH} {c n d : Nat}
theorem c_ASB_init (hd : 1 ≤ d) {a m : Nat} {k : Value} {z : Int32} (ha : h a = some (k_StringBuilder, [.null, .int 0, .int z, k])) (hm : m < 2 ^ 20) (hc : c + 1 ≤ xCB) (hn : n + m ≤ xSB) : XM l G d M_ASB_init [.ref a, .int (nI m)] h c n (fun v h' c' n' => v = none ∧ ∃ q, h q = none ∧ h' = xup (xup h q (k_abyte, List.replicate m (.int 0))) a (k_StringBuilder, [.ref q, .int 0, .int z, k]) ∧ c' = c + 1 ∧ n' = n + m) := by
  obtain ⟨d, rfl⟩ : ∃ q, d = q + 1 := ⟨d - 1, by omega⟩
  refine XM.of (by decide +kernel) (Nat.le_of_ble_eq_true rfl) ?_
  refine x_aload_n d_ASB_init_0 rfl rfl ?_
  refine x_objInit xw_50 xw_40 xw_41 (Nat.le_of_ble_eq_true rfl) d_ASB_init_1 ?_
  refine x_gets xw_51 (List.mem_of_getElem? (i := 0) rfl) d_ASB_init_4 ?_
  refine x_if_eq (tgt := 25) d_ASB_init_7 (by decide) (fun ht => absurd ht (by decide)) (fun _ => ?_)
  refine x_aload_n d_ASB_init_10 rfl rfl ?_
  refine x_iload_n d_ASB_init_11 rfl ?_
  refine x_newa (k := k_abyte) rfl rfl (fun _ hz => by cases hz) xw_74 (nI_pos (by omega)) (nI_clamp (by omega)) (by show m * 1 ≤ _; omega) hc hn d_ASB_init_12 (fun q hn_q hk_q => ?_)
  refine x_put xf_ASB_15_SB xp_SB_0 rfl rfl (xup_old ha hn_q) rfl rfl d_ASB_init_14 ?_
  refine x_aload_n d_ASB_init_17 rfl rfl ?_
  refine x_iconst (v := 0) d_ASB_init_18 (by decide) ?_
  refine x_put xf_ASB_22_SB xp_SB_1 rfl rfl xup_self rfl rfl d_ASB_init_19 ?_
  refine x_goto (tgt := 38) d_ASB_init_22 (by decide) ?_
  refine x_vret d_ASB_init_38 rfl ?_
  exact ⟨rfl, q, hn_q, by rw [xup_up]; rfl, rfl, rfl⟩
/-- a new builder -/
theorem c_SB_init (hd : 2 ≤ d) {a : Nat} (ha : h a = some (k_StringBuilder, [.null, .int 0, .int 0, .int 0])) (hc : c + 1 ≤ xCB) (hn : n + 16 ≤ xSB) : XM l G d M_SB_init [.ref a] h c n (fun v h' c' n' => v = none ∧ ∃ q, h q = none ∧ isB h' a q [] 16 ∧ xfr h h' [a] ∧ c' = c + 1 ∧ n' = n + 16) := by
  obtain ⟨d, rfl⟩ : ∃ q, d = q + 1 := ⟨d - 1, by omega⟩
  refine XM.of (by decide +kernel) (Nat.le_of_ble_eq_true rfl) ?_
  refine x_aload_n d_SB_init_0 rfl rfl ?_
  refine x_bipush (v := 16) d_SB_init_1 (by decide) ?_
  refine x_callI (As := [_]) xci_SB_1 (c_ASB_init (by omega) (m := 16) ha (by omega) hc hn) rfl rfl (Nat.le_of_ble_eq_true rfl) d_SB_init_3 ?_
  rintro v h' c' n' ⟨rfl, q, hq, rfl, rfl, rfl⟩
  have haq : a ≠ q := fun e => by rw [e, hq] at ha; cases ha
  refine x_vret d_SB_init_6 rfl ?_
  refine ⟨rfl, q, hq, ⟨0, List.replicate 16 (.int 0), xup_self, by rw [xup_ne (Ne.symm haq), xup_self]; rfl, rfl, fun v hv => by rw [(List.mem_replicate.mp hv).2]; rfl, fun ch hc => by cases hc⟩, ?_, rfl, rfl⟩
  exact (xfr.rf.up (Or.inr hq)).up (Or.inl (by simp))
theorem c_ASB_getValue {a : Nat} {va : Nat} {z k w : Value} (ha : h a = some (k_StringBuilder, [.ref va, w, z, k])) : XM l G d M_ASB_getValue [.ref a] h c n (xSame (.ref va) h c n) := by
  refine XM.of (by decide +kernel) (Nat.le_of_ble_eq_true rfl) ?_
  refine x_aload_n d_ASB_getValue_0 rfl rfl ?_
  refine x_get xf_ASB_15_SB (Or.inl ha) rfl d_ASB_getValue_1 ?_
  refine x_aret d_ASB_getValue_4 rfl rfl ?_
  exact ⟨rfl, rfl, rfl, rfl⟩
theorem c_String_init_ASB (hd : 3 ≤ d) {s a va m : Nat} {y z : Value} {t : List Nat} (hs : h s = some (k_String, [.null, .int 0, y, z])) (hB : isB h a va t m) (hm : m < 2 ^ 18) (hc : c + 1 ≤ xCB) (hn : n + t.length ≤ xSB) : XM l G d M_String_init_AbstractStringBuilderVoid [.ref s, .ref a, .null] h c n (fun v h' c' n' => v = none ∧ ∃ q, h q = none ∧ h' = xup (xup h q (k_asbyte, xby t)) s (k_String, [.ref q, .int 0, y, z]) ∧ c' = c + 1 ∧ n' = n + t.length) := by
  obtain ⟨d, rfl⟩ : ∃ q, d = q + 1 := ⟨d - 1, by omega⟩
  obtain ⟨w, bs, ha, hv, hl, hbf, hat⟩ := hB
  have hsa : s ≠ a := fun e => by rw [e, ha] at hs; cases hs
  have hsv : s ≠ va := fun e => by rw [e, hv] at hs; cases hs
  have hvl : (xby t ++ bs).length = m := by rw [List.length_append, xby_len]; exact hl
  refine XM.of (by decide +kernel) (Nat.le_of_ble_eq_true rfl) ?_
  refine x_aload_n d_String_init_AbstractStringBuilderVoid_0 rfl rfl ?_
  refine x_objInit xw_473 xw_40 xw_41 (Nat.le_of_ble_eq_true rfl) d_String_init_AbstractStringBuilderVoid_1 ?_
  refine x_aload_n d_String_init_AbstractStringBuilderVoid_4 rfl rfl ?_
  refine x_callV (As := []) (k := k_StringBuilder) rfl xcv_String_552_SB (Or.inl ha) (c_ASB_getValue ha) rfl rfl (Nat.le_of_ble_eq_true rfl) d_String_init_AbstractStringBuilderVoid_5 ?_
  rintro v h' c' n' ⟨rfl, rfl, rfl, rfl⟩
  refine x_astore_n (L' := [_, _, _, _, _]) d_String_init_AbstractStringBuilderVoid_8 rfl rfl rfl ?_
  refine x_aload_n d_String_init_AbstractStringBuilderVoid_9 rfl rfl ?_
  refine x_callV (As := []) (k := k_StringBuilder) rfl xcv_String_549_SB (Or.inl ha) (c_SB_length (by omega) ha) rfl rfl (Nat.le_of_ble_eq_true rfl) d_String_init_AbstractStringBuilderVoid_10 ?_
  rintro v h' c' n' ⟨rfl, rfl, rfl, rfl⟩
  refine x_istore (L' := [_, _, _, _, _]) d_String_init_AbstractStringBuilderVoid_13 rfl rfl ?_
  refine x_aload_n d_String_init_AbstractStringBuilderVoid_15 rfl rfl ?_
  refine x_callV (As := []) (k := k_StringBuilder) rfl xcv_String_1047_SB (Or.inl ha) (c_ASB_isLatin1 ha) rfl rfl (Nat.le_of_ble_eq_true rfl) d_String_init_AbstractStringBuilderVoid_16 ?_
  rintro v h' c' n' ⟨rfl, rfl, rfl, rfl⟩
  have hfit : ∀ v ∈ xby t ++ bs, fits .byte v = true := fun v hv => (List.mem_append.mp hv).elim (xby_fit hat v) (hbf v)
  refine x_if_eq (tgt := 41) d_String_init_AbstractStringBuilderVoid_19 (by decide) (fun ht => absurd ht (by decide)) (fun _ => ?_)
  refine x_aload_n d_String_init_AbstractStringBuilderVoid_22 rfl rfl ?_
  refine x_iconst (v := 0) d_String_init_AbstractStringBuilderVoid_23 (by decide) ?_
  refine x_putF xf_String_15_String xp_String_1 ⟨_, _, _, rfl, rfl, xw_634⟩ rfl rfl rfl hs rfl rfl d_String_init_AbstractStringBuilderVoid_24 ?_
  refine x_aload_n d_String_init_AbstractStringBuilderVoid_27 rfl rfl ?_
  refine x_aload_n d_String_init_AbstractStringBuilderVoid_28 rfl rfl ?_
  refine x_iconst (v := 0) d_String_init_AbstractStringBuilderVoid_29 (by decide) ?_
  refine x_iload d_String_init_AbstractStringBuilderVoid_30 rfl ?_
  refine x_callS (As := [_, _, _]) xcs_String_54 (c_copyOfRange (by omega) (k0 := k_abyte) (b := 0) (e := t.length) rfl (Or.inl (by rw [xup_ne (Ne.symm hsv)]; exact hv)) hfit (Nat.zero_le _) (by rw [hvl]; omega) (by rw [hvl]; omega) hc hn (fun _ _ => by rw [xup_ne (Ne.symm hsv)]; exact hv)) rfl rfl (Nat.le_of_ble_eq_true rfl) d_String_init_AbstractStringBuilderVoid_32 ?_
  rintro v h' c' n' ⟨q, rfl, hq, rfl, rfl, rfl⟩
  have hsq : s ≠ q := fun e => by rw [← e, xup_self] at hq; cases hq
  have hq0 : h' q = none := by rw [xup_ne (Ne.symm hsq)] at hq; exact hq
  have hcut : ((xby t ++ bs).drop 0).take (t.length - 0) = xby t := by
    rw [List.drop_zero, Nat.sub_zero, List.take_append_of_le_length (by rw [xby_len]; exact Nat.le_refl _), List.take_of_length_le (by rw [xby_len]; exact Nat.le_refl _)]
  rw [hcut]
  refine x_putF xf_String_9_String xp_String_0 ⟨_, _, _, rfl, rfl, xw_633⟩ rfl rfl rfl (by rw [xup_ne hsq]; exact xup_self) rfl rfl d_String_init_AbstractStringBuilderVoid_35 ?_
  refine x_goto (tgt := 97) d_String_init_AbstractStringBuilderVoid_38 (by decide) ?_
  refine x_vret d_String_init_AbstractStringBuilderVoid_97 rfl ?_
  refine ⟨rfl, q, hq0, ?_, rfl, by rw [xby_len]⟩
  rw [xup_cm (h := h') hsq, xup_up]
  rfl
theorem c_String_init_SB (hd : 4 ≤ d) {s a va m : Nat} {y z : Value} {t : List Nat} (hs : h s = some (k_String, [.null, .int 0, y, z])) (hB : isB h a va t m) (hm : m < 2 ^ 18) (hc : c + 1 ≤ xCB) (hn : n + t.length ≤ xSB) : XM l G d M_String_init_StringBuilder [.ref s, .ref a] h c n (fun v h' c' n' => v = none ∧ ∃ q, h q = none ∧ h' = xup (xup h q (k_asbyte, xby t)) s (k_String, [.ref q, .int 0, y, z]) ∧ c' = c + 1 ∧ n' = n + t.length) := by
  obtain ⟨d, rfl⟩ : ∃ q, d = q + 1 := ⟨d - 1, by omega⟩
  refine XM.of (by decide +kernel) (Nat.le_of_ble_eq_true rfl) ?_
  refine x_aload_n d_String_init_StringBuilder_0 rfl rfl ?_
  refine x_aload_n d_String_init_StringBuilder_1 rfl rfl ?_
  refine x_null d_String_init_StringBuilder_2 ?_
  refine x_callI (As := [_, _]) xci_String_489 (c_String_init_ASB (by omega) hs hB hm hc hn) rfl rfl (Nat.le_of_ble_eq_true rfl) d_String_init_StringBuilder_3 ?_
  rintro v h' c' n' ⟨rfl, hp⟩
  refine x_vret d_String_init_StringBuilder_6 rfl ?_
  exact ⟨rfl, hp⟩
theorem isB.up {q : Nat} {e : Nat × List Value} {a va m : Nat} {t : List Nat} (hB : isB h a va t m) (hq : h q = none) : isB (xup h q e) a va t m := by
  obtain ⟨w, bs, ha, hv, hr⟩ := hB
  exact ⟨w, bs, xup_old ha hq, xup_old hv hq, hr⟩
theorem isB.fr {h' : XH} {F : List Nat} {a va m : Nat} {t : List Nat} (hB : isB h a va t m) (hf : xfr h h' F) (h1 : a ∉ F) (h2 : va ∉ F) : isB h' a va t m := by
  obtain ⟨w, bs, ha, hv, hr⟩ := hB
  exact ⟨w, bs, hf.1 _ _ ha h1, hf.1 _ _ hv h2, hr⟩
/-- StringBuilder.toString -/
theorem c_SB_toString (hd : 5 ≤ d) {a va m : Nat} {t : List Nat} (hB : isB h a va t m) (hm : m < 2 ^ 18) (hc : c + 2 ≤ xCB) (hn : n + t.length + 4 ≤ xSB) : XM l G d M_SB_toString [.ref a] h c n (pS G t h c n) := by
  obtain ⟨d, rfl⟩ : ∃ q, d = q + 1 := ⟨d - 1, by omega⟩
  refine XM.of (by decide +kernel) (Nat.le_of_ble_eq_true rfl) ?_
  obtain ⟨w, bs, ha, hv, hl, hbf, hat⟩ := id hB
  refine x_new xnw_SB_18 (by omega) (by omega) d_SB_toString_0 (fun p hn_p hk_p => ?_)
  refine x_dup d_SB_toString_3 rfl ?_
  refine x_aload_n d_SB_toString_4 rfl rfl ?_
  refine x_callI (As := [_]) xci_SB_137 (c_String_init_SB (by omega) xup_self (hB.up hn_p) hm (by omega) (by omega)) rfl rfl (Nat.le_of_ble_eq_true rfl) d_SB_toString_5 ?_
  rintro v h' c' n' ⟨rfl, q, hq, rfl, rfl, rfl⟩
  have hpq : p ≠ q := fun z => by rw [← z, xup_self] at hq; cases hq
  have hq0 : h q = none := by rw [xup_ne (Ne.symm hpq)] at hq; exact hq
  refine x_aret d_SB_toString_8 rfl rfl ?_
  exact ⟨p, rfl, ⟨q, _, Or.inl xup_self, Or.inl (by rw [xup_ne (Ne.symm hpq), xup_self]), hat⟩, ((xfr.rf.up (Or.inr hn_p)).up (Or.inr hq0)).up (Or.inr hn_p), by omega, by omega⟩
/-- setLength(0) -/
theorem c_ASB_setLength0 (hd : 1 ≤ d) {a va m : Nat} {t : List Nat} (hB : isB h a va t m) (hm : m < 2 ^ 18) : XM l G d M_ASB_setLength [.ref a, .int 0] h c n (fun v h' c' n' => v = none ∧ isB h' a va [] m ∧ xfr h h' [a] ∧ c' = c ∧ n' = n) := by
  obtain ⟨d, rfl⟩ : ∃ q, d = q + 1 := ⟨d - 1, by omega⟩
  obtain ⟨w, bs, ha, hv, hl, hbf, hat⟩ := hB
  have hav : a ≠ va := fun e => by rw [e, hv] at ha; cases ha
  have hvl : (xby t ++ bs).length = m := by rw [List.length_append, xby_len]; exact hl
  refine XM.of (by decide +kernel) (Nat.le_of_ble_eq_true rfl) ?_
  refine x_iload_n d_ASB_setLength_0 rfl ?_
  refine x_if_ge (tgt := 13) d_ASB_setLength_1 (by decide) (fun _ => ?_) (fun hn => absurd (by decide) hn)
  refine x_aload_n d_ASB_setLength_13 rfl rfl ?_
  refine x_iload_n d_ASB_setLength_14 rfl ?_
  refine x_callV (As := [_]) (k := k_StringBuilder) rfl xcv_ASB_100_SB (Or.inl ha) (c_ensure_no (m := 0) (Nat.zero_le _) ha hv (Nat.zero_le _) (by rw [hvl]; omega)) rfl rfl (Nat.le_of_ble_eq_true rfl) d_ASB_setLength_15 ?_
  rintro v h' c' n' ⟨rfl, rfl, rfl, rfl⟩
  refine x_aload_n d_ASB_setLength_18 rfl rfl ?_
  refine x_get xf_ASB_79_SB (Or.inl ha) rfl d_ASB_setLength_19 ?_
  refine x_iload_n d_ASB_setLength_22 rfl ?_
  refine x_icmp_ge (tgt := 63) d_ASB_setLength_23 (by decide) (fun _ => ?_) (fun hn => absurd (nI_pos' (by omega)) hn)
  refine x_aload_n d_ASB_setLength_63 rfl rfl ?_
  refine x_get xf_ASB_79_SB (Or.inl ha) rfl d_ASB_setLength_64 ?_
  refine x_iload_n d_ASB_setLength_67 rfl ?_
  have hE : ∀ w1 : Int32, isB (xup h' a (k_StringBuilder, [.ref va, .int 0, .int w1, .int 0])) a va [] m := fun w1 => ⟨w1, xby t ++ bs, xup_self, by rw [xup_ne (Ne.symm hav)]; exact hv, by rw [hvl]; simp, fun v hv => (List.mem_append.mp hv).elim (xby_fit hat v) (hbf v), fun ch hc => by cases hc⟩
  by_cases ht : t.length = 0
  · refine x_icmp_le (tgt := 76) d_ASB_setLength_68 (by decide) (fun _ => ?_) (fun hn => absurd (by rw [ht]; decide) hn)
    refine x_aload_n d_ASB_setLength_76 rfl rfl ?_
    refine x_iload_n d_ASB_setLength_77 rfl ?_
    refine x_put xf_ASB_79_SB xp_SB_3 rfl rfl ha rfl rfl d_ASB_setLength_78 ?_
    refine x_vret d_ASB_setLength_81 rfl ?_
    exact ⟨rfl, hE w, xfr.rf.up (Or.inl (by simp)), rfl, rfl⟩
  · refine x_icmp_le (tgt := 76) d_ASB_setLength_68 (by decide) (fun ht => absurd ht (nI_nle (by omega) (by omega))) (fun _ => ?_)
    refine x_aload_n d_ASB_setLength_71 rfl rfl ?_
    refine x_iconst (v := 1) d_ASB_setLength_72 (by decide) ?_
    refine x_put xf_ASB_73_SB xp_SB_2 rfl rfl ha rfl rfl d_ASB_setLength_73 ?_
    refine x_aload_n d_ASB_setLength_76 rfl rfl ?_
    refine x_iload_n d_ASB_setLength_77 rfl ?_
    refine x_put xf_ASB_79_SB xp_SB_3 rfl rfl xup_self rfl rfl d_ASB_setLength_78 ?_
    refine x_vret d_ASB_setLength_81 rfl ?_
    refine ⟨rfl, ?_, (xfr.rf.up (Or.inl (by simp))).up (Or.inl (by simp)), rfl, rfl⟩
    rw [xup_up]
    exact hE 1
theorem c_SB_setLength0 (hd : 2 ≤ d) {a va m : Nat} {t : List Nat} (hB : isB h a va t m) (hm : m < 2 ^ 18) : XM l G d M_SB_setLength [.ref a, .int 0] h c n (fun v h' c' n' => v = none ∧ isB h' a va [] m ∧ xfr h h' [a] ∧ c' = c ∧ n' = n) := by
  obtain ⟨d, rfl⟩ : ∃ q, d = q + 1 := ⟨d - 1, by omega⟩
  obtain ⟨z, bs, ha, -⟩ := id hB
  refine XM.of (by decide +kernel) (Nat.le_of_ble_eq_true rfl) ?_
  refine x_aload_n d_SB_setLength_0 rfl rfl ?_
  refine x_iload_n d_SB_setLength_1 rfl ?_
  refine x_callU (As := [_]) (k := k_StringBuilder) rfl xcu_SB_333 (Or.inl ha) (c_ASB_setLength0 (by omega) hB hm) rfl rfl (Nat.le_of_ble_eq_true rfl) d_SB_setLength_2 ?_
  rintro v h' c' n' ⟨rfl, hp⟩
  refine x_vret d_SB_setLength_5 rfl ?_
  exact ⟨rfl, hp⟩
end SB4
end
section
section
abbrev y_String_getBytes : MethodName := ⟨"java/lang/String", "getBytes", "([BIB)V"⟩
abbrev M_String_getBytes : XMt := (y_String_getBytes, prog_25_method_147_code, 4, none)
theorem d_String_getBytes_0 : decode M_String_getBytes.2.1 0 = .ok (.aload_n 0, 1) := by decide +kernel
theorem d_String_getBytes_1 : decode M_String_getBytes.2.1 1 = .ok (.invokevirtual 335, 3) := by decide +kernel
theorem d_String_getBytes_4 : decode M_String_getBytes.2.1 4 = .ok (.iload_n 3, 1) := by decide +kernel
theorem d_String_getBytes_5 : decode M_String_getBytes.2.1 5 = .ok (.if_icmp .ne 23, 3) := by decide +kernel
theorem d_String_getBytes_8 : decode M_String_getBytes.2.1 8 = .ok (.aload_n 0, 1) := by decide +kernel
theorem d_String_getBytes_9 : decode M_String_getBytes.2.1 9 = .ok (.getfield 9, 3) := by decide +kernel
theorem d_String_getBytes_12 : decode M_String_getBytes.2.1 12 = .ok (.iconst 0, 1) := by decide +kernel
theorem d_String_getBytes_13 : decode M_String_getBytes.2.1 13 = .ok (.aload_n 1, 1) := by decide +kernel
theorem d_String_getBytes_14 : decode M_String_getBytes.2.1 14 = .ok (.iload_n 2, 1) := by decide +kernel
theorem d_String_getBytes_15 : decode M_String_getBytes.2.1 15 = .ok (.iload_n 3, 1) := by decide +kernel
theorem d_String_getBytes_16 : decode M_String_getBytes.2.1 16 = .ok (.ishl, 1) := by decide +kernel
theorem d_String_getBytes_17 : decode M_String_getBytes.2.1 17 = .ok (.aload_n 0, 1) := by decide +kernel
theorem d_String_getBytes_18 : decode M_String_getBytes.2.1 18 = .ok (.getfield 9, 3) := by decide +kernel
theorem d_String_getBytes_21 : decode M_String_getBytes.2.1 21 = .ok (.arraylength, 1) := by decide +kernel
theorem d_String_getBytes_22 : decode M_String_getBytes.2.1 22 = .ok (.invokestatic 212, 3) := by decide +kernel
theorem xw_595 : (Jvm.Cond.methodLink "java/lang/String" (212 : Nat) ({ cls := "java/lang/System", name := "arraycopy", desc := "(Ljava/lang/Object;ILjava/lang/Object;II)V" } : Jvm.MethodName)) ∈ xT := xT_at 595 (by decide +kernel) (by decide +kernel)
theorem d_String_getBytes_25 : decode M_String_getBytes.2.1 25 = .ok (.goto 18, 3) := by decide +kernel
theorem d_String_getBytes_43 : decode M_String_getBytes.2.1 43 = .ok (.return_, 1) := by decide +kernel
abbrev y_ASB_inflateIfNeededFor : MethodName := ⟨"java/lang/AbstractStringBuilder", "inflateIfNeededFor", "(Ljava/lang/String;)V"⟩
abbrev M_ASB_inflateIfNeededFor : XMt := (y_ASB_inflateIfNeededFor, prog_15_method_71_code, 2, none)
theorem d_ASB_inflateIfNeededFor_0 : decode M_ASB_inflateIfNeededFor.2.1 0 = .ok (.getstatic 18, 3) := by decide +kernel
theorem d_ASB_inflateIfNeededFor_3 : decode M_ASB_inflateIfNeededFor.2.1 3 = .ok (.ifCond .eq 18, 3) := by decide +kernel
theorem d_ASB_inflateIfNeededFor_6 : decode M_ASB_inflateIfNeededFor.2.1 6 = .ok (.aload_n 0, 1) := by decide +kernel
theorem d_ASB_inflateIfNeededFor_7 : decode M_ASB_inflateIfNeededFor.2.1 7 = .ok (.getfield 22, 3) := by decide +kernel
theorem d_ASB_inflateIfNeededFor_10 : decode M_ASB_inflateIfNeededFor.2.1 10 = .ok (.aload_n 1, 1) := by decide +kernel
theorem d_ASB_inflateIfNeededFor_11 : decode M_ASB_inflateIfNeededFor.2.1 11 = .ok (.invokevirtual 40, 3) := by decide +kernel
theorem xw_590 : (Jvm.Cond.methodLink "java/lang/AbstractStringBuilder" (40 : Nat) ({ cls := "java/lang/String", name := "coder", desc := "()B" } : Jvm.MethodName)) ∈ xT := xT_at 590 (by decide +kernel) (by decide +kernel)
theorem xcv_ASB_40_String : xCV "java/lang/AbstractStringBuilder" 40 "java/lang/String" M_String_coder 0 := ⟨xcb_String_coder, xw_426, Or.inl ⟨xw_590, Or.inl xw_427⟩⟩
theorem d_ASB_inflateIfNeededFor_14 : decode M_ASB_inflateIfNeededFor.2.1 14 = .ok (.if_icmp .eq 7, 3) := by decide +kernel
theorem d_ASB_inflateIfNeededFor_21 : decode M_ASB_inflateIfNeededFor.2.1 21 = .ok (.return_, 1) := by decide +kernel
abbrev y_ASB_putStringAt : MethodName := ⟨"java/lang/AbstractStringBuilder", "putStringAt", "(ILjava/lang/String;)V"⟩
abbrev M_ASB_putStringAt : XMt := (y_ASB_putStringAt, prog_15_method_73_code, 3, none)
theorem d_ASB_putStringAt_0 : decode M_ASB_putStringAt.2.1 0 = .ok (.aload_n 0, 1) := by decide +kernel
theorem d_ASB_putStringAt_1 : decode M_ASB_putStringAt.2.1 1 = .ok (.aload_n 2, 1) := by decide +kernel
theorem d_ASB_putStringAt_2 : decode M_ASB_putStringAt.2.1 2 = .ok (.invokevirtual 397, 3) := by decide +kernel
theorem xw_589 : (Jvm.Cond.code ({ cls := "java/lang/AbstractStringBuilder", name := "inflateIfNeededFor", desc := "(Ljava/lang/String;)V" } : Jvm.MethodName) prog_15_method_71_code (2 : Nat) (Option.none : Option Jvm.ClassFile.FieldType)) ∈ xT := xT_at 589 (by decide +kernel) (by decide +kernel)
theorem xcb_ASB_inflateIfNeededFor : xcb M_ASB_inflateIfNeededFor 1 := ⟨xw_589, xw_2, by decide, by decide, by decide, by decide +kernel⟩
theorem xw_588 : (Jvm.Cond.instanceMethod ({ cls := "java/lang/AbstractStringBuilder", name := "inflateIfNeededFor", desc := "(Ljava/lang/String;)V" } : Jvm.MethodName)) ∈ xT := xT_at 588 (by decide +kernel) (by decide +kernel)
theorem xw_586 : (Jvm.Cond.methodLink "java/lang/AbstractStringBuilder" (397 : Nat) ({ cls := "java/lang/AbstractStringBuilder", name := "inflateIfNeededFor", desc := "(Ljava/lang/String;)V" } : Jvm.MethodName)) ∈ xT := xT_at 586 (by decide +kernel) (by decide +kernel)
theorem xps_ASB_inflateIfNeededFor_SB : Cond.selects "java/lang/StringBuilder" y_ASB_inflateIfNeededFor y_ASB_inflateIfNeededFor ∈ xT := xT_ps (by decide +kernel) (by decide +kernel)
theorem xcv_ASB_397_SB : xCV "java/lang/AbstractStringBuilder" 397 "java/lang/StringBuilder" M_ASB_inflateIfNeededFor 1 := ⟨xcb_ASB_inflateIfNeededFor, xw_588, Or.inl ⟨xw_586, Or.inl xps_ASB_inflateIfNeededFor_SB⟩⟩
theorem d_ASB_putStringAt_5 : decode M_ASB_putStringAt.2.1 5 = .ok (.aload_n 2, 1) := by decide +kernel
theorem d_ASB_putStringAt_6 : decode M_ASB_putStringAt.2.1 6 = .ok (.aload_n 0, 1) := by decide +kernel
theorem d_ASB_putStringAt_7 : decode M_ASB_putStringAt.2.1 7 = .ok (.getfield 15, 3) := by decide +kernel
theorem d_ASB_putStringAt_10 : decode M_ASB_putStringAt.2.1 10 = .ok (.iload_n 1, 1) := by decide +kernel
theorem d_ASB_putStringAt_11 : decode M_ASB_putStringAt.2.1 11 = .ok (.aload_n 0, 1) := by decide +kernel
theorem d_ASB_putStringAt_12 : decode M_ASB_putStringAt.2.1 12 = .ok (.getfield 22, 3) := by decide +kernel
theorem d_ASB_putStringAt_15 : decode M_ASB_putStringAt.2.1 15 = .ok (.invokevirtual 399, 3) := by decide +kernel
theorem xw_594 : (Jvm.Cond.code ({ cls := "java/lang/String", name := "getBytes", desc := "([BIB)V" } : Jvm.MethodName) prog_25_method_147_code (4 : Nat) (Option.none : Option Jvm.ClassFile.FieldType)) ∈ xT := xT_at 594 (by decide +kernel) (by decide +kernel)
theorem xcb_String_getBytes : xcb M_String_getBytes 3 := ⟨xw_594, xw_4, by decide, by decide, by decide, by decide +kernel⟩
theorem xw_592 : (Jvm.Cond.instanceMethod ({ cls := "java/lang/String", name := "getBytes", desc := "([BIB)V" } : Jvm.MethodName)) ∈ xT := xT_at 592 (by decide +kernel) (by decide +kernel)
theorem xw_591 : (Jvm.Cond.methodLink "java/lang/AbstractStringBuilder" (399 : Nat) ({ cls := "java/lang/String", name := "getBytes", desc := "([BIB)V" } : Jvm.MethodName)) ∈ xT := xT_at 591 (by decide +kernel) (by decide +kernel)
theorem xw_593 : (Jvm.Cond.selects "java/lang/String" ({ cls := "java/lang/String", name := "getBytes", desc := "([BIB)V" } : Jvm.MethodName) ({ cls := "java/lang/String", name := "getBytes", desc := "([BIB)V" } : Jvm.MethodName)) ∈ xT := xT_at 593 (by decide +kernel) (by decide +kernel)
theorem xcv_ASB_399_String : xCV "java/lang/AbstractStringBuilder" 399 "java/lang/String" M_String_getBytes 3 := ⟨xcb_String_getBytes, xw_592, Or.inl ⟨xw_591, Or.inl xw_593⟩⟩
theorem d_ASB_putStringAt_18 : decode M_ASB_putStringAt.2.1 18 = .ok (.return_, 1) := by decide +kernel
abbrev y_ASB_append_String : MethodName := ⟨"java/lang/AbstractStringBuilder", "append", "(Ljava/lang/String;)Ljava/lang/AbstractStringBuilder;"⟩
abbrev M_ASB_append_String : XMt := (y_ASB_append_String, prog_15_method_22_code, 3, (some (.object "java/lang/AbstractStringBuilder")))
theorem d_ASB_append_String_24 : decode M_ASB_append_String.2.1 24 = .ok (.aload_n 0, 1) := by decide +kernel
theorem d_ASB_append_String_25 : decode M_ASB_append_String.2.1 25 = .ok (.aload_n 0, 1) := by decide +kernel
theorem d_ASB_append_String_26 : decode M_ASB_append_String.2.1 26 = .ok (.getfield 79, 3) := by decide +kernel
theorem d_ASB_append_String_29 : decode M_ASB_append_String.2.1 29 = .ok (.aload_n 1, 1) := by decide +kernel
theorem d_ASB_append_String_30 : decode M_ASB_append_String.2.1 30 = .ok (.invokevirtual 208, 3) := by decide +kernel
theorem xw_585 : (Jvm.Cond.code ({ cls := "java/lang/AbstractStringBuilder", name := "putStringAt", desc := "(ILjava/lang/String;)V" } : Jvm.MethodName) prog_15_method_73_code (3 : Nat) (Option.none : Option Jvm.ClassFile.FieldType)) ∈ xT := xT_at 585 (by decide +kernel) (by decide +kernel)
theorem xcb_ASB_putStringAt : xcb M_ASB_putStringAt 2 := ⟨xw_585, xw_2, by decide, by decide, by decide, by decide +kernel⟩
theorem xw_584 : (Jvm.Cond.instanceMethod ({ cls := "java/lang/AbstractStringBuilder", name := "putStringAt", desc := "(ILjava/lang/String;)V" } : Jvm.MethodName)) ∈ xT := xT_at 584 (by decide +kernel) (by decide +kernel)
theorem xw_582 : (Jvm.Cond.methodLink "java/lang/AbstractStringBuilder" (208 : Nat) ({ cls := "java/lang/AbstractStringBuilder", name := "putStringAt", desc := "(ILjava/lang/String;)V" } : Jvm.MethodName)) ∈ xT := xT_at 582 (by decide +kernel) (by decide +kernel)
theorem xps_ASB_putStringAt_SB : Cond.selects "java/lang/StringBuilder" y_ASB_putStringAt y_ASB_putStringAt ∈ xT := xT_ps (by decide +kernel) (by decide +kernel)
theorem xcv_ASB_208_SB : xCV "java/lang/AbstractStringBuilder" 208 "java/lang/StringBuilder" M_ASB_putStringAt 2 := ⟨xcb_ASB_putStringAt, xw_584, Or.inl ⟨xw_582, Or.inl xps_ASB_putStringAt_SB⟩⟩
theorem d_ASB_append_String_33 : decode M_ASB_append_String.2.1 33 = .ok (.aload_n 0, 1) := by decide +kernel
theorem d_ASB_append_String_34 : decode M_ASB_append_String.2.1 34 = .ok (.dup, 1) := by decide +kernel
theorem d_ASB_append_String_35 : decode M_ASB_append_String.2.1 35 = .ok (.getfield 79, 3) := by decide +kernel
theorem d_ASB_append_String_38 : decode M_ASB_append_String.2.1 38 = .ok (.iload_n 2, 1) := by decide +kernel
theorem d_ASB_append_String_39 : decode M_ASB_append_String.2.1 39 = .ok (.iadd, 1) := by decide +kernel
theorem d_ASB_append_String_40 : decode M_ASB_append_String.2.1 40 = .ok (.putfield 79, 3) := by decide +kernel
theorem d_ASB_append_String_43 : decode M_ASB_append_String.2.1 43 = .ok (.aload_n 0, 1) := by decide +kernel
theorem d_ASB_append_String_44 : decode M_ASB_append_String.2.1 44 = .ok (.areturn, 1) := by decide +kernel
theorem d_ASB_append_String_0 : decode M_ASB_append_String.2.1 0 = .ok (.aload_n 1, 1) := by decide +kernel
theorem d_ASB_append_String_1 : decode M_ASB_append_String.2.1 1 = .ok (.ifnonnull 8, 3) := by decide +kernel
theorem d_ASB_append_String_9 : decode M_ASB_append_String.2.1 9 = .ok (.aload_n 1, 1) := by decide +kernel
theorem d_ASB_append_String_10 : decode M_ASB_append_String.2.1 10 = .ok (.invokevirtual 32, 3) := by decide +kernel
theorem xw_581 : (Jvm.Cond.methodLink "java/lang/AbstractStringBuilder" (32 : Nat) ({ cls := "java/lang/String", name := "length", desc := "()I" } : Jvm.MethodName)) ∈ xT := xT_at 581 (by decide +kernel) (by decide +kernel)
theorem xcv_ASB_32_String : xCV "java/lang/AbstractStringBuilder" 32 "java/lang/String" M_String_length 0 := ⟨xcb_String_length, xw_422, Or.inl ⟨xw_581, Or.inl xw_423⟩⟩
theorem d_ASB_append_String_13 : decode M_ASB_append_String.2.1 13 = .ok (.istore_n 2, 1) := by decide +kernel
theorem d_ASB_append_String_14 : decode M_ASB_append_String.2.1 14 = .ok (.aload_n 0, 1) := by decide +kernel
theorem d_ASB_append_String_15 : decode M_ASB_append_String.2.1 15 = .ok (.aload_n 0, 1) := by decide +kernel
theorem d_ASB_append_String_16 : decode M_ASB_append_String.2.1 16 = .ok (.getfield 79, 3) := by decide +kernel
theorem d_ASB_append_String_19 : decode M_ASB_append_String.2.1 19 = .ok (.iload_n 2, 1) := by decide +kernel
theorem d_ASB_append_String_20 : decode M_ASB_append_String.2.1 20 = .ok (.iadd, 1) := by decide +kernel
theorem d_ASB_append_String_21 : decode M_ASB_append_String.2.1 21 = .ok (.invokevirtual 100, 3) := by decide +kernel
abbrev y_SB_append_String : MethodName := ⟨"java/lang/StringBuilder", "append", "(Ljava/lang/String;)Ljava/lang/StringBuilder;"⟩
abbrev M_SB_append_String : XMt := (y_SB_append_String, prog_26_method_7_code, 2, (some (.object "java/lang/StringBuilder")))
theorem d_SB_append_String_0 : decode M_SB_append_String.2.1 0 = .ok (.aload_n 0, 1) := by decide +kernel
theorem d_SB_append_String_1 : decode M_SB_append_String.2.1 1 = .ok (.aload_n 1, 1) := by decide +kernel
theorem d_SB_append_String_2 : decode M_SB_append_String.2.1 2 = .ok (.invokespecial 29, 3) := by decide +kernel
theorem xw_573 : (Jvm.Cond.code ({ cls := "java/lang/AbstractStringBuilder", name := "append", desc := "(Ljava/lang/String;)Ljava/lang/AbstractStringBuilder;" } : Jvm.MethodName) prog_15_method_22_code (3 : Nat) (Option.some (Jvm.ClassFile.FieldType.object "java/lang/AbstractStringBuilder"))) ∈ xT := xT_at 573 (by decide +kernel) (by decide +kernel)
theorem xcb_ASB_append_String : xcb M_ASB_append_String 1 := ⟨xw_573, xw_2, by decide, by decide, by decide, by decide +kernel⟩
theorem xw_572 : (Jvm.Cond.instanceMethod ({ cls := "java/lang/AbstractStringBuilder", name := "append", desc := "(Ljava/lang/String;)Ljava/lang/AbstractStringBuilder;" } : Jvm.MethodName)) ∈ xT := xT_at 572 (by decide +kernel) (by decide +kernel)
theorem xw_571 : (Jvm.Cond.methodLink "java/lang/StringBuilder" (29 : Nat) ({ cls := "java/lang/AbstractStringBuilder", name := "append", desc := "(Ljava/lang/String;)Ljava/lang/AbstractStringBuilder;" } : Jvm.MethodName)) ∈ xT := xT_at 571 (by decide +kernel) (by decide +kernel)
theorem xw_1613 : (Jvm.Cond.sameMethod "java/lang/AbstractStringBuilder" "java/lang/AbstractStringBuilder" "append" "(Ljava/lang/String;)Ljava/lang/AbstractStringBuilder;") ∈ xT := xT_at 1613 (by decide +kernel) (by decide +kernel)
theorem xcu_SB_29 : xCU "java/lang/StringBuilder" 29 M_ASB_append_String 1 := ⟨xcb_ASB_append_String, by decide, xw_572, xw_571, xw_1613, xw_73⟩
theorem d_SB_append_String_5 : decode M_SB_append_String.2.1 5 = .ok (.pop, 1) := by decide +kernel
theorem d_SB_append_String_6 : decode M_SB_append_String.2.1 6 = .ok (.aload_n 0, 1) := by decide +kernel
theorem d_SB_append_String_7 : decode M_SB_append_String.2.1 7 = .ok (.areturn, 1) := by decide +kernel
abbrev y_SL1_indexOfChar : MethodName := ⟨"java/lang/StringLatin1", "indexOfChar", "([BIII)I"⟩
abbrev M_SL1_indexOfChar : XMt := (y_SL1_indexOfChar, prog_27_method_23_code, 6, (some .int))
theorem d_SL1_indexOfChar_7 : decode M_SL1_indexOfChar.2.1 7 = .ok (.iload 5, 2) := by decide +kernel
theorem d_SL1_indexOfChar_9 : decode M_SL1_indexOfChar.2.1 9 = .ok (.iload_n 3, 1) := by decide +kernel
theorem d_SL1_indexOfChar_10 : decode M_SL1_indexOfChar.2.1 10 = .ok (.if_icmp .ge 21, 3) := by decide +kernel
theorem d_SL1_indexOfChar_31 : decode M_SL1_indexOfChar.2.1 31 = .ok (.iconst (-1), 1) := by decide +kernel
theorem d_SL1_indexOfChar_32 : decode M_SL1_indexOfChar.2.1 32 = .ok (.ireturn, 1) := by decide +kernel
theorem d_SL1_indexOfChar_13 : decode M_SL1_indexOfChar.2.1 13 = .ok (.aload_n 0, 1) := by decide +kernel
theorem d_SL1_indexOfChar_14 : decode M_SL1_indexOfChar.2.1 14 = .ok (.iload 5, 2) := by decide +kernel
theorem d_SL1_indexOfChar_16 : decode M_SL1_indexOfChar.2.1 16 = .ok (.baload, 1) := by decide +kernel
theorem d_SL1_indexOfChar_17 : decode M_SL1_indexOfChar.2.1 17 = .ok (.iload 4, 2) := by decide +kernel
theorem d_SL1_indexOfChar_19 : decode M_SL1_indexOfChar.2.1 19 = .ok (.if_icmp .ne 6, 3) := by decide +kernel
theorem d_SL1_indexOfChar_22 : decode M_SL1_indexOfChar.2.1 22 = .ok (.iload 5, 2) := by decide +kernel
theorem d_SL1_indexOfChar_24 : decode M_SL1_indexOfChar.2.1 24 = .ok (.ireturn, 1) := by decide +kernel
theorem d_SL1_indexOfChar_25 : decode M_SL1_indexOfChar.2.1 25 = .ok (.iinc 5 1, 3) := by decide +kernel
theorem d_SL1_indexOfChar_28 : decode M_SL1_indexOfChar.2.1 28 = .ok (.goto (-21), 3) := by decide +kernel
abbrev y_SL1_canEncode_I : MethodName := ⟨"java/lang/StringLatin1", "canEncode", "(I)Z"⟩
abbrev M_SL1_canEncode_I : XMt := (y_SL1_canEncode_I, prog_27_method_4_code, 1, (some .boolean))
theorem d_SL1_canEncode_I_0 : decode M_SL1_canEncode_I.2.1 0 = .ok (.iload_n 0, 1) := by decide +kernel
theorem d_SL1_canEncode_I_1 : decode M_SL1_canEncode_I.2.1 1 = .ok (.ifCond .lt 14, 3) := by decide +kernel
theorem d_SL1_canEncode_I_4 : decode M_SL1_canEncode_I.2.1 4 = .ok (.iload_n 0, 1) := by decide +kernel
theorem d_SL1_canEncode_I_5 : decode M_SL1_canEncode_I.2.1 5 = .ok (.sipush 255, 3) := by decide +kernel
theorem d_SL1_canEncode_I_8 : decode M_SL1_canEncode_I.2.1 8 = .ok (.if_icmp .gt 7, 3) := by decide +kernel
theorem d_SL1_canEncode_I_11 : decode M_SL1_canEncode_I.2.1 11 = .ok (.iconst 1, 1) := by decide +kernel
theorem d_SL1_canEncode_I_12 : decode M_SL1_canEncode_I.2.1 12 = .ok (.goto 4, 3) := by decide +kernel
theorem d_SL1_canEncode_I_16 : decode M_SL1_canEncode_I.2.1 16 = .ok (.ireturn, 1) := by decide +kernel
theorem d_SL1_indexOfChar_0 : decode M_SL1_indexOfChar.2.1 0 = .ok (.iload_n 1, 1) := by decide +kernel
theorem d_SL1_indexOfChar_1 : decode M_SL1_indexOfChar.2.1 1 = .ok (.i2b, 1) := by decide +kernel
theorem d_SL1_indexOfChar_2 : decode M_SL1_indexOfChar.2.1 2 = .ok (.istore 4, 2) := by decide +kernel
theorem d_SL1_indexOfChar_4 : decode M_SL1_indexOfChar.2.1 4 = .ok (.iload_n 2, 1) := by decide +kernel
theorem d_SL1_indexOfChar_5 : decode M_SL1_indexOfChar.2.1 5 = .ok (.istore 5, 2) := by decide +kernel
abbrev y_SL1_indexOf : MethodName := ⟨"java/lang/StringLatin1", "indexOf", "([BIII)I"⟩
abbrev M_SL1_indexOf : XMt := (y_SL1_indexOf, prog_27_method_22_code, 4, (some .int))
theorem d_SL1_indexOf_0 : decode M_SL1_indexOf.2.1 0 = .ok (.iload_n 1, 1) := by decide +kernel
theorem d_SL1_indexOf_1 : decode M_SL1_indexOf.2.1 1 = .ok (.invokestatic 88, 3) := by decide +kernel
theorem xw_773 : (Jvm.Cond.code ({ cls := "java/lang/StringLatin1", name := "canEncode", desc := "(I)Z" } : Jvm.MethodName) prog_27_method_4_code (1 : Nat) (Option.some Jvm.ClassFile.FieldType.boolean)) ∈ xT := xT_at 773 (by decide +kernel) (by decide +kernel)
theorem xcb_SL1_canEncode_I : xcb M_SL1_canEncode_I 1 := ⟨xw_773, xw_13, by decide, by decide, by decide, by decide +kernel⟩
theorem xw_771 : (Jvm.Cond.methodLink "java/lang/StringLatin1" (88 : Nat) ({ cls := "java/lang/StringLatin1", name := "canEncode", desc := "(I)Z" } : Jvm.MethodName)) ∈ xT := xT_at 771 (by decide +kernel) (by decide +kernel)
theorem xw_772 : (Jvm.Cond.static ({ cls := "java/lang/StringLatin1", name := "canEncode", desc := "(I)Z" } : Jvm.MethodName)) ∈ xT := xT_at 772 (by decide +kernel) (by decide +kernel)
theorem xcs_SL1_88 : xCS "java/lang/StringLatin1" 88 M_SL1_canEncode_I 1 := ⟨xcb_SL1_canEncode_I, xw_772, Or.inl xw_771⟩
theorem d_SL1_indexOf_4 : decode M_SL1_indexOf.2.1 4 = .ok (.ifCond .ne 5, 3) := by decide +kernel
theorem d_SL1_indexOf_9 : decode M_SL1_indexOf.2.1 9 = .ok (.iload_n 2, 1) := by decide +kernel
theorem d_SL1_indexOf_10 : decode M_SL1_indexOf.2.1 10 = .ok (.iconst 0, 1) := by decide +kernel
theorem d_SL1_indexOf_11 : decode M_SL1_indexOf.2.1 11 = .ok (.invokestatic 92, 3) := by decide +kernel
theorem xw_774 : (Jvm.Cond.methodLink "java/lang/StringLatin1" (92 : Nat) ({ cls := "java/lang/Math", name := "max", desc := "(II)I" } : Jvm.MethodName)) ∈ xT := xT_at 774 (by decide +kernel) (by decide +kernel)
theorem d_SL1_indexOf_14 : decode M_SL1_indexOf.2.1 14 = .ok (.istore_n 2, 1) := by decide +kernel
theorem d_SL1_indexOf_15 : decode M_SL1_indexOf.2.1 15 = .ok (.iload_n 3, 1) := by decide +kernel
theorem d_SL1_indexOf_16 : decode M_SL1_indexOf.2.1 16 = .ok (.aload_n 0, 1) := by decide +kernel
theorem d_SL1_indexOf_17 : decode M_SL1_indexOf.2.1 17 = .ok (.arraylength, 1) := by decide +kernel
theorem d_SL1_indexOf_18 : decode M_SL1_indexOf.2.1 18 = .ok (.invokestatic 38, 3) := by decide +kernel
theorem xw_775 : (Jvm.Cond.methodLink "java/lang/StringLatin1" (38 : Nat) ({ cls := "java/lang/Math", name := "min", desc := "(II)I" } : Jvm.MethodName)) ∈ xT := xT_at 775 (by decide +kernel) (by decide +kernel)
theorem d_SL1_indexOf_21 : decode M_SL1_indexOf.2.1 21 = .ok (.istore_n 3, 1) := by decide +kernel
theorem d_SL1_indexOf_22 : decode M_SL1_indexOf.2.1 22 = .ok (.iload_n 2, 1) := by decide +kernel
theorem d_SL1_indexOf_23 : decode M_SL1_indexOf.2.1 23 = .ok (.iload_n 3, 1) := by decide +kernel
theorem d_SL1_indexOf_24 : decode M_SL1_indexOf.2.1 24 = .ok (.if_icmp .lt 5, 3) := by decide +kernel
theorem d_SL1_indexOf_27 : decode M_SL1_indexOf.2.1 27 = .ok (.iconst (-1), 1) := by decide +kernel
theorem d_SL1_indexOf_28 : decode M_SL1_indexOf.2.1 28 = .ok (.ireturn, 1) := by decide +kernel
theorem d_SL1_indexOf_29 : decode M_SL1_indexOf.2.1 29 = .ok (.aload_n 0, 1) := by decide +kernel
theorem d_SL1_indexOf_30 : decode M_SL1_indexOf.2.1 30 = .ok (.iload_n 1, 1) := by decide +kernel
theorem d_SL1_indexOf_31 : decode M_SL1_indexOf.2.1 31 = .ok (.iload_n 2, 1) := by decide +kernel
theorem d_SL1_indexOf_32 : decode M_SL1_indexOf.2.1 32 = .ok (.iload_n 3, 1) := by decide +kernel
theorem d_SL1_indexOf_33 : decode M_SL1_indexOf.2.1 33 = .ok (.invokestatic 95, 3) := by decide +kernel
theorem xw_778 : (Jvm.Cond.code ({ cls := "java/lang/StringLatin1", name := "indexOfChar", desc := "([BIII)I" } : Jvm.MethodName) prog_27_method_23_code (6 : Nat) (Option.some Jvm.ClassFile.FieldType.int)) ∈ xT := xT_at 778 (by decide +kernel) (by decide +kernel)
theorem xcb_SL1_indexOfChar : xcb M_SL1_indexOfChar 4 := ⟨xw_778, xw_13, by decide, by decide, by decide, by decide +kernel⟩
theorem xw_776 : (Jvm.Cond.methodLink "java/lang/StringLatin1" (95 : Nat) ({ cls := "java/lang/StringLatin1", name := "indexOfChar", desc := "([BIII)I" } : Jvm.MethodName)) ∈ xT := xT_at 776 (by decide +kernel) (by decide +kernel)
theorem xw_777 : (Jvm.Cond.static ({ cls := "java/lang/StringLatin1", name := "indexOfChar", desc := "([BIII)I" } : Jvm.MethodName)) ∈ xT := xT_at 777 (by decide +kernel) (by decide +kernel)
theorem xcs_SL1_95 : xCS "java/lang/StringLatin1" 95 M_SL1_indexOfChar 4 := ⟨xcb_SL1_indexOfChar, xw_777, Or.inl xw_776⟩
theorem d_SL1_indexOf_36 : decode M_SL1_indexOf.2.1 36 = .ok (.ireturn, 1) := by decide +kernel
abbrev y_String_indexOf_II : MethodName := ⟨"java/lang/String", "indexOf", "(II)I"⟩
abbrev M_String_indexOf_II : XMt := (y_String_indexOf_II, prog_25_method_80_code, 3, (some .int))
theorem d_String_indexOf_II_0 : decode M_String_indexOf_II.2.1 0 = .ok (.aload_n 0, 1) := by decide +kernel
theorem d_String_indexOf_II_1 : decode M_String_indexOf_II.2.1 1 = .ok (.invokevirtual 492, 3) := by decide +kernel
theorem d_String_indexOf_II_4 : decode M_String_indexOf_II.2.1 4 = .ok (.ifCond .eq 19, 3) := by decide +kernel
theorem d_String_indexOf_II_7 : decode M_String_indexOf_II.2.1 7 = .ok (.aload_n 0, 1) := by decide +kernel
theorem d_String_indexOf_II_8 : decode M_String_indexOf_II.2.1 8 = .ok (.getfield 9, 3) := by decide +kernel
theorem d_String_indexOf_II_11 : decode M_String_indexOf_II.2.1 11 = .ok (.iload_n 1, 1) := by decide +kernel
theorem d_String_indexOf_II_12 : decode M_String_indexOf_II.2.1 12 = .ok (.iload_n 2, 1) := by decide +kernel
theorem d_String_indexOf_II_13 : decode M_String_indexOf_II.2.1 13 = .ok (.aload_n 0, 1) := by decide +kernel
theorem d_String_indexOf_II_14 : decode M_String_indexOf_II.2.1 14 = .ok (.invokevirtual 505, 3) := by decide +kernel
theorem d_String_indexOf_II_17 : decode M_String_indexOf_II.2.1 17 = .ok (.invokestatic 637, 3) := by decide +kernel
theorem xw_770 : (Jvm.Cond.code ({ cls := "java/lang/StringLatin1", name := "indexOf", desc := "([BIII)I" } : Jvm.MethodName) prog_27_method_22_code (4 : Nat) (Option.some Jvm.ClassFile.FieldType.int)) ∈ xT := xT_at 770 (by decide +kernel) (by decide +kernel)
theorem xcb_SL1_indexOf : xcb M_SL1_indexOf 4 := ⟨xw_770, xw_13, by decide, by decide, by decide, by decide +kernel⟩
theorem xw_768 : (Jvm.Cond.methodLink "java/lang/String" (637 : Nat) ({ cls := "java/lang/StringLatin1", name := "indexOf", desc := "([BIII)I" } : Jvm.MethodName)) ∈ xT := xT_at 768 (by decide +kernel) (by decide +kernel)
theorem xw_769 : (Jvm.Cond.static ({ cls := "java/lang/StringLatin1", name := "indexOf", desc := "([BIII)I" } : Jvm.MethodName)) ∈ xT := xT_at 769 (by decide +kernel) (by decide +kernel)
theorem xcs_String_637 : xCS "java/lang/String" 637 M_SL1_indexOf 4 := ⟨xcb_SL1_indexOf, xw_769, Or.inl xw_768⟩
theorem d_String_indexOf_II_20 : decode M_String_indexOf_II.2.1 20 = .ok (.goto 16, 3) := by decide +kernel
theorem d_String_indexOf_II_36 : decode M_String_indexOf_II.2.1 36 = .ok (.ireturn, 1) := by decide +kernel
abbrev y_String_indexOf_I : MethodName := ⟨"java/lang/String", "indexOf", "(I)I"⟩
abbrev M_String_indexOf_I : XMt := (y_String_indexOf_I, prog_25_method_79_code, 2, (some .int))
theorem d_String_indexOf_I_0 : decode M_String_indexOf_I.2.1 0 = .ok (.aload_n 0, 1) := by decide +kernel
theorem d_String_indexOf_I_1 : decode M_String_indexOf_I.2.1 1 = .ok (.iload_n 1, 1) := by decide +kernel
theorem d_String_indexOf_I_2 : decode M_String_indexOf_I.2.1 2 = .ok (.iconst 0, 1) := by decide +kernel
theorem d_String_indexOf_I_3 : decode M_String_indexOf_I.2.1 3 = .ok (.invokevirtual 633, 3) := by decide +kernel
theorem xw_766 : (Jvm.Cond.code ({ cls := "java/lang/String", name := "indexOf", desc := "(II)I" } : Jvm.MethodName) prog_25_method_80_code (3 : Nat) (Option.some Jvm.ClassFile.FieldType.int)) ∈ xT := xT_at 766 (by decide +kernel) (by decide +kernel)
theorem xcb_String_indexOf_II : xcb M_String_indexOf_II 2 := ⟨xw_766, xw_4, by decide, by decide, by decide, by decide +kernel⟩
theorem xw_764 : (Jvm.Cond.instanceMethod ({ cls := "java/lang/String", name := "indexOf", desc := "(II)I" } : Jvm.MethodName)) ∈ xT := xT_at 764 (by decide +kernel) (by decide +kernel)
theorem xw_763 : (Jvm.Cond.methodLink "java/lang/String" (633 : Nat) ({ cls := "java/lang/String", name := "indexOf", desc := "(II)I" } : Jvm.MethodName)) ∈ xT := xT_at 763 (by decide +kernel) (by decide +kernel)
theorem xw_765 : (Jvm.Cond.selects "java/lang/String" ({ cls := "java/lang/String", name := "indexOf", desc := "(II)I" } : Jvm.MethodName) ({ cls := "java/lang/String", name := "indexOf", desc := "(II)I" } : Jvm.MethodName)) ∈ xT := xT_at 765 (by decide +kernel) (by decide +kernel)
theorem xcv_String_633_String : xCV "java/lang/String" 633 "java/lang/String" M_String_indexOf_II 2 := ⟨xcb_String_indexOf_II, xw_764, Or.inl ⟨xw_763, Or.inl xw_765⟩⟩
theorem d_String_indexOf_I_6 : decode M_String_indexOf_I.2.1 6 = .ok (.ireturn, 1) := by decide +kernel
end
section SB5
variable {l : Launch} {G : XG} {h : XH} {c n d : Nat}
theorem c_getBytes (hd : 1 ≤ d) {b va p : Nat} {u : List Nat} {vs : List Value} (hS : isS G h b u) (hv : h va = some (k_abyte, vs)) (hp : p + u.length ≤ vs.length) (hl : vs.length < 2 ^ 20) : XM l G d M_String_getBytes [.ref b, .ref va, .int (nI p), .int 0] h c n (fun v h' c' n' => v = none ∧ h' = xup h va (k_abyte, xcopy (xby u) vs 0 p u.length) ∧ c' = c ∧ n' = n) := by
  obtain ⟨d, rfl⟩ : ∃ q, d = q + 1 := ⟨d - 1, by omega⟩
  obtain ⟨vb, e, hb, hvb, hat⟩ := hS
  refine XM.of (by decide +kernel) (Nat.le_of_ble_eq_true rfl) ?_
  refine x_aload_n d_String_getBytes_0 rfl rfl ?_
  refine x_callV (As := []) (k := k_String) rfl xcv_String_335_String hb (c_String_coder hb) rfl rfl (Nat.le_of_ble_eq_true rfl) d_String_getBytes_1 ?_
  rintro v h' c' n' ⟨rfl, rfl, rfl, rfl⟩
  refine x_iload_n d_String_getBytes_4 rfl ?_
  refine x_icmp_ne (tgt := 28) d_String_getBytes_5 (by decide) (fun ht => absurd rfl ht) (fun _ => ?_)
  refine x_aload_n d_String_getBytes_8 rfl rfl ?_
  refine x_get xf_String_9_String hb rfl d_String_getBytes_9 ?_
  refine x_iconst (v := 0) d_String_getBytes_12 (by decide) ?_
  refine x_aload_n d_String_getBytes_13 rfl rfl ?_
  refine x_iload_n d_String_getBytes_14 rfl ?_
  refine x_iload_n d_String_getBytes_15 rfl ?_
  refine x_ishl d_String_getBytes_16 ?_
  refine x_top (w := .int (nI p)) (by rw [sb_shl0]) ?_
  refine x_aload_n d_String_getBytes_17 rfl rfl ?_
  refine x_get xf_String_9_String hb rfl d_String_getBytes_18 ?_
  refine x_alen (k := k_asbyte) rfl hvb (v := nI u.length) (by rw [xby_len]; rfl) d_String_getBytes_21 ?_
  refine x_copyP (k0 := k_asbyte) (k := k_abyte) rfl rfl rfl xw_595 xw_220 xw_219 xw_12 hvb hv (by decide) (nI_pos (by omega)) (nI_pos (by omega)) (by rw [nI_clamp (by omega), xby_len]; exact Nat.le_of_eq (by simp)) (by rw [nI_clamp (by omega), nI_clamp (by omega)]; exact hp) (xby_fit hat) (Nat.le_of_ble_eq_true rfl) d_String_getBytes_22 ?_
  refine x_goto (tgt := 43) d_String_getBytes_25 (by decide) ?_
  refine x_vret d_String_getBytes_43 rfl ?_
  exact ⟨rfl, by rw [nI_clamp (by omega), nI_clamp (by omega)]; rfl, rfl, rfl⟩
theorem c_inflateIf (hd : 1 ≤ d) {a va b : Nat} {z k : Value} {u : List Nat} (ha : h a = some (k_StringBuilder, [.ref va, .int 0, z, k])) (hS : isS G h b u) : XM l G d M_ASB_inflateIfNeededFor [.ref a, .ref b] h c n (xVoid h c n) := by
  obtain ⟨d, rfl⟩ : ∃ q, d = q + 1 := ⟨d - 1, by omega⟩
  obtain ⟨vb, e, hb, hvb, hat⟩ := hS
  refine XM.of (by decide +kernel) (Nat.le_of_ble_eq_true rfl) ?_
  refine x_gets xw_51 (List.mem_of_getElem? (i := 0) rfl) d_ASB_inflateIfNeededFor_0 ?_
  refine x_if_eq (tgt := 21) d_ASB_inflateIfNeededFor_3 (by decide) (fun ht => absurd ht (by decide)) (fun _ => ?_)
  refine x_aload_n d_ASB_inflateIfNeededFor_6 rfl rfl ?_
  refine x_get xf_ASB_22_SB (Or.inl ha) rfl d_ASB_inflateIfNeededFor_7 ?_
  refine x_aload_n d_ASB_inflateIfNeededFor_10 rfl rfl ?_
  refine x_callV (As := []) (k := k_String) rfl xcv_ASB_40_String hb (c_String_coder hb) rfl rfl (Nat.le_of_ble_eq_true rfl) d_ASB_inflateIfNeededFor_11 ?_
  rintro v h' c' n' ⟨rfl, rfl, rfl, rfl⟩
  refine x_icmp_eq (tgt := 21) d_ASB_inflateIfNeededFor_14 (by decide) (fun _ => ?_) (fun hn => absurd rfl hn)
  refine x_vret d_ASB_inflateIfNeededFor_21 rfl ?_
  exact ⟨rfl, rfl, rfl, rfl⟩
theorem c_putStringAt (hd : 2 ≤ d) {a va b p : Nat} {z k : Value} {u : List Nat} {vs : List Value} (ha : h a = some (k_StringBuilder, [.ref va, .int 0, z, k])) (hS : isS G h b u) (hv : h va = some (k_abyte, vs)) (hp : p + u.length ≤ vs.length) (hl : vs.length < 2 ^ 20) : XM l G d M_ASB_putStringAt [.ref a, .int (nI p), .ref b] h c n (fun v h' c' n' => v = none ∧ h' = xup h va (k_abyte, xcopy (xby u) vs 0 p u.length) ∧ c' = c ∧ n' = n) := by
  obtain ⟨d, rfl⟩ : ∃ q, d = q + 1 := ⟨d - 1, by omega⟩
  obtain ⟨vb, e, hb, hvb, hat⟩ := id hS
  refine XM.of (by decide +kernel) (Nat.le_of_ble_eq_true rfl) ?_
  refine x_aload_n d_ASB_putStringAt_0 rfl rfl ?_
  refine x_aload_n d_ASB_putStringAt_1 rfl rfl ?_
  refine x_callV (As := [_]) (k := k_StringBuilder) rfl xcv_ASB_397_SB (Or.inl ha) (c_inflateIf (by omega) ha hS) rfl rfl (Nat.le_of_ble_eq_true rfl) d_ASB_putStringAt_2 ?_
  rintro v h' c' n' ⟨rfl, rfl, rfl, rfl⟩
  refine x_aload_n d_ASB_putStringAt_5 rfl rfl ?_
  refine x_aload_n d_ASB_putStringAt_6 rfl rfl ?_
  refine x_get xf_ASB_15_SB (Or.inl ha) rfl d_ASB_putStringAt_7 ?_
  refine x_iload_n d_ASB_putStringAt_10 rfl ?_
  refine x_aload_n d_ASB_putStringAt_11 rfl rfl ?_
  refine x_get xf_ASB_22_SB (Or.inl ha) rfl d_ASB_putStringAt_12 ?_
  refine x_callV (As := [_, _, _]) (k := k_String) rfl xcv_ASB_399_String hb (c_getBytes (by omega) hS hv hp hl) rfl rfl (Nat.le_of_ble_eq_true rfl) d_ASB_putStringAt_15 ?_
  rintro v h' c' n' ⟨rfl, rfl, rfl, rfl⟩
  refine x_vret d_ASB_putStringAt_18 rfl ?_
  exact ⟨rfl, rfl, rfl, rfl⟩
theorem xcopy_end {t u : List Nat} {bs : List Value} (hb : u.length ≤ bs.length) : xcopy (xby u) (xby t ++ bs) 0 t.length u.length = xby (t ++ u) ++ bs.drop u.length := by
  unfold xcopy
  rw [List.take_append_of_le_length (by rw [xby_len]; exact Nat.le_refl _), List.take_of_length_le (by rw [xby_len]; exact Nat.le_refl _), List.drop_zero, List.take_of_length_le (by rw [xby_len]; exact Nat.le_refl _)]
  rw [← xby_len t, List.drop_append, xby_len]
  simp [xby]
theorem c_ASB_append_S (hd : 4 ≤ d) {K a va b m : Nat} {t u : List Nat} (hB : isB h a va t m) (hS : isS G h b u) (hK : K < 2 ^ 16) (hm : m ≤ K) (hL : 2 * (t.length + u.length) + 2 ≤ K) (hc : c + K ≤ xCB + m) (hn : n + 2 * K ≤ xSB + 2 * m) : XM l G d M_ASB_append_String [.ref a, .ref b] h c n (fun v h' c' n' => v = some (.ref a) ∧ pB K a va (t ++ u) m h c n h' c' n') := by
  obtain ⟨d, rfl⟩ : ∃ q, d = q + 1 := ⟨d - 1, by omega⟩
  obtain ⟨z, bs, ha, hv, hl, hbf, hat⟩ := hB
  obtain ⟨vb, e, hb, hvb, hbt⟩ := id hS
  have hat' : xasc (t ++ u) := fun x hx => (List.mem_append.mp hx).elim (hat x) (hbt x)
  have hav : a ≠ va := fun e => by rw [e, hv] at ha; cases ha
  have hvl : (xby t ++ bs).length = m := by rw [List.length_append, xby_len]; exact hl
  have fin : ∀ (h1 : XH) (v1 : Nat) (bs1 : List Value) (c1 n1 : Nat), isS G h1 b u → h1 a = some (k_StringBuilder, [.ref v1, .int 0, .int z, .int (nI t.length)]) → h1 v1 = some (k_abyte, xby t ++ bs1) → u.length ≤ bs1.length → bs1.length < 2 ^ 18 → a ≠ v1 →
      pB K a va (t ++ u) m h c n (xup (xup h1 v1 (k_abyte, xby (t ++ u) ++ bs1.drop u.length)) a (k_StringBuilder, [.ref v1, .int 0, .int z, .int (nI (t ++ u).length)])) c1 n1 →
      XW l G M_ASB_append_String (d + 1) 24 [some (.ref a), some (.ref b), some (.int (nI u.length))] [] h1 c1 n1 (fun v h' c' n' => v = some (.ref a) ∧ pB K a va (t ++ u) m h c n h' c' n') := by
    intro h1 v1 bs1 c1 n1 hS1 e1 e2 e3 e3' e4 hP
    obtain ⟨vb1, x1, hb1, -⟩ := id hS1
    refine x_aload_n d_ASB_append_String_24 rfl rfl ?_
    refine x_aload_n d_ASB_append_String_25 rfl rfl ?_
    refine x_get xf_ASB_79_SB (Or.inl e1) rfl d_ASB_append_String_26 ?_
    refine x_aload_n d_ASB_append_String_29 rfl rfl ?_
    refine x_callV (As := [_, _]) (k := k_StringBuilder) rfl xcv_ASB_208_SB (Or.inl e1) (c_putStringAt (by omega) e1 hS1 e2 (p := t.length) (by rw [List.length_append, xby_len]; omega) (by rw [List.length_append, xby_len]; omega)) rfl rfl (Nat.le_of_ble_eq_true rfl) d_ASB_append_String_30 ?_
    rintro v h' c' n' ⟨rfl, rfl, rfl, rfl⟩
    rw [xcopy_end e3]
    refine x_aload_n d_ASB_append_String_33 rfl rfl ?_
    refine x_dup d_ASB_append_String_34 rfl ?_
    refine x_get xf_ASB_79_SB (Or.inl (by rw [xup_ne e4]; exact e1)) rfl d_ASB_append_String_35 ?_
    refine x_iload_n d_ASB_append_String_38 rfl ?_
    refine x_iadd d_ASB_append_String_39 ?_
    refine x_top (w := .int (nI (t ++ u).length)) (by rw [nI_add, List.length_append]) ?_
    refine x_put xf_ASB_79_SB xp_SB_3 rfl rfl (by rw [xup_ne e4]; exact e1) rfl rfl d_ASB_append_String_40 ?_
    refine x_aload_n d_ASB_append_String_43 rfl rfl ?_
    refine x_aret d_ASB_append_String_44 rfl rfl ?_
    exact ⟨rfl, hP⟩
  refine XM.of (by decide +kernel) (Nat.le_of_ble_eq_true rfl) ?_
  refine x_aload_n d_ASB_append_String_0 rfl rfl ?_
  refine x_ifnonnull (tgt := 9) d_ASB_append_String_1 (by decide) ?_
  refine x_aload_n d_ASB_append_String_9 rfl rfl ?_
  refine x_callV (As := []) (k := k_String) rfl xcv_ASB_32_String hb (c_String_length (by omega) hS) rfl rfl (Nat.le_of_ble_eq_true rfl) d_ASB_append_String_10 ?_
  rintro v h' c' n' ⟨rfl, rfl, rfl, rfl⟩
  refine x_istore_n (L' := [_, _, _]) d_ASB_append_String_13 rfl rfl ?_
  refine x_aload_n d_ASB_append_String_14 rfl rfl ?_
  refine x_aload_n d_ASB_append_String_15 rfl rfl ?_
  refine x_get xf_ASB_79_SB (Or.inl ha) rfl d_ASB_append_String_16 ?_
  refine x_iload_n d_ASB_append_String_19 rfl ?_
  refine x_iadd d_ASB_append_String_20 ?_
  refine x_top (w := .int (nI (t.length + u.length))) (by rw [nI_add]) ?_
  by_cases hbs : u.length ≤ bs.length
  · refine x_callV (As := [_]) (k := k_StringBuilder) rfl xcv_ASB_100_SB (Or.inl ha) (c_ensure_no (Nat.zero_le _) ha hv (by rw [hvl]; omega) (by rw [hvl]; omega)) rfl rfl (Nat.le_of_ble_eq_true rfl) d_ASB_append_String_21 ?_
    rintro v h' c' n' ⟨rfl, rfl, rfl, rfl⟩
    refine fin h' va bs c' n' hS ha hv hbs (by omega) hav ⟨va, m, ⟨z, bs.drop u.length, xup_self, by rw [xup_ne (Ne.symm hav), xup_self], by simp; omega, fun v hv => hbf v (List.mem_of_mem_drop hv), hat'⟩, ?_, Or.inl rfl, by omega⟩
    exact (xfr.rf.up (Or.inl (by simp))).up (Or.inl (by simp))
  · have hvs : ∀ v ∈ xby t ++ bs, fits .byte v = true := fun v hv => (List.mem_append.mp hv).elim (xby_fit hat v) (hbf v)
    have hmx : max (t.length + u.length) (2 * (xby t ++ bs).length + 2) = max (t.length + u.length) (2 * m + 2) := by rw [hvl]
    refine x_callV (As := [_]) (k := k_StringBuilder) rfl xcv_ASB_100_SB (Or.inl ha) (c_ensure_yes (by omega) ha hv hvs (by rw [hvl]; omega) (by omega) (by omega) (by rw [hmx]; omega)) rfl rfl (Nat.le_of_ble_eq_true rfl) d_ASB_append_String_21 ?_
    rintro v h' c' n' ⟨rfl, q, hq, rfl, rfl, rfl⟩
    rw [hmx, hvl]
    have haq : a ≠ q := fun e => by rw [e, hq] at ha; cases ha
    refine fin _ q (bs ++ List.replicate (max (t.length + u.length) (2 * m + 2) - m) (.int 0)) _ _ ?_ xup_self (by rw [xup_ne (Ne.symm haq), xup_self]; simp) (by simp; omega) (by simp; omega) haq ⟨q, max (t.length + u.length) (2 * m + 2), ⟨z, (bs ++ List.replicate (max (t.length + u.length) (2 * m + 2) - m) (Value.int 0)).drop u.length, xup_self, by rw [xup_ne (Ne.symm haq), xup_self], by simp; omega, fun v hv => ?_, hat'⟩, ?_, Or.inr hq, by omega⟩
    · refine (hS.up hq).fr (F := [a]) (xfr.rf.up (Or.inl (by simp))) (fun q' hq' e' he' => ?_)
      rw [List.mem_singleton] at hq'
      subst hq'
      rw [xup_ne haq, ha] at he'
      cases he'
      show ¬ k_StringBuilder ∈ [k_String, k_asbyte]
      decide
    · rcases List.mem_append.mp (List.mem_of_mem_drop hv) with q1 | q1
      · exact hbf v q1
      · rw [(List.mem_replicate.mp q1).2]; rfl
    · exact (((xfr.rf.up (Or.inr hq)).up (Or.inl (by simp))).up (Or.inr hq)).up (Or.inl (by simp))
theorem c_SB_append_S (hd : 5 ≤ d) {K a va b m : Nat} {t u : List Nat} (hB : isB h a va t m) (hS : isS G h b u) (hK : K < 2 ^ 16) (hm : m ≤ K) (hL : 2 * (t.length + u.length) + 2 ≤ K) (hc : c + K ≤ xCB + m) (hn : n + 2 * K ≤ xSB + 2 * m) : XM l G d M_SB_append_String [.ref a, .ref b] h c n (fun v h' c' n' => v = some (.ref a) ∧ pB K a va (t ++ u) m h c n h' c' n') := by
  obtain ⟨d, rfl⟩ : ∃ q, d = q + 1 := ⟨d - 1, by omega⟩
  obtain ⟨z, bs, ha, -⟩ := id hB
  refine XM.of (by decide +kernel) (Nat.le_of_ble_eq_true rfl) ?_
  refine x_aload_n d_SB_append_String_0 rfl rfl ?_
  refine x_aload_n d_SB_append_String_1 rfl rfl ?_
  refine x_callU (As := [_]) (k := k_StringBuilder) rfl xcu_SB_29 (Or.inl ha) (c_ASB_append_S (by omega) hB hS hK hm hL hc hn) rfl rfl (Nat.le_of_ble_eq_true rfl) d_SB_append_String_2 ?_
  rintro v h' c' n' ⟨rfl, hp⟩
  refine x_pop d_SB_append_String_5 rfl ?_
  refine x_aload_n d_SB_append_String_6 rfl rfl ?_
  refine x_aret d_SB_append_String_7 rfl rfl ?_
  exact ⟨rfl, hp⟩
/-! indexOf -/
/-- the first place of a character, or -1 -/
def xix (t : List Nat) (ch : Nat) : Int32 := if ch ∈ t then nI (t.idxOf ch) else -1
theorem lp_indexOfChar {va ch : Nat} {t : List Nat} {P : Option Value → XH → Nat → Nat → Prop} (hv : xr G h va k_asbyte (xby t)) (ht : xasc t) (hch : ch < 128) (hl : t.length < 2 ^ 30) (hP : P (some (.int (xix t ch))) h c n) :
    ∀ (k i : Nat), i + k = t.length → ch ∉ t.take i → XW l G M_SL1_indexOfChar d 7 [some (.ref va), some (.int (nI ch)), some (.int (nI 0)), some (.int (nI t.length)), some (.int (nI ch)), some (.int (nI i))] [] h c n P := by
  intro k
  induction k with
  | zero =>
    intro i hi he
    rw [List.take_of_length_le (by omega)] at he
    unfold xix at hP
    rw [if_neg he] at hP
    refine x_iload d_SL1_indexOfChar_7 rfl ?_
    refine x_iload_n d_SL1_indexOfChar_9 rfl ?_
    refine x_icmp_ge (tgt := 31) d_SL1_indexOfChar_10 (by decide) (fun _ => ?_) (fun hn => absurd (nI_le (by omega) (by omega)) hn)
    refine x_iconst (v := (-1)) d_SL1_indexOfChar_31 (by decide) ?_
    refine x_iret d_SL1_indexOfChar_32 rfl ?_
    exact hP
  | succ k ih =>
    intro i hi he
    have hit : i < t.length := by omega
    have e1 := ht t[i] (List.getElem_mem hit)
    refine x_iload d_SL1_indexOfChar_7 rfl ?_
    refine x_iload_n d_SL1_indexOfChar_9 rfl ?_
    refine x_icmp_ge (tgt := 31) d_SL1_indexOfChar_10 (by decide) (fun ht => absurd ht (nI_ge hit (by omega))) (fun _ => ?_)
    refine x_aload_n d_SL1_indexOfChar_13 rfl rfl ?_
    refine x_iload d_SL1_indexOfChar_14 rfl ?_
    refine x_bald (k := k_asbyte) rfl hv (nI_pos (by omega)) (by rw [nI_clamp (by omega)]; exact xby_at hit) d_SL1_indexOfChar_16 ?_
    refine x_iload d_SL1_indexOfChar_17 rfl ?_
    by_cases hq : t[i] = ch
    · have hm : ch ∈ t := by rw [← hq]; exact List.getElem_mem hit
      have hx : t.idxOf ch = i := by
        have h1 : t = t.take i ++ (ch :: t.drop (i + 1)) := by rw [← hq, ← List.drop_eq_getElem_cons hit, List.take_append_drop]
        have hli : (t.take i).length = i := by rw [List.length_take]; omega
        rw [h1, List.idxOf_append, if_neg he, List.idxOf_cons_self, hli, Nat.zero_add]
      unfold xix at hP
      rw [if_pos hm, hx] at hP
      refine x_icmp_ne (tgt := 25) d_SL1_indexOfChar_19 (by decide) (fun ht => absurd (by rw [hq]) ht) (fun _ => ?_)
      refine x_iload d_SL1_indexOfChar_22 rfl ?_
      refine x_iret d_SL1_indexOfChar_24 rfl ?_
      exact hP
    · refine x_icmp_ne (tgt := 25) d_SL1_indexOfChar_19 (by decide) (fun _ => ?_) (fun hn => absurd hn (by rw [nI_eq (by omega) (by omega)]; exact hq))
      refine x_iinc (v := nI (i + 1)) (L' := [_, _, _, _, _, _]) d_SL1_indexOfChar_25 rfl (by exact xw_iinc1) rfl rfl ?_
      refine x_goto (tgt := 7) d_SL1_indexOfChar_28 (by decide) ?_
      refine ih (i + 1) (by omega) ?_
      rw [List.take_succ_eq_append_getElem hit, List.mem_append, List.mem_singleton]
      rintro (q | q)
      · exact he q
      · exact hq q.symm
theorem c_SL1_canEncode_I {q : Nat} (hq : q < 256) : XM l G d M_SL1_canEncode_I [.int (nI q)] h c n (xSame (.int 1) h c n) := by
  refine XM.of (by decide +kernel) (Nat.le_of_ble_eq_true rfl) ?_
  refine x_iload_n d_SL1_canEncode_I_0 rfl ?_
  refine x_if_lt (tgt := 15) d_SL1_canEncode_I_1 (by decide) (fun ht => absurd ht (nI_pos (by omega))) (fun _ => ?_)
  refine x_iload_n d_SL1_canEncode_I_4 rfl ?_
  refine x_sipush (v := 255) d_SL1_canEncode_I_5 (by decide) ?_
  refine x_icmp_gt (tgt := 15) d_SL1_canEncode_I_8 (by decide) (fun ht => absurd ht (by exact nI_nlt (a := 255) (b := q) (by omega) (by omega))) (fun _ => ?_)
  refine x_iconst (v := 1) d_SL1_canEncode_I_11 (by decide) ?_
  refine x_goto (tgt := 16) d_SL1_canEncode_I_12 (by decide) ?_
  refine x_zret d_SL1_canEncode_I_16 rfl rfl ?_
  exact ⟨rfl, rfl, rfl, rfl⟩
theorem c_indexOfChar {va ch : Nat} {t : List Nat} (hv : xr G h va k_asbyte (xby t)) (ht : xasc t) (hch : ch < 128) (hl : t.length < 2 ^ 30) : XM l G d M_SL1_indexOfChar [.ref va, .int (nI ch), .int (nI 0), .int (nI t.length)] h c n (xSame (.int (xix t ch)) h c n) := by
  obtain ⟨-, f2, -⟩ := xfit1 ch hch
  refine XM.of (by decide +kernel) (Nat.le_of_ble_eq_true rfl) ?_
  refine x_iload_n d_SL1_indexOfChar_0 rfl ?_
  refine x_i2b d_SL1_indexOfChar_1 ?_
  refine x_top (w := .int (nI ch)) (by rw [f2]) ?_
  refine x_istore (L' := [_, _, _, _, _, _]) d_SL1_indexOfChar_2 rfl rfl ?_
  refine x_iload_n d_SL1_indexOfChar_4 rfl ?_
  refine x_istore (L' := [_, _, _, _, _, _]) d_SL1_indexOfChar_5 rfl rfl ?_
  exact lp_indexOfChar hv ht hch hl ⟨rfl, rfl, rfl, rfl⟩ t.length 0 (by omega) (by simp)
theorem c_SL1_indexOf (hd : 1 ≤ d) {va ch : Nat} {t : List Nat} (hv : xr G h va k_asbyte (xby t)) (ht : xasc t) (hch : ch < 128) (hl : t.length < 2 ^ 30) : XM l G d M_SL1_indexOf [.ref va, .int (nI ch), .int (nI 0), .int (nI t.length)] h c n (xSame (.int (xix t ch)) h c n) := by
  obtain ⟨d, rfl⟩ : ∃ q, d = q + 1 := ⟨d - 1, by omega⟩
  refine XM.of (by decide +kernel) (Nat.le_of_ble_eq_true rfl) ?_
  refine x_iload_n d_SL1_indexOf_0 rfl ?_
  refine x_callS (As := [_]) xcs_SL1_88 (c_SL1_canEncode_I (by omega)) rfl rfl (Nat.le_of_ble_eq_true rfl) d_SL1_indexOf_1 ?_
  rintro v h' c' n' ⟨rfl, rfl, rfl, rfl⟩
  refine x_if_ne (tgt := 9) d_SL1_indexOf_4 (by decide) (fun _ => ?_) (fun hn => absurd hn (by decide))
  refine x_iload_n d_SL1_indexOf_9 rfl ?_
  refine x_iconst (v := 0) d_SL1_indexOf_10 (by decide) ?_
  refine x_mmax xw_774 xw_198 xw_10 xw_199 (Nat.le_of_ble_eq_true rfl) d_SL1_indexOf_11 ?_
  refine x_top (w := .int (nI 0)) (by rfl) ?_
  refine x_istore_n (L' := [_, _, _, _]) d_SL1_indexOf_14 rfl rfl ?_
  refine x_iload_n d_SL1_indexOf_15 rfl ?_
  refine x_aload_n d_SL1_indexOf_16 rfl rfl ?_
  refine x_alen (k := k_asbyte) rfl hv (v := nI t.length) (by rw [xby_len]; rfl) d_SL1_indexOf_17 ?_
  refine x_mmin xw_775 xw_216 xw_10 xw_217 (Nat.le_of_ble_eq_true rfl) d_SL1_indexOf_18 ?_
  refine x_top (w := .int (nI t.length)) (by rw [nI_min (by omega) (by omega), Nat.min_self]) ?_
  refine x_istore_n (L' := [_, _, _, _]) d_SL1_indexOf_21 rfl rfl ?_
  refine x_iload_n d_SL1_indexOf_22 rfl ?_
  refine x_iload_n d_SL1_indexOf_23 rfl ?_
  by_cases h0 : t.length = 0
  · have e : t = [] := List.eq_nil_of_length_eq_zero h0
    subst e
    refine x_icmp_lt (tgt := 29) d_SL1_indexOf_24 (by decide) (fun ht => absurd ht (by decide)) (fun _ => ?_)
    refine x_iconst (v := (-1)) d_SL1_indexOf_27 (by decide) ?_
    refine x_iret d_SL1_indexOf_28 rfl ?_
    exact ⟨rfl, rfl, rfl, rfl⟩
  · refine x_icmp_lt (tgt := 29) d_SL1_indexOf_24 (by decide) (fun _ => ?_) (fun hn => absurd (nI_lt (by omega) (by omega)) hn)
    refine x_aload_n d_SL1_indexOf_29 rfl rfl ?_
    refine x_iload_n d_SL1_indexOf_30 rfl ?_
    refine x_iload_n d_SL1_indexOf_31 rfl ?_
    refine x_iload_n d_SL1_indexOf_32 rfl ?_
    refine x_callS (As := [_, _, _, _]) xcs_SL1_95 (c_indexOfChar hv ht hch hl) rfl rfl (Nat.le_of_ble_eq_true rfl) d_SL1_indexOf_33 ?_
    rintro v h' c' n' ⟨rfl, rfl, rfl, rfl⟩
    refine x_iret d_SL1_indexOf_36 rfl ?_
    exact ⟨rfl, rfl, rfl, rfl⟩
theorem c_String_indexOf_II (hd : 2 ≤ d) {a ch : Nat} {t : List Nat} (hS : isS G h a t) (hch : ch < 128) (hl : t.length < 2 ^ 30) : XM l G d M_String_indexOf_II [.ref a, .int (nI ch), .int (nI 0)] h c n (xSame (.int (xix t ch)) h c n) := by
  obtain ⟨d, rfl⟩ : ∃ q, d = q + 1 := ⟨d - 1, by omega⟩
  obtain ⟨va, e, ha, hv, hat⟩ := id hS
  refine XM.of (by decide +kernel) (Nat.le_of_ble_eq_true rfl) ?_
  refine x_aload_n d_String_indexOf_II_0 rfl rfl ?_
  refine x_callV (As := []) (k := k_String) rfl xcv_String_492_String ha (c_String_isLatin1 ha) rfl rfl (Nat.le_of_ble_eq_true rfl) d_String_indexOf_II_1 ?_
  rintro v h' c' n' ⟨rfl, rfl, rfl, rfl⟩
  refine x_if_eq (tgt := 23) d_String_indexOf_II_4 (by decide) (fun ht => absurd ht (by decide)) (fun _ => ?_)
  refine x_aload_n d_String_indexOf_II_7 rfl rfl ?_
  refine x_get xf_String_9_String ha rfl d_String_indexOf_II_8 ?_
  refine x_iload_n d_String_indexOf_II_11 rfl ?_
  refine x_iload_n d_String_indexOf_II_12 rfl ?_
  refine x_aload_n d_String_indexOf_II_13 rfl rfl ?_
  refine x_callV (As := []) (k := k_String) rfl xcv_String_505_String ha (c_String_length (by omega) hS) rfl rfl (Nat.le_of_ble_eq_true rfl) d_String_indexOf_II_14 ?_
  rintro v h' c' n' ⟨rfl, rfl, rfl, rfl⟩
  refine x_callS (As := [_, _, _, _]) xcs_String_637 (c_SL1_indexOf (by omega) hv hat hch hl) rfl rfl (Nat.le_of_ble_eq_true rfl) d_String_indexOf_II_17 ?_
  rintro v h' c' n' ⟨rfl, rfl, rfl, rfl⟩
  refine x_goto (tgt := 36) d_String_indexOf_II_20 (by decide) ?_
  refine x_iret d_String_indexOf_II_36 rfl ?_
  exact ⟨rfl, rfl, rfl, rfl⟩
theorem c_String_indexOf (hd : 3 ≤ d) {a ch : Nat} {t : List Nat} (hS : isS G h a t) (hch : ch < 128) (hl : t.length < 2 ^ 30) : XM l G d M_String_indexOf_I [.ref a, .int (nI ch)] h c n (xSame (.int (xix t ch)) h c n) := by
  obtain ⟨d, rfl⟩ : ∃ q, d = q + 1 := ⟨d - 1, by omega⟩
  obtain ⟨va, e, ha, hv, hat⟩ := id hS
  refine XM.of (by decide +kernel) (Nat.le_of_ble_eq_true rfl) ?_
  refine x_aload_n d_String_indexOf_I_0 rfl rfl ?_
  refine x_iload_n d_String_indexOf_I_1 rfl ?_
  refine x_iconst (v := 0) d_String_indexOf_I_2 (by decide) ?_
  refine x_callV (As := [_, _]) (k := k_String) rfl xcv_String_633_String ha (c_String_indexOf_II (by omega) hS hch hl) rfl rfl (Nat.le_of_ble_eq_true rfl) d_String_indexOf_I_3 ?_
  rintro v h' c' n' ⟨rfl, rfl, rfl, rfl⟩
  refine x_iret d_String_indexOf_I_6 rfl ?_
  exact ⟨rfl, rfl, rfl, rfl⟩
end SB5
end
section
section
abbrev y_AbC_init : MethodName := ⟨"java/util/AbstractCollection", "<init>", "()V"⟩
abbrev M_AbC_init : XMt := (y_AbC_init, prog_31_method_1_code, 1, none)
theorem d_AbC_init_0 : decode M_AbC_init.2.1 0 = .ok (.aload_n 0, 1) := by decide +kernel
theorem d_AbC_init_1 : decode M_AbC_init.2.1 1 = .ok (.invokespecial 1, 3) := by decide +kernel
theorem xw_840 : (Jvm.Cond.methodLink "java/util/AbstractCollection" (1 : Nat) ({ cls := "java/lang/Object", name := "<init>", desc := "()V" } : Jvm.MethodName)) ∈ xT := xT_at 840 (by decide +kernel) (by decide +kernel)
theorem d_AbC_init_4 : decode M_AbC_init.2.1 4 = .ok (.return_, 1) := by decide +kernel
abbrev y_AbL_init : MethodName := ⟨"java/util/AbstractList", "<init>", "()V"⟩
abbrev M_AbL_init : XMt := (y_AbL_init, prog_32_method_1_code, 1, none)
theorem d_AbL_init_0 : decode M_AbL_init.2.1 0 = .ok (.aload_n 0, 1) := by decide +kernel
theorem d_AbL_init_1 : decode M_AbL_init.2.1 1 = .ok (.invokespecial 1, 3) := by decide +kernel
theorem xw_839 : (Jvm.Cond.code ({ cls := "java/util/AbstractCollection", name := "<init>", desc := "()V" } : Jvm.MethodName) prog_31_method_1_code (1 : Nat) (Option.none : Option Jvm.ClassFile.FieldType)) ∈ xT := xT_at 839 (by decide +kernel) (by decide +kernel)
theorem xw_24 : (Jvm.Cond.initialized "java/util/AbstractCollection") ∈ xT := xT_at 24 (by decide +kernel) (by decide +kernel)
theorem xcb_AbC_init : xcb M_AbC_init 0 := ⟨xw_839, xw_24, by decide, by decide, by decide, by decide +kernel⟩
theorem xw_837 : (Jvm.Cond.methodLink "java/util/AbstractList" (1 : Nat) ({ cls := "java/util/AbstractCollection", name := "<init>", desc := "()V" } : Jvm.MethodName)) ∈ xT := xT_at 837 (by decide +kernel) (by decide +kernel)
theorem xw_838 : (Jvm.Cond.instanceMethod ({ cls := "java/util/AbstractCollection", name := "<init>", desc := "()V" } : Jvm.MethodName)) ∈ xT := xT_at 838 (by decide +kernel) (by decide +kernel)
theorem xci_AbL_1 : xCI "java/util/AbstractList" 1 M_AbC_init 0 := ⟨xcb_AbC_init, rfl, rfl, xw_838, Or.inl xw_837⟩
theorem d_AbL_init_4 : decode M_AbL_init.2.1 4 = .ok (.aload_n 0, 1) := by decide +kernel
theorem d_AbL_init_5 : decode M_AbL_init.2.1 5 = .ok (.iconst 0, 1) := by decide +kernel
theorem d_AbL_init_6 : decode M_AbL_init.2.1 6 = .ok (.putfield 7, 3) := by decide +kernel
theorem xw_845 : (Jvm.Cond.fieldLink "java/util/AbstractList" (7 : Nat) "java/util/AbstractList" "modCount" "I") ∈ xT := xT_at 845 (by decide +kernel) (by decide +kernel)
theorem xf_AbL_7_AL : xF "java/util/AbstractList" 7 k_ArrayList 2 := ⟨_, _, _, "java/util/AbstractList", rfl, by decide, Or.inl xw_845, Or.inl rfl⟩
theorem xp_AL_2 : xP k_ArrayList 2 false .int := ⟨_, _, _, rfl, rfl, by decide +kernel⟩
theorem d_AbL_init_9 : decode M_AbL_init.2.1 9 = .ok (.return_, 1) := by decide +kernel
abbrev y_AL_init : MethodName := ⟨"java/util/ArrayList", "<init>", "()V"⟩
abbrev M_AL_init : XMt := (y_AL_init, prog_33_method_2_code, 1, none)
theorem d_AL_init_0 : decode M_AL_init.2.1 0 = .ok (.aload_n 0, 1) := by decide +kernel
theorem d_AL_init_1 : decode M_AL_init.2.1 1 = .ok (.invokespecial 1, 3) := by decide +kernel
theorem xw_836 : (Jvm.Cond.code ({ cls := "java/util/AbstractList", name := "<init>", desc := "()V" } : Jvm.MethodName) prog_32_method_1_code (1 : Nat) (Option.none : Option Jvm.ClassFile.FieldType)) ∈ xT := xT_at 836 (by decide +kernel) (by decide +kernel)
theorem xw_25 : (Jvm.Cond.initialized "java/util/AbstractList") ∈ xT := xT_at 25 (by decide +kernel) (by decide +kernel)
theorem xcb_AbL_init : xcb M_AbL_init 0 := ⟨xw_836, xw_25, by decide, by decide, by decide, by decide +kernel⟩
theorem xw_834 : (Jvm.Cond.methodLink "java/util/ArrayList" (1 : Nat) ({ cls := "java/util/AbstractList", name := "<init>", desc := "()V" } : Jvm.MethodName)) ∈ xT := xT_at 834 (by decide +kernel) (by decide +kernel)
theorem xw_835 : (Jvm.Cond.instanceMethod ({ cls := "java/util/AbstractList", name := "<init>", desc := "()V" } : Jvm.MethodName)) ∈ xT := xT_at 835 (by decide +kernel) (by decide +kernel)
theorem xci_AL_1 : xCI "java/util/ArrayList" 1 M_AbL_init 0 := ⟨xcb_AbL_init, rfl, rfl, xw_835, Or.inl xw_834⟩
theorem d_AL_init_4 : decode M_AL_init.2.1 4 = .ok (.aload_n 0, 1) := by decide +kernel
theorem d_AL_init_5 : decode M_AL_init.2.1 5 = .ok (.getstatic 39, 3) := by decide +kernel
theorem xw_841 : (Jvm.Cond.fieldLink "java/util/ArrayList" (39 : Nat) "java/util/ArrayList" "DEFAULTCAPACITY_EMPTY_ELEMENTDATA" "[Ljava/lang/Object;") ∈ xT := xT_at 841 (by decide +kernel) (by decide +kernel)
theorem d_AL_init_8 : decode M_AL_init.2.1 8 = .ok (.putfield 9, 3) := by decide +kernel
theorem xw_843 : (Jvm.Cond.fieldLink "java/util/ArrayList" (9 : Nat) "java/util/ArrayList" "elementData" "[Ljava/lang/Object;") ∈ xT := xT_at 843 (by decide +kernel) (by decide +kernel)
theorem xf_AL_9_AL : xF "java/util/ArrayList" 9 k_ArrayList 0 := ⟨_, _, _, "java/util/ArrayList", rfl, by decide, Or.inl xw_843, Or.inl rfl⟩
theorem xp_AL_0 : xP k_ArrayList 0 false (.array (.object "java/lang/Object")) := ⟨_, _, _, rfl, rfl, by decide +kernel⟩
theorem d_AL_init_11 : decode M_AL_init.2.1 11 = .ok (.return_, 1) := by decide +kernel
abbrev y_AL_size : MethodName := ⟨"java/util/ArrayList", "size", "()I"⟩
abbrev M_AL_size : XMt := (y_AL_size, prog_33_method_8_code, 1, (some .int))
theorem d_AL_size_0 : decode M_AL_size.2.1 0 = .ok (.aload_n 0, 1) := by decide +kernel
theorem d_AL_size_1 : decode M_AL_size.2.1 1 = .ok (.getfield 48, 3) := by decide +kernel
theorem xw_844 : (Jvm.Cond.fieldLink "java/util/ArrayList" (48 : Nat) "java/util/ArrayList" "size" "I") ∈ xT := xT_at 844 (by decide +kernel) (by decide +kernel)
theorem xf_AL_48_AL : xF "java/util/ArrayList" 48 k_ArrayList 1 := ⟨_, _, _, "java/util/ArrayList", rfl, by decide, Or.inl xw_844, Or.inl rfl⟩
theorem d_AL_size_4 : decode M_AL_size.2.1 4 = .ok (.ireturn, 1) := by decide +kernel
abbrev y_Objects_checkIndex : MethodName := ⟨"java/util/Objects", "checkIndex", "(II)I"⟩
abbrev M_Objects_checkIndex : XMt := (y_Objects_checkIndex, prog_37_method_17_code, 2, (some .int))
theorem d_Objects_checkIndex_0 : decode M_Objects_checkIndex.2.1 0 = .ok (.iload_n 0, 1) := by decide +kernel
theorem d_Objects_checkIndex_1 : decode M_Objects_checkIndex.2.1 1 = .ok (.iload_n 1, 1) := by decide +kernel
theorem d_Objects_checkIndex_2 : decode M_Objects_checkIndex.2.1 2 = .ok (.aconst_null, 1) := by decide +kernel
theorem d_Objects_checkIndex_3 : decode M_Objects_checkIndex.2.1 3 = .ok (.invokestatic 105, 3) := by decide +kernel
theorem xw_333 : (Jvm.Cond.methodLink "java/util/Objects" (105 : Nat) ({ cls := "jdk/internal/util/Preconditions", name := "checkIndex", desc := "(IILjava/util/function/BiFunction;)I" } : Jvm.MethodName)) ∈ xT := xT_at 333 (by decide +kernel) (by decide +kernel)
theorem xcs_Objects_105 : xCS "java/util/Objects" 105 M_Preconditions_checkIndex 3 := ⟨xcb_Preconditions_checkIndex, xw_272, Or.inl xw_333⟩
theorem d_Objects_checkIndex_6 : decode M_Objects_checkIndex.2.1 6 = .ok (.ireturn, 1) := by decide +kernel
abbrev y_AL_elementData : MethodName := ⟨"java/util/ArrayList", "elementData", "(I)Ljava/lang/Object;"⟩
abbrev M_AL_elementData : XMt := (y_AL_elementData, prog_33_method_18_code, 2, (some (.object "java/lang/Object")))
theorem d_AL_elementData_0 : decode M_AL_elementData.2.1 0 = .ok (.aload_n 0, 1) := by decide +kernel
theorem d_AL_elementData_1 : decode M_AL_elementData.2.1 1 = .ok (.getfield 9, 3) := by decide +kernel
theorem d_AL_elementData_4 : decode M_AL_elementData.2.1 4 = .ok (.iload_n 1, 1) := by decide +kernel
theorem d_AL_elementData_5 : decode M_AL_elementData.2.1 5 = .ok (.aaload, 1) := by decide +kernel
theorem d_AL_elementData_6 : decode M_AL_elementData.2.1 6 = .ok (.areturn, 1) := by decide +kernel
abbrev y_AL_get : MethodName := ⟨"java/util/ArrayList", "get", "(I)Ljava/lang/Object;"⟩
abbrev M_AL_get : XMt := (y_AL_get, prog_33_method_20_code, 2, (some (.object "java/lang/Object")))
theorem d_AL_get_0 : decode M_AL_get.2.1 0 = .ok (.iload_n 1, 1) := by decide +kernel
theorem d_AL_get_1 : decode M_AL_get.2.1 1 = .ok (.aload_n 0, 1) := by decide +kernel
theorem d_AL_get_2 : decode M_AL_get.2.1 2 = .ok (.getfield 48, 3) := by decide +kernel
theorem d_AL_get_5 : decode M_AL_get.2.1 5 = .ok (.invokestatic 118, 3) := by decide +kernel
theorem xw_332 : (Jvm.Cond.code ({ cls := "java/util/Objects", name := "checkIndex", desc := "(II)I" } : Jvm.MethodName) prog_37_method_17_code (2 : Nat) (Option.some Jvm.ClassFile.FieldType.int)) ∈ xT := xT_at 332 (by decide +kernel) (by decide +kernel)
theorem xw_33 : (Jvm.Cond.initialized "java/util/Objects") ∈ xT := xT_at 33 (by decide +kernel) (by decide +kernel)
theorem xcb_Objects_checkIndex : xcb M_Objects_checkIndex 2 := ⟨xw_332, xw_33, by decide, by decide, by decide, by decide +kernel⟩
theorem xw_330 : (Jvm.Cond.methodLink "java/util/ArrayList" (118 : Nat) ({ cls := "java/util/Objects", name := "checkIndex", desc := "(II)I" } : Jvm.MethodName)) ∈ xT := xT_at 330 (by decide +kernel) (by decide +kernel)
theorem xw_331 : (Jvm.Cond.static ({ cls := "java/util/Objects", name := "checkIndex", desc := "(II)I" } : Jvm.MethodName)) ∈ xT := xT_at 331 (by decide +kernel) (by decide +kernel)
theorem xcs_AL_118 : xCS "java/util/ArrayList" 118 M_Objects_checkIndex 2 := ⟨xcb_Objects_checkIndex, xw_331, Or.inl xw_330⟩
theorem d_AL_get_8 : decode M_AL_get.2.1 8 = .ok (.pop, 1) := by decide +kernel
theorem d_AL_get_9 : decode M_AL_get.2.1 9 = .ok (.aload_n 0, 1) := by decide +kernel
theorem d_AL_get_10 : decode M_AL_get.2.1 10 = .ok (.iload_n 1, 1) := by decide +kernel
theorem d_AL_get_11 : decode M_AL_get.2.1 11 = .ok (.invokevirtual 123, 3) := by decide +kernel
theorem xw_337 : (Jvm.Cond.code ({ cls := "java/util/ArrayList", name := "elementData", desc := "(I)Ljava/lang/Object;" } : Jvm.MethodName) prog_33_method_18_code (2 : Nat) (Option.some (Jvm.ClassFile.FieldType.object "java/lang/Object"))) ∈ xT := xT_at 337 (by decide +kernel) (by decide +kernel)
theorem xw_26 : (Jvm.Cond.initialized "java/util/ArrayList") ∈ xT := xT_at 26 (by decide +kernel) (by decide +kernel)
theorem xcb_AL_elementData : xcb M_AL_elementData 1 := ⟨xw_337, xw_26, by decide, by decide, by decide, by decide +kernel⟩
theorem xw_335 : (Jvm.Cond.instanceMethod ({ cls := "java/util/ArrayList", name := "elementData", desc := "(I)Ljava/lang/Object;" } : Jvm.MethodName)) ∈ xT := xT_at 335 (by decide +kernel) (by decide +kernel)
theorem xw_334 : (Jvm.Cond.methodLink "java/util/ArrayList" (123 : Nat) ({ cls := "java/util/ArrayList", name := "elementData", desc := "(I)Ljava/lang/Object;" } : Jvm.MethodName)) ∈ xT := xT_at 334 (by decide +kernel) (by decide +kernel)
theorem xw_336 : (Jvm.Cond.selects "java/util/ArrayList" ({ cls := "java/util/ArrayList", name := "elementData", desc := "(I)Ljava/lang/Object;" } : Jvm.MethodName) ({ cls := "java/util/ArrayList", name := "elementData", desc := "(I)Ljava/lang/Object;" } : Jvm.MethodName)) ∈ xT := xT_at 336 (by decide +kernel) (by decide +kernel)
theorem xcv_AL_123_AL : xCV "java/util/ArrayList" 123 "java/util/ArrayList" M_AL_elementData 1 := ⟨xcb_AL_elementData, xw_335, Or.inl ⟨xw_334, Or.inl xw_336⟩⟩
theorem d_AL_get_14 : decode M_AL_get.2.1 14 = .ok (.areturn, 1) := by decide +kernel
abbrev y_Arrays_copyOf_aObjectIClass : MethodName := ⟨"java/util/Arrays", "copyOf", "([Ljava/lang/Object;ILjava/lang/Class;)[Ljava/lang/Object;"⟩
abbrev M_Arrays_copyOf_aObjectIClass : XMt := (y_Arrays_copyOf_aObjectIClass, prog_34_method_120_code, 4, (some (.array (.object "java/lang/Object"))))
theorem d_Arrays_copyOf_aObjectIClass_0 : decode M_Arrays_copyOf_aObjectIClass.2.1 0 = .ok (.aload_n 2, 1) := by decide +kernel
theorem d_Arrays_copyOf_aObjectIClass_1 : decode M_Arrays_copyOf_aObjectIClass.2.1 1 = .ok (.ldc 110, 2) := by decide +kernel
theorem xw_1078 : (Jvm.Cond.classLink "java/util/Arrays" (110 : Nat) "[Ljava/lang/Object;") ∈ xT := xT_at 1078 (by decide +kernel) (by decide +kernel)
theorem d_Arrays_copyOf_aObjectIClass_3 : decode M_Arrays_copyOf_aObjectIClass.2.1 3 = .ok (.if_acmp .ne 10, 3) := by decide +kernel
theorem d_Arrays_copyOf_aObjectIClass_6 : decode M_Arrays_copyOf_aObjectIClass.2.1 6 = .ok (.iload_n 1, 1) := by decide +kernel
theorem d_Arrays_copyOf_aObjectIClass_7 : decode M_Arrays_copyOf_aObjectIClass.2.1 7 = .ok (.anewarray 2, 3) := by decide +kernel
theorem xw_1080 : (Jvm.Cond.classLink "java/util/Arrays" (2 : Nat) "java/lang/Object") ∈ xT := xT_at 1080 (by decide +kernel) (by decide +kernel)
theorem xw_1079 : (Jvm.Cond.arrayOver (Jvm.ClassFile.FieldType.object "java/lang/Object")) ∈ xT := xT_at 1079 (by decide +kernel) (by decide +kernel)
theorem d_Arrays_copyOf_aObjectIClass_10 : decode M_Arrays_copyOf_aObjectIClass.2.1 10 = .ok (.goto 14, 3) := by decide +kernel
theorem d_Arrays_copyOf_aObjectIClass_24 : decode M_Arrays_copyOf_aObjectIClass.2.1 24 = .ok (.astore_n 3, 1) := by decide +kernel
theorem d_Arrays_copyOf_aObjectIClass_25 : decode M_Arrays_copyOf_aObjectIClass.2.1 25 = .ok (.aload_n 0, 1) := by decide +kernel
theorem d_Arrays_copyOf_aObjectIClass_26 : decode M_Arrays_copyOf_aObjectIClass.2.1 26 = .ok (.iconst 0, 1) := by decide +kernel
theorem d_Arrays_copyOf_aObjectIClass_27 : decode M_Arrays_copyOf_aObjectIClass.2.1 27 = .ok (.aload_n 3, 1) := by decide +kernel
theorem d_Arrays_copyOf_aObjectIClass_28 : decode M_Arrays_copyOf_aObjectIClass.2.1 28 = .ok (.iconst 0, 1) := by decide +kernel
theorem d_Arrays_copyOf_aObjectIClass_29 : decode M_Arrays_copyOf_aObjectIClass.2.1 29 = .ok (.aload_n 0, 1) := by decide +kernel
theorem d_Arrays_copyOf_aObjectIClass_30 : decode M_Arrays_copyOf_aObjectIClass.2.1 30 = .ok (.arraylength, 1) := by decide +kernel
theorem d_Arrays_copyOf_aObjectIClass_31 : decode M_Arrays_copyOf_aObjectIClass.2.1 31 = .ok (.iload_n 1, 1) := by decide +kernel
theorem d_Arrays_copyOf_aObjectIClass_32 : decode M_Arrays_copyOf_aObjectIClass.2.1 32 = .ok (.invokestatic 304, 3) := by decide +kernel
theorem d_Arrays_copyOf_aObjectIClass_35 : decode M_Arrays_copyOf_aObjectIClass.2.1 35 = .ok (.invokestatic 150, 3) := by decide +kernel
theorem d_Arrays_copyOf_aObjectIClass_38 : decode M_Arrays_copyOf_aObjectIClass.2.1 38 = .ok (.aload_n 3, 1) := by decide +kernel
theorem d_Arrays_copyOf_aObjectIClass_39 : decode M_Arrays_copyOf_aObjectIClass.2.1 39 = .ok (.areturn, 1) := by decide +kernel
abbrev y_Arrays_copyOf_aObjectI : MethodName := ⟨"java/util/Arrays", "copyOf", "([Ljava/lang/Object;I)[Ljava/lang/Object;"⟩
abbrev M_Arrays_copyOf_aObjectI : XMt := (y_Arrays_copyOf_aObjectI, prog_34_method_119_code, 2, (some (.array (.object "java/lang/Object"))))
theorem d_Arrays_copyOf_aObjectI_0 : decode M_Arrays_copyOf_aObjectI.2.1 0 = .ok (.aload_n 0, 1) := by decide +kernel
theorem d_Arrays_copyOf_aObjectI_1 : decode M_Arrays_copyOf_aObjectI.2.1 1 = .ok (.iload_n 1, 1) := by decide +kernel
theorem d_Arrays_copyOf_aObjectI_2 : decode M_Arrays_copyOf_aObjectI.2.1 2 = .ok (.aload_n 0, 1) := by decide +kernel
theorem d_Arrays_copyOf_aObjectI_3 : decode M_Arrays_copyOf_aObjectI.2.1 3 = .ok (.invokevirtual 86, 3) := by decide +kernel
theorem xw_1055 : (Jvm.Cond.methodLink "java/util/Arrays" (86 : Nat) ({ cls := "java/lang/Object", name := "getClass", desc := "()Ljava/lang/Class;" } : Jvm.MethodName)) ∈ xT := xT_at 1055 (by decide +kernel) (by decide +kernel)
theorem xw_1621 : (Jvm.Cond.declares ({ cls := "java/lang/Object", name := "getClass", desc := "()Ljava/lang/Class;" } : Jvm.MethodName)) ∈ xT := xT_at 1621 (by decide +kernel) (by decide +kernel)
theorem xw_1620 : (Jvm.Cond.selects "[Ljava/lang/Object;" ({ cls := "java/lang/Object", name := "getClass", desc := "()Ljava/lang/Class;" } : Jvm.MethodName) ({ cls := "java/lang/Object", name := "getClass", desc := "()Ljava/lang/Class;" } : Jvm.MethodName)) ∈ xT := xT_at 1620 (by decide +kernel) (by decide +kernel)
theorem xw_1056 : (Jvm.Cond.instanceMethod ({ cls := "java/lang/Object", name := "getClass", desc := "()Ljava/lang/Class;" } : Jvm.MethodName)) ∈ xT := xT_at 1056 (by decide +kernel) (by decide +kernel)
theorem xw_1074 : (Jvm.Cond.native ({ cls := "java/lang/Object", name := "getClass", desc := "()Ljava/lang/Class;" } : Jvm.MethodName)) ∈ xT := xT_at 1074 (by decide +kernel) (by decide +kernel)
theorem d_Arrays_copyOf_aObjectI_6 : decode M_Arrays_copyOf_aObjectI.2.1 6 = .ok (.invokestatic 300, 3) := by decide +kernel
theorem xw_1077 : (Jvm.Cond.code ({ cls := "java/util/Arrays", name := "copyOf", desc := "([Ljava/lang/Object;ILjava/lang/Class;)[Ljava/lang/Object;" } : Jvm.MethodName) prog_34_method_120_code (4 : Nat) (Option.some (Jvm.ClassFile.FieldType.array (Jvm.ClassFile.FieldType.object "java/lang/Object")))) ∈ xT := xT_at 1077 (by decide +kernel) (by decide +kernel)
theorem xcb_Arrays_copyOf_aObjectIClass : xcb M_Arrays_copyOf_aObjectIClass 3 := ⟨xw_1077, xw_11, by decide, by decide, by decide, by decide +kernel⟩
theorem xw_1075 : (Jvm.Cond.methodLink "java/util/Arrays" (300 : Nat) ({ cls := "java/util/Arrays", name := "copyOf", desc := "([Ljava/lang/Object;ILjava/lang/Class;)[Ljava/lang/Object;" } : Jvm.MethodName)) ∈ xT := xT_at 1075 (by decide +kernel) (by decide +kernel)
theorem xw_1076 : (Jvm.Cond.static ({ cls := "java/util/Arrays", name := "copyOf", desc := "([Ljava/lang/Object;ILjava/lang/Class;)[Ljava/lang/Object;" } : Jvm.MethodName)) ∈ xT := xT_at 1076 (by decide +kernel) (by decide +kernel)
theorem xcs_Arrays_300 : xCS "java/util/Arrays" 300 M_Arrays_copyOf_aObjectIClass 3 := ⟨xcb_Arrays_copyOf_aObjectIClass, xw_1076, Or.inl xw_1075⟩
theorem d_Arrays_copyOf_aObjectI_9 : decode M_Arrays_copyOf_aObjectI.2.1 9 = .ok (.areturn, 1) := by decide +kernel
abbrev y_AL_grow_I : MethodName := ⟨"java/util/ArrayList", "grow", "(I)[Ljava/lang/Object;"⟩
abbrev M_AL_grow_I : XMt := (y_AL_grow_I, prog_33_method_6_code, 4, (some (.array (.object "java/lang/Object"))))
theorem d_AL_grow_I_0 : decode M_AL_grow_I.2.1 0 = .ok (.aload_n 0, 1) := by decide +kernel
theorem d_AL_grow_I_1 : decode M_AL_grow_I.2.1 1 = .ok (.getfield 9, 3) := by decide +kernel
theorem d_AL_grow_I_4 : decode M_AL_grow_I.2.1 4 = .ok (.arraylength, 1) := by decide +kernel
theorem d_AL_grow_I_5 : decode M_AL_grow_I.2.1 5 = .ok (.istore_n 2, 1) := by decide +kernel
theorem d_AL_grow_I_6 : decode M_AL_grow_I.2.1 6 = .ok (.iload_n 2, 1) := by decide +kernel
theorem d_AL_grow_I_7 : decode M_AL_grow_I.2.1 7 = .ok (.ifCond .gt 13, 3) := by decide +kernel
theorem d_AL_grow_I_10 : decode M_AL_grow_I.2.1 10 = .ok (.aload_n 0, 1) := by decide +kernel
theorem d_AL_grow_I_11 : decode M_AL_grow_I.2.1 11 = .ok (.getfield 9, 3) := by decide +kernel
theorem d_AL_grow_I_14 : decode M_AL_grow_I.2.1 14 = .ok (.getstatic 39, 3) := by decide +kernel
theorem d_AL_grow_I_17 : decode M_AL_grow_I.2.1 17 = .ok (.if_acmp .eq 28, 3) := by decide +kernel
theorem d_AL_grow_I_45 : decode M_AL_grow_I.2.1 45 = .ok (.aload_n 0, 1) := by decide +kernel
theorem d_AL_grow_I_46 : decode M_AL_grow_I.2.1 46 = .ok (.bipush 10, 2) := by decide +kernel
theorem d_AL_grow_I_48 : decode M_AL_grow_I.2.1 48 = .ok (.iload_n 1, 1) := by decide +kernel
theorem d_AL_grow_I_49 : decode M_AL_grow_I.2.1 49 = .ok (.invokestatic 79, 3) := by decide +kernel
theorem xw_1081 : (Jvm.Cond.methodLink "java/util/ArrayList" (79 : Nat) ({ cls := "java/lang/Math", name := "max", desc := "(II)I" } : Jvm.MethodName)) ∈ xT := xT_at 1081 (by decide +kernel) (by decide +kernel)
theorem d_AL_grow_I_52 : decode M_AL_grow_I.2.1 52 = .ok (.anewarray 7, 3) := by decide +kernel
theorem xw_1082 : (Jvm.Cond.classLink "java/util/ArrayList" (7 : Nat) "java/lang/Object") ∈ xT := xT_at 1082 (by decide +kernel) (by decide +kernel)
theorem d_AL_grow_I_55 : decode M_AL_grow_I.2.1 55 = .ok (.dup_x1, 1) := by decide +kernel
theorem d_AL_grow_I_56 : decode M_AL_grow_I.2.1 56 = .ok (.putfield 9, 3) := by decide +kernel
theorem d_AL_grow_I_59 : decode M_AL_grow_I.2.1 59 = .ok (.areturn, 1) := by decide +kernel
theorem d_AL_grow_I_20 : decode M_AL_grow_I.2.1 20 = .ok (.iload_n 2, 1) := by decide +kernel
theorem d_AL_grow_I_21 : decode M_AL_grow_I.2.1 21 = .ok (.iload_n 1, 1) := by decide +kernel
theorem d_AL_grow_I_22 : decode M_AL_grow_I.2.1 22 = .ok (.iload_n 2, 1) := by decide +kernel
theorem d_AL_grow_I_23 : decode M_AL_grow_I.2.1 23 = .ok (.isub, 1) := by decide +kernel
theorem d_AL_grow_I_24 : decode M_AL_grow_I.2.1 24 = .ok (.iload_n 2, 1) := by decide +kernel
theorem d_AL_grow_I_25 : decode M_AL_grow_I.2.1 25 = .ok (.iconst 1, 1) := by decide +kernel
theorem d_AL_grow_I_26 : decode M_AL_grow_I.2.1 26 = .ok (.ishr, 1) := by decide +kernel
theorem d_AL_grow_I_27 : decode M_AL_grow_I.2.1 27 = .ok (.invokestatic 73, 3) := by decide +kernel
theorem xw_1051 : (Jvm.Cond.methodLink "java/util/ArrayList" (73 : Nat) ({ cls := "jdk/internal/util/ArraysSupport", name := "newLength", desc := "(III)I" } : Jvm.MethodName)) ∈ xT := xT_at 1051 (by decide +kernel) (by decide +kernel)
theorem xcs_AL_73 : xCS "java/util/ArrayList" 73 M_ArraysSupport_newLength 3 := ⟨xcb_ArraysSupport_newLength, xw_195, Or.inl xw_1051⟩
theorem d_AL_grow_I_30 : decode M_AL_grow_I.2.1 30 = .ok (.istore_n 3, 1) := by decide +kernel
theorem d_AL_grow_I_31 : decode M_AL_grow_I.2.1 31 = .ok (.aload_n 0, 1) := by decide +kernel
theorem d_AL_grow_I_32 : decode M_AL_grow_I.2.1 32 = .ok (.aload_n 0, 1) := by decide +kernel
theorem d_AL_grow_I_33 : decode M_AL_grow_I.2.1 33 = .ok (.getfield 9, 3) := by decide +kernel
theorem d_AL_grow_I_36 : decode M_AL_grow_I.2.1 36 = .ok (.iload_n 3, 1) := by decide +kernel
theorem d_AL_grow_I_37 : decode M_AL_grow_I.2.1 37 = .ok (.invokestatic 66, 3) := by decide +kernel
theorem xw_1054 : (Jvm.Cond.code ({ cls := "java/util/Arrays", name := "copyOf", desc := "([Ljava/lang/Object;I)[Ljava/lang/Object;" } : Jvm.MethodName) prog_34_method_119_code (2 : Nat) (Option.some (Jvm.ClassFile.FieldType.array (Jvm.ClassFile.FieldType.object "java/lang/Object")))) ∈ xT := xT_at 1054 (by decide +kernel) (by decide +kernel)
theorem xcb_Arrays_copyOf_aObjectI : xcb M_Arrays_copyOf_aObjectI 2 := ⟨xw_1054, xw_11, by decide, by decide, by decide, by decide +kernel⟩
theorem xw_1052 : (Jvm.Cond.methodLink "java/util/ArrayList" (66 : Nat) ({ cls := "java/util/Arrays", name := "copyOf", desc := "([Ljava/lang/Object;I)[Ljava/lang/Object;" } : Jvm.MethodName)) ∈ xT := xT_at 1052 (by decide +kernel) (by decide +kernel)
theorem xw_1053 : (Jvm.Cond.static ({ cls := "java/util/Arrays", name := "copyOf", desc := "([Ljava/lang/Object;I)[Ljava/lang/Object;" } : Jvm.MethodName)) ∈ xT := xT_at 1053 (by decide +kernel) (by decide +kernel)
theorem xcs_AL_66 : xCS "java/util/ArrayList" 66 M_Arrays_copyOf_aObjectI 2 := ⟨xcb_Arrays_copyOf_aObjectI, xw_1053, Or.inl xw_1052⟩
theorem d_AL_grow_I_40 : decode M_AL_grow_I.2.1 40 = .ok (.dup_x1, 1) := by decide +kernel
theorem d_AL_grow_I_41 : decode M_AL_grow_I.2.1 41 = .ok (.putfield 9, 3) := by decide +kernel
theorem d_AL_grow_I_44 : decode M_AL_grow_I.2.1 44 = .ok (.areturn, 1) := by decide +kernel
abbrev y_AL_grow_ : MethodName := ⟨"java/util/ArrayList", "grow", "()[Ljava/lang/Object;"⟩
abbrev M_AL_grow_ : XMt := (y_AL_grow_, prog_33_method_7_code, 1, (some (.array (.object "java/lang/Object"))))
theorem d_AL_grow__0 : decode M_AL_grow_.2.1 0 = .ok (.aload_n 0, 1) := by decide +kernel
theorem d_AL_grow__1 : decode M_AL_grow_.2.1 1 = .ok (.aload_n 0, 1) := by decide +kernel
theorem d_AL_grow__2 : decode M_AL_grow_.2.1 2 = .ok (.getfield 48, 3) := by decide +kernel
theorem d_AL_grow__5 : decode M_AL_grow_.2.1 5 = .ok (.iconst 1, 1) := by decide +kernel
theorem d_AL_grow__6 : decode M_AL_grow_.2.1 6 = .ok (.iadd, 1) := by decide +kernel
theorem d_AL_grow__7 : decode M_AL_grow_.2.1 7 = .ok (.invokevirtual 69, 3) := by decide +kernel
theorem xw_1050 : (Jvm.Cond.code ({ cls := "java/util/ArrayList", name := "grow", desc := "(I)[Ljava/lang/Object;" } : Jvm.MethodName) prog_33_method_6_code (4 : Nat) (Option.some (Jvm.ClassFile.FieldType.array (Jvm.ClassFile.FieldType.object "java/lang/Object")))) ∈ xT := xT_at 1050 (by decide +kernel) (by decide +kernel)
theorem xcb_AL_grow_I : xcb M_AL_grow_I 1 := ⟨xw_1050, xw_26, by decide, by decide, by decide, by decide +kernel⟩
theorem xw_1049 : (Jvm.Cond.instanceMethod ({ cls := "java/util/ArrayList", name := "grow", desc := "(I)[Ljava/lang/Object;" } : Jvm.MethodName)) ∈ xT := xT_at 1049 (by decide +kernel) (by decide +kernel)
theorem xw_1047 : (Jvm.Cond.methodLink "java/util/ArrayList" (69 : Nat) ({ cls := "java/util/ArrayList", name := "grow", desc := "(I)[Ljava/lang/Object;" } : Jvm.MethodName)) ∈ xT := xT_at 1047 (by decide +kernel) (by decide +kernel)
theorem xsel_AL_grow_I : Cond.selects "java/util/ArrayList" y_AL_grow_I y_AL_grow_I ∈ xT := xT_sel (q := (y_AL_grow_I, 3)) (by decide +kernel) (by decide +kernel)
theorem xcv_AL_69_AL : xCV "java/util/ArrayList" 69 "java/util/ArrayList" M_AL_grow_I 1 := ⟨xcb_AL_grow_I, xw_1049, Or.inl ⟨xw_1047, Or.inl xsel_AL_grow_I⟩⟩
theorem d_AL_grow__10 : decode M_AL_grow_.2.1 10 = .ok (.areturn, 1) := by decide +kernel
end
section ALS
variable {l : Launch} {G : XG} {h : XH} {c n d : Nat}
theorem c_AbC_init (hd : 1 ≤ d) {a : Nat} : XM l G d M_AbC_init [.ref a] h c n (xVoid h c n) := by
  obtain ⟨d, rfl⟩ : ∃ q, d = q + 1 := ⟨d - 1, by omega⟩
  refine XM.of (by decide +kernel) (Nat.le_of_ble_eq_true rfl) ?_
  refine x_aload_n d_AbC_init_0 rfl rfl ?_
  refine x_objInit xw_840 xw_40 xw_41 (Nat.le_of_ble_eq_true rfl) d_AbC_init_1 ?_
  refine x_vret d_AbC_init_4 rfl ?_
  exact ⟨rfl, rfl, rfl, rfl⟩
theorem c_AbL_init (hd : 2 ≤ d) {a : Nat} {x y z : Value} (ha : h a = some (k_ArrayList, [x, y, z])) : XM l G d M_AbL_init [.ref a] h c n (fun v h' c' n' => v = none ∧ h' = xup h a (k_ArrayList, [x, y, .int 0]) ∧ c' = c ∧ n' = n) := by
  obtain ⟨d, rfl⟩ : ∃ q, d = q + 1 := ⟨d - 1, by omega⟩
  refine XM.of (by decide +kernel) (Nat.le_of_ble_eq_true rfl) ?_
  refine x_aload_n d_AbL_init_0 rfl rfl ?_
  refine x_callI (As := []) xci_AbL_1 (c_AbC_init (by omega)) rfl rfl (Nat.le_of_ble_eq_true rfl) d_AbL_init_1 ?_
  rintro v h' c' n' ⟨rfl, rfl, rfl, rfl⟩
  refine x_aload_n d_AbL_init_4 rfl rfl ?_
  refine x_iconst (v := 0) d_AbL_init_5 (by decide) ?_
  refine x_put xf_AbL_7_AL xp_AL_2 rfl rfl ha rfl rfl d_AbL_init_6 ?_
  refine x_vret d_AbL_init_9 rfl ?_
  exact ⟨rfl, rfl, rfl, rfl⟩
/-- A LIST of objects of one kind: at a, its array ea, the objects' places es -/
def isL (G : XG) (h : XH) (a ea : Nat) (es : List Nat) : Prop := ∃ (mc : Int32), h a = some (k_ArrayList, [.ref ea, .int (nI es.length), .int mc]) ∧ ((es = [] ∧ ea = G.2.2.2.1 100) ∨ ∃ k, h ea = some (k_aObject, es.map (.ref ·) ++ List.replicate k .null) ∧ 10 ≤ es.length + k ∧ es.length + k ≤ 100)
theorem c_AL_init (hd : 3 ≤ d) {a : Nat} {z : Value} (ha : h a = some (k_ArrayList, [.null, .int 0, z])) : XM l G d M_AL_init [.ref a] h c n (fun v h' c' n' => v = none ∧ isL G h' a (G.2.2.2.1 100) [] ∧ xfr h h' [a] ∧ c' = c ∧ n' = n) := by
  obtain ⟨d, rfl⟩ : ∃ q, d = q + 1 := ⟨d - 1, by omega⟩
  refine XM.of (by decide +kernel) (Nat.le_of_ble_eq_true rfl) ?_
  refine x_aload_n d_AL_init_0 rfl rfl ?_
  refine x_callI (As := []) xci_AL_1 (c_AbL_init (by omega) ha) rfl rfl (Nat.le_of_ble_eq_true rfl) d_AL_init_1 ?_
  rintro v h' c' n' ⟨rfl, rfl, rfl, rfl⟩
  refine x_aload_n d_AL_init_4 rfl rfl ?_
  refine x_gets xw_841 (List.mem_of_getElem? (i := 4) rfl) d_AL_init_5 ?_
  refine x_put xf_AL_9_AL xp_AL_0 rfl rfl xup_self rfl rfl d_AL_init_8 ?_
  refine x_vret d_AL_init_11 rfl ?_
  exact ⟨rfl, ⟨0, xup_self, Or.inl ⟨rfl, rfl⟩⟩, (xfr.rf.up (Or.inl (by simp))).up (Or.inl (by simp)), rfl, rfl⟩
theorem c_AL_size {a ea : Nat} {es : List Nat} (hL : isL G h a ea es) : XM l G d M_AL_size [.ref a] h c n (xSame (.int (nI es.length)) h c n) := by
  obtain ⟨mc, ha, -⟩ := hL
  refine XM.of (by decide +kernel) (Nat.le_of_ble_eq_true rfl) ?_
  refine x_aload_n d_AL_size_0 rfl rfl ?_
  refine x_get xf_AL_48_AL (Or.inl ha) rfl d_AL_size_1 ?_
  refine x_iret d_AL_size_4 rfl ?_
  exact ⟨rfl, rfl, rfl, rfl⟩
theorem c_Objects_checkIndex (hd : 1 ≤ d) {i m : Nat} (hi : i < m) (hm : m < 2 ^ 31) : XM l G d M_Objects_checkIndex [.int (nI i), .int (nI m)] h c n (xSame (.int (nI i)) h c n) := by
  obtain ⟨d, rfl⟩ : ∃ q, d = q + 1 := ⟨d - 1, by omega⟩
  refine XM.of (by decide +kernel) (Nat.le_of_ble_eq_true rfl) ?_
  refine x_iload_n d_Objects_checkIndex_0 rfl ?_
  refine x_iload_n d_Objects_checkIndex_1 rfl ?_
  refine x_null d_Objects_checkIndex_2 ?_
  refine x_callS (As := [_, _, _]) xcs_Objects_105 (c_checkIndex rfl hi hm) rfl rfl (Nat.le_of_ble_eq_true rfl) d_Objects_checkIndex_3 ?_
  rintro v h' c' n' ⟨rfl, rfl, rfl, rfl⟩
  refine x_iret d_Objects_checkIndex_6 rfl ?_
  exact ⟨rfl, rfl, rfl, rfl⟩
theorem c_AL_get (hd : 2 ≤ d) {a ea i : Nat} {es : List Nat} (hL : isL G h a ea es) (hi : i < es.length) (hl : es.length < 2 ^ 30) : XM l G d M_AL_get [.ref a, .int (nI i)] h c n (xSame (.ref es[i]) h c n) := by
  obtain ⟨d, rfl⟩ : ∃ q, d = q + 1 := ⟨d - 1, by omega⟩
  obtain ⟨mc, ha, hr⟩ := hL
  obtain ⟨k, he, -⟩ : ∃ k, h ea = some (k_aObject, es.map (.ref ·) ++ List.replicate k .null) ∧ True := by
    rcases hr with ⟨q, -⟩ | ⟨k, q, -⟩
    · rw [q] at hi; cases hi
    · exact ⟨k, q, trivial⟩
  have hat : (es.map (Value.ref ·) ++ List.replicate k .null)[i]? = some (.ref es[i]) := by
    rw [List.getElem?_append_left (by simpa using hi), List.getElem?_map, List.getElem?_eq_getElem hi]
    rfl
  have hed : ∀ d, XM l G d M_AL_elementData [.ref a, .int (nI i)] h c n (xSame (.ref es[i]) h c n) := by
    intro d
    refine XM.of (by decide +kernel) (Nat.le_of_ble_eq_true rfl) ?_
    refine x_aload_n d_AL_elementData_0 rfl rfl ?_
    refine x_get xf_AL_9_AL (Or.inl ha) rfl d_AL_elementData_1 ?_
    refine x_iload_n d_AL_elementData_4 rfl ?_
    refine x_aald (k := k_aObject) rfl rfl (Or.inl he) (nI_pos (by omega)) (by rw [nI_clamp (by omega)]; exact hat) d_AL_elementData_5 ?_
    refine x_aret d_AL_elementData_6 rfl rfl ?_
    exact ⟨rfl, rfl, rfl, rfl⟩
  refine XM.of (by decide +kernel) (Nat.le_of_ble_eq_true rfl) ?_
  refine x_iload_n d_AL_get_0 rfl ?_
  refine x_aload_n d_AL_get_1 rfl rfl ?_
  refine x_get xf_AL_48_AL (Or.inl ha) rfl d_AL_get_2 ?_
  refine x_callS (As := [_, _]) xcs_AL_118 (c_Objects_checkIndex (by omega) hi (by omega)) rfl rfl (Nat.le_of_ble_eq_true rfl) d_AL_get_5 ?_
  rintro v h' c' n' ⟨rfl, rfl, rfl, rfl⟩
  refine x_pop d_AL_get_8 rfl ?_
  refine x_aload_n d_AL_get_9 rfl rfl ?_
  refine x_iload_n d_AL_get_10 rfl ?_
  refine x_callV (As := [_]) (k := k_ArrayList) rfl xcv_AL_123_AL (Or.inl ha) (hed _) rfl rfl (Nat.le_of_ble_eq_true rfl) d_AL_get_11 ?_
  rintro v h' c' n' ⟨rfl, rfl, rfl, rfl⟩
  refine x_aret d_AL_get_14 rfl rfl ?_
  exact ⟨rfl, rfl, rfl, rfl⟩
theorem c_copyOf_aOC (hd : 1 ≤ d) {a m : Nat} {vs : List Value} (ha : h a = some (k_aObject, vs)) (hel : ∀ v ∈ vs, xel G h "java/lang/Object" v) (hm : vs.length < m) (hb : m < 2 ^ 20) (hc : c + 1 ≤ xCB) (hn : n + m ≤ xSB) : XM l G d M_Arrays_copyOf_aObjectIClass [.ref a, .int (nI m), .ref (G.2.2.2.1 101)] h c n (xMade k_aObject (vs ++ List.replicate (m - vs.length) .null) h c n) := by
  obtain ⟨d, rfl⟩ : ∃ q, d = q + 1 := ⟨d - 1, by omega⟩
  have hel' : ∀ q, h q = none → ∀ e, ∀ v ∈ vs, xel G (xup h q e) "java/lang/Object" v := by
    intro q hq e v hv
    rcases hel v hv with z | ⟨a', k', N, vs', C, T, z1, z2, z3, z4⟩
    · exact Or.inl z
    · exact Or.inr ⟨a', k', N, vs', C, T, z1, xr_up z2 hq, z3, z4⟩
  refine XM.of (by decide +kernel) (Nat.le_of_ble_eq_true rfl) ?_
  refine x_aload_n d_Arrays_copyOf_aObjectIClass_0 rfl rfl ?_
  refine x_ldcM xw_1078 d_Arrays_copyOf_aObjectIClass_1 ?_
  refine x_acmp_ne (tgt := 13) rfl rfl d_Arrays_copyOf_aObjectIClass_3 (by decide) (fun ht => absurd rfl ht) (fun _ => ?_)
  refine x_iload_n d_Arrays_copyOf_aObjectIClass_6 rfl ?_
  refine x_anew (k := k_aObject) rfl xw_1080 xw_1079 (nI_pos (by omega)) (nI_clamp (by omega)) (by omega) hc hn d_Arrays_copyOf_aObjectIClass_7 (fun q hn_q hk_q => ?_)
  refine x_goto (tgt := 24) d_Arrays_copyOf_aObjectIClass_10 (by decide) ?_
  refine x_astore_n (L' := [_, _, _, _]) d_Arrays_copyOf_aObjectIClass_24 rfl rfl rfl ?_
  refine x_aload_n d_Arrays_copyOf_aObjectIClass_25 rfl rfl ?_
  refine x_iconst (v := 0) d_Arrays_copyOf_aObjectIClass_26 (by decide) ?_
  refine x_aload_n d_Arrays_copyOf_aObjectIClass_27 rfl rfl ?_
  refine x_iconst (v := 0) d_Arrays_copyOf_aObjectIClass_28 (by decide) ?_
  refine x_aload_n d_Arrays_copyOf_aObjectIClass_29 rfl rfl ?_
  refine x_alen (k := k_aObject) rfl (Or.inl (xup_old ha hn_q)) (v := nI vs.length) rfl d_Arrays_copyOf_aObjectIClass_30 ?_
  refine x_iload_n d_Arrays_copyOf_aObjectIClass_31 rfl ?_
  refine x_mmin xw_215 xw_216 xw_10 xw_217 (Nat.le_of_ble_eq_true rfl) d_Arrays_copyOf_aObjectIClass_32 ?_
  refine x_top (w := .int (nI vs.length)) (by rw [nI_min (by omega) (by omega), Nat.min_eq_left (by omega)]) ?_
  refine x_copyR (k := k_aObject) rfl xw_218 xw_220 xw_219 xw_12 (xup_old ha hn_q) xup_self (by decide) (by decide) (nI_pos (by omega)) (by rw [nI_clamp (by omega)]; exact Nat.le_of_eq (by simp)) (by rw [nI_clamp (by omega)]; simp; omega) (hel' q hn_q _) (Nat.le_of_ble_eq_true rfl) d_Arrays_copyOf_aObjectIClass_35 ?_
  refine x_hp (h' := xup h q (k_aObject, vs ++ List.replicate (m - vs.length) .null)) (by rw [xup_up, nI_clamp (by omega), ← xcopy_grow (by omega)]; rfl) ?_
  refine x_aload_n d_Arrays_copyOf_aObjectIClass_38 rfl rfl ?_
  refine x_aret d_Arrays_copyOf_aObjectIClass_39 rfl rfl ?_
  exact ⟨q, rfl, hn_q, rfl, rfl, by simp; omega⟩
theorem c_copyOf_aO (hd : 2 ≤ d) {a m : Nat} {vs : List Value} (ha : h a = some (k_aObject, vs)) (hel : ∀ v ∈ vs, xel G h "java/lang/Object" v) (hm : vs.length < m) (hb : m < 2 ^ 20) (hc : c + 1 ≤ xCB) (hn : n + m ≤ xSB) : XM l G d M_Arrays_copyOf_aObjectI [.ref a, .int (nI m)] h c n (xMade k_aObject (vs ++ List.replicate (m - vs.length) .null) h c n) := by
  obtain ⟨d, rfl⟩ : ∃ q, d = q + 1 := ⟨d - 1, by omega⟩
  refine XM.of (by decide +kernel) (Nat.le_of_ble_eq_true rfl) ?_
  refine x_aload_n d_Arrays_copyOf_aObjectI_0 rfl rfl ?_
  refine x_iload_n d_Arrays_copyOf_aObjectI_1 rfl ?_
  refine x_aload_n d_Arrays_copyOf_aObjectI_2 rfl rfl ?_
  refine x_getC (k := k_aObject) rfl xw_1055 xw_1621 xw_1620 xw_1056 xw_1074 ha (Nat.le_of_ble_eq_true rfl) d_Arrays_copyOf_aObjectI_3 ?_
  refine x_callS (As := [_, _, _]) xcs_Arrays_300 (c_copyOf_aOC (by omega) ha hel hm hb hc hn) rfl rfl (Nat.le_of_ble_eq_true rfl) d_Arrays_copyOf_aObjectI_6 ?_
  rintro v h' c' n' ⟨q, rfl, hq, rfl, rfl, rfl⟩
  refine x_aret d_Arrays_copyOf_aObjectI_9 rfl rfl ?_
  exact ⟨q, rfl, hq, rfl, rfl, rfl⟩
/-- the growth of a full list -/
theorem c_AL_growI (hG : xGk G) (hd : 3 ≤ d) {a ea : Nat} {es : List Nat} {mc : Int32} (ha : h a = some (k_ArrayList, [.ref ea, .int (nI es.length), .int mc])) (he : (es = [] ∧ ea = G.2.2.2.1 100) ∨ (h ea = some (k_aObject, es.map (.ref ·)) ∧ 10 ≤ es.length ∧ es.length ≤ 60)) (hel : ∀ x ∈ es, xel G h "java/lang/Object" (.ref x)) (hc : c + 1 ≤ xCB) (hn : n + 100 ≤ xSB) :
    XM l G d M_AL_grow_I [.ref a, .int (nI (es.length + 1))] h c n (fun v h' c' n' => ∃ q k, v = some (.ref q) ∧ h q = none ∧ h' = xup (xup h q (k_aObject, es.map (.ref ·) ++ List.replicate (k + 1) .null)) a (k_ArrayList, [.ref q, .int (nI es.length), .int mc]) ∧ 10 ≤ es.length + (k + 1) ∧ es.length + (k + 1) ≤ 100 ∧ c' = c + 1 ∧ n' ≤ n + 100) := by
  obtain ⟨d, rfl⟩ : ∃ q, d = q + 1 := ⟨d - 1, by omega⟩
  refine XM.of (by decide +kernel) (Nat.le_of_ble_eq_true rfl) ?_
  rcases he with ⟨rfl, rfl⟩ | ⟨he, h10, h60⟩
  · refine x_aload_n d_AL_grow_I_0 rfl rfl ?_
    refine x_get xf_AL_9_AL (Or.inl ha) rfl d_AL_grow_I_1 ?_
    refine x_alen (k := k_aObject) rfl (Or.inr hG.2.2) (v := nI 0) rfl d_AL_grow_I_4 ?_
    refine x_istore_n (L' := [_, _, _, _]) d_AL_grow_I_5 rfl rfl ?_
    refine x_iload_n d_AL_grow_I_6 rfl ?_
    refine x_if_gt (tgt := 20) d_AL_grow_I_7 (by decide) (fun ht => absurd ht (by decide)) (fun _ => ?_)
    refine x_aload_n d_AL_grow_I_10 rfl rfl ?_
    refine x_get xf_AL_9_AL (Or.inl ha) rfl d_AL_grow_I_11 ?_
    refine x_gets xw_841 (List.mem_of_getElem? (i := 4) rfl) d_AL_grow_I_14 ?_
    refine x_acmp_eq (tgt := 45) rfl rfl d_AL_grow_I_17 (by decide) (fun _ => ?_) (fun hn => absurd rfl hn)
    refine x_aload_n d_AL_grow_I_45 rfl rfl ?_
    refine x_bipush (v := 10) d_AL_grow_I_46 (by decide) ?_
    refine x_iload_n d_AL_grow_I_48 rfl ?_
    refine x_mmax xw_1081 xw_198 xw_10 xw_199 (Nat.le_of_ble_eq_true rfl) d_AL_grow_I_49 ?_
    refine x_top (w := .int (nI 10)) (by rfl) ?_
    refine x_anew (k := k_aObject) rfl xw_1082 xw_1079 (by decide) (z := 10) (by decide) (by decide) hc (by omega) d_AL_grow_I_52 (fun q hn_q hk_q => ?_)
    refine x_dup_x1 d_AL_grow_I_55 rfl rfl ?_
    refine x_put xf_AL_9_AL xp_AL_0 rfl rfl (xup_old ha hn_q) rfl rfl d_AL_grow_I_56 ?_
    refine x_aret d_AL_grow_I_59 rfl rfl ?_
    exact ⟨q, 9, rfl, hn_q, rfl, by simp, by simp, rfl, by omega⟩
  · have hml : (es.map (Value.ref ·)).length = es.length := by simp
    refine x_aload_n d_AL_grow_I_0 rfl rfl ?_
    refine x_get xf_AL_9_AL (Or.inl ha) rfl d_AL_grow_I_1 ?_
    refine x_alen (k := k_aObject) rfl (Or.inl he) (v := nI es.length) (by rw [hml]; rfl) d_AL_grow_I_4 ?_
    refine x_istore_n (L' := [_, _, _, _]) d_AL_grow_I_5 rfl rfl ?_
    refine x_iload_n d_AL_grow_I_6 rfl ?_
    refine x_if_gt (tgt := 20) d_AL_grow_I_7 (by decide) (fun _ => ?_) (fun hn => absurd (by show (0 : Int32) < _; exact nI_lt (a := 0) (by omega) (by omega)) hn)
    refine x_iload_n d_AL_grow_I_20 rfl ?_
    refine x_iload_n d_AL_grow_I_21 rfl ?_
    refine x_iload_n d_AL_grow_I_22 rfl ?_
    refine x_isub d_AL_grow_I_23 ?_
    refine x_top (w := .int (nI 1)) (by rw [pk_sub (by omega)]; congr 1; exact congrArg nI (by omega)) ?_
    refine x_iload_n d_AL_grow_I_24 rfl ?_
    refine x_iconst (v := 1) d_AL_grow_I_25 (by decide) ?_
    refine x_ishr d_AL_grow_I_26 ?_
    refine x_top (w := .int (nI (es.length / 2))) (by rw [pk_shrN (by omega) _ 1 (by decide +kernel)]) ?_
    refine x_callS (As := [_, _, _]) xcs_AL_73 (c_newLength (by omega) (o := es.length) (g := 1) (p := es.length / 2) (by omega) (by omega) (by omega) (by omega)) rfl rfl (Nat.le_of_ble_eq_true rfl) d_AL_grow_I_27 ?_
    rintro v h' c' n' ⟨rfl, rfl, rfl, rfl⟩
    have hM : es.length + max 1 (es.length / 2) = es.length + es.length / 2 := by omega
    rw [hM]
    have hel' : ∀ v ∈ es.map (Value.ref ·), xel G h' "java/lang/Object" v := by
      intro v hv
      obtain ⟨x, hx, rfl⟩ := List.mem_map.mp hv
      exact hel x hx
    refine x_istore_n (L' := [_, _, _, _]) d_AL_grow_I_30 rfl rfl ?_
    refine x_aload_n d_AL_grow_I_31 rfl rfl ?_
    refine x_aload_n d_AL_grow_I_32 rfl rfl ?_
    refine x_get xf_AL_9_AL (Or.inl ha) rfl d_AL_grow_I_33 ?_
    refine x_iload_n d_AL_grow_I_36 rfl ?_
    refine x_callS (As := [_, _]) xcs_AL_66 (c_copyOf_aO (by omega) he hel' (by rw [hml]; omega) (by omega) hc (by omega)) rfl rfl (Nat.le_of_ble_eq_true rfl) d_AL_grow_I_37 ?_
    rintro v h' c' n' ⟨q, rfl, hq, rfl, rfl, rfl⟩
    refine x_dup_x1 d_AL_grow_I_40 rfl rfl ?_
    refine x_put xf_AL_9_AL xp_AL_0 rfl rfl (xup_old ha hq) rfl rfl d_AL_grow_I_41 ?_
    refine x_aret d_AL_grow_I_44 rfl rfl ?_
    obtain ⟨k, hk⟩ : ∃ k, es.length + es.length / 2 - (es.map (Value.ref ·)).length = k + 1 := ⟨es.length / 2 - 1, by rw [hml]; omega⟩
    rw [hk]
    refine ⟨q, k, rfl, hq, rfl, by rw [hml] at hk; omega, by rw [hml] at hk; omega, rfl, ?_⟩
    simp
    rw [hml] at hk
    omega
theorem c_AL_grow (hG : xGk G) (hd : 4 ≤ d) {a ea : Nat} {es : List Nat} {mc : Int32} (ha : h a = some (k_ArrayList, [.ref ea, .int (nI es.length), .int mc])) (he : (es = [] ∧ ea = G.2.2.2.1 100) ∨ (h ea = some (k_aObject, es.map (.ref ·)) ∧ 10 ≤ es.length ∧ es.length ≤ 60)) (hel : ∀ x ∈ es, xel G h "java/lang/Object" (.ref x)) (hc : c + 1 ≤ xCB) (hn : n + 100 ≤ xSB) :
    XM l G d M_AL_grow_ [.ref a] h c n (fun v h' c' n' => ∃ q k, v = some (.ref q) ∧ h q = none ∧ h' = xup (xup h q (k_aObject, es.map (.ref ·) ++ List.replicate (k + 1) .null)) a (k_ArrayList, [.ref q, .int (nI es.length), .int mc]) ∧ 10 ≤ es.length + (k + 1) ∧ es.length + (k + 1) ≤ 100 ∧ c' = c + 1 ∧ n' ≤ n + 100) := by
  obtain ⟨d, rfl⟩ : ∃ q, d = q + 1 := ⟨d - 1, by omega⟩
  refine XM.of (by decide +kernel) (Nat.le_of_ble_eq_true rfl) ?_
  refine x_aload_n d_AL_grow__0 rfl rfl ?_
  refine x_aload_n d_AL_grow__1 rfl rfl ?_
  refine x_get xf_AL_48_AL (Or.inl ha) rfl d_AL_grow__2 ?_
  refine x_iconst (v := 1) d_AL_grow__5 (by decide) ?_
  refine x_iadd d_AL_grow__6 ?_
  refine x_top (w := .int (nI (es.length + 1))) (by rw [show (1 : Int32) = nI 1 from rfl, nI_add]) ?_
  refine x_callV (As := [_]) (k := k_ArrayList) rfl xcv_AL_69_AL (Or.inl ha) (c_AL_growI hG (by omega) ha he hel hc hn) rfl rfl (Nat.le_of_ble_eq_true rfl) d_AL_grow__7 ?_
  rintro v h' c' n' ⟨q, k, rfl, hq⟩
  refine x_aret d_AL_grow__10 rfl rfl ?_
  exact ⟨q, k, rfl, hq⟩
end ALS
end
section
section
abbrev y_Name_textLevel : MethodName := ⟨"MarkerText$Name", "textLevel", "(Ljava/lang/String;II)J"⟩
abbrev M_Name_textLevel : XMt := (y_Name_textLevel, prog_6_method_5_code, 8, (some .long))
theorem d_Name_textLevel_20 : decode M_Name_textLevel.2.1 20 = .ok (.iload 5, 2) := by decide +kernel
theorem d_Name_textLevel_22 : decode M_Name_textLevel.2.1 22 = .ok (.bipush 8, 2) := by decide +kernel
theorem d_Name_textLevel_24 : decode M_Name_textLevel.2.1 24 = .ok (.if_icmp .ge 72, 3) := by decide +kernel
theorem d_Name_textLevel_96 : decode M_Name_textLevel.2.1 96 = .ok (.ldc2_w 47, 3) := by decide +kernel
theorem xw_754 : (Jvm.Cond.constantLong "MarkerText$Name" (47 : Nat) (2 : Int64)) ∈ xT := xT_at 754 (by decide +kernel) (by decide +kernel)
theorem d_Name_textLevel_99 : decode M_Name_textLevel.2.1 99 = .ok (.lload_n 3, 1) := by decide +kernel
theorem d_Name_textLevel_100 : decode M_Name_textLevel.2.1 100 = .ok (.lmul, 1) := by decide +kernel
theorem d_Name_textLevel_101 : decode M_Name_textLevel.2.1 101 = .ok (.ldc2_w 47, 3) := by decide +kernel
theorem d_Name_textLevel_104 : decode M_Name_textLevel.2.1 104 = .ok (.ladd, 1) := by decide +kernel
theorem d_Name_textLevel_105 : decode M_Name_textLevel.2.1 105 = .ok (.lreturn, 1) := by decide +kernel
theorem d_Name_textLevel_27 : decode M_Name_textLevel.2.1 27 = .ok (.iload_n 1, 1) := by decide +kernel
theorem d_Name_textLevel_28 : decode M_Name_textLevel.2.1 28 = .ok (.iload 5, 2) := by decide +kernel
theorem d_Name_textLevel_30 : decode M_Name_textLevel.2.1 30 = .ok (.iadd, 1) := by decide +kernel
theorem d_Name_textLevel_31 : decode M_Name_textLevel.2.1 31 = .ok (.iload_n 2, 1) := by decide +kernel
theorem d_Name_textLevel_32 : decode M_Name_textLevel.2.1 32 = .ok (.if_icmp .lt 7, 3) := by decide +kernel
theorem d_Name_textLevel_39 : decode M_Name_textLevel.2.1 39 = .ok (.iconst 0, 1) := by decide +kernel
theorem d_Name_textLevel_40 : decode M_Name_textLevel.2.1 40 = .ok (.istore 6, 2) := by decide +kernel
theorem d_Name_textLevel_42 : decode M_Name_textLevel.2.1 42 = .ok (.iload 6, 2) := by decide +kernel
theorem d_Name_textLevel_44 : decode M_Name_textLevel.2.1 44 = .ok (.ifCond .eq 7, 3) := by decide +kernel
theorem d_Name_textLevel_51 : decode M_Name_textLevel.2.1 51 = .ok (.ldc 33, 2) := by decide +kernel
theorem d_Name_textLevel_53 : decode M_Name_textLevel.2.1 53 = .ok (.aload_n 0, 1) := by decide +kernel
theorem d_Name_textLevel_54 : decode M_Name_textLevel.2.1 54 = .ok (.iload_n 1, 1) := by decide +kernel
theorem d_Name_textLevel_55 : decode M_Name_textLevel.2.1 55 = .ok (.iload 5, 2) := by decide +kernel
theorem d_Name_textLevel_57 : decode M_Name_textLevel.2.1 57 = .ok (.iadd, 1) := by decide +kernel
theorem d_Name_textLevel_58 : decode M_Name_textLevel.2.1 58 = .ok (.invokevirtual 35, 3) := by decide +kernel
theorem xw_433 : (Jvm.Cond.code ({ cls := "java/lang/String", name := "charAt", desc := "(I)C" } : Jvm.MethodName) prog_25_method_56_code (2 : Nat) (Option.some Jvm.ClassFile.FieldType.char)) ∈ xT := xT_at 433 (by decide +kernel) (by decide +kernel)
theorem xcb_String_charAt : xcb M_String_charAt 1 := ⟨xw_433, xw_4, by decide, by decide, by decide, by decide +kernel⟩
theorem xw_431 : (Jvm.Cond.instanceMethod ({ cls := "java/lang/String", name := "charAt", desc := "(I)C" } : Jvm.MethodName)) ∈ xT := xT_at 431 (by decide +kernel) (by decide +kernel)
theorem xw_752 : (Jvm.Cond.methodLink "MarkerText$Name" (35 : Nat) ({ cls := "java/lang/String", name := "charAt", desc := "(I)C" } : Jvm.MethodName)) ∈ xT := xT_at 752 (by decide +kernel) (by decide +kernel)
theorem xw_432 : (Jvm.Cond.selects "java/lang/String" ({ cls := "java/lang/String", name := "charAt", desc := "(I)C" } : Jvm.MethodName) ({ cls := "java/lang/String", name := "charAt", desc := "(I)C" } : Jvm.MethodName)) ∈ xT := xT_at 432 (by decide +kernel) (by decide +kernel)
theorem xcv_Name_35_String : xCV "MarkerText$Name" 35 "java/lang/String" M_String_charAt 1 := ⟨xcb_String_charAt, xw_431, Or.inl ⟨xw_752, Or.inl xw_432⟩⟩
theorem d_Name_textLevel_61 : decode M_Name_textLevel.2.1 61 = .ok (.invokevirtual 41, 3) := by decide +kernel
theorem xw_762 : (Jvm.Cond.code ({ cls := "java/lang/String", name := "indexOf", desc := "(I)I" } : Jvm.MethodName) prog_25_method_79_code (2 : Nat) (Option.some Jvm.ClassFile.FieldType.int)) ∈ xT := xT_at 762 (by decide +kernel) (by decide +kernel)
theorem xcb_String_indexOf_I : xcb M_String_indexOf_I 1 := ⟨xw_762, xw_4, by decide, by decide, by decide, by decide +kernel⟩
theorem xw_760 : (Jvm.Cond.instanceMethod ({ cls := "java/lang/String", name := "indexOf", desc := "(I)I" } : Jvm.MethodName)) ∈ xT := xT_at 760 (by decide +kernel) (by decide +kernel)
theorem xw_759 : (Jvm.Cond.methodLink "MarkerText$Name" (41 : Nat) ({ cls := "java/lang/String", name := "indexOf", desc := "(I)I" } : Jvm.MethodName)) ∈ xT := xT_at 759 (by decide +kernel) (by decide +kernel)
theorem xw_761 : (Jvm.Cond.selects "java/lang/String" ({ cls := "java/lang/String", name := "indexOf", desc := "(I)I" } : Jvm.MethodName) ({ cls := "java/lang/String", name := "indexOf", desc := "(I)I" } : Jvm.MethodName)) ∈ xT := xT_at 761 (by decide +kernel) (by decide +kernel)
theorem xcv_Name_41_String : xCV "MarkerText$Name" 41 "java/lang/String" M_String_indexOf_I 1 := ⟨xcb_String_indexOf_I, xw_760, Or.inl ⟨xw_759, Or.inl xw_761⟩⟩
theorem d_Name_textLevel_64 : decode M_Name_textLevel.2.1 64 = .ok (.iconst 1, 1) := by decide +kernel
theorem d_Name_textLevel_65 : decode M_Name_textLevel.2.1 65 = .ok (.iadd, 1) := by decide +kernel
theorem d_Name_textLevel_66 : decode M_Name_textLevel.2.1 66 = .ok (.istore 7, 2) := by decide +kernel
theorem d_Name_textLevel_68 : decode M_Name_textLevel.2.1 68 = .ok (.iload 7, 2) := by decide +kernel
theorem d_Name_textLevel_70 : decode M_Name_textLevel.2.1 70 = .ok (.ifCond .ne 10, 3) := by decide +kernel
theorem d_Name_textLevel_73 : decode M_Name_textLevel.2.1 73 = .ok (.iload 6, 2) := by decide +kernel
theorem d_Name_textLevel_75 : decode M_Name_textLevel.2.1 75 = .ok (.ifCond .ne 5, 3) := by decide +kernel
theorem d_Name_textLevel_78 : decode M_Name_textLevel.2.1 78 = .ok (.lconst 0, 1) := by decide +kernel
theorem d_Name_textLevel_79 : decode M_Name_textLevel.2.1 79 = .ok (.lreturn, 1) := by decide +kernel
theorem d_Name_textLevel_80 : decode M_Name_textLevel.2.1 80 = .ok (.lload_n 3, 1) := by decide +kernel
theorem d_Name_textLevel_81 : decode M_Name_textLevel.2.1 81 = .ok (.ldc2_w 45, 3) := by decide +kernel
theorem xw_805 : (Jvm.Cond.constantLong "MarkerText$Name" (45 : Nat) (38 : Int64)) ∈ xT := xT_at 805 (by decide +kernel) (by decide +kernel)
theorem d_Name_textLevel_84 : decode M_Name_textLevel.2.1 84 = .ok (.lmul, 1) := by decide +kernel
theorem d_Name_textLevel_85 : decode M_Name_textLevel.2.1 85 = .ok (.iload 7, 2) := by decide +kernel
theorem d_Name_textLevel_87 : decode M_Name_textLevel.2.1 87 = .ok (.i2l, 1) := by decide +kernel
theorem d_Name_textLevel_88 : decode M_Name_textLevel.2.1 88 = .ok (.ladd, 1) := by decide +kernel
theorem d_Name_textLevel_89 : decode M_Name_textLevel.2.1 89 = .ok (.lstore_n 3, 1) := by decide +kernel
theorem d_Name_textLevel_90 : decode M_Name_textLevel.2.1 90 = .ok (.iinc 5 1, 3) := by decide +kernel
theorem d_Name_textLevel_93 : decode M_Name_textLevel.2.1 93 = .ok (.goto (-73), 3) := by decide +kernel
theorem d_Name_textLevel_35 : decode M_Name_textLevel.2.1 35 = .ok (.iconst 1, 1) := by decide +kernel
theorem d_Name_textLevel_36 : decode M_Name_textLevel.2.1 36 = .ok (.goto 4, 3) := by decide +kernel
theorem d_Name_textLevel_47 : decode M_Name_textLevel.2.1 47 = .ok (.iconst 0, 1) := by decide +kernel
theorem d_Name_textLevel_48 : decode M_Name_textLevel.2.1 48 = .ok (.goto 18, 3) := by decide +kernel
theorem d_Name_textLevel_0 : decode M_Name_textLevel.2.1 0 = .ok (.iload_n 2, 1) := by decide +kernel
theorem d_Name_textLevel_1 : decode M_Name_textLevel.2.1 1 = .ok (.iload_n 1, 1) := by decide +kernel
theorem d_Name_textLevel_2 : decode M_Name_textLevel.2.1 2 = .ok (.if_icmp .le 11, 3) := by decide +kernel
theorem d_Name_textLevel_13 : decode M_Name_textLevel.2.1 13 = .ok (.lconst 0, 1) := by decide +kernel
theorem d_Name_textLevel_14 : decode M_Name_textLevel.2.1 14 = .ok (.lreturn, 1) := by decide +kernel
theorem d_Name_textLevel_5 : decode M_Name_textLevel.2.1 5 = .ok (.iload_n 2, 1) := by decide +kernel
theorem d_Name_textLevel_6 : decode M_Name_textLevel.2.1 6 = .ok (.iload_n 1, 1) := by decide +kernel
theorem d_Name_textLevel_7 : decode M_Name_textLevel.2.1 7 = .ok (.isub, 1) := by decide +kernel
theorem d_Name_textLevel_8 : decode M_Name_textLevel.2.1 8 = .ok (.bipush 8, 2) := by decide +kernel
theorem d_Name_textLevel_10 : decode M_Name_textLevel.2.1 10 = .ok (.if_icmp .le 5, 3) := by decide +kernel
theorem d_Name_textLevel_15 : decode M_Name_textLevel.2.1 15 = .ok (.lconst 0, 1) := by decide +kernel
theorem d_Name_textLevel_16 : decode M_Name_textLevel.2.1 16 = .ok (.lstore_n 3, 1) := by decide +kernel
theorem d_Name_textLevel_17 : decode M_Name_textLevel.2.1 17 = .ok (.iconst 0, 1) := by decide +kernel
theorem d_Name_textLevel_18 : decode M_Name_textLevel.2.1 18 = .ok (.istore 5, 2) := by decide +kernel
end
section NM1
variable {l : Launch} {G : XG} {h : XH} {c n d : Nat}
/-! NAMES and their VALUES as levels -/
/-- how a character of a text VALUE counts; 0: it's none -/
def rk (ch : Nat) : Nat := if ch = 46 then 1 else if 48 ≤ ch ∧ ch ≤ 57 then ch - 46 else if 97 ≤ ch ∧ ch ≤ 122 then ch - 85 else 0
theorem rk_ix : ∀ ch, ch < 128 → xix (xtx 14) ch + 1 = nI (rk ch) := by decide +kernel
theorem rk_lt : ∀ ch, ch < 128 → rk ch < 38 := by decide +kernel
def tkey (u : List Nat) : Nat → Nat
  | 0 => 0
  | i + 1 => tkey u i * 38 + rk (u.getD i 0)
/-- the level of a text VALUE; 0 if it is none -/
def txl (u : List Nat) : Nat := if u ≠ [] ∧ u.length ≤ 8 ∧ ∀ ch ∈ u, rk ch ≠ 0 then 2 * tkey u 8 + 2 else 0
theorem tkey_lt {u : List Nat} (hu : xasc u) : ∀ i, tkey u i < 38 ^ i
  | 0 => by simp [tkey]
  | i + 1 => by
    have h1 := tkey_lt hu i
    have h2 : rk (u.getD i 0) < 38 := by
      rw [List.getD_eq_getElem?_getD]
      cases hq : u[i]? with
      | none => simp [rk]
      | some x => exact rk_lt x (hu x (List.mem_of_getElem? hq))
    simp only [tkey]
    rw [Nat.pow_succ]
    omega
theorem xcut_at {t : List Nat} {f m i : Nat} (hi : i < m) (hm : f + m ≤ t.length) : ((t.drop f).take m).getD i 0 = t[f + i]'(by omega) := by
  rw [List.getD_eq_getElem?_getD, List.getElem?_take, if_pos hi, List.getElem?_drop, List.getElem?_eq_getElem (by omega)]
  rfl
theorem lp_textLevel (hG : xGk G) (hd : 4 ≤ d) {a f m : Nat} {t : List Nat} {P : Option Value → XH → Nat → Nat → Prop} (hS : isS G h a t) (hm : f + m ≤ t.length) (h1 : 1 ≤ m) (h8 : m ≤ 8) (hl : t.length < 2 ^ 20) (hP : P (some (.long (lN (txl ((t.drop f).take m))))) h c n) :
    ∀ (k i : Nat) (e6 e7 : Option Value), i + k = 8 → (∀ j, j < i → j < m → rk (((t.drop f).take m).getD j 0) ≠ 0) → XW l G M_Name_textLevel d 20 [some (.ref a), some (.int (nI f)), some (.int (nI (f + m))), some (.long (lN (tkey ((t.drop f).take m) i))), none, some (.int (nI i)), e6, e7] [] h c n P := by
  obtain ⟨d, rfl⟩ : ∃ q, d = q + 1 := ⟨d - 1, by omega⟩
  obtain ⟨va, ee, ha, -, hat⟩ := id hS
  have hlen : ((t.drop f).take m).length = m := by simp; omega
  have hne : (t.drop f).take m ≠ [] := fun z => by rw [z] at hlen; simp at hlen; omega
  have hua : xasc ((t.drop f).take m) := xasc_cut hat
  intro k
  induction k with
  | zero =>
    intro i e6 e7 hi hj
    have hi8 : i = 8 := by omega
    subst hi8
    have hall : ∀ ch ∈ (t.drop f).take m, rk ch ≠ 0 := by
      intro ch hch
      obtain ⟨j, hj1, hj2⟩ := List.getElem_of_mem hch
      have := hj j (by omega) (by omega)
      rwa [List.getD_eq_getElem?_getD, List.getElem?_eq_getElem hj1, Option.getD_some, hj2] at this
    unfold txl at hP
    rw [if_pos ⟨hne, by omega, hall⟩] at hP
    refine x_iload d_Name_textLevel_20 rfl ?_
    refine x_bipush (v := 8) d_Name_textLevel_22 (by decide) ?_
    refine x_icmp_ge (tgt := 96) d_Name_textLevel_24 (by decide) (fun _ => ?_) (fun hn => absurd (by decide) hn)
    refine x_ldc2 (v := 2) xw_754 d_Name_textLevel_96 ?_
    refine x_lload_n d_Name_textLevel_99 rfl ?_
    refine x_lmul d_Name_textLevel_100 ?_
    refine x_ldc2 (v := 2) xw_754 d_Name_textLevel_101 ?_
    refine x_ladd d_Name_textLevel_104 ?_
    refine x_top (w := .long (lN (2 * tkey ((t.drop f).take m) 8 + 2))) (by rw [show (2 : Int64) = lN 2 from rfl, lN_mul, lN_add]) ?_
    refine x_lret d_Name_textLevel_105 rfl ?_
    exact hP
  | succ k ih =>
    intro i e6 e7 hi hj
    refine x_iload d_Name_textLevel_20 rfl ?_
    refine x_bipush (v := 8) d_Name_textLevel_22 (by decide) ?_
    refine x_icmp_ge (tgt := 96) d_Name_textLevel_24 (by decide) (fun ht => absurd ht (nI_ge (a := i) (b := 8) (by omega) (by omega))) (fun _ => ?_)
    refine x_iload_n d_Name_textLevel_27 rfl ?_
    refine x_iload d_Name_textLevel_28 rfl ?_
    refine x_iadd d_Name_textLevel_30 ?_
    refine x_top (w := .int (nI (f + i))) (by rw [nI_add]) ?_
    refine x_iload_n d_Name_textLevel_31 rfl ?_
    by_cases him : i < m
    · have hfi : f + i < t.length := by omega
      have hch := hat t[f + i] (List.getElem_mem hfi)
      have hgd := xcut_at (t := t) (f := f) him hm
      refine x_icmp_lt (tgt := 39) d_Name_textLevel_32 (by decide) (fun _ => ?_) (fun hn => absurd (nI_lt (by omega) (by omega)) hn)
      refine x_iconst (v := 0) d_Name_textLevel_39 (by decide) ?_
      refine x_istore (L' := [_, _, _, _, _, _, _, _]) d_Name_textLevel_40 rfl rfl ?_
      refine x_iload d_Name_textLevel_42 rfl ?_
      refine x_if_eq (tgt := 51) d_Name_textLevel_44 (by decide) (fun _ => ?_) (fun hn => absurd rfl hn)
      refine x_ldcS (i := 14) (tx := ".0123456789abcdefghijklmnopqrstuvwxyz") (by decide +kernel) d_Name_textLevel_51 ?_
      refine x_aload_n d_Name_textLevel_53 rfl rfl ?_
      refine x_iload_n d_Name_textLevel_54 rfl ?_
      refine x_iload d_Name_textLevel_55 rfl ?_
      refine x_iadd d_Name_textLevel_57 ?_
      refine x_top (w := .int (nI (f + i))) (by rw [nI_add]) ?_
      refine x_callV (As := [_]) (k := k_String) rfl xcv_Name_35_String ha (c_String_charAt hG (by omega) hS hfi (by omega)) rfl rfl (Nat.le_of_ble_eq_true rfl) d_Name_textLevel_58 ?_
      rintro v h' c' n' ⟨rfl, rfl, rfl, rfl⟩
      obtain ⟨vk, ek, hka, -⟩ := id (hG.str (h := h') (i := 14) (by decide))
      refine x_callV (As := [_]) (k := k_String) rfl xcv_Name_41_String hka (c_String_indexOf (by omega) (hG.str (by decide)) hch (by decide)) rfl rfl (Nat.le_of_ble_eq_true rfl) d_Name_textLevel_61 ?_
      rintro v h' c' n' ⟨rfl, rfl, rfl, rfl⟩
      refine x_iconst (v := 1) d_Name_textLevel_64 (by decide) ?_
      refine x_iadd d_Name_textLevel_65 ?_
      refine x_top (w := .int (nI (rk t[f + i]))) (by rw [rk_ix _ hch]) ?_
      refine x_istore (L' := [_, _, _, _, _, _, _, _]) d_Name_textLevel_66 rfl rfl ?_
      refine x_iload d_Name_textLevel_68 rfl ?_
      have hrk := rk_lt _ hch
      by_cases hr : rk t[f + i] = 0
      · have hbad : ¬ ∀ ch ∈ (t.drop f).take m, rk ch ≠ 0 := by
          intro hz
          refine hz t[f + i] ?_ hr
          rw [← hgd, List.getD_eq_getElem?_getD, List.getElem?_eq_getElem (by omega)]
          exact List.getElem_mem _
        unfold txl at hP
        rw [if_neg (fun z => hbad z.2.2)] at hP
        refine x_if_ne (tgt := 80) d_Name_textLevel_70 (by decide) (fun ht => absurd (by rw [hr]; rfl) ht) (fun _ => ?_)
        refine x_iload d_Name_textLevel_73 rfl ?_
        refine x_if_ne (tgt := 80) d_Name_textLevel_75 (by decide) (fun ht => absurd rfl ht) (fun _ => ?_)
        refine x_lconst (v := 0) d_Name_textLevel_78 (by decide) ?_
        refine x_lret d_Name_textLevel_79 rfl ?_
        exact hP
      · refine x_if_ne (tgt := 80) d_Name_textLevel_70 (by decide) (fun _ => ?_) (fun hn => absurd hn (nI_ne0 (by omega) (by omega)))
        refine x_lload_n d_Name_textLevel_80 rfl ?_
        refine x_ldc2 (v := 38) xw_805 d_Name_textLevel_81 ?_
        refine x_lmul d_Name_textLevel_84 ?_
        refine x_iload d_Name_textLevel_85 rfl ?_
        refine x_st (st' := [.int (nI (rk t[f + i])), .long (lN (tkey ((t.drop f).take m) i * 38))]) (by rw [show (38 : Int64) = lN 38 from rfl, lN_mul]; rfl) ?_
        refine x_i2l d_Name_textLevel_87 ?_
        refine x_ladd d_Name_textLevel_88 ?_
        refine x_top (w := .long (lN (tkey ((t.drop f).take m) (i + 1)))) (by rw [nI_l (by omega), lN_add, ← hgd]; rfl) ?_
        refine x_lstore_n (L' := [_, _, _, _, _, _, _, _]) d_Name_textLevel_89 rfl rfl ?_
        refine x_iinc (v := nI (i + 1)) (L' := [_, _, _, _, _, _, _, _]) d_Name_textLevel_90 rfl (by exact xw_iinc1) rfl rfl ?_
        refine x_goto (tgt := 20) d_Name_textLevel_93 (by decide) ?_
        refine ih (i + 1) _ _ (by omega) (fun j hj1 hj2 => ?_)
        by_cases hji : j = i
        · subst hji; rw [hgd]; exact hr
        · exact hj j (by omega) hj2
    · have hgd : ((t.drop f).take m).getD i 0 = 0 := by
        rw [List.getD_eq_getElem?_getD, List.getElem?_eq_none (by omega)]
        rfl
      refine x_icmp_lt (tgt := 39) d_Name_textLevel_32 (by decide) (fun ht => absurd ht (nI_nlt (by omega) (by omega))) (fun _ => ?_)
      refine x_iconst (v := 1) d_Name_textLevel_35 (by decide) ?_
      refine x_goto (tgt := 40) d_Name_textLevel_36 (by decide) ?_
      refine x_istore (L' := [_, _, _, _, _, _, _, _]) d_Name_textLevel_40 rfl rfl ?_
      refine x_iload d_Name_textLevel_42 rfl ?_
      refine x_if_eq (tgt := 51) d_Name_textLevel_44 (by decide) (fun ht => absurd ht (by decide)) (fun _ => ?_)
      refine x_iconst (v := 0) d_Name_textLevel_47 (by decide) ?_
      refine x_goto (tgt := 66) d_Name_textLevel_48 (by decide) ?_
      refine x_istore (L' := [_, _, _, _, _, _, _, _]) d_Name_textLevel_66 rfl rfl ?_
      refine x_iload d_Name_textLevel_68 rfl ?_
      refine x_if_ne (tgt := 80) d_Name_textLevel_70 (by decide) (fun ht => absurd rfl ht) (fun _ => ?_)
      refine x_iload d_Name_textLevel_73 rfl ?_
      refine x_if_ne (tgt := 80) d_Name_textLevel_75 (by decide) (fun _ => ?_) (fun hn => absurd hn (by decide))
      refine x_lload_n d_Name_textLevel_80 rfl ?_
      refine x_ldc2 (v := 38) xw_805 d_Name_textLevel_81 ?_
      refine x_lmul d_Name_textLevel_84 ?_
      refine x_iload d_Name_textLevel_85 rfl ?_
      refine x_st (st' := [.int (nI 0), .long (lN (tkey ((t.drop f).take m) i * 38))]) (by rw [show (38 : Int64) = lN 38 from rfl, lN_mul]; rfl) ?_
      refine x_i2l d_Name_textLevel_87 ?_
      refine x_ladd d_Name_textLevel_88 ?_
      refine x_top (w := .long (lN (tkey ((t.drop f).take m) (i + 1)))) (by rw [nI_l (by omega), lN_add]; simp only [tkey]; rw [hgd]; rfl) ?_
      refine x_lstore_n (L' := [_, _, _, _, _, _, _, _]) d_Name_textLevel_89 rfl rfl ?_
      refine x_iinc (v := nI (i + 1)) (L' := [_, _, _, _, _, _, _, _]) d_Name_textLevel_90 rfl (by exact xw_iinc1) rfl rfl ?_
      refine x_goto (tgt := 20) d_Name_textLevel_93 (by decide) ?_
      exact ih (i + 1) _ _ (by omega) (fun j hj1 hj2 => hj j (by omega) hj2)
theorem c_textLevel (hG : xGk G) (hd : 4 ≤ d) {a f m : Nat} {t : List Nat} (hS : isS G h a t) (hm : f + m ≤ t.length) (hl : t.length < 2 ^ 20) : XM l G d M_Name_textLevel [.ref a, .int (nI f), .int (nI (f + m))] h c n (xSame (.long (lN (txl ((t.drop f).take m)))) h c n) := by
  have hlen : ((t.drop f).take m).length = m := by simp; omega
  refine XM.of (by decide +kernel) (Nat.le_of_ble_eq_true rfl) ?_
  refine x_iload_n d_Name_textLevel_0 rfl ?_
  refine x_iload_n d_Name_textLevel_1 rfl ?_
  by_cases h0 : m = 0
  · subst h0
    refine x_icmp_le (tgt := 13) d_Name_textLevel_2 (by decide) (fun _ => ?_) (fun hn => absurd (nI_le (by omega) (by omega)) hn)
    refine x_lconst (v := 0) d_Name_textLevel_13 (by decide) ?_
    refine x_lret d_Name_textLevel_14 rfl ?_
    refine ⟨?_, rfl, rfl, rfl⟩
    simp [txl, lN]
  · refine x_icmp_le (tgt := 13) d_Name_textLevel_2 (by decide) (fun ht => absurd ht (nI_ge (by omega) (by omega))) (fun _ => ?_)
    refine x_iload_n d_Name_textLevel_5 rfl ?_
    refine x_iload_n d_Name_textLevel_6 rfl ?_
    refine x_isub d_Name_textLevel_7 ?_
    refine x_top (w := .int (nI m)) (by rw [pk_sub (by omega)]; congr 1; exact congrArg nI (by omega)) ?_
    refine x_bipush (v := 8) d_Name_textLevel_8 (by decide) ?_
    by_cases h8 : m ≤ 8
    · refine x_icmp_le (tgt := 15) d_Name_textLevel_10 (by decide) (fun _ => ?_) (fun hn => absurd (nI_le h8 (by omega)) hn)
      refine x_lconst (v := 0) d_Name_textLevel_15 (by decide) ?_
      refine x_lstore_n (L' := [_, _, _, _, _, _, _, _]) d_Name_textLevel_16 rfl rfl ?_
      refine x_iconst (v := 0) d_Name_textLevel_17 (by decide) ?_
      refine x_istore (L' := [_, _, _, _, _, _, _, _]) d_Name_textLevel_18 rfl rfl ?_
      exact lp_textLevel hG hd hS hm (by omega) h8 hl ⟨rfl, rfl, rfl, rfl⟩ 8 0 _ _ (by omega) (fun j hj => by omega)
    · refine x_icmp_le (tgt := 15) d_Name_textLevel_10 (by decide) (fun ht => absurd ht (nI_ge (a := 8) (b := m) (by omega) (by omega))) (fun _ => ?_)
      refine x_lconst (v := 0) d_Name_textLevel_13 (by decide) ?_
      refine x_lret d_Name_textLevel_14 rfl ?_
      refine ⟨?_, rfl, rfl, rfl⟩
      unfold txl
      rw [if_neg (fun z => by omega)]
      rfl
end NM1
end
section
section
abbrev y_Name_versionLevel : MethodName := ⟨"MarkerText$Name", "versionLevel", "(Ljava/lang/String;II)J"⟩
abbrev M_Name_versionLevel : XMt := (y_Name_versionLevel, prog_6_method_6_code, 10, (some .long))
theorem d_Name_versionLevel_146 : decode M_Name_versionLevel.2.1 146 = .ok (.iload 8, 2) := by decide +kernel
theorem d_Name_versionLevel_148 : decode M_Name_versionLevel.2.1 148 = .ok (.iconst 3, 1) := by decide +kernel
theorem d_Name_versionLevel_149 : decode M_Name_versionLevel.2.1 149 = .ok (.if_icmp .ge 15, 3) := by decide +kernel
theorem d_Name_versionLevel_164 : decode M_Name_versionLevel.2.1 164 = .ok (.ldc2_w 47, 3) := by decide +kernel
theorem d_Name_versionLevel_167 : decode M_Name_versionLevel.2.1 167 = .ok (.lload_n 3, 1) := by decide +kernel
theorem d_Name_versionLevel_168 : decode M_Name_versionLevel.2.1 168 = .ok (.lmul, 1) := by decide +kernel
theorem d_Name_versionLevel_169 : decode M_Name_versionLevel.2.1 169 = .ok (.ldc2_w 47, 3) := by decide +kernel
theorem d_Name_versionLevel_172 : decode M_Name_versionLevel.2.1 172 = .ok (.ladd, 1) := by decide +kernel
theorem d_Name_versionLevel_173 : decode M_Name_versionLevel.2.1 173 = .ok (.lreturn, 1) := by decide +kernel
theorem d_Name_versionLevel_152 : decode M_Name_versionLevel.2.1 152 = .ok (.lload_n 3, 1) := by decide +kernel
theorem d_Name_versionLevel_153 : decode M_Name_versionLevel.2.1 153 = .ok (.ldc2_w 49, 3) := by decide +kernel
theorem xw_753 : (Jvm.Cond.constantLong "MarkerText$Name" (49 : Nat) (1000 : Int64)) ∈ xT := xT_at 753 (by decide +kernel) (by decide +kernel)
theorem d_Name_versionLevel_156 : decode M_Name_versionLevel.2.1 156 = .ok (.lmul, 1) := by decide +kernel
theorem d_Name_versionLevel_157 : decode M_Name_versionLevel.2.1 157 = .ok (.lstore_n 3, 1) := by decide +kernel
theorem d_Name_versionLevel_158 : decode M_Name_versionLevel.2.1 158 = .ok (.iinc 8 1, 3) := by decide +kernel
theorem d_Name_versionLevel_161 : decode M_Name_versionLevel.2.1 161 = .ok (.goto (-15), 3) := by decide +kernel
theorem d_Name_versionLevel_14 : decode M_Name_versionLevel.2.1 14 = .ok (.iload 8, 2) := by decide +kernel
theorem d_Name_versionLevel_16 : decode M_Name_versionLevel.2.1 16 = .ok (.iload_n 2, 1) := by decide +kernel
theorem d_Name_versionLevel_17 : decode M_Name_versionLevel.2.1 17 = .ok (.if_icmp .ge 108, 3) := by decide +kernel
theorem d_Name_versionLevel_125 : decode M_Name_versionLevel.2.1 125 = .ok (.iload 6, 2) := by decide +kernel
theorem d_Name_versionLevel_127 : decode M_Name_versionLevel.2.1 127 = .ok (.ifCond .ne 5, 3) := by decide +kernel
theorem d_Name_versionLevel_130 : decode M_Name_versionLevel.2.1 130 = .ok (.lconst 0, 1) := by decide +kernel
theorem d_Name_versionLevel_131 : decode M_Name_versionLevel.2.1 131 = .ok (.lreturn, 1) := by decide +kernel
theorem d_Name_versionLevel_132 : decode M_Name_versionLevel.2.1 132 = .ok (.lload_n 3, 1) := by decide +kernel
theorem d_Name_versionLevel_133 : decode M_Name_versionLevel.2.1 133 = .ok (.ldc2_w 49, 3) := by decide +kernel
theorem d_Name_versionLevel_136 : decode M_Name_versionLevel.2.1 136 = .ok (.lmul, 1) := by decide +kernel
theorem d_Name_versionLevel_137 : decode M_Name_versionLevel.2.1 137 = .ok (.iload 5, 2) := by decide +kernel
theorem d_Name_versionLevel_139 : decode M_Name_versionLevel.2.1 139 = .ok (.i2l, 1) := by decide +kernel
theorem d_Name_versionLevel_140 : decode M_Name_versionLevel.2.1 140 = .ok (.ladd, 1) := by decide +kernel
theorem d_Name_versionLevel_141 : decode M_Name_versionLevel.2.1 141 = .ok (.lstore_n 3, 1) := by decide +kernel
theorem d_Name_versionLevel_142 : decode M_Name_versionLevel.2.1 142 = .ok (.iload 7, 2) := by decide +kernel
theorem d_Name_versionLevel_144 : decode M_Name_versionLevel.2.1 144 = .ok (.istore 8, 2) := by decide +kernel
theorem d_Name_versionLevel_20 : decode M_Name_versionLevel.2.1 20 = .ok (.aload_n 0, 1) := by decide +kernel
theorem d_Name_versionLevel_21 : decode M_Name_versionLevel.2.1 21 = .ok (.iload 8, 2) := by decide +kernel
theorem d_Name_versionLevel_23 : decode M_Name_versionLevel.2.1 23 = .ok (.invokevirtual 35, 3) := by decide +kernel
theorem d_Name_versionLevel_26 : decode M_Name_versionLevel.2.1 26 = .ok (.istore 9, 2) := by decide +kernel
theorem d_Name_versionLevel_28 : decode M_Name_versionLevel.2.1 28 = .ok (.iload 9, 2) := by decide +kernel
theorem d_Name_versionLevel_30 : decode M_Name_versionLevel.2.1 30 = .ok (.bipush 46, 2) := by decide +kernel
theorem d_Name_versionLevel_32 : decode M_Name_versionLevel.2.1 32 = .ok (.if_icmp .ne 36, 3) := by decide +kernel
theorem d_Name_versionLevel_35 : decode M_Name_versionLevel.2.1 35 = .ok (.iload 6, 2) := by decide +kernel
theorem d_Name_versionLevel_37 : decode M_Name_versionLevel.2.1 37 = .ok (.ifCond .le 31, 3) := by decide +kernel
theorem d_Name_versionLevel_40 : decode M_Name_versionLevel.2.1 40 = .ok (.iload 7, 2) := by decide +kernel
theorem d_Name_versionLevel_42 : decode M_Name_versionLevel.2.1 42 = .ok (.iconst 3, 1) := by decide +kernel
theorem d_Name_versionLevel_43 : decode M_Name_versionLevel.2.1 43 = .ok (.if_icmp .ge 25, 3) := by decide +kernel
theorem d_Name_versionLevel_46 : decode M_Name_versionLevel.2.1 46 = .ok (.lload_n 3, 1) := by decide +kernel
theorem d_Name_versionLevel_47 : decode M_Name_versionLevel.2.1 47 = .ok (.ldc2_w 49, 3) := by decide +kernel
theorem d_Name_versionLevel_50 : decode M_Name_versionLevel.2.1 50 = .ok (.lmul, 1) := by decide +kernel
theorem d_Name_versionLevel_51 : decode M_Name_versionLevel.2.1 51 = .ok (.iload 5, 2) := by decide +kernel
theorem d_Name_versionLevel_53 : decode M_Name_versionLevel.2.1 53 = .ok (.i2l, 1) := by decide +kernel
theorem d_Name_versionLevel_54 : decode M_Name_versionLevel.2.1 54 = .ok (.ladd, 1) := by decide +kernel
theorem d_Name_versionLevel_55 : decode M_Name_versionLevel.2.1 55 = .ok (.lstore_n 3, 1) := by decide +kernel
theorem d_Name_versionLevel_56 : decode M_Name_versionLevel.2.1 56 = .ok (.iconst 0, 1) := by decide +kernel
theorem d_Name_versionLevel_57 : decode M_Name_versionLevel.2.1 57 = .ok (.istore 5, 2) := by decide +kernel
theorem d_Name_versionLevel_59 : decode M_Name_versionLevel.2.1 59 = .ok (.iconst 0, 1) := by decide +kernel
theorem d_Name_versionLevel_60 : decode M_Name_versionLevel.2.1 60 = .ok (.istore 6, 2) := by decide +kernel
theorem d_Name_versionLevel_62 : decode M_Name_versionLevel.2.1 62 = .ok (.iinc 7 1, 3) := by decide +kernel
theorem d_Name_versionLevel_65 : decode M_Name_versionLevel.2.1 65 = .ok (.goto 54, 3) := by decide +kernel
theorem d_Name_versionLevel_119 : decode M_Name_versionLevel.2.1 119 = .ok (.iinc 8 1, 3) := by decide +kernel
theorem d_Name_versionLevel_122 : decode M_Name_versionLevel.2.1 122 = .ok (.goto (-108), 3) := by decide +kernel
theorem d_Name_versionLevel_117 : decode M_Name_versionLevel.2.1 117 = .ok (.lconst 0, 1) := by decide +kernel
theorem d_Name_versionLevel_118 : decode M_Name_versionLevel.2.1 118 = .ok (.lreturn, 1) := by decide +kernel
theorem d_Name_versionLevel_98 : decode M_Name_versionLevel.2.1 98 = .ok (.iload 5, 2) := by decide +kernel
theorem d_Name_versionLevel_100 : decode M_Name_versionLevel.2.1 100 = .ok (.bipush 10, 2) := by decide +kernel
theorem d_Name_versionLevel_102 : decode M_Name_versionLevel.2.1 102 = .ok (.imul, 1) := by decide +kernel
theorem d_Name_versionLevel_103 : decode M_Name_versionLevel.2.1 103 = .ok (.iload 9, 2) := by decide +kernel
theorem d_Name_versionLevel_105 : decode M_Name_versionLevel.2.1 105 = .ok (.bipush 48, 2) := by decide +kernel
theorem d_Name_versionLevel_107 : decode M_Name_versionLevel.2.1 107 = .ok (.isub, 1) := by decide +kernel
theorem d_Name_versionLevel_108 : decode M_Name_versionLevel.2.1 108 = .ok (.iadd, 1) := by decide +kernel
theorem d_Name_versionLevel_109 : decode M_Name_versionLevel.2.1 109 = .ok (.istore 5, 2) := by decide +kernel
theorem d_Name_versionLevel_111 : decode M_Name_versionLevel.2.1 111 = .ok (.iinc 6 1, 3) := by decide +kernel
theorem d_Name_versionLevel_114 : decode M_Name_versionLevel.2.1 114 = .ok (.goto 5, 3) := by decide +kernel
theorem d_Name_versionLevel_68 : decode M_Name_versionLevel.2.1 68 = .ok (.iload 9, 2) := by decide +kernel
theorem d_Name_versionLevel_70 : decode M_Name_versionLevel.2.1 70 = .ok (.bipush 48, 2) := by decide +kernel
theorem d_Name_versionLevel_72 : decode M_Name_versionLevel.2.1 72 = .ok (.if_icmp .lt 45, 3) := by decide +kernel
theorem d_Name_versionLevel_75 : decode M_Name_versionLevel.2.1 75 = .ok (.iload 9, 2) := by decide +kernel
theorem d_Name_versionLevel_77 : decode M_Name_versionLevel.2.1 77 = .ok (.bipush 57, 2) := by decide +kernel
theorem d_Name_versionLevel_79 : decode M_Name_versionLevel.2.1 79 = .ok (.if_icmp .gt 38, 3) := by decide +kernel
theorem d_Name_versionLevel_82 : decode M_Name_versionLevel.2.1 82 = .ok (.iload 6, 2) := by decide +kernel
theorem d_Name_versionLevel_84 : decode M_Name_versionLevel.2.1 84 = .ok (.iconst 3, 1) := by decide +kernel
theorem d_Name_versionLevel_85 : decode M_Name_versionLevel.2.1 85 = .ok (.if_icmp .ge 32, 3) := by decide +kernel
theorem d_Name_versionLevel_88 : decode M_Name_versionLevel.2.1 88 = .ok (.iload 6, 2) := by decide +kernel
theorem d_Name_versionLevel_90 : decode M_Name_versionLevel.2.1 90 = .ok (.ifCond .eq 8, 3) := by decide +kernel
theorem d_Name_versionLevel_93 : decode M_Name_versionLevel.2.1 93 = .ok (.iload 5, 2) := by decide +kernel
theorem d_Name_versionLevel_95 : decode M_Name_versionLevel.2.1 95 = .ok (.ifCond .le 22, 3) := by decide +kernel
theorem d_Name_versionLevel_0 : decode M_Name_versionLevel.2.1 0 = .ok (.lconst 0, 1) := by decide +kernel
theorem d_Name_versionLevel_1 : decode M_Name_versionLevel.2.1 1 = .ok (.lstore_n 3, 1) := by decide +kernel
theorem d_Name_versionLevel_2 : decode M_Name_versionLevel.2.1 2 = .ok (.iconst 0, 1) := by decide +kernel
theorem d_Name_versionLevel_3 : decode M_Name_versionLevel.2.1 3 = .ok (.istore 5, 2) := by decide +kernel
theorem d_Name_versionLevel_5 : decode M_Name_versionLevel.2.1 5 = .ok (.iconst 0, 1) := by decide +kernel
theorem d_Name_versionLevel_6 : decode M_Name_versionLevel.2.1 6 = .ok (.istore 6, 2) := by decide +kernel
theorem d_Name_versionLevel_8 : decode M_Name_versionLevel.2.1 8 = .ok (.iconst 1, 1) := by decide +kernel
theorem d_Name_versionLevel_9 : decode M_Name_versionLevel.2.1 9 = .ok (.istore 7, 2) := by decide +kernel
theorem d_Name_versionLevel_11 : decode M_Name_versionLevel.2.1 11 = .ok (.iload_n 1, 1) := by decide +kernel
theorem d_Name_versionLevel_12 : decode M_Name_versionLevel.2.1 12 = .ok (.istore 8, 2) := by decide +kernel
end
section NM2
variable {l : Launch} {G : XG} {h : XH} {c n d : Nat}
/-- a version as it is read: the numbers read whole as one key, the number that is read, its digits, how many numbers -/
def vst (s : Nat × Nat × Nat × Nat) (ch : Nat) : Option (Nat × Nat × Nat × Nat) :=
  if ch = 46 ∧ 0 < s.2.2.1 ∧ s.2.2.2 < 3 then some (s.1 * 1000 + s.2.1, 0, 0, s.2.2.2 + 1)
  else if (48 ≤ ch ∧ ch ≤ 57) ∧ s.2.2.1 < 3 ∧ (s.2.2.1 = 0 ∨ 0 < s.2.1) then some (s.1, s.2.1 * 10 + (ch - 48), s.2.2.1 + 1, s.2.2.2)
  else none
def vrun : List Nat → Nat × Nat × Nat × Nat → Option (Nat × Nat × Nat × Nat)
  | [], s => some s
  | ch :: u, s => match vst s ch with
    | none => none
    | some s' => vrun u s'
def vfin : Option (Nat × Nat × Nat × Nat) → Nat
  | none => 0
  | some s => if s.2.2.1 = 0 then 0 else 2 * ((s.1 * 1000 + s.2.1) * 1000 ^ (3 - s.2.2.2)) + 2
/-- the level of a version VALUE; 0 if it is none -/
def vsl (u : List Nat) : Nat := vfin (vrun u (0, 0, 0, 1))
theorem lp_ver2 {x2 x7 : Int32} {e0 e1 e5 e6 e9 : Option Value} {P : Option Value → XH → Nat → Nat → Prop} : ∀ (k i key : Nat), i + k = 3 → P (some (.long (lN (2 * (key * 1000 ^ k) + 2)))) h c n → XW l G M_Name_versionLevel d 146 [e0, e1, some (.int x2), some (.long (lN key)), none, e5, e6, some (.int x7), some (.int (nI i)), e9] [] h c n P := by
  intro k
  induction k with
  | zero =>
    intro i key hi hP
    have hi3 : i = 3 := by omega
    subst hi3
    refine x_iload d_Name_versionLevel_146 rfl ?_
    refine x_iconst (v := 3) d_Name_versionLevel_148 (by decide) ?_
    refine x_icmp_ge (tgt := 164) d_Name_versionLevel_149 (by decide) (fun _ => ?_) (fun hn => absurd (by decide) hn)
    refine x_ldc2 (v := 2) xw_754 d_Name_versionLevel_164 ?_
    refine x_lload_n d_Name_versionLevel_167 rfl ?_
    refine x_lmul d_Name_versionLevel_168 ?_
    refine x_ldc2 (v := 2) xw_754 d_Name_versionLevel_169 ?_
    refine x_ladd d_Name_versionLevel_172 ?_
    refine x_top (w := .long (lN (2 * (key * 1000 ^ 0) + 2))) (by rw [show (2 : Int64) = lN 2 from rfl, lN_mul, lN_add, Nat.pow_zero, Nat.mul_one]) ?_
    refine x_lret d_Name_versionLevel_173 rfl ?_
    exact hP
  | succ k ih =>
    intro i key hi hP
    refine x_iload d_Name_versionLevel_146 rfl ?_
    refine x_iconst (v := 3) d_Name_versionLevel_148 (by decide) ?_
    refine x_icmp_ge (tgt := 164) d_Name_versionLevel_149 (by decide) (fun ht => absurd ht (nI_ge (a := i) (b := 3) (by omega) (by omega))) (fun _ => ?_)
    refine x_lload_n d_Name_versionLevel_152 rfl ?_
    refine x_ldc2 (v := 1000) xw_753 d_Name_versionLevel_153 ?_
    refine x_lmul d_Name_versionLevel_156 ?_
    refine x_top (w := .long (lN (key * 1000))) (by rw [show (1000 : Int64) = lN 1000 from rfl, lN_mul]) ?_
    refine x_lstore_n (L' := [_, _, _, _, _, _, _, _, _, _]) d_Name_versionLevel_157 rfl rfl ?_
    refine x_iinc (v := nI (i + 1)) (L' := [_, _, _, _, _, _, _, _, _, _]) d_Name_versionLevel_158 rfl (by exact xw_iinc1) rfl rfl ?_
    refine x_goto (tgt := 146) d_Name_versionLevel_161 (by decide) ?_
    refine ih (i + 1) (key * 1000) (by omega) ?_
    rw [Nat.mul_assoc, show 1000 * 1000 ^ k = 1000 ^ (k + 1) by rw [Nat.pow_succ, Nat.mul_comm]]
    exact hP
theorem lp_ver1 (hG : xGk G) (hd : 4 ≤ d) {a f b : Nat} {t : List Nat} {P : Option Value → XH → Nat → Nat → Prop} (hS : isS G h a t) (hb : b ≤ t.length) (hl : t.length < 2 ^ 20) :
    ∀ (k i key num dg nb : Nat) (e9 : Option Value), i + k = b → num < 10 ^ dg → dg ≤ 3 → 1 ≤ nb → nb ≤ 3 → P (some (.long (lN (vfin (vrun ((t.drop i).take k) (key, num, dg, nb)))))) h c n → XW l G M_Name_versionLevel d 14 [some (.ref a), some (.int (nI f)), some (.int (nI b)), some (.long (lN key)), none, some (.int (nI num)), some (.int (nI dg)), some (.int (nI nb)), some (.int (nI i)), e9] [] h c n P := by
  obtain ⟨d, rfl⟩ : ∃ q, d = q + 1 := ⟨d - 1, by omega⟩
  obtain ⟨va, ee, ha, -, hat⟩ := id hS
  have hbig : ∀ {num dg : Nat}, num < 10 ^ dg → dg ≤ 3 → num < 1000 := fun {num dg} h1 h2 => Nat.lt_of_lt_of_le h1 (Nat.pow_le_pow_right (by omega) h2)
  intro k
  induction k with
  | zero =>
    intro i key num dg nb e9 hi hn hdg hb1 hb3 hP
    have := hbig hn hdg
    refine x_iload d_Name_versionLevel_14 rfl ?_
    refine x_iload_n d_Name_versionLevel_16 rfl ?_
    refine x_icmp_ge (tgt := 125) d_Name_versionLevel_17 (by decide) (fun _ => ?_) (fun hn => absurd (nI_le (by omega) (by omega)) hn)
    refine x_iload d_Name_versionLevel_125 rfl ?_
    simp only [List.take_zero, vrun, vfin] at hP
    by_cases h0 : dg = 0
    · subst h0
      rw [if_pos rfl] at hP
      refine x_if_ne (tgt := 132) d_Name_versionLevel_127 (by decide) (fun ht => absurd rfl ht) (fun _ => ?_)
      refine x_lconst (v := 0) d_Name_versionLevel_130 (by decide) ?_
      refine x_lret d_Name_versionLevel_131 rfl ?_
      exact hP
    · rw [if_neg h0] at hP
      refine x_if_ne (tgt := 132) d_Name_versionLevel_127 (by decide) (fun _ => ?_) (fun hn => absurd hn (nI_ne0 (by omega) (by omega)))
      refine x_lload_n d_Name_versionLevel_132 rfl ?_
      refine x_ldc2 (v := 1000) xw_753 d_Name_versionLevel_133 ?_
      refine x_lmul d_Name_versionLevel_136 ?_
      refine x_iload d_Name_versionLevel_137 rfl ?_
      refine x_i2l d_Name_versionLevel_139 ?_
      refine x_ladd d_Name_versionLevel_140 ?_
      refine x_top (w := .long (lN (key * 1000 + num))) (by rw [nI_l (by omega), show (1000 : Int64) = lN 1000 from rfl, lN_mul, lN_add]) ?_
      refine x_lstore_n (L' := [_, _, _, _, _, _, _, _, _, _]) d_Name_versionLevel_141 rfl rfl ?_
      refine x_iload d_Name_versionLevel_142 rfl ?_
      refine x_istore (L' := [_, _, _, _, _, _, _, _, _, _]) d_Name_versionLevel_144 rfl rfl ?_
      exact lp_ver2 (3 - nb) nb (key * 1000 + num) (by omega) hP
  | succ k ih =>
    intro i key num dg nb e9 hi hn hdg hb1 hb3 hP
    have hil : i < t.length := by omega
    have hch := hat t[i] (List.getElem_mem hil)
    have hnb := hbig hn hdg
    rw [List.drop_eq_getElem_cons hil, List.take_succ_cons] at hP
    refine x_iload d_Name_versionLevel_14 rfl ?_
    refine x_iload_n d_Name_versionLevel_16 rfl ?_
    refine x_icmp_ge (tgt := 125) d_Name_versionLevel_17 (by decide) (fun ht => absurd ht (nI_ge (by omega) (by omega))) (fun _ => ?_)
    refine x_aload_n d_Name_versionLevel_20 rfl rfl ?_
    refine x_iload d_Name_versionLevel_21 rfl ?_
    refine x_callV (As := [_]) (k := k_String) rfl xcv_Name_35_String ha (c_String_charAt hG (by omega) hS hil (by omega)) rfl rfl (Nat.le_of_ble_eq_true rfl) d_Name_versionLevel_23 ?_
    rintro v h' c' n' ⟨rfl, rfl, rfl, rfl⟩
    refine x_istore (L' := [_, _, _, _, _, _, _, _, _, _]) d_Name_versionLevel_26 rfl rfl ?_
    refine x_iload d_Name_versionLevel_28 rfl ?_
    refine x_bipush (v := 46) d_Name_versionLevel_30 (by decide) ?_
    generalize hce : t[i] = ch at *
    simp only [vrun, vst] at hP
    by_cases hA : ch = 46 ∧ 0 < dg ∧ nb < 3
    · rw [if_pos hA] at hP
      refine x_icmp_ne (tgt := 68) d_Name_versionLevel_32 (by decide) (fun ht => absurd (by rw [hA.1]; rfl) ht) (fun _ => ?_)
      refine x_iload d_Name_versionLevel_35 rfl ?_
      refine x_if_le (tgt := 68) d_Name_versionLevel_37 (by decide) (fun ht => absurd ht (nI_nle hA.2.1 (by omega))) (fun _ => ?_)
      refine x_iload d_Name_versionLevel_40 rfl ?_
      refine x_iconst (v := 3) d_Name_versionLevel_42 (by decide) ?_
      refine x_icmp_ge (tgt := 68) d_Name_versionLevel_43 (by decide) (fun ht => absurd ht (nI_ge (a := nb) (b := 3) hA.2.2 (by omega))) (fun _ => ?_)
      refine x_lload_n d_Name_versionLevel_46 rfl ?_
      refine x_ldc2 (v := 1000) xw_753 d_Name_versionLevel_47 ?_
      refine x_lmul d_Name_versionLevel_50 ?_
      refine x_iload d_Name_versionLevel_51 rfl ?_
      refine x_i2l d_Name_versionLevel_53 ?_
      refine x_ladd d_Name_versionLevel_54 ?_
      refine x_top (w := .long (lN (key * 1000 + num))) (by rw [nI_l (by omega), show (1000 : Int64) = lN 1000 from rfl, lN_mul, lN_add]) ?_
      refine x_lstore_n (L' := [_, _, _, _, _, _, _, _, _, _]) d_Name_versionLevel_55 rfl rfl ?_
      refine x_iconst (v := 0) d_Name_versionLevel_56 (by decide) ?_
      refine x_istore (L' := [_, _, _, _, _, _, _, _, _, _]) d_Name_versionLevel_57 rfl rfl ?_
      refine x_iconst (v := 0) d_Name_versionLevel_59 (by decide) ?_
      refine x_istore (L' := [_, _, _, _, _, _, _, _, _, _]) d_Name_versionLevel_60 rfl rfl ?_
      refine x_iinc (v := nI (nb + 1)) (L' := [_, _, _, _, _, _, _, _, _, _]) d_Name_versionLevel_62 rfl (by exact xw_iinc1) rfl rfl ?_
      refine x_goto (tgt := 119) d_Name_versionLevel_65 (by decide) ?_
      refine x_iinc (v := nI (i + 1)) (L' := [_, _, _, _, _, _, _, _, _, _]) d_Name_versionLevel_119 rfl (by exact xw_iinc1) rfl rfl ?_
      refine x_goto (tgt := 14) d_Name_versionLevel_122 (by decide) ?_
      exact ih (i + 1) _ 0 0 (nb + 1) _ (by omega) (by decide) (by omega) (by omega) (by omega) hP
    · rw [if_neg hA] at hP
      have at117 : ¬ ((48 ≤ ch ∧ ch ≤ 57) ∧ dg < 3 ∧ (dg = 0 ∨ 0 < num)) → XW l G M_Name_versionLevel (d + 1) 117 [some (.ref a), some (.int (nI f)), some (.int (nI b)), some (.long (lN key)), none, some (.int (nI num)), some (.int (nI dg)), some (.int (nI nb)), some (.int (nI i)), some (.int (nI ch))] [] h' c' n' P := by
        intro hB
        rw [if_neg hB] at hP
        refine x_lconst (v := 0) d_Name_versionLevel_117 (by decide) ?_
        refine x_lret d_Name_versionLevel_118 rfl ?_
        exact hP
      have at98 : (48 ≤ ch ∧ ch ≤ 57) ∧ dg < 3 ∧ (dg = 0 ∨ 0 < num) → XW l G M_Name_versionLevel (d + 1) 98 [some (.ref a), some (.int (nI f)), some (.int (nI b)), some (.long (lN key)), none, some (.int (nI num)), some (.int (nI dg)), some (.int (nI nb)), some (.int (nI i)), some (.int (nI ch))] [] h' c' n' P := by
        intro hB
        rw [if_pos hB] at hP
        refine x_iload d_Name_versionLevel_98 rfl ?_
        refine x_bipush (v := 10) d_Name_versionLevel_100 (by decide) ?_
        refine x_imul d_Name_versionLevel_102 ?_
        refine x_iload d_Name_versionLevel_103 rfl ?_
        refine x_bipush (v := 48) d_Name_versionLevel_105 (by decide) ?_
        refine x_isub d_Name_versionLevel_107 ?_
        refine x_iadd d_Name_versionLevel_108 ?_
        refine x_top (w := .int (nI (num * 10 + (ch - 48)))) (by rw [show (48 : Int32) = nI 48 from rfl, show (10 : Int32) = nI 10 from rfl, pk_sub hB.1.1, pk_mul, nI_add]) ?_
        refine x_istore (L' := [_, _, _, _, _, _, _, _, _, _]) d_Name_versionLevel_109 rfl rfl ?_
        refine x_iinc (v := nI (dg + 1)) (L' := [_, _, _, _, _, _, _, _, _, _]) d_Name_versionLevel_111 rfl (by exact xw_iinc1) rfl rfl ?_
        refine x_goto (tgt := 119) d_Name_versionLevel_114 (by decide) ?_
        refine x_iinc (v := nI (i + 1)) (L' := [_, _, _, _, _, _, _, _, _, _]) d_Name_versionLevel_119 rfl (by exact xw_iinc1) rfl rfl ?_
        refine x_goto (tgt := 14) d_Name_versionLevel_122 (by decide) ?_
        exact ih (i + 1) _ _ (dg + 1) nb _ (by omega) (by rw [Nat.pow_succ]; omega) (by omega) hb1 hb3 hP
      have at68 : XW l G M_Name_versionLevel (d + 1) 68 [some (.ref a), some (.int (nI f)), some (.int (nI b)), some (.long (lN key)), none, some (.int (nI num)), some (.int (nI dg)), some (.int (nI nb)), some (.int (nI i)), some (.int (nI ch))] [] h' c' n' P := by
        by_cases g1 : 48 ≤ ch
        · by_cases g2 : ch ≤ 57
          · by_cases g3 : dg < 3
            · refine x_iload d_Name_versionLevel_68 rfl ?_
              refine x_bipush (v := 48) d_Name_versionLevel_70 (by decide) ?_
              refine x_icmp_lt (tgt := 117) d_Name_versionLevel_72 (by decide) (fun ht => absurd ht (nI_nlt (b := 48) g1 (by omega))) (fun _ => ?_)
              refine x_iload d_Name_versionLevel_75 rfl ?_
              refine x_bipush (v := 57) d_Name_versionLevel_77 (by decide) ?_
              refine x_icmp_gt (tgt := 117) d_Name_versionLevel_79 (by decide) (fun ht => absurd ht (nI_nlt (a := 57) g2 (by omega))) (fun _ => ?_)
              refine x_iload d_Name_versionLevel_82 rfl ?_
              refine x_iconst (v := 3) d_Name_versionLevel_84 (by decide) ?_
              refine x_icmp_ge (tgt := 117) d_Name_versionLevel_85 (by decide) (fun ht => absurd ht (nI_ge (b := 3) g3 (by omega))) (fun _ => ?_)
              refine x_iload d_Name_versionLevel_88 rfl ?_
              by_cases g4 : dg = 0
              · subst g4
                refine x_if_eq (tgt := 98) d_Name_versionLevel_90 (by decide) (fun _ => ?_) (fun hn => absurd rfl hn)
                exact at98 ⟨⟨g1, g2⟩, g3, Or.inl rfl⟩
              · refine x_if_eq (tgt := 98) d_Name_versionLevel_90 (by decide) (fun ht => absurd ht (nI_ne0 (by omega) (by omega))) (fun _ => ?_)
                refine x_iload d_Name_versionLevel_93 rfl ?_
                by_cases g5 : num = 0
                · subst g5
                  refine x_if_le (tgt := 117) d_Name_versionLevel_95 (by decide) (fun _ => ?_) (fun hn => absurd (by decide) hn)
                  exact at117 (fun z => by omega)
                · refine x_if_le (tgt := 117) d_Name_versionLevel_95 (by decide) (fun ht => absurd ht (nI_nle (by omega) (by omega))) (fun _ => ?_)
                  exact at98 ⟨⟨g1, g2⟩, g3, Or.inr (by omega)⟩
            · refine x_iload d_Name_versionLevel_68 rfl ?_
              refine x_bipush (v := 48) d_Name_versionLevel_70 (by decide) ?_
              refine x_icmp_lt (tgt := 117) d_Name_versionLevel_72 (by decide) (fun ht => absurd ht (nI_nlt (b := 48) g1 (by omega))) (fun _ => ?_)
              refine x_iload d_Name_versionLevel_75 rfl ?_
              refine x_bipush (v := 57) d_Name_versionLevel_77 (by decide) ?_
              refine x_icmp_gt (tgt := 117) d_Name_versionLevel_79 (by decide) (fun ht => absurd ht (nI_nlt (a := 57) g2 (by omega))) (fun _ => ?_)
              refine x_iload d_Name_versionLevel_82 rfl ?_
              refine x_iconst (v := 3) d_Name_versionLevel_84 (by decide) ?_
              refine x_icmp_ge (tgt := 117) d_Name_versionLevel_85 (by decide) (fun _ => ?_) (fun hn => absurd (nI_le (a := 3) (by omega) (by omega)) hn)
              exact at117 (fun z => g3 z.2.1)
          · refine x_iload d_Name_versionLevel_68 rfl ?_
            refine x_bipush (v := 48) d_Name_versionLevel_70 (by decide) ?_
            refine x_icmp_lt (tgt := 117) d_Name_versionLevel_72 (by decide) (fun ht => absurd ht (nI_nlt (b := 48) g1 (by omega))) (fun _ => ?_)
            refine x_iload d_Name_versionLevel_75 rfl ?_
            refine x_bipush (v := 57) d_Name_versionLevel_77 (by decide) ?_
            refine x_icmp_gt (tgt := 117) d_Name_versionLevel_79 (by decide) (fun _ => ?_) (fun hn => absurd (nI_lt (a := 57) (by omega) (by omega)) hn)
            exact at117 (fun z => g2 z.1.2)
        · refine x_iload d_Name_versionLevel_68 rfl ?_
          refine x_bipush (v := 48) d_Name_versionLevel_70 (by decide) ?_
          refine x_icmp_lt (tgt := 117) d_Name_versionLevel_72 (by decide) (fun _ => ?_) (fun hn => absurd (nI_lt (b := 48) (by omega) (by omega)) hn)
          exact at117 (fun z => g1 z.1.1)
      by_cases g1 : ch = 46
      · by_cases g2 : dg = 0
        · subst g2
          refine x_icmp_ne (tgt := 68) d_Name_versionLevel_32 (by decide) (fun ht => absurd (by rw [g1]; rfl) ht) (fun _ => ?_)
          refine x_iload d_Name_versionLevel_35 rfl ?_
          refine x_if_le (tgt := 68) d_Name_versionLevel_37 (by decide) (fun _ => ?_) (fun hn => absurd (by decide) hn)
          exact at68
        · refine x_icmp_ne (tgt := 68) d_Name_versionLevel_32 (by decide) (fun ht => absurd (by rw [g1]; rfl) ht) (fun _ => ?_)
          refine x_iload d_Name_versionLevel_35 rfl ?_
          refine x_if_le (tgt := 68) d_Name_versionLevel_37 (by decide) (fun ht => absurd ht (nI_nle (by omega) (by omega))) (fun _ => ?_)
          refine x_iload d_Name_versionLevel_40 rfl ?_
          refine x_iconst (v := 3) d_Name_versionLevel_42 (by decide) ?_
          refine x_icmp_ge (tgt := 68) d_Name_versionLevel_43 (by decide) (fun _ => ?_) (fun hn => absurd (nI_le (a := 3) (by omega) (by omega)) hn)
          exact at68
      · refine x_icmp_ne (tgt := 68) d_Name_versionLevel_32 (by decide) (fun _ => ?_) (fun hn => absurd hn (fun z => g1 ((nI_eq (b := 46) (by omega) (by omega)).mp z)))
        exact at68
theorem c_versionLevel (hG : xGk G) (hd : 4 ≤ d) {a f m : Nat} {t : List Nat} (hS : isS G h a t) (hm : f + m ≤ t.length) (hl : t.length < 2 ^ 20) : XM l G d M_Name_versionLevel [.ref a, .int (nI f), .int (nI (f + m))] h c n (xSame (.long (lN (vsl ((t.drop f).take m)))) h c n) := by
  refine XM.of (by decide +kernel) (Nat.le_of_ble_eq_true rfl) ?_
  refine x_lconst (v := 0) d_Name_versionLevel_0 (by decide) ?_
  refine x_lstore_n (L' := [_, _, _, _, _, _, _, _, _, _]) d_Name_versionLevel_1 rfl rfl ?_
  refine x_iconst (v := 0) d_Name_versionLevel_2 (by decide) ?_
  refine x_istore (L' := [_, _, _, _, _, _, _, _, _, _]) d_Name_versionLevel_3 rfl rfl ?_
  refine x_iconst (v := 0) d_Name_versionLevel_5 (by decide) ?_
  refine x_istore (L' := [_, _, _, _, _, _, _, _, _, _]) d_Name_versionLevel_6 rfl rfl ?_
  refine x_iconst (v := 1) d_Name_versionLevel_8 (by decide) ?_
  refine x_istore (L' := [_, _, _, _, _, _, _, _, _, _]) d_Name_versionLevel_9 rfl rfl ?_
  refine x_iload_n d_Name_versionLevel_11 rfl ?_
  refine x_istore (L' := [_, _, _, _, _, _, _, _, _, _]) d_Name_versionLevel_12 rfl rfl ?_
  exact lp_ver1 hG hd hS hm hl m f 0 0 0 1 none rfl (by decide) (by omega) (by omega) (by omega) ⟨rfl, rfl, rfl, rfl⟩
end NM2
end
section
section
abbrev y_Name_levelOf : MethodName := ⟨"MarkerText$Name", "levelOf", "(Ljava/lang/String;II)J"⟩
abbrev M_Name_levelOf : XMt := (y_Name_levelOf, prog_6_method_4_code, 4, (some .long))
theorem d_Name_levelOf_0 : decode M_Name_levelOf.2.1 0 = .ok (.aload_n 0, 1) := by decide +kernel
theorem d_Name_levelOf_1 : decode M_Name_levelOf.2.1 1 = .ok (.getfield 23, 3) := by decide +kernel
theorem xw_722 : (Jvm.Cond.fieldLink "MarkerText$Name" (23 : Nat) "MarkerText$Name" "kind" "I") ∈ xT := xT_at 722 (by decide +kernel) (by decide +kernel)
theorem xf_Name_23_Name : xF "MarkerText$Name" 23 k_Name 1 := ⟨_, _, _, "MarkerText$Name", rfl, by decide, Or.inl xw_722, Or.inl rfl⟩
theorem d_Name_levelOf_4 : decode M_Name_levelOf.2.1 4 = .ok (.iconst 1, 1) := by decide +kernel
theorem d_Name_levelOf_5 : decode M_Name_levelOf.2.1 5 = .ok (.if_icmp .ne 12, 3) := by decide +kernel
theorem d_Name_levelOf_8 : decode M_Name_levelOf.2.1 8 = .ok (.aload_n 1, 1) := by decide +kernel
theorem d_Name_levelOf_9 : decode M_Name_levelOf.2.1 9 = .ok (.iload_n 2, 1) := by decide +kernel
theorem d_Name_levelOf_10 : decode M_Name_levelOf.2.1 10 = .ok (.iload_n 3, 1) := by decide +kernel
theorem d_Name_levelOf_11 : decode M_Name_levelOf.2.1 11 = .ok (.invokestatic 26, 3) := by decide +kernel
theorem xw_751 : (Jvm.Cond.code ({ cls := "MarkerText$Name", name := "versionLevel", desc := "(Ljava/lang/String;II)J" } : Jvm.MethodName) prog_6_method_6_code (10 : Nat) (Option.some Jvm.ClassFile.FieldType.long)) ∈ xT := xT_at 751 (by decide +kernel) (by decide +kernel)
theorem xw_21 : (Jvm.Cond.initialized "MarkerText$Name") ∈ xT := xT_at 21 (by decide +kernel) (by decide +kernel)
theorem xcb_Name_versionLevel : xcb M_Name_versionLevel 3 := ⟨xw_751, xw_21, by decide, by decide, by decide, by decide +kernel⟩
theorem xw_749 : (Jvm.Cond.methodLink "MarkerText$Name" (26 : Nat) ({ cls := "MarkerText$Name", name := "versionLevel", desc := "(Ljava/lang/String;II)J" } : Jvm.MethodName)) ∈ xT := xT_at 749 (by decide +kernel) (by decide +kernel)
theorem xw_750 : (Jvm.Cond.static ({ cls := "MarkerText$Name", name := "versionLevel", desc := "(Ljava/lang/String;II)J" } : Jvm.MethodName)) ∈ xT := xT_at 750 (by decide +kernel) (by decide +kernel)
theorem xcs_Name_26 : xCS "MarkerText$Name" 26 M_Name_versionLevel 3 := ⟨xcb_Name_versionLevel, xw_750, Or.inl xw_749⟩
theorem d_Name_levelOf_14 : decode M_Name_levelOf.2.1 14 = .ok (.goto 9, 3) := by decide +kernel
theorem d_Name_levelOf_23 : decode M_Name_levelOf.2.1 23 = .ok (.lreturn, 1) := by decide +kernel
theorem d_Name_levelOf_17 : decode M_Name_levelOf.2.1 17 = .ok (.aload_n 1, 1) := by decide +kernel
theorem d_Name_levelOf_18 : decode M_Name_levelOf.2.1 18 = .ok (.iload_n 2, 1) := by decide +kernel
theorem d_Name_levelOf_19 : decode M_Name_levelOf.2.1 19 = .ok (.iload_n 3, 1) := by decide +kernel
theorem d_Name_levelOf_20 : decode M_Name_levelOf.2.1 20 = .ok (.invokestatic 30, 3) := by decide +kernel
theorem xw_757 : (Jvm.Cond.code ({ cls := "MarkerText$Name", name := "textLevel", desc := "(Ljava/lang/String;II)J" } : Jvm.MethodName) prog_6_method_5_code (8 : Nat) (Option.some Jvm.ClassFile.FieldType.long)) ∈ xT := xT_at 757 (by decide +kernel) (by decide +kernel)
theorem xcb_Name_textLevel : xcb M_Name_textLevel 3 := ⟨xw_757, xw_21, by decide, by decide, by decide, by decide +kernel⟩
theorem xw_755 : (Jvm.Cond.methodLink "MarkerText$Name" (30 : Nat) ({ cls := "MarkerText$Name", name := "textLevel", desc := "(Ljava/lang/String;II)J" } : Jvm.MethodName)) ∈ xT := xT_at 755 (by decide +kernel) (by decide +kernel)
theorem xw_756 : (Jvm.Cond.static ({ cls := "MarkerText$Name", name := "textLevel", desc := "(Ljava/lang/String;II)J" } : Jvm.MethodName)) ∈ xT := xT_at 756 (by decide +kernel) (by decide +kernel)
theorem xcs_Name_30 : xCS "MarkerText$Name" 30 M_Name_textLevel 3 := ⟨xcb_Name_textLevel, xw_756, Or.inl xw_755⟩
abbrev y_Name_knows : MethodName := ⟨"MarkerText$Name", "knows", "(J)Z"⟩
abbrev M_Name_knows : XMt := (y_Name_knows, prog_6_method_2_code, 4, (some .boolean))
theorem d_Name_knows_2 : decode M_Name_knows.2.1 2 = .ok (.iload_n 3, 1) := by decide +kernel
theorem d_Name_knows_3 : decode M_Name_knows.2.1 3 = .ok (.aload_n 0, 1) := by decide +kernel
theorem d_Name_knows_4 : decode M_Name_knows.2.1 4 = .ok (.getfield 15, 3) := by decide +kernel
theorem xw_725 : (Jvm.Cond.fieldLink "MarkerText$Name" (15 : Nat) "MarkerText$Name" "knownCount" "I") ∈ xT := xT_at 725 (by decide +kernel) (by decide +kernel)
theorem xf_Name_15_Name : xF "MarkerText$Name" 15 k_Name 3 := ⟨_, _, _, "MarkerText$Name", rfl, by decide, Or.inl xw_725, Or.inl rfl⟩
theorem d_Name_knows_7 : decode M_Name_knows.2.1 7 = .ok (.if_icmp .ge 22, 3) := by decide +kernel
theorem d_Name_knows_29 : decode M_Name_knows.2.1 29 = .ok (.iconst 0, 1) := by decide +kernel
theorem d_Name_knows_30 : decode M_Name_knows.2.1 30 = .ok (.ireturn, 1) := by decide +kernel
theorem d_Name_knows_10 : decode M_Name_knows.2.1 10 = .ok (.aload_n 0, 1) := by decide +kernel
theorem d_Name_knows_11 : decode M_Name_knows.2.1 11 = .ok (.getfield 9, 3) := by decide +kernel
theorem xw_723 : (Jvm.Cond.fieldLink "MarkerText$Name" (9 : Nat) "MarkerText$Name" "known" "[J") ∈ xT := xT_at 723 (by decide +kernel) (by decide +kernel)
theorem xf_Name_9_Name : xF "MarkerText$Name" 9 k_Name 2 := ⟨_, _, _, "MarkerText$Name", rfl, by decide, Or.inl xw_723, Or.inl rfl⟩
theorem d_Name_knows_14 : decode M_Name_knows.2.1 14 = .ok (.iload_n 3, 1) := by decide +kernel
theorem d_Name_knows_15 : decode M_Name_knows.2.1 15 = .ok (.laload, 1) := by decide +kernel
theorem d_Name_knows_16 : decode M_Name_knows.2.1 16 = .ok (.lload_n 1, 1) := by decide +kernel
theorem d_Name_knows_17 : decode M_Name_knows.2.1 17 = .ok (.lcmp, 1) := by decide +kernel
theorem d_Name_knows_18 : decode M_Name_knows.2.1 18 = .ok (.ifCond .ne 5, 3) := by decide +kernel
theorem d_Name_knows_21 : decode M_Name_knows.2.1 21 = .ok (.iconst 1, 1) := by decide +kernel
theorem d_Name_knows_22 : decode M_Name_knows.2.1 22 = .ok (.ireturn, 1) := by decide +kernel
theorem d_Name_knows_23 : decode M_Name_knows.2.1 23 = .ok (.iinc 3 1, 3) := by decide +kernel
theorem d_Name_knows_26 : decode M_Name_knows.2.1 26 = .ok (.goto (-24), 3) := by decide +kernel
theorem d_Name_knows_0 : decode M_Name_knows.2.1 0 = .ok (.iconst 0, 1) := by decide +kernel
theorem d_Name_knows_1 : decode M_Name_knows.2.1 1 = .ok (.istore_n 3, 1) := by decide +kernel
abbrev y_Name_learn : MethodName := ⟨"MarkerText$Name", "learn", "(J)V"⟩
abbrev M_Name_learn : XMt := (y_Name_learn, prog_6_method_3_code, 3, none)
theorem d_Name_learn_0 : decode M_Name_learn.2.1 0 = .ok (.aload_n 0, 1) := by decide +kernel
theorem d_Name_learn_1 : decode M_Name_learn.2.1 1 = .ok (.getfield 15, 3) := by decide +kernel
theorem d_Name_learn_4 : decode M_Name_learn.2.1 4 = .ok (.bipush 6, 2) := by decide +kernel
theorem d_Name_learn_6 : decode M_Name_learn.2.1 6 = .ok (.if_icmp .ge 23, 3) := by decide +kernel
theorem d_Name_learn_9 : decode M_Name_learn.2.1 9 = .ok (.aload_n 0, 1) := by decide +kernel
theorem d_Name_learn_10 : decode M_Name_learn.2.1 10 = .ok (.getfield 9, 3) := by decide +kernel
theorem d_Name_learn_13 : decode M_Name_learn.2.1 13 = .ok (.aload_n 0, 1) := by decide +kernel
theorem d_Name_learn_14 : decode M_Name_learn.2.1 14 = .ok (.getfield 15, 3) := by decide +kernel
theorem d_Name_learn_17 : decode M_Name_learn.2.1 17 = .ok (.lload_n 1, 1) := by decide +kernel
theorem d_Name_learn_18 : decode M_Name_learn.2.1 18 = .ok (.lastore, 1) := by decide +kernel
theorem d_Name_learn_19 : decode M_Name_learn.2.1 19 = .ok (.aload_n 0, 1) := by decide +kernel
theorem d_Name_learn_20 : decode M_Name_learn.2.1 20 = .ok (.dup, 1) := by decide +kernel
theorem d_Name_learn_21 : decode M_Name_learn.2.1 21 = .ok (.getfield 15, 3) := by decide +kernel
theorem d_Name_learn_24 : decode M_Name_learn.2.1 24 = .ok (.iconst 1, 1) := by decide +kernel
theorem d_Name_learn_25 : decode M_Name_learn.2.1 25 = .ok (.iadd, 1) := by decide +kernel
theorem d_Name_learn_26 : decode M_Name_learn.2.1 26 = .ok (.putfield 15, 3) := by decide +kernel
theorem xp_Name_3 : xP k_Name 3 false .int := ⟨_, _, _, rfl, rfl, by decide +kernel⟩
theorem d_Name_learn_29 : decode M_Name_learn.2.1 29 = .ok (.return_, 1) := by decide +kernel
abbrev y_Name_init : MethodName := ⟨"MarkerText$Name", "<init>", "(Ljava/lang/String;I)V"⟩
abbrev M_Name_init : XMt := (y_Name_init, prog_6_method_1_code, 3, none)
theorem d_Name_init_0 : decode M_Name_init.2.1 0 = .ok (.aload_n 0, 1) := by decide +kernel
theorem d_Name_init_1 : decode M_Name_init.2.1 1 = .ok (.invokespecial 3, 3) := by decide +kernel
theorem xw_718 : (Jvm.Cond.methodLink "MarkerText$Name" (3 : Nat) ({ cls := "java/lang/Object", name := "<init>", desc := "()V" } : Jvm.MethodName)) ∈ xT := xT_at 718 (by decide +kernel) (by decide +kernel)
theorem d_Name_init_4 : decode M_Name_init.2.1 4 = .ok (.aload_n 0, 1) := by decide +kernel
theorem d_Name_init_5 : decode M_Name_init.2.1 5 = .ok (.bipush 6, 2) := by decide +kernel
theorem d_Name_init_7 : decode M_Name_init.2.1 7 = .ok (.newarray .long, 2) := by decide +kernel
theorem xw_110 : (Jvm.Cond.arrayClass Jvm.ClassFile.FieldType.long) ∈ xT := xT_at 110 (by decide +kernel) (by decide +kernel)
theorem d_Name_init_9 : decode M_Name_init.2.1 9 = .ok (.putfield 9, 3) := by decide +kernel
theorem xp_Name_2 : xP k_Name 2 true (.array .long) := ⟨_, _, _, rfl, rfl, by decide +kernel⟩
theorem d_Name_init_12 : decode M_Name_init.2.1 12 = .ok (.aload_n 0, 1) := by decide +kernel
theorem d_Name_init_13 : decode M_Name_init.2.1 13 = .ok (.iconst 0, 1) := by decide +kernel
theorem d_Name_init_14 : decode M_Name_init.2.1 14 = .ok (.putfield 15, 3) := by decide +kernel
theorem d_Name_init_17 : decode M_Name_init.2.1 17 = .ok (.aload_n 0, 1) := by decide +kernel
theorem d_Name_init_18 : decode M_Name_init.2.1 18 = .ok (.aload_n 1, 1) := by decide +kernel
theorem d_Name_init_19 : decode M_Name_init.2.1 19 = .ok (.putfield 19, 3) := by decide +kernel
theorem xw_719 : (Jvm.Cond.fieldLink "MarkerText$Name" (19 : Nat) "MarkerText$Name" "spelling" "Ljava/lang/String;") ∈ xT := xT_at 719 (by decide +kernel) (by decide +kernel)
theorem xf_Name_19_Name : xF "MarkerText$Name" 19 k_Name 0 := ⟨_, _, _, "MarkerText$Name", rfl, by decide, Or.inl xw_719, Or.inl rfl⟩
theorem xp_Name_0 : xP k_Name 0 true (.object "java/lang/String") := ⟨_, _, _, rfl, rfl, by decide +kernel⟩
theorem d_Name_init_22 : decode M_Name_init.2.1 22 = .ok (.aload_n 0, 1) := by decide +kernel
theorem d_Name_init_23 : decode M_Name_init.2.1 23 = .ok (.iload_n 2, 1) := by decide +kernel
theorem d_Name_init_24 : decode M_Name_init.2.1 24 = .ok (.putfield 23, 3) := by decide +kernel
theorem xp_Name_1 : xP k_Name 1 true .int := ⟨_, _, _, rfl, rfl, by decide +kernel⟩
theorem d_Name_init_27 : decode M_Name_init.2.1 27 = .ok (.return_, 1) := by decide +kernel
abbrev y_MT_isLetter : MethodName := ⟨"MarkerText", "isLetter", "(C)Z"⟩
abbrev M_MT_isLetter : XMt := (y_MT_isLetter, prog_1_method_22_code, 1, (some .boolean))
theorem d_MT_isLetter_0 : decode M_MT_isLetter.2.1 0 = .ok (.iload_n 0, 1) := by decide +kernel
theorem d_MT_isLetter_1 : decode M_MT_isLetter.2.1 1 = .ok (.bipush 97, 2) := by decide +kernel
theorem d_MT_isLetter_3 : decode M_MT_isLetter.2.1 3 = .ok (.if_icmp .lt 13, 3) := by decide +kernel
theorem d_MT_isLetter_6 : decode M_MT_isLetter.2.1 6 = .ok (.iload_n 0, 1) := by decide +kernel
theorem d_MT_isLetter_7 : decode M_MT_isLetter.2.1 7 = .ok (.bipush 122, 2) := by decide +kernel
theorem d_MT_isLetter_9 : decode M_MT_isLetter.2.1 9 = .ok (.if_icmp .gt 7, 3) := by decide +kernel
theorem d_MT_isLetter_12 : decode M_MT_isLetter.2.1 12 = .ok (.iconst 1, 1) := by decide +kernel
theorem d_MT_isLetter_13 : decode M_MT_isLetter.2.1 13 = .ok (.goto 4, 3) := by decide +kernel
theorem d_MT_isLetter_17 : decode M_MT_isLetter.2.1 17 = .ok (.ireturn, 1) := by decide +kernel
theorem d_MT_isLetter_16 : decode M_MT_isLetter.2.1 16 = .ok (.iconst 0, 1) := by decide +kernel
end
section NM3
variable {l : Launch} {G : XG} {h : XH} {c n d : Nat}
/-- the level of a VALUE of a KIND -/
def klv (kd : Nat) (u : List Nat) : Nat := if kd = 1 then vsl u else txl u
theorem xno1 {a k : Nat} {vs : List Value} {ks : List Nat} (ha : h a = some (k, vs)) (hk : k ∉ ks) : xno h [a] ks := by
  intro q hq e he
  rw [List.mem_singleton] at hq
  subst hq
  rw [ha] at he
  cases he
  exact hk
theorem xno.ap {F F' ks : List Nat} (h1 : xno h F ks) (h2 : xno h F' ks) : xno h (F ++ F') ks := by
  intro q hq e he
  rcases List.mem_append.mp hq with z | z
  · exact h1 q z e he
  · exact h2 q z e he
theorem xno2 {a b k k' : Nat} {vs vs' : List Value} {ks : List Nat} (ha : h a = some (k, vs)) (hb : h b = some (k', vs')) (hk : k ∉ ks) (hk' : k' ∉ ks) : xno h [a, b] ks := (xno1 ha hk).ap (xno1 hb hk')
/-- two cells of two kinds are two -/
theorem xne {a b k k' : Nat} {vs vs' : List Value} (ha : h a = some (k, vs)) (hb : h b = some (k', vs')) (hk : k ≠ k') : a ≠ b := fun e => by
  rw [e, hb] at ha
  cases ha
  exact hk rfl
theorem xneN {a b k : Nat} {vs : List Value} (ha : h a = some (k, vs)) (hb : h b = none) : a ≠ b := fun e => by rw [e, hb] at ha; cases ha
/-- an array of levels, filled up with 0 -/
def xlv (N : Nat) (ks : List Nat) : List Value := ks.map (fun v => .long (lN v)) ++ List.replicate (N - ks.length) (.long 0)
theorem xlv_at {N i : Nat} {ks : List Nat} (hi : i < ks.length) : (xlv N ks)[i]? = some (.long (lN ks[i])) := by
  unfold xlv
  rw [List.getElem?_append_left (by simpa using hi), List.getElem?_map, List.getElem?_eq_getElem hi]
  rfl
theorem xlv_push {N v : Nat} {ks : List Nat} (hi : ks.length < N) : (xlv N ks).set ks.length (.long (lN v)) = xlv N (ks ++ [v]) := by
  unfold xlv
  rw [List.set_append_right _ _ (by simp)]
  obtain ⟨k, hk⟩ : ∃ k, N - ks.length = k + 1 := ⟨N - ks.length - 1, by omega⟩
  rw [List.length_map, Nat.sub_self, hk, List.replicate_succ, List.set_cons_zero, List.map_append, List.length_append, List.length_singleton, show N - (ks.length + 1) = k by omega, List.append_assoc]
  rfl
theorem xlv_end {N : Nat} {ks : List Nat} (hi : ks.length < N) : (xlv N ks)[ks.length]? = some (.long 0) := by
  unfold xlv
  rw [List.getElem?_append_right (by simp), List.length_map, Nat.sub_self, List.getElem?_replicate, if_pos (by omega)]
/-- a Name: its spelling, KIND and levels that are known -/
def isN (G : XG) (h : XH) (a ka : Nat) (w : List Nat) (kd : Nat) (ks : List Nat) : Prop := ∃ sa, h a = some (k_Name, [.ref sa, .int (nI kd), .ref ka, .int (nI ks.length)]) ∧ isS G h sa w ∧ h ka = some (k_aknown, xlv 6 ks) ∧ ks.length ≤ 6 ∧ kd < 2 ∧ ∀ v ∈ ks, v < 2 ^ 63
theorem isN.fr {h' : XH} {F : List Nat} {a ka kd : Nat} {w ks : List Nat} (hN : isN G h a ka w kd ks) (hf : xfr h h' F) (hn : xno h F [k_String, k_asbyte]) (h1 : a ∉ F) (h2 : ka ∉ F) : isN G h' a ka w kd ks := by
  obtain ⟨sa, e1, e2, e3, e4⟩ := hN
  exact ⟨sa, hf.1 _ _ e1 h1, e2.fr hf hn, hf.1 _ _ e3 h2, e4⟩
theorem c_levelOf (hG : xGk G) (hd : 5 ≤ d) {o ka a f m kd : Nat} {t w ks : List Nat} (hN : isN G h o ka w kd ks) (hS : isS G h a t) (hm : f + m ≤ t.length) (hl : t.length < 2 ^ 20) : XM l G d M_Name_levelOf [.ref o, .ref a, .int (nI f), .int (nI (f + m))] h c n (xSame (.long (lN (klv kd ((t.drop f).take m)))) h c n) := by
  obtain ⟨d, rfl⟩ : ∃ q, d = q + 1 := ⟨d - 1, by omega⟩
  obtain ⟨sa, ho, -, -, -, hkd, -⟩ := hN
  refine XM.of (by decide +kernel) (Nat.le_of_ble_eq_true rfl) ?_
  refine x_aload_n d_Name_levelOf_0 rfl rfl ?_
  refine x_get xf_Name_23_Name (Or.inl ho) rfl d_Name_levelOf_1 ?_
  refine x_iconst (v := 1) d_Name_levelOf_4 (by decide) ?_
  unfold klv
  by_cases h1 : kd = 1
  · subst h1
    rw [if_pos rfl]
    refine x_icmp_ne (tgt := 17) d_Name_levelOf_5 (by decide) (fun ht => absurd rfl ht) (fun _ => ?_)
    refine x_aload_n d_Name_levelOf_8 rfl rfl ?_
    refine x_iload_n d_Name_levelOf_9 rfl ?_
    refine x_iload_n d_Name_levelOf_10 rfl ?_
    refine x_callS (As := [_, _, _]) xcs_Name_26 (c_versionLevel hG (by omega) hS hm hl) rfl rfl (Nat.le_of_ble_eq_true rfl) d_Name_levelOf_11 ?_
    rintro v h' c' n' ⟨rfl, rfl, rfl, rfl⟩
    refine x_goto (tgt := 23) d_Name_levelOf_14 (by decide) ?_
    refine x_lret d_Name_levelOf_23 rfl ?_
    exact ⟨rfl, rfl, rfl, rfl⟩
  · rw [if_neg h1]
    refine x_icmp_ne (tgt := 17) d_Name_levelOf_5 (by decide) (fun _ => ?_) (fun hn => absurd hn (fun z => h1 ((nI_eq (b := 1) (by omega) (by omega)).mp z)))
    refine x_aload_n d_Name_levelOf_17 rfl rfl ?_
    refine x_iload_n d_Name_levelOf_18 rfl ?_
    refine x_iload_n d_Name_levelOf_19 rfl ?_
    refine x_callS (As := [_, _, _]) xcs_Name_30 (c_textLevel hG (by omega) hS hm hl) rfl rfl (Nat.le_of_ble_eq_true rfl) d_Name_levelOf_20 ?_
    rintro v h' c' n' ⟨rfl, rfl, rfl, rfl⟩
    refine x_lret d_Name_levelOf_23 rfl ?_
    exact ⟨rfl, rfl, rfl, rfl⟩
theorem c_knows {o ka v kd : Nat} {w ks : List Nat} (hN : isN G h o ka w kd ks) (hv : v < 2 ^ 63) : XM l G d M_Name_knows [.ref o, .long (lN v)] h c n (xSame (.int (if v ∈ ks then 1 else 0)) h c n) := by
  obtain ⟨sa, ho, -, hka, hl, -, hb⟩ := hN
  refine XM.of (by decide +kernel) (Nat.le_of_ble_eq_true rfl) ?_
  have lp : ∀ (k i : Nat), i + k = ks.length → (∀ j (hj : j < ks.length), j < i → ks[j] ≠ v) → XW l G M_Name_knows d 2 [some (.ref o), some (.long (lN v)), none, some (.int (nI i))] [] h c n (xSame (.int (if v ∈ ks then 1 else 0)) h c n) := by
    intro k
    induction k with
    | zero =>
      intro i hi hj
      have hno : v ∉ ks := fun z => by
        obtain ⟨j, h1, h2⟩ := List.getElem_of_mem z
        exact hj j h1 (by omega) h2
      rw [if_neg hno]
      refine x_iload_n d_Name_knows_2 rfl ?_
      refine x_aload_n d_Name_knows_3 rfl rfl ?_
      refine x_get xf_Name_15_Name (Or.inl ho) rfl d_Name_knows_4 ?_
      refine x_icmp_ge (tgt := 29) d_Name_knows_7 (by decide) (fun _ => ?_) (fun hn => absurd (nI_le (by omega) (by omega)) hn)
      refine x_iconst (v := 0) d_Name_knows_29 (by decide) ?_
      refine x_zret d_Name_knows_30 rfl rfl ?_
      exact ⟨rfl, rfl, rfl, rfl⟩
    | succ k ih =>
      intro i hi hj
      have hil : i < ks.length := by omega
      refine x_iload_n d_Name_knows_2 rfl ?_
      refine x_aload_n d_Name_knows_3 rfl rfl ?_
      refine x_get xf_Name_15_Name (Or.inl ho) rfl d_Name_knows_4 ?_
      refine x_icmp_ge (tgt := 29) d_Name_knows_7 (by decide) (fun ht => absurd ht (nI_ge (by omega) (by omega))) (fun _ => ?_)
      refine x_aload_n d_Name_knows_10 rfl rfl ?_
      refine x_get xf_Name_9_Name (Or.inl ho) rfl d_Name_knows_11 ?_
      refine x_iload_n d_Name_knows_14 rfl ?_
      refine x_lald (k := k_aknown) rfl (Or.inl hka) (nI_pos (by omega)) (by rw [nI_clamp (by omega)]; exact xlv_at hil) d_Name_knows_15 ?_
      refine x_lload_n d_Name_knows_16 rfl ?_
      refine x_lcmp d_Name_knows_17 ?_
      by_cases he : ks[i] = v
      · rw [if_pos (he ▸ List.getElem_mem hil)]
        refine x_if_ne (tgt := 23) d_Name_knows_18 (by decide) (fun ht => absurd ((lg_cmp_eq _ _).mpr (by rw [he])) ht) (fun _ => ?_)
        refine x_iconst (v := 1) d_Name_knows_21 (by decide) ?_
        refine x_zret d_Name_knows_22 rfl rfl ?_
        exact ⟨rfl, rfl, rfl, rfl⟩
      · refine x_if_ne (tgt := 23) d_Name_knows_18 (by decide) (fun _ => ?_) (fun hn => absurd hn (fun z => he ((pk_lEQ (hb _ (List.getElem_mem hil)) hv).mp ((lg_cmp_eq _ _).mp z))))
        refine x_iinc (v := nI (i + 1)) (L' := [_, _, _, _]) d_Name_knows_23 rfl (by exact xw_iinc1) rfl rfl ?_
        refine x_goto (tgt := 2) d_Name_knows_26 (by decide) ?_
        refine ih (i + 1) (by omega) (fun j h1 h2 => ?_)
        by_cases hji : j = i
        · subst hji; exact he
        · exact hj j h1 (by omega)
  refine x_iconst (v := 0) d_Name_knows_0 (by decide) ?_
  refine x_istore_n (L' := [_, _, _, _]) d_Name_knows_1 rfl rfl ?_
  exact lp ks.length 0 (by omega) (fun j h1 h2 => by omega)
theorem c_learn {o ka v kd : Nat} {w ks : List Nat} (hN : isN G h o ka w kd ks) (hv : v < 2 ^ 63) (h6 : ks.length < 6) : XM l G d M_Name_learn [.ref o, .long (lN v)] h c n (fun r h' c' n' => r = none ∧ isN G h' o ka w kd (ks ++ [v]) ∧ xfr h h' [o, ka] ∧ c' = c ∧ n' = n) := by
  obtain ⟨sa, ho, hs, hka, hl, hkd, hb⟩ := hN
  have hok : o ≠ ka := xne ho hka (by decide)
  refine XM.of (by decide +kernel) (Nat.le_of_ble_eq_true rfl) ?_
  refine x_aload_n d_Name_learn_0 rfl rfl ?_
  refine x_get xf_Name_15_Name (Or.inl ho) rfl d_Name_learn_1 ?_
  refine x_bipush (v := 6) d_Name_learn_4 (by decide) ?_
  refine x_icmp_ge (tgt := 29) d_Name_learn_6 (by decide) (fun ht => absurd ht (nI_ge (b := 6) (by omega) (by omega))) (fun _ => ?_)
  refine x_aload_n d_Name_learn_9 rfl rfl ?_
  refine x_get xf_Name_9_Name (Or.inl ho) rfl d_Name_learn_10 ?_
  refine x_aload_n d_Name_learn_13 rfl rfl ?_
  refine x_get xf_Name_15_Name (Or.inl ho) rfl d_Name_learn_14 ?_
  refine x_lload_n d_Name_learn_17 rfl ?_
  refine x_last (k := k_aknown) rfl hka (nI_pos (by omega)) (by rw [nI_clamp (by omega)]; exact xlv_end h6) d_Name_learn_18 ?_
  rw [nI_clamp (by omega), xlv_push h6]
  have ho' : xup h ka (k_aknown, xlv 6 (ks ++ [v])) o = some (k_Name, [.ref sa, .int (nI kd), .ref ka, .int (nI ks.length)]) := by rw [xup_ne hok]; exact ho
  refine x_aload_n d_Name_learn_19 rfl rfl ?_
  refine x_dup d_Name_learn_20 rfl ?_
  refine x_get xf_Name_15_Name (Or.inl ho') rfl d_Name_learn_21 ?_
  refine x_iconst (v := 1) d_Name_learn_24 (by decide) ?_
  refine x_iadd d_Name_learn_25 ?_
  refine x_top (w := .int (nI (ks ++ [v]).length)) (by rw [show (1 : Int32) = nI 1 from rfl, nI_add]; simp) ?_
  refine x_put xf_Name_15_Name xp_Name_3 rfl rfl ho' rfl rfl d_Name_learn_26 ?_
  refine x_vret d_Name_learn_29 rfl ?_
  have hf : xfr h (xup (xup h ka (k_aknown, xlv 6 (ks ++ [v]))) o (k_Name, [.ref sa, .int (nI kd), .ref ka, .int (nI (ks ++ [v]).length)])) [o, ka] := (xfr.rf.up (Or.inl (by simp))).up (Or.inl (by simp))
  refine ⟨rfl, ⟨sa, xup_self, hs.fr hf (xno2 ho hka (by decide) (by decide)), (by rw [xup_ne (Ne.symm hok), xup_self]), (by simp; omega), hkd, fun x hx => ?_⟩, hf, rfl, rfl⟩
  rcases List.mem_append.mp hx with z | z
  · exact hb x z
  · rw [List.mem_singleton] at z; rw [z]; exact hv
theorem c_Name_init (hd : 1 ≤ d) {o sa kd : Nat} {w : List Nat} (ho : h o = some (k_Name, [.null, .int 0, .null, .int 0])) (hs : isS G h sa w) (hkd : kd < 2) (hc : c + 1 ≤ xCB) (hn : n + 6 ≤ xSB) : XM l G d M_Name_init [.ref o, .ref sa, .int (nI kd)] h c n (fun r h' c' n' => r = none ∧ ∃ ka, h ka = none ∧ isN G h' o ka w kd [] ∧ xfr h h' [o] ∧ c' = c + 1 ∧ n' = n + 6) := by
  obtain ⟨d, rfl⟩ : ∃ q, d = q + 1 := ⟨d - 1, by omega⟩
  refine XM.of (by decide +kernel) (Nat.le_of_ble_eq_true rfl) ?_
  refine x_aload_n d_Name_init_0 rfl rfl ?_
  refine x_objInit xw_718 xw_40 xw_41 (Nat.le_of_ble_eq_true rfl) d_Name_init_1 ?_
  refine x_aload_n d_Name_init_4 rfl rfl ?_
  refine x_bipush (v := 6) d_Name_init_5 (by decide) ?_
  refine x_newa (k := k_aknown) rfl rfl (fun _ hz => by cases hz) xw_110 (by decide) rfl (by decide) hc hn d_Name_init_7 (fun q hn_q hk_q => ?_)
  have hoq : o ≠ q := xneN ho hn_q
  refine x_putF xf_Name_9_Name xp_Name_2 ⟨_, _, _, rfl, rfl, xw_723⟩ rfl rfl rfl (xup_old ho hn_q) rfl rfl d_Name_init_9 ?_
  refine x_aload_n d_Name_init_12 rfl rfl ?_
  refine x_iconst (v := 0) d_Name_init_13 (by decide) ?_
  refine x_put xf_Name_15_Name xp_Name_3 rfl rfl xup_self rfl rfl d_Name_init_14 ?_
  refine x_aload_n d_Name_init_17 rfl rfl ?_
  refine x_aload_n d_Name_init_18 rfl rfl ?_
  refine x_putF xf_Name_19_Name xp_Name_0 ⟨_, _, _, rfl, rfl, xw_719⟩ rfl rfl rfl xup_self rfl rfl d_Name_init_19 ?_
  refine x_aload_n d_Name_init_22 rfl rfl ?_
  refine x_iload_n d_Name_init_23 rfl ?_
  refine x_putF xf_Name_23_Name xp_Name_1 ⟨_, _, _, rfl, rfl, xw_722⟩ rfl rfl rfl xup_self rfl rfl d_Name_init_24 ?_
  refine x_vret d_Name_init_27 rfl ?_
  have hf : ∀ e, xfr h (xup (xup h q (k_aknown, List.replicate 6 (.long 0))) o e) [o] := fun e => (xfr.rf.up (Or.inr hn_q)).up (Or.inl (by simp))
  rw [xup_up, xup_up, xup_up]
  refine ⟨rfl, q, hn_q, ⟨sa, xup_self, hs.fr (hf _) (xno1 ho (by decide)), ?_, by simp, hkd, fun _ z => by cases z⟩, hf _, rfl, rfl⟩
  rw [xup_ne (Ne.symm hoq), xup_self]
  rfl
theorem c_isLetter {ch : Nat} (hch : ch < 128) : XM l G d M_MT_isLetter [.int (nI ch)] h c n (xSame (.int (if 97 ≤ ch ∧ ch ≤ 122 then 1 else 0)) h c n) := by
  refine XM.of (by decide +kernel) (Nat.le_of_ble_eq_true rfl) ?_
  by_cases g1 : 97 ≤ ch
  · by_cases g2 : ch ≤ 122
    · rw [if_pos ⟨g1, g2⟩]
      refine x_iload_n d_MT_isLetter_0 rfl ?_
      refine x_bipush (v := 97) d_MT_isLetter_1 (by decide) ?_
      refine x_icmp_lt (tgt := 16) d_MT_isLetter_3 (by decide) (fun ht => absurd ht (nI_nlt (b := 97) g1 (by omega))) (fun _ => ?_)
      refine x_iload_n d_MT_isLetter_6 rfl ?_
      refine x_bipush (v := 122) d_MT_isLetter_7 (by decide) ?_
      refine x_icmp_gt (tgt := 16) d_MT_isLetter_9 (by decide) (fun ht => absurd ht (nI_nlt (a := 122) g2 (by omega))) (fun _ => ?_)
      refine x_iconst (v := 1) d_MT_isLetter_12 (by decide) ?_
      refine x_goto (tgt := 17) d_MT_isLetter_13 (by decide) ?_
      refine x_zret d_MT_isLetter_17 rfl rfl ?_
      exact ⟨rfl, rfl, rfl, rfl⟩
    · rw [if_neg (fun z => g2 z.2)]
      refine x_iload_n d_MT_isLetter_0 rfl ?_
      refine x_bipush (v := 97) d_MT_isLetter_1 (by decide) ?_
      refine x_icmp_lt (tgt := 16) d_MT_isLetter_3 (by decide) (fun ht => absurd ht (nI_nlt (b := 97) g1 (by omega))) (fun _ => ?_)
      refine x_iload_n d_MT_isLetter_6 rfl ?_
      refine x_bipush (v := 122) d_MT_isLetter_7 (by decide) ?_
      refine x_icmp_gt (tgt := 16) d_MT_isLetter_9 (by decide) (fun _ => ?_) (fun hn => absurd (nI_lt (a := 122) (by omega) (by omega)) hn)
      refine x_iconst (v := 0) d_MT_isLetter_16 (by decide) ?_
      refine x_zret d_MT_isLetter_17 rfl rfl ?_
      exact ⟨rfl, rfl, rfl, rfl⟩
  · rw [if_neg (fun z => g1 z.1)]
    refine x_iload_n d_MT_isLetter_0 rfl ?_
    refine x_bipush (v := 97) d_MT_isLetter_1 (by decide) ?_
    refine x_icmp_lt (tgt := 16) d_MT_isLetter_3 (by decide) (fun _ => ?_) (fun hn => absurd (nI_lt (b := 97) (by omega) (by omega)) hn)
    refine x_iconst (v := 0) d_MT_isLetter_16 (by decide) ?_
    refine x_zret d_MT_isLetter_17 rfl rfl ?_
    exact ⟨rfl, rfl, rfl, rfl⟩
end NM3
end
section
section
abbrev y_MT_isSpelledAsName : MethodName := ⟨"MarkerText", "isSpelledAsName", "(Ljava/lang/String;)Z"⟩
abbrev M_MT_isSpelledAsName : XMt := (y_MT_isSpelledAsName, prog_1_method_23_code, 2, (some .boolean))
theorem d_MT_isSpelledAsName_105 : decode M_MT_isSpelledAsName.2.1 105 = .ok (.iconst 0, 1) := by decide +kernel
theorem d_MT_isSpelledAsName_106 : decode M_MT_isSpelledAsName.2.1 106 = .ok (.ireturn, 1) := by decide +kernel
theorem d_MT_isSpelledAsName_47 : decode M_MT_isSpelledAsName.2.1 47 = .ok (.aload_n 0, 1) := by decide +kernel
theorem d_MT_isSpelledAsName_48 : decode M_MT_isSpelledAsName.2.1 48 = .ok (.ldc 216, 2) := by decide +kernel
theorem d_MT_isSpelledAsName_50 : decode M_MT_isSpelledAsName.2.1 50 = .ok (.invokevirtual 218, 3) := by decide +kernel
theorem xw_681 : (Jvm.Cond.code ({ cls := "java/lang/String", name := "equals", desc := "(Ljava/lang/Object;)Z" } : Jvm.MethodName) prog_25_method_66_code (3 : Nat) (Option.some Jvm.ClassFile.FieldType.boolean)) ∈ xT := xT_at 681 (by decide +kernel) (by decide +kernel)
theorem xcb_String_equals : xcb M_String_equals 1 := ⟨xw_681, xw_4, by decide, by decide, by decide, by decide +kernel⟩
theorem xw_679 : (Jvm.Cond.instanceMethod ({ cls := "java/lang/String", name := "equals", desc := "(Ljava/lang/Object;)Z" } : Jvm.MethodName)) ∈ xT := xT_at 679 (by decide +kernel) (by decide +kernel)
theorem xw_678 : (Jvm.Cond.methodLink "MarkerText" (218 : Nat) ({ cls := "java/lang/String", name := "equals", desc := "(Ljava/lang/Object;)Z" } : Jvm.MethodName)) ∈ xT := xT_at 678 (by decide +kernel) (by decide +kernel)
theorem xw_680 : (Jvm.Cond.selects "java/lang/String" ({ cls := "java/lang/String", name := "equals", desc := "(Ljava/lang/Object;)Z" } : Jvm.MethodName) ({ cls := "java/lang/String", name := "equals", desc := "(Ljava/lang/Object;)Z" } : Jvm.MethodName)) ∈ xT := xT_at 680 (by decide +kernel) (by decide +kernel)
theorem xcv_MT_218_String : xCV "MarkerText" 218 "java/lang/String" M_String_equals 1 := ⟨xcb_String_equals, xw_679, Or.inl ⟨xw_678, Or.inl xw_680⟩⟩
theorem d_MT_isSpelledAsName_53 : decode M_MT_isSpelledAsName.2.1 53 = .ok (.ifCond .ne 52, 3) := by decide +kernel
theorem d_MT_isSpelledAsName_56 : decode M_MT_isSpelledAsName.2.1 56 = .ok (.aload_n 0, 1) := by decide +kernel
theorem d_MT_isSpelledAsName_57 : decode M_MT_isSpelledAsName.2.1 57 = .ok (.ldc 222, 2) := by decide +kernel
theorem d_MT_isSpelledAsName_59 : decode M_MT_isSpelledAsName.2.1 59 = .ok (.invokevirtual 218, 3) := by decide +kernel
theorem d_MT_isSpelledAsName_62 : decode M_MT_isSpelledAsName.2.1 62 = .ok (.ifCond .ne 43, 3) := by decide +kernel
theorem d_MT_isSpelledAsName_65 : decode M_MT_isSpelledAsName.2.1 65 = .ok (.aload_n 0, 1) := by decide +kernel
theorem d_MT_isSpelledAsName_66 : decode M_MT_isSpelledAsName.2.1 66 = .ok (.ldc 224, 2) := by decide +kernel
theorem d_MT_isSpelledAsName_68 : decode M_MT_isSpelledAsName.2.1 68 = .ok (.invokevirtual 218, 3) := by decide +kernel
theorem d_MT_isSpelledAsName_71 : decode M_MT_isSpelledAsName.2.1 71 = .ok (.ifCond .ne 34, 3) := by decide +kernel
theorem d_MT_isSpelledAsName_74 : decode M_MT_isSpelledAsName.2.1 74 = .ok (.aload_n 0, 1) := by decide +kernel
theorem d_MT_isSpelledAsName_75 : decode M_MT_isSpelledAsName.2.1 75 = .ok (.ldc 226, 2) := by decide +kernel
theorem d_MT_isSpelledAsName_77 : decode M_MT_isSpelledAsName.2.1 77 = .ok (.invokevirtual 218, 3) := by decide +kernel
theorem d_MT_isSpelledAsName_80 : decode M_MT_isSpelledAsName.2.1 80 = .ok (.ifCond .ne 25, 3) := by decide +kernel
theorem d_MT_isSpelledAsName_83 : decode M_MT_isSpelledAsName.2.1 83 = .ok (.aload_n 0, 1) := by decide +kernel
theorem d_MT_isSpelledAsName_84 : decode M_MT_isSpelledAsName.2.1 84 = .ok (.ldc 228, 2) := by decide +kernel
theorem d_MT_isSpelledAsName_86 : decode M_MT_isSpelledAsName.2.1 86 = .ok (.invokevirtual 218, 3) := by decide +kernel
theorem d_MT_isSpelledAsName_89 : decode M_MT_isSpelledAsName.2.1 89 = .ok (.ifCond .ne 16, 3) := by decide +kernel
theorem d_MT_isSpelledAsName_92 : decode M_MT_isSpelledAsName.2.1 92 = .ok (.aload_n 0, 1) := by decide +kernel
theorem d_MT_isSpelledAsName_93 : decode M_MT_isSpelledAsName.2.1 93 = .ok (.ldc 230, 2) := by decide +kernel
theorem d_MT_isSpelledAsName_95 : decode M_MT_isSpelledAsName.2.1 95 = .ok (.invokevirtual 218, 3) := by decide +kernel
theorem d_MT_isSpelledAsName_98 : decode M_MT_isSpelledAsName.2.1 98 = .ok (.ifCond .ne 7, 3) := by decide +kernel
theorem d_MT_isSpelledAsName_101 : decode M_MT_isSpelledAsName.2.1 101 = .ok (.iconst 1, 1) := by decide +kernel
theorem d_MT_isSpelledAsName_102 : decode M_MT_isSpelledAsName.2.1 102 = .ok (.goto 4, 3) := by decide +kernel
theorem d_MT_isSpelledAsName_20 : decode M_MT_isSpelledAsName.2.1 20 = .ok (.iload_n 1, 1) := by decide +kernel
theorem d_MT_isSpelledAsName_21 : decode M_MT_isSpelledAsName.2.1 21 = .ok (.aload_n 0, 1) := by decide +kernel
theorem d_MT_isSpelledAsName_22 : decode M_MT_isSpelledAsName.2.1 22 = .ok (.invokevirtual 99, 3) := by decide +kernel
theorem xw_421 : (Jvm.Cond.methodLink "MarkerText" (99 : Nat) ({ cls := "java/lang/String", name := "length", desc := "()I" } : Jvm.MethodName)) ∈ xT := xT_at 421 (by decide +kernel) (by decide +kernel)
theorem xcv_MT_99_String : xCV "MarkerText" 99 "java/lang/String" M_String_length 0 := ⟨xcb_String_length, xw_422, Or.inl ⟨xw_421, Or.inl xw_423⟩⟩
theorem d_MT_isSpelledAsName_25 : decode M_MT_isSpelledAsName.2.1 25 = .ok (.if_icmp .ge 22, 3) := by decide +kernel
theorem d_MT_isSpelledAsName_28 : decode M_MT_isSpelledAsName.2.1 28 = .ok (.aload_n 0, 1) := by decide +kernel
theorem d_MT_isSpelledAsName_29 : decode M_MT_isSpelledAsName.2.1 29 = .ok (.iload_n 1, 1) := by decide +kernel
theorem d_MT_isSpelledAsName_30 : decode M_MT_isSpelledAsName.2.1 30 = .ok (.invokevirtual 194, 3) := by decide +kernel
theorem xw_430 : (Jvm.Cond.methodLink "MarkerText" (194 : Nat) ({ cls := "java/lang/String", name := "charAt", desc := "(I)C" } : Jvm.MethodName)) ∈ xT := xT_at 430 (by decide +kernel) (by decide +kernel)
theorem xcv_MT_194_String : xCV "MarkerText" 194 "java/lang/String" M_String_charAt 1 := ⟨xcb_String_charAt, xw_431, Or.inl ⟨xw_430, Or.inl xw_432⟩⟩
theorem d_MT_isSpelledAsName_33 : decode M_MT_isSpelledAsName.2.1 33 = .ok (.invokestatic 212, 3) := by decide +kernel
theorem xw_676 : (Jvm.Cond.code ({ cls := "MarkerText", name := "isLetter", desc := "(C)Z" } : Jvm.MethodName) prog_1_method_22_code (1 : Nat) (Option.some Jvm.ClassFile.FieldType.boolean)) ∈ xT := xT_at 676 (by decide +kernel) (by decide +kernel)
theorem xw_1 : (Jvm.Cond.initialized "MarkerText") ∈ xT := xT_at 1 (by decide +kernel) (by decide +kernel)
theorem xcb_MT_isLetter : xcb M_MT_isLetter 1 := ⟨xw_676, xw_1, by decide, by decide, by decide, by decide +kernel⟩
theorem xw_674 : (Jvm.Cond.methodLink "MarkerText" (212 : Nat) ({ cls := "MarkerText", name := "isLetter", desc := "(C)Z" } : Jvm.MethodName)) ∈ xT := xT_at 674 (by decide +kernel) (by decide +kernel)
theorem xw_675 : (Jvm.Cond.static ({ cls := "MarkerText", name := "isLetter", desc := "(C)Z" } : Jvm.MethodName)) ∈ xT := xT_at 675 (by decide +kernel) (by decide +kernel)
theorem xcs_MT_212 : xCS "MarkerText" 212 M_MT_isLetter 1 := ⟨xcb_MT_isLetter, xw_675, Or.inl xw_674⟩
theorem d_MT_isSpelledAsName_36 : decode M_MT_isSpelledAsName.2.1 36 = .ok (.ifCond .ne 5, 3) := by decide +kernel
theorem d_MT_isSpelledAsName_41 : decode M_MT_isSpelledAsName.2.1 41 = .ok (.iinc 1 1, 3) := by decide +kernel
theorem d_MT_isSpelledAsName_44 : decode M_MT_isSpelledAsName.2.1 44 = .ok (.goto (-24), 3) := by decide +kernel
theorem d_MT_isSpelledAsName_39 : decode M_MT_isSpelledAsName.2.1 39 = .ok (.iconst 0, 1) := by decide +kernel
theorem d_MT_isSpelledAsName_40 : decode M_MT_isSpelledAsName.2.1 40 = .ok (.ireturn, 1) := by decide +kernel
theorem d_MT_isSpelledAsName_0 : decode M_MT_isSpelledAsName.2.1 0 = .ok (.aload_n 0, 1) := by decide +kernel
theorem d_MT_isSpelledAsName_1 : decode M_MT_isSpelledAsName.2.1 1 = .ok (.invokevirtual 137, 3) := by decide +kernel
theorem xw_673 : (Jvm.Cond.code ({ cls := "java/lang/String", name := "isEmpty", desc := "()Z" } : Jvm.MethodName) prog_25_method_55_code (1 : Nat) (Option.some Jvm.ClassFile.FieldType.boolean)) ∈ xT := xT_at 673 (by decide +kernel) (by decide +kernel)
theorem xcb_String_isEmpty : xcb M_String_isEmpty 0 := ⟨xw_673, xw_4, by decide, by decide, by decide, by decide +kernel⟩
theorem xw_671 : (Jvm.Cond.instanceMethod ({ cls := "java/lang/String", name := "isEmpty", desc := "()Z" } : Jvm.MethodName)) ∈ xT := xT_at 671 (by decide +kernel) (by decide +kernel)
theorem xw_670 : (Jvm.Cond.methodLink "MarkerText" (137 : Nat) ({ cls := "java/lang/String", name := "isEmpty", desc := "()Z" } : Jvm.MethodName)) ∈ xT := xT_at 670 (by decide +kernel) (by decide +kernel)
theorem xw_672 : (Jvm.Cond.selects "java/lang/String" ({ cls := "java/lang/String", name := "isEmpty", desc := "()Z" } : Jvm.MethodName) ({ cls := "java/lang/String", name := "isEmpty", desc := "()Z" } : Jvm.MethodName)) ∈ xT := xT_at 672 (by decide +kernel) (by decide +kernel)
theorem xcv_MT_137_String : xCV "MarkerText" 137 "java/lang/String" M_String_isEmpty 0 := ⟨xcb_String_isEmpty, xw_671, Or.inl ⟨xw_670, Or.inl xw_672⟩⟩
theorem d_MT_isSpelledAsName_4 : decode M_MT_isSpelledAsName.2.1 4 = .ok (.ifCond .ne 12, 3) := by decide +kernel
theorem d_MT_isSpelledAsName_16 : decode M_MT_isSpelledAsName.2.1 16 = .ok (.iconst 0, 1) := by decide +kernel
theorem d_MT_isSpelledAsName_17 : decode M_MT_isSpelledAsName.2.1 17 = .ok (.ireturn, 1) := by decide +kernel
theorem d_MT_isSpelledAsName_7 : decode M_MT_isSpelledAsName.2.1 7 = .ok (.aload_n 0, 1) := by decide +kernel
theorem d_MT_isSpelledAsName_8 : decode M_MT_isSpelledAsName.2.1 8 = .ok (.invokevirtual 99, 3) := by decide +kernel
theorem d_MT_isSpelledAsName_11 : decode M_MT_isSpelledAsName.2.1 11 = .ok (.bipush 8, 2) := by decide +kernel
theorem d_MT_isSpelledAsName_13 : decode M_MT_isSpelledAsName.2.1 13 = .ok (.if_icmp .le 5, 3) := by decide +kernel
theorem d_MT_isSpelledAsName_18 : decode M_MT_isSpelledAsName.2.1 18 = .ok (.iconst 0, 1) := by decide +kernel
theorem d_MT_isSpelledAsName_19 : decode M_MT_isSpelledAsName.2.1 19 = .ok (.istore_n 1, 1) := by decide +kernel
abbrev y_MT_numberOf : MethodName := ⟨"MarkerText", "numberOf", "([LMarkerText$Name;Ljava/lang/String;)I"⟩
abbrev M_MT_numberOf : XMt := (y_MT_numberOf, prog_1_method_24_code, 3, (some .int))
theorem d_MT_numberOf_2 : decode M_MT_numberOf.2.1 2 = .ok (.iload_n 2, 1) := by decide +kernel
theorem d_MT_numberOf_3 : decode M_MT_numberOf.2.1 3 = .ok (.aload_n 0, 1) := by decide +kernel
theorem d_MT_numberOf_4 : decode M_MT_numberOf.2.1 4 = .ok (.arraylength, 1) := by decide +kernel
theorem d_MT_numberOf_5 : decode M_MT_numberOf.2.1 5 = .ok (.if_icmp .ge 30, 3) := by decide +kernel
theorem d_MT_numberOf_35 : decode M_MT_numberOf.2.1 35 = .ok (.iconst (-1), 1) := by decide +kernel
theorem d_MT_numberOf_36 : decode M_MT_numberOf.2.1 36 = .ok (.ireturn, 1) := by decide +kernel
theorem d_MT_numberOf_8 : decode M_MT_numberOf.2.1 8 = .ok (.aload_n 0, 1) := by decide +kernel
theorem d_MT_numberOf_9 : decode M_MT_numberOf.2.1 9 = .ok (.iload_n 2, 1) := by decide +kernel
theorem d_MT_numberOf_10 : decode M_MT_numberOf.2.1 10 = .ok (.aaload, 1) := by decide +kernel
theorem d_MT_numberOf_11 : decode M_MT_numberOf.2.1 11 = .ok (.ifnull 18, 3) := by decide +kernel
theorem d_MT_numberOf_14 : decode M_MT_numberOf.2.1 14 = .ok (.aload_n 0, 1) := by decide +kernel
theorem d_MT_numberOf_15 : decode M_MT_numberOf.2.1 15 = .ok (.iload_n 2, 1) := by decide +kernel
theorem d_MT_numberOf_16 : decode M_MT_numberOf.2.1 16 = .ok (.aaload, 1) := by decide +kernel
theorem d_MT_numberOf_17 : decode M_MT_numberOf.2.1 17 = .ok (.getfield 232, 3) := by decide +kernel
theorem xw_721 : (Jvm.Cond.fieldLinkNest "MarkerText" (232 : Nat) "MarkerText$Name" "spelling" "Ljava/lang/String;" "MarkerText") ∈ xT := xT_at 721 (by decide +kernel) (by decide +kernel)
theorem xf_MT_232_Name : xF "MarkerText" 232 k_Name 0 := ⟨_, _, _, "MarkerText$Name", rfl, by decide, Or.inr ⟨_, xw_721⟩, Or.inl rfl⟩
theorem d_MT_numberOf_20 : decode M_MT_numberOf.2.1 20 = .ok (.aload_n 1, 1) := by decide +kernel
theorem d_MT_numberOf_21 : decode M_MT_numberOf.2.1 21 = .ok (.invokevirtual 218, 3) := by decide +kernel
theorem d_MT_numberOf_24 : decode M_MT_numberOf.2.1 24 = .ok (.ifCond .eq 5, 3) := by decide +kernel
theorem d_MT_numberOf_27 : decode M_MT_numberOf.2.1 27 = .ok (.iload_n 2, 1) := by decide +kernel
theorem d_MT_numberOf_28 : decode M_MT_numberOf.2.1 28 = .ok (.ireturn, 1) := by decide +kernel
theorem d_MT_numberOf_29 : decode M_MT_numberOf.2.1 29 = .ok (.iinc 2 1, 3) := by decide +kernel
theorem d_MT_numberOf_32 : decode M_MT_numberOf.2.1 32 = .ok (.goto (-30), 3) := by decide +kernel
theorem d_MT_numberOf_0 : decode M_MT_numberOf.2.1 0 = .ok (.iconst 0, 1) := by decide +kernel
theorem d_MT_numberOf_1 : decode M_MT_numberOf.2.1 1 = .ok (.istore_n 2, 1) := by decide +kernel
end
section MT1
variable {l : Launch} {G : XG} {h : XH} {c n d : Nat}
/-- the words that are no NAMES -/
abbrev kws : List (List Nat) := [xtx 4, xtx 5, xtx 6, xtx 7, xtx 8, xtx 9]
abbrev isLt (ch : Nat) : Prop := 97 ≤ ch ∧ ch ≤ 122
abbrev spl (w : List Nat) : Prop := (w ≠ [] ∧ w.length ≤ 8) ∧ (∀ ch ∈ w, isLt ch) ∧ w ∉ kws
theorem c_isSpelled (hG : xGk G) (hd : 4 ≤ d) {a : Nat} {w : List Nat} (hS : isS G h a w) (hl : w.length < 2 ^ 20) : XM l G d M_MT_isSpelledAsName [.ref a] h c n (xSame (.int (if spl w then 1 else 0)) h c n) := by
  obtain ⟨d, rfl⟩ : ∃ q, d = q + 1 := ⟨d - 1, by omega⟩
  obtain ⟨va, ee, ha, -, hat⟩ := id hS
  refine XM.of (by decide +kernel) (Nat.le_of_ble_eq_true rfl) ?_
  have at105 : ∀ e1, w ∈ kws → XW l G M_MT_isSpelledAsName (d + 1) 105 [some (.ref a), e1] [] h c n (xSame (.int (if spl w then 1 else 0)) h c n) := by
    intro e1 hw
    rw [if_neg (fun z => z.2.2 hw)]
    refine x_iconst (v := 0) d_MT_isSpelledAsName_105 (by decide) ?_
    refine x_zret d_MT_isSpelledAsName_106 rfl rfl ?_
    exact ⟨rfl, rfl, rfl, rfl⟩
  have at47 : ∀ e1, (w ≠ [] ∧ w.length ≤ 8) → (∀ ch ∈ w, isLt ch) → XW l G M_MT_isSpelledAsName (d + 1) 47 [some (.ref a), e1] [] h c n (xSame (.int (if spl w then 1 else 0)) h c n) := by
    intro e1 hz1 hz2
    by_cases k1 : w = xtx 4
    · refine x_aload_n d_MT_isSpelledAsName_47 rfl rfl ?_
      refine x_ldcS (i := 4) (tx := "or") (by decide +kernel) d_MT_isSpelledAsName_48 ?_
      refine x_callV (As := [_]) (k := k_String) rfl xcv_MT_218_String ha (c_String_equals (by omega) hS (hG.str (by decide)) (by omega) (by decide)) rfl rfl (Nat.le_of_ble_eq_true rfl) d_MT_isSpelledAsName_50 ?_
      rintro v h' c' n' ⟨rfl, rfl, rfl, rfl⟩
      refine x_if_ne (tgt := 105) d_MT_isSpelledAsName_53 (by decide) (fun _ => ?_) (fun hn => absurd hn (by rw [if_pos k1]; decide))
      exact at105 e1 (by rw [k1]; simp)
    refine x_aload_n d_MT_isSpelledAsName_47 rfl rfl ?_
    refine x_ldcS (i := 4) (tx := "or") (by decide +kernel) d_MT_isSpelledAsName_48 ?_
    refine x_callV (As := [_]) (k := k_String) rfl xcv_MT_218_String ha (c_String_equals (by omega) hS (hG.str (by decide)) (by omega) (by decide)) rfl rfl (Nat.le_of_ble_eq_true rfl) d_MT_isSpelledAsName_50 ?_
    rintro v h' c' n' ⟨rfl, rfl, rfl, rfl⟩
    by_cases k2 : w = xtx 5
    · refine x_if_ne (tgt := 105) d_MT_isSpelledAsName_53 (by decide) (fun ht => absurd (by rw [if_neg k1]) ht) (fun _ => ?_)
      refine x_aload_n d_MT_isSpelledAsName_56 rfl rfl ?_
      refine x_ldcS (i := 5) (tx := "and") (by decide +kernel) d_MT_isSpelledAsName_57 ?_
      refine x_callV (As := [_]) (k := k_String) rfl xcv_MT_218_String ha (c_String_equals (by omega) hS (hG.str (by decide)) (by omega) (by decide)) rfl rfl (Nat.le_of_ble_eq_true rfl) d_MT_isSpelledAsName_59 ?_
      rintro v h' c' n' ⟨rfl, rfl, rfl, rfl⟩
      refine x_if_ne (tgt := 105) d_MT_isSpelledAsName_62 (by decide) (fun _ => ?_) (fun hn => absurd hn (by rw [if_pos k2]; decide))
      exact at105 e1 (by rw [k2]; simp)
    refine x_if_ne (tgt := 105) d_MT_isSpelledAsName_53 (by decide) (fun ht => absurd (by rw [if_neg k1]) ht) (fun _ => ?_)
    refine x_aload_n d_MT_isSpelledAsName_56 rfl rfl ?_
    refine x_ldcS (i := 5) (tx := "and") (by decide +kernel) d_MT_isSpelledAsName_57 ?_
    refine x_callV (As := [_]) (k := k_String) rfl xcv_MT_218_String ha (c_String_equals (by omega) hS (hG.str (by decide)) (by omega) (by decide)) rfl rfl (Nat.le_of_ble_eq_true rfl) d_MT_isSpelledAsName_59 ?_
    rintro v h' c' n' ⟨rfl, rfl, rfl, rfl⟩
    by_cases k3 : w = xtx 6
    · refine x_if_ne (tgt := 105) d_MT_isSpelledAsName_62 (by decide) (fun ht => absurd (by rw [if_neg k2]) ht) (fun _ => ?_)
      refine x_aload_n d_MT_isSpelledAsName_65 rfl rfl ?_
      refine x_ldcS (i := 6) (tx := "not") (by decide +kernel) d_MT_isSpelledAsName_66 ?_
      refine x_callV (As := [_]) (k := k_String) rfl xcv_MT_218_String ha (c_String_equals (by omega) hS (hG.str (by decide)) (by omega) (by decide)) rfl rfl (Nat.le_of_ble_eq_true rfl) d_MT_isSpelledAsName_68 ?_
      rintro v h' c' n' ⟨rfl, rfl, rfl, rfl⟩
      refine x_if_ne (tgt := 105) d_MT_isSpelledAsName_71 (by decide) (fun _ => ?_) (fun hn => absurd hn (by rw [if_pos k3]; decide))
      exact at105 e1 (by rw [k3]; simp)
    refine x_if_ne (tgt := 105) d_MT_isSpelledAsName_62 (by decide) (fun ht => absurd (by rw [if_neg k2]) ht) (fun _ => ?_)
    refine x_aload_n d_MT_isSpelledAsName_65 rfl rfl ?_
    refine x_ldcS (i := 6) (tx := "not") (by decide +kernel) d_MT_isSpelledAsName_66 ?_
    refine x_callV (As := [_]) (k := k_String) rfl xcv_MT_218_String ha (c_String_equals (by omega) hS (hG.str (by decide)) (by omega) (by decide)) rfl rfl (Nat.le_of_ble_eq_true rfl) d_MT_isSpelledAsName_68 ?_
    rintro v h' c' n' ⟨rfl, rfl, rfl, rfl⟩
    by_cases k4 : w = xtx 7
    · refine x_if_ne (tgt := 105) d_MT_isSpelledAsName_71 (by decide) (fun ht => absurd (by rw [if_neg k3]) ht) (fun _ => ?_)
      refine x_aload_n d_MT_isSpelledAsName_74 rfl rfl ?_
      refine x_ldcS (i := 7) (tx := "in") (by decide +kernel) d_MT_isSpelledAsName_75 ?_
      refine x_callV (As := [_]) (k := k_String) rfl xcv_MT_218_String ha (c_String_equals (by omega) hS (hG.str (by decide)) (by omega) (by decide)) rfl rfl (Nat.le_of_ble_eq_true rfl) d_MT_isSpelledAsName_77 ?_
      rintro v h' c' n' ⟨rfl, rfl, rfl, rfl⟩
      refine x_if_ne (tgt := 105) d_MT_isSpelledAsName_80 (by decide) (fun _ => ?_) (fun hn => absurd hn (by rw [if_pos k4]; decide))
      exact at105 e1 (by rw [k4]; simp)
    refine x_if_ne (tgt := 105) d_MT_isSpelledAsName_71 (by decide) (fun ht => absurd (by rw [if_neg k3]) ht) (fun _ => ?_)
    refine x_aload_n d_MT_isSpelledAsName_74 rfl rfl ?_
    refine x_ldcS (i := 7) (tx := "in") (by decide +kernel) d_MT_isSpelledAsName_75 ?_
    refine x_callV (As := [_]) (k := k_String) rfl xcv_MT_218_String ha (c_String_equals (by omega) hS (hG.str (by decide)) (by omega) (by decide)) rfl rfl (Nat.le_of_ble_eq_true rfl) d_MT_isSpelledAsName_77 ?_
    rintro v h' c' n' ⟨rfl, rfl, rfl, rfl⟩
    by_cases k5 : w = xtx 8
    · refine x_if_ne (tgt := 105) d_MT_isSpelledAsName_80 (by decide) (fun ht => absurd (by rw [if_neg k4]) ht) (fun _ => ?_)
      refine x_aload_n d_MT_isSpelledAsName_83 rfl rfl ?_
      refine x_ldcS (i := 8) (tx := "true") (by decide +kernel) d_MT_isSpelledAsName_84 ?_
      refine x_callV (As := [_]) (k := k_String) rfl xcv_MT_218_String ha (c_String_equals (by omega) hS (hG.str (by decide)) (by omega) (by decide)) rfl rfl (Nat.le_of_ble_eq_true rfl) d_MT_isSpelledAsName_86 ?_
      rintro v h' c' n' ⟨rfl, rfl, rfl, rfl⟩
      refine x_if_ne (tgt := 105) d_MT_isSpelledAsName_89 (by decide) (fun _ => ?_) (fun hn => absurd hn (by rw [if_pos k5]; decide))
      exact at105 e1 (by rw [k5]; simp)
    refine x_if_ne (tgt := 105) d_MT_isSpelledAsName_80 (by decide) (fun ht => absurd (by rw [if_neg k4]) ht) (fun _ => ?_)
    refine x_aload_n d_MT_isSpelledAsName_83 rfl rfl ?_
    refine x_ldcS (i := 8) (tx := "true") (by decide +kernel) d_MT_isSpelledAsName_84 ?_
    refine x_callV (As := [_]) (k := k_String) rfl xcv_MT_218_String ha (c_String_equals (by omega) hS (hG.str (by decide)) (by omega) (by decide)) rfl rfl (Nat.le_of_ble_eq_true rfl) d_MT_isSpelledAsName_86 ?_
    rintro v h' c' n' ⟨rfl, rfl, rfl, rfl⟩
    by_cases k6 : w = xtx 9
    · refine x_if_ne (tgt := 105) d_MT_isSpelledAsName_89 (by decide) (fun ht => absurd (by rw [if_neg k5]) ht) (fun _ => ?_)
      refine x_aload_n d_MT_isSpelledAsName_92 rfl rfl ?_
      refine x_ldcS (i := 9) (tx := "false") (by decide +kernel) d_MT_isSpelledAsName_93 ?_
      refine x_callV (As := [_]) (k := k_String) rfl xcv_MT_218_String ha (c_String_equals (by omega) hS (hG.str (by decide)) (by omega) (by decide)) rfl rfl (Nat.le_of_ble_eq_true rfl) d_MT_isSpelledAsName_95 ?_
      rintro v h' c' n' ⟨rfl, rfl, rfl, rfl⟩
      refine x_if_ne (tgt := 105) d_MT_isSpelledAsName_98 (by decide) (fun _ => ?_) (fun hn => absurd hn (by rw [if_pos k6]; decide))
      exact at105 e1 (by rw [k6]; simp)
    refine x_if_ne (tgt := 105) d_MT_isSpelledAsName_89 (by decide) (fun ht => absurd (by rw [if_neg k5]) ht) (fun _ => ?_)
    refine x_aload_n d_MT_isSpelledAsName_92 rfl rfl ?_
    refine x_ldcS (i := 9) (tx := "false") (by decide +kernel) d_MT_isSpelledAsName_93 ?_
    refine x_callV (As := [_]) (k := k_String) rfl xcv_MT_218_String ha (c_String_equals (by omega) hS (hG.str (by decide)) (by omega) (by decide)) rfl rfl (Nat.le_of_ble_eq_true rfl) d_MT_isSpelledAsName_95 ?_
    rintro v h' c' n' ⟨rfl, rfl, rfl, rfl⟩
    have hk : w ∉ kws := by
      intro z
      simp only [kws, List.mem_cons, List.not_mem_nil, or_false] at z
      rcases z with z | z | z | z | z | z <;> contradiction
    refine x_if_ne (tgt := 105) d_MT_isSpelledAsName_98 (by decide) (fun ht => absurd (by rw [if_neg k6]) ht) (fun _ => ?_)
    refine x_iconst (v := 1) d_MT_isSpelledAsName_101 (by decide) ?_
    refine x_goto (tgt := 106) d_MT_isSpelledAsName_102 (by decide) ?_
    refine x_zret d_MT_isSpelledAsName_106 rfl rfl ?_
    exact ⟨by rw [if_pos ⟨hz1, hz2, hk⟩], rfl, rfl, rfl⟩
  have lp : (w ≠ [] ∧ w.length ≤ 8) → ∀ (k i : Nat), i + k = w.length → (∀ j (hj : j < w.length), j < i → isLt w[j]) → XW l G M_MT_isSpelledAsName (d + 1) 20 [some (.ref a), some (.int (nI i))] [] h c n (xSame (.int (if spl w then 1 else 0)) h c n) := by
    intro hz k
    induction k with
    | zero =>
      intro i hi hj
      refine x_iload_n d_MT_isSpelledAsName_20 rfl ?_
      refine x_aload_n d_MT_isSpelledAsName_21 rfl rfl ?_
      refine x_callV (As := []) (k := k_String) rfl xcv_MT_99_String ha (c_String_length (by omega) hS) rfl rfl (Nat.le_of_ble_eq_true rfl) d_MT_isSpelledAsName_22 ?_
      rintro v h' c' n' ⟨rfl, rfl, rfl, rfl⟩
      refine x_icmp_ge (tgt := 47) d_MT_isSpelledAsName_25 (by decide) (fun _ => ?_) (fun hn => absurd (nI_le (by omega) (by omega)) hn)
      refine at47 _ hz (fun ch hch => ?_)
      obtain ⟨j, h1, h2⟩ := List.getElem_of_mem hch
      rw [← h2]
      exact hj j h1 (by omega)
    | succ k ih =>
      intro i hi hj
      have hil : i < w.length := by omega
      have hch := hat w[i] (List.getElem_mem hil)
      refine x_iload_n d_MT_isSpelledAsName_20 rfl ?_
      refine x_aload_n d_MT_isSpelledAsName_21 rfl rfl ?_
      refine x_callV (As := []) (k := k_String) rfl xcv_MT_99_String ha (c_String_length (by omega) hS) rfl rfl (Nat.le_of_ble_eq_true rfl) d_MT_isSpelledAsName_22 ?_
      rintro v h' c' n' ⟨rfl, rfl, rfl, rfl⟩
      refine x_icmp_ge (tgt := 47) d_MT_isSpelledAsName_25 (by decide) (fun ht => absurd ht (nI_ge (by omega) (by omega))) (fun _ => ?_)
      refine x_aload_n d_MT_isSpelledAsName_28 rfl rfl ?_
      refine x_iload_n d_MT_isSpelledAsName_29 rfl ?_
      refine x_callV (As := [_]) (k := k_String) rfl xcv_MT_194_String ha (c_String_charAt hG (by omega) hS hil (by omega)) rfl rfl (Nat.le_of_ble_eq_true rfl) d_MT_isSpelledAsName_30 ?_
      rintro v h' c' n' ⟨rfl, rfl, rfl, rfl⟩
      refine x_callS (As := [_]) xcs_MT_212 (c_isLetter hch) rfl rfl (Nat.le_of_ble_eq_true rfl) d_MT_isSpelledAsName_33 ?_
      rintro v h' c' n' ⟨rfl, rfl, rfl, rfl⟩
      by_cases hL : isLt w[i]
      · refine x_if_ne (tgt := 41) d_MT_isSpelledAsName_36 (by decide) (fun _ => ?_) (fun hn => absurd hn (by rw [if_pos hL]; decide))
        refine x_iinc (v := nI (i + 1)) (L' := [_, _]) d_MT_isSpelledAsName_41 rfl (by exact xw_iinc1) rfl rfl ?_
        refine x_goto (tgt := 20) d_MT_isSpelledAsName_44 (by decide) ?_
        refine ih (i + 1) (by omega) (fun j h1 h2 => ?_)
        by_cases hji : j = i
        · subst hji; exact hL
        · exact hj j h1 (by omega)
      · refine x_if_ne (tgt := 41) d_MT_isSpelledAsName_36 (by decide) (fun ht => absurd (by rw [if_neg hL]) ht) (fun _ => ?_)
        refine x_iconst (v := 0) d_MT_isSpelledAsName_39 (by decide) ?_
        refine x_zret d_MT_isSpelledAsName_40 rfl rfl ?_
        exact ⟨by rw [if_neg (fun z => hL (z.2.1 _ (List.getElem_mem hil)))], rfl, rfl, rfl⟩
  refine x_aload_n d_MT_isSpelledAsName_0 rfl rfl ?_
  refine x_callV (As := []) (k := k_String) rfl xcv_MT_137_String ha (c_String_isEmpty hS (by omega)) rfl rfl (Nat.le_of_ble_eq_true rfl) d_MT_isSpelledAsName_1 ?_
  rintro v h' c' n' ⟨rfl, rfl, rfl, rfl⟩
  by_cases h0 : w = []
  · refine x_if_ne (tgt := 16) d_MT_isSpelledAsName_4 (by decide) (fun _ => ?_) (fun hn => absurd hn (by rw [if_pos h0]; decide))
    refine x_iconst (v := 0) d_MT_isSpelledAsName_16 (by decide) ?_
    refine x_zret d_MT_isSpelledAsName_17 rfl rfl ?_
    exact ⟨by rw [if_neg (fun z => z.1.1 h0)], rfl, rfl, rfl⟩
  refine x_if_ne (tgt := 16) d_MT_isSpelledAsName_4 (by decide) (fun ht => absurd (by rw [if_neg h0]) ht) (fun _ => ?_)
  refine x_aload_n d_MT_isSpelledAsName_7 rfl rfl ?_
  refine x_callV (As := []) (k := k_String) rfl xcv_MT_99_String ha (c_String_length (by omega) hS) rfl rfl (Nat.le_of_ble_eq_true rfl) d_MT_isSpelledAsName_8 ?_
  rintro v h' c' n' ⟨rfl, rfl, rfl, rfl⟩
  by_cases h8 : w.length ≤ 8
  · refine x_bipush (v := 8) d_MT_isSpelledAsName_11 (by decide) ?_
    refine x_icmp_le (tgt := 18) d_MT_isSpelledAsName_13 (by decide) (fun _ => ?_) (fun hn => absurd (nI_le (b := 8) h8 (by omega)) hn)
    refine x_iconst (v := 0) d_MT_isSpelledAsName_18 (by decide) ?_
    refine x_istore_n (L' := [_, _]) d_MT_isSpelledAsName_19 rfl rfl ?_
    exact lp ⟨h0, h8⟩ w.length 0 (by omega) (fun j _ h2 => by omega)
  · refine x_bipush (v := 8) d_MT_isSpelledAsName_11 (by decide) ?_
    refine x_icmp_le (tgt := 18) d_MT_isSpelledAsName_13 (by decide) (fun ht => absurd ht (nI_ge (a := 8) (by omega) (by omega))) (fun _ => ?_)
    refine x_iconst (v := 0) d_MT_isSpelledAsName_16 (by decide) ?_
    refine x_zret d_MT_isSpelledAsName_17 rfl rfl ?_
    exact ⟨by rw [if_neg (fun z => h8 z.1.2)], rfl, rfl, rfl⟩
/-- the names: spelling, KIND, known levels -/
abbrev NmT : Type := List Nat × Nat × List Nat
def isNs (G : XG) (h : XH) (r : Nat) (as kas : List Nat) (Ns : List NmT) : Prop := h r = some (k_aName, as.map (.ref ·) ++ List.replicate (6 - as.length) .null) ∧ as.length = Ns.length ∧ kas.length = Ns.length ∧ Ns.length ≤ 6 ∧ as.Nodup ∧ kas.Nodup ∧ ∀ (i : Nat) (x : NmT) (a ka : Nat), Ns[i]? = some x → as[i]? = some a → kas[i]? = some ka → isN G h a ka x.1 x.2.1 x.2.2 ∧ x.1.length ≤ 8
/-- the number of a NAME -/
def nof (Ns : List NmT) (w : List Nat) : Option Nat := Ns.findIdx? (fun x => decide (x.1 = w))
def oI : Option Nat → Int32
  | none => -1
  | some i => nI i
theorem c_numberOf (hd : 2 ≤ d) {r b : Nat} {as kas : List Nat} {Ns : List NmT} {w : List Nat} (hNs : isNs G h r as kas Ns) (hS : isS G h b w) (hl : w.length < 2 ^ 20) : XM l G d M_MT_numberOf [.ref r, .ref b] h c n (xSame (.int (oI (nof Ns w))) h c n) := by
  obtain ⟨d, rfl⟩ : ∃ q, d = q + 1 := ⟨d - 1, by omega⟩
  obtain ⟨hr, e1, e2, e3, -, -, hx⟩ := hNs
  have hlen : (as.map (Value.ref ·) ++ List.replicate (6 - as.length) Value.null).length = 6 := by simp; omega
  refine XM.of (by decide +kernel) (Nat.le_of_ble_eq_true rfl) ?_
  have lp : ∀ (k i : Nat), i + k = 6 → (∀ j (hj : j < Ns.length), j < i → ¬ Ns[j].1 = w) → XW l G M_MT_numberOf (d + 1) 2 [some (.ref r), some (.ref b), some (.int (nI i))] [] h c n (xSame (.int (oI (nof Ns w))) h c n) := by
    intro k
    induction k with
    | zero =>
      intro i hi hj
      have hno : nof Ns w = none := by
        refine List.findIdx?_eq_none_iff.mpr (fun x hx' => ?_)
        obtain ⟨j, h1, h2⟩ := List.getElem_of_mem hx'
        rw [← h2]
        exact decide_eq_false (hj j h1 (by omega))
      rw [hno]
      refine x_iload_n d_MT_numberOf_2 rfl ?_
      refine x_aload_n d_MT_numberOf_3 rfl rfl ?_
      refine x_alen (k := k_aName) rfl (Or.inl hr) (v := nI 6) (by rw [hlen]; rfl) d_MT_numberOf_4 ?_
      refine x_icmp_ge (tgt := 35) d_MT_numberOf_5 (by decide) (fun _ => ?_) (fun hn => absurd (nI_le (a := 6) (by omega) (by omega)) hn)
      refine x_iconst (v := (-1)) d_MT_numberOf_35 (by decide) ?_
      refine x_iret d_MT_numberOf_36 rfl ?_
      exact ⟨rfl, rfl, rfl, rfl⟩
    | succ k ih =>
      intro i hi hj
      by_cases hin : i < Ns.length
      · have hia : i < as.length := by omega
        have hik : i < kas.length := by omega
        have hat : (as.map (Value.ref ·) ++ List.replicate (6 - as.length) .null)[(nI i).toNatClampNeg]? = some (.ref as[i]) := by
          rw [nI_clamp (by omega), List.getElem?_append_left (by simpa using hia), List.getElem?_map, List.getElem?_eq_getElem hia]
          rfl
        obtain ⟨⟨sa, g1, g2, -⟩, g8⟩ := hx i Ns[i] as[i] kas[i] (List.getElem?_eq_getElem hin) (List.getElem?_eq_getElem hia) (List.getElem?_eq_getElem hik)
        obtain ⟨va, ee, hsa, -⟩ := id g2
        refine x_iload_n d_MT_numberOf_2 rfl ?_
        refine x_aload_n d_MT_numberOf_3 rfl rfl ?_
        refine x_alen (k := k_aName) rfl (Or.inl hr) (v := nI 6) (by rw [hlen]; rfl) d_MT_numberOf_4 ?_
        refine x_icmp_ge (tgt := 35) d_MT_numberOf_5 (by decide) (fun ht => absurd ht (nI_ge (b := 6) (by omega) (by omega))) (fun _ => ?_)
        refine x_aload_n d_MT_numberOf_8 rfl rfl ?_
        refine x_iload_n d_MT_numberOf_9 rfl ?_
        refine x_aald (k := k_aName) rfl rfl (Or.inl hr) (nI_pos (by omega)) hat d_MT_numberOf_10 ?_
        refine x_ifnull d_MT_numberOf_11 ?_
        refine x_aload_n d_MT_numberOf_14 rfl rfl ?_
        refine x_iload_n d_MT_numberOf_15 rfl ?_
        refine x_aald (k := k_aName) rfl rfl (Or.inl hr) (nI_pos (by omega)) hat d_MT_numberOf_16 ?_
        refine x_get xf_MT_232_Name (Or.inl g1) rfl d_MT_numberOf_17 ?_
        refine x_aload_n d_MT_numberOf_20 rfl rfl ?_
        refine x_callV (As := [_]) (k := k_String) rfl xcv_MT_218_String hsa (c_String_equals (by omega) g2 hS (by omega) (by omega)) rfl rfl (Nat.le_of_ble_eq_true rfl) d_MT_numberOf_21 ?_
        rintro v h' c' n' ⟨rfl, rfl, rfl, rfl⟩
        by_cases he : Ns[i].1 = w
        · have hso : nof Ns w = some i := List.findIdx?_eq_some_iff_getElem.mpr ⟨hin, decide_eq_true he, fun j hj' => by simpa using hj j (by omega) hj'⟩
          refine x_if_eq (tgt := 29) d_MT_numberOf_24 (by decide) (fun ht => absurd ht (by rw [if_pos he]; decide)) (fun _ => ?_)
          refine x_iload_n d_MT_numberOf_27 rfl ?_
          refine x_iret d_MT_numberOf_28 rfl ?_
          exact ⟨by rw [hso]; rfl, rfl, rfl, rfl⟩
        · refine x_if_eq (tgt := 29) d_MT_numberOf_24 (by decide) (fun _ => ?_) (fun hn => absurd (by rw [if_neg he]) hn)
          refine x_iinc (v := nI (i + 1)) (L' := [_, _, _]) d_MT_numberOf_29 rfl (by exact xw_iinc1) rfl rfl ?_
          refine x_goto (tgt := 2) d_MT_numberOf_32 (by decide) ?_
          refine ih (i + 1) (by omega) (fun j h1 h2 => ?_)
          by_cases hji : j = i
          · subst hji; exact he
          · exact hj j h1 (by omega)
      · have hat : (as.map (Value.ref ·) ++ List.replicate (6 - as.length) .null)[(nI i).toNatClampNeg]? = some .null := by
          rw [nI_clamp (by omega), List.getElem?_append_right (by simp; omega), List.getElem?_replicate, if_pos (by simp; omega)]
        refine x_iload_n d_MT_numberOf_2 rfl ?_
        refine x_aload_n d_MT_numberOf_3 rfl rfl ?_
        refine x_alen (k := k_aName) rfl (Or.inl hr) (v := nI 6) (by rw [hlen]; rfl) d_MT_numberOf_4 ?_
        refine x_icmp_ge (tgt := 35) d_MT_numberOf_5 (by decide) (fun ht => absurd ht (nI_ge (b := 6) (by omega) (by omega))) (fun _ => ?_)
        refine x_aload_n d_MT_numberOf_8 rfl rfl ?_
        refine x_iload_n d_MT_numberOf_9 rfl ?_
        refine x_aald (k := k_aName) rfl rfl (Or.inl hr) (nI_pos (by omega)) hat d_MT_numberOf_10 ?_
        refine x_ifnullN (tgt := 29) d_MT_numberOf_11 (by decide) ?_
        refine x_iinc (v := nI (i + 1)) (L' := [_, _, _]) d_MT_numberOf_29 rfl (by exact xw_iinc1) rfl rfl ?_
        refine x_goto (tgt := 2) d_MT_numberOf_32 (by decide) ?_
        exact ih (i + 1) (by omega) (fun j h1 h2 => hj j h1 (by omega))
  refine x_iconst (v := 0) d_MT_numberOf_0 (by decide) ?_
  refine x_istore_n (L' := [_, _, _]) d_MT_numberOf_1 rfl rfl ?_
  exact lp 6 0 (by omega) (fun j h1 h2 => by omega)
end MT1
end
section
section

end
section AUX1
variable {l : Launch} {G : XG} {h : XH} {c n d : Nat}
theorem xno.at {F ks : List Nat} {a k : Nat} {vs : List Value} (hn : xno h F ks) (ha : h a = some (k, vs)) (hk : k ∈ ks) : a ∉ F := fun z => hn a z _ ha hk
theorem isL.fr {h' : XH} {F : List Nat} {a ea : Nat} {es : List Nat} (hL : isL G h a ea es) (hf : xfr h h' F) (hn : xno h F [k_ArrayList, k_aObject]) : isL G h' a ea es := by
  obtain ⟨mc, e1, e2⟩ := hL
  refine ⟨mc, hf.1 _ _ e1 (hn.at e1 (by decide)), e2.imp id (fun ⟨k, y1, y2⟩ => ⟨k, hf.1 _ _ y1 (hn.at y1 (by decide)), y2⟩)⟩
end AUX1
end
section
section
abbrev y_Reader_skipBlanks : MethodName := ⟨"MarkerText$Reader", "skipBlanks", "()V"⟩
abbrev M_Reader_skipBlanks : XMt := (y_Reader_skipBlanks, prog_10_method_11_code, 1, none)
theorem d_Reader_skipBlanks_0 : decode M_Reader_skipBlanks.2.1 0 = .ok (.aload_n 0, 1) := by decide +kernel
theorem d_Reader_skipBlanks_1 : decode M_Reader_skipBlanks.2.1 1 = .ok (.getfield 25, 3) := by decide +kernel
theorem xw_861 : (Jvm.Cond.fieldLink "MarkerText$Reader" (25 : Nat) "MarkerText$Reader" "at" "I") ∈ xT := xT_at 861 (by decide +kernel) (by decide +kernel)
theorem xf_Reader_25_Reader : xF "MarkerText$Reader" 25 k_Reader 4 := ⟨_, _, _, "MarkerText$Reader", rfl, by decide, Or.inl xw_861, Or.inl rfl⟩
theorem d_Reader_skipBlanks_4 : decode M_Reader_skipBlanks.2.1 4 = .ok (.aload_n 0, 1) := by decide +kernel
theorem d_Reader_skipBlanks_5 : decode M_Reader_skipBlanks.2.1 5 = .ok (.getfield 35, 3) := by decide +kernel
theorem xw_857 : (Jvm.Cond.fieldLink "MarkerText$Reader" (35 : Nat) "MarkerText$Reader" "text" "Ljava/lang/String;") ∈ xT := xT_at 857 (by decide +kernel) (by decide +kernel)
theorem xf_Reader_35_Reader : xF "MarkerText$Reader" 35 k_Reader 0 := ⟨_, _, _, "MarkerText$Reader", rfl, by decide, Or.inl xw_857, Or.inl rfl⟩
theorem d_Reader_skipBlanks_8 : decode M_Reader_skipBlanks.2.1 8 = .ok (.invokevirtual 52, 3) := by decide +kernel
theorem xw_896 : (Jvm.Cond.methodLink "MarkerText$Reader" (52 : Nat) ({ cls := "java/lang/String", name := "length", desc := "()I" } : Jvm.MethodName)) ∈ xT := xT_at 896 (by decide +kernel) (by decide +kernel)
theorem xcv_Reader_52_String : xCV "MarkerText$Reader" 52 "java/lang/String" M_String_length 0 := ⟨xcb_String_length, xw_422, Or.inl ⟨xw_896, Or.inl xw_423⟩⟩
theorem d_Reader_skipBlanks_11 : decode M_Reader_skipBlanks.2.1 11 = .ok (.if_icmp .ge 32, 3) := by decide +kernel
theorem d_Reader_skipBlanks_43 : decode M_Reader_skipBlanks.2.1 43 = .ok (.return_, 1) := by decide +kernel
theorem d_Reader_skipBlanks_14 : decode M_Reader_skipBlanks.2.1 14 = .ok (.aload_n 0, 1) := by decide +kernel
theorem d_Reader_skipBlanks_15 : decode M_Reader_skipBlanks.2.1 15 = .ok (.getfield 35, 3) := by decide +kernel
theorem d_Reader_skipBlanks_18 : decode M_Reader_skipBlanks.2.1 18 = .ok (.aload_n 0, 1) := by decide +kernel
theorem d_Reader_skipBlanks_19 : decode M_Reader_skipBlanks.2.1 19 = .ok (.getfield 25, 3) := by decide +kernel
theorem d_Reader_skipBlanks_22 : decode M_Reader_skipBlanks.2.1 22 = .ok (.invokevirtual 178, 3) := by decide +kernel
theorem xw_897 : (Jvm.Cond.methodLink "MarkerText$Reader" (178 : Nat) ({ cls := "java/lang/String", name := "charAt", desc := "(I)C" } : Jvm.MethodName)) ∈ xT := xT_at 897 (by decide +kernel) (by decide +kernel)
theorem xcv_Reader_178_String : xCV "MarkerText$Reader" 178 "java/lang/String" M_String_charAt 1 := ⟨xcb_String_charAt, xw_431, Or.inl ⟨xw_897, Or.inl xw_432⟩⟩
theorem d_Reader_skipBlanks_25 : decode M_Reader_skipBlanks.2.1 25 = .ok (.bipush 32, 2) := by decide +kernel
theorem d_Reader_skipBlanks_27 : decode M_Reader_skipBlanks.2.1 27 = .ok (.if_icmp .ne 16, 3) := by decide +kernel
theorem d_Reader_skipBlanks_30 : decode M_Reader_skipBlanks.2.1 30 = .ok (.aload_n 0, 1) := by decide +kernel
theorem d_Reader_skipBlanks_31 : decode M_Reader_skipBlanks.2.1 31 = .ok (.dup, 1) := by decide +kernel
theorem d_Reader_skipBlanks_32 : decode M_Reader_skipBlanks.2.1 32 = .ok (.getfield 25, 3) := by decide +kernel
theorem d_Reader_skipBlanks_35 : decode M_Reader_skipBlanks.2.1 35 = .ok (.iconst 1, 1) := by decide +kernel
theorem d_Reader_skipBlanks_36 : decode M_Reader_skipBlanks.2.1 36 = .ok (.iadd, 1) := by decide +kernel
theorem d_Reader_skipBlanks_37 : decode M_Reader_skipBlanks.2.1 37 = .ok (.putfield 25, 3) := by decide +kernel
theorem xp_Reader_4 : xP k_Reader 4 false .int := ⟨_, _, _, rfl, rfl, by decide +kernel⟩
theorem d_Reader_skipBlanks_40 : decode M_Reader_skipBlanks.2.1 40 = .ok (.goto (-40), 3) := by decide +kernel
abbrev y_Reader_characterHere : MethodName := ⟨"MarkerText$Reader", "characterHere", "()C"⟩
abbrev M_Reader_characterHere : XMt := (y_Reader_characterHere, prog_10_method_12_code, 1, (some .char))
theorem d_Reader_characterHere_0 : decode M_Reader_characterHere.2.1 0 = .ok (.aload_n 0, 1) := by decide +kernel
theorem d_Reader_characterHere_1 : decode M_Reader_characterHere.2.1 1 = .ok (.getfield 25, 3) := by decide +kernel
theorem d_Reader_characterHere_4 : decode M_Reader_characterHere.2.1 4 = .ok (.aload_n 0, 1) := by decide +kernel
theorem d_Reader_characterHere_5 : decode M_Reader_characterHere.2.1 5 = .ok (.getfield 35, 3) := by decide +kernel
theorem d_Reader_characterHere_8 : decode M_Reader_characterHere.2.1 8 = .ok (.invokevirtual 52, 3) := by decide +kernel
theorem d_Reader_characterHere_11 : decode M_Reader_characterHere.2.1 11 = .ok (.if_icmp .ge 17, 3) := by decide +kernel
theorem d_Reader_characterHere_14 : decode M_Reader_characterHere.2.1 14 = .ok (.aload_n 0, 1) := by decide +kernel
theorem d_Reader_characterHere_15 : decode M_Reader_characterHere.2.1 15 = .ok (.getfield 35, 3) := by decide +kernel
theorem d_Reader_characterHere_18 : decode M_Reader_characterHere.2.1 18 = .ok (.aload_n 0, 1) := by decide +kernel
theorem d_Reader_characterHere_19 : decode M_Reader_characterHere.2.1 19 = .ok (.getfield 25, 3) := by decide +kernel
theorem d_Reader_characterHere_22 : decode M_Reader_characterHere.2.1 22 = .ok (.invokevirtual 178, 3) := by decide +kernel
theorem d_Reader_characterHere_25 : decode M_Reader_characterHere.2.1 25 = .ok (.goto 4, 3) := by decide +kernel
theorem d_Reader_characterHere_29 : decode M_Reader_characterHere.2.1 29 = .ok (.ireturn, 1) := by decide +kernel
theorem d_Reader_characterHere_28 : decode M_Reader_characterHere.2.1 28 = .ok (.iconst 0, 1) := by decide +kernel
abbrev y_Reader_wordHere : MethodName := ⟨"MarkerText$Reader", "wordHere", "()Ljava/lang/String;"⟩
abbrev M_Reader_wordHere : XMt := (y_Reader_wordHere, prog_10_method_13_code, 2, (some (.object "java/lang/String")))
theorem d_Reader_wordHere_36 : decode M_Reader_wordHere.2.1 36 = .ok (.aload_n 0, 1) := by decide +kernel
theorem d_Reader_wordHere_37 : decode M_Reader_wordHere.2.1 37 = .ok (.getfield 35, 3) := by decide +kernel
theorem d_Reader_wordHere_40 : decode M_Reader_wordHere.2.1 40 = .ok (.aload_n 0, 1) := by decide +kernel
theorem d_Reader_wordHere_41 : decode M_Reader_wordHere.2.1 41 = .ok (.getfield 25, 3) := by decide +kernel
theorem d_Reader_wordHere_44 : decode M_Reader_wordHere.2.1 44 = .ok (.iload_n 1, 1) := by decide +kernel
theorem d_Reader_wordHere_45 : decode M_Reader_wordHere.2.1 45 = .ok (.invokevirtual 186, 3) := by decide +kernel
theorem xw_906 : (Jvm.Cond.code ({ cls := "java/lang/String", name := "substring", desc := "(II)Ljava/lang/String;" } : Jvm.MethodName) prog_25_method_92_code (5 : Nat) (Option.some (Jvm.ClassFile.FieldType.object "java/lang/String"))) ∈ xT := xT_at 906 (by decide +kernel) (by decide +kernel)
theorem xcb_String_substring : xcb M_String_substring 2 := ⟨xw_906, xw_4, by decide, by decide, by decide, by decide +kernel⟩
theorem xw_904 : (Jvm.Cond.instanceMethod ({ cls := "java/lang/String", name := "substring", desc := "(II)Ljava/lang/String;" } : Jvm.MethodName)) ∈ xT := xT_at 904 (by decide +kernel) (by decide +kernel)
theorem xw_903 : (Jvm.Cond.methodLink "MarkerText$Reader" (186 : Nat) ({ cls := "java/lang/String", name := "substring", desc := "(II)Ljava/lang/String;" } : Jvm.MethodName)) ∈ xT := xT_at 903 (by decide +kernel) (by decide +kernel)
theorem xw_905 : (Jvm.Cond.selects "java/lang/String" ({ cls := "java/lang/String", name := "substring", desc := "(II)Ljava/lang/String;" } : Jvm.MethodName) ({ cls := "java/lang/String", name := "substring", desc := "(II)Ljava/lang/String;" } : Jvm.MethodName)) ∈ xT := xT_at 905 (by decide +kernel) (by decide +kernel)
theorem xcv_Reader_186_String : xCV "MarkerText$Reader" 186 "java/lang/String" M_String_substring 2 := ⟨xcb_String_substring, xw_904, Or.inl ⟨xw_903, Or.inl xw_905⟩⟩
theorem d_Reader_wordHere_48 : decode M_Reader_wordHere.2.1 48 = .ok (.areturn, 1) := by decide +kernel
theorem d_Reader_wordHere_5 : decode M_Reader_wordHere.2.1 5 = .ok (.iload_n 1, 1) := by decide +kernel
theorem d_Reader_wordHere_6 : decode M_Reader_wordHere.2.1 6 = .ok (.aload_n 0, 1) := by decide +kernel
theorem d_Reader_wordHere_7 : decode M_Reader_wordHere.2.1 7 = .ok (.getfield 35, 3) := by decide +kernel
theorem d_Reader_wordHere_10 : decode M_Reader_wordHere.2.1 10 = .ok (.invokevirtual 52, 3) := by decide +kernel
theorem d_Reader_wordHere_13 : decode M_Reader_wordHere.2.1 13 = .ok (.if_icmp .ge 23, 3) := by decide +kernel
theorem d_Reader_wordHere_16 : decode M_Reader_wordHere.2.1 16 = .ok (.aload_n 0, 1) := by decide +kernel
theorem d_Reader_wordHere_17 : decode M_Reader_wordHere.2.1 17 = .ok (.getfield 35, 3) := by decide +kernel
theorem d_Reader_wordHere_20 : decode M_Reader_wordHere.2.1 20 = .ok (.iload_n 1, 1) := by decide +kernel
theorem d_Reader_wordHere_21 : decode M_Reader_wordHere.2.1 21 = .ok (.invokevirtual 178, 3) := by decide +kernel
theorem d_Reader_wordHere_24 : decode M_Reader_wordHere.2.1 24 = .ok (.invokestatic 190, 3) := by decide +kernel
theorem xw_902 : (Jvm.Cond.methodLinkNest "MarkerText$Reader" (190 : Nat) ({ cls := "MarkerText", name := "isLetter", desc := "(C)Z" } : Jvm.MethodName) "MarkerText") ∈ xT := xT_at 902 (by decide +kernel) (by decide +kernel)
theorem xcs_Reader_190 : xCS "MarkerText$Reader" 190 M_MT_isLetter 1 := ⟨xcb_MT_isLetter, xw_675, Or.inr ⟨_, xw_902⟩⟩
theorem d_Reader_wordHere_27 : decode M_Reader_wordHere.2.1 27 = .ok (.ifCond .eq 9, 3) := by decide +kernel
theorem d_Reader_wordHere_30 : decode M_Reader_wordHere.2.1 30 = .ok (.iinc 1 1, 3) := by decide +kernel
theorem d_Reader_wordHere_33 : decode M_Reader_wordHere.2.1 33 = .ok (.goto (-28), 3) := by decide +kernel
theorem d_Reader_wordHere_0 : decode M_Reader_wordHere.2.1 0 = .ok (.aload_n 0, 1) := by decide +kernel
theorem d_Reader_wordHere_1 : decode M_Reader_wordHere.2.1 1 = .ok (.getfield 25, 3) := by decide +kernel
theorem d_Reader_wordHere_4 : decode M_Reader_wordHere.2.1 4 = .ok (.istore_n 1, 1) := by decide +kernel
end
section RD1
variable {l : Launch} {G : XG} {h : XH} {c n d : Nat}
theorem xup_id {a : Nat} {e : Nat × List Value} (ha : h a = some e) : xup h a e = h := by
  funext z
  by_cases hz : z = a
  · subst hz; rw [xup_self, ha]
  · rw [xup_ne hz]
theorem xchr0 : ∀ ch, ch < 128 → narrow .char (.int (nI ch)) = .int (nI ch) := by decide +kernel
theorem xchr {ch : Nat} (hc : ch < 128) : narrow .char (.int (nI ch)) = .int (nI ch) := xchr0 ch hc
/-- where a run of characters that keep q ends -/
def scn (q : Nat → Bool) (t : List Nat) (p : Nat) : Nat := p + ((t.drop p).takeWhile q).length
theorem scn_step {q : Nat → Bool} {t : List Nat} {p : Nat} (hp : p < t.length) (hq : q t[p] = true) : scn q t p = scn q t (p + 1) := by
  unfold scn
  rw [List.drop_eq_getElem_cons hp, List.takeWhile_cons, if_pos hq, List.length_cons]
  omega
theorem scn_stop {q : Nat → Bool} {t : List Nat} {p : Nat} (hp : p < t.length) (hq : q t[p] = false) : scn q t p = p := by
  unfold scn
  rw [List.drop_eq_getElem_cons hp, List.takeWhile_cons, if_neg (by rw [hq]; exact fun z => by cases z)]
  rfl
theorem scn_end {q : Nat → Bool} {t : List Nat} {p : Nat} (hp : t.length ≤ p) : scn q t p = p := by
  unfold scn
  rw [List.drop_of_length_le hp]
  rfl
theorem scn_ge {q : Nat → Bool} {t : List Nat} {p : Nat} : p ≤ scn q t p := Nat.le_add_right _ _
theorem take_tw {q : Nat → Bool} : ∀ u : List Nat, u.take (u.takeWhile q).length = u.takeWhile q
  | [] => rfl
  | x :: u => by
    rw [List.takeWhile_cons]
    by_cases hq : q x = true
    · rw [if_pos hq, List.length_cons, List.take_succ_cons, take_tw u]
    · rw [if_neg hq]; rfl
theorem tw_len {q : Nat → Bool} : ∀ u : List Nat, (u.takeWhile q).length ≤ u.length
  | [] => Nat.le_refl _
  | x :: u => by
    rw [List.takeWhile_cons]
    by_cases hq : q x = true
    · rw [if_pos hq, List.length_cons, List.length_cons]
      have := tw_len (q := q) u
      omega
    · rw [if_neg hq]; exact Nat.zero_le _
theorem scn_le {q : Nat → Bool} {t : List Nat} {p : Nat} (hp : p ≤ t.length) : scn q t p ≤ t.length := by
  have := tw_len (q := q) (t.drop p)
  unfold scn
  rw [List.length_drop] at this
  omega
theorem scn_cut {q : Nat → Bool} {t : List Nat} {p : Nat} : (t.drop p).take (scn q t p - p) = (t.drop p).takeWhile q := by
  unfold scn
  rw [Nat.add_sub_cancel_left, take_tw]
abbrev qB (x : Nat) : Bool := decide (x = 32)
abbrev qL (x : Nat) : Bool := decide (isLt x)
abbrev qV (x : Nat) : Bool := decide (x ≠ 39)
/-- behind blanks -/
abbrev skp (t : List Nat) (p : Nat) : Nat := scn qB t p
/-- the word that begins at a place -/
abbrev wrd (t : List Nat) (p : Nat) : List Nat := (t.drop p).takeWhile qL
/-- the character at a place, or 0 -/
abbrev chr (t : List Nat) (p : Nat) : Nat := t.getD p 0
theorem chr_in {t : List Nat} {p : Nat} (hp : p < t.length) : chr t p = t[p] := by
  unfold chr
  rw [List.getD_eq_getElem?_getD, List.getElem?_eq_getElem hp]
  rfl
theorem chr_out {t : List Nat} {p : Nat} (hp : t.length ≤ p) : chr t p = 0 := by
  unfold chr
  rw [List.getD_eq_getElem?_getD, List.getElem?_eq_none hp]
  rfl
theorem chr_lt {t : List Nat} {p : Nat} (ht : xasc t) : chr t p < 128 := by
  by_cases hp : p < t.length
  · rw [chr_in hp]; exact ht _ (List.getElem_mem hp)
  · rw [chr_out (by omega)]; decide
theorem isS.asc {a : Nat} {t : List Nat} (hS : isS G h a t) : xasc t := by
  obtain ⟨_, _, _, _, e⟩ := hS
  exact e
/-- a Reader's fields -/
abbrev rdO (ta na la ba p o tc : Nat) : Nat × List Value := (k_Reader, [.ref ta, .ref na, .ref la, .ref ba, .int (nI p), .int (nI o), .int (nI tc)])
theorem isS.upR {a r k : Nat} {vs : List Value} {e : Nat × List Value} {t : List Nat} (hS : isS G h a t) (hr : h r = some (k, vs)) (hk : k ∉ [k_String, k_asbyte]) : isS G (xup h r e) a t := hS.fr (F := [r]) (xfr.rf.up (Or.inl (by simp))) (xno1 hr hk)
theorem c_skipBlanks (hG : xGk G) (hd : 4 ≤ d) {r ta na la ba p o tc : Nat} {t : List Nat} (hr : h r = some (rdO ta na la ba p o tc)) (hS : isS G h ta t) (hl : t.length < 2 ^ 20) (hp : p ≤ t.length) : XM l G d M_Reader_skipBlanks [.ref r] h c n (fun v h' c' n' => v = none ∧ h' = xup h r (rdO ta na la ba (skp t p) o tc) ∧ c' = c ∧ n' = n) := by
  obtain ⟨d, rfl⟩ : ∃ q, d = q + 1 := ⟨d - 1, by omega⟩
  refine XM.of (by decide +kernel) (Nat.le_of_ble_eq_true rfl) ?_
  have lp : ∀ (k p : Nat) (h1 : XH), p + k = t.length → h1 r = some (rdO ta na la ba p o tc) → isS G h1 ta t → xup h1 r (rdO ta na la ba (skp t p) o tc) = xup h r (rdO ta na la ba (skp t p) o tc) → (∀ z, xup h1 r z = xup h r z) → XW l G M_Reader_skipBlanks (d + 1) 0 [some (.ref r)] [] h1 c n (fun v h' c' n' => v = none ∧ h' = xup h r (rdO ta na la ba (skp t p) o tc) ∧ c' = c ∧ n' = n) := by
    intro k
    induction k with
    | zero =>
      intro p h1 hp hr hS _ hu
      obtain ⟨va, ee, ha, -⟩ := id hS
      refine x_aload_n d_Reader_skipBlanks_0 rfl rfl ?_
      refine x_get xf_Reader_25_Reader (Or.inl hr) rfl d_Reader_skipBlanks_1 ?_
      refine x_aload_n d_Reader_skipBlanks_4 rfl rfl ?_
      refine x_get xf_Reader_35_Reader (Or.inl hr) rfl d_Reader_skipBlanks_5 ?_
      refine x_callV (As := []) (k := k_String) rfl xcv_Reader_52_String ha (c_String_length (by omega) hS) rfl rfl (Nat.le_of_ble_eq_true rfl) d_Reader_skipBlanks_8 ?_
      rintro v h' c' n' ⟨rfl, rfl, rfl, rfl⟩
      refine x_icmp_ge (tgt := 43) d_Reader_skipBlanks_11 (by decide) (fun _ => ?_) (fun hn => absurd (nI_le (by omega) (by omega)) hn)
      refine x_vret d_Reader_skipBlanks_43 rfl ?_
      refine ⟨rfl, ?_, rfl, rfl⟩
      rw [show skp t p = p from scn_end (by omega), ← hu, xup_id hr]
    | succ k ih =>
      intro p h1 hp hr hS _ hu
      obtain ⟨va, ee, ha, -⟩ := id hS
      have hpl : p < t.length := by omega
      refine x_aload_n d_Reader_skipBlanks_0 rfl rfl ?_
      refine x_get xf_Reader_25_Reader (Or.inl hr) rfl d_Reader_skipBlanks_1 ?_
      refine x_aload_n d_Reader_skipBlanks_4 rfl rfl ?_
      refine x_get xf_Reader_35_Reader (Or.inl hr) rfl d_Reader_skipBlanks_5 ?_
      refine x_callV (As := []) (k := k_String) rfl xcv_Reader_52_String ha (c_String_length (by omega) hS) rfl rfl (Nat.le_of_ble_eq_true rfl) d_Reader_skipBlanks_8 ?_
      rintro v h' c' n' ⟨rfl, rfl, rfl, rfl⟩
      refine x_icmp_ge (tgt := 43) d_Reader_skipBlanks_11 (by decide) (fun ht => absurd ht (nI_ge (by omega) (by omega))) (fun _ => ?_)
      refine x_aload_n d_Reader_skipBlanks_14 rfl rfl ?_
      refine x_get xf_Reader_35_Reader (Or.inl hr) rfl d_Reader_skipBlanks_15 ?_
      refine x_aload_n d_Reader_skipBlanks_18 rfl rfl ?_
      refine x_get xf_Reader_25_Reader (Or.inl hr) rfl d_Reader_skipBlanks_19 ?_
      refine x_callV (As := [_]) (k := k_String) rfl xcv_Reader_178_String ha (c_String_charAt hG (by omega) hS hpl (by omega)) rfl rfl (Nat.le_of_ble_eq_true rfl) d_Reader_skipBlanks_22 ?_
      rintro v h' c' n' ⟨rfl, rfl, rfl, rfl⟩
      refine x_bipush (v := 32) d_Reader_skipBlanks_25 (by decide) ?_
      have hch := hS.asc t[p] (List.getElem_mem hpl)
      by_cases hb : t[p] = 32
      · refine x_icmp_ne (tgt := 43) d_Reader_skipBlanks_27 (by decide) (fun ht => absurd (by rw [hb]; rfl) ht) (fun _ => ?_)
        refine x_aload_n d_Reader_skipBlanks_30 rfl rfl ?_
        refine x_dup d_Reader_skipBlanks_31 rfl ?_
        refine x_get xf_Reader_25_Reader (Or.inl hr) rfl d_Reader_skipBlanks_32 ?_
        refine x_iconst (v := 1) d_Reader_skipBlanks_35 (by decide) ?_
        refine x_iadd d_Reader_skipBlanks_36 ?_
        refine x_top (w := .int (nI (p + 1))) (by rw [show (1 : Int32) = nI 1 from rfl, nI_add]) ?_
        refine x_put xf_Reader_25_Reader xp_Reader_4 rfl rfl hr rfl rfl d_Reader_skipBlanks_37 ?_
        refine x_goto (tgt := 0) d_Reader_skipBlanks_40 (by decide) ?_
        rw [show skp t p = skp t (p + 1) from scn_step hpl (by simp [qB, hb])]
        exact ih (p + 1) _ (by omega) xup_self (hS.upR hr (by decide)) (by rw [xup_up, hu]) (fun z => by rw [xup_up, hu])
      · refine x_icmp_ne (tgt := 43) d_Reader_skipBlanks_27 (by decide) (fun _ => ?_) (fun hn => absurd hn (fun z => hb ((nI_eq (b := 32) (by omega) (by omega)).mp z)))
        refine x_vret d_Reader_skipBlanks_43 rfl ?_
        refine ⟨rfl, ?_, rfl, rfl⟩
        rw [show skp t p = p from scn_stop hpl (by simp [qB, hb]), ← hu, xup_id hr]
  exact lp (t.length - p) p h (by omega) hr hS rfl (fun _ => rfl)
theorem c_characterHere (hG : xGk G) (hd : 4 ≤ d) {r ta na la ba p o tc : Nat} {t : List Nat} (hr : h r = some (rdO ta na la ba p o tc)) (hS : isS G h ta t) (hl : t.length < 2 ^ 20) (hp : p ≤ t.length) : XM l G d M_Reader_characterHere [.ref r] h c n (xSame (.int (nI (chr t p))) h c n) := by
  obtain ⟨d, rfl⟩ : ∃ q, d = q + 1 := ⟨d - 1, by omega⟩
  obtain ⟨va, ee, ha, -⟩ := id hS
  refine XM.of (by decide +kernel) (Nat.le_of_ble_eq_true rfl) ?_
  refine x_aload_n d_Reader_characterHere_0 rfl rfl ?_
  refine x_get xf_Reader_25_Reader (Or.inl hr) rfl d_Reader_characterHere_1 ?_
  refine x_aload_n d_Reader_characterHere_4 rfl rfl ?_
  refine x_get xf_Reader_35_Reader (Or.inl hr) rfl d_Reader_characterHere_5 ?_
  refine x_callV (As := []) (k := k_String) rfl xcv_Reader_52_String ha (c_String_length (by omega) hS) rfl rfl (Nat.le_of_ble_eq_true rfl) d_Reader_characterHere_8 ?_
  rintro v h' c' n' ⟨rfl, rfl, rfl, rfl⟩
  by_cases hpl : p < t.length
  · have hch := hS.asc t[p] (List.getElem_mem hpl)
    refine x_icmp_ge (tgt := 28) d_Reader_characterHere_11 (by decide) (fun ht => absurd ht (nI_ge (by omega) (by omega))) (fun _ => ?_)
    refine x_aload_n d_Reader_characterHere_14 rfl rfl ?_
    refine x_get xf_Reader_35_Reader (Or.inl hr) rfl d_Reader_characterHere_15 ?_
    refine x_aload_n d_Reader_characterHere_18 rfl rfl ?_
    refine x_get xf_Reader_25_Reader (Or.inl hr) rfl d_Reader_characterHere_19 ?_
    refine x_callV (As := [_]) (k := k_String) rfl xcv_Reader_178_String ha (c_String_charAt hG (by omega) hS hpl (by omega)) rfl rfl (Nat.le_of_ble_eq_true rfl) d_Reader_characterHere_22 ?_
    rintro v h' c' n' ⟨rfl, rfl, rfl, rfl⟩
    refine x_goto (tgt := 29) d_Reader_characterHere_25 (by decide) ?_
    refine x_zret d_Reader_characterHere_29 rfl (xchr (by omega)) ?_
    exact ⟨by rw [chr_in hpl], rfl, rfl, rfl⟩
  · refine x_icmp_ge (tgt := 28) d_Reader_characterHere_11 (by decide) (fun _ => ?_) (fun hn => absurd (nI_le (by omega) (by omega)) hn)
    refine x_iconst (v := 0) d_Reader_characterHere_28 (by decide) ?_
    refine x_zret d_Reader_characterHere_29 rfl rfl ?_
    exact ⟨by rw [chr_out (by omega)]; rfl, rfl, rfl, rfl⟩
theorem c_wordHere (hG : xGk G) (hd : 5 ≤ d) {r ta na la ba p o tc : Nat} {t : List Nat} (hr : h r = some (rdO ta na la ba p o tc)) (hS : isS G h ta t) (hl : t.length < 2 ^ 20) (hp : p ≤ t.length) (hc : c + 2 ≤ xCB) (hn : n + t.length + 4 ≤ xSB) : XM l G d M_Reader_wordHere [.ref r] h c n (pS G (wrd t p) h c n) := by
  obtain ⟨d, rfl⟩ : ∃ q, d = q + 1 := ⟨d - 1, by omega⟩
  obtain ⟨va, ee, ha, -⟩ := id hS
  refine XM.of (by decide +kernel) (Nat.le_of_ble_eq_true rfl) ?_
  have he := scn_le (q := qL) hp
  have hge := scn_ge (q := qL) (t := t) (p := p)
  have at36 : XW l G M_Reader_wordHere (d + 1) 36 [some (.ref r), some (.int (nI (scn qL t p)))] [] h c n (pS G (wrd t p) h c n) := by
    refine x_aload_n d_Reader_wordHere_36 rfl rfl ?_
    refine x_get xf_Reader_35_Reader (Or.inl hr) rfl d_Reader_wordHere_37 ?_
    refine x_aload_n d_Reader_wordHere_40 rfl rfl ?_
    refine x_get xf_Reader_25_Reader (Or.inl hr) rfl d_Reader_wordHere_41 ?_
    refine x_iload_n d_Reader_wordHere_44 rfl ?_
    refine x_callV (As := [_, _]) (k := k_String) rfl xcv_Reader_186_String ha (c_substring hG (by omega) hS hge he hl hc (by omega)) rfl rfl (Nat.le_of_ble_eq_true rfl) d_Reader_wordHere_45 ?_
    rintro v h' c' n' ⟨q, rfl, g1, g2, g3, g4⟩
    rw [scn_cut] at g1 g4
    refine x_aret d_Reader_wordHere_48 rfl rfl ?_
    exact ⟨q, rfl, g1, g2, g3, g4⟩
  have lp : ∀ (k e : Nat), e + k = t.length → scn qL t e = scn qL t p → XW l G M_Reader_wordHere (d + 1) 5 [some (.ref r), some (.int (nI e))] [] h c n (pS G (wrd t p) h c n) := by
    intro k
    induction k with
    | zero =>
      intro e hk hse
      rw [scn_end (by omega)] at hse
      subst hse
      refine x_iload_n d_Reader_wordHere_5 rfl ?_
      refine x_aload_n d_Reader_wordHere_6 rfl rfl ?_
      refine x_get xf_Reader_35_Reader (Or.inl hr) rfl d_Reader_wordHere_7 ?_
      refine x_callV (As := []) (k := k_String) rfl xcv_Reader_52_String ha (c_String_length (by omega) hS) rfl rfl (Nat.le_of_ble_eq_true rfl) d_Reader_wordHere_10 ?_
      rintro v h' c' n' ⟨rfl, rfl, rfl, rfl⟩
      refine x_icmp_ge (tgt := 36) d_Reader_wordHere_13 (by decide) (fun _ => ?_) (fun hn => absurd (nI_le (by omega) (by omega)) hn)
      exact at36
    | succ k ih =>
      intro e hk hse
      have hel : e < t.length := by omega
      have hch := hS.asc t[e] (List.getElem_mem hel)
      refine x_iload_n d_Reader_wordHere_5 rfl ?_
      refine x_aload_n d_Reader_wordHere_6 rfl rfl ?_
      refine x_get xf_Reader_35_Reader (Or.inl hr) rfl d_Reader_wordHere_7 ?_
      refine x_callV (As := []) (k := k_String) rfl xcv_Reader_52_String ha (c_String_length (by omega) hS) rfl rfl (Nat.le_of_ble_eq_true rfl) d_Reader_wordHere_10 ?_
      rintro v h' c' n' ⟨rfl, rfl, rfl, rfl⟩
      refine x_icmp_ge (tgt := 36) d_Reader_wordHere_13 (by decide) (fun ht => absurd ht (nI_ge (by omega) (by omega))) (fun _ => ?_)
      refine x_aload_n d_Reader_wordHere_16 rfl rfl ?_
      refine x_get xf_Reader_35_Reader (Or.inl hr) rfl d_Reader_wordHere_17 ?_
      refine x_iload_n d_Reader_wordHere_20 rfl ?_
      refine x_callV (As := [_]) (k := k_String) rfl xcv_Reader_178_String ha (c_String_charAt hG (by omega) hS hel (by omega)) rfl rfl (Nat.le_of_ble_eq_true rfl) d_Reader_wordHere_21 ?_
      rintro v h' c' n' ⟨rfl, rfl, rfl, rfl⟩
      refine x_callS (As := [_]) xcs_Reader_190 (c_isLetter hch) rfl rfl (Nat.le_of_ble_eq_true rfl) d_Reader_wordHere_24 ?_
      rintro v h' c' n' ⟨rfl, rfl, rfl, rfl⟩
      by_cases hL : isLt t[e]
      · refine x_if_eq (tgt := 36) d_Reader_wordHere_27 (by decide) (fun ht => absurd ht (by rw [if_pos hL]; decide)) (fun _ => ?_)
        refine x_iinc (v := nI (e + 1)) (L' := [_, _]) d_Reader_wordHere_30 rfl (by exact xw_iinc1) rfl rfl ?_
        refine x_goto (tgt := 5) d_Reader_wordHere_33 (by decide) ?_
        exact ih (e + 1) (by omega) (by rw [← scn_step hel (decide_eq_true hL)]; exact hse)
      · rw [scn_stop hel (decide_eq_false hL)] at hse
        refine x_if_eq (tgt := 36) d_Reader_wordHere_27 (by decide) (fun _ => ?_) (fun hn => absurd (by rw [if_neg hL]) hn)
        rw [hse]
        exact at36
  refine x_aload_n d_Reader_wordHere_0 rfl rfl ?_
  refine x_get xf_Reader_25_Reader (Or.inl hr) rfl d_Reader_wordHere_1 ?_
  refine x_istore_n (L' := [_, _]) d_Reader_wordHere_4 rfl rfl ?_
  exact lp (t.length - p) p (by omega) rfl
end RD1
end
section
section
abbrev y_Choices_init : MethodName := ⟨"MarkerText$Choices", "<init>", "()V"⟩
abbrev M_Choices_init : XMt := (y_Choices_init, prog_2_method_1_code, 1, none)
theorem d_Choices_init_0 : decode M_Choices_init.2.1 0 = .ok (.aload_n 0, 1) := by decide +kernel
theorem d_Choices_init_1 : decode M_Choices_init.2.1 1 = .ok (.invokespecial 3, 3) := by decide +kernel
theorem xw_84 : (Jvm.Cond.methodLink "MarkerText$Choices" (3 : Nat) ({ cls := "java/lang/Object", name := "<init>", desc := "()V" } : Jvm.MethodName)) ∈ xT := xT_at 84 (by decide +kernel) (by decide +kernel)
theorem d_Choices_init_4 : decode M_Choices_init.2.1 4 = .ok (.aload_n 0, 1) := by decide +kernel
theorem d_Choices_init_5 : decode M_Choices_init.2.1 5 = .ok (.sipush 356, 3) := by decide +kernel
theorem d_Choices_init_8 : decode M_Choices_init.2.1 8 = .ok (.newarray .long, 2) := by decide +kernel
theorem d_Choices_init_10 : decode M_Choices_init.2.1 10 = .ok (.putfield 11, 3) := by decide +kernel
theorem xw_85 : (Jvm.Cond.fieldLink "MarkerText$Choices" (11 : Nat) "MarkerText$Choices" "values" "[J") ∈ xT := xT_at 85 (by decide +kernel) (by decide +kernel)
theorem xf_Choices_11_Choices : xF "MarkerText$Choices" 11 k_Choices 0 := ⟨_, _, _, "MarkerText$Choices", rfl, by decide, Or.inl xw_85, Or.inl rfl⟩
theorem xp_Choices_0 : xP k_Choices 0 true (.array .long) := ⟨_, _, _, rfl, rfl, by decide +kernel⟩
theorem d_Choices_init_13 : decode M_Choices_init.2.1 13 = .ok (.aload_n 0, 1) := by decide +kernel
theorem d_Choices_init_14 : decode M_Choices_init.2.1 14 = .ok (.iconst 0, 1) := by decide +kernel
theorem d_Choices_init_15 : decode M_Choices_init.2.1 15 = .ok (.putfield 15, 3) := by decide +kernel
theorem xw_86 : (Jvm.Cond.fieldLink "MarkerText$Choices" (15 : Nat) "MarkerText$Choices" "used" "I") ∈ xT := xT_at 86 (by decide +kernel) (by decide +kernel)
theorem xf_Choices_15_Choices : xF "MarkerText$Choices" 15 k_Choices 1 := ⟨_, _, _, "MarkerText$Choices", rfl, by decide, Or.inl xw_86, Or.inl rfl⟩
theorem xp_Choices_1 : xP k_Choices 1 false .int := ⟨_, _, _, rfl, rfl, by decide +kernel⟩
theorem d_Choices_init_18 : decode M_Choices_init.2.1 18 = .ok (.aload_n 0, 1) := by decide +kernel
theorem d_Choices_init_19 : decode M_Choices_init.2.1 19 = .ok (.bipush 6, 2) := by decide +kernel
theorem d_Choices_init_21 : decode M_Choices_init.2.1 21 = .ok (.newarray .int, 2) := by decide +kernel
theorem xw_111 : (Jvm.Cond.arrayClass Jvm.ClassFile.FieldType.int) ∈ xT := xT_at 111 (by decide +kernel) (by decide +kernel)
theorem d_Choices_init_23 : decode M_Choices_init.2.1 23 = .ok (.putfield 19, 3) := by decide +kernel
theorem xw_87 : (Jvm.Cond.fieldLink "MarkerText$Choices" (19 : Nat) "MarkerText$Choices" "starts" "[I") ∈ xT := xT_at 87 (by decide +kernel) (by decide +kernel)
theorem xf_Choices_19_Choices : xF "MarkerText$Choices" 19 k_Choices 2 := ⟨_, _, _, "MarkerText$Choices", rfl, by decide, Or.inl xw_87, Or.inl rfl⟩
theorem xp_Choices_2 : xP k_Choices 2 true (.array .int) := ⟨_, _, _, rfl, rfl, by decide +kernel⟩
theorem d_Choices_init_26 : decode M_Choices_init.2.1 26 = .ok (.aload_n 0, 1) := by decide +kernel
theorem d_Choices_init_27 : decode M_Choices_init.2.1 27 = .ok (.bipush 6, 2) := by decide +kernel
theorem d_Choices_init_29 : decode M_Choices_init.2.1 29 = .ok (.newarray .int, 2) := by decide +kernel
theorem d_Choices_init_31 : decode M_Choices_init.2.1 31 = .ok (.putfield 23, 3) := by decide +kernel
theorem xw_88 : (Jvm.Cond.fieldLink "MarkerText$Choices" (23 : Nat) "MarkerText$Choices" "samples" "[I") ∈ xT := xT_at 88 (by decide +kernel) (by decide +kernel)
theorem xf_Choices_23_Choices : xF "MarkerText$Choices" 23 k_Choices 3 := ⟨_, _, _, "MarkerText$Choices", rfl, by decide, Or.inl xw_88, Or.inl rfl⟩
theorem xp_Choices_3 : xP k_Choices 3 true (.array .int) := ⟨_, _, _, rfl, rfl, by decide +kernel⟩
theorem d_Choices_init_34 : decode M_Choices_init.2.1 34 = .ok (.aload_n 0, 1) := by decide +kernel
theorem d_Choices_init_35 : decode M_Choices_init.2.1 35 = .ok (.bipush 6, 2) := by decide +kernel
theorem d_Choices_init_37 : decode M_Choices_init.2.1 37 = .ok (.newarray .int, 2) := by decide +kernel
theorem d_Choices_init_39 : decode M_Choices_init.2.1 39 = .ok (.putfield 26, 3) := by decide +kernel
theorem xw_90 : (Jvm.Cond.fieldLink "MarkerText$Choices" (26 : Nat) "MarkerText$Choices" "picks" "[I") ∈ xT := xT_at 90 (by decide +kernel) (by decide +kernel)
theorem xf_Choices_26_Choices : xF "MarkerText$Choices" 26 k_Choices 4 := ⟨_, _, _, "MarkerText$Choices", rfl, by decide, Or.inl xw_90, Or.inl rfl⟩
theorem xp_Choices_4 : xP k_Choices 4 true (.array .int) := ⟨_, _, _, rfl, rfl, by decide +kernel⟩
theorem d_Choices_init_42 : decode M_Choices_init.2.1 42 = .ok (.aload_n 0, 1) := by decide +kernel
theorem d_Choices_init_43 : decode M_Choices_init.2.1 43 = .ok (.bipush 6, 2) := by decide +kernel
theorem d_Choices_init_45 : decode M_Choices_init.2.1 45 = .ok (.newarray .long, 2) := by decide +kernel
theorem d_Choices_init_47 : decode M_Choices_init.2.1 47 = .ok (.putfield 29, 3) := by decide +kernel
theorem xw_91 : (Jvm.Cond.fieldLink "MarkerText$Choices" (29 : Nat) "MarkerText$Choices" "levels" "[J") ∈ xT := xT_at 91 (by decide +kernel) (by decide +kernel)
theorem xf_Choices_29_Choices : xF "MarkerText$Choices" 29 k_Choices 5 := ⟨_, _, _, "MarkerText$Choices", rfl, by decide, Or.inl xw_91, Or.inl rfl⟩
theorem xp_Choices_5 : xP k_Choices 5 true (.array .long) := ⟨_, _, _, rfl, rfl, by decide +kernel⟩
theorem d_Choices_init_50 : decode M_Choices_init.2.1 50 = .ok (.aload_n 0, 1) := by decide +kernel
theorem d_Choices_init_51 : decode M_Choices_init.2.1 51 = .ok (.iconst 0, 1) := by decide +kernel
theorem d_Choices_init_52 : decode M_Choices_init.2.1 52 = .ok (.putfield 32, 3) := by decide +kernel
theorem xw_92 : (Jvm.Cond.fieldLink "MarkerText$Choices" (32 : Nat) "MarkerText$Choices" "count" "I") ∈ xT := xT_at 92 (by decide +kernel) (by decide +kernel)
theorem xf_Choices_32_Choices : xF "MarkerText$Choices" 32 k_Choices 6 := ⟨_, _, _, "MarkerText$Choices", rfl, by decide, Or.inl xw_92, Or.inl rfl⟩
theorem xp_Choices_6 : xP k_Choices 6 false .int := ⟨_, _, _, rfl, rfl, by decide +kernel⟩
theorem d_Choices_init_55 : decode M_Choices_init.2.1 55 = .ok (.return_, 1) := by decide +kernel
abbrev y_Parting_init : MethodName := ⟨"MarkerText$Parting", "<init>", "()V"⟩
abbrev M_Parting_init : XMt := (y_Parting_init, prog_9_method_1_code, 1, none)
theorem d_Parting_init_0 : decode M_Parting_init.2.1 0 = .ok (.aload_n 0, 1) := by decide +kernel
theorem d_Parting_init_1 : decode M_Parting_init.2.1 1 = .ok (.invokespecial 3, 3) := by decide +kernel
theorem xw_117 : (Jvm.Cond.methodLink "MarkerText$Parting" (3 : Nat) ({ cls := "java/lang/Object", name := "<init>", desc := "()V" } : Jvm.MethodName)) ∈ xT := xT_at 117 (by decide +kernel) (by decide +kernel)
theorem d_Parting_init_4 : decode M_Parting_init.2.1 4 = .ok (.aload_n 0, 1) := by decide +kernel
theorem d_Parting_init_5 : decode M_Parting_init.2.1 5 = .ok (.iconst 0, 1) := by decide +kernel
theorem d_Parting_init_6 : decode M_Parting_init.2.1 6 = .ok (.putfield 9, 3) := by decide +kernel
theorem xw_118 : (Jvm.Cond.fieldLink "MarkerText$Parting" (9 : Nat) "MarkerText$Parting" "count" "I") ∈ xT := xT_at 118 (by decide +kernel) (by decide +kernel)
theorem xf_Parting_9_Parting : xF "MarkerText$Parting" 9 k_Parting 0 := ⟨_, _, _, "MarkerText$Parting", rfl, by decide, Or.inl xw_118, Or.inl rfl⟩
theorem xp_Parting_0 : xP k_Parting 0 false .int := ⟨_, _, _, rfl, rfl, by decide +kernel⟩
theorem d_Parting_init_9 : decode M_Parting_init.2.1 9 = .ok (.aload_n 0, 1) := by decide +kernel
theorem d_Parting_init_10 : decode M_Parting_init.2.1 10 = .ok (.sipush 256, 3) := by decide +kernel
theorem d_Parting_init_13 : decode M_Parting_init.2.1 13 = .ok (.newarray .int, 2) := by decide +kernel
theorem d_Parting_init_15 : decode M_Parting_init.2.1 15 = .ok (.putfield 15, 3) := by decide +kernel
theorem xw_120 : (Jvm.Cond.fieldLink "MarkerText$Parting" (15 : Nat) "MarkerText$Parting" "truths" "[I") ∈ xT := xT_at 120 (by decide +kernel) (by decide +kernel)
theorem xf_Parting_15_Parting : xF "MarkerText$Parting" 15 k_Parting 1 := ⟨_, _, _, "MarkerText$Parting", rfl, by decide, Or.inl xw_120, Or.inl rfl⟩
theorem xp_Parting_1 : xP k_Parting 1 true (.array .int) := ⟨_, _, _, rfl, rfl, by decide +kernel⟩
theorem d_Parting_init_18 : decode M_Parting_init.2.1 18 = .ok (.aload_n 0, 1) := by decide +kernel
theorem d_Parting_init_19 : decode M_Parting_init.2.1 19 = .ok (.sipush 256, 3) := by decide +kernel
theorem d_Parting_init_22 : decode M_Parting_init.2.1 22 = .ok (.newarray .int, 2) := by decide +kernel
theorem d_Parting_init_24 : decode M_Parting_init.2.1 24 = .ok (.putfield 19, 3) := by decide +kernel
theorem xw_122 : (Jvm.Cond.fieldLink "MarkerText$Parting" (19 : Nat) "MarkerText$Parting" "sizes" "[I") ∈ xT := xT_at 122 (by decide +kernel) (by decide +kernel)
theorem xf_Parting_19_Parting : xF "MarkerText$Parting" 19 k_Parting 2 := ⟨_, _, _, "MarkerText$Parting", rfl, by decide, Or.inl xw_122, Or.inl rfl⟩
theorem xp_Parting_2 : xP k_Parting 2 true (.array .int) := ⟨_, _, _, rfl, rfl, by decide +kernel⟩
theorem d_Parting_init_27 : decode M_Parting_init.2.1 27 = .ok (.aload_n 0, 1) := by decide +kernel
theorem d_Parting_init_28 : decode M_Parting_init.2.1 28 = .ok (.sipush 256, 3) := by decide +kernel
theorem d_Parting_init_31 : decode M_Parting_init.2.1 31 = .ok (.newarray .int, 2) := by decide +kernel
theorem d_Parting_init_33 : decode M_Parting_init.2.1 33 = .ok (.putfield 22, 3) := by decide +kernel
theorem xw_124 : (Jvm.Cond.fieldLink "MarkerText$Parting" (22 : Nat) "MarkerText$Parting" "firsts" "[I") ∈ xT := xT_at 124 (by decide +kernel) (by decide +kernel)
theorem xf_Parting_22_Parting : xF "MarkerText$Parting" 22 k_Parting 3 := ⟨_, _, _, "MarkerText$Parting", rfl, by decide, Or.inl xw_124, Or.inl rfl⟩
theorem xp_Parting_3 : xP k_Parting 3 true (.array .int) := ⟨_, _, _, rfl, rfl, by decide +kernel⟩
theorem d_Parting_init_36 : decode M_Parting_init.2.1 36 = .ok (.aload_n 0, 1) := by decide +kernel
theorem d_Parting_init_37 : decode M_Parting_init.2.1 37 = .ok (.sipush 256, 3) := by decide +kernel
theorem d_Parting_init_40 : decode M_Parting_init.2.1 40 = .ok (.newarray .int, 2) := by decide +kernel
theorem d_Parting_init_42 : decode M_Parting_init.2.1 42 = .ok (.putfield 25, 3) := by decide +kernel
theorem xw_125 : (Jvm.Cond.fieldLink "MarkerText$Parting" (25 : Nat) "MarkerText$Parting" "classOfTruths" "[I") ∈ xT := xT_at 125 (by decide +kernel) (by decide +kernel)
theorem xf_Parting_25_Parting : xF "MarkerText$Parting" 25 k_Parting 4 := ⟨_, _, _, "MarkerText$Parting", rfl, by decide, Or.inl xw_125, Or.inl rfl⟩
theorem xp_Parting_4 : xP k_Parting 4 true (.array .int) := ⟨_, _, _, rfl, rfl, by decide +kernel⟩
theorem d_Parting_init_45 : decode M_Parting_init.2.1 45 = .ok (.aload_n 0, 1) := by decide +kernel
theorem d_Parting_init_46 : decode M_Parting_init.2.1 46 = .ok (.bipush 6, 2) := by decide +kernel
theorem d_Parting_init_48 : decode M_Parting_init.2.1 48 = .ok (.newarray .int, 2) := by decide +kernel
theorem d_Parting_init_50 : decode M_Parting_init.2.1 50 = .ok (.putfield 28, 3) := by decide +kernel
theorem xw_126 : (Jvm.Cond.fieldLink "MarkerText$Parting" (28 : Nat) "MarkerText$Parting" "samples" "[I") ∈ xT := xT_at 126 (by decide +kernel) (by decide +kernel)
theorem xf_Parting_28_Parting : xF "MarkerText$Parting" 28 k_Parting 5 := ⟨_, _, _, "MarkerText$Parting", rfl, by decide, Or.inl xw_126, Or.inl rfl⟩
theorem xp_Parting_5 : xP k_Parting 5 true (.array .int) := ⟨_, _, _, rfl, rfl, by decide +kernel⟩
theorem d_Parting_init_53 : decode M_Parting_init.2.1 53 = .ok (.return_, 1) := by decide +kernel
end
section CH1
variable {l : Launch} {G : XG} {h : XH} {c n d : Nat}
/-- go on with what is known of the heap alone -/
theorem x_any {M : XMt} {pc : Nat} {L : List (Option Value)} {st : List Value} {Q : XPo} {R : XH → Prop} (hR : R h) (k : ∀ h2, R h2 → XX l G M d pc L st h2 c n Q) : XX l G M d pc L st h c n Q := k h hR
/-- Choices as they are made -/
def ch0 (h : XH) (o : Nat) : Prop := ∃ cv cs ca cp cl : Nat, h o = some (k_Choices, [.ref cv, .int 0, .ref cs, .ref ca, .ref cp, .ref cl, .int 0]) ∧ h cv = some (k_achv, List.replicate 356 (.long 0)) ∧ h cs = some (k_astarts, List.replicate 6 (.int 0)) ∧ h ca = some (k_asamples, List.replicate 6 (.int 0)) ∧ h cp = some (k_apicks, List.replicate 6 (.int 0)) ∧ h cl = some (k_achl, List.replicate 6 (.long 0))
theorem c_Choices_init (hd : 1 ≤ d) {o : Nat} (ho : h o = some (k_Choices, [.null, .int 0, .null, .null, .null, .null, .int 0])) (hc : c + 5 ≤ xCB) (hn : n + 380 ≤ xSB) : XM l G d M_Choices_init [.ref o] h c n (fun v h' c' n' => v = none ∧ ch0 h' o ∧ xfr h h' [o] ∧ c' = c + 5 ∧ n' = n + 380) := by
  obtain ⟨d, rfl⟩ : ∃ q, d = q + 1 := ⟨d - 1, by omega⟩
  refine XM.of (by decide +kernel) (Nat.le_of_ble_eq_true rfl) ?_
  refine x_aload_n d_Choices_init_0 rfl rfl ?_
  refine x_objInit xw_84 xw_40 xw_41 (Nat.le_of_ble_eq_true rfl) d_Choices_init_1 ?_
  have f0 : xfr h h [o] := xfr.rf
  refine x_aload_n d_Choices_init_4 rfl rfl ?_
  refine x_sipush (v := 356) d_Choices_init_5 (by decide) ?_
  refine x_newa (k := k_achv) rfl rfl (fun _ hz => by cases hz) xw_110 (by decide) (by decide : Int32.toNatClampNeg 356 = 356) (by decide) (by omega) (by omega) d_Choices_init_8 (fun cv hn_cv hk_cv => ?_)
  have n_cv : o ≠ cv := xneN ho hn_cv
  refine x_putF xf_Choices_11_Choices xp_Choices_0 ⟨_, _, _, rfl, rfl, xw_85⟩ rfl rfl rfl (xup_old ho hn_cv) rfl rfl d_Choices_init_10 ?_
  refine x_any (R := fun h2 => h2 o = some (k_Choices, [.ref cv, .int 0, .null, .null, .null, .null, .int 0]) ∧ h2 cv = some (k_achv, List.replicate 356 (.long 0)) ∧ xfr h h2 [o]) ⟨(xup_self), (by rw [xup_ne (Ne.symm n_cv), xup_self]; rfl), ((f0.up (Or.inr (f0.2 _ hn_cv))).up (Or.inl (by simp)))⟩ (fun h1 ⟨ho_1, cv_1, f_1⟩ => ?_)
  refine x_aload_n d_Choices_init_13 rfl rfl ?_
  refine x_iconst (v := 0) d_Choices_init_14 (by decide) ?_
  refine x_put xf_Choices_15_Choices xp_Choices_1 rfl rfl ho_1 rfl rfl d_Choices_init_15 ?_
  refine x_any (R := fun h2 => h2 o = some (k_Choices, [.ref cv, .int 0, .null, .null, .null, .null, .int 0]) ∧ h2 cv = some (k_achv, List.replicate 356 (.long 0)) ∧ xfr h h2 [o]) ⟨(xup_self), (by rw [xup_ne (xne cv_1 ho_1 (by decide))]; exact cv_1), (f_1.up (Or.inl (by simp)))⟩ (fun h2 ⟨ho_2, cv_2, f_2⟩ => ?_)
  refine x_aload_n d_Choices_init_18 rfl rfl ?_
  refine x_bipush (v := 6) d_Choices_init_19 (by decide) ?_
  refine x_newa (k := k_astarts) rfl rfl (fun _ hz => by cases hz) xw_111 (by decide) (by decide : Int32.toNatClampNeg 6 = 6) (by decide) (by omega) (by omega) d_Choices_init_21 (fun cs hn_cs hk_cs => ?_)
  have n_cs : o ≠ cs := xneN ho_2 hn_cs
  refine x_putF xf_Choices_19_Choices xp_Choices_2 ⟨_, _, _, rfl, rfl, xw_87⟩ rfl rfl rfl (xup_old ho_2 hn_cs) rfl rfl d_Choices_init_23 ?_
  refine x_any (R := fun h2 => h2 o = some (k_Choices, [.ref cv, .int 0, .ref cs, .null, .null, .null, .int 0]) ∧ h2 cv = some (k_achv, List.replicate 356 (.long 0)) ∧ h2 cs = some (k_astarts, List.replicate 6 (.int 0)) ∧ xfr h h2 [o]) ⟨(xup_self), (by rw [xup_ne (xne cv_2 ho_2 (by decide))]; exact xup_old cv_2 hn_cs), (by rw [xup_ne (Ne.symm n_cs), xup_self]; rfl), ((f_2.up (Or.inr (f_2.2 _ hn_cs))).up (Or.inl (by simp)))⟩ (fun h3 ⟨ho_3, cv_3, cs_3, f_3⟩ => ?_)
  refine x_aload_n d_Choices_init_26 rfl rfl ?_
  refine x_bipush (v := 6) d_Choices_init_27 (by decide) ?_
  refine x_newa (k := k_asamples) rfl rfl (fun _ hz => by cases hz) xw_111 (by decide) (by decide : Int32.toNatClampNeg 6 = 6) (by decide) (by omega) (by omega) d_Choices_init_29 (fun ca hn_ca hk_ca => ?_)
  have n_ca : o ≠ ca := xneN ho_3 hn_ca
  refine x_putF xf_Choices_23_Choices xp_Choices_3 ⟨_, _, _, rfl, rfl, xw_88⟩ rfl rfl rfl (xup_old ho_3 hn_ca) rfl rfl d_Choices_init_31 ?_
  refine x_any (R := fun h2 => h2 o = some (k_Choices, [.ref cv, .int 0, .ref cs, .ref ca, .null, .null, .int 0]) ∧ h2 cv = some (k_achv, List.replicate 356 (.long 0)) ∧ h2 cs = some (k_astarts, List.replicate 6 (.int 0)) ∧ h2 ca = some (k_asamples, List.replicate 6 (.int 0)) ∧ xfr h h2 [o]) ⟨(xup_self), (by rw [xup_ne (xne cv_3 ho_3 (by decide))]; exact xup_old cv_3 hn_ca), (by rw [xup_ne (xne cs_3 ho_3 (by decide))]; exact xup_old cs_3 hn_ca), (by rw [xup_ne (Ne.symm n_ca), xup_self]; rfl), ((f_3.up (Or.inr (f_3.2 _ hn_ca))).up (Or.inl (by simp)))⟩ (fun h4 ⟨ho_4, cv_4, cs_4, ca_4, f_4⟩ => ?_)
  refine x_aload_n d_Choices_init_34 rfl rfl ?_
  refine x_bipush (v := 6) d_Choices_init_35 (by decide) ?_
  refine x_newa (k := k_apicks) rfl rfl (fun _ hz => by cases hz) xw_111 (by decide) (by decide : Int32.toNatClampNeg 6 = 6) (by decide) (by omega) (by omega) d_Choices_init_37 (fun cp hn_cp hk_cp => ?_)
  have n_cp : o ≠ cp := xneN ho_4 hn_cp
  refine x_putF xf_Choices_26_Choices xp_Choices_4 ⟨_, _, _, rfl, rfl, xw_90⟩ rfl rfl rfl (xup_old ho_4 hn_cp) rfl rfl d_Choices_init_39 ?_
  refine x_any (R := fun h2 => h2 o = some (k_Choices, [.ref cv, .int 0, .ref cs, .ref ca, .ref cp, .null, .int 0]) ∧ h2 cv = some (k_achv, List.replicate 356 (.long 0)) ∧ h2 cs = some (k_astarts, List.replicate 6 (.int 0)) ∧ h2 ca = some (k_asamples, List.replicate 6 (.int 0)) ∧ h2 cp = some (k_apicks, List.replicate 6 (.int 0)) ∧ xfr h h2 [o]) ⟨(xup_self), (by rw [xup_ne (xne cv_4 ho_4 (by decide))]; exact xup_old cv_4 hn_cp), (by rw [xup_ne (xne cs_4 ho_4 (by decide))]; exact xup_old cs_4 hn_cp), (by rw [xup_ne (xne ca_4 ho_4 (by decide))]; exact xup_old ca_4 hn_cp), (by rw [xup_ne (Ne.symm n_cp), xup_self]; rfl), ((f_4.up (Or.inr (f_4.2 _ hn_cp))).up (Or.inl (by simp)))⟩ (fun h5 ⟨ho_5, cv_5, cs_5, ca_5, cp_5, f_5⟩ => ?_)
  refine x_aload_n d_Choices_init_42 rfl rfl ?_
  refine x_bipush (v := 6) d_Choices_init_43 (by decide) ?_
  refine x_newa (k := k_achl) rfl rfl (fun _ hz => by cases hz) xw_110 (by decide) (by decide : Int32.toNatClampNeg 6 = 6) (by decide) (by omega) (by omega) d_Choices_init_45 (fun cl hn_cl hk_cl => ?_)
  have n_cl : o ≠ cl := xneN ho_5 hn_cl
  refine x_putF xf_Choices_29_Choices xp_Choices_5 ⟨_, _, _, rfl, rfl, xw_91⟩ rfl rfl rfl (xup_old ho_5 hn_cl) rfl rfl d_Choices_init_47 ?_
  refine x_any (R := fun h2 => h2 o = some (k_Choices, [.ref cv, .int 0, .ref cs, .ref ca, .ref cp, .ref cl, .int 0]) ∧ h2 cv = some (k_achv, List.replicate 356 (.long 0)) ∧ h2 cs = some (k_astarts, List.replicate 6 (.int 0)) ∧ h2 ca = some (k_asamples, List.replicate 6 (.int 0)) ∧ h2 cp = some (k_apicks, List.replicate 6 (.int 0)) ∧ h2 cl = some (k_achl, List.replicate 6 (.long 0)) ∧ xfr h h2 [o]) ⟨(xup_self), (by rw [xup_ne (xne cv_5 ho_5 (by decide))]; exact xup_old cv_5 hn_cl), (by rw [xup_ne (xne cs_5 ho_5 (by decide))]; exact xup_old cs_5 hn_cl), (by rw [xup_ne (xne ca_5 ho_5 (by decide))]; exact xup_old ca_5 hn_cl), (by rw [xup_ne (xne cp_5 ho_5 (by decide))]; exact xup_old cp_5 hn_cl), (by rw [xup_ne (Ne.symm n_cl), xup_self]; rfl), ((f_5.up (Or.inr (f_5.2 _ hn_cl))).up (Or.inl (by simp)))⟩ (fun h6 ⟨ho_6, cv_6, cs_6, ca_6, cp_6, cl_6, f_6⟩ => ?_)
  refine x_aload_n d_Choices_init_50 rfl rfl ?_
  refine x_iconst (v := 0) d_Choices_init_51 (by decide) ?_
  refine x_put xf_Choices_32_Choices xp_Choices_6 rfl rfl ho_6 rfl rfl d_Choices_init_52 ?_
  refine x_any (R := fun h2 => h2 o = some (k_Choices, [.ref cv, .int 0, .ref cs, .ref ca, .ref cp, .ref cl, .int 0]) ∧ h2 cv = some (k_achv, List.replicate 356 (.long 0)) ∧ h2 cs = some (k_astarts, List.replicate 6 (.int 0)) ∧ h2 ca = some (k_asamples, List.replicate 6 (.int 0)) ∧ h2 cp = some (k_apicks, List.replicate 6 (.int 0)) ∧ h2 cl = some (k_achl, List.replicate 6 (.long 0)) ∧ xfr h h2 [o]) ⟨(xup_self), (by rw [xup_ne (xne cv_6 ho_6 (by decide))]; exact cv_6), (by rw [xup_ne (xne cs_6 ho_6 (by decide))]; exact cs_6), (by rw [xup_ne (xne ca_6 ho_6 (by decide))]; exact ca_6), (by rw [xup_ne (xne cp_6 ho_6 (by decide))]; exact cp_6), (by rw [xup_ne (xne cl_6 ho_6 (by decide))]; exact cl_6), (f_6.up (Or.inl (by simp)))⟩ (fun h7 ⟨ho_7, cv_7, cs_7, ca_7, cp_7, cl_7, f_7⟩ => ?_)
  refine x_vret d_Choices_init_55 rfl ?_
  exact ⟨rfl, ⟨_, _, _, _, _, ho_7, cv_7, cs_7, ca_7, cp_7, cl_7⟩, f_7, by omega, by omega⟩
/-- a Parting as it is made -/
def pa0 (h : XH) (o : Nat) : Prop := ∃ pt ps pf pc pa : Nat, h o = some (k_Parting, [.int 0, .ref pt, .ref ps, .ref pf, .ref pc, .ref pa]) ∧ h pt = some (k_aptr, List.replicate 256 (.int 0)) ∧ h ps = some (k_apsz, List.replicate 256 (.int 0)) ∧ h pf = some (k_apfi, List.replicate 256 (.int 0)) ∧ h pc = some (k_apcl, List.replicate 256 (.int 0)) ∧ h pa = some (k_apsa, List.replicate 6 (.int 0))
theorem c_Parting_init (hd : 1 ≤ d) {o : Nat} (ho : h o = some (k_Parting, [.int 0, .null, .null, .null, .null, .null])) (hc : c + 5 ≤ xCB) (hn : n + 1030 ≤ xSB) : XM l G d M_Parting_init [.ref o] h c n (fun v h' c' n' => v = none ∧ pa0 h' o ∧ xfr h h' [o] ∧ c' = c + 5 ∧ n' = n + 1030) := by
  obtain ⟨d, rfl⟩ : ∃ q, d = q + 1 := ⟨d - 1, by omega⟩
  refine XM.of (by decide +kernel) (Nat.le_of_ble_eq_true rfl) ?_
  refine x_aload_n d_Parting_init_0 rfl rfl ?_
  refine x_objInit xw_117 xw_40 xw_41 (Nat.le_of_ble_eq_true rfl) d_Parting_init_1 ?_
  have f0 : xfr h h [o] := xfr.rf
  refine x_aload_n d_Parting_init_4 rfl rfl ?_
  refine x_iconst (v := 0) d_Parting_init_5 (by decide) ?_
  refine x_put xf_Parting_9_Parting xp_Parting_0 rfl rfl ho rfl rfl d_Parting_init_6 ?_
  refine x_any (R := fun h2 => h2 o = some (k_Parting, [.int 0, .null, .null, .null, .null, .null]) ∧ xfr h h2 [o]) ⟨(xup_self), (f0.up (Or.inl (by simp)))⟩ (fun h1 ⟨ho_1, f_1⟩ => ?_)
  refine x_aload_n d_Parting_init_9 rfl rfl ?_
  refine x_sipush (v := 256) d_Parting_init_10 (by decide) ?_
  refine x_newa (k := k_aptr) rfl rfl (fun _ hz => by cases hz) xw_111 (by decide) (by decide : Int32.toNatClampNeg 256 = 256) (by decide) (by omega) (by omega) d_Parting_init_13 (fun pt hn_pt hk_pt => ?_)
  have n_pt : o ≠ pt := xneN ho_1 hn_pt
  refine x_putF xf_Parting_15_Parting xp_Parting_1 ⟨_, _, _, rfl, rfl, xw_120⟩ rfl rfl rfl (xup_old ho_1 hn_pt) rfl rfl d_Parting_init_15 ?_
  refine x_any (R := fun h2 => h2 o = some (k_Parting, [.int 0, .ref pt, .null, .null, .null, .null]) ∧ h2 pt = some (k_aptr, List.replicate 256 (.int 0)) ∧ xfr h h2 [o]) ⟨(xup_self), (by rw [xup_ne (Ne.symm n_pt), xup_self]; rfl), ((f_1.up (Or.inr (f_1.2 _ hn_pt))).up (Or.inl (by simp)))⟩ (fun h2 ⟨ho_2, pt_2, f_2⟩ => ?_)
  refine x_aload_n d_Parting_init_18 rfl rfl ?_
  refine x_sipush (v := 256) d_Parting_init_19 (by decide) ?_
  refine x_newa (k := k_apsz) rfl rfl (fun _ hz => by cases hz) xw_111 (by decide) (by decide : Int32.toNatClampNeg 256 = 256) (by decide) (by omega) (by omega) d_Parting_init_22 (fun ps hn_ps hk_ps => ?_)
  have n_ps : o ≠ ps := xneN ho_2 hn_ps
  refine x_putF xf_Parting_19_Parting xp_Parting_2 ⟨_, _, _, rfl, rfl, xw_122⟩ rfl rfl rfl (xup_old ho_2 hn_ps) rfl rfl d_Parting_init_24 ?_
  refine x_any (R := fun h2 => h2 o = some (k_Parting, [.int 0, .ref pt, .ref ps, .null, .null, .null]) ∧ h2 pt = some (k_aptr, List.replicate 256 (.int 0)) ∧ h2 ps = some (k_apsz, List.replicate 256 (.int 0)) ∧ xfr h h2 [o]) ⟨(xup_self), (by rw [xup_ne (xne pt_2 ho_2 (by decide))]; exact xup_old pt_2 hn_ps), (by rw [xup_ne (Ne.symm n_ps), xup_self]; rfl), ((f_2.up (Or.inr (f_2.2 _ hn_ps))).up (Or.inl (by simp)))⟩ (fun h3 ⟨ho_3, pt_3, ps_3, f_3⟩ => ?_)
  refine x_aload_n d_Parting_init_27 rfl rfl ?_
  refine x_sipush (v := 256) d_Parting_init_28 (by decide) ?_
  refine x_newa (k := k_apfi) rfl rfl (fun _ hz => by cases hz) xw_111 (by decide) (by decide : Int32.toNatClampNeg 256 = 256) (by decide) (by omega) (by omega) d_Parting_init_31 (fun pf hn_pf hk_pf => ?_)
  have n_pf : o ≠ pf := xneN ho_3 hn_pf
  refine x_putF xf_Parting_22_Parting xp_Parting_3 ⟨_, _, _, rfl, rfl, xw_124⟩ rfl rfl rfl (xup_old ho_3 hn_pf) rfl rfl d_Parting_init_33 ?_
  refine x_any (R := fun h2 => h2 o = some (k_Parting, [.int 0, .ref pt, .ref ps, .ref pf, .null, .null]) ∧ h2 pt = some (k_aptr, List.replicate 256 (.int 0)) ∧ h2 ps = some (k_apsz, List.replicate 256 (.int 0)) ∧ h2 pf = some (k_apfi, List.replicate 256 (.int 0)) ∧ xfr h h2 [o]) ⟨(xup_self), (by rw [xup_ne (xne pt_3 ho_3 (by decide))]; exact xup_old pt_3 hn_pf), (by rw [xup_ne (xne ps_3 ho_3 (by decide))]; exact xup_old ps_3 hn_pf), (by rw [xup_ne (Ne.symm n_pf), xup_self]; rfl), ((f_3.up (Or.inr (f_3.2 _ hn_pf))).up (Or.inl (by simp)))⟩ (fun h4 ⟨ho_4, pt_4, ps_4, pf_4, f_4⟩ => ?_)
  refine x_aload_n d_Parting_init_36 rfl rfl ?_
  refine x_sipush (v := 256) d_Parting_init_37 (by decide) ?_
  refine x_newa (k := k_apcl) rfl rfl (fun _ hz => by cases hz) xw_111 (by decide) (by decide : Int32.toNatClampNeg 256 = 256) (by decide) (by omega) (by omega) d_Parting_init_40 (fun pc hn_pc hk_pc => ?_)
  have n_pc : o ≠ pc := xneN ho_4 hn_pc
  refine x_putF xf_Parting_25_Parting xp_Parting_4 ⟨_, _, _, rfl, rfl, xw_125⟩ rfl rfl rfl (xup_old ho_4 hn_pc) rfl rfl d_Parting_init_42 ?_
  refine x_any (R := fun h2 => h2 o = some (k_Parting, [.int 0, .ref pt, .ref ps, .ref pf, .ref pc, .null]) ∧ h2 pt = some (k_aptr, List.replicate 256 (.int 0)) ∧ h2 ps = some (k_apsz, List.replicate 256 (.int 0)) ∧ h2 pf = some (k_apfi, List.replicate 256 (.int 0)) ∧ h2 pc = some (k_apcl, List.replicate 256 (.int 0)) ∧ xfr h h2 [o]) ⟨(xup_self), (by rw [xup_ne (xne pt_4 ho_4 (by decide))]; exact xup_old pt_4 hn_pc), (by rw [xup_ne (xne ps_4 ho_4 (by decide))]; exact xup_old ps_4 hn_pc), (by rw [xup_ne (xne pf_4 ho_4 (by decide))]; exact xup_old pf_4 hn_pc), (by rw [xup_ne (Ne.symm n_pc), xup_self]; rfl), ((f_4.up (Or.inr (f_4.2 _ hn_pc))).up (Or.inl (by simp)))⟩ (fun h5 ⟨ho_5, pt_5, ps_5, pf_5, pc_5, f_5⟩ => ?_)
  refine x_aload_n d_Parting_init_45 rfl rfl ?_
  refine x_bipush (v := 6) d_Parting_init_46 (by decide) ?_
  refine x_newa (k := k_apsa) rfl rfl (fun _ hz => by cases hz) xw_111 (by decide) (by decide : Int32.toNatClampNeg 6 = 6) (by decide) (by omega) (by omega) d_Parting_init_48 (fun pa hn_pa hk_pa => ?_)
  have n_pa : o ≠ pa := xneN ho_5 hn_pa
  refine x_putF xf_Parting_28_Parting xp_Parting_5 ⟨_, _, _, rfl, rfl, xw_126⟩ rfl rfl rfl (xup_old ho_5 hn_pa) rfl rfl d_Parting_init_50 ?_
  refine x_any (R := fun h2 => h2 o = some (k_Parting, [.int 0, .ref pt, .ref ps, .ref pf, .ref pc, .ref pa]) ∧ h2 pt = some (k_aptr, List.replicate 256 (.int 0)) ∧ h2 ps = some (k_apsz, List.replicate 256 (.int 0)) ∧ h2 pf = some (k_apfi, List.replicate 256 (.int 0)) ∧ h2 pc = some (k_apcl, List.replicate 256 (.int 0)) ∧ h2 pa = some (k_apsa, List.replicate 6 (.int 0)) ∧ xfr h h2 [o]) ⟨(xup_self), (by rw [xup_ne (xne pt_5 ho_5 (by decide))]; exact xup_old pt_5 hn_pa), (by rw [xup_ne (xne ps_5 ho_5 (by decide))]; exact xup_old ps_5 hn_pa), (by rw [xup_ne (xne pf_5 ho_5 (by decide))]; exact xup_old pf_5 hn_pa), (by rw [xup_ne (xne pc_5 ho_5 (by decide))]; exact xup_old pc_5 hn_pa), (by rw [xup_ne (Ne.symm n_pa), xup_self]; rfl), ((f_5.up (Or.inr (f_5.2 _ hn_pa))).up (Or.inl (by simp)))⟩ (fun h6 ⟨ho_6, pt_6, ps_6, pf_6, pc_6, pa_6, f_6⟩ => ?_)
  refine x_vret d_Parting_init_53 rfl ?_
  exact ⟨rfl, ⟨_, _, _, _, _, ho_6, pt_6, ps_6, pf_6, pc_6, pa_6⟩, f_6, by omega, by omega⟩
end CH1
end
section
section
abbrev y_MT_init : MethodName := ⟨"MarkerText", "<init>", "()V"⟩
abbrev M_MT_init : XMt := (y_MT_init, prog_1_method_1_code, 1, none)
theorem d_MT_init_0 : decode M_MT_init.2.1 0 = .ok (.aload_n 0, 1) := by decide +kernel
theorem d_MT_init_1 : decode M_MT_init.2.1 1 = .ok (.invokespecial 3, 3) := by decide +kernel
theorem xw_39 : (Jvm.Cond.methodLink "MarkerText" (3 : Nat) ({ cls := "java/lang/Object", name := "<init>", desc := "()V" } : Jvm.MethodName)) ∈ xT := xT_at 39 (by decide +kernel) (by decide +kernel)
theorem d_MT_init_4 : decode M_MT_init.2.1 4 = .ok (.aload_n 0, 1) := by decide +kernel
theorem d_MT_init_5 : decode M_MT_init.2.1 5 = .ok (.new 9, 3) := by decide +kernel
theorem xw_42 : (Jvm.Cond.classLink "MarkerText" (9 : Nat) "java/lang/StringBuilder") ∈ xT := xT_at 42 (by decide +kernel) (by decide +kernel)
theorem xw_43 : (Jvm.Cond.instantiable "java/lang/StringBuilder" (4 : Nat)) ∈ xT := xT_at 43 (by decide +kernel) (by decide +kernel)
theorem xnw_MT_9 : xNw "MarkerText" 9 k_StringBuilder 4 [.null, .int 0, .int 0, .int 0] := ⟨_, _, _, rfl, rfl, by decide +kernel, xw_42, xw_43, xw_3⟩
theorem d_MT_init_8 : decode M_MT_init.2.1 8 = .ok (.dup, 1) := by decide +kernel
theorem d_MT_init_9 : decode M_MT_init.2.1 9 = .ok (.invokespecial 11, 3) := by decide +kernel
theorem xw_46 : (Jvm.Cond.code ({ cls := "java/lang/StringBuilder", name := "<init>", desc := "()V" } : Jvm.MethodName) prog_26_method_1_code (1 : Nat) (Option.none : Option Jvm.ClassFile.FieldType)) ∈ xT := xT_at 46 (by decide +kernel) (by decide +kernel)
theorem xcb_SB_init : xcb M_SB_init 0 := ⟨xw_46, xw_3, by decide, by decide, by decide, by decide +kernel⟩
theorem xw_44 : (Jvm.Cond.methodLink "MarkerText" (11 : Nat) ({ cls := "java/lang/StringBuilder", name := "<init>", desc := "()V" } : Jvm.MethodName)) ∈ xT := xT_at 44 (by decide +kernel) (by decide +kernel)
theorem xw_45 : (Jvm.Cond.instanceMethod ({ cls := "java/lang/StringBuilder", name := "<init>", desc := "()V" } : Jvm.MethodName)) ∈ xT := xT_at 45 (by decide +kernel) (by decide +kernel)
theorem xci_MT_11 : xCI "MarkerText" 11 M_SB_init 0 := ⟨xcb_SB_init, rfl, rfl, xw_45, Or.inl xw_44⟩
theorem d_MT_init_12 : decode M_MT_init.2.1 12 = .ok (.putfield 12, 3) := by decide +kernel
theorem xw_140 : (Jvm.Cond.fieldLink "MarkerText" (12 : Nat) "MarkerText" "text" "Ljava/lang/StringBuilder;") ∈ xT := xT_at 140 (by decide +kernel) (by decide +kernel)
theorem xf_MT_12_MT : xF "MarkerText" 12 k_MarkerText 0 := ⟨_, _, _, "MarkerText", rfl, by decide, Or.inl xw_140, Or.inl rfl⟩
theorem xp_MT_0 : xP k_MarkerText 0 true (.object "java/lang/StringBuilder") := ⟨_, _, _, rfl, rfl, by decide +kernel⟩
theorem d_MT_init_15 : decode M_MT_init.2.1 15 = .ok (.aload_n 0, 1) := by decide +kernel
theorem d_MT_init_16 : decode M_MT_init.2.1 16 = .ok (.bipush 6, 2) := by decide +kernel
theorem d_MT_init_18 : decode M_MT_init.2.1 18 = .ok (.anewarray 16, 3) := by decide +kernel
theorem xw_75 : (Jvm.Cond.classLink "MarkerText" (16 : Nat) "MarkerText$Name") ∈ xT := xT_at 75 (by decide +kernel) (by decide +kernel)
theorem xw_76 : (Jvm.Cond.arrayOver (Jvm.ClassFile.FieldType.object "MarkerText$Name")) ∈ xT := xT_at 76 (by decide +kernel) (by decide +kernel)
theorem d_MT_init_21 : decode M_MT_init.2.1 21 = .ok (.putfield 18, 3) := by decide +kernel
theorem xw_141 : (Jvm.Cond.fieldLink "MarkerText" (18 : Nat) "MarkerText" "names" "[LMarkerText$Name;") ∈ xT := xT_at 141 (by decide +kernel) (by decide +kernel)
theorem xf_MT_18_MT : xF "MarkerText" 18 k_MarkerText 1 := ⟨_, _, _, "MarkerText", rfl, by decide, Or.inl xw_141, Or.inl rfl⟩
theorem xp_MT_1 : xP k_MarkerText 1 true (.array (.object "MarkerText$Name")) := ⟨_, _, _, rfl, rfl, by decide +kernel⟩
theorem d_MT_init_24 : decode M_MT_init.2.1 24 = .ok (.aload_n 0, 1) := by decide +kernel
theorem d_MT_init_25 : decode M_MT_init.2.1 25 = .ok (.iconst 0, 1) := by decide +kernel
theorem d_MT_init_26 : decode M_MT_init.2.1 26 = .ok (.putfield 22, 3) := by decide +kernel
theorem xw_142 : (Jvm.Cond.fieldLink "MarkerText" (22 : Nat) "MarkerText" "nameCount" "I") ∈ xT := xT_at 142 (by decide +kernel) (by decide +kernel)
theorem xf_MT_22_MT : xF "MarkerText" 22 k_MarkerText 2 := ⟨_, _, _, "MarkerText", rfl, by decide, Or.inl xw_142, Or.inl rfl⟩
theorem xp_MT_2 : xP k_MarkerText 2 false .int := ⟨_, _, _, rfl, rfl, by decide +kernel⟩
theorem d_MT_init_29 : decode M_MT_init.2.1 29 = .ok (.aload_n 0, 1) := by decide +kernel
theorem d_MT_init_30 : decode M_MT_init.2.1 30 = .ok (.bipush 8, 2) := by decide +kernel
theorem d_MT_init_32 : decode M_MT_init.2.1 32 = .ok (.anewarray 26, 3) := by decide +kernel
theorem xw_77 : (Jvm.Cond.classLink "MarkerText" (26 : Nat) "MarkerText$Condition") ∈ xT := xT_at 77 (by decide +kernel) (by decide +kernel)
theorem xw_78 : (Jvm.Cond.arrayOver (Jvm.ClassFile.FieldType.object "MarkerText$Condition")) ∈ xT := xT_at 78 (by decide +kernel) (by decide +kernel)
theorem d_MT_init_35 : decode M_MT_init.2.1 35 = .ok (.putfield 28, 3) := by decide +kernel
theorem xw_143 : (Jvm.Cond.fieldLink "MarkerText" (28 : Nat) "MarkerText" "conditions" "[LMarkerText$Condition;") ∈ xT := xT_at 143 (by decide +kernel) (by decide +kernel)
theorem xf_MT_28_MT : xF "MarkerText" 28 k_MarkerText 3 := ⟨_, _, _, "MarkerText", rfl, by decide, Or.inl xw_143, Or.inl rfl⟩
theorem xp_MT_3 : xP k_MarkerText 3 true (.array (.object "MarkerText$Condition")) := ⟨_, _, _, rfl, rfl, by decide +kernel⟩
theorem d_MT_init_38 : decode M_MT_init.2.1 38 = .ok (.aload_n 0, 1) := by decide +kernel
theorem d_MT_init_39 : decode M_MT_init.2.1 39 = .ok (.iconst 0, 1) := by decide +kernel
theorem d_MT_init_40 : decode M_MT_init.2.1 40 = .ok (.putfield 32, 3) := by decide +kernel
theorem xw_144 : (Jvm.Cond.fieldLink "MarkerText" (32 : Nat) "MarkerText" "conditionCount" "I") ∈ xT := xT_at 144 (by decide +kernel) (by decide +kernel)
theorem xf_MT_32_MT : xF "MarkerText" 32 k_MarkerText 4 := ⟨_, _, _, "MarkerText", rfl, by decide, Or.inl xw_144, Or.inl rfl⟩
theorem xp_MT_4 : xP k_MarkerText 4 false .int := ⟨_, _, _, rfl, rfl, by decide +kernel⟩
theorem d_MT_init_43 : decode M_MT_init.2.1 43 = .ok (.aload_n 0, 1) := by decide +kernel
theorem d_MT_init_44 : decode M_MT_init.2.1 44 = .ok (.iconst (-1), 1) := by decide +kernel
theorem d_MT_init_45 : decode M_MT_init.2.1 45 = .ok (.putfield 35, 3) := by decide +kernel
theorem xw_145 : (Jvm.Cond.fieldLink "MarkerText" (35 : Nat) "MarkerText" "illPlace" "I") ∈ xT := xT_at 145 (by decide +kernel) (by decide +kernel)
theorem xf_MT_35_MT : xF "MarkerText" 35 k_MarkerText 5 := ⟨_, _, _, "MarkerText", rfl, by decide, Or.inl xw_145, Or.inl rfl⟩
theorem xp_MT_5 : xP k_MarkerText 5 false .int := ⟨_, _, _, rfl, rfl, by decide +kernel⟩
theorem d_MT_init_48 : decode M_MT_init.2.1 48 = .ok (.aload_n 0, 1) := by decide +kernel
theorem d_MT_init_49 : decode M_MT_init.2.1 49 = .ok (.bipush 6, 2) := by decide +kernel
theorem d_MT_init_51 : decode M_MT_init.2.1 51 = .ok (.newarray .long, 2) := by decide +kernel
theorem d_MT_init_53 : decode M_MT_init.2.1 53 = .ok (.putfield 38, 3) := by decide +kernel
theorem xw_146 : (Jvm.Cond.fieldLink "MarkerText" (38 : Nat) "MarkerText" "environment" "[J") ∈ xT := xT_at 146 (by decide +kernel) (by decide +kernel)
theorem xf_MT_38_MT : xF "MarkerText" 38 k_MarkerText 6 := ⟨_, _, _, "MarkerText", rfl, by decide, Or.inl xw_146, Or.inl rfl⟩
theorem xp_MT_6 : xP k_MarkerText 6 true (.array .long) := ⟨_, _, _, rfl, rfl, by decide +kernel⟩
theorem d_MT_init_56 : decode M_MT_init.2.1 56 = .ok (.aload_n 0, 1) := by decide +kernel
theorem d_MT_init_57 : decode M_MT_init.2.1 57 = .ok (.new 42, 3) := by decide +kernel
theorem xw_79 : (Jvm.Cond.classLink "MarkerText" (42 : Nat) "MarkerText$Choices") ∈ xT := xT_at 79 (by decide +kernel) (by decide +kernel)
theorem xw_80 : (Jvm.Cond.instantiable "MarkerText$Choices" (7 : Nat)) ∈ xT := xT_at 80 (by decide +kernel) (by decide +kernel)
theorem xw_6 : (Jvm.Cond.initialized "MarkerText$Choices") ∈ xT := xT_at 6 (by decide +kernel) (by decide +kernel)
theorem xnw_MT_42 : xNw "MarkerText" 42 k_Choices 7 [.null, .int 0, .null, .null, .null, .null, .int 0] := ⟨_, _, _, rfl, rfl, by decide +kernel, xw_79, xw_80, xw_6⟩
theorem d_MT_init_60 : decode M_MT_init.2.1 60 = .ok (.dup, 1) := by decide +kernel
theorem d_MT_init_61 : decode M_MT_init.2.1 61 = .ok (.invokespecial 44, 3) := by decide +kernel
theorem xw_83 : (Jvm.Cond.code ({ cls := "MarkerText$Choices", name := "<init>", desc := "()V" } : Jvm.MethodName) prog_2_method_1_code (1 : Nat) (Option.none : Option Jvm.ClassFile.FieldType)) ∈ xT := xT_at 83 (by decide +kernel) (by decide +kernel)
theorem xcb_Choices_init : xcb M_Choices_init 0 := ⟨xw_83, xw_6, by decide, by decide, by decide, by decide +kernel⟩
theorem xw_81 : (Jvm.Cond.methodLinkNest "MarkerText" (44 : Nat) ({ cls := "MarkerText$Choices", name := "<init>", desc := "()V" } : Jvm.MethodName) "MarkerText") ∈ xT := xT_at 81 (by decide +kernel) (by decide +kernel)
theorem xw_82 : (Jvm.Cond.instanceMethod ({ cls := "MarkerText$Choices", name := "<init>", desc := "()V" } : Jvm.MethodName)) ∈ xT := xT_at 82 (by decide +kernel) (by decide +kernel)
theorem xci_MT_44 : xCI "MarkerText" 44 M_Choices_init 0 := ⟨xcb_Choices_init, rfl, rfl, xw_82, Or.inr ⟨_, xw_81⟩⟩
theorem d_MT_init_64 : decode M_MT_init.2.1 64 = .ok (.putfield 45, 3) := by decide +kernel
theorem xw_147 : (Jvm.Cond.fieldLink "MarkerText" (45 : Nat) "MarkerText" "choices" "LMarkerText$Choices;") ∈ xT := xT_at 147 (by decide +kernel) (by decide +kernel)
theorem xf_MT_45_MT : xF "MarkerText" 45 k_MarkerText 7 := ⟨_, _, _, "MarkerText", rfl, by decide, Or.inl xw_147, Or.inl rfl⟩
theorem xp_MT_7 : xP k_MarkerText 7 true (.object "MarkerText$Choices") := ⟨_, _, _, rfl, rfl, by decide +kernel⟩
theorem d_MT_init_67 : decode M_MT_init.2.1 67 = .ok (.aload_n 0, 1) := by decide +kernel
theorem d_MT_init_68 : decode M_MT_init.2.1 68 = .ok (.new 49, 3) := by decide +kernel
theorem xw_112 : (Jvm.Cond.classLink "MarkerText" (49 : Nat) "MarkerText$Parting") ∈ xT := xT_at 112 (by decide +kernel) (by decide +kernel)
theorem xw_113 : (Jvm.Cond.instantiable "MarkerText$Parting" (6 : Nat)) ∈ xT := xT_at 113 (by decide +kernel) (by decide +kernel)
theorem xw_7 : (Jvm.Cond.initialized "MarkerText$Parting") ∈ xT := xT_at 7 (by decide +kernel) (by decide +kernel)
theorem xnw_MT_49 : xNw "MarkerText" 49 k_Parting 6 [.int 0, .null, .null, .null, .null, .null] := ⟨_, _, _, rfl, rfl, by decide +kernel, xw_112, xw_113, xw_7⟩
theorem d_MT_init_71 : decode M_MT_init.2.1 71 = .ok (.dup, 1) := by decide +kernel
theorem d_MT_init_72 : decode M_MT_init.2.1 72 = .ok (.invokespecial 51, 3) := by decide +kernel
theorem xw_116 : (Jvm.Cond.code ({ cls := "MarkerText$Parting", name := "<init>", desc := "()V" } : Jvm.MethodName) prog_9_method_1_code (1 : Nat) (Option.none : Option Jvm.ClassFile.FieldType)) ∈ xT := xT_at 116 (by decide +kernel) (by decide +kernel)
theorem xcb_Parting_init : xcb M_Parting_init 0 := ⟨xw_116, xw_7, by decide, by decide, by decide, by decide +kernel⟩
theorem xw_114 : (Jvm.Cond.methodLinkNest "MarkerText" (51 : Nat) ({ cls := "MarkerText$Parting", name := "<init>", desc := "()V" } : Jvm.MethodName) "MarkerText") ∈ xT := xT_at 114 (by decide +kernel) (by decide +kernel)
theorem xw_115 : (Jvm.Cond.instanceMethod ({ cls := "MarkerText$Parting", name := "<init>", desc := "()V" } : Jvm.MethodName)) ∈ xT := xT_at 115 (by decide +kernel) (by decide +kernel)
theorem xci_MT_51 : xCI "MarkerText" 51 M_Parting_init 0 := ⟨xcb_Parting_init, rfl, rfl, xw_115, Or.inr ⟨_, xw_114⟩⟩
theorem d_MT_init_75 : decode M_MT_init.2.1 75 = .ok (.putfield 52, 3) := by decide +kernel
theorem xw_148 : (Jvm.Cond.fieldLink "MarkerText" (52 : Nat) "MarkerText" "parting" "LMarkerText$Parting;") ∈ xT := xT_at 148 (by decide +kernel) (by decide +kernel)
theorem xf_MT_52_MT : xF "MarkerText" 52 k_MarkerText 8 := ⟨_, _, _, "MarkerText", rfl, by decide, Or.inl xw_148, Or.inl rfl⟩
theorem xp_MT_8 : xP k_MarkerText 8 true (.object "MarkerText$Parting") := ⟨_, _, _, rfl, rfl, by decide +kernel⟩
theorem d_MT_init_78 : decode M_MT_init.2.1 78 = .ok (.return_, 1) := by decide +kernel
end
section CH2
variable {l : Launch} {G : XG} {h : XH} {c n d : Nat}
theorem ch0.fr {h' : XH} {F : List Nat} {o : Nat} (hc : ch0 h o) (hf : xfr h h' F) (hn : xno h F [k_Choices, k_achv, k_astarts, k_asamples, k_apicks, k_achl]) : ch0 h' o := by
  obtain ⟨a, b, e, f, g, e0, e1, e2, e3, e4, e5⟩ := hc
  exact ⟨a, b, e, f, g, hf.1 _ _ e0 (hn.at e0 (by decide)), hf.1 _ _ e1 (hn.at e1 (by decide)), hf.1 _ _ e2 (hn.at e2 (by decide)), hf.1 _ _ e3 (hn.at e3 (by decide)), hf.1 _ _ e4 (hn.at e4 (by decide)), hf.1 _ _ e5 (hn.at e5 (by decide))⟩
theorem pa0.fr {h' : XH} {F : List Nat} {o : Nat} (hc : pa0 h o) (hf : xfr h h' F) (hn : xno h F [k_Parting, k_aptr, k_apsz, k_apfi, k_apcl, k_apsa]) : pa0 h' o := by
  obtain ⟨a, b, e, f, g, e0, e1, e2, e3, e4, e5⟩ := hc
  exact ⟨a, b, e, f, g, hf.1 _ _ e0 (hn.at e0 (by decide)), hf.1 _ _ e1 (hn.at e1 (by decide)), hf.1 _ _ e2 (hn.at e2 (by decide)), hf.1 _ _ e3 (hn.at e3 (by decide)), hf.1 _ _ e4 (hn.at e4 (by decide)), hf.1 _ _ e5 (hn.at e5 (by decide))⟩
abbrev mtO (ta na ca ea ch pa : Nat) : Nat × List Value := (k_MarkerText, [.ref ta, .ref na, .int 0, .ref ca, .int 0, .int (-1), .ref ea, .ref ch, .ref pa])
/-- a MarkerText as it is made -/
def mt0 (h : XH) (o : Nat) : Prop := ∃ ta va na ca ea ch pa : Nat, h o = some (mtO ta na ca ea ch pa) ∧ isB h ta va [] 16 ∧ h na = some (k_aName, List.replicate 6 .null) ∧ h ca = some (k_aCondition, List.replicate 8 .null) ∧ h ea = some (k_aenv, List.replicate 6 (.long 0)) ∧ ch0 h ch ∧ pa0 h pa
theorem mt0.fr {h' : XH} {F : List Nat} {o : Nat} (hc : mt0 h o) (hf : xfr h h' F) (hn : xno h F [k_MarkerText, k_StringBuilder, k_abyte, k_aName, k_aCondition, k_aenv, k_Choices, k_achv, k_astarts, k_asamples, k_apicks, k_achl, k_Parting, k_aptr, k_apsz, k_apfi, k_apcl, k_apsa]) : mt0 h' o := by
  obtain ⟨ta, va, na, ca, ea, ch, pa, e0, hB, e1, e2, e3, e4, e5⟩ := hc
  obtain ⟨z, bs, b1, b2, -⟩ := id hB
  exact ⟨ta, va, na, ca, ea, ch, pa, hf.1 _ _ e0 (hn.at e0 (by decide)), hB.fr hf (hn.at b1 (by decide)) (hn.at b2 (by decide)), hf.1 _ _ e1 (hn.at e1 (by decide)), hf.1 _ _ e2 (hn.at e2 (by decide)), hf.1 _ _ e3 (hn.at e3 (by decide)), e4.fr hf (hn.sub (by decide)), e5.fr hf (hn.sub (by decide))⟩
theorem c_MT_init (hd : 3 ≤ d) {o : Nat} (ho : h o = some (k_MarkerText, [.null, .null, .int 0, .null, .int 0, .int 0, .null, .null, .null])) (hc : c + 17 ≤ xCB) (hn : n + 1500 ≤ xSB) : XM l G d M_MT_init [.ref o] h c n (fun v h' c' n' => v = none ∧ mt0 h' o ∧ xfr h h' [o] ∧ c' = c + 17 ∧ n' ≤ n + 1500) := by
  obtain ⟨d, rfl⟩ : ∃ q, d = q + 1 := ⟨d - 1, by omega⟩
  refine XM.of (by decide +kernel) (Nat.le_of_ble_eq_true rfl) ?_
  have f0 : xfr h h [o] := xfr.rf
  refine x_aload_n d_MT_init_0 rfl rfl ?_
  refine x_objInit xw_39 xw_40 xw_41 (Nat.le_of_ble_eq_true rfl) d_MT_init_1 ?_
  refine x_aload_n d_MT_init_4 rfl rfl ?_
  refine x_new xnw_MT_9 (by omega) (by omega) d_MT_init_5 (fun q1 hn_q1 hk_q1 => ?_)
  refine x_dup d_MT_init_8 rfl ?_
  refine x_callI (As := []) xci_MT_11 (c_SB_init (by omega) xup_self (by omega) (by omega)) rfl rfl (Nat.le_of_ble_eq_true rfl) d_MT_init_9 ?_
  rintro v h1 c1 n1 ⟨rfl, va, hva, hB, g1, rfl, rfl⟩
  have o1 := g1.1 _ _ (xup_old ho hn_q1) (by simp; exact xneN ho hn_q1)
  refine x_putF xf_MT_12_MT xp_MT_0 ⟨_, _, _, rfl, rfl, xw_140⟩ rfl rfl rfl o1 rfl rfl d_MT_init_12 ?_
  obtain ⟨z1, bs1, b1, b2, -⟩ := id hB
  refine x_any (R := fun h2 => h2 o = some (k_MarkerText, [.ref q1, .null, .int 0, .null, .int 0, .int 0, .null, .null, .null]) ∧ isB h2 q1 va [] 16 ∧ xfr h h2 [o]) ⟨xup_self, hB.fr (F := [o]) (xfr.rf.up (Or.inl (by simp))) (by simp; exact xne b1 o1 (by decide)) (by simp; exact xne b2 o1 (by decide)), ((f0.up (Or.inr hn_q1)).tr g1 (fun q hq hq2 => by rw [List.mem_singleton] at hq2; subst hq2; exact absurd hn_q1 hq)).up (Or.inl (by simp))⟩ (fun h1 ⟨o_1, B_1, f_1⟩ => ?_)
  refine x_aload_n d_MT_init_15 rfl rfl ?_
  refine x_bipush (v := 6) d_MT_init_16 (by decide) ?_
  refine x_anew (k := k_aName) rfl xw_75 xw_76 (by decide) (by decide : Int32.toNatClampNeg 6 = 6) (by decide) (by omega) (by omega) d_MT_init_18 (fun na hn_na hk_na => ?_)
  have n_na : o ≠ na := xneN o_1 hn_na
  refine x_putF xf_MT_18_MT xp_MT_1 ⟨_, _, _, rfl, rfl, xw_141⟩ rfl rfl rfl (xup_old o_1 hn_na) rfl rfl d_MT_init_21 ?_
  have e_2 : ∀ z, xfr h1 (xup (xup h1 na z) o (k_MarkerText, [.ref q1, .ref na, .int 0, .null, .int 0, .int 0, .null, .null, .null])) [o] := fun z => (xfr.rf.up (Or.inr hn_na)).up (Or.inl (by simp))
  obtain ⟨z2, bs2, b1_1, b2_1, -⟩ := id B_1
  refine x_any (R := fun h2 => h2 o = some (k_MarkerText, [.ref q1, .ref na, .int 0, .null, .int 0, .int 0, .null, .null, .null]) ∧ isB h2 q1 va [] 16 ∧ h2 na = some (k_aName, List.replicate 6 .null) ∧ xfr h h2 [o]) ⟨(xup_self), (B_1.fr (e_2 _) (by simp; exact xne b1_1 o_1 (by decide)) (by simp; exact xne b2_1 o_1 (by decide))), (by rw [xup_ne (Ne.symm n_na), xup_self]; try rfl), (((f_1.up (Or.inr (f_1.2 _ hn_na))).up (Or.inl (by simp))))⟩ (fun h2 ⟨o_2, B_2, nae_2, f_2⟩ => ?_)
  refine x_aload_n d_MT_init_24 rfl rfl ?_
  refine x_iconst (v := 0) d_MT_init_25 (by decide) ?_
  refine x_put xf_MT_22_MT xp_MT_2 rfl rfl o_2 rfl rfl d_MT_init_26 ?_
  have e_3 : xfr h2 (xup h2 o (k_MarkerText, [.ref q1, .ref na, .int 0, .null, .int 0, .int 0, .null, .null, .null])) [o] := xfr.rf.up (Or.inl (by simp))
  obtain ⟨z3, bs3, b1_2, b2_2, -⟩ := id B_2
  refine x_any (R := fun h2 => h2 o = some (k_MarkerText, [.ref q1, .ref na, .int 0, .null, .int 0, .int 0, .null, .null, .null]) ∧ isB h2 q1 va [] 16 ∧ h2 na = some (k_aName, List.replicate 6 .null) ∧ xfr h h2 [o]) ⟨(xup_self), (B_2.fr e_3 (by simp; exact xne b1_2 o_2 (by decide)) (by simp; exact xne b2_2 o_2 (by decide))), (e_3.1 _ _ nae_2 (by simp; exact xne nae_2 o_2 (by decide))), ((f_2.up (Or.inl (by simp))))⟩ (fun h3 ⟨o_3, B_3, nae_3, f_3⟩ => ?_)
  refine x_aload_n d_MT_init_29 rfl rfl ?_
  refine x_bipush (v := 8) d_MT_init_30 (by decide) ?_
  refine x_anew (k := k_aCondition) rfl xw_77 xw_78 (by decide) (by decide : Int32.toNatClampNeg 8 = 8) (by decide) (by omega) (by omega) d_MT_init_32 (fun ca hn_ca hk_ca => ?_)
  have n_ca : o ≠ ca := xneN o_3 hn_ca
  refine x_putF xf_MT_28_MT xp_MT_3 ⟨_, _, _, rfl, rfl, xw_143⟩ rfl rfl rfl (xup_old o_3 hn_ca) rfl rfl d_MT_init_35 ?_
  have e_4 : ∀ z, xfr h3 (xup (xup h3 ca z) o (k_MarkerText, [.ref q1, .ref na, .int 0, .ref ca, .int 0, .int 0, .null, .null, .null])) [o] := fun z => (xfr.rf.up (Or.inr hn_ca)).up (Or.inl (by simp))
  obtain ⟨z4, bs4, b1_3, b2_3, -⟩ := id B_3
  refine x_any (R := fun h2 => h2 o = some (k_MarkerText, [.ref q1, .ref na, .int 0, .ref ca, .int 0, .int 0, .null, .null, .null]) ∧ isB h2 q1 va [] 16 ∧ h2 na = some (k_aName, List.replicate 6 .null) ∧ h2 ca = some (k_aCondition, List.replicate 8 .null) ∧ xfr h h2 [o]) ⟨(xup_self), (B_3.fr (e_4 _) (by simp; exact xne b1_3 o_3 (by decide)) (by simp; exact xne b2_3 o_3 (by decide))), ((e_4 _).1 _ _ nae_3 (by simp; exact xne nae_3 o_3 (by decide))), (by rw [xup_ne (Ne.symm n_ca), xup_self]; try rfl), (((f_3.up (Or.inr (f_3.2 _ hn_ca))).up (Or.inl (by simp))))⟩ (fun h4 ⟨o_4, B_4, nae_4, cae_4, f_4⟩ => ?_)
  refine x_aload_n d_MT_init_38 rfl rfl ?_
  refine x_iconst (v := 0) d_MT_init_39 (by decide) ?_
  refine x_put xf_MT_32_MT xp_MT_4 rfl rfl o_4 rfl rfl d_MT_init_40 ?_
  have e_5 : xfr h4 (xup h4 o (k_MarkerText, [.ref q1, .ref na, .int 0, .ref ca, .int 0, .int 0, .null, .null, .null])) [o] := xfr.rf.up (Or.inl (by simp))
  obtain ⟨z5, bs5, b1_4, b2_4, -⟩ := id B_4
  refine x_any (R := fun h2 => h2 o = some (k_MarkerText, [.ref q1, .ref na, .int 0, .ref ca, .int 0, .int 0, .null, .null, .null]) ∧ isB h2 q1 va [] 16 ∧ h2 na = some (k_aName, List.replicate 6 .null) ∧ h2 ca = some (k_aCondition, List.replicate 8 .null) ∧ xfr h h2 [o]) ⟨(xup_self), (B_4.fr e_5 (by simp; exact xne b1_4 o_4 (by decide)) (by simp; exact xne b2_4 o_4 (by decide))), (e_5.1 _ _ nae_4 (by simp; exact xne nae_4 o_4 (by decide))), (e_5.1 _ _ cae_4 (by simp; exact xne cae_4 o_4 (by decide))), ((f_4.up (Or.inl (by simp))))⟩ (fun h5 ⟨o_5, B_5, nae_5, cae_5, f_5⟩ => ?_)
  refine x_aload_n d_MT_init_43 rfl rfl ?_
  refine x_iconst (v := (-1)) d_MT_init_44 (by decide) ?_
  refine x_put xf_MT_35_MT xp_MT_5 rfl rfl o_5 rfl rfl d_MT_init_45 ?_
  have e_6 : xfr h5 (xup h5 o (k_MarkerText, [.ref q1, .ref na, .int 0, .ref ca, .int 0, .int (-1), .null, .null, .null])) [o] := xfr.rf.up (Or.inl (by simp))
  obtain ⟨z6, bs6, b1_5, b2_5, -⟩ := id B_5
  refine x_any (R := fun h2 => h2 o = some (k_MarkerText, [.ref q1, .ref na, .int 0, .ref ca, .int 0, .int (-1), .null, .null, .null]) ∧ isB h2 q1 va [] 16 ∧ h2 na = some (k_aName, List.replicate 6 .null) ∧ h2 ca = some (k_aCondition, List.replicate 8 .null) ∧ xfr h h2 [o]) ⟨(xup_self), (B_5.fr e_6 (by simp; exact xne b1_5 o_5 (by decide)) (by simp; exact xne b2_5 o_5 (by decide))), (e_6.1 _ _ nae_5 (by simp; exact xne nae_5 o_5 (by decide))), (e_6.1 _ _ cae_5 (by simp; exact xne cae_5 o_5 (by decide))), ((f_5.up (Or.inl (by simp))))⟩ (fun h6 ⟨o_6, B_6, nae_6, cae_6, f_6⟩ => ?_)
  refine x_aload_n d_MT_init_48 rfl rfl ?_
  refine x_bipush (v := 6) d_MT_init_49 (by decide) ?_
  refine x_newa (k := k_aenv) rfl rfl (fun _ hz => by cases hz) xw_110 (by decide) (by decide : Int32.toNatClampNeg 6 = 6) (by decide) (by omega) (by omega) d_MT_init_51 (fun ea hn_ea hk_ea => ?_)
  have n_ea : o ≠ ea := xneN o_6 hn_ea
  refine x_putF xf_MT_38_MT xp_MT_6 ⟨_, _, _, rfl, rfl, xw_146⟩ rfl rfl rfl (xup_old o_6 hn_ea) rfl rfl d_MT_init_53 ?_
  have e_7 : ∀ z, xfr h6 (xup (xup h6 ea z) o (k_MarkerText, [.ref q1, .ref na, .int 0, .ref ca, .int 0, .int (-1), .ref ea, .null, .null])) [o] := fun z => (xfr.rf.up (Or.inr hn_ea)).up (Or.inl (by simp))
  obtain ⟨z7, bs7, b1_6, b2_6, -⟩ := id B_6
  refine x_any (R := fun h2 => h2 o = some (k_MarkerText, [.ref q1, .ref na, .int 0, .ref ca, .int 0, .int (-1), .ref ea, .null, .null]) ∧ isB h2 q1 va [] 16 ∧ h2 na = some (k_aName, List.replicate 6 .null) ∧ h2 ca = some (k_aCondition, List.replicate 8 .null) ∧ h2 ea = some (k_aenv, List.replicate 6 (.long 0)) ∧ xfr h h2 [o]) ⟨(xup_self), (B_6.fr (e_7 _) (by simp; exact xne b1_6 o_6 (by decide)) (by simp; exact xne b2_6 o_6 (by decide))), ((e_7 _).1 _ _ nae_6 (by simp; exact xne nae_6 o_6 (by decide))), ((e_7 _).1 _ _ cae_6 (by simp; exact xne cae_6 o_6 (by decide))), (by rw [xup_ne (Ne.symm n_ea), xup_self]; try rfl), (((f_6.up (Or.inr (f_6.2 _ hn_ea))).up (Or.inl (by simp))))⟩ (fun h7 ⟨o_7, B_7, nae_7, cae_7, eae_7, f_7⟩ => ?_)
  refine x_aload_n d_MT_init_56 rfl rfl ?_
  refine x_new xnw_MT_42 (by omega) (by omega) d_MT_init_57 (fun ch hn_ch hk_ch => ?_)
  refine x_dup d_MT_init_60 rfl ?_
  refine x_callI (As := []) xci_MT_44 (c_Choices_init (by omega) xup_self (by omega) (by omega)) rfl rfl (Nat.le_of_ble_eq_true rfl) d_MT_init_61 ?_
  rintro v g7 c7 n7 ⟨rfl, p_7, g_7, rfl, rfl⟩
  have t_7 : xfr h7 g7 [] := (xfr.rf.up (Or.inr hn_ch)).tr g_7 (fun q hq hq2 => by rw [List.mem_singleton] at hq2; subst hq2; exact absurd hn_ch hq)
  have oo_7 := t_7.1 _ _ o_7 (by simp)
  refine x_putF xf_MT_45_MT xp_MT_7 ⟨_, _, _, rfl, rfl, xw_147⟩ rfl rfl rfl oo_7 rfl rfl d_MT_init_64 ?_
  have e_8 : xfr h7 (xup g7 o (k_MarkerText, [.ref q1, .ref na, .int 0, .ref ca, .int 0, .int (-1), .ref ea, .ref ch, .null])) [o] := (t_7.mono (by simp)).up (Or.inl (by simp))
  obtain ⟨z8, bs8, b1_7, b2_7, -⟩ := id B_7
  refine x_any (R := fun h2 => h2 o = some (k_MarkerText, [.ref q1, .ref na, .int 0, .ref ca, .int 0, .int (-1), .ref ea, .ref ch, .null]) ∧ isB h2 q1 va [] 16 ∧ h2 na = some (k_aName, List.replicate 6 .null) ∧ h2 ca = some (k_aCondition, List.replicate 8 .null) ∧ h2 ea = some (k_aenv, List.replicate 6 (.long 0)) ∧ ch0 h2 ch ∧ xfr h h2 [o]) ⟨(xup_self), (B_7.fr e_8 (by simp; exact xne b1_7 o_7 (by decide)) (by simp; exact xne b2_7 o_7 (by decide))), (e_8.1 _ _ nae_7 (by simp; exact xne nae_7 o_7 (by decide))), (e_8.1 _ _ cae_7 (by simp; exact xne cae_7 o_7 (by decide))), (e_8.1 _ _ eae_7 (by simp; exact xne eae_7 o_7 (by decide))), (p_7.fr (F := [o]) (xfr.rf.up (Or.inl (by simp))) (xno1 oo_7 (by decide))), ((f_7.tr e_8 (fun q _ hq => hq)))⟩ (fun h8 ⟨o_8, B_8, nae_8, cae_8, eae_8, che_8, f_8⟩ => ?_)
  refine x_aload_n d_MT_init_67 rfl rfl ?_
  refine x_new xnw_MT_49 (by omega) (by omega) d_MT_init_68 (fun pa hn_pa hk_pa => ?_)
  refine x_dup d_MT_init_71 rfl ?_
  refine x_callI (As := []) xci_MT_51 (c_Parting_init (by omega) xup_self (by omega) (by omega)) rfl rfl (Nat.le_of_ble_eq_true rfl) d_MT_init_72 ?_
  rintro v g8 c8 n8 ⟨rfl, p_8, g_8, rfl, rfl⟩
  have t_8 : xfr h8 g8 [] := (xfr.rf.up (Or.inr hn_pa)).tr g_8 (fun q hq hq2 => by rw [List.mem_singleton] at hq2; subst hq2; exact absurd hn_pa hq)
  have oo_8 := t_8.1 _ _ o_8 (by simp)
  refine x_putF xf_MT_52_MT xp_MT_8 ⟨_, _, _, rfl, rfl, xw_148⟩ rfl rfl rfl oo_8 rfl rfl d_MT_init_75 ?_
  have e_9 : xfr h8 (xup g8 o (k_MarkerText, [.ref q1, .ref na, .int 0, .ref ca, .int 0, .int (-1), .ref ea, .ref ch, .ref pa])) [o] := (t_8.mono (by simp)).up (Or.inl (by simp))
  obtain ⟨z9, bs9, b1_8, b2_8, -⟩ := id B_8
  refine x_any (R := fun h2 => h2 o = some (k_MarkerText, [.ref q1, .ref na, .int 0, .ref ca, .int 0, .int (-1), .ref ea, .ref ch, .ref pa]) ∧ isB h2 q1 va [] 16 ∧ h2 na = some (k_aName, List.replicate 6 .null) ∧ h2 ca = some (k_aCondition, List.replicate 8 .null) ∧ h2 ea = some (k_aenv, List.replicate 6 (.long 0)) ∧ ch0 h2 ch ∧ pa0 h2 pa ∧ xfr h h2 [o]) ⟨(xup_self), (B_8.fr e_9 (by simp; exact xne b1_8 o_8 (by decide)) (by simp; exact xne b2_8 o_8 (by decide))), (e_9.1 _ _ nae_8 (by simp; exact xne nae_8 o_8 (by decide))), (e_9.1 _ _ cae_8 (by simp; exact xne cae_8 o_8 (by decide))), (e_9.1 _ _ eae_8 (by simp; exact xne eae_8 o_8 (by decide))), (che_8.fr e_9 (xno1 o_8 (by decide))), (p_8.fr (F := [o]) (xfr.rf.up (Or.inl (by simp))) (xno1 oo_8 (by decide))), ((f_8.tr e_9 (fun q _ hq => hq)))⟩ (fun h9 ⟨o_9, B_9, nae_9, cae_9, eae_9, che_9, pae_9, f_9⟩ => ?_)
  refine x_vret d_MT_init_78 rfl ?_
  exact ⟨rfl, ⟨q1, va, na, ca, ea, ch, pa, o_9, B_9, nae_9, cae_9, eae_9, che_9, pae_9⟩, f_9, by omega, by omega⟩
end CH2
end
section
section
abbrev y_MT_takeText : MethodName := ⟨"MarkerText", "takeText", "()Ljava/lang/String;"⟩
abbrev M_MT_takeText : XMt := (y_MT_takeText, prog_1_method_17_code, 2, (some (.object "java/lang/String")))
theorem d_MT_takeText_0 : decode M_MT_takeText.2.1 0 = .ok (.aload_n 0, 1) := by decide +kernel
theorem d_MT_takeText_1 : decode M_MT_takeText.2.1 1 = .ok (.getfield 12, 3) := by decide +kernel
theorem d_MT_takeText_4 : decode M_MT_takeText.2.1 4 = .ok (.invokevirtual 198, 3) := by decide +kernel
theorem xw_464 : (Jvm.Cond.code ({ cls := "java/lang/StringBuilder", name := "toString", desc := "()Ljava/lang/String;" } : Jvm.MethodName) prog_26_method_42_code (1 : Nat) (Option.some (Jvm.ClassFile.FieldType.object "java/lang/String"))) ∈ xT := xT_at 464 (by decide +kernel) (by decide +kernel)
theorem xcb_SB_toString : xcb M_SB_toString 0 := ⟨xw_464, xw_3, by decide, by decide, by decide, by decide +kernel⟩
theorem xw_462 : (Jvm.Cond.instanceMethod ({ cls := "java/lang/StringBuilder", name := "toString", desc := "()Ljava/lang/String;" } : Jvm.MethodName)) ∈ xT := xT_at 462 (by decide +kernel) (by decide +kernel)
theorem xw_461 : (Jvm.Cond.methodLink "MarkerText" (198 : Nat) ({ cls := "java/lang/StringBuilder", name := "toString", desc := "()Ljava/lang/String;" } : Jvm.MethodName)) ∈ xT := xT_at 461 (by decide +kernel) (by decide +kernel)
theorem xw_463 : (Jvm.Cond.selects "java/lang/StringBuilder" ({ cls := "java/lang/StringBuilder", name := "toString", desc := "()Ljava/lang/String;" } : Jvm.MethodName) ({ cls := "java/lang/StringBuilder", name := "toString", desc := "()Ljava/lang/String;" } : Jvm.MethodName)) ∈ xT := xT_at 463 (by decide +kernel) (by decide +kernel)
theorem xcv_MT_198_SB : xCV "MarkerText" 198 "java/lang/StringBuilder" M_SB_toString 0 := ⟨xcb_SB_toString, xw_462, Or.inl ⟨xw_461, Or.inl xw_463⟩⟩
theorem d_MT_takeText_7 : decode M_MT_takeText.2.1 7 = .ok (.astore_n 1, 1) := by decide +kernel
theorem d_MT_takeText_8 : decode M_MT_takeText.2.1 8 = .ok (.aload_n 0, 1) := by decide +kernel
theorem d_MT_takeText_9 : decode M_MT_takeText.2.1 9 = .ok (.getfield 12, 3) := by decide +kernel
theorem d_MT_takeText_12 : decode M_MT_takeText.2.1 12 = .ok (.iconst 0, 1) := by decide +kernel
theorem d_MT_takeText_13 : decode M_MT_takeText.2.1 13 = .ok (.invokevirtual 201, 3) := by decide +kernel
theorem xw_647 : (Jvm.Cond.code ({ cls := "java/lang/StringBuilder", name := "setLength", desc := "(I)V" } : Jvm.MethodName) prog_26_method_89_code (2 : Nat) (Option.none : Option Jvm.ClassFile.FieldType)) ∈ xT := xT_at 647 (by decide +kernel) (by decide +kernel)
theorem xcb_SB_setLength : xcb M_SB_setLength 1 := ⟨xw_647, xw_3, by decide, by decide, by decide, by decide +kernel⟩
theorem xw_645 : (Jvm.Cond.instanceMethod ({ cls := "java/lang/StringBuilder", name := "setLength", desc := "(I)V" } : Jvm.MethodName)) ∈ xT := xT_at 645 (by decide +kernel) (by decide +kernel)
theorem xw_644 : (Jvm.Cond.methodLink "MarkerText" (201 : Nat) ({ cls := "java/lang/StringBuilder", name := "setLength", desc := "(I)V" } : Jvm.MethodName)) ∈ xT := xT_at 644 (by decide +kernel) (by decide +kernel)
theorem xw_646 : (Jvm.Cond.selects "java/lang/StringBuilder" ({ cls := "java/lang/StringBuilder", name := "setLength", desc := "(I)V" } : Jvm.MethodName) ({ cls := "java/lang/StringBuilder", name := "setLength", desc := "(I)V" } : Jvm.MethodName)) ∈ xT := xT_at 646 (by decide +kernel) (by decide +kernel)
theorem xcv_MT_201_SB : xCV "MarkerText" 201 "java/lang/StringBuilder" M_SB_setLength 1 := ⟨xcb_SB_setLength, xw_645, Or.inl ⟨xw_644, Or.inl xw_646⟩⟩
theorem d_MT_takeText_16 : decode M_MT_takeText.2.1 16 = .ok (.aload_n 1, 1) := by decide +kernel
theorem d_MT_takeText_17 : decode M_MT_takeText.2.1 17 = .ok (.areturn, 1) := by decide +kernel
abbrev y_MT_nameAt : MethodName := ⟨"MarkerText", "nameAt", "(I)LMarkerText$Name;"⟩
abbrev M_MT_nameAt : XMt := (y_MT_nameAt, prog_1_method_18_code, 2, (some (.object "MarkerText$Name")))
theorem d_MT_nameAt_0 : decode M_MT_nameAt.2.1 0 = .ok (.iload_n 1, 1) := by decide +kernel
theorem d_MT_nameAt_1 : decode M_MT_nameAt.2.1 1 = .ok (.ifCond .lt 18, 3) := by decide +kernel
theorem d_MT_nameAt_19 : decode M_MT_nameAt.2.1 19 = .ok (.aconst_null, 1) := by decide +kernel
theorem d_MT_nameAt_20 : decode M_MT_nameAt.2.1 20 = .ok (.areturn, 1) := by decide +kernel
theorem d_MT_nameAt_4 : decode M_MT_nameAt.2.1 4 = .ok (.iload_n 1, 1) := by decide +kernel
theorem d_MT_nameAt_5 : decode M_MT_nameAt.2.1 5 = .ok (.bipush 6, 2) := by decide +kernel
theorem d_MT_nameAt_7 : decode M_MT_nameAt.2.1 7 = .ok (.if_icmp .ge 12, 3) := by decide +kernel
theorem d_MT_nameAt_10 : decode M_MT_nameAt.2.1 10 = .ok (.aload_n 0, 1) := by decide +kernel
theorem d_MT_nameAt_11 : decode M_MT_nameAt.2.1 11 = .ok (.getfield 18, 3) := by decide +kernel
theorem d_MT_nameAt_14 : decode M_MT_nameAt.2.1 14 = .ok (.iload_n 1, 1) := by decide +kernel
theorem d_MT_nameAt_15 : decode M_MT_nameAt.2.1 15 = .ok (.aaload, 1) := by decide +kernel
theorem d_MT_nameAt_16 : decode M_MT_nameAt.2.1 16 = .ok (.goto 4, 3) := by decide +kernel
abbrev y_MT_conditionAt : MethodName := ⟨"MarkerText", "conditionAt", "(I)LMarkerText$Condition;"⟩
abbrev M_MT_conditionAt : XMt := (y_MT_conditionAt, prog_1_method_19_code, 2, (some (.object "MarkerText$Condition")))
theorem d_MT_conditionAt_0 : decode M_MT_conditionAt.2.1 0 = .ok (.iload_n 1, 1) := by decide +kernel
theorem d_MT_conditionAt_1 : decode M_MT_conditionAt.2.1 1 = .ok (.ifCond .lt 18, 3) := by decide +kernel
theorem d_MT_conditionAt_19 : decode M_MT_conditionAt.2.1 19 = .ok (.aconst_null, 1) := by decide +kernel
theorem d_MT_conditionAt_20 : decode M_MT_conditionAt.2.1 20 = .ok (.areturn, 1) := by decide +kernel
theorem d_MT_conditionAt_4 : decode M_MT_conditionAt.2.1 4 = .ok (.iload_n 1, 1) := by decide +kernel
theorem d_MT_conditionAt_5 : decode M_MT_conditionAt.2.1 5 = .ok (.bipush 8, 2) := by decide +kernel
theorem d_MT_conditionAt_7 : decode M_MT_conditionAt.2.1 7 = .ok (.if_icmp .ge 12, 3) := by decide +kernel
theorem d_MT_conditionAt_10 : decode M_MT_conditionAt.2.1 10 = .ok (.aload_n 0, 1) := by decide +kernel
theorem d_MT_conditionAt_11 : decode M_MT_conditionAt.2.1 11 = .ok (.getfield 28, 3) := by decide +kernel
theorem d_MT_conditionAt_14 : decode M_MT_conditionAt.2.1 14 = .ok (.iload_n 1, 1) := by decide +kernel
theorem d_MT_conditionAt_15 : decode M_MT_conditionAt.2.1 15 = .ok (.aaload, 1) := by decide +kernel
theorem d_MT_conditionAt_16 : decode M_MT_conditionAt.2.1 16 = .ok (.goto 4, 3) := by decide +kernel
abbrev y_Parting_has : MethodName := ⟨"MarkerText$Parting", "has", "(I)Z"⟩
abbrev M_Parting_has : XMt := (y_Parting_has, prog_9_method_4_code, 2, (some .boolean))
theorem d_Parting_has_0 : decode M_Parting_has.2.1 0 = .ok (.iload_n 1, 1) := by decide +kernel
theorem d_Parting_has_1 : decode M_Parting_has.2.1 1 = .ok (.ifCond .lt 15, 3) := by decide +kernel
theorem d_Parting_has_16 : decode M_Parting_has.2.1 16 = .ok (.iconst 0, 1) := by decide +kernel
theorem d_Parting_has_17 : decode M_Parting_has.2.1 17 = .ok (.ireturn, 1) := by decide +kernel
theorem d_Parting_has_4 : decode M_Parting_has.2.1 4 = .ok (.iload_n 1, 1) := by decide +kernel
theorem d_Parting_has_5 : decode M_Parting_has.2.1 5 = .ok (.aload_n 0, 1) := by decide +kernel
theorem d_Parting_has_6 : decode M_Parting_has.2.1 6 = .ok (.getfield 9, 3) := by decide +kernel
theorem d_Parting_has_9 : decode M_Parting_has.2.1 9 = .ok (.if_icmp .ge 7, 3) := by decide +kernel
abbrev y_MT_type : MethodName := ⟨"MarkerText", "type", "(C)Z"⟩
abbrev M_MT_type : XMt := (y_MT_type, prog_1_method_2_code, 2, (some .boolean))
theorem d_MT_type_0 : decode M_MT_type.2.1 0 = .ok (.iload_n 1, 1) := by decide +kernel
theorem d_MT_type_1 : decode M_MT_type.2.1 1 = .ok (.bipush 32, 2) := by decide +kernel
theorem d_MT_type_3 : decode M_MT_type.2.1 3 = .ok (.if_icmp .lt 22, 3) := by decide +kernel
theorem d_MT_type_6 : decode M_MT_type.2.1 6 = .ok (.iload_n 1, 1) := by decide +kernel
theorem d_MT_type_7 : decode M_MT_type.2.1 7 = .ok (.bipush 126, 2) := by decide +kernel
theorem d_MT_type_9 : decode M_MT_type.2.1 9 = .ok (.if_icmp .gt 16, 3) := by decide +kernel
theorem d_MT_type_12 : decode M_MT_type.2.1 12 = .ok (.aload_n 0, 1) := by decide +kernel
theorem d_MT_type_13 : decode M_MT_type.2.1 13 = .ok (.getfield 12, 3) := by decide +kernel
theorem d_MT_type_16 : decode M_MT_type.2.1 16 = .ok (.invokevirtual 56, 3) := by decide +kernel
theorem xw_172 : (Jvm.Cond.methodLink "MarkerText" (56 : Nat) ({ cls := "java/lang/StringBuilder", name := "length", desc := "()I" } : Jvm.MethodName)) ∈ xT := xT_at 172 (by decide +kernel) (by decide +kernel)
theorem xw_174 : (Jvm.Cond.selects "java/lang/StringBuilder" ({ cls := "java/lang/StringBuilder", name := "length", desc := "()I" } : Jvm.MethodName) ({ cls := "java/lang/StringBuilder", name := "length", desc := "()I" } : Jvm.MethodName)) ∈ xT := xT_at 174 (by decide +kernel) (by decide +kernel)
theorem xcv_MT_56_SB : xCV "MarkerText" 56 "java/lang/StringBuilder" M_SB_length 0 := ⟨xcb_SB_length, xw_173, Or.inl ⟨xw_172, Or.inl xw_174⟩⟩
theorem d_MT_type_19 : decode M_MT_type.2.1 19 = .ok (.sipush 160, 3) := by decide +kernel
theorem d_MT_type_22 : decode M_MT_type.2.1 22 = .ok (.if_icmp .lt 5, 3) := by decide +kernel
theorem d_MT_type_27 : decode M_MT_type.2.1 27 = .ok (.aload_n 0, 1) := by decide +kernel
theorem d_MT_type_28 : decode M_MT_type.2.1 28 = .ok (.getfield 12, 3) := by decide +kernel
theorem d_MT_type_31 : decode M_MT_type.2.1 31 = .ok (.iload_n 1, 1) := by decide +kernel
theorem d_MT_type_32 : decode M_MT_type.2.1 32 = .ok (.invokevirtual 60, 3) := by decide +kernel
theorem xw_182 : (Jvm.Cond.code ({ cls := "java/lang/StringBuilder", name := "append", desc := "(C)Ljava/lang/StringBuilder;" } : Jvm.MethodName) prog_26_method_14_code (2 : Nat) (Option.some (Jvm.ClassFile.FieldType.object "java/lang/StringBuilder"))) ∈ xT := xT_at 182 (by decide +kernel) (by decide +kernel)
theorem xcb_SB_append_C : xcb M_SB_append_C 1 := ⟨xw_182, xw_3, by decide, by decide, by decide, by decide +kernel⟩
theorem xw_180 : (Jvm.Cond.instanceMethod ({ cls := "java/lang/StringBuilder", name := "append", desc := "(C)Ljava/lang/StringBuilder;" } : Jvm.MethodName)) ∈ xT := xT_at 180 (by decide +kernel) (by decide +kernel)
theorem xw_179 : (Jvm.Cond.methodLink "MarkerText" (60 : Nat) ({ cls := "java/lang/StringBuilder", name := "append", desc := "(C)Ljava/lang/StringBuilder;" } : Jvm.MethodName)) ∈ xT := xT_at 179 (by decide +kernel) (by decide +kernel)
theorem xw_181 : (Jvm.Cond.selects "java/lang/StringBuilder" ({ cls := "java/lang/StringBuilder", name := "append", desc := "(C)Ljava/lang/StringBuilder;" } : Jvm.MethodName) ({ cls := "java/lang/StringBuilder", name := "append", desc := "(C)Ljava/lang/StringBuilder;" } : Jvm.MethodName)) ∈ xT := xT_at 181 (by decide +kernel) (by decide +kernel)
theorem xcv_MT_60_SB : xCV "MarkerText" 60 "java/lang/StringBuilder" M_SB_append_C 1 := ⟨xcb_SB_append_C, xw_180, Or.inl ⟨xw_179, Or.inl xw_181⟩⟩
theorem d_MT_type_35 : decode M_MT_type.2.1 35 = .ok (.pop, 1) := by decide +kernel
theorem d_MT_type_36 : decode M_MT_type.2.1 36 = .ok (.iconst 1, 1) := by decide +kernel
theorem d_MT_type_37 : decode M_MT_type.2.1 37 = .ok (.ireturn, 1) := by decide +kernel
theorem d_MT_type_25 : decode M_MT_type.2.1 25 = .ok (.iconst 0, 1) := by decide +kernel
theorem d_MT_type_26 : decode M_MT_type.2.1 26 = .ok (.ireturn, 1) := by decide +kernel
abbrev y_MT_place : MethodName := ⟨"MarkerText", "place", "()I"⟩
abbrev M_MT_place : XMt := (y_MT_place, prog_1_method_6_code, 1, (some .int))
theorem d_MT_place_0 : decode M_MT_place.2.1 0 = .ok (.aload_n 0, 1) := by decide +kernel
theorem d_MT_place_1 : decode M_MT_place.2.1 1 = .ok (.getfield 35, 3) := by decide +kernel
theorem d_MT_place_4 : decode M_MT_place.2.1 4 = .ok (.ireturn, 1) := by decide +kernel
abbrev y_MT_holds : MethodName := ⟨"MarkerText", "holds", "(I)Z"⟩
abbrev M_MT_holds : XMt := (y_MT_holds, prog_1_method_8_code, 3, (some .boolean))
theorem d_MT_holds_0 : decode M_MT_holds.2.1 0 = .ok (.aload_n 0, 1) := by decide +kernel
theorem d_MT_holds_1 : decode M_MT_holds.2.1 1 = .ok (.iload_n 1, 1) := by decide +kernel
theorem d_MT_holds_2 : decode M_MT_holds.2.1 2 = .ok (.invokevirtual 143, 3) := by decide +kernel
theorem xw_285 : (Jvm.Cond.code ({ cls := "MarkerText", name := "conditionAt", desc := "(I)LMarkerText$Condition;" } : Jvm.MethodName) prog_1_method_19_code (2 : Nat) (Option.some (Jvm.ClassFile.FieldType.object "MarkerText$Condition"))) ∈ xT := xT_at 285 (by decide +kernel) (by decide +kernel)
theorem xcb_MT_conditionAt : xcb M_MT_conditionAt 1 := ⟨xw_285, xw_1, by decide, by decide, by decide, by decide +kernel⟩
theorem xw_284 : (Jvm.Cond.instanceMethod ({ cls := "MarkerText", name := "conditionAt", desc := "(I)LMarkerText$Condition;" } : Jvm.MethodName)) ∈ xT := xT_at 284 (by decide +kernel) (by decide +kernel)
theorem xw_282 : (Jvm.Cond.methodLink "MarkerText" (143 : Nat) ({ cls := "MarkerText", name := "conditionAt", desc := "(I)LMarkerText$Condition;" } : Jvm.MethodName)) ∈ xT := xT_at 282 (by decide +kernel) (by decide +kernel)
theorem xsel_MT_conditionAt : Cond.selects "MarkerText" y_MT_conditionAt y_MT_conditionAt ∈ xT := xT_sel (q := (y_MT_conditionAt, 9)) (by decide +kernel) (by decide +kernel)
theorem xcv_MT_143_MT : xCV "MarkerText" 143 "MarkerText" M_MT_conditionAt 1 := ⟨xcb_MT_conditionAt, xw_284, Or.inl ⟨xw_282, Or.inl xsel_MT_conditionAt⟩⟩
theorem d_MT_holds_5 : decode M_MT_holds.2.1 5 = .ok (.astore_n 2, 1) := by decide +kernel
theorem d_MT_holds_6 : decode M_MT_holds.2.1 6 = .ok (.aload_n 2, 1) := by decide +kernel
theorem d_MT_holds_7 : decode M_MT_holds.2.1 7 = .ok (.ifnull 21, 3) := by decide +kernel
theorem d_MT_holds_28 : decode M_MT_holds.2.1 28 = .ok (.iconst 0, 1) := by decide +kernel
theorem d_MT_holds_29 : decode M_MT_holds.2.1 29 = .ok (.ireturn, 1) := by decide +kernel
abbrev y_MT_ever : MethodName := ⟨"MarkerText", "ever", "(I)I"⟩
abbrev M_MT_ever : XMt := (y_MT_ever, prog_1_method_9_code, 2, (some .int))
theorem d_MT_ever_0 : decode M_MT_ever.2.1 0 = .ok (.aload_n 0, 1) := by decide +kernel
theorem d_MT_ever_1 : decode M_MT_ever.2.1 1 = .ok (.iload_n 1, 1) := by decide +kernel
theorem d_MT_ever_2 : decode M_MT_ever.2.1 2 = .ok (.invokevirtual 143, 3) := by decide +kernel
theorem d_MT_ever_5 : decode M_MT_ever.2.1 5 = .ok (.ifnonnull 5, 3) := by decide +kernel
theorem d_MT_ever_8 : decode M_MT_ever.2.1 8 = .ok (.iconst (-1), 1) := by decide +kernel
theorem d_MT_ever_9 : decode M_MT_ever.2.1 9 = .ok (.ireturn, 1) := by decide +kernel
abbrev y_MT_implies : MethodName := ⟨"MarkerText", "implies", "(II)I"⟩
abbrev M_MT_implies : XMt := (y_MT_implies, prog_1_method_10_code, 3, (some .int))
theorem d_MT_implies_0 : decode M_MT_implies.2.1 0 = .ok (.aload_n 0, 1) := by decide +kernel
theorem d_MT_implies_1 : decode M_MT_implies.2.1 1 = .ok (.iload_n 1, 1) := by decide +kernel
theorem d_MT_implies_2 : decode M_MT_implies.2.1 2 = .ok (.invokevirtual 143, 3) := by decide +kernel
theorem d_MT_implies_5 : decode M_MT_implies.2.1 5 = .ok (.ifnull 11, 3) := by decide +kernel
theorem d_MT_implies_16 : decode M_MT_implies.2.1 16 = .ok (.iconst (-1), 1) := by decide +kernel
theorem d_MT_implies_17 : decode M_MT_implies.2.1 17 = .ok (.ireturn, 1) := by decide +kernel
abbrev y_MT_apart : MethodName := ⟨"MarkerText", "apart", "(II)I"⟩
abbrev M_MT_apart : XMt := (y_MT_apart, prog_1_method_11_code, 3, (some .int))
theorem d_MT_apart_0 : decode M_MT_apart.2.1 0 = .ok (.aload_n 0, 1) := by decide +kernel
theorem d_MT_apart_1 : decode M_MT_apart.2.1 1 = .ok (.iload_n 1, 1) := by decide +kernel
theorem d_MT_apart_2 : decode M_MT_apart.2.1 2 = .ok (.invokevirtual 143, 3) := by decide +kernel
theorem d_MT_apart_5 : decode M_MT_apart.2.1 5 = .ok (.ifnull 11, 3) := by decide +kernel
theorem d_MT_apart_16 : decode M_MT_apart.2.1 16 = .ok (.iconst (-1), 1) := by decide +kernel
theorem d_MT_apart_17 : decode M_MT_apart.2.1 17 = .ok (.ireturn, 1) := by decide +kernel
abbrev y_MT_many : MethodName := ⟨"MarkerText", "many", "(I)I"⟩
abbrev M_MT_many : XMt := (y_MT_many, prog_1_method_13_code, 2, (some .int))
theorem d_MT_many_0 : decode M_MT_many.2.1 0 = .ok (.aload_n 0, 1) := by decide +kernel
theorem d_MT_many_1 : decode M_MT_many.2.1 1 = .ok (.getfield 52, 3) := by decide +kernel
theorem d_MT_many_4 : decode M_MT_many.2.1 4 = .ok (.iload_n 1, 1) := by decide +kernel
theorem d_MT_many_5 : decode M_MT_many.2.1 5 = .ok (.invokevirtual 176, 3) := by decide +kernel
theorem xw_394 : (Jvm.Cond.code ({ cls := "MarkerText$Parting", name := "has", desc := "(I)Z" } : Jvm.MethodName) prog_9_method_4_code (2 : Nat) (Option.some Jvm.ClassFile.FieldType.boolean)) ∈ xT := xT_at 394 (by decide +kernel) (by decide +kernel)
theorem xcb_Parting_has : xcb M_Parting_has 1 := ⟨xw_394, xw_7, by decide, by decide, by decide, by decide +kernel⟩
theorem xw_392 : (Jvm.Cond.instanceMethod ({ cls := "MarkerText$Parting", name := "has", desc := "(I)Z" } : Jvm.MethodName)) ∈ xT := xT_at 392 (by decide +kernel) (by decide +kernel)
theorem xw_400 : (Jvm.Cond.methodLink "MarkerText" (176 : Nat) ({ cls := "MarkerText$Parting", name := "has", desc := "(I)Z" } : Jvm.MethodName)) ∈ xT := xT_at 400 (by decide +kernel) (by decide +kernel)
theorem xw_393 : (Jvm.Cond.selects "MarkerText$Parting" ({ cls := "MarkerText$Parting", name := "has", desc := "(I)Z" } : Jvm.MethodName) ({ cls := "MarkerText$Parting", name := "has", desc := "(I)Z" } : Jvm.MethodName)) ∈ xT := xT_at 393 (by decide +kernel) (by decide +kernel)
theorem xcv_MT_176_Parting : xCV "MarkerText" 176 "MarkerText$Parting" M_Parting_has 1 := ⟨xcb_Parting_has, xw_392, Or.inl ⟨xw_400, Or.inl xw_393⟩⟩
theorem d_MT_many_8 : decode M_MT_many.2.1 8 = .ok (.ifCond .eq 15, 3) := by decide +kernel
theorem d_MT_many_23 : decode M_MT_many.2.1 23 = .ok (.iconst (-1), 1) := by decide +kernel
theorem d_MT_many_24 : decode M_MT_many.2.1 24 = .ok (.ireturn, 1) := by decide +kernel
abbrev y_MT_inClass : MethodName := ⟨"MarkerText", "inClass", "(II)Z"⟩
abbrev M_MT_inClass : XMt := (y_MT_inClass, prog_1_method_14_code, 3, (some .boolean))
theorem d_MT_inClass_0 : decode M_MT_inClass.2.1 0 = .ok (.aload_n 0, 1) := by decide +kernel
theorem d_MT_inClass_1 : decode M_MT_inClass.2.1 1 = .ok (.getfield 52, 3) := by decide +kernel
theorem d_MT_inClass_4 : decode M_MT_inClass.2.1 4 = .ok (.iload_n 1, 1) := by decide +kernel
theorem d_MT_inClass_5 : decode M_MT_inClass.2.1 5 = .ok (.invokevirtual 176, 3) := by decide +kernel
theorem d_MT_inClass_8 : decode M_MT_inClass.2.1 8 = .ok (.ifCond .eq 32, 3) := by decide +kernel
theorem d_MT_inClass_40 : decode M_MT_inClass.2.1 40 = .ok (.iconst 0, 1) := by decide +kernel
theorem d_MT_inClass_41 : decode M_MT_inClass.2.1 41 = .ok (.ireturn, 1) := by decide +kernel
abbrev y_MT_sample : MethodName := ⟨"MarkerText", "sample", "(II)I"⟩
abbrev M_MT_sample : XMt := (y_MT_sample, prog_1_method_15_code, 3, (some .int))
theorem d_MT_sample_0 : decode M_MT_sample.2.1 0 = .ok (.aload_n 0, 1) := by decide +kernel
theorem d_MT_sample_1 : decode M_MT_sample.2.1 1 = .ok (.getfield 52, 3) := by decide +kernel
theorem d_MT_sample_4 : decode M_MT_sample.2.1 4 = .ok (.iload_n 1, 1) := by decide +kernel
theorem d_MT_sample_5 : decode M_MT_sample.2.1 5 = .ok (.invokevirtual 176, 3) := by decide +kernel
theorem d_MT_sample_8 : decode M_MT_sample.2.1 8 = .ok (.ifCond .eq 23, 3) := by decide +kernel
theorem d_MT_sample_31 : decode M_MT_sample.2.1 31 = .ok (.iconst (-1), 1) := by decide +kernel
theorem d_MT_sample_32 : decode M_MT_sample.2.1 32 = .ok (.ireturn, 1) := by decide +kernel
abbrev y_MT_printed : MethodName := ⟨"MarkerText", "printed", "(II)I"⟩
abbrev M_MT_printed : XMt := (y_MT_printed, prog_1_method_16_code, 4, (some .int))
theorem d_MT_printed_0 : decode M_MT_printed.2.1 0 = .ok (.aload_n 0, 1) := by decide +kernel
theorem d_MT_printed_1 : decode M_MT_printed.2.1 1 = .ok (.iload_n 1, 1) := by decide +kernel
theorem d_MT_printed_2 : decode M_MT_printed.2.1 2 = .ok (.invokevirtual 143, 3) := by decide +kernel
theorem d_MT_printed_5 : decode M_MT_printed.2.1 5 = .ok (.astore_n 3, 1) := by decide +kernel
theorem d_MT_printed_6 : decode M_MT_printed.2.1 6 = .ok (.aload_n 3, 1) := by decide +kernel
theorem d_MT_printed_7 : decode M_MT_printed.2.1 7 = .ok (.ifnull 29, 3) := by decide +kernel
theorem d_MT_printed_36 : decode M_MT_printed.2.1 36 = .ok (.iconst 0, 1) := by decide +kernel
theorem d_MT_printed_37 : decode M_MT_printed.2.1 37 = .ok (.ireturn, 1) := by decide +kernel
end
section P1A
variable {l : Launch} {G : XG} {h : XH} {c n d : Nat}
/-- TEXT is taken -/
theorem c_takeText (hd : 6 ≤ d) {x ta va m : Nat} {t : List Nat} {e : List Value} (hx : h x = some (k_MarkerText, .ref ta :: e)) (hB : isB h ta va t m) (hm : m < 2 ^ 18) (hc : c + 2 ≤ xCB) (hn : n + t.length + 4 ≤ xSB) : XM l G d M_MT_takeText [.ref x] h c n (fun v h' c' n' => ∃ q, v = some (.ref q) ∧ isS G h' q t ∧ isB h' ta va [] m ∧ xfr h h' [ta] ∧ c' ≤ c + 2 ∧ n' ≤ n + t.length + 4) := by
  obtain ⟨d, rfl⟩ : ∃ q, d = q + 1 := ⟨d - 1, by omega⟩
  obtain ⟨z, bs, b1, b2, -⟩ := id hB
  refine XM.of (by decide +kernel) (Nat.le_of_ble_eq_true rfl) ?_
  refine x_aload_n d_MT_takeText_0 rfl rfl ?_
  refine x_get xf_MT_12_MT (Or.inl hx) rfl d_MT_takeText_1 ?_
  refine x_callV (As := []) (k := k_StringBuilder) rfl xcv_MT_198_SB (Or.inl b1) (c_SB_toString (by omega) hB hm hc hn) rfl rfl (Nat.le_of_ble_eq_true rfl) d_MT_takeText_4 ?_
  rintro v h1 c1 n1 ⟨q, rfl, hS, f1, hc1, hn1⟩
  have x1 := f1.1 _ _ hx (by simp)
  have B1 := hB.fr f1 (by simp) (by simp)
  obtain ⟨z1, bs1, b11, b12, -⟩ := id B1
  refine x_astore_n (L' := [_, _]) d_MT_takeText_7 rfl rfl rfl ?_
  refine x_aload_n d_MT_takeText_8 rfl rfl ?_
  refine x_get xf_MT_12_MT (Or.inl x1) rfl d_MT_takeText_9 ?_
  refine x_iconst (v := 0) d_MT_takeText_12 (by decide) ?_
  refine x_callV (As := [_]) (k := k_StringBuilder) rfl xcv_MT_201_SB (Or.inl b11) (c_SB_setLength0 (by omega) B1 hm) rfl rfl (Nat.le_of_ble_eq_true rfl) d_MT_takeText_13 ?_
  rintro v h2 c2 n2 ⟨rfl, B2, f2, rfl, rfl⟩
  refine x_aload_n d_MT_takeText_16 rfl rfl ?_
  refine x_aret d_MT_takeText_17 rfl rfl ?_
  exact ⟨q, rfl, hS.fr f2 (xno1 b11 (by decide)), B2, (f1.mono (by simp)).tr f2 (fun q _ hq => hq), by omega, by omega⟩
theorem i32_cl {k : Int32} {N : Int32} {m : Nat} (hN : N.toInt = m) (h0 : ¬ k < 0) (h1 : ¬ N ≤ k) : k.toNatClampNeg < m := by
  rw [Int32.le_iff_toInt_le] at h1
  rw [Int32.lt_iff_toInt_lt] at h0
  have e0 : (0 : Int32).toInt = 0 := by decide
  show k.toInt.toNat < m
  omega
theorem rep_at {k : Int32} {m : Nat} {v : Value} (hk : k.toNatClampNeg < m) : (List.replicate m v)[k.toNatClampNeg]? = some v := by rw [List.getElem?_replicate, if_pos hk]
theorem c_nameAt0 {x na : Nat} {k : Int32} {a : Value} {e : List Value} (hx : h x = some (k_MarkerText, a :: .ref na :: e)) (hN : h na = some (k_aName, List.replicate 6 .null)) : XM l G d M_MT_nameAt [.ref x, .int k] h c n (xSame .null h c n) := by
  refine XM.of (by decide +kernel) (Nat.le_of_ble_eq_true rfl) ?_
  refine x_iload_n d_MT_nameAt_0 rfl ?_
  refine x_if_lt (tgt := 19) d_MT_nameAt_1 (by decide) (fun hc1 => ?_) (fun hc1 => ?_)
  · refine x_null d_MT_nameAt_19 ?_
    refine x_aret d_MT_nameAt_20 rfl rfl ?_
    exact ⟨rfl, rfl, rfl, rfl⟩
  · refine x_iload_n d_MT_nameAt_4 rfl ?_
    refine x_bipush (v := 6) d_MT_nameAt_5 (by decide) ?_
    refine x_icmp_ge (tgt := 19) d_MT_nameAt_7 (by decide) (fun hc7 => ?_) (fun hc7 => ?_)
    · refine x_null d_MT_nameAt_19 ?_
      refine x_aret d_MT_nameAt_20 rfl rfl ?_
      exact ⟨rfl, rfl, rfl, rfl⟩
    · refine x_aload_n d_MT_nameAt_10 rfl rfl ?_
      refine x_get xf_MT_18_MT (Or.inl hx) rfl d_MT_nameAt_11 ?_
      refine x_iload_n d_MT_nameAt_14 rfl ?_
      refine x_aald (k := k_aName) rfl rfl (Or.inl hN) hc1 (rep_at (i32_cl (N := 6) (by decide) hc1 hc7)) d_MT_nameAt_15 ?_
      refine x_goto (tgt := 20) d_MT_nameAt_16 (by decide) ?_
      refine x_aret d_MT_nameAt_20 rfl rfl ?_
      exact ⟨rfl, rfl, rfl, rfl⟩
theorem c_conditionAt0 {x ca : Nat} {k : Int32} {a b a2 : Value} {e : List Value} (hx : h x = some (k_MarkerText, a :: b :: a2 :: .ref ca :: e)) (hC : h ca = some (k_aCondition, List.replicate 8 .null)) : XM l G d M_MT_conditionAt [.ref x, .int k] h c n (xSame .null h c n) := by
  refine XM.of (by decide +kernel) (Nat.le_of_ble_eq_true rfl) ?_
  refine x_iload_n d_MT_conditionAt_0 rfl ?_
  refine x_if_lt (tgt := 19) d_MT_conditionAt_1 (by decide) (fun hc1 => ?_) (fun hc1 => ?_)
  · refine x_null d_MT_conditionAt_19 ?_
    refine x_aret d_MT_conditionAt_20 rfl rfl ?_
    exact ⟨rfl, rfl, rfl, rfl⟩
  · refine x_iload_n d_MT_conditionAt_4 rfl ?_
    refine x_bipush (v := 8) d_MT_conditionAt_5 (by decide) ?_
    refine x_icmp_ge (tgt := 19) d_MT_conditionAt_7 (by decide) (fun hc7 => ?_) (fun hc7 => ?_)
    · refine x_null d_MT_conditionAt_19 ?_
      refine x_aret d_MT_conditionAt_20 rfl rfl ?_
      exact ⟨rfl, rfl, rfl, rfl⟩
    · refine x_aload_n d_MT_conditionAt_10 rfl rfl ?_
      refine x_get xf_MT_28_MT (Or.inl hx) rfl d_MT_conditionAt_11 ?_
      refine x_iload_n d_MT_conditionAt_14 rfl ?_
      refine x_aald (k := k_aCondition) rfl rfl (Or.inl hC) hc1 (rep_at (i32_cl (N := 8) (by decide) hc1 hc7)) d_MT_conditionAt_15 ?_
      refine x_goto (tgt := 20) d_MT_conditionAt_16 (by decide) ?_
      refine x_aret d_MT_conditionAt_20 rfl rfl ?_
      exact ⟨rfl, rfl, rfl, rfl⟩
theorem c_has0 {p : Nat} {k : Int32} {e : List Value} (hp : h p = some (k_Parting, .int 0 :: e)) : XM l G d M_Parting_has [.ref p, .int k] h c n (xSame (.int 0) h c n) := by
  refine XM.of (by decide +kernel) (Nat.le_of_ble_eq_true rfl) ?_
  refine x_iload_n d_Parting_has_0 rfl ?_
  refine x_if_lt (tgt := 16) d_Parting_has_1 (by decide) (fun hc1 => ?_) (fun hc1 => ?_)
  · refine x_iconst (v := 0) d_Parting_has_16 (by decide) ?_
    refine x_zret d_Parting_has_17 rfl rfl ?_
    exact ⟨rfl, rfl, rfl, rfl⟩
  · refine x_iload_n d_Parting_has_4 rfl ?_
    refine x_aload_n d_Parting_has_5 rfl rfl ?_
    refine x_get xf_Parting_9_Parting (Or.inl hp) rfl d_Parting_has_6 ?_
    refine x_icmp_ge (tgt := 16) d_Parting_has_9 (by decide) (fun _ => ?_) (fun hn => absurd (Int32.not_lt.mp hc1) hn)
    refine x_iconst (v := 0) d_Parting_has_16 (by decide) ?_
    refine x_zret d_Parting_has_17 rfl rfl ?_
    exact ⟨rfl, rfl, rfl, rfl⟩
/-- what the reference and the law keep their numbers in: the class writes into none of it -/
abbrev RK : List Nat := [k_MarkerTextModel, k_aint, k_along, k_aboolean, k_avals]
def xap (h h' : XH) : Prop := ∃ F, xfr h h' F ∧ xno h F RK
theorem xq.tr {ks : List Nat} {h1 h2 : XH} (a : ∃ F, xfr h h1 F ∧ xno h F ks) (b : ∃ F, xfr h1 h2 F ∧ xno h1 F ks) : ∃ F, xfr h h2 F ∧ xno h F ks := by
  obtain ⟨F1, f1, n1⟩ := a
  obtain ⟨F2, f2, n2⟩ := b
  refine ⟨F1 ++ F2, (f1.mono (fun q hq => List.mem_append_left _ hq)).tr f2 (fun q _ hq => List.mem_append_right _ hq), fun q hq e he hk => ?_⟩
  by_cases hq1 : q ∈ F1
  · exact n1 q hq1 e he hk
  · rcases List.mem_append.mp hq with z | z
    · exact hq1 z
    · exact n2 q z e (f1.1 q e he hq1) hk
theorem xap.rf : xap h h := ⟨[], xfr.rf, fun q hq => by cases hq⟩
abbrev pA (w : Option Value) (h : XH) (c n : Nat) : Option Value → XH → Nat → Nat → Prop := fun v h' c' n' => v = w ∧ xap h h' ∧ c' ≤ c + 200 ∧ n' ≤ n + 3000
theorem c_type0 (hd : 6 ≤ d) {x ch : Nat} (hx : mt0 h x) (hch : ch < 65536) (hc : c + 200 ≤ xCB) (hn : n + 3000 ≤ xSB) : XM l G d M_MT_type [.ref x, .int (nI ch)] h c n (pA (some (.int (if 32 ≤ ch ∧ ch ≤ 126 then 1 else 0))) h c n) := by
  obtain ⟨d, rfl⟩ : ∃ q, d = q + 1 := ⟨d - 1, by omega⟩
  obtain ⟨ta, va, na, ca, ea, co, pa, e0, hB, -⟩ := hx
  obtain ⟨z, bs, b1, b2, -⟩ := id hB
  refine XM.of (by decide +kernel) (Nat.le_of_ble_eq_true rfl) ?_
  by_cases g1 : 32 ≤ ch
  · by_cases g2 : ch ≤ 126
    · rw [if_pos ⟨g1, g2⟩]
      refine x_iload_n d_MT_type_0 rfl ?_
      refine x_bipush (v := 32) d_MT_type_1 (by decide) ?_
      refine x_icmp_lt (tgt := 25) d_MT_type_3 (by decide) (fun ht => absurd ht (nI_nlt (b := 32) g1 (by omega))) (fun _ => ?_)
      refine x_iload_n d_MT_type_6 rfl ?_
      refine x_bipush (v := 126) d_MT_type_7 (by decide) ?_
      refine x_icmp_gt (tgt := 25) d_MT_type_9 (by decide) (fun ht => absurd ht (nI_nlt (a := 126) g2 (by omega))) (fun _ => ?_)
      refine x_aload_n d_MT_type_12 rfl rfl ?_
      refine x_get xf_MT_12_MT (Or.inl e0) rfl d_MT_type_13 ?_
      refine x_callV (As := []) (k := k_StringBuilder) rfl xcv_MT_56_SB (Or.inl b1) (c_SB_length (by omega) b1) rfl rfl (Nat.le_of_ble_eq_true rfl) d_MT_type_16 ?_
      rintro v h1 c1 n1 ⟨rfl, rfl, rfl, rfl⟩
      refine x_sipush (v := 160) d_MT_type_19 (by decide) ?_
      refine x_icmp_lt (tgt := 27) d_MT_type_22 (by decide) (fun _ => ?_) (fun hn => absurd (by decide) hn)
      refine x_aload_n d_MT_type_27 rfl rfl ?_
      refine x_get xf_MT_12_MT (Or.inl e0) rfl d_MT_type_28 ?_
      refine x_iload_n d_MT_type_31 rfl ?_
      refine x_callV (As := [_]) (k := k_StringBuilder) rfl xcv_MT_60_SB (Or.inl b1) (c_SB_append_C (K := 20) (by omega) hB (by omega) (by omega) (by omega) (by simp) (by omega) (by omega)) rfl rfl (Nat.le_of_ble_eq_true rfl) d_MT_type_32 ?_
      rintro v h1 c1 n1 ⟨rfl, va', m', -, f1, -, q1, q2, q3, q4⟩
      refine x_pop d_MT_type_35 rfl ?_
      refine x_iconst (v := 1) d_MT_type_36 (by decide) ?_
      refine x_zret d_MT_type_37 rfl rfl ?_
      exact ⟨rfl, ⟨[ta, va], f1, xno2 b1 b2 (by decide) (by decide)⟩, by omega, by omega⟩
    · rw [if_neg (fun z => g2 z.2)]
      refine x_iload_n d_MT_type_0 rfl ?_
      refine x_bipush (v := 32) d_MT_type_1 (by decide) ?_
      refine x_icmp_lt (tgt := 25) d_MT_type_3 (by decide) (fun ht => absurd ht (nI_nlt (b := 32) g1 (by omega))) (fun _ => ?_)
      refine x_iload_n d_MT_type_6 rfl ?_
      refine x_bipush (v := 126) d_MT_type_7 (by decide) ?_
      refine x_icmp_gt (tgt := 25) d_MT_type_9 (by decide) (fun _ => ?_) (fun hn => absurd (nI_lt (a := 126) (by omega) (by omega)) hn)
      refine x_iconst (v := 0) d_MT_type_25 (by decide) ?_
      refine x_zret d_MT_type_26 rfl rfl ?_
      exact ⟨rfl, xap.rf, by omega, by omega⟩
  · rw [if_neg (fun z => g1 z.1)]
    refine x_iload_n d_MT_type_0 rfl ?_
    refine x_bipush (v := 32) d_MT_type_1 (by decide) ?_
    refine x_icmp_lt (tgt := 25) d_MT_type_3 (by decide) (fun _ => ?_) (fun hn => absurd (nI_lt (b := 32) (by omega) (by omega)) hn)
    refine x_iconst (v := 0) d_MT_type_25 (by decide) ?_
    refine x_zret d_MT_type_26 rfl rfl ?_
    exact ⟨rfl, xap.rf, by omega, by omega⟩
theorem c_place0 {x : Nat} (hx : mt0 h x) : XM l G d M_MT_place [.ref x] h c n (xSame (.int (-1)) h c n) := by
  obtain ⟨ta, va, na, ca, ea, co, pa, e0, -⟩ := hx
  refine XM.of (by decide +kernel) (Nat.le_of_ble_eq_true rfl) ?_
  refine x_aload_n d_MT_place_0 rfl rfl ?_
  refine x_get xf_MT_35_MT (Or.inl e0) rfl d_MT_place_1 ?_
  refine x_iret d_MT_place_4 rfl ?_
  exact ⟨rfl, rfl, rfl, rfl⟩
theorem c_holds0 (hd : 1 ≤ d) {x : Nat} {k : Int32} (hx : mt0 h x) : XM l G d M_MT_holds [.ref x, .int k] h c n (xSame (.int 0) h c n) := by
  obtain ⟨d, rfl⟩ : ∃ q, d = q + 1 := ⟨d - 1, by omega⟩
  obtain ⟨ta, va, na, ca, ea, co, pa, e0, -, -, e2, -⟩ := hx
  refine XM.of (by decide +kernel) (Nat.le_of_ble_eq_true rfl) ?_
  refine x_aload_n d_MT_holds_0 rfl rfl ?_
  refine x_iload_n d_MT_holds_1 rfl ?_
  refine x_callV (As := [_]) (k := k_MarkerText) rfl xcv_MT_143_MT (Or.inl e0) (c_conditionAt0 e0 e2) rfl rfl (Nat.le_of_ble_eq_true rfl) d_MT_holds_2 ?_
  rintro v h1 c1 n1 ⟨rfl, rfl, rfl, rfl⟩
  refine x_astore_n (L' := [_, _, _]) d_MT_holds_5 rfl rfl rfl ?_
  refine x_aload_n d_MT_holds_6 rfl rfl ?_
  refine x_ifnullN (tgt := 28) d_MT_holds_7 (by decide) ?_
  refine x_iconst (v := 0) d_MT_holds_28 (by decide) ?_
  refine x_zret d_MT_holds_29 rfl rfl ?_
  exact ⟨rfl, rfl, rfl, rfl⟩
theorem c_ever0 (hd : 1 ≤ d) {x : Nat} {k : Int32} (hx : mt0 h x) : XM l G d M_MT_ever [.ref x, .int k] h c n (xSame (.int (-1)) h c n) := by
  obtain ⟨d, rfl⟩ : ∃ q, d = q + 1 := ⟨d - 1, by omega⟩
  obtain ⟨ta, va, na, ca, ea, co, pa, e0, -, -, e2, -⟩ := hx
  refine XM.of (by decide +kernel) (Nat.le_of_ble_eq_true rfl) ?_
  refine x_aload_n d_MT_ever_0 rfl rfl ?_
  refine x_iload_n d_MT_ever_1 rfl ?_
  refine x_callV (As := [_]) (k := k_MarkerText) rfl xcv_MT_143_MT (Or.inl e0) (c_conditionAt0 e0 e2) rfl rfl (Nat.le_of_ble_eq_true rfl) d_MT_ever_2 ?_
  rintro v h1 c1 n1 ⟨rfl, rfl, rfl, rfl⟩
  refine x_ifnonnullN d_MT_ever_5 ?_
  refine x_iconst (v := (-1)) d_MT_ever_8 (by decide) ?_
  refine x_iret d_MT_ever_9 rfl ?_
  exact ⟨rfl, rfl, rfl, rfl⟩
theorem c_implies0 (hd : 1 ≤ d) {x : Nat} {k j : Int32} (hx : mt0 h x) : XM l G d M_MT_implies [.ref x, .int k, .int j] h c n (xSame (.int (-1)) h c n) := by
  obtain ⟨d, rfl⟩ : ∃ q, d = q + 1 := ⟨d - 1, by omega⟩
  obtain ⟨ta, va, na, ca, ea, co, pa, e0, -, -, e2, -⟩ := hx
  refine XM.of (by decide +kernel) (Nat.le_of_ble_eq_true rfl) ?_
  refine x_aload_n d_MT_implies_0 rfl rfl ?_
  refine x_iload_n d_MT_implies_1 rfl ?_
  refine x_callV (As := [_]) (k := k_MarkerText) rfl xcv_MT_143_MT (Or.inl e0) (c_conditionAt0 e0 e2) rfl rfl (Nat.le_of_ble_eq_true rfl) d_MT_implies_2 ?_
  rintro v h1 c1 n1 ⟨rfl, rfl, rfl, rfl⟩
  refine x_ifnullN (tgt := 16) d_MT_implies_5 (by decide) ?_
  refine x_iconst (v := (-1)) d_MT_implies_16 (by decide) ?_
  refine x_iret d_MT_implies_17 rfl ?_
  exact ⟨rfl, rfl, rfl, rfl⟩
theorem c_apart0 (hd : 1 ≤ d) {x : Nat} {k j : Int32} (hx : mt0 h x) : XM l G d M_MT_apart [.ref x, .int k, .int j] h c n (xSame (.int (-1)) h c n) := by
  obtain ⟨d, rfl⟩ : ∃ q, d = q + 1 := ⟨d - 1, by omega⟩
  obtain ⟨ta, va, na, ca, ea, co, pa, e0, -, -, e2, -⟩ := hx
  refine XM.of (by decide +kernel) (Nat.le_of_ble_eq_true rfl) ?_
  refine x_aload_n d_MT_apart_0 rfl rfl ?_
  refine x_iload_n d_MT_apart_1 rfl ?_
  refine x_callV (As := [_]) (k := k_MarkerText) rfl xcv_MT_143_MT (Or.inl e0) (c_conditionAt0 e0 e2) rfl rfl (Nat.le_of_ble_eq_true rfl) d_MT_apart_2 ?_
  rintro v h1 c1 n1 ⟨rfl, rfl, rfl, rfl⟩
  refine x_ifnullN (tgt := 16) d_MT_apart_5 (by decide) ?_
  refine x_iconst (v := (-1)) d_MT_apart_16 (by decide) ?_
  refine x_iret d_MT_apart_17 rfl ?_
  exact ⟨rfl, rfl, rfl, rfl⟩
theorem c_many0 (hd : 1 ≤ d) {x : Nat} {k : Int32} (hx : mt0 h x) : XM l G d M_MT_many [.ref x, .int k] h c n (xSame (.int (-1)) h c n) := by
  obtain ⟨d, rfl⟩ : ∃ q, d = q + 1 := ⟨d - 1, by omega⟩
  obtain ⟨ta, va, na, ca, ea, co, pa, e0, -, -, -, -, -, pt, ps, pf, pc, px, p0, -⟩ := hx
  refine XM.of (by decide +kernel) (Nat.le_of_ble_eq_true rfl) ?_
  refine x_aload_n d_MT_many_0 rfl rfl ?_
  refine x_get xf_MT_52_MT (Or.inl e0) rfl d_MT_many_1 ?_
  refine x_iload_n d_MT_many_4 rfl ?_
  refine x_callV (As := [_]) (k := k_Parting) rfl xcv_MT_176_Parting (Or.inl p0) (c_has0 p0) rfl rfl (Nat.le_of_ble_eq_true rfl) d_MT_many_5 ?_
  rintro v h1 c1 n1 ⟨rfl, rfl, rfl, rfl⟩
  refine x_if_eq (tgt := 23) d_MT_many_8 (by decide) (fun _ => ?_) (fun hn => absurd rfl hn)
  refine x_iconst (v := (-1)) d_MT_many_23 (by decide) ?_
  refine x_iret d_MT_many_24 rfl ?_
  exact ⟨rfl, rfl, rfl, rfl⟩
theorem c_inClass0 (hd : 1 ≤ d) {x : Nat} {k j : Int32} (hx : mt0 h x) : XM l G d M_MT_inClass [.ref x, .int k, .int j] h c n (xSame (.int 0) h c n) := by
  obtain ⟨d, rfl⟩ : ∃ q, d = q + 1 := ⟨d - 1, by omega⟩
  obtain ⟨ta, va, na, ca, ea, co, pa, e0, -, -, -, -, -, pt, ps, pf, pc, px, p0, -⟩ := hx
  refine XM.of (by decide +kernel) (Nat.le_of_ble_eq_true rfl) ?_
  refine x_aload_n d_MT_inClass_0 rfl rfl ?_
  refine x_get xf_MT_52_MT (Or.inl e0) rfl d_MT_inClass_1 ?_
  refine x_iload_n d_MT_inClass_4 rfl ?_
  refine x_callV (As := [_]) (k := k_Parting) rfl xcv_MT_176_Parting (Or.inl p0) (c_has0 p0) rfl rfl (Nat.le_of_ble_eq_true rfl) d_MT_inClass_5 ?_
  rintro v h1 c1 n1 ⟨rfl, rfl, rfl, rfl⟩
  refine x_if_eq (tgt := 40) d_MT_inClass_8 (by decide) (fun _ => ?_) (fun hn => absurd rfl hn)
  refine x_iconst (v := 0) d_MT_inClass_40 (by decide) ?_
  refine x_zret d_MT_inClass_41 rfl rfl ?_
  exact ⟨rfl, rfl, rfl, rfl⟩
theorem c_sample0 (hd : 1 ≤ d) {x : Nat} {k j : Int32} (hx : mt0 h x) : XM l G d M_MT_sample [.ref x, .int k, .int j] h c n (xSame (.int (-1)) h c n) := by
  obtain ⟨d, rfl⟩ : ∃ q, d = q + 1 := ⟨d - 1, by omega⟩
  obtain ⟨ta, va, na, ca, ea, co, pa, e0, -, -, -, -, -, pt, ps, pf, pc, px, p0, -⟩ := hx
  refine XM.of (by decide +kernel) (Nat.le_of_ble_eq_true rfl) ?_
  refine x_aload_n d_MT_sample_0 rfl rfl ?_
  refine x_get xf_MT_52_MT (Or.inl e0) rfl d_MT_sample_1 ?_
  refine x_iload_n d_MT_sample_4 rfl ?_
  refine x_callV (As := [_]) (k := k_Parting) rfl xcv_MT_176_Parting (Or.inl p0) (c_has0 p0) rfl rfl (Nat.le_of_ble_eq_true rfl) d_MT_sample_5 ?_
  rintro v h1 c1 n1 ⟨rfl, rfl, rfl, rfl⟩
  refine x_if_eq (tgt := 31) d_MT_sample_8 (by decide) (fun _ => ?_) (fun hn => absurd rfl hn)
  refine x_iconst (v := (-1)) d_MT_sample_31 (by decide) ?_
  refine x_iret d_MT_sample_32 rfl ?_
  exact ⟨rfl, rfl, rfl, rfl⟩
theorem c_printed0 (hd : 1 ≤ d) {x : Nat} {k j : Int32} (hx : mt0 h x) : XM l G d M_MT_printed [.ref x, .int k, .int j] h c n (xSame (.int 0) h c n) := by
  obtain ⟨d, rfl⟩ : ∃ q, d = q + 1 := ⟨d - 1, by omega⟩
  obtain ⟨ta, va, na, ca, ea, co, pa, e0, -, -, e2, -⟩ := hx
  refine XM.of (by decide +kernel) (Nat.le_of_ble_eq_true rfl) ?_
  refine x_aload_n d_MT_printed_0 rfl rfl ?_
  refine x_iload_n d_MT_printed_1 rfl ?_
  refine x_callV (As := [_]) (k := k_MarkerText) rfl xcv_MT_143_MT (Or.inl e0) (c_conditionAt0 e0 e2) rfl rfl (Nat.le_of_ble_eq_true rfl) d_MT_printed_2 ?_
  rintro v h1 c1 n1 ⟨rfl, rfl, rfl, rfl⟩
  refine x_astore_n (L' := [_, _, _, _]) d_MT_printed_5 rfl rfl rfl ?_
  refine x_aload_n d_MT_printed_6 rfl rfl ?_
  refine x_ifnullN (tgt := 36) d_MT_printed_7 (by decide) ?_
  refine x_iconst (v := 0) d_MT_printed_36 (by decide) ?_
  refine x_iret d_MT_printed_37 rfl ?_
  exact ⟨rfl, rfl, rfl, rfl⟩
end P1A
end
section
section
abbrev y_Choices_layOut : MethodName := ⟨"MarkerText$Choices", "layOut", "([LMarkerText$Name;[LMarkerText$Condition;I)Z"⟩
abbrev M_Choices_layOut : XMt := (y_Choices_layOut, prog_2_method_2_code, 6, (some .boolean))
theorem d_Choices_layOut_34 : decode M_Choices_layOut.2.1 34 = .ok (.iload 5, 2) := by decide +kernel
theorem d_Choices_layOut_36 : decode M_Choices_layOut.2.1 36 = .ok (.aload_n 2, 1) := by decide +kernel
theorem d_Choices_layOut_37 : decode M_Choices_layOut.2.1 37 = .ok (.arraylength, 1) := by decide +kernel
theorem d_Choices_layOut_38 : decode M_Choices_layOut.2.1 38 = .ok (.if_icmp .ge 39, 3) := by decide +kernel
theorem d_Choices_layOut_41 : decode M_Choices_layOut.2.1 41 = .ok (.iload_n 3, 1) := by decide +kernel
theorem d_Choices_layOut_42 : decode M_Choices_layOut.2.1 42 = .ok (.iload 5, 2) := by decide +kernel
theorem d_Choices_layOut_44 : decode M_Choices_layOut.2.1 44 = .ok (.ishr, 1) := by decide +kernel
theorem d_Choices_layOut_45 : decode M_Choices_layOut.2.1 45 = .ok (.iconst 1, 1) := by decide +kernel
theorem d_Choices_layOut_46 : decode M_Choices_layOut.2.1 46 = .ok (.iand, 1) := by decide +kernel
theorem d_Choices_layOut_47 : decode M_Choices_layOut.2.1 47 = .ok (.iconst 1, 1) := by decide +kernel
theorem d_Choices_layOut_48 : decode M_Choices_layOut.2.1 48 = .ok (.if_icmp .ne 23, 3) := by decide +kernel
theorem d_Choices_layOut_71 : decode M_Choices_layOut.2.1 71 = .ok (.iinc 5 1, 3) := by decide +kernel
theorem d_Choices_layOut_74 : decode M_Choices_layOut.2.1 74 = .ok (.goto (-40), 3) := by decide +kernel
theorem d_Choices_layOut_13 : decode M_Choices_layOut.2.1 13 = .ok (.iload 4, 2) := by decide +kernel
theorem d_Choices_layOut_15 : decode M_Choices_layOut.2.1 15 = .ok (.bipush 6, 2) := by decide +kernel
theorem d_Choices_layOut_17 : decode M_Choices_layOut.2.1 17 = .ok (.if_icmp .ge 179, 3) := by decide +kernel
theorem d_Choices_layOut_196 : decode M_Choices_layOut.2.1 196 = .ok (.aload_n 0, 1) := by decide +kernel
theorem d_Choices_layOut_197 : decode M_Choices_layOut.2.1 197 = .ok (.getfield 32, 3) := by decide +kernel
theorem d_Choices_layOut_200 : decode M_Choices_layOut.2.1 200 = .ok (.sipush 20000, 3) := by decide +kernel
theorem d_Choices_layOut_203 : decode M_Choices_layOut.2.1 203 = .ok (.if_icmp .gt 7, 3) := by decide +kernel
theorem d_Choices_layOut_206 : decode M_Choices_layOut.2.1 206 = .ok (.iconst 1, 1) := by decide +kernel
theorem d_Choices_layOut_207 : decode M_Choices_layOut.2.1 207 = .ok (.goto 4, 3) := by decide +kernel
theorem d_Choices_layOut_211 : decode M_Choices_layOut.2.1 211 = .ok (.ireturn, 1) := by decide +kernel
theorem d_Choices_layOut_20 : decode M_Choices_layOut.2.1 20 = .ok (.aload_n 0, 1) := by decide +kernel
theorem d_Choices_layOut_21 : decode M_Choices_layOut.2.1 21 = .ok (.getfield 19, 3) := by decide +kernel
theorem d_Choices_layOut_24 : decode M_Choices_layOut.2.1 24 = .ok (.iload 4, 2) := by decide +kernel
theorem d_Choices_layOut_26 : decode M_Choices_layOut.2.1 26 = .ok (.aload_n 0, 1) := by decide +kernel
theorem d_Choices_layOut_27 : decode M_Choices_layOut.2.1 27 = .ok (.getfield 15, 3) := by decide +kernel
theorem d_Choices_layOut_30 : decode M_Choices_layOut.2.1 30 = .ok (.iastore, 1) := by decide +kernel
theorem d_Choices_layOut_31 : decode M_Choices_layOut.2.1 31 = .ok (.iconst 0, 1) := by decide +kernel
theorem d_Choices_layOut_32 : decode M_Choices_layOut.2.1 32 = .ok (.istore 5, 2) := by decide +kernel
theorem d_Choices_layOut_77 : decode M_Choices_layOut.2.1 77 = .ok (.aload_n 0, 1) := by decide +kernel
theorem d_Choices_layOut_78 : decode M_Choices_layOut.2.1 78 = .ok (.getfield 15, 3) := by decide +kernel
theorem d_Choices_layOut_81 : decode M_Choices_layOut.2.1 81 = .ok (.aload_n 0, 1) := by decide +kernel
theorem d_Choices_layOut_82 : decode M_Choices_layOut.2.1 82 = .ok (.getfield 19, 3) := by decide +kernel
theorem d_Choices_layOut_85 : decode M_Choices_layOut.2.1 85 = .ok (.iload 4, 2) := by decide +kernel
theorem d_Choices_layOut_87 : decode M_Choices_layOut.2.1 87 = .ok (.iaload, 1) := by decide +kernel
theorem d_Choices_layOut_88 : decode M_Choices_layOut.2.1 88 = .ok (.isub, 1) := by decide +kernel
theorem d_Choices_layOut_89 : decode M_Choices_layOut.2.1 89 = .ok (.istore 5, 2) := by decide +kernel
theorem d_Choices_layOut_91 : decode M_Choices_layOut.2.1 91 = .ok (.iload 5, 2) := by decide +kernel
theorem d_Choices_layOut_93 : decode M_Choices_layOut.2.1 93 = .ok (.ifCond .le 27, 3) := by decide +kernel
theorem d_Choices_layOut_120 : decode M_Choices_layOut.2.1 120 = .ok (.aload_n 0, 1) := by decide +kernel
theorem d_Choices_layOut_121 : decode M_Choices_layOut.2.1 121 = .ok (.getfield 23, 3) := by decide +kernel
theorem d_Choices_layOut_124 : decode M_Choices_layOut.2.1 124 = .ok (.iload 4, 2) := by decide +kernel
theorem d_Choices_layOut_126 : decode M_Choices_layOut.2.1 126 = .ok (.iload 5, 2) := by decide +kernel
theorem d_Choices_layOut_128 : decode M_Choices_layOut.2.1 128 = .ok (.ifCond .le 22, 3) := by decide +kernel
theorem d_Choices_layOut_150 : decode M_Choices_layOut.2.1 150 = .ok (.iconst 1, 1) := by decide +kernel
theorem d_Choices_layOut_151 : decode M_Choices_layOut.2.1 151 = .ok (.iastore, 1) := by decide +kernel
theorem d_Choices_layOut_152 : decode M_Choices_layOut.2.1 152 = .ok (.aload_n 0, 1) := by decide +kernel
theorem d_Choices_layOut_153 : decode M_Choices_layOut.2.1 153 = .ok (.getfield 26, 3) := by decide +kernel
theorem d_Choices_layOut_156 : decode M_Choices_layOut.2.1 156 = .ok (.iload 4, 2) := by decide +kernel
theorem d_Choices_layOut_158 : decode M_Choices_layOut.2.1 158 = .ok (.iconst 0, 1) := by decide +kernel
theorem d_Choices_layOut_159 : decode M_Choices_layOut.2.1 159 = .ok (.iastore, 1) := by decide +kernel
theorem d_Choices_layOut_160 : decode M_Choices_layOut.2.1 160 = .ok (.aload_n 0, 1) := by decide +kernel
theorem d_Choices_layOut_161 : decode M_Choices_layOut.2.1 161 = .ok (.getfield 29, 3) := by decide +kernel
theorem d_Choices_layOut_164 : decode M_Choices_layOut.2.1 164 = .ok (.iload 4, 2) := by decide +kernel
theorem d_Choices_layOut_166 : decode M_Choices_layOut.2.1 166 = .ok (.lconst 0, 1) := by decide +kernel
theorem d_Choices_layOut_167 : decode M_Choices_layOut.2.1 167 = .ok (.lastore, 1) := by decide +kernel
theorem d_Choices_layOut_168 : decode M_Choices_layOut.2.1 168 = .ok (.aload_n 0, 1) := by decide +kernel
theorem d_Choices_layOut_169 : decode M_Choices_layOut.2.1 169 = .ok (.aload_n 0, 1) := by decide +kernel
theorem d_Choices_layOut_170 : decode M_Choices_layOut.2.1 170 = .ok (.getfield 32, 3) := by decide +kernel
theorem d_Choices_layOut_173 : decode M_Choices_layOut.2.1 173 = .ok (.aload_n 0, 1) := by decide +kernel
theorem d_Choices_layOut_174 : decode M_Choices_layOut.2.1 174 = .ok (.getfield 23, 3) := by decide +kernel
theorem d_Choices_layOut_177 : decode M_Choices_layOut.2.1 177 = .ok (.iload 4, 2) := by decide +kernel
theorem d_Choices_layOut_179 : decode M_Choices_layOut.2.1 179 = .ok (.iaload, 1) := by decide +kernel
theorem d_Choices_layOut_180 : decode M_Choices_layOut.2.1 180 = .ok (.imul, 1) := by decide +kernel
theorem d_Choices_layOut_181 : decode M_Choices_layOut.2.1 181 = .ok (.sipush 20001, 3) := by decide +kernel
theorem d_Choices_layOut_184 : decode M_Choices_layOut.2.1 184 = .ok (.invokestatic 49, 3) := by decide +kernel
theorem xw_348 : (Jvm.Cond.methodLink "MarkerText$Choices" (49 : Nat) ({ cls := "java/lang/Math", name := "min", desc := "(II)I" } : Jvm.MethodName)) ∈ xT := xT_at 348 (by decide +kernel) (by decide +kernel)
theorem d_Choices_layOut_187 : decode M_Choices_layOut.2.1 187 = .ok (.putfield 32, 3) := by decide +kernel
theorem d_Choices_layOut_190 : decode M_Choices_layOut.2.1 190 = .ok (.iinc 4 1, 3) := by decide +kernel
theorem d_Choices_layOut_193 : decode M_Choices_layOut.2.1 193 = .ok (.goto (-180), 3) := by decide +kernel
theorem d_Choices_layOut_0 : decode M_Choices_layOut.2.1 0 = .ok (.aload_n 0, 1) := by decide +kernel
theorem d_Choices_layOut_1 : decode M_Choices_layOut.2.1 1 = .ok (.iconst 0, 1) := by decide +kernel
theorem d_Choices_layOut_2 : decode M_Choices_layOut.2.1 2 = .ok (.putfield 15, 3) := by decide +kernel
theorem d_Choices_layOut_5 : decode M_Choices_layOut.2.1 5 = .ok (.aload_n 0, 1) := by decide +kernel
theorem d_Choices_layOut_6 : decode M_Choices_layOut.2.1 6 = .ok (.iconst 1, 1) := by decide +kernel
theorem d_Choices_layOut_7 : decode M_Choices_layOut.2.1 7 = .ok (.putfield 32, 3) := by decide +kernel
theorem d_Choices_layOut_10 : decode M_Choices_layOut.2.1 10 = .ok (.iconst 0, 1) := by decide +kernel
theorem d_Choices_layOut_11 : decode M_Choices_layOut.2.1 11 = .ok (.istore 4, 2) := by decide +kernel
abbrev y_Choices_truths : MethodName := ⟨"MarkerText$Choices", "truths", "([LMarkerText$Condition;I)I"⟩
abbrev M_Choices_truths : XMt := (y_Choices_truths, prog_2_method_8_code, 5, (some .int))
theorem d_Choices_truths_5 : decode M_Choices_truths.2.1 5 = .ok (.iload 4, 2) := by decide +kernel
theorem d_Choices_truths_7 : decode M_Choices_truths.2.1 7 = .ok (.aload_n 1, 1) := by decide +kernel
theorem d_Choices_truths_8 : decode M_Choices_truths.2.1 8 = .ok (.arraylength, 1) := by decide +kernel
theorem d_Choices_truths_9 : decode M_Choices_truths.2.1 9 = .ok (.if_icmp .ge 50, 3) := by decide +kernel
theorem d_Choices_truths_59 : decode M_Choices_truths.2.1 59 = .ok (.iload_n 3, 1) := by decide +kernel
theorem d_Choices_truths_60 : decode M_Choices_truths.2.1 60 = .ok (.ireturn, 1) := by decide +kernel
theorem d_Choices_truths_12 : decode M_Choices_truths.2.1 12 = .ok (.iload_n 2, 1) := by decide +kernel
theorem d_Choices_truths_13 : decode M_Choices_truths.2.1 13 = .ok (.iload 4, 2) := by decide +kernel
theorem d_Choices_truths_15 : decode M_Choices_truths.2.1 15 = .ok (.ishr, 1) := by decide +kernel
theorem d_Choices_truths_16 : decode M_Choices_truths.2.1 16 = .ok (.iconst 1, 1) := by decide +kernel
theorem d_Choices_truths_17 : decode M_Choices_truths.2.1 17 = .ok (.iand, 1) := by decide +kernel
theorem d_Choices_truths_18 : decode M_Choices_truths.2.1 18 = .ok (.iconst 1, 1) := by decide +kernel
theorem d_Choices_truths_19 : decode M_Choices_truths.2.1 19 = .ok (.if_icmp .ne 34, 3) := by decide +kernel
theorem d_Choices_truths_53 : decode M_Choices_truths.2.1 53 = .ok (.iinc 4 1, 3) := by decide +kernel
theorem d_Choices_truths_56 : decode M_Choices_truths.2.1 56 = .ok (.goto (-51), 3) := by decide +kernel
theorem d_Choices_truths_0 : decode M_Choices_truths.2.1 0 = .ok (.iconst 0, 1) := by decide +kernel
theorem d_Choices_truths_1 : decode M_Choices_truths.2.1 1 = .ok (.istore_n 3, 1) := by decide +kernel
theorem d_Choices_truths_2 : decode M_Choices_truths.2.1 2 = .ok (.iconst 0, 1) := by decide +kernel
theorem d_Choices_truths_3 : decode M_Choices_truths.2.1 3 = .ok (.istore 4, 2) := by decide +kernel
end
section P1B
variable {l : Launch} {G : XG} {h : XH} {c n d : Nat}
theorem sh_at {j : Nat} (hj : j < 8) : ((0 : Int32) >>> (nI j &&& 31)) &&& 1 = 0 := by
  have : ∀ j < 8, ((0 : Int32) >>> (nI j &&& 31)) &&& 1 = 0 := by decide
  exact this j hj
theorem set_rep {v : Value} {m i : Nat} : (List.replicate m v).set i v = List.replicate m v := by
  apply List.ext_getElem?
  intro k
  rw [List.getElem?_set]
  split
  · subst_vars
    rw [List.length_replicate, List.getElem?_replicate]
  · rfl
/-- the cells of Choices while none are laid out -/
abbrev chL (h : XH) (o v st sa pk lv na ca : Nat) (cnt : Int32) (ss : List Value) : Prop := h o = some (k_Choices, [.ref v, .int 0, .ref st, .ref sa, .ref pk, .ref lv, .int cnt]) ∧ h st = some (k_astarts, List.replicate 6 (.int 0)) ∧ h sa = some (k_asamples, ss) ∧ h pk = some (k_apicks, List.replicate 6 (.int 0)) ∧ h lv = some (k_achl, List.replicate 6 (.long 0)) ∧ h na = some (k_aName, List.replicate 6 .null) ∧ h ca = some (k_aCondition, List.replicate 8 .null)
theorem c_layOut0 (hd : 1 ≤ d) {o na ca : Nat} (ho : ch0 h o) (hna : h na = some (k_aName, List.replicate 6 .null)) (hca : h ca = some (k_aCondition, List.replicate 8 .null)) : XM l G d M_Choices_layOut [.ref o, .ref na, .ref ca, .int 0] h c n (fun r h' c' n' => r = some (.int 1) ∧ (∃ v st sa pk lv, chL h' o v st sa pk lv na ca 1 (List.replicate 6 (.int 1)) ∧ (∃ F, xfr h h' F ∧ xno h F [k_MarkerText, k_Parting, k_aptr, k_apsz, k_apfi, k_apcl, k_apsa, k_MarkerTextModel, k_aint, k_along, k_aboolean, k_avals])) ∧ c' = c ∧ n' = n) := by
  obtain ⟨d, rfl⟩ : ∃ q, d = q + 1 := ⟨d - 1, by omega⟩
  obtain ⟨v, st, sa, pk, lv, eo, ev, est, esa, epk, elv⟩ := ho
  have hno : xno h [o, st, sa, pk, lv] [k_MarkerText, k_Parting, k_aptr, k_apsz, k_apfi, k_apcl, k_apsa, k_MarkerTextModel, k_aint, k_along, k_aboolean, k_avals] := (xno1 eo (by decide)).ap ((xno1 est (by decide)).ap ((xno1 esa (by decide)).ap ((xno1 epk (by decide)).ap (xno1 elv (by decide)))))
  refine XM.of (by decide +kernel) (Nat.le_of_ble_eq_true rfl) ?_
  have inner : ∀ (i : Nat), i < 6 → ∀ (Q : XPo) (h2 : XH) (e4 : Option Value), h2 ca = some (k_aCondition, List.replicate 8 .null) → XX l G M_Choices_layOut (d + 1) 77 [some (.ref o), some (.ref na), some (.ref ca), some (.int 0), some (.int (nI i)), some (.int (nI 8))] [] h2 c n Q → ∀ (k j : Nat), j + k = 8 → XX l G M_Choices_layOut (d + 1) 34 [some (.ref o), some (.ref na), some (.ref ca), some (.int 0), some (.int (nI i)), some (.int (nI j))] [] h2 c n Q := by
    intro i hi Q h2 e4 hc2 k77 k
    induction k with
    | zero =>
      intro j hj
      obtain rfl : j = 8 := by omega
      refine x_iload d_Choices_layOut_34 rfl ?_
      refine x_aload_n d_Choices_layOut_36 rfl rfl ?_
      refine x_alen (k := k_aCondition) rfl (Or.inl hc2) (v := nI 8) rfl d_Choices_layOut_37 ?_
      refine x_icmp_ge (tgt := 77) d_Choices_layOut_38 (by decide) (fun _ => ?_) (fun hn => absurd (nI_le (a := 8) (by omega) (by omega)) hn)
      exact k77
    | succ k ih =>
      intro j hj
      refine x_iload d_Choices_layOut_34 rfl ?_
      refine x_aload_n d_Choices_layOut_36 rfl rfl ?_
      refine x_alen (k := k_aCondition) rfl (Or.inl hc2) (v := nI 8) rfl d_Choices_layOut_37 ?_
      refine x_icmp_ge (tgt := 77) d_Choices_layOut_38 (by decide) (fun ht => absurd ht (nI_ge (b := 8) (by omega) (by omega))) (fun _ => ?_)
      refine x_iload_n d_Choices_layOut_41 rfl ?_
      refine x_iload d_Choices_layOut_42 rfl ?_
      refine x_ishr d_Choices_layOut_44 ?_
      refine x_iconst (v := 1) d_Choices_layOut_45 (by decide) ?_
      refine x_iand d_Choices_layOut_46 ?_
      refine x_iconst (v := 1) d_Choices_layOut_47 (by decide) ?_
      refine x_st (st' := [.int 1, .int 0]) (by rw [sh_at (by omega)]) ?_
      refine x_icmp_ne (tgt := 71) d_Choices_layOut_48 (by decide) (fun _ => ?_) (fun hn => absurd hn (by decide))
      refine x_iinc (v := nI (j + 1)) (L' := [_, _, _, _, _, _]) d_Choices_layOut_71 rfl (by exact xw_iinc1) rfl rfl ?_
      refine x_goto (tgt := 34) d_Choices_layOut_74 (by decide) ?_
      exact ih (j + 1) (by omega)
  have outer : ∀ (k i : Nat) (h2 : XH) (e5 : Option Value), i + k = 6 → chL h2 o v st sa pk lv na ca 1 (List.replicate i (.int 1) ++ List.replicate (6 - i) (.int 0)) → xfr h h2 [o, st, sa, pk, lv] → XW l G M_Choices_layOut (d + 1) 13 [some (.ref o), some (.ref na), some (.ref ca), some (.int 0), some (.int (nI i)), e5] [] h2 c n (fun r h' c' n' => r = some (.int 1) ∧ (∃ v st sa pk lv, chL h' o v st sa pk lv na ca 1 (List.replicate 6 (.int 1)) ∧ (∃ F, xfr h h' F ∧ xno h F [k_MarkerText, k_Parting, k_aptr, k_apsz, k_apfi, k_apcl, k_apsa, k_MarkerTextModel, k_aint, k_along, k_aboolean, k_avals])) ∧ c' = c ∧ n' = n) := by
    intro k
    induction k with
    | zero =>
      intro i h2 e5 hi hL hf
      obtain rfl : i = 6 := by omega
      obtain ⟨eo, -⟩ := id hL
      refine x_iload d_Choices_layOut_13 rfl ?_
      refine x_bipush (v := 6) d_Choices_layOut_15 (by decide) ?_
      refine x_icmp_ge (tgt := 196) d_Choices_layOut_17 (by decide) (fun _ => ?_) (fun hn => absurd (nI_le (a := 6) (by omega) (by omega)) hn)
      refine x_aload_n d_Choices_layOut_196 rfl rfl ?_
      refine x_get xf_Choices_32_Choices (Or.inl eo) rfl d_Choices_layOut_197 ?_
      refine x_sipush (v := 20000) d_Choices_layOut_200 (by decide) ?_
      refine x_icmp_gt (tgt := 210) d_Choices_layOut_203 (by decide) (fun ht => absurd ht (by decide)) (fun _ => ?_)
      refine x_iconst (v := 1) d_Choices_layOut_206 (by decide) ?_
      refine x_goto (tgt := 211) d_Choices_layOut_207 (by decide) ?_
      refine x_zret d_Choices_layOut_211 rfl rfl ?_
      exact ⟨rfl, ⟨v, st, sa, pk, lv, hL, _, hf, hno⟩, rfl, rfl⟩
    | succ k ih =>
      intro i h2 e5 hi hL hf
      obtain ⟨eo, est, esa, epk, elv, ena, eca⟩ := id hL
      have i6 : i < 6 := by omega
      have icl : (nI i).toNatClampNeg = i := nI_clamp (by omega)
      have at6 : ∀ w : Value, (List.replicate 6 w)[(nI i).toNatClampNeg]? = some w := fun w => by rw [icl, List.getElem?_replicate, if_pos i6]
      refine x_iload d_Choices_layOut_13 rfl ?_
      refine x_bipush (v := 6) d_Choices_layOut_15 (by decide) ?_
      refine x_icmp_ge (tgt := 196) d_Choices_layOut_17 (by decide) (fun ht => absurd ht (nI_ge (b := 6) (by omega) (by omega))) (fun _ => ?_)
      refine x_aload_n d_Choices_layOut_20 rfl rfl ?_
      refine x_get xf_Choices_19_Choices (Or.inl eo) rfl d_Choices_layOut_21 ?_
      refine x_iload d_Choices_layOut_24 rfl ?_
      refine x_aload_n d_Choices_layOut_26 rfl rfl ?_
      refine x_get xf_Choices_15_Choices (Or.inl eo) rfl d_Choices_layOut_27 ?_
      refine x_iast (k := k_astarts) rfl est (nI_pos (by omega)) (at6 _) d_Choices_layOut_30 ?_
      refine x_any (R := fun h3 => chL h3 o v st sa pk lv na ca 1 (List.replicate i (.int 1) ++ List.replicate (6 - i) (.int 0)) ∧ xfr h h3 [o, st, sa, pk, lv]) ⟨⟨(by rw [xup_ne (xne eo est (by decide))]; exact eo), (by rw [xup_self, set_rep]), (by rw [xup_ne (xne esa est (by decide))]; exact esa), (by rw [xup_ne (xne epk est (by decide))]; exact epk), (by rw [xup_ne (xne elv est (by decide))]; exact elv), (by rw [xup_ne (xne ena est (by decide))]; exact ena), (by rw [xup_ne (xne eca est (by decide))]; exact eca)⟩, hf.up (Or.inl (by simp))⟩ (fun h3 ⟨hL3, hf3⟩ => ?_)
      clear hL hf eo est esa epk elv ena eca
      obtain ⟨eo, est, esa, epk, elv, ena, eca⟩ := id hL3
      refine x_iconst (v := 0) d_Choices_layOut_31 (by decide) ?_
      refine x_istore (L' := [_, _, _, _, _, _]) d_Choices_layOut_32 rfl rfl ?_
      refine inner i i6 _ h3 none eca ?_ 8 0 (by omega)
      refine x_aload_n d_Choices_layOut_77 rfl rfl ?_
      refine x_get xf_Choices_15_Choices (Or.inl eo) rfl d_Choices_layOut_78 ?_
      refine x_aload_n d_Choices_layOut_81 rfl rfl ?_
      refine x_get xf_Choices_19_Choices (Or.inl eo) rfl d_Choices_layOut_82 ?_
      refine x_iload d_Choices_layOut_85 rfl ?_
      refine x_iald (k := k_astarts) rfl (Or.inl est) (nI_pos (by omega)) (at6 _) d_Choices_layOut_87 ?_
      refine x_isub d_Choices_layOut_88 ?_
      refine x_st (st' := [.int 0]) (by decide) ?_
      have sat : (List.replicate i (Value.int 1) ++ List.replicate (6 - i) (.int 0))[(nI i).toNatClampNeg]? = some (.int 0) := by
        rw [icl, List.getElem?_append_right (by simp), List.length_replicate, Nat.sub_self, List.getElem?_replicate, if_pos (by omega)]
      have sset : (List.replicate i (Value.int 1) ++ List.replicate (6 - i) (Value.int 0)).set (nI i).toNatClampNeg (Value.int 1) = List.replicate (i + 1) (Value.int 1) ++ List.replicate (6 - (i + 1)) (Value.int 0) := by
        obtain ⟨q, hq⟩ : ∃ q, 6 - i = q + 1 := ⟨6 - i - 1, by omega⟩
        rw [icl, List.set_append_right _ _ (by simp), List.length_replicate, Nat.sub_self, hq, List.replicate_succ, List.set_cons_zero, show 6 - (i + 1) = q by omega, List.replicate_succ', List.append_assoc]
        rfl
      have sat2 : (List.replicate (i + 1) (Value.int 1) ++ List.replicate (6 - (i + 1)) (.int 0))[(nI i).toNatClampNeg]? = some (.int 1) := by
        rw [icl, List.getElem?_append_left (by simp), List.getElem?_replicate, if_pos (by omega)]
      refine x_istore (L' := [_, _, _, _, _, _]) d_Choices_layOut_89 rfl rfl ?_
      refine x_iload d_Choices_layOut_91 rfl ?_
      refine x_if_le (tgt := 120) d_Choices_layOut_93 (by decide) (fun _ => ?_) (fun hn => absurd (by decide) hn)
      refine x_aload_n d_Choices_layOut_120 rfl rfl ?_
      refine x_get xf_Choices_23_Choices (Or.inl eo) rfl d_Choices_layOut_121 ?_
      refine x_iload d_Choices_layOut_124 rfl ?_
      refine x_iload d_Choices_layOut_126 rfl ?_
      refine x_if_le (tgt := 150) d_Choices_layOut_128 (by decide) (fun _ => ?_) (fun hn => absurd (by decide) hn)
      refine x_iconst (v := 1) d_Choices_layOut_150 (by decide) ?_
      refine x_iast (k := k_asamples) rfl esa (nI_pos (by omega)) sat d_Choices_layOut_151 ?_
      refine x_any (R := fun h3 => chL h3 o v st sa pk lv na ca 1 (List.replicate (i + 1) (.int 1) ++ List.replicate (6 - (i + 1)) (.int 0)) ∧ xfr h h3 [o, st, sa, pk, lv]) ⟨⟨(by rw [xup_ne (xne eo esa (by decide))]; exact eo), (by rw [xup_ne (xne est esa (by decide))]; exact est), (by rw [xup_self, sset]), (by rw [xup_ne (xne epk esa (by decide))]; exact epk), (by rw [xup_ne (xne elv esa (by decide))]; exact elv), (by rw [xup_ne (xne ena esa (by decide))]; exact ena), (by rw [xup_ne (xne eca esa (by decide))]; exact eca)⟩, hf3.up (Or.inl (by simp))⟩ (fun h4 ⟨hL4, hf4⟩ => ?_)
      clear hL3 hf3 eo est esa epk elv ena eca
      obtain ⟨eo, est, esa, epk, elv, ena, eca⟩ := id hL4
      refine x_aload_n d_Choices_layOut_152 rfl rfl ?_
      refine x_get xf_Choices_26_Choices (Or.inl eo) rfl d_Choices_layOut_153 ?_
      refine x_iload d_Choices_layOut_156 rfl ?_
      refine x_iconst (v := 0) d_Choices_layOut_158 (by decide) ?_
      refine x_iast (k := k_apicks) rfl epk (nI_pos (by omega)) (at6 _) d_Choices_layOut_159 ?_
      refine x_any (R := fun h3 => chL h3 o v st sa pk lv na ca 1 (List.replicate (i + 1) (.int 1) ++ List.replicate (6 - (i + 1)) (.int 0)) ∧ xfr h h3 [o, st, sa, pk, lv]) ⟨⟨(by rw [xup_ne (xne eo epk (by decide))]; exact eo), (by rw [xup_ne (xne est epk (by decide))]; exact est), (by rw [xup_ne (xne esa epk (by decide))]; exact esa), (by rw [xup_self, set_rep]), (by rw [xup_ne (xne elv epk (by decide))]; exact elv), (by rw [xup_ne (xne ena epk (by decide))]; exact ena), (by rw [xup_ne (xne eca epk (by decide))]; exact eca)⟩, hf4.up (Or.inl (by simp))⟩ (fun h5 ⟨hL5, hf5⟩ => ?_)
      clear hL4 hf4 eo est esa epk elv ena eca
      obtain ⟨eo, est, esa, epk, elv, ena, eca⟩ := id hL5
      refine x_aload_n d_Choices_layOut_160 rfl rfl ?_
      refine x_get xf_Choices_29_Choices (Or.inl eo) rfl d_Choices_layOut_161 ?_
      refine x_iload d_Choices_layOut_164 rfl ?_
      refine x_lconst (v := 0) d_Choices_layOut_166 (by decide) ?_
      refine x_last (k := k_achl) rfl elv (nI_pos (by omega)) (at6 _) d_Choices_layOut_167 ?_
      refine x_any (R := fun h3 => chL h3 o v st sa pk lv na ca 1 (List.replicate (i + 1) (.int 1) ++ List.replicate (6 - (i + 1)) (.int 0)) ∧ xfr h h3 [o, st, sa, pk, lv]) ⟨⟨(by rw [xup_ne (xne eo elv (by decide))]; exact eo), (by rw [xup_ne (xne est elv (by decide))]; exact est), (by rw [xup_ne (xne esa elv (by decide))]; exact esa), (by rw [xup_ne (xne epk elv (by decide))]; exact epk), (by rw [xup_self, set_rep]), (by rw [xup_ne (xne ena elv (by decide))]; exact ena), (by rw [xup_ne (xne eca elv (by decide))]; exact eca)⟩, hf5.up (Or.inl (by simp))⟩ (fun h6 ⟨hL6, hf6⟩ => ?_)
      clear hL5 hf5 eo est esa epk elv ena eca
      obtain ⟨eo, est, esa, epk, elv, ena, eca⟩ := id hL6
      refine x_aload_n d_Choices_layOut_168 rfl rfl ?_
      refine x_aload_n d_Choices_layOut_169 rfl rfl ?_
      refine x_get xf_Choices_32_Choices (Or.inl eo) rfl d_Choices_layOut_170 ?_
      refine x_aload_n d_Choices_layOut_173 rfl rfl ?_
      refine x_get xf_Choices_23_Choices (Or.inl eo) rfl d_Choices_layOut_174 ?_
      refine x_iload d_Choices_layOut_177 rfl ?_
      refine x_iald (k := k_asamples) rfl (Or.inl esa) (nI_pos (by omega)) sat2 d_Choices_layOut_179 ?_
      refine x_imul d_Choices_layOut_180 ?_
      refine x_sipush (v := 20001) d_Choices_layOut_181 (by decide) ?_
      refine x_mmin xw_348 xw_216 xw_10 xw_217 (Nat.le_of_ble_eq_true rfl) d_Choices_layOut_184 ?_
      refine x_top (w := .int 1) (by decide) ?_
      refine x_put xf_Choices_32_Choices xp_Choices_6 rfl rfl eo rfl rfl d_Choices_layOut_187 ?_
      refine x_any (R := fun h3 => chL h3 o v st sa pk lv na ca 1 (List.replicate (i + 1) (.int 1) ++ List.replicate (6 - (i + 1)) (.int 0)) ∧ xfr h h3 [o, st, sa, pk, lv]) ⟨⟨xup_self, (by rw [xup_ne (xne est eo (by decide))]; exact est), (by rw [xup_ne (xne esa eo (by decide))]; exact esa), (by rw [xup_ne (xne epk eo (by decide))]; exact epk), (by rw [xup_ne (xne elv eo (by decide))]; exact elv), (by rw [xup_ne (xne ena eo (by decide))]; exact ena), (by rw [xup_ne (xne eca eo (by decide))]; exact eca)⟩, hf6.up (Or.inl (by simp))⟩ (fun h7 ⟨hL7, hf7⟩ => ?_)
      refine x_iinc (v := nI (i + 1)) (L' := [_, _, _, _, _, _]) d_Choices_layOut_190 rfl (by exact xw_iinc1) rfl rfl ?_
      refine x_goto (tgt := 13) d_Choices_layOut_193 (by decide) ?_
      exact ih (i + 1) h7 _ (by omega) hL7 hf7
  refine x_aload_n d_Choices_layOut_0 rfl rfl ?_
  refine x_iconst (v := 0) d_Choices_layOut_1 (by decide) ?_
  refine x_put xf_Choices_15_Choices xp_Choices_1 rfl rfl eo rfl rfl d_Choices_layOut_2 ?_
  refine x_aload_n d_Choices_layOut_5 rfl rfl ?_
  refine x_iconst (v := 1) d_Choices_layOut_6 (by decide) ?_
  refine x_put xf_Choices_32_Choices xp_Choices_6 rfl rfl xup_self rfl rfl d_Choices_layOut_7 ?_
  have f1 : ∀ z w, xfr h (xup (xup h o z) o w) [o, st, sa, pk, lv] := fun z w => (xfr.rf.up (Or.inl (by simp))).up (Or.inl (by simp))
  refine x_any (R := fun h3 => chL h3 o v st sa pk lv na ca 1 (List.replicate 0 (.int 1) ++ List.replicate (6 - 0) (.int 0)) ∧ xfr h h3 [o, st, sa, pk, lv]) ⟨⟨xup_self, (by rw [xup_ne (xne est eo (by decide)), xup_ne (xne est eo (by decide))]; exact est), (by rw [xup_ne (xne esa eo (by decide)), xup_ne (xne esa eo (by decide))]; exact esa), (by rw [xup_ne (xne epk eo (by decide)), xup_ne (xne epk eo (by decide))]; exact epk), (by rw [xup_ne (xne elv eo (by decide)), xup_ne (xne elv eo (by decide))]; exact elv), (by rw [xup_ne (xne hna eo (by decide)), xup_ne (xne hna eo (by decide))]; exact hna), (by rw [xup_ne (xne hca eo (by decide)), xup_ne (xne hca eo (by decide))]; exact hca)⟩, f1 _ _⟩ (fun h3 ⟨hL3, hf3⟩ => ?_)
  refine x_iconst (v := 0) d_Choices_layOut_10 (by decide) ?_
  refine x_istore (L' := [_, _, _, _, _, _]) d_Choices_layOut_11 rfl rfl ?_
  exact outer 6 0 h3 _ (by omega) hL3 hf3
theorem c_truths0 {o ca : Nat} (hca : h ca = some (k_aCondition, List.replicate 8 .null)) : XM l G d M_Choices_truths [.ref o, .ref ca, .int 0] h c n (xSame (.int 0) h c n) := by
  refine XM.of (by decide +kernel) (Nat.le_of_ble_eq_true rfl) ?_
  have lp : ∀ (k j : Nat), j + k = 8 → XW l G M_Choices_truths d 5 [some (.ref o), some (.ref ca), some (.int 0), some (.int 0), some (.int (nI j))] [] h c n (xSame (.int 0) h c n) := by
    intro k
    induction k with
    | zero =>
      intro j hj
      obtain rfl : j = 8 := by omega
      refine x_iload d_Choices_truths_5 rfl ?_
      refine x_aload_n d_Choices_truths_7 rfl rfl ?_
      refine x_alen (k := k_aCondition) rfl (Or.inl hca) (v := nI 8) rfl d_Choices_truths_8 ?_
      refine x_icmp_ge (tgt := 59) d_Choices_truths_9 (by decide) (fun _ => ?_) (fun hn => absurd (nI_le (a := 8) (by omega) (by omega)) hn)
      refine x_iload_n d_Choices_truths_59 rfl ?_
      refine x_iret d_Choices_truths_60 rfl ?_
      exact ⟨rfl, rfl, rfl, rfl⟩
    | succ k ih =>
      intro j hj
      refine x_iload d_Choices_truths_5 rfl ?_
      refine x_aload_n d_Choices_truths_7 rfl rfl ?_
      refine x_alen (k := k_aCondition) rfl (Or.inl hca) (v := nI 8) rfl d_Choices_truths_8 ?_
      refine x_icmp_ge (tgt := 59) d_Choices_truths_9 (by decide) (fun ht => absurd ht (nI_ge (b := 8) (by omega) (by omega))) (fun _ => ?_)
      refine x_iload_n d_Choices_truths_12 rfl ?_
      refine x_iload d_Choices_truths_13 rfl ?_
      refine x_ishr d_Choices_truths_15 ?_
      refine x_iconst (v := 1) d_Choices_truths_16 (by decide) ?_
      refine x_iand d_Choices_truths_17 ?_
      refine x_iconst (v := 1) d_Choices_truths_18 (by decide) ?_
      refine x_st (st' := [.int 1, .int 0]) (by rw [sh_at (by omega)]) ?_
      refine x_icmp_ne (tgt := 53) d_Choices_truths_19 (by decide) (fun _ => ?_) (fun hn => absurd hn (by decide))
      refine x_iinc (v := nI (j + 1)) (L' := [_, _, _, _, _]) d_Choices_truths_53 rfl (by exact xw_iinc1) rfl rfl ?_
      refine x_goto (tgt := 5) d_Choices_truths_56 (by decide) ?_
      exact ih (j + 1) (by omega)
  refine x_iconst (v := 0) d_Choices_truths_0 (by decide) ?_
  refine x_istore_n (L' := [_, _, _, _, _]) d_Choices_truths_1 rfl rfl ?_
  refine x_iconst (v := 0) d_Choices_truths_2 (by decide) ?_
  refine x_istore (L' := [_, _, _, _, _]) d_Choices_truths_3 rfl rfl ?_
  exact lp 8 0 (by omega)
end P1B
end
section
section
abbrev y_Choices_levelOfPick : MethodName := ⟨"MarkerText$Choices", "levelOfPick", "(I)J"⟩
abbrev M_Choices_levelOfPick : XMt := (y_Choices_levelOfPick, prog_2_method_7_code, 4, (some .long))
theorem d_Choices_levelOfPick_0 : decode M_Choices_levelOfPick.2.1 0 = .ok (.aload_n 0, 1) := by decide +kernel
theorem d_Choices_levelOfPick_1 : decode M_Choices_levelOfPick.2.1 1 = .ok (.getfield 26, 3) := by decide +kernel
theorem d_Choices_levelOfPick_4 : decode M_Choices_levelOfPick.2.1 4 = .ok (.iload_n 1, 1) := by decide +kernel
theorem d_Choices_levelOfPick_5 : decode M_Choices_levelOfPick.2.1 5 = .ok (.iaload, 1) := by decide +kernel
theorem d_Choices_levelOfPick_6 : decode M_Choices_levelOfPick.2.1 6 = .ok (.istore_n 2, 1) := by decide +kernel
theorem d_Choices_levelOfPick_7 : decode M_Choices_levelOfPick.2.1 7 = .ok (.aload_n 0, 1) := by decide +kernel
theorem d_Choices_levelOfPick_8 : decode M_Choices_levelOfPick.2.1 8 = .ok (.getfield 19, 3) := by decide +kernel
theorem d_Choices_levelOfPick_11 : decode M_Choices_levelOfPick.2.1 11 = .ok (.iload_n 1, 1) := by decide +kernel
theorem d_Choices_levelOfPick_12 : decode M_Choices_levelOfPick.2.1 12 = .ok (.iaload, 1) := by decide +kernel
theorem d_Choices_levelOfPick_13 : decode M_Choices_levelOfPick.2.1 13 = .ok (.iload_n 2, 1) := by decide +kernel
theorem d_Choices_levelOfPick_14 : decode M_Choices_levelOfPick.2.1 14 = .ok (.iconst 2, 1) := by decide +kernel
theorem d_Choices_levelOfPick_15 : decode M_Choices_levelOfPick.2.1 15 = .ok (.idiv, 1) := by decide +kernel
theorem d_Choices_levelOfPick_16 : decode M_Choices_levelOfPick.2.1 16 = .ok (.iconst 1, 1) := by decide +kernel
theorem d_Choices_levelOfPick_17 : decode M_Choices_levelOfPick.2.1 17 = .ok (.isub, 1) := by decide +kernel
theorem d_Choices_levelOfPick_18 : decode M_Choices_levelOfPick.2.1 18 = .ok (.iconst 0, 1) := by decide +kernel
theorem d_Choices_levelOfPick_19 : decode M_Choices_levelOfPick.2.1 19 = .ok (.invokestatic 93, 3) := by decide +kernel
theorem xw_362 : (Jvm.Cond.methodLink "MarkerText$Choices" (93 : Nat) ({ cls := "java/lang/Math", name := "max", desc := "(II)I" } : Jvm.MethodName)) ∈ xT := xT_at 362 (by decide +kernel) (by decide +kernel)
theorem d_Choices_levelOfPick_22 : decode M_Choices_levelOfPick.2.1 22 = .ok (.iadd, 1) := by decide +kernel
theorem d_Choices_levelOfPick_23 : decode M_Choices_levelOfPick.2.1 23 = .ok (.istore_n 3, 1) := by decide +kernel
theorem d_Choices_levelOfPick_24 : decode M_Choices_levelOfPick.2.1 24 = .ok (.iload_n 2, 1) := by decide +kernel
theorem d_Choices_levelOfPick_25 : decode M_Choices_levelOfPick.2.1 25 = .ok (.ifCond .le 11, 3) := by decide +kernel
theorem d_Choices_levelOfPick_36 : decode M_Choices_levelOfPick.2.1 36 = .ok (.lconst 0, 1) := by decide +kernel
theorem d_Choices_levelOfPick_37 : decode M_Choices_levelOfPick.2.1 37 = .ok (.lreturn, 1) := by decide +kernel
abbrev y_Choices_advance : MethodName := ⟨"MarkerText$Choices", "advance", "()V"⟩
abbrev M_Choices_advance : XMt := (y_Choices_advance, prog_2_method_6_code, 3, none)
theorem d_Choices_advance_71 : decode M_Choices_advance.2.1 71 = .ok (.return_, 1) := by decide +kernel
theorem d_Choices_advance_4 : decode M_Choices_advance.2.1 4 = .ok (.iload_n 2, 1) := by decide +kernel
theorem d_Choices_advance_5 : decode M_Choices_advance.2.1 5 = .ok (.ifCond .lt 66, 3) := by decide +kernel
theorem d_Choices_advance_8 : decode M_Choices_advance.2.1 8 = .ok (.iload_n 1, 1) := by decide +kernel
theorem d_Choices_advance_9 : decode M_Choices_advance.2.1 9 = .ok (.ifCond .eq 62, 3) := by decide +kernel
theorem d_Choices_advance_12 : decode M_Choices_advance.2.1 12 = .ok (.aload_n 0, 1) := by decide +kernel
theorem d_Choices_advance_13 : decode M_Choices_advance.2.1 13 = .ok (.getfield 26, 3) := by decide +kernel
theorem d_Choices_advance_16 : decode M_Choices_advance.2.1 16 = .ok (.iload_n 2, 1) := by decide +kernel
theorem d_Choices_advance_17 : decode M_Choices_advance.2.1 17 = .ok (.dup2, 1) := by decide +kernel
theorem d_Choices_advance_18 : decode M_Choices_advance.2.1 18 = .ok (.iaload, 1) := by decide +kernel
theorem d_Choices_advance_19 : decode M_Choices_advance.2.1 19 = .ok (.iconst 1, 1) := by decide +kernel
theorem d_Choices_advance_20 : decode M_Choices_advance.2.1 20 = .ok (.iadd, 1) := by decide +kernel
theorem d_Choices_advance_21 : decode M_Choices_advance.2.1 21 = .ok (.iastore, 1) := by decide +kernel
theorem d_Choices_advance_22 : decode M_Choices_advance.2.1 22 = .ok (.aload_n 0, 1) := by decide +kernel
theorem d_Choices_advance_23 : decode M_Choices_advance.2.1 23 = .ok (.getfield 26, 3) := by decide +kernel
theorem d_Choices_advance_26 : decode M_Choices_advance.2.1 26 = .ok (.iload_n 2, 1) := by decide +kernel
theorem d_Choices_advance_27 : decode M_Choices_advance.2.1 27 = .ok (.iaload, 1) := by decide +kernel
theorem d_Choices_advance_28 : decode M_Choices_advance.2.1 28 = .ok (.aload_n 0, 1) := by decide +kernel
theorem d_Choices_advance_29 : decode M_Choices_advance.2.1 29 = .ok (.getfield 23, 3) := by decide +kernel
theorem d_Choices_advance_32 : decode M_Choices_advance.2.1 32 = .ok (.iload_n 2, 1) := by decide +kernel
theorem d_Choices_advance_33 : decode M_Choices_advance.2.1 33 = .ok (.iaload, 1) := by decide +kernel
theorem d_Choices_advance_34 : decode M_Choices_advance.2.1 34 = .ok (.if_icmp .lt 7, 3) := by decide +kernel
theorem d_Choices_advance_37 : decode M_Choices_advance.2.1 37 = .ok (.iconst 1, 1) := by decide +kernel
theorem d_Choices_advance_38 : decode M_Choices_advance.2.1 38 = .ok (.goto 4, 3) := by decide +kernel
theorem d_Choices_advance_42 : decode M_Choices_advance.2.1 42 = .ok (.istore_n 1, 1) := by decide +kernel
theorem d_Choices_advance_43 : decode M_Choices_advance.2.1 43 = .ok (.iload_n 1, 1) := by decide +kernel
theorem d_Choices_advance_44 : decode M_Choices_advance.2.1 44 = .ok (.ifCond .eq 10, 3) := by decide +kernel
theorem d_Choices_advance_47 : decode M_Choices_advance.2.1 47 = .ok (.aload_n 0, 1) := by decide +kernel
theorem d_Choices_advance_48 : decode M_Choices_advance.2.1 48 = .ok (.getfield 26, 3) := by decide +kernel
theorem d_Choices_advance_51 : decode M_Choices_advance.2.1 51 = .ok (.iload_n 2, 1) := by decide +kernel
theorem d_Choices_advance_52 : decode M_Choices_advance.2.1 52 = .ok (.iconst 0, 1) := by decide +kernel
theorem d_Choices_advance_53 : decode M_Choices_advance.2.1 53 = .ok (.iastore, 1) := by decide +kernel
theorem d_Choices_advance_54 : decode M_Choices_advance.2.1 54 = .ok (.aload_n 0, 1) := by decide +kernel
theorem d_Choices_advance_55 : decode M_Choices_advance.2.1 55 = .ok (.getfield 29, 3) := by decide +kernel
theorem d_Choices_advance_58 : decode M_Choices_advance.2.1 58 = .ok (.iload_n 2, 1) := by decide +kernel
theorem d_Choices_advance_59 : decode M_Choices_advance.2.1 59 = .ok (.aload_n 0, 1) := by decide +kernel
theorem d_Choices_advance_60 : decode M_Choices_advance.2.1 60 = .ok (.iload_n 2, 1) := by decide +kernel
theorem d_Choices_advance_61 : decode M_Choices_advance.2.1 61 = .ok (.invokevirtual 89, 3) := by decide +kernel
theorem xw_361 : (Jvm.Cond.code ({ cls := "MarkerText$Choices", name := "levelOfPick", desc := "(I)J" } : Jvm.MethodName) prog_2_method_7_code (4 : Nat) (Option.some Jvm.ClassFile.FieldType.long)) ∈ xT := xT_at 361 (by decide +kernel) (by decide +kernel)
theorem xcb_Choices_levelOfPick : xcb M_Choices_levelOfPick 1 := ⟨xw_361, xw_6, by decide, by decide, by decide, by decide +kernel⟩
theorem xw_360 : (Jvm.Cond.instanceMethod ({ cls := "MarkerText$Choices", name := "levelOfPick", desc := "(I)J" } : Jvm.MethodName)) ∈ xT := xT_at 360 (by decide +kernel) (by decide +kernel)
theorem xw_358 : (Jvm.Cond.methodLink "MarkerText$Choices" (89 : Nat) ({ cls := "MarkerText$Choices", name := "levelOfPick", desc := "(I)J" } : Jvm.MethodName)) ∈ xT := xT_at 358 (by decide +kernel) (by decide +kernel)
theorem xsel_Choices_levelOfPick : Cond.selects "MarkerText$Choices" y_Choices_levelOfPick y_Choices_levelOfPick ∈ xT := xT_sel (q := (y_Choices_levelOfPick, 7)) (by decide +kernel) (by decide +kernel)
theorem xcv_Choices_89_Choices : xCV "MarkerText$Choices" 89 "MarkerText$Choices" M_Choices_levelOfPick 1 := ⟨xcb_Choices_levelOfPick, xw_360, Or.inl ⟨xw_358, Or.inl xsel_Choices_levelOfPick⟩⟩
theorem d_Choices_advance_64 : decode M_Choices_advance.2.1 64 = .ok (.lastore, 1) := by decide +kernel
theorem d_Choices_advance_65 : decode M_Choices_advance.2.1 65 = .ok (.iinc 2 (-1), 3) := by decide +kernel
theorem d_Choices_advance_68 : decode M_Choices_advance.2.1 68 = .ok (.goto (-64), 3) := by decide +kernel
theorem d_Choices_advance_0 : decode M_Choices_advance.2.1 0 = .ok (.iconst 1, 1) := by decide +kernel
theorem d_Choices_advance_1 : decode M_Choices_advance.2.1 1 = .ok (.istore_n 1, 1) := by decide +kernel
theorem d_Choices_advance_2 : decode M_Choices_advance.2.1 2 = .ok (.iconst 5, 1) := by decide +kernel
theorem d_Choices_advance_3 : decode M_Choices_advance.2.1 3 = .ok (.istore_n 2, 1) := by decide +kernel
theorem d_Parting_has_12 : decode M_Parting_has.2.1 12 = .ok (.iconst 1, 1) := by decide +kernel
theorem d_Parting_has_13 : decode M_Parting_has.2.1 13 = .ok (.goto 4, 3) := by decide +kernel
abbrev y_Parting_countIn : MethodName := ⟨"MarkerText$Parting", "countIn", "(II)V"⟩
abbrev M_Parting_countIn : XMt := (y_Parting_countIn, prog_9_method_3_code, 4, none)
theorem d_Parting_countIn_0 : decode M_Parting_countIn.2.1 0 = .ok (.iload_n 1, 1) := by decide +kernel
theorem d_Parting_countIn_1 : decode M_Parting_countIn.2.1 1 = .ok (.ifCond .lt 10, 3) := by decide +kernel
theorem d_Parting_countIn_4 : decode M_Parting_countIn.2.1 4 = .ok (.iload_n 1, 1) := by decide +kernel
theorem d_Parting_countIn_5 : decode M_Parting_countIn.2.1 5 = .ok (.sipush 256, 3) := by decide +kernel
theorem d_Parting_countIn_8 : decode M_Parting_countIn.2.1 8 = .ok (.if_icmp .lt 4, 3) := by decide +kernel
theorem d_Parting_countIn_12 : decode M_Parting_countIn.2.1 12 = .ok (.aload_n 0, 1) := by decide +kernel
theorem d_Parting_countIn_13 : decode M_Parting_countIn.2.1 13 = .ok (.getfield 25, 3) := by decide +kernel
theorem d_Parting_countIn_16 : decode M_Parting_countIn.2.1 16 = .ok (.iload_n 1, 1) := by decide +kernel
theorem d_Parting_countIn_17 : decode M_Parting_countIn.2.1 17 = .ok (.iaload, 1) := by decide +kernel
theorem d_Parting_countIn_18 : decode M_Parting_countIn.2.1 18 = .ok (.ifCond .ne 63, 3) := by decide +kernel
theorem d_Parting_countIn_21 : decode M_Parting_countIn.2.1 21 = .ok (.aload_n 0, 1) := by decide +kernel
theorem d_Parting_countIn_22 : decode M_Parting_countIn.2.1 22 = .ok (.getfield 9, 3) := by decide +kernel
theorem d_Parting_countIn_25 : decode M_Parting_countIn.2.1 25 = .ok (.sipush 256, 3) := by decide +kernel
theorem d_Parting_countIn_28 : decode M_Parting_countIn.2.1 28 = .ok (.if_icmp .ge 53, 3) := by decide +kernel
theorem d_Parting_countIn_31 : decode M_Parting_countIn.2.1 31 = .ok (.aload_n 0, 1) := by decide +kernel
theorem d_Parting_countIn_32 : decode M_Parting_countIn.2.1 32 = .ok (.getfield 15, 3) := by decide +kernel
theorem d_Parting_countIn_35 : decode M_Parting_countIn.2.1 35 = .ok (.aload_n 0, 1) := by decide +kernel
theorem d_Parting_countIn_36 : decode M_Parting_countIn.2.1 36 = .ok (.getfield 9, 3) := by decide +kernel
theorem d_Parting_countIn_39 : decode M_Parting_countIn.2.1 39 = .ok (.iload_n 1, 1) := by decide +kernel
theorem d_Parting_countIn_40 : decode M_Parting_countIn.2.1 40 = .ok (.iastore, 1) := by decide +kernel
theorem d_Parting_countIn_41 : decode M_Parting_countIn.2.1 41 = .ok (.aload_n 0, 1) := by decide +kernel
theorem d_Parting_countIn_42 : decode M_Parting_countIn.2.1 42 = .ok (.getfield 19, 3) := by decide +kernel
theorem d_Parting_countIn_45 : decode M_Parting_countIn.2.1 45 = .ok (.aload_n 0, 1) := by decide +kernel
theorem d_Parting_countIn_46 : decode M_Parting_countIn.2.1 46 = .ok (.getfield 9, 3) := by decide +kernel
theorem d_Parting_countIn_49 : decode M_Parting_countIn.2.1 49 = .ok (.iconst 0, 1) := by decide +kernel
theorem d_Parting_countIn_50 : decode M_Parting_countIn.2.1 50 = .ok (.iastore, 1) := by decide +kernel
theorem d_Parting_countIn_51 : decode M_Parting_countIn.2.1 51 = .ok (.aload_n 0, 1) := by decide +kernel
theorem d_Parting_countIn_52 : decode M_Parting_countIn.2.1 52 = .ok (.getfield 22, 3) := by decide +kernel
theorem d_Parting_countIn_55 : decode M_Parting_countIn.2.1 55 = .ok (.aload_n 0, 1) := by decide +kernel
theorem d_Parting_countIn_56 : decode M_Parting_countIn.2.1 56 = .ok (.getfield 9, 3) := by decide +kernel
theorem d_Parting_countIn_59 : decode M_Parting_countIn.2.1 59 = .ok (.iload_n 2, 1) := by decide +kernel
theorem d_Parting_countIn_60 : decode M_Parting_countIn.2.1 60 = .ok (.iastore, 1) := by decide +kernel
theorem d_Parting_countIn_61 : decode M_Parting_countIn.2.1 61 = .ok (.aload_n 0, 1) := by decide +kernel
theorem d_Parting_countIn_62 : decode M_Parting_countIn.2.1 62 = .ok (.dup, 1) := by decide +kernel
theorem d_Parting_countIn_63 : decode M_Parting_countIn.2.1 63 = .ok (.getfield 9, 3) := by decide +kernel
theorem d_Parting_countIn_66 : decode M_Parting_countIn.2.1 66 = .ok (.iconst 1, 1) := by decide +kernel
theorem d_Parting_countIn_67 : decode M_Parting_countIn.2.1 67 = .ok (.iadd, 1) := by decide +kernel
theorem d_Parting_countIn_68 : decode M_Parting_countIn.2.1 68 = .ok (.putfield 9, 3) := by decide +kernel
theorem d_Parting_countIn_71 : decode M_Parting_countIn.2.1 71 = .ok (.aload_n 0, 1) := by decide +kernel
theorem d_Parting_countIn_72 : decode M_Parting_countIn.2.1 72 = .ok (.getfield 25, 3) := by decide +kernel
theorem d_Parting_countIn_75 : decode M_Parting_countIn.2.1 75 = .ok (.iload_n 1, 1) := by decide +kernel
theorem d_Parting_countIn_76 : decode M_Parting_countIn.2.1 76 = .ok (.aload_n 0, 1) := by decide +kernel
theorem d_Parting_countIn_77 : decode M_Parting_countIn.2.1 77 = .ok (.getfield 9, 3) := by decide +kernel
theorem d_Parting_countIn_80 : decode M_Parting_countIn.2.1 80 = .ok (.iastore, 1) := by decide +kernel
theorem d_Parting_countIn_81 : decode M_Parting_countIn.2.1 81 = .ok (.aload_n 0, 1) := by decide +kernel
theorem d_Parting_countIn_82 : decode M_Parting_countIn.2.1 82 = .ok (.getfield 25, 3) := by decide +kernel
theorem d_Parting_countIn_85 : decode M_Parting_countIn.2.1 85 = .ok (.iload_n 1, 1) := by decide +kernel
theorem d_Parting_countIn_86 : decode M_Parting_countIn.2.1 86 = .ok (.iaload, 1) := by decide +kernel
theorem d_Parting_countIn_87 : decode M_Parting_countIn.2.1 87 = .ok (.iconst 1, 1) := by decide +kernel
theorem d_Parting_countIn_88 : decode M_Parting_countIn.2.1 88 = .ok (.isub, 1) := by decide +kernel
theorem d_Parting_countIn_89 : decode M_Parting_countIn.2.1 89 = .ok (.istore_n 3, 1) := by decide +kernel
theorem d_Parting_countIn_90 : decode M_Parting_countIn.2.1 90 = .ok (.aload_n 0, 1) := by decide +kernel
theorem d_Parting_countIn_91 : decode M_Parting_countIn.2.1 91 = .ok (.iload_n 3, 1) := by decide +kernel
theorem d_Parting_countIn_92 : decode M_Parting_countIn.2.1 92 = .ok (.invokevirtual 57, 3) := by decide +kernel
theorem xw_391 : (Jvm.Cond.methodLink "MarkerText$Parting" (57 : Nat) ({ cls := "MarkerText$Parting", name := "has", desc := "(I)Z" } : Jvm.MethodName)) ∈ xT := xT_at 391 (by decide +kernel) (by decide +kernel)
theorem xcv_Parting_57_Parting : xCV "MarkerText$Parting" 57 "MarkerText$Parting" M_Parting_has 1 := ⟨xcb_Parting_has, xw_392, Or.inl ⟨xw_391, Or.inl xw_393⟩⟩
theorem d_Parting_countIn_95 : decode M_Parting_countIn.2.1 95 = .ok (.ifCond .eq 13, 3) := by decide +kernel
theorem d_Parting_countIn_98 : decode M_Parting_countIn.2.1 98 = .ok (.aload_n 0, 1) := by decide +kernel
theorem d_Parting_countIn_99 : decode M_Parting_countIn.2.1 99 = .ok (.getfield 19, 3) := by decide +kernel
theorem d_Parting_countIn_102 : decode M_Parting_countIn.2.1 102 = .ok (.iload_n 3, 1) := by decide +kernel
theorem d_Parting_countIn_103 : decode M_Parting_countIn.2.1 103 = .ok (.dup2, 1) := by decide +kernel
theorem d_Parting_countIn_104 : decode M_Parting_countIn.2.1 104 = .ok (.iaload, 1) := by decide +kernel
theorem d_Parting_countIn_105 : decode M_Parting_countIn.2.1 105 = .ok (.iconst 1, 1) := by decide +kernel
theorem d_Parting_countIn_106 : decode M_Parting_countIn.2.1 106 = .ok (.iadd, 1) := by decide +kernel
theorem d_Parting_countIn_107 : decode M_Parting_countIn.2.1 107 = .ok (.iastore, 1) := by decide +kernel
theorem d_Parting_countIn_108 : decode M_Parting_countIn.2.1 108 = .ok (.return_, 1) := by decide +kernel
end
section P1C
variable {l : Launch} {G : XG} {h : XH} {c n d : Nat}
theorem xw_idec {j : Nat} : nI (j + 1) + Int32.ofInt (-1) = nI j := by
  rw [← nI_add, Int32.add_assoc, show nI 1 + Int32.ofInt (-1) = 0 from by decide, Int32.add_zero]
theorem c_levelOfPick0 (hd : 1 ≤ d) {o v st sa pk lv na ca j : Nat} {ss : List Value} (hL : chL h o v st sa pk lv na ca 1 ss) (hj : j < 6) : XM l G d M_Choices_levelOfPick [.ref o, .int (nI j)] h c n (xSame (.long 0) h c n) := by
  obtain ⟨d, rfl⟩ : ∃ q, d = q + 1 := ⟨d - 1, by omega⟩
  obtain ⟨eo, est, esa, epk, elv, ena, eca⟩ := id hL
  have at6 : ∀ w : Value, (List.replicate 6 w)[(nI j).toNatClampNeg]? = some w := fun w => by rw [nI_clamp (by omega), List.getElem?_replicate, if_pos hj]
  refine XM.of (by decide +kernel) (Nat.le_of_ble_eq_true rfl) ?_
  refine x_aload_n d_Choices_levelOfPick_0 rfl rfl ?_
  refine x_get xf_Choices_26_Choices (Or.inl eo) rfl d_Choices_levelOfPick_1 ?_
  refine x_iload_n d_Choices_levelOfPick_4 rfl ?_
  refine x_iald (k := k_apicks) rfl (Or.inl epk) (nI_pos (by omega)) (at6 _) d_Choices_levelOfPick_5 ?_
  refine x_istore_n (L' := [_, _, _, _]) d_Choices_levelOfPick_6 rfl rfl ?_
  refine x_aload_n d_Choices_levelOfPick_7 rfl rfl ?_
  refine x_get xf_Choices_19_Choices (Or.inl eo) rfl d_Choices_levelOfPick_8 ?_
  refine x_iload_n d_Choices_levelOfPick_11 rfl ?_
  refine x_iald (k := k_astarts) rfl (Or.inl est) (nI_pos (by omega)) (at6 _) d_Choices_levelOfPick_12 ?_
  refine x_iload_n d_Choices_levelOfPick_13 rfl ?_
  refine x_iconst (v := 2) d_Choices_levelOfPick_14 (by decide) ?_
  refine x_idiv d_Choices_levelOfPick_15 (by decide) ?_
  refine x_iconst (v := 1) d_Choices_levelOfPick_16 (by decide) ?_
  refine x_isub d_Choices_levelOfPick_17 ?_
  refine x_iconst (v := 0) d_Choices_levelOfPick_18 (by decide) ?_
  refine x_mmax xw_362 xw_198 xw_10 xw_199 (Nat.le_of_ble_eq_true rfl) d_Choices_levelOfPick_19 ?_
  refine x_iadd d_Choices_levelOfPick_22 ?_
  refine x_istore_n (L' := [_, _, _, _]) d_Choices_levelOfPick_23 rfl rfl ?_
  refine x_iload_n d_Choices_levelOfPick_24 rfl ?_
  refine x_if_le (tgt := 36) d_Choices_levelOfPick_25 (by decide) (fun _ => ?_) (fun hn => absurd (by decide) hn)
  refine x_lconst (v := 0) d_Choices_levelOfPick_36 (by decide) ?_
  refine x_lret d_Choices_levelOfPick_37 rfl ?_
  exact ⟨rfl, rfl, rfl, rfl⟩
theorem c_advance0 (hd : 2 ≤ d) {o v st sa pk lv na ca : Nat} (hL : chL h o v st sa pk lv na ca 1 (List.replicate 6 (.int 1))) : XM l G d M_Choices_advance [.ref o] h c n (fun r h' c' n' => r = none ∧ (∃ F, xfr h h' F ∧ xno h F [k_MarkerText, k_Parting, k_aptr, k_apsz, k_apfi, k_apcl, k_apsa, k_MarkerTextModel, k_aint, k_along, k_aboolean, k_avals]) ∧ h' o = some (k_Choices, [.ref v, .int 0, .ref st, .ref sa, .ref pk, .ref lv, .int 1]) ∧ c' = c ∧ n' = n) := by
  obtain ⟨d, rfl⟩ : ∃ q, d = q + 1 := ⟨d - 1, by omega⟩
  have hno : xno h [pk, lv] [k_MarkerText, k_Parting, k_aptr, k_apsz, k_apfi, k_apcl, k_apsa, k_MarkerTextModel, k_aint, k_along, k_aboolean, k_avals] := (xno1 hL.2.2.2.1 (by decide)).ap (xno1 hL.2.2.2.2.1 (by decide))
  refine XM.of (by decide +kernel) (Nat.le_of_ble_eq_true rfl) ?_
  have at71 : ∀ (h2 : XH) (L : List (Option Value)), h2 o = some (k_Choices, [.ref v, .int 0, .ref st, .ref sa, .ref pk, .ref lv, .int 1]) → xfr h h2 [pk, lv] → XW l G M_Choices_advance (d + 1) 71 L [] h2 c n (fun r h' c' n' => r = none ∧ (∃ F, xfr h h' F ∧ xno h F [k_MarkerText, k_Parting, k_aptr, k_apsz, k_apfi, k_apcl, k_apsa, k_MarkerTextModel, k_aint, k_along, k_aboolean, k_avals]) ∧ h' o = some (k_Choices, [.ref v, .int 0, .ref st, .ref sa, .ref pk, .ref lv, .int 1]) ∧ c' = c ∧ n' = n) := by
    intro h2 L ho2 hf2
    refine x_vret d_Choices_advance_71 rfl ?_
    exact ⟨rfl, ⟨_, hf2, hno⟩, ho2, rfl, rfl⟩
  have lp : ∀ (j : Nat) (h2 : XH), j < 6 → chL h2 o v st sa pk lv na ca 1 (List.replicate 6 (.int 1)) → xfr h h2 [pk, lv] → XW l G M_Choices_advance (d + 1) 4 [some (.ref o), some (.int 1), some (.int (nI j))] [] h2 c n (fun r h' c' n' => r = none ∧ (∃ F, xfr h h' F ∧ xno h F [k_MarkerText, k_Parting, k_aptr, k_apsz, k_apfi, k_apcl, k_apsa, k_MarkerTextModel, k_aint, k_along, k_aboolean, k_avals]) ∧ h' o = some (k_Choices, [.ref v, .int 0, .ref st, .ref sa, .ref pk, .ref lv, .int 1]) ∧ c' = c ∧ n' = n) := by
    intro j
    induction j with
    | zero =>
      intro h2 hj hL2 hf2
      obtain ⟨eo, est, esa, epk, elv, ena, eca⟩ := id hL2
      have jcl : (nI 0).toNatClampNeg = 0 := nI_clamp (by omega)
      have at6 : ∀ w : Value, (List.replicate 6 w)[(nI 0).toNatClampNeg]? = some w := fun w => by rw [jcl, List.getElem?_replicate, if_pos (by omega)]
      refine x_iload_n d_Choices_advance_4 rfl ?_
      refine x_if_lt (tgt := 71) d_Choices_advance_5 (by decide) (fun ht => absurd ht (nI_pos (by omega))) (fun _ => ?_)
      refine x_iload_n d_Choices_advance_8 rfl ?_
      refine x_if_eq (tgt := 71) d_Choices_advance_9 (by decide) (fun ht => absurd ht (by decide)) (fun _ => ?_)
      refine x_aload_n d_Choices_advance_12 rfl rfl ?_
      refine x_get xf_Choices_26_Choices (Or.inl eo) rfl d_Choices_advance_13 ?_
      refine x_iload_n d_Choices_advance_16 rfl ?_
      refine x_dup2_11 d_Choices_advance_17 rfl rfl ?_
      refine x_iald (k := k_apicks) rfl (Or.inl epk) (nI_pos (by omega)) (at6 _) d_Choices_advance_18 ?_
      refine x_iconst (v := 1) d_Choices_advance_19 (by decide) ?_
      refine x_iadd d_Choices_advance_20 ?_
      refine x_iast (k := k_apicks) rfl epk (nI_pos (by omega)) (at6 _) d_Choices_advance_21 ?_
      have npo : o ≠ pk := xne eo epk (by decide)
      have nps : sa ≠ pk := xne esa epk (by decide)
      have rd1 : ∀ w : Value, ((List.replicate 6 (Value.int 0)).set (nI 0).toNatClampNeg w)[(nI 0).toNatClampNeg]? = some w := fun w => by rw [jcl, List.getElem?_set_self (by rw [List.length_replicate]; omega)]
      have st1 : ∀ w : Value, ((List.replicate 6 (Value.int 0)).set (nI 0).toNatClampNeg w).set (nI 0).toNatClampNeg (.int 0) = List.replicate 6 (.int 0) := fun w => by rw [List.set_set, set_rep]
      refine x_aload_n d_Choices_advance_22 rfl rfl ?_
      refine x_get xf_Choices_26_Choices (Or.inl (by rw [xup_ne npo]; exact eo)) rfl d_Choices_advance_23 ?_
      refine x_iload_n d_Choices_advance_26 rfl ?_
      refine x_iald (k := k_apicks) rfl (Or.inl xup_self) (nI_pos (by omega)) (rd1 _) d_Choices_advance_27 ?_
      refine x_aload_n d_Choices_advance_28 rfl rfl ?_
      refine x_get xf_Choices_23_Choices (Or.inl (by rw [xup_ne npo]; exact eo)) rfl d_Choices_advance_29 ?_
      refine x_iload_n d_Choices_advance_32 rfl ?_
      refine x_iald (k := k_asamples) rfl (Or.inl (by rw [xup_ne nps]; exact esa)) (nI_pos (by omega)) (at6 _) d_Choices_advance_33 ?_
      refine x_icmp_lt (tgt := 41) d_Choices_advance_34 (by decide) (fun ht => absurd ht (by decide)) (fun _ => ?_)
      refine x_iconst (v := 1) d_Choices_advance_37 (by decide) ?_
      refine x_goto (tgt := 42) d_Choices_advance_38 (by decide) ?_
      refine x_istore_n (L' := [_, _, _]) d_Choices_advance_42 rfl rfl ?_
      refine x_iload_n d_Choices_advance_43 rfl ?_
      refine x_if_eq (tgt := 54) d_Choices_advance_44 (by decide) (fun ht => absurd ht (by decide)) (fun _ => ?_)
      refine x_aload_n d_Choices_advance_47 rfl rfl ?_
      refine x_get xf_Choices_26_Choices (Or.inl (by rw [xup_ne npo]; exact eo)) rfl d_Choices_advance_48 ?_
      refine x_iload_n d_Choices_advance_51 rfl ?_
      refine x_iconst (v := 0) d_Choices_advance_52 (by decide) ?_
      refine x_iast (k := k_apicks) rfl xup_self (nI_pos (by omega)) (rd1 _) d_Choices_advance_53 ?_
      refine x_hp (by rw [st1, xup_up]) ?_
      refine x_any (R := fun h3 => chL h3 o v st sa pk lv na ca 1 (List.replicate 6 (.int 1)) ∧ xfr h h3 [pk, lv]) ⟨⟨(by rw [xup_ne (xne eo epk (by decide))]; exact eo), (by rw [xup_ne (xne est epk (by decide))]; exact est), (by rw [xup_ne (xne esa epk (by decide))]; exact esa), xup_self, (by rw [xup_ne (xne elv epk (by decide))]; exact elv), (by rw [xup_ne (xne ena epk (by decide))]; exact ena), (by rw [xup_ne (xne eca epk (by decide))]; exact eca)⟩, hf2.up (Or.inl (by simp))⟩ (fun h3 ⟨hL3, hf3⟩ => ?_)
      clear hL2 hf2 eo est esa epk elv ena eca
      obtain ⟨eo, est, esa, epk, elv, ena, eca⟩ := id hL3
      refine x_aload_n d_Choices_advance_54 rfl rfl ?_
      refine x_get xf_Choices_29_Choices (Or.inl eo) rfl d_Choices_advance_55 ?_
      refine x_iload_n d_Choices_advance_58 rfl ?_
      refine x_aload_n d_Choices_advance_59 rfl rfl ?_
      refine x_iload_n d_Choices_advance_60 rfl ?_
      refine x_callV (As := [_]) (k := k_Choices) rfl xcv_Choices_89_Choices (Or.inl eo) (c_levelOfPick0 (by omega) hL3 (by omega)) rfl rfl (Nat.le_of_ble_eq_true rfl) d_Choices_advance_61 ?_
      rintro r h4 c4 n4 ⟨rfl, rfl, rfl, rfl⟩
      refine x_last (k := k_achl) rfl elv (nI_pos (by omega)) (at6 _) d_Choices_advance_64 ?_
      refine x_any (R := fun h3 => chL h3 o v st sa pk lv na ca 1 (List.replicate 6 (.int 1)) ∧ xfr h h3 [pk, lv]) ⟨⟨(by rw [xup_ne (xne eo elv (by decide))]; exact eo), (by rw [xup_ne (xne est elv (by decide))]; exact est), (by rw [xup_ne (xne esa elv (by decide))]; exact esa), (by rw [xup_ne (xne epk elv (by decide))]; exact epk), (by rw [xup_self, set_rep]), (by rw [xup_ne (xne ena elv (by decide))]; exact ena), (by rw [xup_ne (xne eca elv (by decide))]; exact eca)⟩, hf3.up (Or.inl (by simp))⟩ (fun h5 ⟨hL5, hf5⟩ => ?_)
      refine x_iinc (v := (-1)) (L' := [_, _, _]) d_Choices_advance_65 rfl (by decide) rfl rfl ?_
      refine x_goto (tgt := 4) d_Choices_advance_68 (by decide) ?_
      refine x_iload_n d_Choices_advance_4 rfl ?_
      refine x_if_lt (tgt := 71) d_Choices_advance_5 (by decide) (fun _ => ?_) (fun hn => absurd (by decide) hn)
      exact at71 h5 _ hL5.1 hf5
    | succ j ih =>
      intro h2 hj hL2 hf2
      obtain ⟨eo, est, esa, epk, elv, ena, eca⟩ := id hL2
      have jcl : (nI (j + 1)).toNatClampNeg = (j + 1) := nI_clamp (by omega)
      have at6 : ∀ w : Value, (List.replicate 6 w)[(nI (j + 1)).toNatClampNeg]? = some w := fun w => by rw [jcl, List.getElem?_replicate, if_pos (by omega)]
      refine x_iload_n d_Choices_advance_4 rfl ?_
      refine x_if_lt (tgt := 71) d_Choices_advance_5 (by decide) (fun ht => absurd ht (nI_pos (by omega))) (fun _ => ?_)
      refine x_iload_n d_Choices_advance_8 rfl ?_
      refine x_if_eq (tgt := 71) d_Choices_advance_9 (by decide) (fun ht => absurd ht (by decide)) (fun _ => ?_)
      refine x_aload_n d_Choices_advance_12 rfl rfl ?_
      refine x_get xf_Choices_26_Choices (Or.inl eo) rfl d_Choices_advance_13 ?_
      refine x_iload_n d_Choices_advance_16 rfl ?_
      refine x_dup2_11 d_Choices_advance_17 rfl rfl ?_
      refine x_iald (k := k_apicks) rfl (Or.inl epk) (nI_pos (by omega)) (at6 _) d_Choices_advance_18 ?_
      refine x_iconst (v := 1) d_Choices_advance_19 (by decide) ?_
      refine x_iadd d_Choices_advance_20 ?_
      refine x_iast (k := k_apicks) rfl epk (nI_pos (by omega)) (at6 _) d_Choices_advance_21 ?_
      have npo : o ≠ pk := xne eo epk (by decide)
      have nps : sa ≠ pk := xne esa epk (by decide)
      have rd1 : ∀ w : Value, ((List.replicate 6 (Value.int 0)).set (nI (j + 1)).toNatClampNeg w)[(nI (j + 1)).toNatClampNeg]? = some w := fun w => by rw [jcl, List.getElem?_set_self (by rw [List.length_replicate]; omega)]
      have st1 : ∀ w : Value, ((List.replicate 6 (Value.int 0)).set (nI (j + 1)).toNatClampNeg w).set (nI (j + 1)).toNatClampNeg (.int 0) = List.replicate 6 (.int 0) := fun w => by rw [List.set_set, set_rep]
      refine x_aload_n d_Choices_advance_22 rfl rfl ?_
      refine x_get xf_Choices_26_Choices (Or.inl (by rw [xup_ne npo]; exact eo)) rfl d_Choices_advance_23 ?_
      refine x_iload_n d_Choices_advance_26 rfl ?_
      refine x_iald (k := k_apicks) rfl (Or.inl xup_self) (nI_pos (by omega)) (rd1 _) d_Choices_advance_27 ?_
      refine x_aload_n d_Choices_advance_28 rfl rfl ?_
      refine x_get xf_Choices_23_Choices (Or.inl (by rw [xup_ne npo]; exact eo)) rfl d_Choices_advance_29 ?_
      refine x_iload_n d_Choices_advance_32 rfl ?_
      refine x_iald (k := k_asamples) rfl (Or.inl (by rw [xup_ne nps]; exact esa)) (nI_pos (by omega)) (at6 _) d_Choices_advance_33 ?_
      refine x_icmp_lt (tgt := 41) d_Choices_advance_34 (by decide) (fun ht => absurd ht (by decide)) (fun _ => ?_)
      refine x_iconst (v := 1) d_Choices_advance_37 (by decide) ?_
      refine x_goto (tgt := 42) d_Choices_advance_38 (by decide) ?_
      refine x_istore_n (L' := [_, _, _]) d_Choices_advance_42 rfl rfl ?_
      refine x_iload_n d_Choices_advance_43 rfl ?_
      refine x_if_eq (tgt := 54) d_Choices_advance_44 (by decide) (fun ht => absurd ht (by decide)) (fun _ => ?_)
      refine x_aload_n d_Choices_advance_47 rfl rfl ?_
      refine x_get xf_Choices_26_Choices (Or.inl (by rw [xup_ne npo]; exact eo)) rfl d_Choices_advance_48 ?_
      refine x_iload_n d_Choices_advance_51 rfl ?_
      refine x_iconst (v := 0) d_Choices_advance_52 (by decide) ?_
      refine x_iast (k := k_apicks) rfl xup_self (nI_pos (by omega)) (rd1 _) d_Choices_advance_53 ?_
      refine x_hp (by rw [st1, xup_up]) ?_
      refine x_any (R := fun h3 => chL h3 o v st sa pk lv na ca 1 (List.replicate 6 (.int 1)) ∧ xfr h h3 [pk, lv]) ⟨⟨(by rw [xup_ne (xne eo epk (by decide))]; exact eo), (by rw [xup_ne (xne est epk (by decide))]; exact est), (by rw [xup_ne (xne esa epk (by decide))]; exact esa), xup_self, (by rw [xup_ne (xne elv epk (by decide))]; exact elv), (by rw [xup_ne (xne ena epk (by decide))]; exact ena), (by rw [xup_ne (xne eca epk (by decide))]; exact eca)⟩, hf2.up (Or.inl (by simp))⟩ (fun h3 ⟨hL3, hf3⟩ => ?_)
      clear hL2 hf2 eo est esa epk elv ena eca
      obtain ⟨eo, est, esa, epk, elv, ena, eca⟩ := id hL3
      refine x_aload_n d_Choices_advance_54 rfl rfl ?_
      refine x_get xf_Choices_29_Choices (Or.inl eo) rfl d_Choices_advance_55 ?_
      refine x_iload_n d_Choices_advance_58 rfl ?_
      refine x_aload_n d_Choices_advance_59 rfl rfl ?_
      refine x_iload_n d_Choices_advance_60 rfl ?_
      refine x_callV (As := [_]) (k := k_Choices) rfl xcv_Choices_89_Choices (Or.inl eo) (c_levelOfPick0 (by omega) hL3 (by omega)) rfl rfl (Nat.le_of_ble_eq_true rfl) d_Choices_advance_61 ?_
      rintro r h4 c4 n4 ⟨rfl, rfl, rfl, rfl⟩
      refine x_last (k := k_achl) rfl elv (nI_pos (by omega)) (at6 _) d_Choices_advance_64 ?_
      refine x_any (R := fun h3 => chL h3 o v st sa pk lv na ca 1 (List.replicate 6 (.int 1)) ∧ xfr h h3 [pk, lv]) ⟨⟨(by rw [xup_ne (xne eo elv (by decide))]; exact eo), (by rw [xup_ne (xne est elv (by decide))]; exact est), (by rw [xup_ne (xne esa elv (by decide))]; exact esa), (by rw [xup_ne (xne epk elv (by decide))]; exact epk), (by rw [xup_self, set_rep]), (by rw [xup_ne (xne ena elv (by decide))]; exact ena), (by rw [xup_ne (xne eca elv (by decide))]; exact eca)⟩, hf3.up (Or.inl (by simp))⟩ (fun h5 ⟨hL5, hf5⟩ => ?_)
      refine x_iinc (v := nI j) (L' := [_, _, _]) d_Choices_advance_65 rfl (by exact xw_idec) rfl rfl ?_
      refine x_goto (tgt := 4) d_Choices_advance_68 (by decide) ?_
      exact ih h5 (by omega) hL5 hf5
  refine x_iconst (v := 1) d_Choices_advance_0 (by decide) ?_
  refine x_istore_n (L' := [_, _, _]) d_Choices_advance_1 rfl rfl ?_
  refine x_iconst (v := 5) d_Choices_advance_2 (by decide) ?_
  refine x_istore_n (L' := [_, _, _]) d_Choices_advance_3 rfl rfl ?_
  exact lp 5 h (by omega) hL xfr.rf
/-- a Parting while it is filled -/
abbrev paL (h : XH) (p tr sz fi cl sp : Nat) (cnt : Int32) (t1 t2 t3 t4 : List Value) : Prop := h p = some (k_Parting, [.int cnt, .ref tr, .ref sz, .ref fi, .ref cl, .ref sp]) ∧ h tr = some (k_aptr, t1) ∧ h sz = some (k_apsz, t2) ∧ h fi = some (k_apfi, t3) ∧ h cl = some (k_apcl, t4)
theorem c_has1 {p : Nat} {e : List Value} (hp : h p = some (k_Parting, .int 1 :: e)) : XM l G d M_Parting_has [.ref p, .int 0] h c n (xSame (.int 1) h c n) := by
  refine XM.of (by decide +kernel) (Nat.le_of_ble_eq_true rfl) ?_
  refine x_iload_n d_Parting_has_0 rfl ?_
  refine x_if_lt (tgt := 16) d_Parting_has_1 (by decide) (fun ht => absurd ht (by decide)) (fun _ => ?_)
  refine x_iload_n d_Parting_has_4 rfl ?_
  refine x_aload_n d_Parting_has_5 rfl rfl ?_
  refine x_get xf_Parting_9_Parting (Or.inl hp) rfl d_Parting_has_6 ?_
  refine x_icmp_ge (tgt := 16) d_Parting_has_9 (by decide) (fun ht => absurd ht (by decide)) (fun _ => ?_)
  refine x_iconst (v := 1) d_Parting_has_12 (by decide) ?_
  refine x_goto (tgt := 17) d_Parting_has_13 (by decide) ?_
  refine x_zret d_Parting_has_17 rfl rfl ?_
  exact ⟨rfl, rfl, rfl, rfl⟩
theorem c_countIn0 (hd : 1 ≤ d) {p tr sz fi cl sp : Nat} (hL : paL h p tr sz fi cl sp 0 (List.replicate 256 (Value.int 0)) (List.replicate 256 (Value.int 0)) (List.replicate 256 (Value.int 0)) (List.replicate 256 (Value.int 0))) : XM l G d M_Parting_countIn [.ref p, .int 0, .int 0] h c n (fun r h' c' n' => r = none ∧ h' p = some (k_Parting, [.int 1, .ref tr, .ref sz, .ref fi, .ref cl, .ref sp]) ∧ (∃ F, xfr h h' F ∧ xno h F [k_MarkerText, k_Choices, k_achv, k_astarts, k_asamples, k_apicks, k_achl, k_aCondition, k_aName, k_MarkerTextModel, k_aint, k_along, k_aboolean, k_avals]) ∧ c' = c ∧ n' = n) := by
  obtain ⟨d, rfl⟩ : ∃ q, d = q + 1 := ⟨d - 1, by omega⟩
  obtain ⟨ep, etr, esz, efi, ecl⟩ := id hL
  have hno : xno h [p, tr, sz, fi, cl] [k_MarkerText, k_Choices, k_achv, k_astarts, k_asamples, k_apicks, k_achl, k_aCondition, k_aName, k_MarkerTextModel, k_aint, k_along, k_aboolean, k_avals] := (xno1 ep (by decide)).ap ((xno1 etr (by decide)).ap ((xno1 esz (by decide)).ap ((xno1 efi (by decide)).ap (xno1 ecl (by decide)))))
  have hf0 : xfr h h [p, tr, sz, fi, cl] := xfr.rf
  have a0 : ∀ w : Value, (List.replicate 256 w)[(0 : Int32).toNatClampNeg]? = some w := fun w => rfl
  refine XM.of (by decide +kernel) (Nat.le_of_ble_eq_true rfl) ?_
  refine x_iload_n d_Parting_countIn_0 rfl ?_
  refine x_if_lt (tgt := 11) d_Parting_countIn_1 (by decide) (fun ht => absurd ht (by decide)) (fun _ => ?_)
  refine x_iload_n d_Parting_countIn_4 rfl ?_
  refine x_sipush (v := 256) d_Parting_countIn_5 (by decide) ?_
  refine x_icmp_lt (tgt := 12) d_Parting_countIn_8 (by decide) (fun _ => ?_) (fun hn => absurd (by decide) hn)
  refine x_aload_n d_Parting_countIn_12 rfl rfl ?_
  refine x_get xf_Parting_25_Parting (Or.inl ep) rfl d_Parting_countIn_13 ?_
  refine x_iload_n d_Parting_countIn_16 rfl ?_
  refine x_iald (k := k_apcl) rfl (Or.inl ecl) (by decide) (a0 _) d_Parting_countIn_17 ?_
  refine x_if_ne (tgt := 81) d_Parting_countIn_18 (by decide) (fun ht => absurd rfl ht) (fun _ => ?_)
  refine x_aload_n d_Parting_countIn_21 rfl rfl ?_
  refine x_get xf_Parting_9_Parting (Or.inl ep) rfl d_Parting_countIn_22 ?_
  refine x_sipush (v := 256) d_Parting_countIn_25 (by decide) ?_
  refine x_icmp_ge (tgt := 81) d_Parting_countIn_28 (by decide) (fun ht => absurd ht (by decide)) (fun _ => ?_)
  refine x_aload_n d_Parting_countIn_31 rfl rfl ?_
  refine x_get xf_Parting_15_Parting (Or.inl ep) rfl d_Parting_countIn_32 ?_
  refine x_aload_n d_Parting_countIn_35 rfl rfl ?_
  refine x_get xf_Parting_9_Parting (Or.inl ep) rfl d_Parting_countIn_36 ?_
  refine x_iload_n d_Parting_countIn_39 rfl ?_
  refine x_iast (k := k_aptr) rfl etr (by decide) (a0 _) d_Parting_countIn_40 ?_
  refine x_any (R := fun h3 => paL h3 p tr sz fi cl sp 0 (List.replicate 256 (Value.int 0)) (List.replicate 256 (Value.int 0)) (List.replicate 256 (Value.int 0)) (List.replicate 256 (Value.int 0)) ∧ xfr h h3 [p, tr, sz, fi, cl]) ⟨⟨(by rw [xup_ne (xne ep etr (by decide))]; exact ep), (by rw [xup_self]; exact congrArg _ (congrArg _ set_rep)), (by rw [xup_ne (xne esz etr (by decide))]; exact esz), (by rw [xup_ne (xne efi etr (by decide))]; exact efi), (by rw [xup_ne (xne ecl etr (by decide))]; exact ecl)⟩, hf0.up (Or.inl (by simp))⟩ (fun h1 ⟨hL1, hf1⟩ => ?_)
  clear hL hf0 ep etr esz efi ecl
  obtain ⟨ep, etr, esz, efi, ecl⟩ := id hL1
  refine x_aload_n d_Parting_countIn_41 rfl rfl ?_
  refine x_get xf_Parting_19_Parting (Or.inl ep) rfl d_Parting_countIn_42 ?_
  refine x_aload_n d_Parting_countIn_45 rfl rfl ?_
  refine x_get xf_Parting_9_Parting (Or.inl ep) rfl d_Parting_countIn_46 ?_
  refine x_iconst (v := 0) d_Parting_countIn_49 (by decide) ?_
  refine x_iast (k := k_apsz) rfl esz (by decide) (a0 _) d_Parting_countIn_50 ?_
  refine x_any (R := fun h3 => paL h3 p tr sz fi cl sp 0 (List.replicate 256 (Value.int 0)) (List.replicate 256 (Value.int 0)) (List.replicate 256 (Value.int 0)) (List.replicate 256 (Value.int 0)) ∧ xfr h h3 [p, tr, sz, fi, cl]) ⟨⟨(by rw [xup_ne (xne ep esz (by decide))]; exact ep), (by rw [xup_ne (xne etr esz (by decide))]; exact etr), (by rw [xup_self]; exact congrArg _ (congrArg _ set_rep)), (by rw [xup_ne (xne efi esz (by decide))]; exact efi), (by rw [xup_ne (xne ecl esz (by decide))]; exact ecl)⟩, hf1.up (Or.inl (by simp))⟩ (fun h2 ⟨hL2, hf2⟩ => ?_)
  clear hL1 hf1 ep etr esz efi ecl
  obtain ⟨ep, etr, esz, efi, ecl⟩ := id hL2
  refine x_aload_n d_Parting_countIn_51 rfl rfl ?_
  refine x_get xf_Parting_22_Parting (Or.inl ep) rfl d_Parting_countIn_52 ?_
  refine x_aload_n d_Parting_countIn_55 rfl rfl ?_
  refine x_get xf_Parting_9_Parting (Or.inl ep) rfl d_Parting_countIn_56 ?_
  refine x_iload_n d_Parting_countIn_59 rfl ?_
  refine x_iast (k := k_apfi) rfl efi (by decide) (a0 _) d_Parting_countIn_60 ?_
  refine x_any (R := fun h3 => paL h3 p tr sz fi cl sp 0 (List.replicate 256 (Value.int 0)) (List.replicate 256 (Value.int 0)) (List.replicate 256 (Value.int 0)) (List.replicate 256 (Value.int 0)) ∧ xfr h h3 [p, tr, sz, fi, cl]) ⟨⟨(by rw [xup_ne (xne ep efi (by decide))]; exact ep), (by rw [xup_ne (xne etr efi (by decide))]; exact etr), (by rw [xup_ne (xne esz efi (by decide))]; exact esz), (by rw [xup_self]; exact congrArg _ (congrArg _ set_rep)), (by rw [xup_ne (xne ecl efi (by decide))]; exact ecl)⟩, hf2.up (Or.inl (by simp))⟩ (fun h3 ⟨hL3, hf3⟩ => ?_)
  clear hL2 hf2 ep etr esz efi ecl
  obtain ⟨ep, etr, esz, efi, ecl⟩ := id hL3
  refine x_aload_n d_Parting_countIn_61 rfl rfl ?_
  refine x_dup d_Parting_countIn_62 rfl ?_
  refine x_get xf_Parting_9_Parting (Or.inl ep) rfl d_Parting_countIn_63 ?_
  refine x_iconst (v := 1) d_Parting_countIn_66 (by decide) ?_
  refine x_iadd d_Parting_countIn_67 ?_
  refine x_top (w := .int 1) (by decide) ?_
  refine x_put xf_Parting_9_Parting xp_Parting_0 rfl rfl ep rfl rfl d_Parting_countIn_68 ?_
  refine x_any (R := fun h3 => paL h3 p tr sz fi cl sp 1 (List.replicate 256 (Value.int 0)) (List.replicate 256 (Value.int 0)) (List.replicate 256 (Value.int 0)) (List.replicate 256 (Value.int 0)) ∧ xfr h h3 [p, tr, sz, fi, cl]) ⟨⟨xup_self, (by rw [xup_ne (xne etr ep (by decide))]; exact etr), (by rw [xup_ne (xne esz ep (by decide))]; exact esz), (by rw [xup_ne (xne efi ep (by decide))]; exact efi), (by rw [xup_ne (xne ecl ep (by decide))]; exact ecl)⟩, hf3.up (Or.inl (by simp))⟩ (fun h4 ⟨hL4, hf4⟩ => ?_)
  clear hL3 hf3 ep etr esz efi ecl
  obtain ⟨ep, etr, esz, efi, ecl⟩ := id hL4
  refine x_aload_n d_Parting_countIn_71 rfl rfl ?_
  refine x_get xf_Parting_25_Parting (Or.inl ep) rfl d_Parting_countIn_72 ?_
  refine x_iload_n d_Parting_countIn_75 rfl ?_
  refine x_aload_n d_Parting_countIn_76 rfl rfl ?_
  refine x_get xf_Parting_9_Parting (Or.inl ep) rfl d_Parting_countIn_77 ?_
  refine x_iast (k := k_apcl) rfl ecl (by decide) (a0 _) d_Parting_countIn_80 ?_
  refine x_any (R := fun h3 => paL h3 p tr sz fi cl sp 1 (List.replicate 256 (Value.int 0)) (List.replicate 256 (Value.int 0)) (List.replicate 256 (Value.int 0)) ((List.replicate 256 (Value.int 0)).set 0 (.int 1)) ∧ xfr h h3 [p, tr, sz, fi, cl]) ⟨⟨(by rw [xup_ne (xne ep ecl (by decide))]; exact ep), (by rw [xup_ne (xne etr ecl (by decide))]; exact etr), (by rw [xup_ne (xne esz ecl (by decide))]; exact esz), (by rw [xup_ne (xne efi ecl (by decide))]; exact efi), xup_self⟩, hf4.up (Or.inl (by simp))⟩ (fun h5 ⟨hL5, hf5⟩ => ?_)
  clear hL4 hf4 ep etr esz efi ecl
  obtain ⟨ep, etr, esz, efi, ecl⟩ := id hL5
  refine x_aload_n d_Parting_countIn_81 rfl rfl ?_
  refine x_get xf_Parting_25_Parting (Or.inl ep) rfl d_Parting_countIn_82 ?_
  refine x_iload_n d_Parting_countIn_85 rfl ?_
  refine x_iald (k := k_apcl) rfl (Or.inl ecl) (by decide) rfl d_Parting_countIn_86 ?_
  refine x_iconst (v := 1) d_Parting_countIn_87 (by decide) ?_
  refine x_isub d_Parting_countIn_88 ?_
  refine x_st (st' := [.int 0]) (by decide) ?_
  refine x_istore_n (L' := [_, _, _, _]) d_Parting_countIn_89 rfl rfl ?_
  refine x_aload_n d_Parting_countIn_90 rfl rfl ?_
  refine x_iload_n d_Parting_countIn_91 rfl ?_
  refine x_callV (As := [_]) (k := k_Parting) rfl xcv_Parting_57_Parting (Or.inl ep) (c_has1 ep) rfl rfl (Nat.le_of_ble_eq_true rfl) d_Parting_countIn_92 ?_
  rintro r h6 c6 n6 ⟨rfl, rfl, rfl, rfl⟩
  refine x_if_eq (tgt := 108) d_Parting_countIn_95 (by decide) (fun ht => absurd ht (by decide)) (fun _ => ?_)
  refine x_aload_n d_Parting_countIn_98 rfl rfl ?_
  refine x_get xf_Parting_19_Parting (Or.inl ep) rfl d_Parting_countIn_99 ?_
  refine x_iload_n d_Parting_countIn_102 rfl ?_
  refine x_dup2_11 d_Parting_countIn_103 rfl rfl ?_
  refine x_iald (k := k_apsz) rfl (Or.inl esz) (by decide) (a0 _) d_Parting_countIn_104 ?_
  refine x_iconst (v := 1) d_Parting_countIn_105 (by decide) ?_
  refine x_iadd d_Parting_countIn_106 ?_
  refine x_iast (k := k_apsz) rfl esz (by decide) (a0 _) d_Parting_countIn_107 ?_
  refine x_vret d_Parting_countIn_108 rfl ?_
  exact ⟨rfl, by rw [xup_ne (xne ep esz (by decide))]; exact ep, ⟨_, hf5.up (Or.inl (by simp)), hno⟩, rfl, rfl⟩
end P1C
end
section
section
abbrev y_Reader_init : MethodName := ⟨"MarkerText$Reader", "<init>", "(Ljava/lang/String;[LMarkerText$Name;)V"⟩
abbrev M_Reader_init : XMt := (y_Reader_init, prog_10_method_1_code, 3, none)
theorem d_Reader_init_0 : decode M_Reader_init.2.1 0 = .ok (.aload_n 0, 1) := by decide +kernel
theorem d_Reader_init_1 : decode M_Reader_init.2.1 1 = .ok (.invokespecial 3, 3) := by decide +kernel
theorem xw_828 : (Jvm.Cond.methodLink "MarkerText$Reader" (3 : Nat) ({ cls := "java/lang/Object", name := "<init>", desc := "()V" } : Jvm.MethodName)) ∈ xT := xT_at 828 (by decide +kernel) (by decide +kernel)
theorem d_Reader_init_4 : decode M_Reader_init.2.1 4 = .ok (.aload_n 0, 1) := by decide +kernel
theorem d_Reader_init_5 : decode M_Reader_init.2.1 5 = .ok (.new 9, 3) := by decide +kernel
theorem xw_829 : (Jvm.Cond.classLink "MarkerText$Reader" (9 : Nat) "java/util/ArrayList") ∈ xT := xT_at 829 (by decide +kernel) (by decide +kernel)
theorem xw_830 : (Jvm.Cond.instantiable "java/util/ArrayList" (3 : Nat)) ∈ xT := xT_at 830 (by decide +kernel) (by decide +kernel)
theorem xnw_Reader_9 : xNw "MarkerText$Reader" 9 k_ArrayList 3 [.null, .int 0, .int 0] := ⟨_, _, _, rfl, rfl, by decide +kernel, xw_829, xw_830, xw_26⟩
theorem d_Reader_init_8 : decode M_Reader_init.2.1 8 = .ok (.dup, 1) := by decide +kernel
theorem d_Reader_init_9 : decode M_Reader_init.2.1 9 = .ok (.invokespecial 11, 3) := by decide +kernel
theorem xw_833 : (Jvm.Cond.code ({ cls := "java/util/ArrayList", name := "<init>", desc := "()V" } : Jvm.MethodName) prog_33_method_2_code (1 : Nat) (Option.none : Option Jvm.ClassFile.FieldType)) ∈ xT := xT_at 833 (by decide +kernel) (by decide +kernel)
theorem xcb_AL_init : xcb M_AL_init 0 := ⟨xw_833, xw_26, by decide, by decide, by decide, by decide +kernel⟩
theorem xw_831 : (Jvm.Cond.methodLink "MarkerText$Reader" (11 : Nat) ({ cls := "java/util/ArrayList", name := "<init>", desc := "()V" } : Jvm.MethodName)) ∈ xT := xT_at 831 (by decide +kernel) (by decide +kernel)
theorem xw_832 : (Jvm.Cond.instanceMethod ({ cls := "java/util/ArrayList", name := "<init>", desc := "()V" } : Jvm.MethodName)) ∈ xT := xT_at 832 (by decide +kernel) (by decide +kernel)
theorem xci_Reader_11 : xCI "MarkerText$Reader" 11 M_AL_init 0 := ⟨xcb_AL_init, rfl, rfl, xw_832, Or.inl xw_831⟩
theorem d_Reader_init_12 : decode M_Reader_init.2.1 12 = .ok (.putfield 12, 3) := by decide +kernel
theorem xw_859 : (Jvm.Cond.fieldLink "MarkerText$Reader" (12 : Nat) "MarkerText$Reader" "tests" "Ljava/util/ArrayList;") ∈ xT := xT_at 859 (by decide +kernel) (by decide +kernel)
theorem xf_Reader_12_Reader : xF "MarkerText$Reader" 12 k_Reader 2 := ⟨_, _, _, "MarkerText$Reader", rfl, by decide, Or.inl xw_859, Or.inl rfl⟩
theorem xp_Reader_2 : xP k_Reader 2 true (.object "java/util/ArrayList") := ⟨_, _, _, rfl, rfl, by decide +kernel⟩
theorem d_Reader_init_15 : decode M_Reader_init.2.1 15 = .ok (.aload_n 0, 1) := by decide +kernel
theorem d_Reader_init_16 : decode M_Reader_init.2.1 16 = .ok (.new 18, 3) := by decide +kernel
theorem xw_855 : (Jvm.Cond.classLink "MarkerText$Reader" (18 : Nat) "java/lang/StringBuilder") ∈ xT := xT_at 855 (by decide +kernel) (by decide +kernel)
theorem xnw_Reader_18 : xNw "MarkerText$Reader" 18 k_StringBuilder 4 [.null, .int 0, .int 0, .int 0] := ⟨_, _, _, rfl, rfl, by decide +kernel, xw_855, xw_43, xw_3⟩
theorem d_Reader_init_19 : decode M_Reader_init.2.1 19 = .ok (.dup, 1) := by decide +kernel
theorem d_Reader_init_20 : decode M_Reader_init.2.1 20 = .ok (.invokespecial 20, 3) := by decide +kernel
theorem xw_856 : (Jvm.Cond.methodLink "MarkerText$Reader" (20 : Nat) ({ cls := "java/lang/StringBuilder", name := "<init>", desc := "()V" } : Jvm.MethodName)) ∈ xT := xT_at 856 (by decide +kernel) (by decide +kernel)
theorem xci_Reader_20 : xCI "MarkerText$Reader" 20 M_SB_init 0 := ⟨xcb_SB_init, rfl, rfl, xw_45, Or.inl xw_856⟩
theorem d_Reader_init_23 : decode M_Reader_init.2.1 23 = .ok (.putfield 21, 3) := by decide +kernel
theorem xw_860 : (Jvm.Cond.fieldLink "MarkerText$Reader" (21 : Nat) "MarkerText$Reader" "line" "Ljava/lang/StringBuilder;") ∈ xT := xT_at 860 (by decide +kernel) (by decide +kernel)
theorem xf_Reader_21_Reader : xF "MarkerText$Reader" 21 k_Reader 3 := ⟨_, _, _, "MarkerText$Reader", rfl, by decide, Or.inl xw_860, Or.inl rfl⟩
theorem xp_Reader_3 : xP k_Reader 3 true (.object "java/lang/StringBuilder") := ⟨_, _, _, rfl, rfl, by decide +kernel⟩
theorem d_Reader_init_26 : decode M_Reader_init.2.1 26 = .ok (.aload_n 0, 1) := by decide +kernel
theorem d_Reader_init_27 : decode M_Reader_init.2.1 27 = .ok (.iconst 0, 1) := by decide +kernel
theorem d_Reader_init_28 : decode M_Reader_init.2.1 28 = .ok (.putfield 25, 3) := by decide +kernel
theorem d_Reader_init_31 : decode M_Reader_init.2.1 31 = .ok (.aload_n 0, 1) := by decide +kernel
theorem d_Reader_init_32 : decode M_Reader_init.2.1 32 = .ok (.iconst 0, 1) := by decide +kernel
theorem d_Reader_init_33 : decode M_Reader_init.2.1 33 = .ok (.putfield 29, 3) := by decide +kernel
theorem xw_863 : (Jvm.Cond.fieldLink "MarkerText$Reader" (29 : Nat) "MarkerText$Reader" "open" "I") ∈ xT := xT_at 863 (by decide +kernel) (by decide +kernel)
theorem xf_Reader_29_Reader : xF "MarkerText$Reader" 29 k_Reader 5 := ⟨_, _, _, "MarkerText$Reader", rfl, by decide, Or.inl xw_863, Or.inl rfl⟩
theorem xp_Reader_5 : xP k_Reader 5 false .int := ⟨_, _, _, rfl, rfl, by decide +kernel⟩
theorem d_Reader_init_36 : decode M_Reader_init.2.1 36 = .ok (.aload_n 0, 1) := by decide +kernel
theorem d_Reader_init_37 : decode M_Reader_init.2.1 37 = .ok (.iconst 0, 1) := by decide +kernel
theorem d_Reader_init_38 : decode M_Reader_init.2.1 38 = .ok (.putfield 32, 3) := by decide +kernel
theorem xw_864 : (Jvm.Cond.fieldLink "MarkerText$Reader" (32 : Nat) "MarkerText$Reader" "testCount" "I") ∈ xT := xT_at 864 (by decide +kernel) (by decide +kernel)
theorem xf_Reader_32_Reader : xF "MarkerText$Reader" 32 k_Reader 6 := ⟨_, _, _, "MarkerText$Reader", rfl, by decide, Or.inl xw_864, Or.inl rfl⟩
theorem xp_Reader_6 : xP k_Reader 6 false .int := ⟨_, _, _, rfl, rfl, by decide +kernel⟩
theorem d_Reader_init_41 : decode M_Reader_init.2.1 41 = .ok (.aload_n 0, 1) := by decide +kernel
theorem d_Reader_init_42 : decode M_Reader_init.2.1 42 = .ok (.aload_n 1, 1) := by decide +kernel
theorem d_Reader_init_43 : decode M_Reader_init.2.1 43 = .ok (.putfield 35, 3) := by decide +kernel
theorem xp_Reader_0 : xP k_Reader 0 true (.object "java/lang/String") := ⟨_, _, _, rfl, rfl, by decide +kernel⟩
theorem d_Reader_init_46 : decode M_Reader_init.2.1 46 = .ok (.aload_n 0, 1) := by decide +kernel
theorem d_Reader_init_47 : decode M_Reader_init.2.1 47 = .ok (.aload_n 2, 1) := by decide +kernel
theorem d_Reader_init_48 : decode M_Reader_init.2.1 48 = .ok (.putfield 39, 3) := by decide +kernel
theorem xw_858 : (Jvm.Cond.fieldLink "MarkerText$Reader" (39 : Nat) "MarkerText$Reader" "names" "[LMarkerText$Name;") ∈ xT := xT_at 858 (by decide +kernel) (by decide +kernel)
theorem xf_Reader_39_Reader : xF "MarkerText$Reader" 39 k_Reader 1 := ⟨_, _, _, "MarkerText$Reader", rfl, by decide, Or.inl xw_858, Or.inl rfl⟩
theorem xp_Reader_1 : xP k_Reader 1 true (.array (.object "MarkerText$Name")) := ⟨_, _, _, rfl, rfl, by decide +kernel⟩
theorem d_Reader_init_51 : decode M_Reader_init.2.1 51 = .ok (.return_, 1) := by decide +kernel
abbrev y_Reader_readTest : MethodName := ⟨"MarkerText$Reader", "readTest", "()LMarkerText$Node;"⟩
abbrev M_Reader_readTest : XMt := (y_Reader_readTest, prog_10_method_4_code, 5, (some (.object "MarkerText$Node")))
theorem d_Reader_readTest_0 : decode M_Reader_readTest.2.1 0 = .ok (.aload_n 0, 1) := by decide +kernel
theorem d_Reader_readTest_1 : decode M_Reader_readTest.2.1 1 = .ok (.invokevirtual 49, 3) := by decide +kernel
theorem xw_895 : (Jvm.Cond.code ({ cls := "MarkerText$Reader", name := "skipBlanks", desc := "()V" } : Jvm.MethodName) prog_10_method_11_code (1 : Nat) (Option.none : Option Jvm.ClassFile.FieldType)) ∈ xT := xT_at 895 (by decide +kernel) (by decide +kernel)
theorem xw_23 : (Jvm.Cond.initialized "MarkerText$Reader") ∈ xT := xT_at 23 (by decide +kernel) (by decide +kernel)
theorem xcb_Reader_skipBlanks : xcb M_Reader_skipBlanks 0 := ⟨xw_895, xw_23, by decide, by decide, by decide, by decide +kernel⟩
theorem xw_894 : (Jvm.Cond.instanceMethod ({ cls := "MarkerText$Reader", name := "skipBlanks", desc := "()V" } : Jvm.MethodName)) ∈ xT := xT_at 894 (by decide +kernel) (by decide +kernel)
theorem xw_892 : (Jvm.Cond.methodLink "MarkerText$Reader" (49 : Nat) ({ cls := "MarkerText$Reader", name := "skipBlanks", desc := "()V" } : Jvm.MethodName)) ∈ xT := xT_at 892 (by decide +kernel) (by decide +kernel)
theorem xsel_Reader_skipBlanks : Cond.selects "MarkerText$Reader" y_Reader_skipBlanks y_Reader_skipBlanks ∈ xT := xT_sel (q := (y_Reader_skipBlanks, 7)) (by decide +kernel) (by decide +kernel)
theorem xcv_Reader_49_Reader : xCV "MarkerText$Reader" 49 "MarkerText$Reader" M_Reader_skipBlanks 0 := ⟨xcb_Reader_skipBlanks, xw_894, Or.inl ⟨xw_892, Or.inl xsel_Reader_skipBlanks⟩⟩
theorem d_Reader_readTest_4 : decode M_Reader_readTest.2.1 4 = .ok (.aload_n 0, 1) := by decide +kernel
theorem d_Reader_readTest_5 : decode M_Reader_readTest.2.1 5 = .ok (.invokevirtual 92, 3) := by decide +kernel
theorem xw_901 : (Jvm.Cond.code ({ cls := "MarkerText$Reader", name := "wordHere", desc := "()Ljava/lang/String;" } : Jvm.MethodName) prog_10_method_13_code (2 : Nat) (Option.some (Jvm.ClassFile.FieldType.object "java/lang/String"))) ∈ xT := xT_at 901 (by decide +kernel) (by decide +kernel)
theorem xcb_Reader_wordHere : xcb M_Reader_wordHere 0 := ⟨xw_901, xw_23, by decide, by decide, by decide, by decide +kernel⟩
theorem xw_900 : (Jvm.Cond.instanceMethod ({ cls := "MarkerText$Reader", name := "wordHere", desc := "()Ljava/lang/String;" } : Jvm.MethodName)) ∈ xT := xT_at 900 (by decide +kernel) (by decide +kernel)
theorem xw_898 : (Jvm.Cond.methodLink "MarkerText$Reader" (92 : Nat) ({ cls := "MarkerText$Reader", name := "wordHere", desc := "()Ljava/lang/String;" } : Jvm.MethodName)) ∈ xT := xT_at 898 (by decide +kernel) (by decide +kernel)
theorem xsel_Reader_wordHere : Cond.selects "MarkerText$Reader" y_Reader_wordHere y_Reader_wordHere ∈ xT := xT_sel (q := (y_Reader_wordHere, 7)) (by decide +kernel) (by decide +kernel)
theorem xcv_Reader_92_Reader : xCV "MarkerText$Reader" 92 "MarkerText$Reader" M_Reader_wordHere 0 := ⟨xcb_Reader_wordHere, xw_900, Or.inl ⟨xw_898, Or.inl xsel_Reader_wordHere⟩⟩
theorem d_Reader_readTest_8 : decode M_Reader_readTest.2.1 8 = .ok (.astore_n 1, 1) := by decide +kernel
theorem d_Reader_readTest_9 : decode M_Reader_readTest.2.1 9 = .ok (.aload_n 1, 1) := by decide +kernel
theorem d_Reader_readTest_10 : decode M_Reader_readTest.2.1 10 = .ok (.ldc 95, 2) := by decide +kernel
theorem d_Reader_readTest_12 : decode M_Reader_readTest.2.1 12 = .ok (.invokevirtual 97, 3) := by decide +kernel
theorem xw_927 : (Jvm.Cond.methodLink "MarkerText$Reader" (97 : Nat) ({ cls := "java/lang/String", name := "equals", desc := "(Ljava/lang/Object;)Z" } : Jvm.MethodName)) ∈ xT := xT_at 927 (by decide +kernel) (by decide +kernel)
theorem xcv_Reader_97_String : xCV "MarkerText$Reader" 97 "java/lang/String" M_String_equals 1 := ⟨xcb_String_equals, xw_679, Or.inl ⟨xw_927, Or.inl xw_680⟩⟩
theorem d_Reader_readTest_15 : decode M_Reader_readTest.2.1 15 = .ok (.istore_n 2, 1) := by decide +kernel
theorem d_Reader_readTest_16 : decode M_Reader_readTest.2.1 16 = .ok (.iload_n 2, 1) := by decide +kernel
theorem d_Reader_readTest_17 : decode M_Reader_readTest.2.1 17 = .ok (.ifCond .ne 12, 3) := by decide +kernel
theorem d_Reader_readTest_20 : decode M_Reader_readTest.2.1 20 = .ok (.aload_n 0, 1) := by decide +kernel
theorem d_Reader_readTest_21 : decode M_Reader_readTest.2.1 21 = .ok (.invokevirtual 101, 3) := by decide +kernel
theorem xw_931 : (Jvm.Cond.code ({ cls := "MarkerText$Reader", name := "characterHere", desc := "()C" } : Jvm.MethodName) prog_10_method_12_code (1 : Nat) (Option.some Jvm.ClassFile.FieldType.char)) ∈ xT := xT_at 931 (by decide +kernel) (by decide +kernel)
theorem xcb_Reader_characterHere : xcb M_Reader_characterHere 0 := ⟨xw_931, xw_23, by decide, by decide, by decide, by decide +kernel⟩
theorem xw_930 : (Jvm.Cond.instanceMethod ({ cls := "MarkerText$Reader", name := "characterHere", desc := "()C" } : Jvm.MethodName)) ∈ xT := xT_at 930 (by decide +kernel) (by decide +kernel)
theorem xw_928 : (Jvm.Cond.methodLink "MarkerText$Reader" (101 : Nat) ({ cls := "MarkerText$Reader", name := "characterHere", desc := "()C" } : Jvm.MethodName)) ∈ xT := xT_at 928 (by decide +kernel) (by decide +kernel)
theorem xsel_Reader_characterHere : Cond.selects "MarkerText$Reader" y_Reader_characterHere y_Reader_characterHere ∈ xT := xT_sel (q := (y_Reader_characterHere, 7)) (by decide +kernel) (by decide +kernel)
theorem xcv_Reader_101_Reader : xCV "MarkerText$Reader" 101 "MarkerText$Reader" M_Reader_characterHere 0 := ⟨xcb_Reader_characterHere, xw_930, Or.inl ⟨xw_928, Or.inl xsel_Reader_characterHere⟩⟩
theorem d_Reader_readTest_24 : decode M_Reader_readTest.2.1 24 = .ok (.bipush 40, 2) := by decide +kernel
theorem d_Reader_readTest_26 : decode M_Reader_readTest.2.1 26 = .ok (.if_icmp .ne 22, 3) := by decide +kernel
theorem d_Reader_readTest_48 : decode M_Reader_readTest.2.1 48 = .ok (.aload_n 1, 1) := by decide +kernel
theorem d_Reader_readTest_49 : decode M_Reader_readTest.2.1 49 = .ok (.ldc 109, 2) := by decide +kernel
theorem d_Reader_readTest_51 : decode M_Reader_readTest.2.1 51 = .ok (.invokevirtual 97, 3) := by decide +kernel
theorem d_Reader_readTest_54 : decode M_Reader_readTest.2.1 54 = .ok (.ifCond .ne 12, 3) := by decide +kernel
theorem d_Reader_readTest_57 : decode M_Reader_readTest.2.1 57 = .ok (.aload_n 1, 1) := by decide +kernel
theorem d_Reader_readTest_58 : decode M_Reader_readTest.2.1 58 = .ok (.ldc 111, 2) := by decide +kernel
theorem d_Reader_readTest_60 : decode M_Reader_readTest.2.1 60 = .ok (.invokevirtual 97, 3) := by decide +kernel
theorem d_Reader_readTest_63 : decode M_Reader_readTest.2.1 63 = .ok (.ifCond .eq 7, 3) := by decide +kernel
theorem d_Reader_readTest_70 : decode M_Reader_readTest.2.1 70 = .ok (.iconst 0, 1) := by decide +kernel
theorem d_Reader_readTest_71 : decode M_Reader_readTest.2.1 71 = .ok (.istore_n 3, 1) := by decide +kernel
theorem d_Reader_readTest_72 : decode M_Reader_readTest.2.1 72 = .ok (.aload_n 0, 1) := by decide +kernel
theorem d_Reader_readTest_73 : decode M_Reader_readTest.2.1 73 = .ok (.getfield 39, 3) := by decide +kernel
theorem d_Reader_readTest_76 : decode M_Reader_readTest.2.1 76 = .ok (.aload_n 1, 1) := by decide +kernel
theorem d_Reader_readTest_77 : decode M_Reader_readTest.2.1 77 = .ok (.invokestatic 113, 3) := by decide +kernel
theorem xw_693 : (Jvm.Cond.code ({ cls := "MarkerText", name := "numberOf", desc := "([LMarkerText$Name;Ljava/lang/String;)I" } : Jvm.MethodName) prog_1_method_24_code (3 : Nat) (Option.some Jvm.ClassFile.FieldType.int)) ∈ xT := xT_at 693 (by decide +kernel) (by decide +kernel)
theorem xcb_MT_numberOf : xcb M_MT_numberOf 2 := ⟨xw_693, xw_1, by decide, by decide, by decide, by decide +kernel⟩
theorem xw_962 : (Jvm.Cond.methodLinkNest "MarkerText$Reader" (113 : Nat) ({ cls := "MarkerText", name := "numberOf", desc := "([LMarkerText$Name;Ljava/lang/String;)I" } : Jvm.MethodName) "MarkerText") ∈ xT := xT_at 962 (by decide +kernel) (by decide +kernel)
theorem xw_692 : (Jvm.Cond.static ({ cls := "MarkerText", name := "numberOf", desc := "([LMarkerText$Name;Ljava/lang/String;)I" } : Jvm.MethodName)) ∈ xT := xT_at 692 (by decide +kernel) (by decide +kernel)
theorem xcs_Reader_113 : xCS "MarkerText$Reader" 113 M_MT_numberOf 2 := ⟨xcb_MT_numberOf, xw_692, Or.inr ⟨_, xw_962⟩⟩
theorem d_Reader_readTest_80 : decode M_Reader_readTest.2.1 80 = .ok (.istore 4, 2) := by decide +kernel
theorem d_Reader_readTest_82 : decode M_Reader_readTest.2.1 82 = .ok (.aload_n 0, 1) := by decide +kernel
theorem d_Reader_readTest_83 : decode M_Reader_readTest.2.1 83 = .ok (.getfield 32, 3) := by decide +kernel
theorem d_Reader_readTest_86 : decode M_Reader_readTest.2.1 86 = .ok (.bipush 40, 2) := by decide +kernel
theorem d_Reader_readTest_88 : decode M_Reader_readTest.2.1 88 = .ok (.if_icmp .ge 13, 3) := by decide +kernel
theorem d_Reader_readTest_91 : decode M_Reader_readTest.2.1 91 = .ok (.iload_n 3, 1) := by decide +kernel
theorem d_Reader_readTest_92 : decode M_Reader_readTest.2.1 92 = .ok (.ifCond .ne 11, 3) := by decide +kernel
theorem d_Reader_readTest_95 : decode M_Reader_readTest.2.1 95 = .ok (.iload 4, 2) := by decide +kernel
theorem d_Reader_readTest_97 : decode M_Reader_readTest.2.1 97 = .ok (.iconst (-1), 1) := by decide +kernel
theorem d_Reader_readTest_98 : decode M_Reader_readTest.2.1 98 = .ok (.if_icmp .ne 5, 3) := by decide +kernel
theorem d_Reader_readTest_101 : decode M_Reader_readTest.2.1 101 = .ok (.aconst_null, 1) := by decide +kernel
theorem d_Reader_readTest_102 : decode M_Reader_readTest.2.1 102 = .ok (.areturn, 1) := by decide +kernel
abbrev y_Reader_readJoined : MethodName := ⟨"MarkerText$Reader", "readJoined", "(I)LMarkerText$Node;"⟩
abbrev M_Reader_readJoined : XMt := (y_Reader_readJoined, prog_10_method_3_code, 6, (some (.object "MarkerText$Node")))
theorem d_Reader_readJoined_0 : decode M_Reader_readJoined.2.1 0 = .ok (.iload_n 1, 1) := by decide +kernel
theorem d_Reader_readJoined_1 : decode M_Reader_readJoined.2.1 1 = .ok (.iconst 1, 1) := by decide +kernel
theorem d_Reader_readJoined_2 : decode M_Reader_readJoined.2.1 2 = .ok (.if_icmp .ne 7, 3) := by decide +kernel
theorem d_Reader_readJoined_9 : decode M_Reader_readJoined.2.1 9 = .ok (.iconst 0, 1) := by decide +kernel
theorem d_Reader_readJoined_10 : decode M_Reader_readJoined.2.1 10 = .ok (.istore_n 2, 1) := by decide +kernel
theorem d_Reader_readJoined_11 : decode M_Reader_readJoined.2.1 11 = .ok (.iload_n 2, 1) := by decide +kernel
theorem d_Reader_readJoined_12 : decode M_Reader_readJoined.2.1 12 = .ok (.ifCond .eq 11, 3) := by decide +kernel
theorem d_Reader_readJoined_23 : decode M_Reader_readJoined.2.1 23 = .ok (.aload_n 0, 1) := by decide +kernel
theorem d_Reader_readJoined_24 : decode M_Reader_readJoined.2.1 24 = .ok (.invokevirtual 75, 3) := by decide +kernel
theorem xw_891 : (Jvm.Cond.code ({ cls := "MarkerText$Reader", name := "readTest", desc := "()LMarkerText$Node;" } : Jvm.MethodName) prog_10_method_4_code (5 : Nat) (Option.some (Jvm.ClassFile.FieldType.object "MarkerText$Node"))) ∈ xT := xT_at 891 (by decide +kernel) (by decide +kernel)
theorem xcb_Reader_readTest : xcb M_Reader_readTest 0 := ⟨xw_891, xw_23, by decide, by decide, by decide, by decide +kernel⟩
theorem xw_890 : (Jvm.Cond.instanceMethod ({ cls := "MarkerText$Reader", name := "readTest", desc := "()LMarkerText$Node;" } : Jvm.MethodName)) ∈ xT := xT_at 890 (by decide +kernel) (by decide +kernel)
theorem xw_888 : (Jvm.Cond.methodLink "MarkerText$Reader" (75 : Nat) ({ cls := "MarkerText$Reader", name := "readTest", desc := "()LMarkerText$Node;" } : Jvm.MethodName)) ∈ xT := xT_at 888 (by decide +kernel) (by decide +kernel)
theorem xsel_Reader_readTest : Cond.selects "MarkerText$Reader" y_Reader_readTest y_Reader_readTest ∈ xT := xT_sel (q := (y_Reader_readTest, 7)) (by decide +kernel) (by decide +kernel)
theorem xcv_Reader_75_Reader : xCV "MarkerText$Reader" 75 "MarkerText$Reader" M_Reader_readTest 0 := ⟨xcb_Reader_readTest, xw_890, Or.inl ⟨xw_888, Or.inl xsel_Reader_readTest⟩⟩
theorem d_Reader_readJoined_27 : decode M_Reader_readJoined.2.1 27 = .ok (.astore_n 3, 1) := by decide +kernel
theorem d_Reader_readJoined_28 : decode M_Reader_readJoined.2.1 28 = .ok (.iconst 0, 1) := by decide +kernel
theorem d_Reader_readJoined_29 : decode M_Reader_readJoined.2.1 29 = .ok (.istore 4, 2) := by decide +kernel
theorem d_Reader_readJoined_31 : decode M_Reader_readJoined.2.1 31 = .ok (.iload 4, 2) := by decide +kernel
theorem d_Reader_readJoined_33 : decode M_Reader_readJoined.2.1 33 = .ok (.sipush 160, 3) := by decide +kernel
theorem d_Reader_readJoined_36 : decode M_Reader_readJoined.2.1 36 = .ok (.if_icmp .ge 70, 3) := by decide +kernel
theorem d_Reader_readJoined_39 : decode M_Reader_readJoined.2.1 39 = .ok (.aload_n 3, 1) := by decide +kernel
theorem d_Reader_readJoined_40 : decode M_Reader_readJoined.2.1 40 = .ok (.ifnull 66, 3) := by decide +kernel
theorem d_Reader_readJoined_106 : decode M_Reader_readJoined.2.1 106 = .ok (.aload_n 3, 1) := by decide +kernel
theorem d_Reader_readJoined_107 : decode M_Reader_readJoined.2.1 107 = .ok (.areturn, 1) := by decide +kernel
theorem d_Reader_readJoined_5 : decode M_Reader_readJoined.2.1 5 = .ok (.iconst 1, 1) := by decide +kernel
theorem d_Reader_readJoined_6 : decode M_Reader_readJoined.2.1 6 = .ok (.goto 4, 3) := by decide +kernel
theorem d_Reader_readJoined_15 : decode M_Reader_readJoined.2.1 15 = .ok (.aload_n 0, 1) := by decide +kernel
theorem d_Reader_readJoined_16 : decode M_Reader_readJoined.2.1 16 = .ok (.iconst 2, 1) := by decide +kernel
theorem d_Reader_readJoined_17 : decode M_Reader_readJoined.2.1 17 = .ok (.invokevirtual 45, 3) := by decide +kernel
theorem xw_887 : (Jvm.Cond.code ({ cls := "MarkerText$Reader", name := "readJoined", desc := "(I)LMarkerText$Node;" } : Jvm.MethodName) prog_10_method_3_code (6 : Nat) (Option.some (Jvm.ClassFile.FieldType.object "MarkerText$Node"))) ∈ xT := xT_at 887 (by decide +kernel) (by decide +kernel)
theorem xcb_Reader_readJoined : xcb M_Reader_readJoined 1 := ⟨xw_887, xw_23, by decide, by decide, by decide, by decide +kernel⟩
theorem xw_886 : (Jvm.Cond.instanceMethod ({ cls := "MarkerText$Reader", name := "readJoined", desc := "(I)LMarkerText$Node;" } : Jvm.MethodName)) ∈ xT := xT_at 886 (by decide +kernel) (by decide +kernel)
theorem xw_884 : (Jvm.Cond.methodLink "MarkerText$Reader" (45 : Nat) ({ cls := "MarkerText$Reader", name := "readJoined", desc := "(I)LMarkerText$Node;" } : Jvm.MethodName)) ∈ xT := xT_at 884 (by decide +kernel) (by decide +kernel)
theorem xsel_Reader_readJoined : Cond.selects "MarkerText$Reader" y_Reader_readJoined y_Reader_readJoined ∈ xT := xT_sel (q := (y_Reader_readJoined, 7)) (by decide +kernel) (by decide +kernel)
theorem xcv_Reader_45_Reader : xCV "MarkerText$Reader" 45 "MarkerText$Reader" M_Reader_readJoined 1 := ⟨xcb_Reader_readJoined, xw_886, Or.inl ⟨xw_884, Or.inl xsel_Reader_readJoined⟩⟩
theorem d_Reader_readJoined_20 : decode M_Reader_readJoined.2.1 20 = .ok (.goto 7, 3) := by decide +kernel
abbrev y_Reader_readWhole : MethodName := ⟨"MarkerText$Reader", "readWhole", "()LMarkerText$Condition;"⟩
abbrev M_Reader_readWhole : XMt := (y_Reader_readWhole, prog_10_method_2_code, 2, (some (.object "MarkerText$Condition")))
theorem d_Reader_readWhole_0 : decode M_Reader_readWhole.2.1 0 = .ok (.aload_n 0, 1) := by decide +kernel
theorem d_Reader_readWhole_1 : decode M_Reader_readWhole.2.1 1 = .ok (.iconst 1, 1) := by decide +kernel
theorem d_Reader_readWhole_2 : decode M_Reader_readWhole.2.1 2 = .ok (.invokevirtual 45, 3) := by decide +kernel
theorem d_Reader_readWhole_5 : decode M_Reader_readWhole.2.1 5 = .ok (.astore_n 1, 1) := by decide +kernel
theorem d_Reader_readWhole_6 : decode M_Reader_readWhole.2.1 6 = .ok (.aload_n 1, 1) := by decide +kernel
theorem d_Reader_readWhole_7 : decode M_Reader_readWhole.2.1 7 = .ok (.ifnonnull 5, 3) := by decide +kernel
theorem d_Reader_readWhole_10 : decode M_Reader_readWhole.2.1 10 = .ok (.aconst_null, 1) := by decide +kernel
theorem d_Reader_readWhole_11 : decode M_Reader_readWhole.2.1 11 = .ok (.areturn, 1) := by decide +kernel
end
section P1D
variable {l : Launch} {G : XG} {h : XH} {c n d : Nat}
theorem c_Reader_init (hG : xGk G) (hd : 5 ≤ d) {r ta na : Nat} (hr : h r = some (k_Reader, [.null, .null, .null, .null, .int 0, .int 0, .int 0])) (hc : c + 3 ≤ xCB) (hn : n + 40 ≤ xSB) : XM l G d M_Reader_init [.ref r, .ref ta, .ref na] h c n (fun v h' c' n' => v = none ∧ (∃ la ba va, h' r = some (rdO ta na la ba 0 0 0) ∧ isL G h' la (G.2.2.2.1 100) [] ∧ isB h' ba va [] 16) ∧ xfr h h' [r] ∧ c' ≤ c + 3 ∧ n' ≤ n + 40) := by
  obtain ⟨d, rfl⟩ : ∃ q, d = q + 1 := ⟨d - 1, by omega⟩
  refine XM.of (by decide +kernel) (Nat.le_of_ble_eq_true rfl) ?_
  have f0 : xfr h h [r] := xfr.rf
  refine x_aload_n d_Reader_init_0 rfl rfl ?_
  refine x_objInit xw_828 xw_40 xw_41 (Nat.le_of_ble_eq_true rfl) d_Reader_init_1 ?_
  refine x_aload_n d_Reader_init_4 rfl rfl ?_
  refine x_new xnw_Reader_9 (by omega) (by omega) d_Reader_init_5 (fun la hn_la hk_la => ?_)
  refine x_dup d_Reader_init_8 rfl ?_
  refine x_callI (As := []) xci_Reader_11 (c_AL_init (by omega) xup_self) rfl rfl (Nat.le_of_ble_eq_true rfl) d_Reader_init_9 ?_
  rintro v h1 c1 n1 ⟨rfl, hL, g1, rfl, rfl⟩
  have r1 := g1.1 _ _ (xup_old hr hn_la) (by simp; exact xneN hr hn_la)
  refine x_putF xf_Reader_12_Reader xp_Reader_2 ⟨_, _, _, rfl, rfl, xw_859⟩ rfl rfl rfl r1 rfl rfl d_Reader_init_12 ?_
  refine x_any (R := fun h2 => h2 r = some (k_Reader, [.null, .null, .ref la, .null, .int 0, .int 0, .int 0]) ∧ isL G h2 la (G.2.2.2.1 100) [] ∧ xfr h h2 [r]) ⟨xup_self, hL.fr (F := [r]) (xfr.rf.up (Or.inl (by simp))) (xno1 r1 (by decide)), ((f0.up (Or.inr hn_la)).tr g1 (fun q hq hq2 => by rw [List.mem_singleton] at hq2; subst hq2; exact absurd hn_la hq)).up (Or.inl (by simp))⟩ (fun h2 ⟨r2, L2, f2⟩ => ?_)
  refine x_aload_n d_Reader_init_15 rfl rfl ?_
  refine x_new xnw_Reader_18 (by omega) (by omega) d_Reader_init_16 (fun ba hn_ba hk_ba => ?_)
  refine x_dup d_Reader_init_19 rfl ?_
  refine x_callI (As := []) xci_Reader_20 (c_SB_init (by omega) xup_self (by omega) (by omega)) rfl rfl (Nat.le_of_ble_eq_true rfl) d_Reader_init_20 ?_
  rintro v h3 c3 n3 ⟨rfl, va, hva, hB, g3, rfl, rfl⟩
  have t3 : xfr h2 h3 [] := (xfr.rf.up (Or.inr hn_ba)).tr g3 (fun q hq hq2 => by rw [List.mem_singleton] at hq2; subst hq2; exact absurd hn_ba hq)
  have r3 := t3.1 _ _ r2 (by simp)
  obtain ⟨z3, bs3, b31, b32, -⟩ := id hB
  refine x_putF xf_Reader_21_Reader xp_Reader_3 ⟨_, _, _, rfl, rfl, xw_860⟩ rfl rfl rfl r3 rfl rfl d_Reader_init_23 ?_
  refine x_any (R := fun h4 => h4 r = some (k_Reader, [.null, .null, .ref la, .ref ba, .int 0, .int 0, .int 0]) ∧ isL G h4 la (G.2.2.2.1 100) [] ∧ isB h4 ba va [] 16 ∧ xfr h h4 [r]) ⟨xup_self, (L2.fr t3 (fun q hq => by cases hq)).fr (F := [r]) (xfr.rf.up (Or.inl (by simp))) (xno1 r3 (by decide)), hB.fr (F := [r]) (xfr.rf.up (Or.inl (by simp))) (by simp; exact xne b31 r3 (by decide)) (by simp; exact xne b32 r3 (by decide)), (f2.tr t3 (fun q _ hq => by cases hq)).up (Or.inl (by simp))⟩ (fun h4 ⟨r4, L4, B4, f4⟩ => ?_)
  refine x_aload_n d_Reader_init_26 rfl rfl ?_
  refine x_iconst (v := 0) d_Reader_init_27 (by decide) ?_
  refine x_put xf_Reader_25_Reader xp_Reader_4 rfl rfl r4 rfl rfl d_Reader_init_28 ?_
  refine x_aload_n d_Reader_init_31 rfl rfl ?_
  refine x_iconst (v := 0) d_Reader_init_32 (by decide) ?_
  refine x_put xf_Reader_29_Reader xp_Reader_5 rfl rfl xup_self rfl rfl d_Reader_init_33 ?_
  refine x_aload_n d_Reader_init_36 rfl rfl ?_
  refine x_iconst (v := 0) d_Reader_init_37 (by decide) ?_
  refine x_put xf_Reader_32_Reader xp_Reader_6 rfl rfl xup_self rfl rfl d_Reader_init_38 ?_
  refine x_aload_n d_Reader_init_41 rfl rfl ?_
  refine x_aload_n d_Reader_init_42 rfl rfl ?_
  refine x_putF xf_Reader_35_Reader xp_Reader_0 ⟨_, _, _, rfl, rfl, xw_857⟩ rfl rfl rfl xup_self rfl rfl d_Reader_init_43 ?_
  refine x_aload_n d_Reader_init_46 rfl rfl ?_
  refine x_aload_n d_Reader_init_47 rfl rfl ?_
  refine x_putF xf_Reader_39_Reader xp_Reader_1 ⟨_, _, _, rfl, rfl, xw_858⟩ rfl rfl rfl xup_self rfl rfl d_Reader_init_48 ?_
  refine x_vret d_Reader_init_51 rfl ?_
  rw [xup_up, xup_up, xup_up, xup_up]
  obtain ⟨z4, bs4, b41, b42, -⟩ := id B4
  exact ⟨rfl, ⟨la, ba, va, xup_self, L4.fr (F := [r]) (xfr.rf.up (Or.inl (by simp))) (xno1 r4 (by decide)), B4.fr (F := [r]) (xfr.rf.up (Or.inl (by simp))) (by simp; exact xne b41 r4 (by decide)) (by simp; exact xne b42 r4 (by decide))⟩, f4.up (Or.inl (by simp)), by omega, by omega⟩
/-- a TEST in the empty text, without names -/
theorem c_readTest0 (hG : xGk G) (hd : 6 ≤ d) {r ta na la ba : Nat} (hr : h r = some (rdO ta na la ba 0 0 0)) (hS : isS G h ta []) (hna : h na = some (k_aName, List.replicate 6 .null)) (hc : c + 2 ≤ xCB) (hn : n + 4 ≤ xSB) : XM l G d M_Reader_readTest [.ref r] h c n (fun v h' c' n' => v = some .null ∧ h' r = some (rdO ta na la ba 0 0 0) ∧ xfr h h' [r] ∧ c' ≤ c + 2 ∧ n' ≤ n + 4) := by
  obtain ⟨d, rfl⟩ : ∃ q, d = q + 1 := ⟨d - 1, by omega⟩
  refine XM.of (by decide +kernel) (Nat.le_of_ble_eq_true rfl) ?_
  refine x_aload_n d_Reader_readTest_0 rfl rfl ?_
  refine x_callV (As := []) (k := k_Reader) rfl xcv_Reader_49_Reader (Or.inl hr) (c_skipBlanks hG (by omega) hr hS (by simp) (by simp)) rfl rfl (Nat.le_of_ble_eq_true rfl) d_Reader_readTest_1 ?_
  rintro v h1 c1 n1 ⟨rfl, rfl, rfl, rfl⟩
  have e0 : skp [] 0 = 0 := rfl
  rw [e0]
  have f1 : xfr h (xup h r (rdO ta na la ba 0 0 0)) [r] := xfr.rf.up (Or.inl (by simp))
  have S1 := hS.fr f1 (xno1 hr (by decide))
  have N1 := f1.1 _ _ hna (by simp; exact xne hna hr (by decide))
  refine x_aload_n d_Reader_readTest_4 rfl rfl ?_
  refine x_callV (As := []) (k := k_Reader) rfl xcv_Reader_92_Reader (Or.inl xup_self) (c_wordHere hG (by omega) xup_self S1 (by simp) (by simp) (by omega) (by simp; omega)) rfl rfl (Nat.le_of_ble_eq_true rfl) d_Reader_readTest_5 ?_
  rintro v h2 c2 n2 ⟨q, rfl, hw, f2, hc2, hn2⟩
  have r2 := f2.1 _ _ xup_self (by simp)
  have S2 := S1.fr f2 (fun q hq => by cases hq)
  have N2 := f2.1 _ _ N1 (by simp)
  have hw : isS G h2 q [] := hw
  obtain ⟨va, ee, hq1, -⟩ := id hw
  refine x_astore_n (L' := [_, _, _, _, _]) d_Reader_readTest_8 rfl rfl rfl ?_
  refine x_aload_n d_Reader_readTest_9 rfl rfl ?_
  refine x_ldcS (i := 19) (tx := "not") (by decide +kernel) d_Reader_readTest_10 ?_
  refine x_callV (As := [_]) (k := k_String) rfl xcv_Reader_97_String hq1 (c_String_equals (by omega) hw (hG.str (by decide)) (by simp) (by decide)) rfl rfl (Nat.le_of_ble_eq_true rfl) d_Reader_readTest_12 ?_
  rintro v h3 c3 n3 ⟨rfl, rfl, rfl, rfl⟩
  rw [if_neg (by decide)]
  refine x_istore_n (L' := [_, _, _, _, _]) d_Reader_readTest_15 rfl rfl ?_
  refine x_iload_n d_Reader_readTest_16 rfl ?_
  refine x_if_ne (tgt := 29) d_Reader_readTest_17 (by decide) (fun ht => absurd rfl ht) (fun _ => ?_)
  refine x_aload_n d_Reader_readTest_20 rfl rfl ?_
  refine x_callV (As := []) (k := k_Reader) rfl xcv_Reader_101_Reader (Or.inl r2) (c_characterHere hG (by omega) r2 S2 (by simp) (by simp)) rfl rfl (Nat.le_of_ble_eq_true rfl) d_Reader_readTest_21 ?_
  rintro v h4 c4 n4 ⟨rfl, rfl, rfl, rfl⟩
  refine x_bipush (v := 40) d_Reader_readTest_24 (by decide) ?_
  refine x_icmp_ne (tgt := 48) d_Reader_readTest_26 (by decide) (fun _ => ?_) (fun hn => absurd hn (by decide))
  refine x_aload_n d_Reader_readTest_48 rfl rfl ?_
  refine x_ldcS (i := 20) (tx := "true") (by decide +kernel) d_Reader_readTest_49 ?_
  refine x_callV (As := [_]) (k := k_String) rfl xcv_Reader_97_String hq1 (c_String_equals (by omega) hw (hG.str (by decide)) (by simp) (by decide)) rfl rfl (Nat.le_of_ble_eq_true rfl) d_Reader_readTest_51 ?_
  rintro v h5 c5 n5 ⟨rfl, rfl, rfl, rfl⟩
  rw [if_neg (by decide)]
  refine x_if_ne (tgt := 66) d_Reader_readTest_54 (by decide) (fun ht => absurd rfl ht) (fun _ => ?_)
  refine x_aload_n d_Reader_readTest_57 rfl rfl ?_
  refine x_ldcS (i := 21) (tx := "false") (by decide +kernel) d_Reader_readTest_58 ?_
  refine x_callV (As := [_]) (k := k_String) rfl xcv_Reader_97_String hq1 (c_String_equals (by omega) hw (hG.str (by decide)) (by simp) (by decide)) rfl rfl (Nat.le_of_ble_eq_true rfl) d_Reader_readTest_60 ?_
  rintro v h6 c6 n6 ⟨rfl, rfl, rfl, rfl⟩
  rw [if_neg (by decide)]
  refine x_if_eq (tgt := 70) d_Reader_readTest_63 (by decide) (fun _ => ?_) (fun hn => absurd rfl hn)
  refine x_iconst (v := 0) d_Reader_readTest_70 (by decide) ?_
  refine x_istore_n (L' := [_, _, _, _, _]) d_Reader_readTest_71 rfl rfl ?_
  refine x_aload_n d_Reader_readTest_72 rfl rfl ?_
  refine x_get xf_Reader_39_Reader (Or.inl r2) rfl d_Reader_readTest_73 ?_
  refine x_aload_n d_Reader_readTest_76 rfl rfl ?_
  refine x_callS (As := [_, _]) xcs_Reader_113 (c_numberOf (as := []) (kas := []) (Ns := []) (by omega) ⟨N2, rfl, rfl, by simp, by simp, by simp, fun i x a ka hz => by simp at hz⟩ hw (by simp)) rfl rfl (Nat.le_of_ble_eq_true rfl) d_Reader_readTest_77 ?_
  rintro v h7 c7 n7 ⟨rfl, rfl, rfl, rfl⟩
  refine x_istore (L' := [_, _, _, _, _]) d_Reader_readTest_80 rfl rfl ?_
  refine x_aload_n d_Reader_readTest_82 rfl rfl ?_
  refine x_get xf_Reader_32_Reader (Or.inl r2) rfl d_Reader_readTest_83 ?_
  refine x_bipush (v := 40) d_Reader_readTest_86 (by decide) ?_
  refine x_icmp_ge (tgt := 101) d_Reader_readTest_88 (by decide) (fun ht => absurd ht (by decide)) (fun _ => ?_)
  refine x_iload_n d_Reader_readTest_91 rfl ?_
  refine x_if_ne (tgt := 103) d_Reader_readTest_92 (by decide) (fun ht => absurd rfl ht) (fun _ => ?_)
  refine x_iload d_Reader_readTest_95 rfl ?_
  refine x_iconst (v := (-1)) d_Reader_readTest_97 (by decide) ?_
  refine x_icmp_ne (tgt := 103) d_Reader_readTest_98 (by decide) (fun ht => absurd rfl ht) (fun _ => ?_)
  refine x_null d_Reader_readTest_101 ?_
  refine x_aret d_Reader_readTest_102 rfl rfl ?_
  exact ⟨rfl, r2, f1.tr f2 (fun q _ hq => by cases hq), hc2, (by have e9 : (wrd [] 0).length = 0 := rfl; omega)⟩
theorem c_readAnd0 (hG : xGk G) (hd : 7 ≤ d) {r ta na la ba : Nat} (hr : h r = some (rdO ta na la ba 0 0 0)) (hS : isS G h ta []) (hna : h na = some (k_aName, List.replicate 6 .null)) (hc : c + 2 ≤ xCB) (hn : n + 4 ≤ xSB) : XM l G d M_Reader_readJoined [.ref r, .int 2] h c n (fun v h' c' n' => v = some .null ∧ h' r = some (rdO ta na la ba 0 0 0) ∧ xfr h h' [r] ∧ c' ≤ c + 2 ∧ n' ≤ n + 4) := by
  obtain ⟨d, rfl⟩ : ∃ q, d = q + 1 := ⟨d - 1, by omega⟩
  refine XM.of (by decide +kernel) (Nat.le_of_ble_eq_true rfl) ?_
  refine x_iload_n d_Reader_readJoined_0 rfl ?_
  refine x_iconst (v := 1) d_Reader_readJoined_1 (by decide) ?_
  refine x_icmp_ne (tgt := 9) d_Reader_readJoined_2 (by decide) (fun _ => ?_) (fun hn => absurd hn (by decide))
  refine x_iconst (v := 0) d_Reader_readJoined_9 (by decide) ?_
  refine x_istore_n (L' := [_, _, _, _, _, _]) d_Reader_readJoined_10 rfl rfl ?_
  refine x_iload_n d_Reader_readJoined_11 rfl ?_
  refine x_if_eq (tgt := 23) d_Reader_readJoined_12 (by decide) (fun _ => ?_) (fun hn => absurd rfl hn)
  refine x_aload_n d_Reader_readJoined_23 rfl rfl ?_
  refine x_callV (As := []) (k := k_Reader) rfl xcv_Reader_75_Reader (Or.inl hr) (c_readTest0 hG (by omega) hr hS hna hc hn) rfl rfl (Nat.le_of_ble_eq_true rfl) d_Reader_readJoined_24 ?_
  rintro v h1 c1 n1 ⟨rfl, r1, f1, hc1, hn1⟩
  refine x_astore_n (L' := [_, _, _, _, _, _]) d_Reader_readJoined_27 rfl rfl rfl ?_
  refine x_iconst (v := 0) d_Reader_readJoined_28 (by decide) ?_
  refine x_istore (L' := [_, _, _, _, _, _]) d_Reader_readJoined_29 rfl rfl ?_
  refine x_iload d_Reader_readJoined_31 rfl ?_
  refine x_sipush (v := 160) d_Reader_readJoined_33 (by decide) ?_
  refine x_icmp_ge (tgt := 106) d_Reader_readJoined_36 (by decide) (fun ht => absurd ht (by decide)) (fun _ => ?_)
  refine x_aload_n d_Reader_readJoined_39 rfl rfl ?_
  refine x_ifnullN (tgt := 106) d_Reader_readJoined_40 (by decide) ?_
  refine x_aload_n d_Reader_readJoined_106 rfl rfl ?_
  refine x_aret d_Reader_readJoined_107 rfl rfl ?_
  exact ⟨rfl, r1, f1, hc1, hn1⟩
theorem c_readOr0 (hG : xGk G) (hd : 8 ≤ d) {r ta na la ba : Nat} (hr : h r = some (rdO ta na la ba 0 0 0)) (hS : isS G h ta []) (hna : h na = some (k_aName, List.replicate 6 .null)) (hc : c + 2 ≤ xCB) (hn : n + 4 ≤ xSB) : XM l G d M_Reader_readJoined [.ref r, .int 1] h c n (fun v h' c' n' => v = some .null ∧ h' r = some (rdO ta na la ba 0 0 0) ∧ xfr h h' [r] ∧ c' ≤ c + 2 ∧ n' ≤ n + 4) := by
  obtain ⟨d, rfl⟩ : ∃ q, d = q + 1 := ⟨d - 1, by omega⟩
  refine XM.of (by decide +kernel) (Nat.le_of_ble_eq_true rfl) ?_
  refine x_iload_n d_Reader_readJoined_0 rfl ?_
  refine x_iconst (v := 1) d_Reader_readJoined_1 (by decide) ?_
  refine x_icmp_ne (tgt := 9) d_Reader_readJoined_2 (by decide) (fun ht => absurd rfl ht) (fun _ => ?_)
  refine x_iconst (v := 1) d_Reader_readJoined_5 (by decide) ?_
  refine x_goto (tgt := 10) d_Reader_readJoined_6 (by decide) ?_
  refine x_istore_n (L' := [_, _, _, _, _, _]) d_Reader_readJoined_10 rfl rfl ?_
  refine x_iload_n d_Reader_readJoined_11 rfl ?_
  refine x_if_eq (tgt := 23) d_Reader_readJoined_12 (by decide) (fun ht => absurd ht (by decide)) (fun _ => ?_)
  refine x_aload_n d_Reader_readJoined_15 rfl rfl ?_
  refine x_iconst (v := 2) d_Reader_readJoined_16 (by decide) ?_
  refine x_callV (As := [_]) (k := k_Reader) rfl xcv_Reader_45_Reader (Or.inl hr) (c_readAnd0 hG (by omega) hr hS hna hc hn) rfl rfl (Nat.le_of_ble_eq_true rfl) d_Reader_readJoined_17 ?_
  rintro v h1 c1 n1 ⟨rfl, r1, f1, hc1, hn1⟩
  refine x_goto (tgt := 27) d_Reader_readJoined_20 (by decide) ?_
  refine x_astore_n (L' := [_, _, _, _, _, _]) d_Reader_readJoined_27 rfl rfl rfl ?_
  refine x_iconst (v := 0) d_Reader_readJoined_28 (by decide) ?_
  refine x_istore (L' := [_, _, _, _, _, _]) d_Reader_readJoined_29 rfl rfl ?_
  refine x_iload d_Reader_readJoined_31 rfl ?_
  refine x_sipush (v := 160) d_Reader_readJoined_33 (by decide) ?_
  refine x_icmp_ge (tgt := 106) d_Reader_readJoined_36 (by decide) (fun ht => absurd ht (by decide)) (fun _ => ?_)
  refine x_aload_n d_Reader_readJoined_39 rfl rfl ?_
  refine x_ifnullN (tgt := 106) d_Reader_readJoined_40 (by decide) ?_
  refine x_aload_n d_Reader_readJoined_106 rfl rfl ?_
  refine x_aret d_Reader_readJoined_107 rfl rfl ?_
  exact ⟨rfl, r1, f1, hc1, hn1⟩
theorem c_readWhole0 (hG : xGk G) (hd : 9 ≤ d) {r ta na la ba : Nat} (hr : h r = some (rdO ta na la ba 0 0 0)) (hS : isS G h ta []) (hna : h na = some (k_aName, List.replicate 6 .null)) (hc : c + 2 ≤ xCB) (hn : n + 4 ≤ xSB) : XM l G d M_Reader_readWhole [.ref r] h c n (fun v h' c' n' => v = some .null ∧ h' r = some (rdO ta na la ba 0 0 0) ∧ xfr h h' [r] ∧ c' ≤ c + 2 ∧ n' ≤ n + 4) := by
  obtain ⟨d, rfl⟩ : ∃ q, d = q + 1 := ⟨d - 1, by omega⟩
  refine XM.of (by decide +kernel) (Nat.le_of_ble_eq_true rfl) ?_
  refine x_aload_n d_Reader_readWhole_0 rfl rfl ?_
  refine x_iconst (v := 1) d_Reader_readWhole_1 (by decide) ?_
  refine x_callV (As := [_]) (k := k_Reader) rfl xcv_Reader_45_Reader (Or.inl hr) (c_readOr0 hG (by omega) hr hS hna hc hn) rfl rfl (Nat.le_of_ble_eq_true rfl) d_Reader_readWhole_2 ?_
  rintro v h1 c1 n1 ⟨rfl, r1, f1, hc1, hn1⟩
  refine x_astore_n (L' := [_, _]) d_Reader_readWhole_5 rfl rfl rfl ?_
  refine x_aload_n d_Reader_readWhole_6 rfl rfl ?_
  refine x_ifnonnullN d_Reader_readWhole_7 ?_
  refine x_null d_Reader_readWhole_10 ?_
  refine x_aret d_Reader_readWhole_11 rfl rfl ?_
  exact ⟨rfl, r1, f1, hc1, hn1⟩
end P1D
end
section
section
abbrev y_Arrays_fill_aII : MethodName := ⟨"java/util/Arrays", "fill", "([II)V"⟩
abbrev M_Arrays_fill_aII : XMt := (y_Arrays_fill_aII, prog_34_method_103_code, 4, none)
theorem d_Arrays_fill_aII_5 : decode M_Arrays_fill_aII.2.1 5 = .ok (.iload_n 2, 1) := by decide +kernel
theorem d_Arrays_fill_aII_6 : decode M_Arrays_fill_aII.2.1 6 = .ok (.iload_n 3, 1) := by decide +kernel
theorem d_Arrays_fill_aII_7 : decode M_Arrays_fill_aII.2.1 7 = .ok (.if_icmp .ge 13, 3) := by decide +kernel
theorem d_Arrays_fill_aII_20 : decode M_Arrays_fill_aII.2.1 20 = .ok (.return_, 1) := by decide +kernel
theorem d_Arrays_fill_aII_10 : decode M_Arrays_fill_aII.2.1 10 = .ok (.aload_n 0, 1) := by decide +kernel
theorem d_Arrays_fill_aII_11 : decode M_Arrays_fill_aII.2.1 11 = .ok (.iload_n 2, 1) := by decide +kernel
theorem d_Arrays_fill_aII_12 : decode M_Arrays_fill_aII.2.1 12 = .ok (.iload_n 1, 1) := by decide +kernel
theorem d_Arrays_fill_aII_13 : decode M_Arrays_fill_aII.2.1 13 = .ok (.iastore, 1) := by decide +kernel
theorem d_Arrays_fill_aII_14 : decode M_Arrays_fill_aII.2.1 14 = .ok (.iinc 2 1, 3) := by decide +kernel
theorem d_Arrays_fill_aII_17 : decode M_Arrays_fill_aII.2.1 17 = .ok (.goto (-12), 3) := by decide +kernel
theorem d_Arrays_fill_aII_0 : decode M_Arrays_fill_aII.2.1 0 = .ok (.iconst 0, 1) := by decide +kernel
theorem d_Arrays_fill_aII_1 : decode M_Arrays_fill_aII.2.1 1 = .ok (.istore_n 2, 1) := by decide +kernel
theorem d_Arrays_fill_aII_2 : decode M_Arrays_fill_aII.2.1 2 = .ok (.aload_n 0, 1) := by decide +kernel
theorem d_Arrays_fill_aII_3 : decode M_Arrays_fill_aII.2.1 3 = .ok (.arraylength, 1) := by decide +kernel
theorem d_Arrays_fill_aII_4 : decode M_Arrays_fill_aII.2.1 4 = .ok (.istore_n 3, 1) := by decide +kernel
abbrev y_Parting_part : MethodName := ⟨"MarkerText$Parting", "part", "(LMarkerText$Choices;[LMarkerText$Condition;I)V"⟩
abbrev M_Parting_part : XMt := (y_Parting_part, prog_9_method_2_code, 5, none)
theorem d_Parting_part_0 : decode M_Parting_part.2.1 0 = .ok (.aload_n 0, 1) := by decide +kernel
theorem d_Parting_part_1 : decode M_Parting_part.2.1 1 = .ok (.iconst 0, 1) := by decide +kernel
theorem d_Parting_part_2 : decode M_Parting_part.2.1 2 = .ok (.putfield 9, 3) := by decide +kernel
theorem d_Parting_part_5 : decode M_Parting_part.2.1 5 = .ok (.aload_n 0, 1) := by decide +kernel
theorem d_Parting_part_6 : decode M_Parting_part.2.1 6 = .ok (.getfield 25, 3) := by decide +kernel
theorem d_Parting_part_9 : decode M_Parting_part.2.1 9 = .ok (.iconst 0, 1) := by decide +kernel
theorem d_Parting_part_10 : decode M_Parting_part.2.1 10 = .ok (.invokestatic 31, 3) := by decide +kernel
theorem xw_384 : (Jvm.Cond.code ({ cls := "java/util/Arrays", name := "fill", desc := "([II)V" } : Jvm.MethodName) prog_34_method_103_code (4 : Nat) (Option.none : Option Jvm.ClassFile.FieldType)) ∈ xT := xT_at 384 (by decide +kernel) (by decide +kernel)
theorem xcb_Arrays_fill_aII : xcb M_Arrays_fill_aII 2 := ⟨xw_384, xw_11, by decide, by decide, by decide, by decide +kernel⟩
theorem xw_382 : (Jvm.Cond.methodLink "MarkerText$Parting" (31 : Nat) ({ cls := "java/util/Arrays", name := "fill", desc := "([II)V" } : Jvm.MethodName)) ∈ xT := xT_at 382 (by decide +kernel) (by decide +kernel)
theorem xw_383 : (Jvm.Cond.static ({ cls := "java/util/Arrays", name := "fill", desc := "([II)V" } : Jvm.MethodName)) ∈ xT := xT_at 383 (by decide +kernel) (by decide +kernel)
theorem xcs_Parting_31 : xCS "MarkerText$Parting" 31 M_Arrays_fill_aII 2 := ⟨xcb_Arrays_fill_aII, xw_383, Or.inl xw_382⟩
theorem d_Parting_part_13 : decode M_Parting_part.2.1 13 = .ok (.aload_n 1, 1) := by decide +kernel
theorem d_Parting_part_14 : decode M_Parting_part.2.1 14 = .ok (.getfield 37, 3) := by decide +kernel
theorem xw_89 : (Jvm.Cond.fieldLinkNest "MarkerText$Parting" (37 : Nat) "MarkerText$Choices" "samples" "[I" "MarkerText") ∈ xT := xT_at 89 (by decide +kernel) (by decide +kernel)
theorem xf_Parting_37_Choices : xF "MarkerText$Parting" 37 k_Choices 3 := ⟨_, _, _, "MarkerText$Choices", rfl, by decide, Or.inr ⟨_, xw_89⟩, Or.inl rfl⟩
theorem d_Parting_part_17 : decode M_Parting_part.2.1 17 = .ok (.iconst 0, 1) := by decide +kernel
theorem d_Parting_part_18 : decode M_Parting_part.2.1 18 = .ok (.aload_n 0, 1) := by decide +kernel
theorem d_Parting_part_19 : decode M_Parting_part.2.1 19 = .ok (.getfield 28, 3) := by decide +kernel
theorem d_Parting_part_22 : decode M_Parting_part.2.1 22 = .ok (.iconst 0, 1) := by decide +kernel
theorem d_Parting_part_23 : decode M_Parting_part.2.1 23 = .ok (.bipush 6, 2) := by decide +kernel
theorem d_Parting_part_25 : decode M_Parting_part.2.1 25 = .ok (.invokestatic 40, 3) := by decide +kernel
theorem xw_385 : (Jvm.Cond.methodLink "MarkerText$Parting" (40 : Nat) ({ cls := "java/lang/System", name := "arraycopy", desc := "(Ljava/lang/Object;ILjava/lang/Object;II)V" } : Jvm.MethodName)) ∈ xT := xT_at 385 (by decide +kernel) (by decide +kernel)
theorem d_Parting_part_28 : decode M_Parting_part.2.1 28 = .ok (.iconst 0, 1) := by decide +kernel
theorem d_Parting_part_29 : decode M_Parting_part.2.1 29 = .ok (.istore 4, 2) := by decide +kernel
theorem d_Parting_part_31 : decode M_Parting_part.2.1 31 = .ok (.iload 4, 2) := by decide +kernel
theorem d_Parting_part_33 : decode M_Parting_part.2.1 33 = .ok (.aload_n 1, 1) := by decide +kernel
theorem d_Parting_part_34 : decode M_Parting_part.2.1 34 = .ok (.getfield 46, 3) := by decide +kernel
theorem xw_93 : (Jvm.Cond.fieldLinkNest "MarkerText$Parting" (46 : Nat) "MarkerText$Choices" "count" "I" "MarkerText") ∈ xT := xT_at 93 (by decide +kernel) (by decide +kernel)
theorem xf_Parting_46_Choices : xF "MarkerText$Parting" 46 k_Choices 6 := ⟨_, _, _, "MarkerText$Choices", rfl, by decide, Or.inr ⟨_, xw_93⟩, Or.inl rfl⟩
theorem d_Parting_part_37 : decode M_Parting_part.2.1 37 = .ok (.if_icmp .ge 25, 3) := by decide +kernel
theorem d_Parting_part_40 : decode M_Parting_part.2.1 40 = .ok (.aload_n 0, 1) := by decide +kernel
theorem d_Parting_part_41 : decode M_Parting_part.2.1 41 = .ok (.aload_n 1, 1) := by decide +kernel
theorem d_Parting_part_42 : decode M_Parting_part.2.1 42 = .ok (.aload_n 2, 1) := by decide +kernel
theorem d_Parting_part_43 : decode M_Parting_part.2.1 43 = .ok (.iload_n 3, 1) := by decide +kernel
theorem d_Parting_part_44 : decode M_Parting_part.2.1 44 = .ok (.invokevirtual 47, 3) := by decide +kernel
theorem xw_352 : (Jvm.Cond.code ({ cls := "MarkerText$Choices", name := "truths", desc := "([LMarkerText$Condition;I)I" } : Jvm.MethodName) prog_2_method_8_code (5 : Nat) (Option.some Jvm.ClassFile.FieldType.int)) ∈ xT := xT_at 352 (by decide +kernel) (by decide +kernel)
theorem xcb_Choices_truths : xcb M_Choices_truths 2 := ⟨xw_352, xw_6, by decide, by decide, by decide, by decide +kernel⟩
theorem xw_350 : (Jvm.Cond.instanceMethod ({ cls := "MarkerText$Choices", name := "truths", desc := "([LMarkerText$Condition;I)I" } : Jvm.MethodName)) ∈ xT := xT_at 350 (by decide +kernel) (by decide +kernel)
theorem xw_386 : (Jvm.Cond.methodLink "MarkerText$Parting" (47 : Nat) ({ cls := "MarkerText$Choices", name := "truths", desc := "([LMarkerText$Condition;I)I" } : Jvm.MethodName)) ∈ xT := xT_at 386 (by decide +kernel) (by decide +kernel)
theorem xw_351 : (Jvm.Cond.selects "MarkerText$Choices" ({ cls := "MarkerText$Choices", name := "truths", desc := "([LMarkerText$Condition;I)I" } : Jvm.MethodName) ({ cls := "MarkerText$Choices", name := "truths", desc := "([LMarkerText$Condition;I)I" } : Jvm.MethodName)) ∈ xT := xT_at 351 (by decide +kernel) (by decide +kernel)
theorem xcv_Parting_47_Choices : xCV "MarkerText$Parting" 47 "MarkerText$Choices" M_Choices_truths 2 := ⟨xcb_Choices_truths, xw_350, Or.inl ⟨xw_386, Or.inl xw_351⟩⟩
theorem d_Parting_part_47 : decode M_Parting_part.2.1 47 = .ok (.iload 4, 2) := by decide +kernel
theorem d_Parting_part_49 : decode M_Parting_part.2.1 49 = .ok (.invokevirtual 50, 3) := by decide +kernel
theorem xw_390 : (Jvm.Cond.code ({ cls := "MarkerText$Parting", name := "countIn", desc := "(II)V" } : Jvm.MethodName) prog_9_method_3_code (4 : Nat) (Option.none : Option Jvm.ClassFile.FieldType)) ∈ xT := xT_at 390 (by decide +kernel) (by decide +kernel)
theorem xcb_Parting_countIn : xcb M_Parting_countIn 2 := ⟨xw_390, xw_7, by decide, by decide, by decide, by decide +kernel⟩
theorem xw_389 : (Jvm.Cond.instanceMethod ({ cls := "MarkerText$Parting", name := "countIn", desc := "(II)V" } : Jvm.MethodName)) ∈ xT := xT_at 389 (by decide +kernel) (by decide +kernel)
theorem xw_387 : (Jvm.Cond.methodLink "MarkerText$Parting" (50 : Nat) ({ cls := "MarkerText$Parting", name := "countIn", desc := "(II)V" } : Jvm.MethodName)) ∈ xT := xT_at 387 (by decide +kernel) (by decide +kernel)
theorem xsel_Parting_countIn : Cond.selects "MarkerText$Parting" y_Parting_countIn y_Parting_countIn ∈ xT := xT_sel (q := (y_Parting_countIn, 6)) (by decide +kernel) (by decide +kernel)
theorem xcv_Parting_50_Parting : xCV "MarkerText$Parting" 50 "MarkerText$Parting" M_Parting_countIn 2 := ⟨xcb_Parting_countIn, xw_389, Or.inl ⟨xw_387, Or.inl xsel_Parting_countIn⟩⟩
theorem d_Parting_part_52 : decode M_Parting_part.2.1 52 = .ok (.aload_n 1, 1) := by decide +kernel
theorem d_Parting_part_53 : decode M_Parting_part.2.1 53 = .ok (.invokevirtual 54, 3) := by decide +kernel
theorem xw_357 : (Jvm.Cond.code ({ cls := "MarkerText$Choices", name := "advance", desc := "()V" } : Jvm.MethodName) prog_2_method_6_code (3 : Nat) (Option.none : Option Jvm.ClassFile.FieldType)) ∈ xT := xT_at 357 (by decide +kernel) (by decide +kernel)
theorem xcb_Choices_advance : xcb M_Choices_advance 0 := ⟨xw_357, xw_6, by decide, by decide, by decide, by decide +kernel⟩
theorem xw_355 : (Jvm.Cond.instanceMethod ({ cls := "MarkerText$Choices", name := "advance", desc := "()V" } : Jvm.MethodName)) ∈ xT := xT_at 355 (by decide +kernel) (by decide +kernel)
theorem xw_395 : (Jvm.Cond.methodLink "MarkerText$Parting" (54 : Nat) ({ cls := "MarkerText$Choices", name := "advance", desc := "()V" } : Jvm.MethodName)) ∈ xT := xT_at 395 (by decide +kernel) (by decide +kernel)
theorem xw_356 : (Jvm.Cond.selects "MarkerText$Choices" ({ cls := "MarkerText$Choices", name := "advance", desc := "()V" } : Jvm.MethodName) ({ cls := "MarkerText$Choices", name := "advance", desc := "()V" } : Jvm.MethodName)) ∈ xT := xT_at 356 (by decide +kernel) (by decide +kernel)
theorem xcv_Parting_54_Choices : xCV "MarkerText$Parting" 54 "MarkerText$Choices" M_Choices_advance 0 := ⟨xcb_Choices_advance, xw_355, Or.inl ⟨xw_395, Or.inl xw_356⟩⟩
theorem d_Parting_part_56 : decode M_Parting_part.2.1 56 = .ok (.iinc 4 1, 3) := by decide +kernel
theorem d_Parting_part_59 : decode M_Parting_part.2.1 59 = .ok (.goto (-28), 3) := by decide +kernel
theorem d_Parting_part_62 : decode M_Parting_part.2.1 62 = .ok (.return_, 1) := by decide +kernel
abbrev y_MT_classes : MethodName := ⟨"MarkerText", "classes", "(I)I"⟩
abbrev M_MT_classes : XMt := (y_MT_classes, prog_1_method_12_code, 3, (some .int))
theorem d_MT_classes_0 : decode M_MT_classes.2.1 0 = .ok (.iload_n 1, 1) := by decide +kernel
theorem d_MT_classes_1 : decode M_MT_classes.2.1 1 = .ok (.iconst 1, 1) := by decide +kernel
theorem d_MT_classes_2 : decode M_MT_classes.2.1 2 = .ok (.aload_n 0, 1) := by decide +kernel
theorem d_MT_classes_3 : decode M_MT_classes.2.1 3 = .ok (.getfield 32, 3) := by decide +kernel
theorem d_MT_classes_6 : decode M_MT_classes.2.1 6 = .ok (.ishl, 1) := by decide +kernel
theorem d_MT_classes_7 : decode M_MT_classes.2.1 7 = .ok (.iconst 1, 1) := by decide +kernel
theorem d_MT_classes_8 : decode M_MT_classes.2.1 8 = .ok (.isub, 1) := by decide +kernel
theorem d_MT_classes_9 : decode M_MT_classes.2.1 9 = .ok (.iand, 1) := by decide +kernel
theorem d_MT_classes_10 : decode M_MT_classes.2.1 10 = .ok (.istore_n 2, 1) := by decide +kernel
theorem d_MT_classes_11 : decode M_MT_classes.2.1 11 = .ok (.aload_n 0, 1) := by decide +kernel
theorem d_MT_classes_12 : decode M_MT_classes.2.1 12 = .ok (.getfield 45, 3) := by decide +kernel
theorem d_MT_classes_15 : decode M_MT_classes.2.1 15 = .ok (.aload_n 0, 1) := by decide +kernel
theorem d_MT_classes_16 : decode M_MT_classes.2.1 16 = .ok (.getfield 18, 3) := by decide +kernel
theorem d_MT_classes_19 : decode M_MT_classes.2.1 19 = .ok (.aload_n 0, 1) := by decide +kernel
theorem d_MT_classes_20 : decode M_MT_classes.2.1 20 = .ok (.getfield 28, 3) := by decide +kernel
theorem d_MT_classes_23 : decode M_MT_classes.2.1 23 = .ok (.iload_n 2, 1) := by decide +kernel
theorem d_MT_classes_24 : decode M_MT_classes.2.1 24 = .ok (.invokevirtual 165, 3) := by decide +kernel
theorem xw_317 : (Jvm.Cond.code ({ cls := "MarkerText$Choices", name := "layOut", desc := "([LMarkerText$Name;[LMarkerText$Condition;I)Z" } : Jvm.MethodName) prog_2_method_2_code (6 : Nat) (Option.some Jvm.ClassFile.FieldType.boolean)) ∈ xT := xT_at 317 (by decide +kernel) (by decide +kernel)
theorem xcb_Choices_layOut : xcb M_Choices_layOut 3 := ⟨xw_317, xw_6, by decide, by decide, by decide, by decide +kernel⟩
theorem xw_315 : (Jvm.Cond.instanceMethod ({ cls := "MarkerText$Choices", name := "layOut", desc := "([LMarkerText$Name;[LMarkerText$Condition;I)Z" } : Jvm.MethodName)) ∈ xT := xT_at 315 (by decide +kernel) (by decide +kernel)
theorem xw_314 : (Jvm.Cond.methodLink "MarkerText" (165 : Nat) ({ cls := "MarkerText$Choices", name := "layOut", desc := "([LMarkerText$Name;[LMarkerText$Condition;I)Z" } : Jvm.MethodName)) ∈ xT := xT_at 314 (by decide +kernel) (by decide +kernel)
theorem xw_316 : (Jvm.Cond.selects "MarkerText$Choices" ({ cls := "MarkerText$Choices", name := "layOut", desc := "([LMarkerText$Name;[LMarkerText$Condition;I)Z" } : Jvm.MethodName) ({ cls := "MarkerText$Choices", name := "layOut", desc := "([LMarkerText$Name;[LMarkerText$Condition;I)Z" } : Jvm.MethodName)) ∈ xT := xT_at 316 (by decide +kernel) (by decide +kernel)
theorem xcv_MT_165_Choices : xCV "MarkerText" 165 "MarkerText$Choices" M_Choices_layOut 3 := ⟨xcb_Choices_layOut, xw_315, Or.inl ⟨xw_314, Or.inl xw_316⟩⟩
theorem d_MT_classes_27 : decode M_MT_classes.2.1 27 = .ok (.ifCond .ne 5, 3) := by decide +kernel
theorem d_MT_classes_32 : decode M_MT_classes.2.1 32 = .ok (.aload_n 0, 1) := by decide +kernel
theorem d_MT_classes_33 : decode M_MT_classes.2.1 33 = .ok (.getfield 52, 3) := by decide +kernel
theorem d_MT_classes_36 : decode M_MT_classes.2.1 36 = .ok (.aload_n 0, 1) := by decide +kernel
theorem d_MT_classes_37 : decode M_MT_classes.2.1 37 = .ok (.getfield 45, 3) := by decide +kernel
theorem d_MT_classes_40 : decode M_MT_classes.2.1 40 = .ok (.aload_n 0, 1) := by decide +kernel
theorem d_MT_classes_41 : decode M_MT_classes.2.1 41 = .ok (.getfield 28, 3) := by decide +kernel
theorem d_MT_classes_44 : decode M_MT_classes.2.1 44 = .ok (.iload_n 2, 1) := by decide +kernel
theorem d_MT_classes_45 : decode M_MT_classes.2.1 45 = .ok (.invokevirtual 169, 3) := by decide +kernel
theorem xw_381 : (Jvm.Cond.code ({ cls := "MarkerText$Parting", name := "part", desc := "(LMarkerText$Choices;[LMarkerText$Condition;I)V" } : Jvm.MethodName) prog_9_method_2_code (5 : Nat) (Option.none : Option Jvm.ClassFile.FieldType)) ∈ xT := xT_at 381 (by decide +kernel) (by decide +kernel)
theorem xcb_Parting_part : xcb M_Parting_part 3 := ⟨xw_381, xw_7, by decide, by decide, by decide, by decide +kernel⟩
theorem xw_379 : (Jvm.Cond.instanceMethod ({ cls := "MarkerText$Parting", name := "part", desc := "(LMarkerText$Choices;[LMarkerText$Condition;I)V" } : Jvm.MethodName)) ∈ xT := xT_at 379 (by decide +kernel) (by decide +kernel)
theorem xw_378 : (Jvm.Cond.methodLink "MarkerText" (169 : Nat) ({ cls := "MarkerText$Parting", name := "part", desc := "(LMarkerText$Choices;[LMarkerText$Condition;I)V" } : Jvm.MethodName)) ∈ xT := xT_at 378 (by decide +kernel) (by decide +kernel)
theorem xw_380 : (Jvm.Cond.selects "MarkerText$Parting" ({ cls := "MarkerText$Parting", name := "part", desc := "(LMarkerText$Choices;[LMarkerText$Condition;I)V" } : Jvm.MethodName) ({ cls := "MarkerText$Parting", name := "part", desc := "(LMarkerText$Choices;[LMarkerText$Condition;I)V" } : Jvm.MethodName)) ∈ xT := xT_at 380 (by decide +kernel) (by decide +kernel)
theorem xcv_MT_169_Parting : xCV "MarkerText" 169 "MarkerText$Parting" M_Parting_part 3 := ⟨xcb_Parting_part, xw_379, Or.inl ⟨xw_378, Or.inl xw_380⟩⟩
theorem d_MT_classes_48 : decode M_MT_classes.2.1 48 = .ok (.aload_n 0, 1) := by decide +kernel
theorem d_MT_classes_49 : decode M_MT_classes.2.1 49 = .ok (.getfield 52, 3) := by decide +kernel
theorem d_MT_classes_52 : decode M_MT_classes.2.1 52 = .ok (.getfield 173, 3) := by decide +kernel
theorem xw_119 : (Jvm.Cond.fieldLinkNest "MarkerText" (173 : Nat) "MarkerText$Parting" "count" "I" "MarkerText") ∈ xT := xT_at 119 (by decide +kernel) (by decide +kernel)
theorem xf_MT_173_Parting : xF "MarkerText" 173 k_Parting 0 := ⟨_, _, _, "MarkerText$Parting", rfl, by decide, Or.inr ⟨_, xw_119⟩, Or.inl rfl⟩
theorem d_MT_classes_55 : decode M_MT_classes.2.1 55 = .ok (.ireturn, 1) := by decide +kernel
end
section P1F
variable {l : Launch} {G : XG} {h : XH} {c n d : Nat}
theorem chL.fr {h' : XH} {F : List Nat} {o v st sa pk lv na ca : Nat} {cnt : Int32} {ss : List Value} (hL : chL h o v st sa pk lv na ca cnt ss) (hf : xfr h h' F) (hn : xno h F [k_Choices, k_astarts, k_asamples, k_apicks, k_achl, k_aName, k_aCondition]) : chL h' o v st sa pk lv na ca cnt ss := by
  obtain ⟨e0, e1, e2, e3, e4, e5, e6⟩ := hL
  exact ⟨hf.1 _ _ e0 (hn.at e0 (by decide)), hf.1 _ _ e1 (hn.at e1 (by decide)), hf.1 _ _ e2 (hn.at e2 (by decide)), hf.1 _ _ e3 (hn.at e3 (by decide)), hf.1 _ _ e4 (hn.at e4 (by decide)), hf.1 _ _ e5 (hn.at e5 (by decide)), hf.1 _ _ e6 (hn.at e6 (by decide))⟩
/-- Arrays.fill(int[], 0) of zeros -/
theorem c_fill0 {a m : Nat} (ha : h a = some (k_apcl, List.replicate m (.int 0))) (hm : m < 2 ^ 20) : XM l G d M_Arrays_fill_aII [.ref a, .int 0] h c n (fun r h' c' n' => r = none ∧ h' = h ∧ c' = c ∧ n' = n) := by
  refine XM.of (by decide +kernel) (Nat.le_of_ble_eq_true rfl) ?_
  have lp : ∀ (k i : Nat), i + k = m → XW l G M_Arrays_fill_aII d 5 [some (.ref a), some (.int 0), some (.int (nI i)), some (.int (nI m))] [] h c n (fun r h' c' n' => r = none ∧ h' = h ∧ c' = c ∧ n' = n) := by
    intro k
    induction k with
    | zero =>
      intro i hi
      refine x_iload_n d_Arrays_fill_aII_5 rfl ?_
      refine x_iload_n d_Arrays_fill_aII_6 rfl ?_
      refine x_icmp_ge (tgt := 20) d_Arrays_fill_aII_7 (by decide) (fun _ => ?_) (fun hn => absurd (nI_le (by omega) (by omega)) hn)
      refine x_vret d_Arrays_fill_aII_20 rfl ?_
      exact ⟨rfl, rfl, rfl, rfl⟩
    | succ k ih =>
      intro i hi
      refine x_iload_n d_Arrays_fill_aII_5 rfl ?_
      refine x_iload_n d_Arrays_fill_aII_6 rfl ?_
      refine x_icmp_ge (tgt := 20) d_Arrays_fill_aII_7 (by decide) (fun ht => absurd ht (nI_ge (by omega) (by omega))) (fun _ => ?_)
      refine x_aload_n d_Arrays_fill_aII_10 rfl rfl ?_
      refine x_iload_n d_Arrays_fill_aII_11 rfl ?_
      refine x_iload_n d_Arrays_fill_aII_12 rfl ?_
      refine x_iast (k := k_apcl) rfl ha (nI_pos (by omega)) (by rw [nI_clamp (by omega), List.getElem?_replicate, if_pos (by omega)]) d_Arrays_fill_aII_13 ?_
      refine x_hp (h' := h) (by funext q; by_cases hq : q = a; (subst hq; rw [xup_self, set_rep, ha]); rw [xup_ne hq]) ?_
      refine x_iinc (v := nI (i + 1)) (L' := [_, _, _, _]) d_Arrays_fill_aII_14 rfl (by exact xw_iinc1) rfl rfl ?_
      refine x_goto (tgt := 5) d_Arrays_fill_aII_17 (by decide) ?_
      exact ih (i + 1) (by omega)
  refine x_iconst (v := 0) d_Arrays_fill_aII_0 (by decide) ?_
  refine x_istore_n (L' := [_, _, _, _]) d_Arrays_fill_aII_1 rfl rfl ?_
  refine x_aload_n d_Arrays_fill_aII_2 rfl rfl ?_
  refine x_alen (k := k_apcl) rfl (Or.inl ha) (v := nI m) (by rw [List.length_replicate]; rfl) d_Arrays_fill_aII_3 ?_
  refine x_istore_n (L' := [_, _, _, _]) d_Arrays_fill_aII_4 rfl rfl ?_
  exact lp m 0 (by omega)
abbrev kX : List Nat := [k_MarkerText, k_MarkerTextModel, k_aint, k_along, k_aboolean, k_avals]
theorem c_part0 (hd : 3 ≤ d) {p o v st sa pk lv na ca : Nat} (hp : pa0 h p) (hL : chL h o v st sa pk lv na ca 1 (List.replicate 6 (.int 1))) : XM l G d M_Parting_part [.ref p, .ref o, .ref ca, .int 0] h c n (fun r h' c' n' => r = none ∧ (∃ e, h' p = some (k_Parting, .int 1 :: e)) ∧ (∃ F, xfr h h' F ∧ xno h F kX) ∧ c' = c ∧ n' = n) := by
  obtain ⟨d, rfl⟩ : ∃ q, d = q + 1 := ⟨d - 1, by omega⟩
  obtain ⟨tr, sz, fi, cl, sp, ep, etr, esz, efi, ecl, esp⟩ := hp
  refine XM.of (by decide +kernel) (Nat.le_of_ble_eq_true rfl) ?_
  refine x_aload_n d_Parting_part_0 rfl rfl ?_
  refine x_iconst (v := 0) d_Parting_part_1 (by decide) ?_
  refine x_put xf_Parting_9_Parting xp_Parting_0 rfl rfl ep rfl rfl d_Parting_part_2 ?_
  have f1 : xfr h (xup h p (k_Parting, [.int 0, .ref tr, .ref sz, .ref fi, .ref cl, .ref sp])) [p, sp] := xfr.rf.up (Or.inl (by simp))
  refine x_any (R := fun h2 => paL h2 p tr sz fi cl sp 0 (List.replicate 256 (.int 0)) (List.replicate 256 (.int 0)) (List.replicate 256 (.int 0)) (List.replicate 256 (.int 0)) ∧ h2 sp = some (k_apsa, List.replicate 6 (.int 0)) ∧ chL h2 o v st sa pk lv na ca 1 (List.replicate 6 (.int 1)) ∧ xfr h h2 [p, sp]) ⟨⟨xup_self, (by rw [xup_ne (xne etr ep (by decide))]; exact etr), (by rw [xup_ne (xne esz ep (by decide))]; exact esz), (by rw [xup_ne (xne efi ep (by decide))]; exact efi), (by rw [xup_ne (xne ecl ep (by decide))]; exact ecl)⟩, (by rw [xup_ne (xne esp ep (by decide))]; exact esp), hL.fr (F := [p]) (xfr.rf.up (Or.inl (by simp))) (xno1 ep (by decide)), f1⟩ (fun h2 ⟨hP2, esp2, hL2, f2⟩ => ?_)
  obtain ⟨ep2, etr2, esz2, efi2, ecl2⟩ := id hP2
  refine x_aload_n d_Parting_part_5 rfl rfl ?_
  refine x_get xf_Parting_25_Parting (Or.inl ep2) rfl d_Parting_part_6 ?_
  refine x_iconst (v := 0) d_Parting_part_9 (by decide) ?_
  refine x_callS (As := [_, _]) xcs_Parting_31 (c_fill0 ecl2 (by omega)) rfl rfl (Nat.le_of_ble_eq_true rfl) d_Parting_part_10 ?_
  rintro r h3 c3 n3 ⟨rfl, rfl, rfl, rfl⟩
  refine x_aload_n d_Parting_part_13 rfl rfl ?_
  refine x_get xf_Parting_37_Choices (Or.inl hL2.1) rfl d_Parting_part_14 ?_
  refine x_iconst (v := 0) d_Parting_part_17 (by decide) ?_
  refine x_aload_n d_Parting_part_18 rfl rfl ?_
  refine x_get xf_Parting_28_Parting (Or.inl ep2) rfl d_Parting_part_19 ?_
  refine x_iconst (v := 0) d_Parting_part_22 (by decide) ?_
  refine x_bipush (v := 6) d_Parting_part_23 (by decide) ?_
  refine x_copyP (k0 := k_asamples) (k := k_apsa) rfl rfl rfl xw_385 xw_220 xw_219 xw_12 (Or.inl hL2.2.2.1) esp2 (by decide) (by decide) (by decide) (by decide) (by decide) (fun v hv => by rw [(List.mem_replicate.mp hv).2]; rfl) (Nat.le_of_ble_eq_true rfl) d_Parting_part_25 ?_
  have g3 : ∀ w, xfr h3 (xup h3 sp w) [sp] := fun w => xfr.rf.up (Or.inl (by simp))
  have ns : ∀ ks, k_apsa ∉ ks → xno h3 [sp] ks := fun ks hk => xno1 esp2 hk
  refine x_any (R := fun h4 => paL h4 p tr sz fi cl sp 0 (List.replicate 256 (.int 0)) (List.replicate 256 (.int 0)) (List.replicate 256 (.int 0)) (List.replicate 256 (.int 0)) ∧ chL h4 o v st sa pk lv na ca 1 (List.replicate 6 (.int 1)) ∧ xfr h h4 [p, sp]) ⟨⟨(g3 _).1 _ _ ep2 (by simp; exact xne ep2 esp2 (by decide)), (g3 _).1 _ _ etr2 (by simp; exact xne etr2 esp2 (by decide)), (g3 _).1 _ _ esz2 (by simp; exact xne esz2 esp2 (by decide)), (g3 _).1 _ _ efi2 (by simp; exact xne efi2 esp2 (by decide)), (g3 _).1 _ _ ecl2 (by simp; exact xne ecl2 esp2 (by decide))⟩, hL2.fr (g3 _) (ns _ (by decide)), f2.up (Or.inl (by simp))⟩ (fun h4 ⟨hP4, hL4, f4⟩ => ?_)
  refine x_iconst (v := 0) d_Parting_part_28 (by decide) ?_
  refine x_istore (L' := [_, _, _, _, _]) d_Parting_part_29 rfl rfl ?_
  refine x_iload d_Parting_part_31 rfl ?_
  refine x_aload_n d_Parting_part_33 rfl rfl ?_
  refine x_get xf_Parting_46_Choices (Or.inl hL4.1) rfl d_Parting_part_34 ?_
  refine x_icmp_ge (tgt := 62) d_Parting_part_37 (by decide) (fun ht => absurd ht (by decide)) (fun _ => ?_)
  refine x_aload_n d_Parting_part_40 rfl rfl ?_
  refine x_aload_n d_Parting_part_41 rfl rfl ?_
  refine x_aload_n d_Parting_part_42 rfl rfl ?_
  refine x_iload_n d_Parting_part_43 rfl ?_
  refine x_callV (As := [_, _]) (k := k_Choices) rfl xcv_Parting_47_Choices (Or.inl hL4.1) (c_truths0 hL4.2.2.2.2.2.2) rfl rfl (Nat.le_of_ble_eq_true rfl) d_Parting_part_44 ?_
  rintro r h5 c5 n5 ⟨rfl, rfl, rfl, rfl⟩
  refine x_iload d_Parting_part_47 rfl ?_
  refine x_callV (As := [_, _]) (k := k_Parting) rfl xcv_Parting_50_Parting (Or.inl hP4.1) (c_countIn0 (by omega) hP4) rfl rfl (Nat.le_of_ble_eq_true rfl) d_Parting_part_49 ?_
  rintro r h6 c6 n6 ⟨rfl, ep6, ⟨F6, f6, n6'⟩, rfl, rfl⟩
  have hL6 := hL4.fr f6 (n6'.sub (by decide))
  refine x_aload_n d_Parting_part_52 rfl rfl ?_
  refine x_callV (As := []) (k := k_Choices) rfl xcv_Parting_54_Choices (Or.inl hL6.1) (c_advance0 (by omega) hL6) rfl rfl (Nat.le_of_ble_eq_true rfl) d_Parting_part_53 ?_
  rintro r h7 c7 n7 ⟨rfl, ⟨F7, f7, n7'⟩, eo7, rfl, rfl⟩
  refine x_iinc (v := 1) (L' := [_, _, _, _, _]) d_Parting_part_56 rfl (by decide) rfl rfl ?_
  refine x_goto (tgt := 31) d_Parting_part_59 (by decide) ?_
  refine x_iload d_Parting_part_31 rfl ?_
  refine x_aload_n d_Parting_part_33 rfl rfl ?_
  refine x_get xf_Parting_46_Choices (Or.inl eo7) rfl d_Parting_part_34 ?_
  refine x_icmp_ge (tgt := 62) d_Parting_part_37 (by decide) (fun _ => ?_) (fun hn => absurd (by decide) hn)
  refine x_vret d_Parting_part_62 rfl ?_
  have ep7 := f7.1 _ _ ep6 (n7'.at ep6 (by decide))
  exact ⟨rfl, ⟨_, ep7⟩, xq.tr (xq.tr ⟨_, f4, xno2 ep esp (by decide) (by decide)⟩ ⟨_, f6, n6'.sub (by decide)⟩) ⟨_, f7, n7'.sub (by decide)⟩, rfl, rfl⟩
theorem c_classes0 (hd : 4 ≤ d) {x : Nat} {k : Int32} (hx : mt0 h x) : XM l G d M_MT_classes [.ref x, .int k] h c n (pA (some (.int 1)) h c n) := by
  obtain ⟨d, rfl⟩ : ∃ q, d = q + 1 := ⟨d - 1, by omega⟩
  obtain ⟨ta, va, na, ca, ea, co, pa, e0, hB, e1, e2, e3, hch, hpa⟩ := hx
  obtain ⟨cv, cs, cm, cp, cl, k0, -⟩ := id hch
  refine XM.of (by decide +kernel) (Nat.le_of_ble_eq_true rfl) ?_
  refine x_iload_n d_MT_classes_0 rfl ?_
  refine x_iconst (v := 1) d_MT_classes_1 (by decide) ?_
  refine x_aload_n d_MT_classes_2 rfl rfl ?_
  refine x_get xf_MT_32_MT (Or.inl e0) rfl d_MT_classes_3 ?_
  refine x_ishl d_MT_classes_6 ?_
  refine x_iconst (v := 1) d_MT_classes_7 (by decide) ?_
  refine x_isub d_MT_classes_8 ?_
  refine x_iand d_MT_classes_9 ?_
  refine x_st (st' := [.int 0]) (by rw [show ((1 : Int32) <<< ((0 : Int32) &&& 31)) - 1 = 0 from by decide, Int32.and_zero]) ?_
  refine x_istore_n (L' := [_, _, _]) d_MT_classes_10 rfl rfl ?_
  refine x_aload_n d_MT_classes_11 rfl rfl ?_
  refine x_get xf_MT_45_MT (Or.inl e0) rfl d_MT_classes_12 ?_
  refine x_aload_n d_MT_classes_15 rfl rfl ?_
  refine x_get xf_MT_18_MT (Or.inl e0) rfl d_MT_classes_16 ?_
  refine x_aload_n d_MT_classes_19 rfl rfl ?_
  refine x_get xf_MT_28_MT (Or.inl e0) rfl d_MT_classes_20 ?_
  refine x_iload_n d_MT_classes_23 rfl ?_
  refine x_callV (As := [_, _, _]) (k := k_Choices) rfl xcv_MT_165_Choices (Or.inl k0) (c_layOut0 (by omega) hch e1 e2) rfl rfl (Nat.le_of_ble_eq_true rfl) d_MT_classes_24 ?_
  rintro v h1 c1 n1 ⟨rfl, ⟨v, st, sa, pk, lv, hL, F1, f1, n1'⟩, rfl, rfl⟩
  have e0' := f1.1 _ _ e0 (n1'.at e0 (by decide))
  have hpa' := hpa.fr f1 (n1'.sub (by decide))
  obtain ⟨p1, p2, p3, p4, p5, p0, -⟩ := id hpa'
  refine x_if_ne (tgt := 32) d_MT_classes_27 (by decide) (fun _ => ?_) (fun hn => absurd hn (by decide))
  refine x_aload_n d_MT_classes_32 rfl rfl ?_
  refine x_get xf_MT_52_MT (Or.inl e0') rfl d_MT_classes_33 ?_
  refine x_aload_n d_MT_classes_36 rfl rfl ?_
  refine x_get xf_MT_45_MT (Or.inl e0') rfl d_MT_classes_37 ?_
  refine x_aload_n d_MT_classes_40 rfl rfl ?_
  refine x_get xf_MT_28_MT (Or.inl e0') rfl d_MT_classes_41 ?_
  refine x_iload_n d_MT_classes_44 rfl ?_
  refine x_callV (As := [_, _, _]) (k := k_Parting) rfl xcv_MT_169_Parting (Or.inl p0) (c_part0 (by omega) hpa' hL) rfl rfl (Nat.le_of_ble_eq_true rfl) d_MT_classes_45 ?_
  rintro v h2 c2 n2 ⟨rfl, ⟨e, q2⟩, ⟨F2, f2, n2'⟩, rfl, rfl⟩
  have e0'' := f2.1 _ _ e0' (n2'.at e0' (by decide))
  refine x_aload_n d_MT_classes_48 rfl rfl ?_
  refine x_get xf_MT_52_MT (Or.inl e0'') rfl d_MT_classes_49 ?_
  refine x_get xf_MT_173_Parting (Or.inl q2) rfl d_MT_classes_52 ?_
  refine x_iret d_MT_classes_55 rfl ?_
  exact ⟨rfl, xq.tr ⟨_, f1, n1'.sub (by decide)⟩ ⟨_, f2, n2'.sub (by decide)⟩, by omega, by omega⟩
end P1F
end
section
section
abbrev y_MT_name : MethodName := ⟨"MarkerText", "name", "(I)I"⟩
abbrev M_MT_name : XMt := (y_MT_name, prog_1_method_3_code, 3, (some .int))
theorem d_MT_name_0 : decode M_MT_name.2.1 0 = .ok (.aload_n 0, 1) := by decide +kernel
theorem d_MT_name_1 : decode M_MT_name.2.1 1 = .ok (.invokevirtual 64, 3) := by decide +kernel
theorem xw_460 : (Jvm.Cond.code ({ cls := "MarkerText", name := "takeText", desc := "()Ljava/lang/String;" } : Jvm.MethodName) prog_1_method_17_code (2 : Nat) (Option.some (Jvm.ClassFile.FieldType.object "java/lang/String"))) ∈ xT := xT_at 460 (by decide +kernel) (by decide +kernel)
theorem xcb_MT_takeText : xcb M_MT_takeText 0 := ⟨xw_460, xw_1, by decide, by decide, by decide, by decide +kernel⟩
theorem xw_459 : (Jvm.Cond.instanceMethod ({ cls := "MarkerText", name := "takeText", desc := "()Ljava/lang/String;" } : Jvm.MethodName)) ∈ xT := xT_at 459 (by decide +kernel) (by decide +kernel)
theorem xw_457 : (Jvm.Cond.methodLink "MarkerText" (64 : Nat) ({ cls := "MarkerText", name := "takeText", desc := "()Ljava/lang/String;" } : Jvm.MethodName)) ∈ xT := xT_at 457 (by decide +kernel) (by decide +kernel)
theorem xsel_MT_takeText : Cond.selects "MarkerText" y_MT_takeText y_MT_takeText ∈ xT := xT_sel (q := (y_MT_takeText, 9)) (by decide +kernel) (by decide +kernel)
theorem xcv_MT_64_MT : xCV "MarkerText" 64 "MarkerText" M_MT_takeText 0 := ⟨xcb_MT_takeText, xw_459, Or.inl ⟨xw_457, Or.inl xsel_MT_takeText⟩⟩
theorem d_MT_name_4 : decode M_MT_name.2.1 4 = .ok (.astore_n 2, 1) := by decide +kernel
theorem d_MT_name_5 : decode M_MT_name.2.1 5 = .ok (.aload_n 2, 1) := by decide +kernel
theorem d_MT_name_6 : decode M_MT_name.2.1 6 = .ok (.invokestatic 68, 3) := by decide +kernel
theorem xw_669 : (Jvm.Cond.code ({ cls := "MarkerText", name := "isSpelledAsName", desc := "(Ljava/lang/String;)Z" } : Jvm.MethodName) prog_1_method_23_code (2 : Nat) (Option.some Jvm.ClassFile.FieldType.boolean)) ∈ xT := xT_at 669 (by decide +kernel) (by decide +kernel)
theorem xcb_MT_isSpelledAsName : xcb M_MT_isSpelledAsName 1 := ⟨xw_669, xw_1, by decide, by decide, by decide, by decide +kernel⟩
theorem xw_667 : (Jvm.Cond.methodLink "MarkerText" (68 : Nat) ({ cls := "MarkerText", name := "isSpelledAsName", desc := "(Ljava/lang/String;)Z" } : Jvm.MethodName)) ∈ xT := xT_at 667 (by decide +kernel) (by decide +kernel)
theorem xw_668 : (Jvm.Cond.static ({ cls := "MarkerText", name := "isSpelledAsName", desc := "(Ljava/lang/String;)Z" } : Jvm.MethodName)) ∈ xT := xT_at 668 (by decide +kernel) (by decide +kernel)
theorem xcs_MT_68 : xCS "MarkerText" 68 M_MT_isSpelledAsName 1 := ⟨xcb_MT_isSpelledAsName, xw_668, Or.inl xw_667⟩
theorem d_MT_name_9 : decode M_MT_name.2.1 9 = .ok (.ifCond .eq 15, 3) := by decide +kernel
theorem d_MT_name_24 : decode M_MT_name.2.1 24 = .ok (.new 76, 3) := by decide +kernel
theorem xw_694 : (Jvm.Cond.classLink "MarkerText" (76 : Nat) "java/lang/IllegalArgumentException") ∈ xT := xT_at 694 (by decide +kernel) (by decide +kernel)
theorem xw_491 : (Jvm.Cond.instantiable "java/lang/IllegalArgumentException" (6 : Nat)) ∈ xT := xT_at 491 (by decide +kernel) (by decide +kernel)
theorem xw_18 : (Jvm.Cond.initialized "java/lang/IllegalArgumentException") ∈ xT := xT_at 18 (by decide +kernel) (by decide +kernel)
theorem xnw_MT_76 : xNw "MarkerText" 76 k_IllegalArgumentException 6 [.null, .null, .null, .null, .null, .int 0] := ⟨_, _, _, rfl, rfl, by decide +kernel, xw_694, xw_491, xw_18⟩
theorem xw_15 : (Jvm.Cond.initialized "java/lang/Throwable") ∈ xT := xT_at 15 (by decide +kernel) (by decide +kernel)
theorem xw_512 : (Jvm.Cond.superclass "java/lang/Throwable" "java/lang/Object") ∈ xT := xT_at 512 (by decide +kernel) (by decide +kernel)
theorem xw_521 : (Jvm.Cond.instanceMethod ({ cls := "java/lang/Throwable", name := "fillInStackTrace", desc := "()Ljava/lang/Throwable;" } : Jvm.MethodName)) ∈ xT := xT_at 521 (by decide +kernel) (by decide +kernel)
theorem xw_524 : (Jvm.Cond.codeSync ({ cls := "java/lang/Throwable", name := "fillInStackTrace", desc := "()Ljava/lang/Throwable;" } : Jvm.MethodName) prog_30_method_18_code (1 : Nat) (Option.some (Jvm.ClassFile.FieldType.object "java/lang/Throwable"))) ∈ xT := xT_at 524 (by decide +kernel) (by decide +kernel)
theorem xw_527 : (Jvm.Cond.instanceMethod ({ cls := "java/lang/Throwable", name := "fillInStackTrace", desc := "(I)Ljava/lang/Throwable;" } : Jvm.MethodName)) ∈ xT := xT_at 527 (by decide +kernel) (by decide +kernel)
theorem xw_529 : (Jvm.Cond.native ({ cls := "java/lang/Throwable", name := "fillInStackTrace", desc := "(I)Ljava/lang/Throwable;" } : Jvm.MethodName)) ∈ xT := xT_at 529 (by decide +kernel) (by decide +kernel)
theorem xw_513 : (Jvm.Cond.instanceMethod ({ cls := "java/lang/Throwable", name := "<init>", desc := "()V" } : Jvm.MethodName)) ∈ xT := xT_at 513 (by decide +kernel) (by decide +kernel)
theorem xw_514 : (Jvm.Cond.code ({ cls := "java/lang/Throwable", name := "<init>", desc := "()V" } : Jvm.MethodName) prog_30_method_1_code (1 : Nat) (Option.none : Option Jvm.ClassFile.FieldType)) ∈ xT := xT_at 514 (by decide +kernel) (by decide +kernel)
theorem xw_515 : (Jvm.Cond.methodLink "java/lang/Throwable" (1 : Nat) ({ cls := "java/lang/Object", name := "<init>", desc := "()V" } : Jvm.MethodName)) ∈ xT := xT_at 515 (by decide +kernel) (by decide +kernel)
theorem xw_520 : (Jvm.Cond.methodLink "java/lang/Throwable" (27 : Nat) ({ cls := "java/lang/Throwable", name := "fillInStackTrace", desc := "()Ljava/lang/Throwable;" } : Jvm.MethodName)) ∈ xT := xT_at 520 (by decide +kernel) (by decide +kernel)
theorem xw_525 : (Jvm.Cond.methodLink "java/lang/Throwable" (202 : Nat) ({ cls := "java/lang/Throwable", name := "fillInStackTrace", desc := "(I)Ljava/lang/Throwable;" } : Jvm.MethodName)) ∈ xT := xT_at 525 (by decide +kernel) (by decide +kernel)
theorem xw_612 : (Jvm.Cond.fieldLink "java/lang/Throwable" (7 : Nat) "java/lang/Throwable" "cause" "Ljava/lang/Throwable;") ∈ xT := xT_at 612 (by decide +kernel) (by decide +kernel)
theorem xw_502 : (Jvm.Cond.lays "java/lang/Throwable" "java/lang/Throwable" "cause" "Ljava/lang/Throwable;") ∈ xT := xT_at 502 (by decide +kernel) (by decide +kernel)
theorem xw_613 : (Jvm.Cond.fieldLink "java/lang/Throwable" (17 : Nat) "java/lang/Throwable" "stackTrace" "[Ljava/lang/StackTraceElement;") ∈ xT := xT_at 613 (by decide +kernel) (by decide +kernel)
theorem xw_504 : (Jvm.Cond.lays "java/lang/Throwable" "java/lang/Throwable" "stackTrace" "[Ljava/lang/StackTraceElement;") ∈ xT := xT_at 504 (by decide +kernel) (by decide +kernel)
theorem xw_614 : (Jvm.Cond.fieldLink "java/lang/Throwable" (24 : Nat) "java/lang/Throwable" "suppressedExceptions" "Ljava/util/List;") ∈ xT := xT_at 614 (by decide +kernel) (by decide +kernel)
theorem xw_506 : (Jvm.Cond.lays "java/lang/Throwable" "java/lang/Throwable" "suppressedExceptions" "Ljava/util/List;") ∈ xT := xT_at 506 (by decide +kernel) (by decide +kernel)
theorem xw_516 : (Jvm.Cond.fieldLink "java/lang/Throwable" (13 : Nat) "java/lang/Throwable" "UNASSIGNED_STACK" "[Ljava/lang/StackTraceElement;") ∈ xT := xT_at 516 (by decide +kernel) (by decide +kernel)
theorem xw_518 : (Jvm.Cond.fieldLink "java/lang/Throwable" (20 : Nat) "java/lang/Throwable" "SUPPRESSED_SENTINEL" "Ljava/util/List;") ∈ xT := xT_at 518 (by decide +kernel) (by decide +kernel)
theorem xw_508 : (Jvm.Cond.lays "java/lang/Throwable" "java/lang/Throwable" "detailMessage" "Ljava/lang/String;") ∈ xT := xT_at 508 (by decide +kernel) (by decide +kernel)
theorem xw_608 : (Jvm.Cond.instanceMethod ({ cls := "java/lang/Throwable", name := "<init>", desc := "(Ljava/lang/String;)V" } : Jvm.MethodName)) ∈ xT := xT_at 608 (by decide +kernel) (by decide +kernel)
theorem xw_609 : (Jvm.Cond.code ({ cls := "java/lang/Throwable", name := "<init>", desc := "(Ljava/lang/String;)V" } : Jvm.MethodName) prog_30_method_2_code (2 : Nat) (Option.none : Option Jvm.ClassFile.FieldType)) ∈ xT := xT_at 609 (by decide +kernel) (by decide +kernel)
theorem xw_611 : (Jvm.Cond.fieldLink "java/lang/Throwable" (31 : Nat) "java/lang/Throwable" "detailMessage" "Ljava/lang/String;") ∈ xT := xT_at 611 (by decide +kernel) (by decide +kernel)
theorem xw_599 : (Jvm.Cond.instanceMethod ({ cls := "java/lang/IllegalArgumentException", name := "<init>", desc := "(Ljava/lang/String;)V" } : Jvm.MethodName)) ∈ xT := xT_at 599 (by decide +kernel) (by decide +kernel)
theorem xw_600 : (Jvm.Cond.code ({ cls := "java/lang/IllegalArgumentException", name := "<init>", desc := "(Ljava/lang/String;)V" } : Jvm.MethodName) prog_19_method_2_code (2 : Nat) (Option.none : Option Jvm.ClassFile.FieldType)) ∈ xT := xT_at 600 (by decide +kernel) (by decide +kernel)
theorem xw_601 : (Jvm.Cond.methodLink "java/lang/IllegalArgumentException" (7 : Nat) ({ cls := "java/lang/RuntimeException", name := "<init>", desc := "(Ljava/lang/String;)V" } : Jvm.MethodName)) ∈ xT := xT_at 601 (by decide +kernel) (by decide +kernel)
theorem xw_602 : (Jvm.Cond.instanceMethod ({ cls := "java/lang/RuntimeException", name := "<init>", desc := "(Ljava/lang/String;)V" } : Jvm.MethodName)) ∈ xT := xT_at 602 (by decide +kernel) (by decide +kernel)
theorem xw_494 : (Jvm.Cond.declares ({ cls := "java/lang/RuntimeException", name := "<init>", desc := "(Ljava/lang/String;)V" } : Jvm.MethodName)) ∈ xT := xT_at 494 (by decide +kernel) (by decide +kernel)
theorem xw_603 : (Jvm.Cond.code ({ cls := "java/lang/RuntimeException", name := "<init>", desc := "(Ljava/lang/String;)V" } : Jvm.MethodName) prog_24_method_2_code (2 : Nat) (Option.none : Option Jvm.ClassFile.FieldType)) ∈ xT := xT_at 603 (by decide +kernel) (by decide +kernel)
theorem xw_604 : (Jvm.Cond.methodLink "java/lang/RuntimeException" (7 : Nat) ({ cls := "java/lang/Exception", name := "<init>", desc := "(Ljava/lang/String;)V" } : Jvm.MethodName)) ∈ xT := xT_at 604 (by decide +kernel) (by decide +kernel)
theorem xw_605 : (Jvm.Cond.instanceMethod ({ cls := "java/lang/Exception", name := "<init>", desc := "(Ljava/lang/String;)V" } : Jvm.MethodName)) ∈ xT := xT_at 605 (by decide +kernel) (by decide +kernel)
theorem xw_496 : (Jvm.Cond.declares ({ cls := "java/lang/Exception", name := "<init>", desc := "(Ljava/lang/String;)V" } : Jvm.MethodName)) ∈ xT := xT_at 496 (by decide +kernel) (by decide +kernel)
theorem xw_606 : (Jvm.Cond.code ({ cls := "java/lang/Exception", name := "<init>", desc := "(Ljava/lang/String;)V" } : Jvm.MethodName) prog_18_method_2_code (2 : Nat) (Option.none : Option Jvm.ClassFile.FieldType)) ∈ xT := xT_at 606 (by decide +kernel) (by decide +kernel)
theorem xw_607 : (Jvm.Cond.methodLink "java/lang/Exception" (7 : Nat) ({ cls := "java/lang/Throwable", name := "<init>", desc := "(Ljava/lang/String;)V" } : Jvm.MethodName)) ∈ xT := xT_at 607 (by decide +kernel) (by decide +kernel)
theorem xw_498 : (Jvm.Cond.declares ({ cls := "java/lang/Throwable", name := "<init>", desc := "(Ljava/lang/String;)V" } : Jvm.MethodName)) ∈ xT := xT_at 498 (by decide +kernel) (by decide +kernel)
theorem xw_696 : (Jvm.Cond.methodLink "MarkerText" (80 : Nat) ({ cls := "java/lang/IllegalArgumentException", name := "<init>", desc := "(Ljava/lang/String;)V" } : Jvm.MethodName)) ∈ xT := xT_at 696 (by decide +kernel) (by decide +kernel)
theorem xw_499 : (Jvm.Cond.selects "java/lang/IllegalArgumentException" ({ cls := "java/lang/Throwable", name := "fillInStackTrace", desc := "(I)Ljava/lang/Throwable;" } : Jvm.MethodName) ({ cls := "java/lang/Throwable", name := "fillInStackTrace", desc := "(I)Ljava/lang/Throwable;" } : Jvm.MethodName)) ∈ xT := xT_at 499 (by decide +kernel) (by decide +kernel)
theorem xw_500 : (Jvm.Cond.selects "java/lang/IllegalArgumentException" ({ cls := "java/lang/Throwable", name := "fillInStackTrace", desc := "()Ljava/lang/Throwable;" } : Jvm.MethodName) ({ cls := "java/lang/Throwable", name := "fillInStackTrace", desc := "()Ljava/lang/Throwable;" } : Jvm.MethodName)) ∈ xT := xT_at 500 (by decide +kernel) (by decide +kernel)
theorem xw_501 : (Jvm.Cond.lays "java/lang/IllegalArgumentException" "java/lang/Throwable" "cause" "Ljava/lang/Throwable;") ∈ xT := xT_at 501 (by decide +kernel) (by decide +kernel)
theorem xw_503 : (Jvm.Cond.lays "java/lang/IllegalArgumentException" "java/lang/Throwable" "stackTrace" "[Ljava/lang/StackTraceElement;") ∈ xT := xT_at 503 (by decide +kernel) (by decide +kernel)
theorem xw_505 : (Jvm.Cond.lays "java/lang/IllegalArgumentException" "java/lang/Throwable" "suppressedExceptions" "Ljava/util/List;") ∈ xT := xT_at 505 (by decide +kernel) (by decide +kernel)
theorem xw_507 : (Jvm.Cond.lays "java/lang/IllegalArgumentException" "java/lang/Throwable" "detailMessage" "Ljava/lang/String;") ∈ xT := xT_at 507 (by decide +kernel) (by decide +kernel)
theorem xw_511 : (Jvm.Cond.fieldLink "java/lang/Throwable" (198 : Nat) "java/lang/Throwable" "backtrace" "Ljava/lang/Object;") ∈ xT := xT_at 511 (by decide +kernel) (by decide +kernel)
theorem xw_510 : (Jvm.Cond.lays "java/lang/Throwable" "java/lang/Throwable" "backtrace" "Ljava/lang/Object;") ∈ xT := xT_at 510 (by decide +kernel) (by decide +kernel)
theorem xw_509 : (Jvm.Cond.lays "java/lang/IllegalArgumentException" "java/lang/Throwable" "backtrace" "Ljava/lang/Object;") ∈ xT := xT_at 509 (by decide +kernel) (by decide +kernel)
theorem xthr_MT_80 : ∀ w ∈ xThr "MarkerText" 80 "java/lang/IllegalArgumentException" ["java/lang/RuntimeException", "java/lang/Exception"], w ∈ xT ∨ ∃ q ∈ xThS, w = Cond.laysStatic q.1 q.2.1 q.2.2 := List.forall_mem_cons.mpr ⟨Or.inl xw_15, List.forall_mem_cons.mpr ⟨Or.inl xw_512, List.forall_mem_cons.mpr ⟨Or.inl xw_521, List.forall_mem_cons.mpr ⟨Or.inl xw_524, List.forall_mem_cons.mpr ⟨Or.inl xw_527, List.forall_mem_cons.mpr ⟨Or.inl xw_529, List.forall_mem_cons.mpr ⟨Or.inl xw_513, List.forall_mem_cons.mpr ⟨Or.inl xw_514, List.forall_mem_cons.mpr ⟨Or.inl xw_40, List.forall_mem_cons.mpr ⟨Or.inl xw_41, List.forall_mem_cons.mpr ⟨Or.inl xw_515, List.forall_mem_cons.mpr ⟨Or.inl xw_520, List.forall_mem_cons.mpr ⟨Or.inl xw_525, List.forall_mem_cons.mpr ⟨Or.inl xw_612, List.forall_mem_cons.mpr ⟨Or.inl xw_502, List.forall_mem_cons.mpr ⟨Or.inl xw_613, List.forall_mem_cons.mpr ⟨Or.inl xw_504, List.forall_mem_cons.mpr ⟨Or.inl xw_614, List.forall_mem_cons.mpr ⟨Or.inl xw_506, List.forall_mem_cons.mpr ⟨Or.inl xw_516, List.forall_mem_cons.mpr ⟨Or.inr ⟨_, List.mem_of_getElem? (i := 0) rfl, rfl⟩, List.forall_mem_cons.mpr ⟨Or.inl xw_518, List.forall_mem_cons.mpr ⟨Or.inr ⟨_, List.mem_of_getElem? (i := 1) rfl, rfl⟩, List.forall_mem_cons.mpr ⟨Or.inl xw_508, List.forall_mem_cons.mpr ⟨Or.inl xw_608, List.forall_mem_cons.mpr ⟨Or.inl xw_609, List.forall_mem_cons.mpr ⟨Or.inl xw_611, List.forall_mem_cons.mpr ⟨Or.inl xw_508, List.forall_mem_cons.mpr ⟨Or.inl xw_599, List.forall_mem_cons.mpr ⟨Or.inl xw_600, List.forall_mem_cons.mpr ⟨Or.inl xw_601, List.forall_mem_cons.mpr ⟨Or.inl xw_602, List.forall_mem_cons.mpr ⟨Or.inl xw_494, List.forall_mem_cons.mpr ⟨Or.inl xw_602, List.forall_mem_cons.mpr ⟨Or.inl xw_603, List.forall_mem_cons.mpr ⟨Or.inl xw_604, List.forall_mem_cons.mpr ⟨Or.inl xw_605, List.forall_mem_cons.mpr ⟨Or.inl xw_496, List.forall_mem_cons.mpr ⟨Or.inl xw_605, List.forall_mem_cons.mpr ⟨Or.inl xw_606, List.forall_mem_cons.mpr ⟨Or.inl xw_607, List.forall_mem_cons.mpr ⟨Or.inl xw_608, List.forall_mem_cons.mpr ⟨Or.inl xw_498, List.forall_mem_cons.mpr ⟨Or.inl xw_696, List.forall_mem_cons.mpr ⟨Or.inl xw_491, List.forall_mem_cons.mpr ⟨Or.inl xw_499, List.forall_mem_cons.mpr ⟨Or.inl xw_500, List.forall_mem_cons.mpr ⟨Or.inl xw_501, List.forall_mem_cons.mpr ⟨Or.inl xw_503, List.forall_mem_cons.mpr ⟨Or.inl xw_505, List.forall_mem_cons.mpr ⟨Or.inl xw_507, List.forall_mem_cons.mpr ⟨Or.inl xw_511, List.forall_mem_cons.mpr ⟨Or.inl xw_510, List.forall_mem_cons.mpr ⟨Or.inl xw_509, fun _ hz => by cases hz⟩⟩⟩⟩⟩⟩⟩⟩⟩⟩⟩⟩⟩⟩⟩⟩⟩⟩⟩⟩⟩⟩⟩⟩⟩⟩⟩⟩⟩⟩⟩⟩⟩⟩⟩⟩⟩⟩⟩⟩⟩⟩⟩⟩⟩⟩⟩⟩⟩⟩⟩⟩⟩⟩
theorem d_MT_name_27 : decode M_MT_name.2.1 27 = .ok (.dup, 1) := by decide +kernel
theorem d_MT_name_28 : decode M_MT_name.2.1 28 = .ok (.ldc 78, 2) := by decide +kernel
theorem d_MT_name_30 : decode M_MT_name.2.1 30 = .ok (.invokespecial 80, 3) := by decide +kernel
theorem d_MT_name_33 : decode M_MT_name.2.1 33 = .ok (.athrow, 1) := by decide +kernel
theorem xw_456 : (Jvm.Cond.code ({ cls := "MarkerText", name := "name", desc := "(I)I" } : Jvm.MethodName) prog_1_method_3_code (3 : Nat) (Option.some Jvm.ClassFile.FieldType.int)) ∈ xT := xT_at 456 (by decide +kernel) (by decide +kernel)
abbrev y_MT_value : MethodName := ⟨"MarkerText", "value", "(I)I"⟩
abbrev M_MT_value : XMt := (y_MT_value, prog_1_method_4_code, 6, (some .int))
theorem d_MT_value_0 : decode M_MT_value.2.1 0 = .ok (.aload_n 0, 1) := by decide +kernel
theorem d_MT_value_1 : decode M_MT_value.2.1 1 = .ok (.invokevirtual 64, 3) := by decide +kernel
theorem d_MT_value_4 : decode M_MT_value.2.1 4 = .ok (.astore_n 2, 1) := by decide +kernel
theorem d_MT_value_5 : decode M_MT_value.2.1 5 = .ok (.aload_n 0, 1) := by decide +kernel
theorem d_MT_value_6 : decode M_MT_value.2.1 6 = .ok (.iload_n 1, 1) := by decide +kernel
theorem d_MT_value_7 : decode M_MT_value.2.1 7 = .ok (.invokevirtual 93, 3) := by decide +kernel
theorem xw_412 : (Jvm.Cond.code ({ cls := "MarkerText", name := "nameAt", desc := "(I)LMarkerText$Name;" } : Jvm.MethodName) prog_1_method_18_code (2 : Nat) (Option.some (Jvm.ClassFile.FieldType.object "MarkerText$Name"))) ∈ xT := xT_at 412 (by decide +kernel) (by decide +kernel)
theorem xcb_MT_nameAt : xcb M_MT_nameAt 1 := ⟨xw_412, xw_1, by decide, by decide, by decide, by decide +kernel⟩
theorem xw_411 : (Jvm.Cond.instanceMethod ({ cls := "MarkerText", name := "nameAt", desc := "(I)LMarkerText$Name;" } : Jvm.MethodName)) ∈ xT := xT_at 411 (by decide +kernel) (by decide +kernel)
theorem xw_409 : (Jvm.Cond.methodLink "MarkerText" (93 : Nat) ({ cls := "MarkerText", name := "nameAt", desc := "(I)LMarkerText$Name;" } : Jvm.MethodName)) ∈ xT := xT_at 409 (by decide +kernel) (by decide +kernel)
theorem xsel_MT_nameAt : Cond.selects "MarkerText" y_MT_nameAt y_MT_nameAt ∈ xT := xT_sel (q := (y_MT_nameAt, 9)) (by decide +kernel) (by decide +kernel)
theorem xcv_MT_93_MT : xCV "MarkerText" 93 "MarkerText" M_MT_nameAt 1 := ⟨xcb_MT_nameAt, xw_411, Or.inl ⟨xw_409, Or.inl xsel_MT_nameAt⟩⟩
theorem d_MT_value_10 : decode M_MT_value.2.1 10 = .ok (.astore_n 3, 1) := by decide +kernel
theorem d_MT_value_11 : decode M_MT_value.2.1 11 = .ok (.aload_n 3, 1) := by decide +kernel
theorem d_MT_value_12 : decode M_MT_value.2.1 12 = .ok (.ifnonnull 13, 3) := by decide +kernel
theorem d_MT_value_15 : decode M_MT_value.2.1 15 = .ok (.new 76, 3) := by decide +kernel
theorem d_MT_value_18 : decode M_MT_value.2.1 18 = .ok (.dup, 1) := by decide +kernel
theorem d_MT_value_19 : decode M_MT_value.2.1 19 = .ok (.ldc 97, 2) := by decide +kernel
theorem d_MT_value_21 : decode M_MT_value.2.1 21 = .ok (.invokespecial 80, 3) := by decide +kernel
theorem d_MT_value_24 : decode M_MT_value.2.1 24 = .ok (.athrow, 1) := by decide +kernel
theorem xw_743 : (Jvm.Cond.code ({ cls := "MarkerText", name := "value", desc := "(I)I" } : Jvm.MethodName) prog_1_method_4_code (6 : Nat) (Option.some Jvm.ClassFile.FieldType.int)) ∈ xT := xT_at 743 (by decide +kernel) (by decide +kernel)
abbrev y_MT_give : MethodName := ⟨"MarkerText", "give", "(I)V"⟩
abbrev M_MT_give : XMt := (y_MT_give, prog_1_method_7_code, 6, none)
theorem d_MT_give_0 : decode M_MT_give.2.1 0 = .ok (.aload_n 0, 1) := by decide +kernel
theorem d_MT_give_1 : decode M_MT_give.2.1 1 = .ok (.invokevirtual 64, 3) := by decide +kernel
theorem d_MT_give_4 : decode M_MT_give.2.1 4 = .ok (.astore_n 2, 1) := by decide +kernel
theorem d_MT_give_5 : decode M_MT_give.2.1 5 = .ok (.aload_n 0, 1) := by decide +kernel
theorem d_MT_give_6 : decode M_MT_give.2.1 6 = .ok (.iload_n 1, 1) := by decide +kernel
theorem d_MT_give_7 : decode M_MT_give.2.1 7 = .ok (.invokevirtual 93, 3) := by decide +kernel
theorem d_MT_give_10 : decode M_MT_give.2.1 10 = .ok (.astore_n 3, 1) := by decide +kernel
theorem d_MT_give_11 : decode M_MT_give.2.1 11 = .ok (.aload_n 3, 1) := by decide +kernel
theorem d_MT_give_12 : decode M_MT_give.2.1 12 = .ok (.ifnonnull 13, 3) := by decide +kernel
theorem d_MT_give_15 : decode M_MT_give.2.1 15 = .ok (.new 76, 3) := by decide +kernel
theorem d_MT_give_18 : decode M_MT_give.2.1 18 = .ok (.dup, 1) := by decide +kernel
theorem d_MT_give_19 : decode M_MT_give.2.1 19 = .ok (.ldc 97, 2) := by decide +kernel
theorem d_MT_give_21 : decode M_MT_give.2.1 21 = .ok (.invokespecial 80, 3) := by decide +kernel
theorem d_MT_give_24 : decode M_MT_give.2.1 24 = .ok (.athrow, 1) := by decide +kernel
theorem xw_1162 : (Jvm.Cond.code ({ cls := "MarkerText", name := "give", desc := "(I)V" } : Jvm.MethodName) prog_1_method_7_code (6 : Nat) (Option.none : Option Jvm.ClassFile.FieldType)) ∈ xT := xT_at 1162 (by decide +kernel) (by decide +kernel)
abbrev y_MT_condition : MethodName := ⟨"MarkerText", "condition", "()I"⟩
abbrev M_MT_condition : XMt := (y_MT_condition, prog_1_method_5_code, 3, (some .int))
theorem d_MT_condition_0 : decode M_MT_condition.2.1 0 = .ok (.new 121, 3) := by decide +kernel
theorem xw_823 : (Jvm.Cond.classLink "MarkerText" (121 : Nat) "MarkerText$Reader") ∈ xT := xT_at 823 (by decide +kernel) (by decide +kernel)
theorem xw_824 : (Jvm.Cond.instantiable "MarkerText$Reader" (7 : Nat)) ∈ xT := xT_at 824 (by decide +kernel) (by decide +kernel)
theorem xnw_MT_121 : xNw "MarkerText" 121 k_Reader 7 [.null, .null, .null, .null, .int 0, .int 0, .int 0] := ⟨_, _, _, rfl, rfl, by decide +kernel, xw_823, xw_824, xw_23⟩
theorem d_MT_condition_3 : decode M_MT_condition.2.1 3 = .ok (.dup, 1) := by decide +kernel
theorem d_MT_condition_4 : decode M_MT_condition.2.1 4 = .ok (.aload_n 0, 1) := by decide +kernel
theorem d_MT_condition_5 : decode M_MT_condition.2.1 5 = .ok (.invokevirtual 64, 3) := by decide +kernel
theorem d_MT_condition_8 : decode M_MT_condition.2.1 8 = .ok (.aload_n 0, 1) := by decide +kernel
theorem d_MT_condition_9 : decode M_MT_condition.2.1 9 = .ok (.getfield 18, 3) := by decide +kernel
theorem d_MT_condition_12 : decode M_MT_condition.2.1 12 = .ok (.invokespecial 123, 3) := by decide +kernel
theorem xw_827 : (Jvm.Cond.code ({ cls := "MarkerText$Reader", name := "<init>", desc := "(Ljava/lang/String;[LMarkerText$Name;)V" } : Jvm.MethodName) prog_10_method_1_code (3 : Nat) (Option.none : Option Jvm.ClassFile.FieldType)) ∈ xT := xT_at 827 (by decide +kernel) (by decide +kernel)
theorem xcb_Reader_init : xcb M_Reader_init 2 := ⟨xw_827, xw_23, by decide, by decide, by decide, by decide +kernel⟩
theorem xw_825 : (Jvm.Cond.methodLink "MarkerText" (123 : Nat) ({ cls := "MarkerText$Reader", name := "<init>", desc := "(Ljava/lang/String;[LMarkerText$Name;)V" } : Jvm.MethodName)) ∈ xT := xT_at 825 (by decide +kernel) (by decide +kernel)
theorem xw_826 : (Jvm.Cond.instanceMethod ({ cls := "MarkerText$Reader", name := "<init>", desc := "(Ljava/lang/String;[LMarkerText$Name;)V" } : Jvm.MethodName)) ∈ xT := xT_at 826 (by decide +kernel) (by decide +kernel)
theorem xci_MT_123 : xCI "MarkerText" 123 M_Reader_init 2 := ⟨xcb_Reader_init, rfl, rfl, xw_826, Or.inl xw_825⟩
theorem d_MT_condition_15 : decode M_MT_condition.2.1 15 = .ok (.astore_n 1, 1) := by decide +kernel
theorem d_MT_condition_16 : decode M_MT_condition.2.1 16 = .ok (.aload_n 1, 1) := by decide +kernel
theorem d_MT_condition_17 : decode M_MT_condition.2.1 17 = .ok (.invokevirtual 126, 3) := by decide +kernel
theorem xw_883 : (Jvm.Cond.code ({ cls := "MarkerText$Reader", name := "readWhole", desc := "()LMarkerText$Condition;" } : Jvm.MethodName) prog_10_method_2_code (2 : Nat) (Option.some (Jvm.ClassFile.FieldType.object "MarkerText$Condition"))) ∈ xT := xT_at 883 (by decide +kernel) (by decide +kernel)
theorem xcb_Reader_readWhole : xcb M_Reader_readWhole 0 := ⟨xw_883, xw_23, by decide, by decide, by decide, by decide +kernel⟩
theorem xw_881 : (Jvm.Cond.instanceMethod ({ cls := "MarkerText$Reader", name := "readWhole", desc := "()LMarkerText$Condition;" } : Jvm.MethodName)) ∈ xT := xT_at 881 (by decide +kernel) (by decide +kernel)
theorem xw_880 : (Jvm.Cond.methodLink "MarkerText" (126 : Nat) ({ cls := "MarkerText$Reader", name := "readWhole", desc := "()LMarkerText$Condition;" } : Jvm.MethodName)) ∈ xT := xT_at 880 (by decide +kernel) (by decide +kernel)
theorem xw_882 : (Jvm.Cond.selects "MarkerText$Reader" ({ cls := "MarkerText$Reader", name := "readWhole", desc := "()LMarkerText$Condition;" } : Jvm.MethodName) ({ cls := "MarkerText$Reader", name := "readWhole", desc := "()LMarkerText$Condition;" } : Jvm.MethodName)) ∈ xT := xT_at 882 (by decide +kernel) (by decide +kernel)
theorem xcv_MT_126_Reader : xCV "MarkerText" 126 "MarkerText$Reader" M_Reader_readWhole 0 := ⟨xcb_Reader_readWhole, xw_881, Or.inl ⟨xw_880, Or.inl xw_882⟩⟩
theorem d_MT_condition_20 : decode M_MT_condition.2.1 20 = .ok (.astore_n 2, 1) := by decide +kernel
theorem d_MT_condition_21 : decode M_MT_condition.2.1 21 = .ok (.aload_n 0, 1) := by decide +kernel
theorem d_MT_condition_22 : decode M_MT_condition.2.1 22 = .ok (.aload_n 2, 1) := by decide +kernel
theorem d_MT_condition_23 : decode M_MT_condition.2.1 23 = .ok (.ifnonnull 10, 3) := by decide +kernel
theorem d_MT_condition_26 : decode M_MT_condition.2.1 26 = .ok (.aload_n 1, 1) := by decide +kernel
theorem d_MT_condition_27 : decode M_MT_condition.2.1 27 = .ok (.getfield 130, 3) := by decide +kernel
theorem xw_862 : (Jvm.Cond.fieldLinkNest "MarkerText" (130 : Nat) "MarkerText$Reader" "at" "I" "MarkerText") ∈ xT := xT_at 862 (by decide +kernel) (by decide +kernel)
theorem xf_MT_130_Reader : xF "MarkerText" 130 k_Reader 4 := ⟨_, _, _, "MarkerText$Reader", rfl, by decide, Or.inr ⟨_, xw_862⟩, Or.inl rfl⟩
theorem d_MT_condition_30 : decode M_MT_condition.2.1 30 = .ok (.goto 4, 3) := by decide +kernel
theorem d_MT_condition_34 : decode M_MT_condition.2.1 34 = .ok (.putfield 35, 3) := by decide +kernel
theorem d_MT_condition_37 : decode M_MT_condition.2.1 37 = .ok (.aload_n 2, 1) := by decide +kernel
theorem d_MT_condition_38 : decode M_MT_condition.2.1 38 = .ok (.ifnonnull 13, 3) := by decide +kernel
theorem d_MT_condition_41 : decode M_MT_condition.2.1 41 = .ok (.new 76, 3) := by decide +kernel
theorem d_MT_condition_44 : decode M_MT_condition.2.1 44 = .ok (.dup, 1) := by decide +kernel
theorem d_MT_condition_45 : decode M_MT_condition.2.1 45 = .ok (.ldc 133, 2) := by decide +kernel
theorem d_MT_condition_47 : decode M_MT_condition.2.1 47 = .ok (.invokespecial 80, 3) := by decide +kernel
theorem d_MT_condition_50 : decode M_MT_condition.2.1 50 = .ok (.athrow, 1) := by decide +kernel
theorem xw_822 : (Jvm.Cond.code ({ cls := "MarkerText", name := "condition", desc := "()I" } : Jvm.MethodName) prog_1_method_5_code (3 : Nat) (Option.some Jvm.ClassFile.FieldType.int)) ∈ xT := xT_at 822 (by decide +kernel) (by decide +kernel)
end
section P1E
variable {l : Launch} {G : XG} {h : XH} {c n d : Nat}
/-- it throws an IllegalArgumentException -/
abbrev pThr (h : XH) (c n : Nat) : Option Value → XH → Nat → Nat → Prop := fun v h' c' n' => ∃ a, v = some (.retAddr a) ∧ h' a = some (k_IllegalArgumentException, []) ∧ xap h h' ∧ c' ≤ c + 200 ∧ n' ≤ n + 3000
theorem c_name0 (hG : xGk G) (htr : l.stackTraces = false) (hd : 12 ≤ d) {x : Nat} {k : Int32} (hx : mt0 h x) (hc : c + 200 ≤ xCB) (hn : n + 3000 ≤ xSB) : XMT l G d M_MT_name [.ref x, .int k] h c n (pThr h c n) := by
  obtain ⟨d, rfl⟩ : ∃ q, d = q + 1 := ⟨d - 1, by omega⟩
  obtain ⟨ta, va, na, ca, ea, co, pa, e0, hB, -⟩ := hx
  obtain ⟨z, bs, b1, b2, -⟩ := id hB
  refine XMT.of (by decide +kernel) (Nat.le_of_ble_eq_true rfl) ?_
  refine x_aload_n d_MT_name_0 rfl rfl ?_
  refine x_callV (As := []) (k := k_MarkerText) rfl xcv_MT_64_MT (Or.inl e0) (c_takeText (by omega) e0 hB (by omega) (by omega) (by simp; omega)) rfl rfl (Nat.le_of_ble_eq_true rfl) d_MT_name_1 ?_
  rintro v h1 c1 n1 ⟨q, rfl, hS, hB1, f1, hc1, hn1⟩
  refine x_astore_n (L' := [_, _, _]) d_MT_name_4 rfl rfl rfl ?_
  refine x_aload_n d_MT_name_5 rfl rfl ?_
  refine x_callS (As := [_]) xcs_MT_68 (c_isSpelled hG (by omega) hS (by simp)) rfl rfl (Nat.le_of_ble_eq_true rfl) d_MT_name_6 ?_
  rintro v h2 c2 n2 ⟨rfl, rfl, rfl, rfl⟩
  rw [if_neg (fun z => z.1.1 rfl)]
  refine x_if_eq (tgt := 24) d_MT_name_9 (by decide) (fun _ => ?_) (fun hn => absurd rfl hn)
  simp only [List.length_nil] at hn1
  refine x_throwS (k := k_IllegalArgumentException) (i := 10) (tx := "no new name") hG.1 htr xw_456 rfl (by decide +kernel) (by decide +kernel) (by decide) xnw_MT_76 xthr_MT_80 (by decide +kernel) (by omega) (Nat.le_of_ble_eq_true rfl) (by omega) (by omega) d_MT_name_24 d_MT_name_27 d_MT_name_28 d_MT_name_30 d_MT_name_33 (fun a hn_a hk_a => ?_)
  exact ⟨a, rfl, xup_self, ⟨[ta], f1.up (Or.inr (f1.2 _ hn_a)), xno1 b1 (by decide)⟩, by omega, by omega⟩
theorem c_value0 (hG : xGk G) (htr : l.stackTraces = false) (hd : 12 ≤ d) {x : Nat} {k : Int32} (hx : mt0 h x) (hc : c + 200 ≤ xCB) (hn : n + 3000 ≤ xSB) : XMT l G d M_MT_value [.ref x, .int k] h c n (pThr h c n) := by
  obtain ⟨d, rfl⟩ : ∃ q, d = q + 1 := ⟨d - 1, by omega⟩
  obtain ⟨ta, va, na, ca, ea, co, pa, e0, hB, e1, -⟩ := hx
  obtain ⟨z, bs, b1, b2, -⟩ := id hB
  refine XMT.of (by decide +kernel) (Nat.le_of_ble_eq_true rfl) ?_
  refine x_aload_n d_MT_value_0 rfl rfl ?_
  refine x_callV (As := []) (k := k_MarkerText) rfl xcv_MT_64_MT (Or.inl e0) (c_takeText (by omega) e0 hB (by omega) (by omega) (by simp; omega)) rfl rfl (Nat.le_of_ble_eq_true rfl) d_MT_value_1 ?_
  rintro v h1 c1 n1 ⟨q, rfl, hS, hB1, f1, hc1, hn1⟩
  have e0' := f1.1 _ _ e0 (by simp; exact xne e0 b1 (by decide))
  have e1' := f1.1 _ _ e1 (by simp; exact xne e1 b1 (by decide))
  refine x_astore_n (L' := [_, _, _, _, _, _]) d_MT_value_4 rfl rfl rfl ?_
  refine x_aload_n d_MT_value_5 rfl rfl ?_
  refine x_iload_n d_MT_value_6 rfl ?_
  refine x_callV (As := [_]) (k := k_MarkerText) rfl xcv_MT_93_MT (Or.inl e0') (c_nameAt0 e0' e1') rfl rfl (Nat.le_of_ble_eq_true rfl) d_MT_value_7 ?_
  rintro v h2 c2 n2 ⟨rfl, rfl, rfl, rfl⟩
  simp only [List.length_nil] at hn1
  refine x_astore_n (L' := [_, _, _, _, _, _]) d_MT_value_10 rfl rfl rfl ?_
  refine x_aload_n d_MT_value_11 rfl rfl ?_
  refine x_ifnonnullN d_MT_value_12 ?_
  refine x_throwS (k := k_IllegalArgumentException) (i := 13) (tx := "no such name") hG.1 htr xw_743 rfl (by decide +kernel) (by decide +kernel) (by decide) xnw_MT_76 xthr_MT_80 (by decide +kernel) (by omega) (Nat.le_of_ble_eq_true rfl) (by omega) (by omega) d_MT_value_15 d_MT_value_18 d_MT_value_19 d_MT_value_21 d_MT_value_24 (fun a hn_a hk_a => ?_)
  exact ⟨a, rfl, xup_self, ⟨[ta], f1.up (Or.inr (f1.2 _ hn_a)), xno1 b1 (by decide)⟩, by omega, by omega⟩
theorem c_give0 (hG : xGk G) (htr : l.stackTraces = false) (hd : 12 ≤ d) {x : Nat} {k : Int32} (hx : mt0 h x) (hc : c + 200 ≤ xCB) (hn : n + 3000 ≤ xSB) : XMT l G d M_MT_give [.ref x, .int k] h c n (pThr h c n) := by
  obtain ⟨d, rfl⟩ : ∃ q, d = q + 1 := ⟨d - 1, by omega⟩
  obtain ⟨ta, va, na, ca, ea, co, pa, e0, hB, e1, -⟩ := hx
  obtain ⟨z, bs, b1, b2, -⟩ := id hB
  refine XMT.of (by decide +kernel) (Nat.le_of_ble_eq_true rfl) ?_
  refine x_aload_n d_MT_give_0 rfl rfl ?_
  refine x_callV (As := []) (k := k_MarkerText) rfl xcv_MT_64_MT (Or.inl e0) (c_takeText (by omega) e0 hB (by omega) (by omega) (by simp; omega)) rfl rfl (Nat.le_of_ble_eq_true rfl) d_MT_give_1 ?_
  rintro v h1 c1 n1 ⟨q, rfl, hS, hB1, f1, hc1, hn1⟩
  have e0' := f1.1 _ _ e0 (by simp; exact xne e0 b1 (by decide))
  have e1' := f1.1 _ _ e1 (by simp; exact xne e1 b1 (by decide))
  refine x_astore_n (L' := [_, _, _, _, _, _]) d_MT_give_4 rfl rfl rfl ?_
  refine x_aload_n d_MT_give_5 rfl rfl ?_
  refine x_iload_n d_MT_give_6 rfl ?_
  refine x_callV (As := [_]) (k := k_MarkerText) rfl xcv_MT_93_MT (Or.inl e0') (c_nameAt0 e0' e1') rfl rfl (Nat.le_of_ble_eq_true rfl) d_MT_give_7 ?_
  rintro v h2 c2 n2 ⟨rfl, rfl, rfl, rfl⟩
  simp only [List.length_nil] at hn1
  refine x_astore_n (L' := [_, _, _, _, _, _]) d_MT_give_10 rfl rfl rfl ?_
  refine x_aload_n d_MT_give_11 rfl rfl ?_
  refine x_ifnonnullN d_MT_give_12 ?_
  refine x_throwS (k := k_IllegalArgumentException) (i := 13) (tx := "no such name") hG.1 htr xw_1162 rfl (by decide +kernel) (by decide +kernel) (by decide) xnw_MT_76 xthr_MT_80 (by decide +kernel) (by omega) (Nat.le_of_ble_eq_true rfl) (by omega) (by omega) d_MT_give_15 d_MT_give_18 d_MT_give_19 d_MT_give_21 d_MT_give_24 (fun a hn_a hk_a => ?_)
  exact ⟨a, rfl, xup_self, ⟨[ta], f1.up (Or.inr (f1.2 _ hn_a)), xno1 b1 (by decide)⟩, by omega, by omega⟩
theorem c_condition0 (hG : xGk G) (htr : l.stackTraces = false) (hd : 12 ≤ d) {x : Nat} (hx : mt0 h x) (hc : c + 200 ≤ xCB) (hn : n + 3000 ≤ xSB) : XMT l G d M_MT_condition [.ref x] h c n (pThr h c n) := by
  obtain ⟨d, rfl⟩ : ∃ q, d = q + 1 := ⟨d - 1, by omega⟩
  obtain ⟨ta, va, na, ca, ea, co, pa, e0, hB, e1, -⟩ := hx
  obtain ⟨z, bs, b1, b2, -⟩ := id hB
  refine XMT.of (by decide +kernel) (Nat.le_of_ble_eq_true rfl) ?_
  refine x_new xnw_MT_121 (by omega) (by omega) d_MT_condition_0 (fun r hn_r hk_r => ?_)
  refine x_dup d_MT_condition_3 rfl ?_
  refine x_aload_n d_MT_condition_4 rfl rfl ?_
  have fr : ∀ w, xfr h (xup h r w) [] := fun w => xfr.rf.up (Or.inr hn_r)
  refine x_callV (As := []) (k := k_MarkerText) rfl xcv_MT_64_MT (Or.inl (xup_old e0 hn_r)) (c_takeText (by omega) (xup_old e0 hn_r) (hB.fr (fr _) (by simp) (by simp)) (by omega) (by omega) (by simp; omega)) rfl rfl (Nat.le_of_ble_eq_true rfl) d_MT_condition_5 ?_
  rintro v h1 c1 n1 ⟨q, rfl, hS, hB1, f1, hc1, hn1⟩
  simp only [List.length_nil] at hn1
  have e0' := f1.1 _ _ (xup_old e0 hn_r) (by simp; exact xne e0 b1 (by decide))
  have e1' := f1.1 _ _ (xup_old e1 hn_r) (by simp; exact xne e1 b1 (by decide))
  have r1 := f1.1 _ _ xup_self (by simp; exact Ne.symm (xneN b1 hn_r))
  refine x_aload_n d_MT_condition_8 rfl rfl ?_
  refine x_get xf_MT_18_MT (Or.inl e0') rfl d_MT_condition_9 ?_
  refine x_callI (As := [_, _]) xci_MT_123 (c_Reader_init hG (by omega) r1 (by omega) (by omega)) rfl rfl (Nat.le_of_ble_eq_true rfl) d_MT_condition_12 ?_
  rintro v h2 c2 n2 ⟨rfl, ⟨la, ba, va2, r2, hL2, hB2⟩, f2, hc2, hn2⟩
  have e0'' := f2.1 _ _ e0' (by simp; exact xne e0' r1 (by decide))
  have e1'' := f2.1 _ _ e1' (by simp; exact xne e1' r1 (by decide))
  have S2 := hS.fr f2 (xno1 r1 (by decide))
  refine x_astore_n (L' := [_, _, _]) d_MT_condition_15 rfl rfl rfl ?_
  refine x_aload_n d_MT_condition_16 rfl rfl ?_
  refine x_callV (As := []) (k := k_Reader) rfl xcv_MT_126_Reader (Or.inl r2) (c_readWhole0 hG (by omega) r2 S2 e1'' (by omega) (by omega)) rfl rfl (Nat.le_of_ble_eq_true rfl) d_MT_condition_17 ?_
  rintro v h3 c3 n3 ⟨rfl, r3, f3, hc3, hn3⟩
  have e03 := f3.1 _ _ e0'' (by simp; exact xne e0'' r2 (by decide))
  refine x_astore_n (L' := [_, _, _]) d_MT_condition_20 rfl rfl rfl ?_
  refine x_aload_n d_MT_condition_21 rfl rfl ?_
  refine x_aload_n d_MT_condition_22 rfl rfl ?_
  refine x_ifnonnullN d_MT_condition_23 ?_
  refine x_aload_n d_MT_condition_26 rfl rfl ?_
  refine x_get xf_MT_130_Reader (Or.inl r3) rfl d_MT_condition_27 ?_
  refine x_goto (tgt := 34) d_MT_condition_30 (by decide) ?_
  refine x_put xf_MT_35_MT xp_MT_5 rfl rfl e03 rfl rfl d_MT_condition_34 ?_
  refine x_aload_n d_MT_condition_37 rfl rfl ?_
  refine x_ifnonnullN d_MT_condition_38 ?_
  have ff : ∀ w, xfr h (xup h3 x w) [ta, x] := fun w => (((((fr _).mono (by simp)).tr f1 (fun q _ hq => by simp at hq; simp [hq])).tr f2 (fun q hq hq2 => by rw [List.mem_singleton] at hq2; subst hq2; exact absurd hn_r hq)).tr f3 (fun q hq hq2 => by rw [List.mem_singleton] at hq2; subst hq2; exact absurd hn_r hq)).up (Or.inl (by simp))
  refine x_throwS (k := k_IllegalArgumentException) (i := 31) (tx := "the text is ill") hG.1 htr xw_822 rfl (by decide +kernel) (by decide +kernel) (by decide) xnw_MT_76 xthr_MT_80 (by decide +kernel) (by omega) (Nat.le_of_ble_eq_true rfl) (by omega) (by omega) d_MT_condition_41 d_MT_condition_44 d_MT_condition_45 d_MT_condition_47 d_MT_condition_50 (fun a hn_a hk_a => ?_)
  exact ⟨a, rfl, xup_self, ⟨[ta, x], (ff _).up (Or.inr ((ff _).2 _ hn_a)), xno2 b1 e0 (by decide) (by decide)⟩, by omega, by omega⟩
end P1E
end
section
/-! THE CLAIM OUT OF ONE WALK OF THE LAW'S BODY. Your part is whole_start (and what it stands on); all else here is the same for every law, but numbers. -/
def R_law : String := "MarkerTextLaw"
def lw_P (b : Addr) (xs : List Int32) (args : Array Value) (s : State) : Prop := args = #[.ref b] ∧ s.IntsAt b xs ∧ xs.length ≤ 3 ∧ (Jvm.Cond.and given_1 narrow_1).before args s = true
def lw_Q (_ : Array Value) (s : State) (o : Outcome) (t : State) : Prop := o = .returned (some (.int 1)) ∧ Framed s o t [] 600002 7302232
def lw_Z (below : List Frame) (a : Array Value) (s : State) : State → Prop := fun t => ∃ o, t.status = .running ∧ Ended t below o ∧ lw_Q a s o t
/-- the law's own end, with 1 on the stack, nothing written that was there before, its room as the claim has it -/
theorem lw_ret {p : Program} {l : Launch} {e : Env} {s : State} {m : MethodId} {below : List Frame} {meth : Method} {c : Code} {b : Nat} (hx : p.tables.exec = Jvm.exec) (hb : c.code = code) (hr : meth.sig.returnType = ret) (hlocks : meth.locks = false) {pc : Nat} {H : Heap} {ls : Array Slot} (hdg : decode code pc = .ok (.ireturn, 1)) : W p l e room_1 s m #[Value.ref b] below meth c H [] 600002 7302232 (lw_Z below #[Value.ref b] s) (F0 m pc ls [.int 1]) := by
  intro T hT X
  obtain ⟨fs, hret, hrun, hended, hW, hframe⟩ := X.leave (v := some (.int 1)) (hlocks := hlocks) (fun h => by rw [hr] at h; cases h)
  have hmeth' : T.vm.method? m = some meth := X.method'
  refine ⟨T.setFrames fs, ?_, .returned (some (.int 1)), hrun, hended, rfl, ⟨_, rfl⟩, hW, hframe⟩
  jvm_step X.here [X.here.top, hx, hb, hdg, hmeth', hr, ret, narrow_b1]
  (try refine ⟨rfl, ?_⟩); (try refine ⟨rfl, ?_⟩)
  first | (intro acts; rw [hret _ acts rfl rfl rfl]) | rw [hret _ _ rfl rfl rfl]
  exact Steps.refl _
/-- what holds at the law's entry: the machine, the code, the tables' words (any of lw_tbl by 'hts w (by decide +kernel)'), the script of L ints xs at the cell b, what the Statement gives of the start (any of its parts by flat_of_before) -/
def lw_At (p : Program) (s : State) (m : MethodId) (meth : Method) (c : Code) (b L : Nat) (xs : Nat → Int32) : Prop :=
  p.tables.exec = Jvm.exec ∧ c.code = code ∧ meth.sig.returnType = ret ∧ c.maxLocals = 7 ∧ s.vm.findClass R_law = some m.cls ∧ (∀ w ∈ lw_tbl, w.before #[Value.ref b] s = true) ∧ va_X b L xs s s.heap ∧ b < s.heap.size ∧ meth.locks = false ∧ (Jvm.Cond.and given_1 narrow_1).before #[Value.ref b] s = true
end
section
section
abbrev y_Law_name : MethodName := ⟨"MarkerTextLaw", "name", "(LMarkerText;I[J)I"⟩
abbrev M_Law_name : XMt := (y_Law_name, method_3_code, 4, (some .int))
theorem d_Law_name_0 : decode M_Law_name.2.1 0 = .ok (.aload_n 2, 1) := by decide +kernel
theorem d_Law_name_1 : decode M_Law_name.2.1 1 = .ok (.iconst 0, 1) := by decide +kernel
theorem d_Law_name_2 : decode M_Law_name.2.1 2 = .ok (.aload_n 0, 1) := by decide +kernel
theorem d_Law_name_3 : decode M_Law_name.2.1 3 = .ok (.iload_n 1, 1) := by decide +kernel
theorem d_Law_name_4 : decode M_Law_name.2.1 4 = .ok (.invokevirtual 7, 3) := by decide +kernel
theorem xcb_MT_name : xcb M_MT_name 1 := ⟨xw_456, xw_1, by decide, by decide, by decide, by decide +kernel⟩
theorem xw_454 : (Jvm.Cond.instanceMethod ({ cls := "MarkerText", name := "name", desc := "(I)I" } : Jvm.MethodName)) ∈ xT := xT_at 454 (by decide +kernel) (by decide +kernel)
theorem xw_453 : (Jvm.Cond.methodLink "MarkerTextLaw" (7 : Nat) ({ cls := "MarkerText", name := "name", desc := "(I)I" } : Jvm.MethodName)) ∈ xT := xT_at 453 (by decide +kernel) (by decide +kernel)
theorem xw_455 : (Jvm.Cond.selects "MarkerText" ({ cls := "MarkerText", name := "name", desc := "(I)I" } : Jvm.MethodName) ({ cls := "MarkerText", name := "name", desc := "(I)I" } : Jvm.MethodName)) ∈ xT := xT_at 455 (by decide +kernel) (by decide +kernel)
theorem xw_450 : (Jvm.Cond.codeWith ({ cls := "MarkerTextLaw", name := "name", desc := "(LMarkerText;I[J)I" } : Jvm.MethodName) method_3_code (4 : Nat) (Option.some Jvm.ClassFile.FieldType.int) [((0 : Nat), (9 : Nat), (12 : Nat), (13 : Nat)), ((0 : Nat), (9 : Nat), (15 : Nat), (15 : Nat))]) ∈ xT := xT_at 450 (by decide +kernel) (by decide +kernel)
theorem xw_451 : (Jvm.Cond.classLink "MarkerTextLaw" (13 : Nat) "java/lang/IllegalArgumentException") ∈ xT := xT_at 451 (by decide +kernel) (by decide +kernel)
theorem d_Law_name_12 : decode M_Law_name.2.1 12 = .ok (.astore_n 3, 1) := by decide +kernel
theorem d_Law_name_13 : decode M_Law_name.2.1 13 = .ok (.iconst 1, 1) := by decide +kernel
theorem d_Law_name_14 : decode M_Law_name.2.1 14 = .ok (.ireturn, 1) := by decide +kernel
abbrev y_Law_value : MethodName := ⟨"MarkerTextLaw", "value", "(LMarkerText;I[J)I"⟩
abbrev M_Law_value : XMt := (y_Law_value, method_4_code, 4, (some .int))
theorem d_Law_value_0 : decode M_Law_value.2.1 0 = .ok (.aload_n 2, 1) := by decide +kernel
theorem d_Law_value_1 : decode M_Law_value.2.1 1 = .ok (.iconst 0, 1) := by decide +kernel
theorem d_Law_value_2 : decode M_Law_value.2.1 2 = .ok (.aload_n 0, 1) := by decide +kernel
theorem d_Law_value_3 : decode M_Law_value.2.1 3 = .ok (.iload_n 1, 1) := by decide +kernel
theorem d_Law_value_4 : decode M_Law_value.2.1 4 = .ok (.invokevirtual 17, 3) := by decide +kernel
theorem xcb_MT_value : xcb M_MT_value 1 := ⟨xw_743, xw_1, by decide, by decide, by decide, by decide +kernel⟩
theorem xw_741 : (Jvm.Cond.instanceMethod ({ cls := "MarkerText", name := "value", desc := "(I)I" } : Jvm.MethodName)) ∈ xT := xT_at 741 (by decide +kernel) (by decide +kernel)
theorem xw_740 : (Jvm.Cond.methodLink "MarkerTextLaw" (17 : Nat) ({ cls := "MarkerText", name := "value", desc := "(I)I" } : Jvm.MethodName)) ∈ xT := xT_at 740 (by decide +kernel) (by decide +kernel)
theorem xw_742 : (Jvm.Cond.selects "MarkerText" ({ cls := "MarkerText", name := "value", desc := "(I)I" } : Jvm.MethodName) ({ cls := "MarkerText", name := "value", desc := "(I)I" } : Jvm.MethodName)) ∈ xT := xT_at 742 (by decide +kernel) (by decide +kernel)
theorem xw_739 : (Jvm.Cond.codeWith ({ cls := "MarkerTextLaw", name := "value", desc := "(LMarkerText;I[J)I" } : Jvm.MethodName) method_4_code (4 : Nat) (Option.some Jvm.ClassFile.FieldType.int) [((0 : Nat), (9 : Nat), (12 : Nat), (13 : Nat)), ((0 : Nat), (9 : Nat), (15 : Nat), (15 : Nat))]) ∈ xT := xT_at 739 (by decide +kernel) (by decide +kernel)
theorem d_Law_value_12 : decode M_Law_value.2.1 12 = .ok (.astore_n 3, 1) := by decide +kernel
theorem d_Law_value_13 : decode M_Law_value.2.1 13 = .ok (.iconst 1, 1) := by decide +kernel
theorem d_Law_value_14 : decode M_Law_value.2.1 14 = .ok (.ireturn, 1) := by decide +kernel
abbrev y_Law_condition : MethodName := ⟨"MarkerTextLaw", "condition", "(LMarkerText;[J)I"⟩
abbrev M_Law_condition : XMt := (y_Law_condition, method_5_code, 3, (some .int))
theorem d_Law_condition_0 : decode M_Law_condition.2.1 0 = .ok (.aload_n 1, 1) := by decide +kernel
theorem d_Law_condition_1 : decode M_Law_condition.2.1 1 = .ok (.iconst 0, 1) := by decide +kernel
theorem d_Law_condition_2 : decode M_Law_condition.2.1 2 = .ok (.aload_n 0, 1) := by decide +kernel
theorem d_Law_condition_3 : decode M_Law_condition.2.1 3 = .ok (.invokevirtual 20, 3) := by decide +kernel
theorem xcb_MT_condition : xcb M_MT_condition 0 := ⟨xw_822, xw_1, by decide, by decide, by decide, by decide +kernel⟩
theorem xw_820 : (Jvm.Cond.instanceMethod ({ cls := "MarkerText", name := "condition", desc := "()I" } : Jvm.MethodName)) ∈ xT := xT_at 820 (by decide +kernel) (by decide +kernel)
theorem xw_819 : (Jvm.Cond.methodLink "MarkerTextLaw" (20 : Nat) ({ cls := "MarkerText", name := "condition", desc := "()I" } : Jvm.MethodName)) ∈ xT := xT_at 819 (by decide +kernel) (by decide +kernel)
theorem xw_821 : (Jvm.Cond.selects "MarkerText" ({ cls := "MarkerText", name := "condition", desc := "()I" } : Jvm.MethodName) ({ cls := "MarkerText", name := "condition", desc := "()I" } : Jvm.MethodName)) ∈ xT := xT_at 821 (by decide +kernel) (by decide +kernel)
theorem xw_818 : (Jvm.Cond.codeWith ({ cls := "MarkerTextLaw", name := "condition", desc := "(LMarkerText;[J)I" } : Jvm.MethodName) method_5_code (3 : Nat) (Option.some Jvm.ClassFile.FieldType.int) [((0 : Nat), (8 : Nat), (11 : Nat), (13 : Nat)), ((0 : Nat), (8 : Nat), (14 : Nat), (15 : Nat))]) ∈ xT := xT_at 818 (by decide +kernel) (by decide +kernel)
theorem d_Law_condition_11 : decode M_Law_condition.2.1 11 = .ok (.astore_n 2, 1) := by decide +kernel
theorem d_Law_condition_12 : decode M_Law_condition.2.1 12 = .ok (.iconst 1, 1) := by decide +kernel
theorem d_Law_condition_13 : decode M_Law_condition.2.1 13 = .ok (.ireturn, 1) := by decide +kernel
abbrev y_Law_give : MethodName := ⟨"MarkerTextLaw", "give", "(LMarkerText;I)I"⟩
abbrev M_Law_give : XMt := (y_Law_give, method_6_code, 3, (some .int))
theorem d_Law_give_0 : decode M_Law_give.2.1 0 = .ok (.aload_n 0, 1) := by decide +kernel
theorem d_Law_give_1 : decode M_Law_give.2.1 1 = .ok (.iload_n 1, 1) := by decide +kernel
theorem d_Law_give_2 : decode M_Law_give.2.1 2 = .ok (.invokevirtual 24, 3) := by decide +kernel
theorem xcb_MT_give : xcb M_MT_give 1 := ⟨xw_1162, xw_1, by decide, by decide, by decide, by decide +kernel⟩
theorem xw_1160 : (Jvm.Cond.instanceMethod ({ cls := "MarkerText", name := "give", desc := "(I)V" } : Jvm.MethodName)) ∈ xT := xT_at 1160 (by decide +kernel) (by decide +kernel)
theorem xw_1159 : (Jvm.Cond.methodLink "MarkerTextLaw" (24 : Nat) ({ cls := "MarkerText", name := "give", desc := "(I)V" } : Jvm.MethodName)) ∈ xT := xT_at 1159 (by decide +kernel) (by decide +kernel)
theorem xw_1161 : (Jvm.Cond.selects "MarkerText" ({ cls := "MarkerText", name := "give", desc := "(I)V" } : Jvm.MethodName) ({ cls := "MarkerText", name := "give", desc := "(I)V" } : Jvm.MethodName)) ∈ xT := xT_at 1161 (by decide +kernel) (by decide +kernel)
theorem xw_1158 : (Jvm.Cond.codeWith ({ cls := "MarkerTextLaw", name := "give", desc := "(LMarkerText;I)I" } : Jvm.MethodName) method_6_code (3 : Nat) (Option.some Jvm.ClassFile.FieldType.int) [((0 : Nat), (5 : Nat), (8 : Nat), (13 : Nat))]) ∈ xT := xT_at 1158 (by decide +kernel) (by decide +kernel)
theorem d_Law_give_8 : decode M_Law_give.2.1 8 = .ok (.astore_n 2, 1) := by decide +kernel
theorem d_Law_give_9 : decode M_Law_give.2.1 9 = .ok (.iconst 1, 1) := by decide +kernel
theorem d_Law_give_10 : decode M_Law_give.2.1 10 = .ok (.ireturn, 1) := by decide +kernel
end
section LAWA
variable {l : Launch} {G : XG} {h : XH} {c n d : Nat}
theorem c_Lname0 (hG : xGk G) (htr : l.stackTraces = false) (hd : 13 ≤ d) {x o : Nat} {k : Int32} (hx : mt0 h x) (hc : c + 200 ≤ xCB) (hn : n + 3000 ≤ xSB) : XMW l G d M_Law_name [((0 : Nat), (9 : Nat), (12 : Nat), (13 : Nat)), ((0 : Nat), (9 : Nat), (15 : Nat), (15 : Nat))] [.ref x, .int k, .ref o] h c n (pA (some (.int 1)) h c n) := by
  obtain ⟨d, rfl⟩ : ∃ q, d = q + 1 := ⟨d - 1, by omega⟩
  obtain ⟨ta, va, na, ca, ea, co, pa, e0, -⟩ := id hx
  refine XMW.of (by decide +kernel) (Nat.le_of_ble_eq_true rfl) ?_
  refine x_aload_n d_Law_name_0 rfl rfl ?_
  refine x_iconst (v := 0) d_Law_name_1 (by decide) ?_
  refine x_aload_n d_Law_name_2 rfl rfl ?_
  refine x_iload_n d_Law_name_3 rfl ?_
  refine x_callVT (As := [_]) (kE := k_IllegalArgumentException) (k := k_MarkerText) rfl xcb_MT_name xw_454 xw_453 xw_455 xw_450 ⟨by decide, by decide⟩ (by decide) rfl xw_451 (Or.inl e0) (c_name0 hG htr (by omega) hx hc hn) rfl rfl (Nat.le_of_ble_eq_true rfl) d_Law_name_4 ?_ ?_
  · rintro v h1 c1 n1 ⟨a, rfl, -⟩ hne
    exact absurd rfl (hne a)
  · rintro a h1 c1 n1 ⟨a', e, ha, hap, hc1, hn1⟩
    cases e
    refine ⟨⟨_, ha⟩, ?_⟩
    refine x_astore_n (L' := [_, _, _, _]) d_Law_name_12 rfl rfl rfl ?_
    refine x_iconst (v := 1) d_Law_name_13 (by decide) ?_
    refine x_iret d_Law_name_14 rfl ?_
    exact ⟨rfl, hap, hc1, hn1⟩
theorem c_Lvalue0 (hG : xGk G) (htr : l.stackTraces = false) (hd : 13 ≤ d) {x o : Nat} {k : Int32} (hx : mt0 h x) (hc : c + 200 ≤ xCB) (hn : n + 3000 ≤ xSB) : XMW l G d M_Law_value [((0 : Nat), (9 : Nat), (12 : Nat), (13 : Nat)), ((0 : Nat), (9 : Nat), (15 : Nat), (15 : Nat))] [.ref x, .int k, .ref o] h c n (pA (some (.int 1)) h c n) := by
  obtain ⟨d, rfl⟩ : ∃ q, d = q + 1 := ⟨d - 1, by omega⟩
  obtain ⟨ta, va, na, ca, ea, co, pa, e0, -⟩ := id hx
  refine XMW.of (by decide +kernel) (Nat.le_of_ble_eq_true rfl) ?_
  refine x_aload_n d_Law_value_0 rfl rfl ?_
  refine x_iconst (v := 0) d_Law_value_1 (by decide) ?_
  refine x_aload_n d_Law_value_2 rfl rfl ?_
  refine x_iload_n d_Law_value_3 rfl ?_
  refine x_callVT (As := [_]) (kE := k_IllegalArgumentException) (k := k_MarkerText) rfl xcb_MT_value xw_741 xw_740 xw_742 xw_739 ⟨by decide, by decide⟩ (by decide) rfl xw_451 (Or.inl e0) (c_value0 hG htr (by omega) hx hc hn) rfl rfl (Nat.le_of_ble_eq_true rfl) d_Law_value_4 ?_ ?_
  · rintro v h1 c1 n1 ⟨a, rfl, -⟩ hne
    exact absurd rfl (hne a)
  · rintro a h1 c1 n1 ⟨a', e, ha, hap, hc1, hn1⟩
    cases e
    refine ⟨⟨_, ha⟩, ?_⟩
    refine x_astore_n (L' := [_, _, _, _]) d_Law_value_12 rfl rfl rfl ?_
    refine x_iconst (v := 1) d_Law_value_13 (by decide) ?_
    refine x_iret d_Law_value_14 rfl ?_
    exact ⟨rfl, hap, hc1, hn1⟩
theorem c_Lcondition0 (hG : xGk G) (htr : l.stackTraces = false) (hd : 13 ≤ d) {x o : Nat} (hx : mt0 h x) (hc : c + 200 ≤ xCB) (hn : n + 3000 ≤ xSB) : XMW l G d M_Law_condition [((0 : Nat), (8 : Nat), (11 : Nat), (13 : Nat)), ((0 : Nat), (8 : Nat), (14 : Nat), (15 : Nat))] [.ref x, .ref o] h c n (pA (some (.int 1)) h c n) := by
  obtain ⟨d, rfl⟩ : ∃ q, d = q + 1 := ⟨d - 1, by omega⟩
  obtain ⟨ta, va, na, ca, ea, co, pa, e0, -⟩ := id hx
  refine XMW.of (by decide +kernel) (Nat.le_of_ble_eq_true rfl) ?_
  refine x_aload_n d_Law_condition_0 rfl rfl ?_
  refine x_iconst (v := 0) d_Law_condition_1 (by decide) ?_
  refine x_aload_n d_Law_condition_2 rfl rfl ?_
  refine x_callVT (As := []) (kE := k_IllegalArgumentException) (k := k_MarkerText) rfl xcb_MT_condition xw_820 xw_819 xw_821 xw_818 ⟨by decide, by decide⟩ (by decide) rfl xw_451 (Or.inl e0) (c_condition0 hG htr (by omega) hx hc hn) rfl rfl (Nat.le_of_ble_eq_true rfl) d_Law_condition_3 ?_ ?_
  · rintro v h1 c1 n1 ⟨a, rfl, -⟩ hne
    exact absurd rfl (hne a)
  · rintro a h1 c1 n1 ⟨a', e, ha, hap, hc1, hn1⟩
    cases e
    refine ⟨⟨_, ha⟩, ?_⟩
    refine x_astore_n (L' := [_, _, _]) d_Law_condition_11 rfl rfl rfl ?_
    refine x_iconst (v := 1) d_Law_condition_12 (by decide) ?_
    refine x_iret d_Law_condition_13 rfl ?_
    exact ⟨rfl, hap, hc1, hn1⟩
theorem c_Lgive0 (hG : xGk G) (htr : l.stackTraces = false) (hd : 13 ≤ d) {x : Nat} {k : Int32} (hx : mt0 h x) (hc : c + 200 ≤ xCB) (hn : n + 3000 ≤ xSB) : XMW l G d M_Law_give [((0 : Nat), (5 : Nat), (8 : Nat), (13 : Nat))] [.ref x, .int k] h c n (pA (some (.int 1)) h c n) := by
  obtain ⟨d, rfl⟩ : ∃ q, d = q + 1 := ⟨d - 1, by omega⟩
  obtain ⟨ta, va, na, ca, ea, co, pa, e0, -⟩ := id hx
  refine XMW.of (by decide +kernel) (Nat.le_of_ble_eq_true rfl) ?_
  refine x_aload_n d_Law_give_0 rfl rfl ?_
  refine x_iload_n d_Law_give_1 rfl ?_
  refine x_callVT (As := [_]) (kE := k_IllegalArgumentException) (k := k_MarkerText) rfl xcb_MT_give xw_1160 xw_1159 xw_1161 xw_1158 ⟨by decide, by decide⟩ (by decide) rfl xw_451 (Or.inl e0) (c_give0 hG htr (by omega) hx hc hn) rfl rfl (Nat.le_of_ble_eq_true rfl) d_Law_give_2 ?_ ?_
  · rintro v h1 c1 n1 ⟨a, rfl, -⟩ hne
    exact absurd rfl (hne a)
  · rintro a h1 c1 n1 ⟨a', e, ha, hap, hc1, hn1⟩
    cases e
    refine ⟨⟨_, ha⟩, ?_⟩
    refine x_astore_n (L' := [_, _, _]) d_Law_give_8 rfl rfl rfl ?_
    refine x_iconst (v := 1) d_Law_give_9 (by decide) ?_
    refine x_iret d_Law_give_10 rfl ?_
    exact ⟨rfl, hap, hc1, hn1⟩
end LAWA
end
section
section
theorem xw_35 : (Jvm.Cond.instantiable "MarkerText" (9 : Nat)) ∈ xT := xT_at 35 (by decide +kernel) (by decide +kernel)
theorem xw_699 : (Jvm.Cond.instantiable "java/lang/IllegalStateException" (6 : Nat)) ∈ xT := xT_at 699 (by decide +kernel) (by decide +kernel)
theorem xw_714 : (Jvm.Cond.instantiable "MarkerText$Name" (4 : Nat)) ∈ xT := xT_at 714 (by decide +kernel) (by decide +kernel)
theorem xw_937 : (Jvm.Cond.instantiable "MarkerText$Negation" (2 : Nat)) ∈ xT := xT_at 937 (by decide +kernel) (by decide +kernel)
theorem xw_964 : (Jvm.Cond.instantiable "MarkerText$Constant" (2 : Nat)) ∈ xT := xT_at 964 (by decide +kernel) (by decide +kernel)
theorem xw_1013 : (Jvm.Cond.instantiable "MarkerText$Test" (5 : Nat)) ∈ xT := xT_at 1013 (by decide +kernel) (by decide +kernel)
theorem xw_1086 : (Jvm.Cond.instantiable "MarkerText$Join" (3 : Nat)) ∈ xT := xT_at 1086 (by decide +kernel) (by decide +kernel)
theorem xw_1135 : (Jvm.Cond.instantiable "MarkerText$Condition" (3 : Nat)) ∈ xT := xT_at 1135 (by decide +kernel) (by decide +kernel)
theorem xw_1165 : (Jvm.Cond.instantiable "MarkerTextModel" (52 : Nat)) ∈ xT := xT_at 1165 (by decide +kernel) (by decide +kernel)
theorem xw_1327 : (Jvm.Cond.arrayClass Jvm.ClassFile.FieldType.boolean) ∈ xT := xT_at 1327 (by decide +kernel) (by decide +kernel)
end
section START
abbrev gvN : Jvm.Cond := Jvm.Cond.and given_1 narrow_1
theorem st_T {args : Array Value} {s : State} (hts : ∀ w ∈ lw_tbl, w.before args s = true) : ∀ w ∈ xT, w.before args s = true := by
  intro w hw
  rcases List.mem_append.mp (List.mem_filter.mp hw).1 with h | h
  · exact xpsel_ok (fun w hw => hts w (List.mem_append_right _ hw)) w h
  · exact hts w h
/-- by which word a kind is known -/
def xkW (e : vw_C ⊕ FieldType) : Prop := match e with
  | .inl q => ∃ n, Cond.instantiable q.1 n ∈ xT
  | .inr ty => (∃ C, ty = .object C ∧ Cond.arrayOver (.object C) ∈ xT) ∨ ((∀ C, ty ≠ .object C) ∧ Cond.arrayClass ty ∈ xT)
theorem xk_w : ∀ e ∈ xk, xkW e := List.forall_mem_cons.mpr ⟨⟨_, xw_35⟩, List.forall_mem_cons.mpr ⟨⟨_, xw_43⟩, List.forall_mem_cons.mpr ⟨⟨_, xw_80⟩, List.forall_mem_cons.mpr ⟨⟨_, xw_113⟩, List.forall_mem_cons.mpr ⟨⟨_, xw_466⟩, List.forall_mem_cons.mpr ⟨⟨_, xw_491⟩, List.forall_mem_cons.mpr ⟨⟨_, xw_699⟩, List.forall_mem_cons.mpr ⟨⟨_, xw_714⟩, List.forall_mem_cons.mpr ⟨⟨_, xw_824⟩, List.forall_mem_cons.mpr ⟨⟨_, xw_830⟩, List.forall_mem_cons.mpr ⟨⟨_, xw_937⟩, List.forall_mem_cons.mpr ⟨⟨_, xw_964⟩, List.forall_mem_cons.mpr ⟨⟨_, xw_1013⟩, List.forall_mem_cons.mpr ⟨⟨_, xw_1086⟩, List.forall_mem_cons.mpr ⟨⟨_, xw_1135⟩, List.forall_mem_cons.mpr ⟨⟨_, xw_1165⟩, List.forall_mem_cons.mpr ⟨Or.inr ⟨(fun _ hz => by cases hz), xw_74⟩, List.forall_mem_cons.mpr ⟨Or.inr ⟨(fun _ hz => by cases hz), xw_111⟩, List.forall_mem_cons.mpr ⟨Or.inr ⟨(fun _ hz => by cases hz), xw_110⟩, List.forall_mem_cons.mpr ⟨Or.inr ⟨(fun _ hz => by cases hz), xw_1327⟩, List.forall_mem_cons.mpr ⟨Or.inl ⟨_, rfl, xw_76⟩, List.forall_mem_cons.mpr ⟨Or.inl ⟨_, rfl, xw_78⟩, List.forall_mem_cons.mpr ⟨Or.inl ⟨_, rfl, xw_1079⟩, List.forall_mem_cons.mpr ⟨Or.inr ⟨(fun _ hz => by cases hz), xw_74⟩, List.forall_mem_cons.mpr ⟨Or.inr ⟨(fun _ hz => by cases hz), xw_110⟩, List.forall_mem_cons.mpr ⟨Or.inr ⟨(fun _ hz => by cases hz), xw_110⟩, List.forall_mem_cons.mpr ⟨Or.inr ⟨(fun _ hz => by cases hz), xw_110⟩, List.forall_mem_cons.mpr ⟨Or.inr ⟨(fun _ hz => by cases hz), xw_110⟩, List.forall_mem_cons.mpr ⟨Or.inr ⟨(fun _ hz => by cases hz), xw_110⟩, List.forall_mem_cons.mpr ⟨Or.inr ⟨(fun _ hz => by cases hz), xw_111⟩, List.forall_mem_cons.mpr ⟨Or.inr ⟨(fun _ hz => by cases hz), xw_111⟩, List.forall_mem_cons.mpr ⟨Or.inr ⟨(fun _ hz => by cases hz), xw_111⟩, List.forall_mem_cons.mpr ⟨Or.inr ⟨(fun _ hz => by cases hz), xw_111⟩, List.forall_mem_cons.mpr ⟨Or.inr ⟨(fun _ hz => by cases hz), xw_111⟩, List.forall_mem_cons.mpr ⟨Or.inr ⟨(fun _ hz => by cases hz), xw_111⟩, List.forall_mem_cons.mpr ⟨Or.inr ⟨(fun _ hz => by cases hz), xw_111⟩, List.forall_mem_cons.mpr ⟨Or.inr ⟨(fun _ hz => by cases hz), xw_111⟩, fun _ hz => by cases hz⟩⟩⟩⟩⟩⟩⟩⟩⟩⟩⟩⟩⟩⟩⟩⟩⟩⟩⟩⟩⟩⟩⟩⟩⟩⟩⟩⟩⟩⟩⟩⟩⟩⟩⟩⟩⟩
theorem st_known {args : Array Value} {s : State} (hT : ∀ w ∈ xT, w.before args s = true) : ∃ D : va_G, xK D s := by
  have h0 : ∀ k : Nat, ∃ q : ClassId × (Nat → Nat), ∀ r, xk[k]? = some r → match r with
      | .inl z => u_Kn s z.1 z.2.1 z.2.2 q.1 q.2
      | .inr ty => ArrOfT s q.1 ty ∧ va_RA s q.1 ty ∧ ∀ j : Nat, q.2 j = j := by
    intro k
    cases hk : xk[k]? with
    | none => exact ⟨(0, id), fun r hr => by cases hr⟩
    | some r =>
      have hw := xk_w r (List.mem_of_getElem? hk)
      cases r with
      | inl q =>
        obtain ⟨C, T, N⟩ := q
        obtain ⟨n, hn⟩ := hw
        obtain ⟨cC, iS, hu⟩ := u_known (ws := xT) hT (xk_lay hk) (hT _ hn)
        exact ⟨(cC, iS), fun r hr => by cases hr; exact hu⟩
      | inr ty =>
        rcases hw with ⟨C, rfl, hw⟩ | ⟨hno, hw⟩
        · obtain ⟨comp, c, k, f1, f2, f3, f4, f5⟩ := Cond.arrayOver_spec (hT _ hw)
          exact ⟨(c, id), fun r hr => by cases hr; exact ⟨fun n z => ⟨fun k h => (by cases h), k, f3, comp, f4⟩, ⟨k, comp, f3, f4, f1, f5⟩, fun j => rfl⟩⟩
        · obtain ⟨c, k, comp, f1, f2, f3⟩ := Cond.arrayClass_spec (hT _ hw)
          have hra : va_RA s c ty := by
            revert hno f1
            clear hw f3 hk
            intro hno f1
            cases ty <;> first | exact f1 | exact absurd rfl (hno _)
          exact ⟨(c, id), fun r hr => by cases hr; exact ⟨fun n z => ⟨fun k h => (by cases h), k, f2, comp, f3⟩, hra, fun j => rfl⟩⟩
  obtain ⟨f, hf⟩ := Classical.axiomOfChoice h0
  exact ⟨(fun k => (f k).1, fun k => (f k).2), fun k r hr => hf k r hr⟩
/-- what is given of a String constant -/
def sCds (own : String) (idx : Nat) (cs : List Nat) : List Jvm.Cond := [.exactly (.string own idx) "java/lang/String", .eq (.field (.string own idx) "java/lang/String" "coder" "B") (.int 0), .arrayOf (.field (.string own idx) "java/lang/String" "value" "[B") .byte, .eq (.length (.field (.string own idx) "java/lang/String" "value" "[B")) (.int (Int32.ofNat cs.length))] ++ (List.range cs.length).map (fun j => .eq (.elem (.field (.string own idx) "java/lang/String" "value" "[B") (.int (Int32.ofNat j))) (.int (Int32.ofNat (cs.getD j 0))))
theorem st_mem {own : String} {idx : Nat} {cs ps : List Nat} (h : (sCds own idx cs).map some = ps.map (fun i => (flatC gvN)[i]?)) : ∀ w ∈ sCds own idx cs, w ∈ flatC gvN := by
  intro w hw
  have h1 : some w ∈ ps.map (fun i => (flatC gvN)[i]?) := by rw [← h]; exact List.mem_map.mpr ⟨w, hw, rfl⟩
  obtain ⟨i, -, hi⟩ := List.mem_map.mp h1
  exact List.mem_of_getElem? hi
theorem st_s0 : (sCds "java/util/Arrays" 337 (xtx 0)).map some = ([268, 269, 270, 271, 272, 273, 274] : List Nat).map (fun i => (flatC gvN)[i]?) := by decide +kernel
theorem st_s1 : (sCds "java/util/Arrays" 48 (xtx 1)).map some = ([275, 276, 277, 278, 279, 280, 281, 282, 283, 284, 285, 286, 287, 288] : List Nat).map (fun i => (flatC gvN)[i]?) := by decide +kernel
theorem st_s2 : (sCds "java/util/Arrays" 57 (xtx 2)).map some = ([289, 290, 291, 292, 293, 294, 295, 296, 297, 298, 299, 300, 301, 302, 303, 304] : List Nat).map (fun i => (flatC gvN)[i]?) := by decide +kernel
theorem st_s3 : (sCds "java/util/Arrays" 59 (xtx 3)).map some = ([305, 306, 307, 308, 309] : List Nat).map (fun i => (flatC gvN)[i]?) := by decide +kernel
theorem st_s4 : (sCds "MarkerText" 216 (xtx 4)).map some = ([310, 311, 312, 313, 314, 315] : List Nat).map (fun i => (flatC gvN)[i]?) := by decide +kernel
theorem st_s5 : (sCds "MarkerText" 222 (xtx 5)).map some = ([316, 317, 318, 319, 320, 321, 322] : List Nat).map (fun i => (flatC gvN)[i]?) := by decide +kernel
theorem st_s6 : (sCds "MarkerText" 224 (xtx 6)).map some = ([323, 324, 325, 326, 327, 328, 329] : List Nat).map (fun i => (flatC gvN)[i]?) := by decide +kernel
theorem st_s7 : (sCds "MarkerText" 226 (xtx 7)).map some = ([330, 331, 332, 333, 334, 335] : List Nat).map (fun i => (flatC gvN)[i]?) := by decide +kernel
theorem st_s8 : (sCds "MarkerText" 228 (xtx 8)).map some = ([336, 337, 338, 339, 340, 341, 342, 343] : List Nat).map (fun i => (flatC gvN)[i]?) := by decide +kernel
theorem st_s9 : (sCds "MarkerText" 230 (xtx 9)).map some = ([344, 345, 346, 347, 348, 349, 350, 351, 352] : List Nat).map (fun i => (flatC gvN)[i]?) := by decide +kernel
theorem st_s10 : (sCds "MarkerText" 78 (xtx 10)).map some = ([353, 354, 355, 356, 357, 358, 359, 360, 361, 362, 363, 364, 365, 366, 367] : List Nat).map (fun i => (flatC gvN)[i]?) := by decide +kernel
theorem st_s11 : (sCds "MarkerText" 83 (xtx 11)).map some = ([368, 369, 370, 371, 372, 373, 374, 375, 376, 377, 378, 379, 380, 381, 382, 383] : List Nat).map (fun i => (flatC gvN)[i]?) := by decide +kernel
theorem st_s12 : (sCds "MarkerText" 87 (xtx 12)).map some = ([384, 385, 386, 387, 388, 389, 390, 391, 392, 393, 394, 395, 396, 397, 398, 399, 400, 401] : List Nat).map (fun i => (flatC gvN)[i]?) := by decide +kernel
theorem st_s13 : (sCds "MarkerText" 97 (xtx 13)).map some = ([402, 403, 404, 405, 406, 407, 408, 409, 410, 411, 412, 413, 414, 415, 416, 417] : List Nat).map (fun i => (flatC gvN)[i]?) := by decide +kernel
theorem st_s14 : (sCds "MarkerText$Name" 33 (xtx 14)).map some = ([418, 419, 420, 421, 422, 423, 424, 425, 426, 427, 428, 429, 430, 431, 432, 433, 434, 435, 436, 437, 438, 439, 440, 441, 442, 443, 444, 445, 446, 447, 448, 449, 450, 451, 452, 453, 454, 455, 456, 457, 458] : List Nat).map (fun i => (flatC gvN)[i]?) := by decide +kernel
theorem st_s15 : (sCds "MarkerText" 110 (xtx 15)).map some = ([459, 460, 461, 462, 463, 464, 465, 466, 467, 468, 469, 470, 471, 472, 473, 474, 475, 476, 477, 478, 479, 480, 481, 482, 483, 484, 485, 486, 487, 488, 489, 490, 491, 492, 493] : List Nat).map (fun i => (flatC gvN)[i]?) := by decide +kernel
theorem st_s16 : (sCds "MarkerText" 115 (xtx 16)).map some = ([494, 495, 496, 497, 498, 499, 500, 501, 502, 503, 504, 505, 506, 507, 508, 509, 510, 511, 512, 513, 514, 515, 516, 517, 518] : List Nat).map (fun i => (flatC gvN)[i]?) := by decide +kernel
theorem st_s17 : (sCds "java/lang/StringLatin1" 151 (xtx 17)).map some = ([519, 520, 521, 522] : List Nat).map (fun i => (flatC gvN)[i]?) := by decide +kernel
theorem st_s18 : (sCds "java/lang/StringUTF16" 295 (xtx 18)).map some = ([523, 524, 525, 526] : List Nat).map (fun i => (flatC gvN)[i]?) := by decide +kernel
theorem st_s19 : (sCds "MarkerText$Reader" 95 (xtx 19)).map some = ([528, 529, 530, 531, 532, 533, 534] : List Nat).map (fun i => (flatC gvN)[i]?) := by decide +kernel
theorem st_s20 : (sCds "MarkerText$Reader" 109 (xtx 20)).map some = ([536, 537, 538, 539, 540, 541, 542, 543] : List Nat).map (fun i => (flatC gvN)[i]?) := by decide +kernel
theorem st_s21 : (sCds "MarkerText$Reader" 111 (xtx 21)).map some = ([545, 546, 547, 548, 549, 550, 551, 552, 553] : List Nat).map (fun i => (flatC gvN)[i]?) := by decide +kernel
theorem st_s22 : (sCds "MarkerText$Reader" 146 (xtx 22)).map some = ([555, 556, 557, 558, 559, 560] : List Nat).map (fun i => (flatC gvN)[i]?) := by decide +kernel
theorem st_s23 : (sCds "MarkerText$Reader" 176 (xtx 23)).map some = ([562, 563, 564, 565, 566, 567] : List Nat).map (fun i => (flatC gvN)[i]?) := by decide +kernel
theorem st_s24 : (sCds "MarkerText$Reader" 79 (xtx 24)).map some = ([568, 569, 570, 571, 572, 573] : List Nat).map (fun i => (flatC gvN)[i]?) := by decide +kernel
theorem st_s25 : (sCds "MarkerText$Reader" 81 (xtx 25)).map some = ([575, 576, 577, 578, 579, 580, 581] : List Nat).map (fun i => (flatC gvN)[i]?) := by decide +kernel
theorem st_s26 : (sCds "MarkerText$Constant" 13 (xtx 26)).map some = ([583, 584, 585, 586, 587, 588, 589, 590] : List Nat).map (fun i => (flatC gvN)[i]?) := by decide +kernel
theorem st_s27 : (sCds "MarkerText$Constant" 15 (xtx 27)).map some = ([593, 594, 595, 596, 597, 598, 599, 600, 601] : List Nat).map (fun i => (flatC gvN)[i]?) := by decide +kernel
theorem st_s28 : (sCds "MarkerText$Negation" 17 (xtx 28)).map some = ([604, 605, 606, 607, 608, 609, 610, 611] : List Nat).map (fun i => (flatC gvN)[i]?) := by decide +kernel
theorem st_s29 : (sCds "MarkerText$Join" 29 (xtx 29)).map some = ([612, 613, 614, 615, 616, 617, 618, 619] : List Nat).map (fun i => (flatC gvN)[i]?) := by decide +kernel
theorem st_s30 : (sCds "MarkerText$Join" 31 (xtx 30)).map some = ([620, 621, 622, 623, 624, 625, 626, 627, 628] : List Nat).map (fun i => (flatC gvN)[i]?) := by decide +kernel
theorem st_s31 : (sCds "MarkerText" 133 (xtx 31)).map some = ([629, 630, 631, 632, 633, 634, 635, 636, 637, 638, 639, 640, 641, 642, 643, 644, 645, 646, 647] : List Nat).map (fun i => (flatC gvN)[i]?) := by decide +kernel
theorem st_s32 : (sCds "MarkerText" 135 (xtx 32)).map some = ([648, 649, 650, 651, 652, 653, 654, 655, 656, 657, 658, 659, 660, 661, 662, 663, 664, 665, 666, 667, 668, 669, 670] : List Nat).map (fun i => (flatC gvN)[i]?) := by decide +kernel
theorem st_s33 : (sCds "MarkerText" 141 (xtx 33)).map some = ([671, 672, 673, 674, 675, 676, 677, 678, 679, 680, 681, 682, 683, 684, 685, 686, 687, 688, 689, 690, 691, 692, 693, 694, 695, 696, 697, 698, 699, 700, 701] : List Nat).map (fun i => (flatC gvN)[i]?) := by decide +kernel
theorem st_all : ∀ q ∈ xStr, ∀ w ∈ sCds q.1 q.2.1 (xtx q.2.2.2), w ∈ flatC gvN := List.forall_mem_cons.mpr ⟨st_mem st_s0, List.forall_mem_cons.mpr ⟨st_mem st_s1, List.forall_mem_cons.mpr ⟨st_mem st_s2, List.forall_mem_cons.mpr ⟨st_mem st_s3, List.forall_mem_cons.mpr ⟨st_mem st_s4, List.forall_mem_cons.mpr ⟨st_mem st_s5, List.forall_mem_cons.mpr ⟨st_mem st_s6, List.forall_mem_cons.mpr ⟨st_mem st_s7, List.forall_mem_cons.mpr ⟨st_mem st_s8, List.forall_mem_cons.mpr ⟨st_mem st_s9, List.forall_mem_cons.mpr ⟨st_mem st_s10, List.forall_mem_cons.mpr ⟨st_mem st_s11, List.forall_mem_cons.mpr ⟨st_mem st_s12, List.forall_mem_cons.mpr ⟨st_mem st_s13, List.forall_mem_cons.mpr ⟨st_mem st_s14, List.forall_mem_cons.mpr ⟨st_mem st_s15, List.forall_mem_cons.mpr ⟨st_mem st_s16, List.forall_mem_cons.mpr ⟨st_mem st_s17, List.forall_mem_cons.mpr ⟨st_mem st_s18, List.forall_mem_cons.mpr ⟨st_mem st_s19, List.forall_mem_cons.mpr ⟨st_mem st_s20, List.forall_mem_cons.mpr ⟨st_mem st_s21, List.forall_mem_cons.mpr ⟨st_mem st_s22, List.forall_mem_cons.mpr ⟨st_mem st_s23, List.forall_mem_cons.mpr ⟨st_mem st_s24, List.forall_mem_cons.mpr ⟨st_mem st_s25, List.forall_mem_cons.mpr ⟨st_mem st_s26, List.forall_mem_cons.mpr ⟨st_mem st_s27, List.forall_mem_cons.mpr ⟨st_mem st_s28, List.forall_mem_cons.mpr ⟨st_mem st_s29, List.forall_mem_cons.mpr ⟨st_mem st_s30, List.forall_mem_cons.mpr ⟨st_mem st_s31, List.forall_mem_cons.mpr ⟨st_mem st_s32, List.forall_mem_cons.mpr ⟨st_mem st_s33, fun _ hz => by cases hz⟩⟩⟩⟩⟩⟩⟩⟩⟩⟩⟩⟩⟩⟩⟩⟩⟩⟩⟩⟩⟩⟩⟩⟩⟩⟩⟩⟩⟩⟩⟩⟩⟩⟩
theorem st_refs : xStr.map (fun q => some (Cond.stringRef q.1 q.2.1 q.2.2.1)) = ([566, 660, 661, 662, 677, 686, 687, 688, 689, 690, 695, 697, 707, 744, 758, 810, 811, 911, 920, 926, 960, 961, 981, 1007, 1083, 1084, 1105, 1106, 1123, 1129, 1130, 1154, 1155, 1163] : List Nat).map (fun i => tables_1[i]?) := by decide +kernel
theorem st_ref : ∀ q ∈ xStr, Cond.stringRef q.1 q.2.1 q.2.2.1 ∈ lw_tbl := by
  intro q hq
  have h1 : some (Cond.stringRef q.1 q.2.1 q.2.2.1) ∈ xStr.map (fun q => some (Cond.stringRef q.1 q.2.1 q.2.2.1)) := List.mem_map.mpr ⟨q, hq, rfl⟩
  rw [st_refs] at h1
  obtain ⟨i, -, hi⟩ := List.mem_map.mp h1
  exact List.mem_append_right _ (List.mem_of_getElem? hi)
theorem st_ix : ∀ i, i < xnstr → (xStr[i]?).map (fun q => q.2.2.2) = some i := by decide +kernel
theorem st_ix2 : ∀ q ∈ xStr, q.2.2.2 < xnstr ∧ xStr[q.2.2.2]? = some q := by decide +kernel
theorem st_len : ∀ i, i < xnstr → (xtx i).length < 100 := by decide +kernel
/-- a String constant, as it stands in the heap -/
def stS (s : State) (a t : Nat) (cs : List Nat) : Prop := va_O "java/lang/String" a (fun q => s.heap.size ≤ q) s s.heap ∧ va_OF "java/lang/String" "coder" "B" (.int 0) a (fun q => s.heap.size ≤ q) s s.heap ∧ va_OF "java/lang/String" "value" "[B" (.ref t) a (fun q => s.heap.size ≤ q) s s.heap ∧ va_T .byte t cs.length (fun j => .int (Int32.ofNat (cs.getD j 0))) (fun q => s.heap.size ≤ q) s s.heap
theorem st_str {args : Array Value} {s : State} (hg : gvN.before args s = true) {q : String × Nat × String × Nat} (hq : q ∈ xStr) : ∃ a t : Nat, (Term.string q.1 q.2.1).eval args s none [] s = some (.ref a) ∧ stS s a t (xtx q.2.2.2) := by
  have hs := flat_of_before _ hg
  have hm := fun w hw => hs w (st_all q hq w hw)
  have hl := st_len q.2.2.2 (st_ix2 q hq).1
  generalize xtx q.2.2.2 = cs at hm hl ⊢
  obtain ⟨adK, adV, ⟨hall, -⟩, hev⟩ := vk_Sof (args := args) (s := s) (N := 1) (tm := fun _ => Term.string q.1 q.2.1) (len := [cs.length]) (byt := [cs.map Int32.ofNat]) (A := fun q => s.heap.size ≤ q)
    (fun i hi => by obtain rfl : i = 0 := by omega
                    show cs.length < 2 ^ 31; omega)
    (fun i hi => hm _ (by simp [sCds])) (fun i hi => hm _ (by simp [sCds])) (fun i hi => hm _ (by simp [sCds]))
    (fun i hi => by obtain rfl : i = 0 := by omega
                    exact hm _ (by simp [sCds]))
    (fun i hi j hj => by
      obtain rfl : i = 0 := by omega
      have hj' : j < cs.length := hj
      have e : ([cs.map Int32.ofNat].getD 0 []).getD j 0 = Int32.ofNat (cs.getD j 0) := by
        show (cs.map Int32.ofNat).getD j 0 = _
        simp [hj']
      rw [e]
      refine hm _ ?_
      unfold sCds
      exact List.mem_append_right _ (List.mem_map.mpr ⟨j, List.mem_range.mpr hj', rfl⟩))
    (fun i j hi hj hij => absurd (show i = j by omega) hij) (fun a ha => Nat.not_le.mpr ha)
  obtain ⟨h1, h2, h3, h4⟩ := hall 0 (by omega)
  refine ⟨adK 0, adV 0, hev 0 (by omega), h1, h2, h3, ?_⟩
  obtain ⟨cell, z1, z2, z3, z4, z5, z6, z7⟩ := h4
  refine ⟨cell, z1, z2, z3, z4, z5, fun j hj => ?_, z7⟩
  rw [z6 j hj]
  have hj' : j < cs.length := hj
  show some (Value.int ((cs.map Int32.ofNat).getD j 0)) = _
  simp [hj']
end START
end
section
section

end
section START2
/-- what is fixed: where each String stands, and what stays -/
noncomputable def stK (ad : Nat → Nat × Nat) (b L : Nat) (xs : Nat → Int32) (ea : Nat) : XH := fun a =>
  match Classical.propDecidable (∃ i, i < xnstr ∧ a = (ad i).1) with
  | .isTrue h => some (k_String, [.ref (ad (Classical.choose h)).2, .int 0])
  | .isFalse _ => match Classical.propDecidable (∃ i, i < xnstr ∧ a = (ad i).2) with
    | .isTrue h => some (k_asbyte, xby (xtx (Classical.choose h)))
    | .isFalse _ => if a = b then some (k_aint, (List.range L).map (fun i => .int (xs i))) else if a = ea then some (k_aObject, []) else none
theorem stK_1 {ad : Nat → Nat × Nat} {b L ea i : Nat} {xs : Nat → Int32} (hi : i < xnstr) : ∃ j, j < xnstr ∧ (ad i).1 = (ad j).1 ∧ stK ad b L xs ea (ad i).1 = some (k_String, [.ref (ad j).2, .int 0]) := by
  unfold stK
  split
  · rename_i h _
    exact ⟨Classical.choose h, (Classical.choose_spec h).1, (Classical.choose_spec h).2, rfl⟩
  · rename_i h _
    exact absurd ⟨i, hi, rfl⟩ h
theorem stK_2 {ad : Nat → Nat × Nat} {b L ea i : Nat} {xs : Nat → Int32} (hi : i < xnstr) (hn : ∀ j, j < xnstr → (ad i).2 ≠ (ad j).1) : ∃ j, j < xnstr ∧ (ad i).2 = (ad j).2 ∧ stK ad b L xs ea (ad i).2 = some (k_asbyte, xby (xtx j)) := by
  unfold stK
  split
  · rename_i h _
    obtain ⟨j, h1, h2⟩ := h
    exact absurd h2 (hn j h1)
  · split
    · rename_i h _
      exact ⟨Classical.choose h, (Classical.choose_spec h).1, (Classical.choose_spec h).2, rfl⟩
    · rename_i h _
      exact absurd ⟨i, hi, rfl⟩ h
theorem stK_3 {ad : Nat → Nat × Nat} {b L ea a : Nat} {xs : Nat → Int32} (h1 : ∀ j, j < xnstr → a ≠ (ad j).1) (h2 : ∀ j, j < xnstr → a ≠ (ad j).2) : stK ad b L xs ea a = if a = b then some (k_aint, (List.range L).map (fun i => .int (xs i))) else if a = ea then some (k_aObject, []) else none := by
  unfold stK
  split
  · rename_i h _
    obtain ⟨j, h3, h4⟩ := h
    exact absurd h4 (h1 j h3)
  · split
    · rename_i h _
      obtain ⟨j, h3, h4⟩ := h
      exact absurd h4 (h2 j h3)
    · rfl
theorem stK_or {ad : Nat → Nat × Nat} {b L ea a : Nat} {xs : Nat → Int32} {k : Nat} {vs : List Value} (h : stK ad b L xs ea a = some (k, vs)) : (∃ j, j < xnstr ∧ a = (ad j).1 ∧ k = k_String ∧ vs = [.ref (ad j).2, .int 0]) ∨ (∃ j, j < xnstr ∧ a = (ad j).2 ∧ k = k_asbyte ∧ vs = xby (xtx j)) ∨ (a = b ∧ k = k_aint ∧ vs = (List.range L).map (fun i => .int (xs i))) ∨ (a = ea ∧ k = k_aObject ∧ vs = []) := by
  unfold stK at h
  split at h
  · rename_i hz _
    cases h
    exact Or.inl ⟨_, (Classical.choose_spec hz).1, (Classical.choose_spec hz).2, rfl, rfl⟩
  · split at h
    · rename_i hz _
      cases h
      exact Or.inr (Or.inl ⟨_, (Classical.choose_spec hz).1, (Classical.choose_spec hz).2, rfl, rfl⟩)
    · split at h
      · rename_i hz
        cases h
        exact Or.inr (Or.inr (Or.inl ⟨hz, rfl, rfl⟩))
      · split at h
        · rename_i hz
          cases h
          exact Or.inr (Or.inr (Or.inr ⟨hz, rfl, rfl⟩))
        · cases h
/-- an object of class String is no array; arrays of two types are two -/
theorem st_noarr {s : State} {D : va_G} {cell : Cell} {ty : FieldType} (hK : xK D s) (h1 : s.vm.findClass "java/lang/String" = some cell.cls) (h2 : s.isArrayOf cell ty) : False := by
  have hKn := (hK k_String _ rfl : u_Kn s _ _ _ (D.1 k_String) (D.2 k_String))
  obtain ⟨f1, kC, f2, f3⟩ := hKn.2
  obtain ⟨-, k, g1, comp, g2⟩ := h2
  have e1 : cell.cls = D.1 k_String := Option.some.inj (h1.symm.trans f1)
  rw [e1] at g1
  cases f2.symm.trans g1
  rw [f3] at g2
  cases g2
theorem st_two {s : State} {cell : Cell} {ty ty' : FieldType} (h1 : s.isArrayOf cell ty) (h2 : s.isArrayOf cell ty') : ty = ty' := by
  obtain ⟨-, k, g1, comp, g2⟩ := h1
  obtain ⟨-, k', g1', comp', g2'⟩ := h2
  cases g1.symm.trans g1'
  rw [g2] at g2'
  cases g2'
  rfl
theorem st_ofNat {a b : Nat} (ha : a < 100) (hb : b < 100) (h : Int32.ofNat a = Int32.ofNat b) : a = b := (nI_eq (a := a) (b := b) (by omega) (by omega)).mp h
theorem st_xby {cs ds : List Nat} {cell : Cell} (h1 : cs.length < 100) (h2 : ds.length < 100) (hl1 : cell.slots.size.toInt32 = Int32.ofNat cs.length) (hl2 : cell.slots.size.toInt32 = Int32.ofNat ds.length) (e1 : ∀ j : Nat, j < cs.length → cell.slots[j]? = some (Value.int (Int32.ofNat (cs.getD j 0)))) (e2 : ∀ j : Nat, j < ds.length → cell.slots[j]? = some (Value.int (Int32.ofNat (ds.getD j 0)))) : xby cs = xby ds := by
  have hl := st_ofNat h1 h2 (hl1.symm.trans hl2)
  unfold xby
  apply List.ext_getElem?
  intro j
  by_cases hj : j < cs.length
  · have hj2 : j < ds.length := by omega
    have := (e1 j hj).symm.trans (e2 j hj2)
    rw [List.getElem?_map, List.getElem?_map, List.getElem?_eq_getElem hj, List.getElem?_eq_getElem hj2]
    have h3 : cs.getD j 0 = cs[j] := by simp [hj]
    have h4 : ds.getD j 0 = ds[j] := by simp [hj2]
    rw [h3, h4] at this
    exact this
  · rw [List.getElem?_map, List.getElem?_map, List.getElem?_eq_none (by omega), List.getElem?_eq_none (by omega)]
theorem st_G {s : State} {b L : Nat} {xs : Nat → Int32} (hts : ∀ w ∈ lw_tbl, w.before #[Value.ref b] s = true) (hX : va_X b L xs s s.heap) (hbl : b < s.heap.size) (hgv : gvN.before #[Value.ref b] s = true) :
    ∃ G : XG, G.2.1 = s.heap.size ∧ xV G s s.heap ∧ xGk G ∧ G.2.2.1 b = some (k_aint, (List.range L).map (fun i => Value.int (xs i))) := by
  have hs := flat_of_before _ hgv
  have hT := st_T hts
  have hA : ∀ a : Nat, a < s.heap.size → ¬ (fun q => s.heap.size ≤ q) a := fun a ha => Nat.not_le.mpr ha
  obtain ⟨D, hK⟩ := st_known hT
  have h0 : ∀ i : Nat, ∃ q : Nat × Nat, ∀ z, xStr[i]? = some z → (Term.string z.1 z.2.1).eval #[Value.ref b] s none [] s = some (.ref q.1) ∧ stS s q.1 q.2 (xtx z.2.2.2) := by
    intro i
    cases hz : xStr[i]? with
    | none => exact ⟨(0, 0), fun z h => by cases h⟩
    | some z =>
      obtain ⟨a, t, h1, h2⟩ := st_str hgv (List.mem_of_getElem? hz)
      exact ⟨(a, t), fun z' h => by cases h; exact ⟨h1, h2⟩⟩
  obtain ⟨ad, had⟩ := Classical.axiomOfChoice h0
  have hst : ∀ i, i < xnstr → stS s (ad i).1 (ad i).2 (xtx i) := by
    intro i hi
    have := st_ix i hi
    cases hz : xStr[i]? with
    | none => rw [hz] at this; cases this
    | some z =>
      rw [hz] at this
      have e : z.2.2.2 = i := Option.some.inj this
      have h2 := (had i z hz).2
      rw [e] at h2
      exact h2

  obtain ⟨ea, hea, hTe⟩ := va_Tof (args := #[Value.ref b]) (s := s) (tm := Term.static "java/util/ArrayList" "DEFAULTCAPACITY_EMPTY_ELEMENTDATA" "[Ljava/lang/Object;") (ty := .object "java/lang/Object") (N := 0) (f := fun _ => .null) (A := fun q => s.heap.size ≤ q) (by omega) (hs (Jvm.Cond.arrayOf (Jvm.Term.static "java/util/ArrayList" "DEFAULTCAPACITY_EMPTY_ELEMENTDATA" "[Ljava/lang/Object;") (Jvm.ClassFile.FieldType.object "java/lang/Object")) (List.mem_of_getElem? (i := 218) (by decide +kernel))) (va_eqt (hs (Jvm.Cond.eq (Jvm.Term.length (Jvm.Term.static "java/util/ArrayList" "DEFAULTCAPACITY_EMPTY_ELEMENTDATA" "[Ljava/lang/Object;")) (Jvm.Term.int (0 : Int32))) (List.mem_of_getElem? (i := 220) (by decide +kernel)))) (fun j hj => by omega) hA
  obtain ⟨v0, hv0, hr0⟩ := Cond.isRef_spec (args := #[Value.ref b]) (first := s) (o := none) (s := s) (idx := []) (hs (Jvm.Cond.isRef (Jvm.Term.static "jdk/internal/util/Preconditions" "SIOOBE_FORMATTER" "Ljava/util/function/BiFunction;")) (List.mem_of_getElem? (i := 5) (by decide +kernel)))
  obtain ⟨v1, hv1, hr1⟩ := Cond.isRef_spec (args := #[Value.ref b]) (first := s) (o := none) (s := s) (idx := []) (hs (Jvm.Cond.isRef (Jvm.Term.static "java/lang/Throwable" "UNASSIGNED_STACK" "[Ljava/lang/StackTraceElement;")) (List.mem_of_getElem? (i := 9) (by decide +kernel)))
  obtain ⟨v2, hv2, hr2⟩ := Cond.isRef_spec (args := #[Value.ref b]) (first := s) (o := none) (s := s) (idx := []) (hs (Jvm.Cond.isRef (Jvm.Term.static "java/lang/Throwable" "SUPPRESSED_SENTINEL" "Ljava/util/List;")) (List.mem_of_getElem? (i := 10) (by decide +kernel)))
  obtain ⟨mi, hmi⟩ := va_Mi.of (args := #[Value.ref b]) (s := s) (C := "[Ljava/lang/Object;") (hs (Jvm.Cond.isRef (Jvm.Term.mirror "[Ljava/lang/Object;")) (List.mem_of_getElem? (i := 267) (by decide +kernel)))
  obtain ⟨scr, x1, x2, x3, x4, x5⟩ := hX
  obtain ⟨ce, t1, t2, t3, t4, t5, t6, t7⟩ := hTe
  -- the places are apart
  have n1 : ∀ i j, i < xnstr → j < xnstr → (ad i).2 ≠ (ad j).1 := by
    intro i j hi hj e
    obtain ⟨cell, o1, -, o3, -⟩ := (hst j hj).1
    obtain ⟨cell', p1, p2, -⟩ := (hst i hi).2.2.2
    rw [e] at p1
    cases o1.symm.trans p1
    exact st_noarr hK o3 p2
  have nb1 : ∀ j, j < xnstr → b ≠ (ad j).1 := by
    intro j hj e
    obtain ⟨cell, o1, -, o3, -⟩ := (hst j hj).1
    rw [← e] at o1
    cases o1.symm.trans x1
    exact st_noarr hK o3 x2
  have nb2 : ∀ j, j < xnstr → b ≠ (ad j).2 := by
    intro j hj e
    obtain ⟨cell', p1, p2, -⟩ := (hst j hj).2.2.2
    rw [← e] at p1
    cases p1.symm.trans x1
    cases st_two p2 x2
  have ne1 : ∀ j, j < xnstr → ea ≠ (ad j).1 := by
    intro j hj e
    obtain ⟨cell, o1, -, o3, -⟩ := (hst j hj).1
    rw [← e] at o1
    cases o1.symm.trans t1
    exact st_noarr hK o3 t2
  have ne2 : ∀ j, j < xnstr → ea ≠ (ad j).2 := by
    intro j hj e
    obtain ⟨cell', p1, p2, -⟩ := (hst j hj).2.2.2
    rw [← e] at p1
    cases p1.symm.trans t1
    cases st_two p2 t2
  have neb : ea ≠ b := by
    intro e
    rw [e] at t1
    cases t1.symm.trans x1
    cases st_two t2 x2
  -- one cell, one text
  have same1 : ∀ i j, i < xnstr → j < xnstr → (ad i).1 = (ad j).1 → (ad i).2 = (ad j).2 := by
    intro i j hi hj e
    obtain ⟨cf, k, fi, f, cell, p1, -, p3, -, p5, -⟩ := (hst i hi).2.2.1
    obtain ⟨cf', k', fi', f', cell', p1', -, p3', -, p5', -⟩ := (hst j hj).2.2.1
    cases p1.symm.trans p1'
    rw [e] at p3
    cases p3.symm.trans p3'
    exact Value.ref.inj (Option.some.inj (p5.symm.trans p5'))
  have same2 : ∀ i j, i < xnstr → j < xnstr → (ad i).2 = (ad j).2 → xby (xtx i) = xby (xtx j) := by
    intro i j hi hj e
    obtain ⟨cell, p1, -, -, -, p5, p6, -⟩ := (hst i hi).2.2.2
    obtain ⟨cell', p1', -, -, -, p5', p6', -⟩ := (hst j hj).2.2.2
    rw [e] at p1
    cases p1.symm.trans p1'
    exact st_xby (st_len i hi) (st_len j hj) p5 p5' p6 p6'
  refine ⟨(D, s.heap.size, stK ad b L xs ea, fun i => if i < xnstr then (ad i).1 else if i = 100 then ea else mi, fun j => if j = 0 then v0 else if j = 1 then v1 else if j = 2 then v2 else .null), rfl, ⟨hK, fun w hw => xT_same hw rfl (hT w hw), ⟨fun q hq => ?_, hmi, fun q hq => ?_⟩, fun q hq => ?_, fun a k vs ha => ?_⟩, ⟨fun j => ?_, fun i hi => ?_, ?_⟩, ?_⟩
  · obtain ⟨i1, i2⟩ := st_ix2 q hq
    refine vk_R.of (A := #[Value.ref b]) (hts _ (st_ref q hq)) ?_
    show (Term.string q.1 q.2.1).eval #[Value.ref b] s none [] s = some (.ref (if q.2.2.2 < xnstr then (ad q.2.2.2).1 else if q.2.2.2 = 100 then ea else mi))
    rw [if_pos i1]
    exact (had _ q i2).1
  · have hq2 : q = ("java/lang/Throwable", "UNASSIGNED_STACK", "[Ljava/lang/StackTraceElement;") ∨ q = ("java/lang/Throwable", "SUPPRESSED_SENTINEL", "Ljava/util/List;") := by
      simpa [xThS] using hq
    rcases hq2 with rfl | rfl
    · obtain ⟨c, k, i, f, a, cell, g1, g2, g3, g4, g5, g6, g7, g8, g9⟩ := Cond.laysStatic_spec (args := #[Value.ref b]) (first := s) (o := none) (s := s) (idx := []) (hts (Jvm.Cond.laysStatic "java/lang/Throwable" "UNASSIGNED_STACK" "[Ljava/lang/StackTraceElement;") (List.mem_append_right _ (List.mem_of_getElem? (i := 517) (by decide +kernel))))
      exact ⟨c, k, i, f, a, cell, g1, g2, g3, g4, g5, g6, g7, g8, g9, hA a (Array.getElem?_eq_some_iff.mp g5).1⟩
    · obtain ⟨c, k, i, f, a, cell, g1, g2, g3, g4, g5, g6, g7, g8, g9⟩ := Cond.laysStatic_spec (args := #[Value.ref b]) (first := s) (o := none) (s := s) (idx := []) (hts (Jvm.Cond.laysStatic "java/lang/Throwable" "SUPPRESSED_SENTINEL" "Ljava/util/List;") (List.mem_append_right _ (List.mem_of_getElem? (i := 519) (by decide +kernel))))
      exact ⟨c, k, i, f, a, cell, g1, g2, g3, g4, g5, g6, g7, g8, g9, hA a (Array.getElem?_eq_some_iff.mp g5).1⟩
  · revert q hq
    exact List.forall_mem_cons.mpr ⟨va_Zof (hts (Jvm.Cond.laysStatic "java/lang/String" "COMPACT_STRINGS" "Z") (List.mem_append_right _ (List.mem_of_getElem? (i := 52) (by decide +kernel)))) (hts (Jvm.Cond.initialized "java/lang/String") (List.mem_append_right _ (List.mem_of_getElem? (i := 4) (by decide +kernel)))) (va_eqi (hs (Jvm.Cond.eq (Jvm.Term.static "java/lang/String" "COMPACT_STRINGS" "Z") (Jvm.Term.int (1 : Int32))) (List.mem_of_getElem? (i := 4) (by decide +kernel)))) hA, List.forall_mem_cons.mpr ⟨va_Zof (hts (Jvm.Cond.laysStatic "java/lang/StringUTF16" "$assertionsDisabled" "Z") (List.mem_append_right _ (List.mem_of_getElem? (i := 257) (by decide +kernel)))) (hts (Jvm.Cond.initialized "java/lang/StringUTF16") (List.mem_append_right _ (List.mem_of_getElem? (i := 5) (by decide +kernel)))) (va_eqi (hs (Jvm.Cond.eq (Jvm.Term.static "java/lang/StringUTF16" "$assertionsDisabled" "Z") (Jvm.Term.int (1 : Int32))) (List.mem_of_getElem? (i := 6) (by decide +kernel)))) hA, List.forall_mem_cons.mpr ⟨va_Zof (hts (Jvm.Cond.laysStatic "java/lang/StringUTF16" "HI_BYTE_SHIFT" "I") (List.mem_append_right _ (List.mem_of_getElem? (i := 259) (by decide +kernel)))) (hts (Jvm.Cond.initialized "java/lang/StringUTF16") (List.mem_append_right _ (List.mem_of_getElem? (i := 5) (by decide +kernel)))) (va_eqi (hs (Jvm.Cond.eq (Jvm.Term.static "java/lang/StringUTF16" "HI_BYTE_SHIFT" "I") (Jvm.Term.int (0 : Int32))) (List.mem_of_getElem? (i := 7) (by decide +kernel)))) hA, List.forall_mem_cons.mpr ⟨va_Zof (hts (Jvm.Cond.laysStatic "java/lang/StringUTF16" "LO_BYTE_SHIFT" "I") (List.mem_append_right _ (List.mem_of_getElem? (i := 261) (by decide +kernel)))) (hts (Jvm.Cond.initialized "java/lang/StringUTF16") (List.mem_append_right _ (List.mem_of_getElem? (i := 5) (by decide +kernel)))) (va_eqi (hs (Jvm.Cond.eq (Jvm.Term.static "java/lang/StringUTF16" "LO_BYTE_SHIFT" "I") (Jvm.Term.int (8 : Int32))) (List.mem_of_getElem? (i := 8) (by decide +kernel)))) hA, List.forall_mem_cons.mpr ⟨va_Zof (hts (Jvm.Cond.laysStatic "java/util/ArrayList" "DEFAULTCAPACITY_EMPTY_ELEMENTDATA" "[Ljava/lang/Object;") (List.mem_append_right _ (List.mem_of_getElem? (i := 842) (by decide +kernel)))) (hts (Jvm.Cond.initialized "java/util/ArrayList") (List.mem_append_right _ (List.mem_of_getElem? (i := 26) (by decide +kernel)))) hea hA, List.forall_mem_cons.mpr ⟨va_Zof (hts (Jvm.Cond.laysStatic "jdk/internal/util/Preconditions" "SIOOBE_FORMATTER" "Ljava/util/function/BiFunction;") (List.mem_append_right _ (List.mem_of_getElem? (i := 249) (by decide +kernel)))) (hts (Jvm.Cond.initialized "jdk/internal/util/Preconditions") (List.mem_append_right _ (List.mem_of_getElem? (i := 14) (by decide +kernel)))) hv0 hA, List.forall_mem_cons.mpr ⟨va_Zof (hts (Jvm.Cond.laysStatic "java/lang/Throwable" "UNASSIGNED_STACK" "[Ljava/lang/StackTraceElement;") (List.mem_append_right _ (List.mem_of_getElem? (i := 517) (by decide +kernel)))) (hts (Jvm.Cond.initialized "java/lang/Throwable") (List.mem_append_right _ (List.mem_of_getElem? (i := 15) (by decide +kernel)))) hv1 hA, List.forall_mem_cons.mpr ⟨va_Zof (hts (Jvm.Cond.laysStatic "java/lang/Throwable" "SUPPRESSED_SENTINEL" "Ljava/util/List;") (List.mem_append_right _ (List.mem_of_getElem? (i := 519) (by decide +kernel)))) (hts (Jvm.Cond.initialized "java/lang/Throwable") (List.mem_append_right _ (List.mem_of_getElem? (i := 15) (by decide +kernel)))) hv2 hA, fun _ hz => by cases hz⟩⟩⟩⟩⟩⟩⟩⟩
  · rcases stK_or ha with ⟨j, hj, rfl, rfl, rfl⟩ | ⟨j, hj, rfl, rfl, rfl⟩ | ⟨rfl, rfl, rfl⟩ | ⟨rfl, rfl, rfl⟩
    · obtain ⟨⟨cell, o1, o2, o3, o4⟩, ⟨cf, kf, fi, f, cell1, p1, p2, p3, p4, p5, p6⟩, ⟨cf', kf', fi', f', cell2, q1, q2, q3, q4, q5, q6⟩, -⟩ := hst j hj
      cases o1.symm.trans p3
      cases o1.symm.trans q3
      have hKn := (hK k_String _ rfl : u_Kn s _ _ _ (D.1 k_String) (D.2 k_String))
      refine ⟨(Array.getElem?_eq_some_iff.mp o1).1, cell, o1, p4, o2, fun _ => Option.some.inj (o3.symm.trans hKn.2.1), fun i w hw => ?_, fun ty hty => by cases hty⟩
      match i, hw with
      | 0, hw =>
        cases hw
        obtain ⟨a1, a2, a3, a4, a5, a6⟩ := hKn.1 0 (by decide)
        have : s.fieldFound? "java/lang/String" "value" "[B" = some (a1, a2, a3, a4) := a5
        cases this.symm.trans q1
        exact ⟨Or.inr (by decide), by show cell.slots[D.2 k_String 0]? = _; rw [← a6]; exact q5⟩
      | 1, hw =>
        cases hw
        obtain ⟨a1, a2, a3, a4, a5, a6⟩ := hKn.1 1 (by decide)
        have : s.fieldFound? "java/lang/String" "coder" "B" = some (a1, a2, a3, a4) := a5
        cases this.symm.trans p1
        exact ⟨Or.inr (by decide), by show cell.slots[D.2 k_String 1]? = _; rw [← a6]; exact p5⟩
      | i + 2, hw => simp at hw
    · obtain ⟨cell, p1, p2, p3, p4, p5, p6, p7⟩ := (hst j hj).2.2.2
      have hid := (hK k_asbyte _ rfl : ArrOfT s (D.1 k_asbyte) .byte ∧ va_RA s (D.1 k_asbyte) .byte ∧ ∀ j : Nat, D.2 k_asbyte j = j).2.2
      refine ⟨(Array.getElem?_eq_some_iff.mp p1).1, cell, p1, p3, ?_, fun hz => (by cases hz), fun i w hw => ⟨Or.inl rfl, ?_⟩, fun ty hty => ?_⟩
      · cases hv : cell.vm.isStatics with
        | false => rfl
        | true =>
          cases hvm : cell.vm with
          | statics k => exact absurd hvm (p2.1 k)
          | _ => rw [hvm] at hv; cases hv
      · show cell.slots[D.2 k_asbyte i]? = _
        rw [hid i]
        have hi : i < (xtx j).length := by
          have := (List.getElem?_eq_some_iff.mp hw).1
          rwa [xby_len] at this
        rw [p6 i hi, ← hw]
        unfold xby
        rw [List.getElem?_map, List.getElem?_eq_getElem hi]
        simp [hi]
        rfl
      · cases hty
        refine ⟨p2, by rw [xby_len]; exact p4, by rw [xby_len]; exact p5⟩
    · have hid := (hK k_aint _ rfl : ArrOfT s (D.1 k_aint) .int ∧ va_RA s (D.1 k_aint) .int ∧ ∀ j : Nat, D.2 k_aint j = j).2.2
      refine ⟨hbl, scr, x1, x3, ?_, fun hz => (by cases hz), fun i w hw => ⟨Or.inl rfl, ?_⟩, fun ty hty => ?_⟩
      · cases hv : scr.vm.isStatics with
        | false => rfl
        | true =>
          cases hvm : scr.vm with
          | statics k => exact absurd hvm (x2.1 k)
          | _ => rw [hvm] at hv; cases hv
      · show scr.slots[D.2 k_aint i]? = _
        rw [hid i]
        have hi : i < L := by
          have := (List.getElem?_eq_some_iff.mp hw).1
          simpa using this
        rw [x5 i hi, ← hw]
        simp [hi]
      · cases hty
        refine ⟨x2, by rw [x4]; simp, by rw [x4]; simp⟩
    · refine ⟨(Array.getElem?_eq_some_iff.mp t1).1, ce, t1, t3, ?_, fun hz => (by cases hz), fun i w hw => (by simp at hw), fun ty hty => ?_⟩
      · cases hv : ce.vm.isStatics with
        | false => rfl
        | true =>
          cases hvm : ce.vm with
          | statics k => exact absurd hvm (t2.1 k)
          | _ => rw [hvm] at hv; cases hv
      · cases hty
        exact ⟨t2, Nat.zero_le _, t5⟩
  · show xisr (if j = 0 then v0 else if j = 1 then v1 else if j = 2 then v2 else .null) = true
    have isr : ∀ v : Value, v.isRef = true → xisr v = true := fun v hv => by cases v <;> first | rfl | cases hv
    split
    · exact isr _ hr0
    · split
      · exact isr _ hr1
      · split
        · exact isr _ hr2
        · rfl
  · show ∃ va, stK ad b L xs ea (if i < xnstr then (ad i).1 else if i = 100 then ea else mi) = some (k_String, [.ref va, .int 0]) ∧ stK ad b L xs ea va = some (k_asbyte, xby (xtx i))
    rw [if_pos hi]
    obtain ⟨j, hj, e1, e2⟩ := stK_1 (ad := ad) (b := b) (L := L) (ea := ea) (xs := xs) hi
    obtain ⟨j2, hj2, e3, e4⟩ := stK_2 (ad := ad) (b := b) (L := L) (ea := ea) (xs := xs) hj (fun z hz => n1 j z hj hz)
    refine ⟨_, e2, ?_⟩
    rw [e4, same2 j2 i hj2 hi (by rw [← e3]; exact (same1 i j hi hj e1).symm)]
  · show stK ad b L xs ea (if 100 < xnstr then (ad 100).1 else if 100 = 100 then ea else mi) = some (k_aObject, [])
    rw [if_neg (by decide), if_pos rfl, stK_3 ne1 ne2, if_neg neb, if_pos rfl]
  · show stK ad b L xs ea b = _
    rw [stK_3 nb1 nb2, if_pos rfl]
end START2
end
