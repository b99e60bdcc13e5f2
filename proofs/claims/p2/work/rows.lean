section
-- ===== PART A: goes FIRST, ahead of the names: the tables' words, and 'selects' of the private methods out of them =====
/-- a private method of a class that the tables say can be made, by its rows of tables_1 -/
def lw_okq (q : MethodName × Nat) : Prop := (q.1.cls ≠ "java/lang/invoke/MethodHandle" ∧ q.1.cls ≠ "java/lang/invoke/VarHandle") ∧ Cond.instantiable q.1.cls q.2 ∈ tables_1 ∧ Cond.privateMethod q.1 ∈ tables_1 ∧ Cond.instanceMethod q.1 ∈ tables_1
theorem lw_p0 : lw_okq (⟨"MarkerText", "conditionAt", "(I)LMarkerText$Condition;"⟩, 9) := ⟨⟨by decide +kernel, by decide +kernel⟩, List.mem_of_getElem? (i := 35) (by decide +kernel), List.mem_of_getElem? (i := 283) (by decide +kernel), List.mem_of_getElem? (i := 284) (by decide +kernel)⟩
theorem lw_p1 : lw_okq (⟨"MarkerText", "findChoice", "(II)I"⟩, 9) := ⟨⟨by decide +kernel, by decide +kernel⟩, List.mem_of_getElem? (i := 35) (by decide +kernel), List.mem_of_getElem? (i := 311) (by decide +kernel), List.mem_of_getElem? (i := 312) (by decide +kernel)⟩
theorem lw_p2 : lw_okq (⟨"MarkerText$Choices", "addTested", "(Ljava/util/ArrayList;I)V"⟩, 7) := ⟨⟨by decide +kernel, by decide +kernel⟩, List.mem_of_getElem? (i := 80) (by decide +kernel), List.mem_of_getElem? (i := 319) (by decide +kernel), List.mem_of_getElem? (i := 320) (by decide +kernel)⟩
theorem lw_p3 : lw_okq (⟨"MarkerText$Choices", "add", "(JI)V"⟩, 7) := ⟨⟨by decide +kernel, by decide +kernel⟩, List.mem_of_getElem? (i := 80) (by decide +kernel), List.mem_of_getElem? (i := 340) (by decide +kernel), List.mem_of_getElem? (i := 341) (by decide +kernel)⟩
theorem lw_p4 : lw_okq (⟨"MarkerText$Choices", "addKnown", "(LMarkerText$Name;I)V"⟩, 7) := ⟨⟨by decide +kernel, by decide +kernel⟩, List.mem_of_getElem? (i := 80) (by decide +kernel), List.mem_of_getElem? (i := 345) (by decide +kernel), List.mem_of_getElem? (i := 346) (by decide +kernel)⟩
theorem lw_p5 : lw_okq (⟨"MarkerText$Choices", "levelOfPick", "(I)J"⟩, 7) := ⟨⟨by decide +kernel, by decide +kernel⟩, List.mem_of_getElem? (i := 80) (by decide +kernel), List.mem_of_getElem? (i := 359) (by decide +kernel), List.mem_of_getElem? (i := 360) (by decide +kernel)⟩
theorem lw_p6 : lw_okq (⟨"MarkerText$Parting", "countIn", "(II)V"⟩, 6) := ⟨⟨by decide +kernel, by decide +kernel⟩, List.mem_of_getElem? (i := 113) (by decide +kernel), List.mem_of_getElem? (i := 388) (by decide +kernel), List.mem_of_getElem? (i := 389) (by decide +kernel)⟩
theorem lw_p7 : lw_okq (⟨"MarkerText", "nameAt", "(I)LMarkerText$Name;"⟩, 9) := ⟨⟨by decide +kernel, by decide +kernel⟩, List.mem_of_getElem? (i := 35) (by decide +kernel), List.mem_of_getElem? (i := 410) (by decide +kernel), List.mem_of_getElem? (i := 411) (by decide +kernel)⟩
theorem lw_p8 : lw_okq (⟨"MarkerText", "takeText", "()Ljava/lang/String;"⟩, 9) := ⟨⟨by decide +kernel, by decide +kernel⟩, List.mem_of_getElem? (i := 35) (by decide +kernel), List.mem_of_getElem? (i := 458) (by decide +kernel), List.mem_of_getElem? (i := 459) (by decide +kernel)⟩
theorem lw_p9 : lw_okq (⟨"java/lang/Throwable", "fillInStackTrace", "(I)Ljava/lang/Throwable;"⟩, 6) := ⟨⟨by decide +kernel, by decide +kernel⟩, List.mem_of_getElem? (i := 528) (by decide +kernel), List.mem_of_getElem? (i := 526) (by decide +kernel), List.mem_of_getElem? (i := 527) (by decide +kernel)⟩
theorem lw_p10 : lw_okq (⟨"MarkerText$Reader", "readJoined", "(I)LMarkerText$Node;"⟩, 7) := ⟨⟨by decide +kernel, by decide +kernel⟩, List.mem_of_getElem? (i := 824) (by decide +kernel), List.mem_of_getElem? (i := 885) (by decide +kernel), List.mem_of_getElem? (i := 886) (by decide +kernel)⟩
theorem lw_p11 : lw_okq (⟨"MarkerText$Reader", "readTest", "()LMarkerText$Node;"⟩, 7) := ⟨⟨by decide +kernel, by decide +kernel⟩, List.mem_of_getElem? (i := 824) (by decide +kernel), List.mem_of_getElem? (i := 889) (by decide +kernel), List.mem_of_getElem? (i := 890) (by decide +kernel)⟩
theorem lw_p12 : lw_okq (⟨"MarkerText$Reader", "skipBlanks", "()V"⟩, 7) := ⟨⟨by decide +kernel, by decide +kernel⟩, List.mem_of_getElem? (i := 824) (by decide +kernel), List.mem_of_getElem? (i := 893) (by decide +kernel), List.mem_of_getElem? (i := 894) (by decide +kernel)⟩
theorem lw_p13 : lw_okq (⟨"MarkerText$Reader", "wordHere", "()Ljava/lang/String;"⟩, 7) := ⟨⟨by decide +kernel, by decide +kernel⟩, List.mem_of_getElem? (i := 824) (by decide +kernel), List.mem_of_getElem? (i := 899) (by decide +kernel), List.mem_of_getElem? (i := 900) (by decide +kernel)⟩
theorem lw_p14 : lw_okq (⟨"MarkerText$Reader", "characterHere", "()C"⟩, 7) := ⟨⟨by decide +kernel, by decide +kernel⟩, List.mem_of_getElem? (i := 824) (by decide +kernel), List.mem_of_getElem? (i := 929) (by decide +kernel), List.mem_of_getElem? (i := 930) (by decide +kernel)⟩
theorem lw_p15 : lw_okq (⟨"MarkerText$Reader", "readOpened", "(Z)LMarkerText$Node;"⟩, 7) := ⟨⟨by decide +kernel, by decide +kernel⟩, List.mem_of_getElem? (i := 824) (by decide +kernel), List.mem_of_getElem? (i := 933) (by decide +kernel), List.mem_of_getElem? (i := 934) (by decide +kernel)⟩
def lw_privs_1 : List (MethodName × Nat) := [(⟨"MarkerText", "conditionAt", "(I)LMarkerText$Condition;"⟩, 9), (⟨"MarkerText", "findChoice", "(II)I"⟩, 9), (⟨"MarkerText$Choices", "addTested", "(Ljava/util/ArrayList;I)V"⟩, 7), (⟨"MarkerText$Choices", "add", "(JI)V"⟩, 7), (⟨"MarkerText$Choices", "addKnown", "(LMarkerText$Name;I)V"⟩, 7), (⟨"MarkerText$Choices", "levelOfPick", "(I)J"⟩, 7), (⟨"MarkerText$Parting", "countIn", "(II)V"⟩, 6), (⟨"MarkerText", "nameAt", "(I)LMarkerText$Name;"⟩, 9), (⟨"MarkerText", "takeText", "()Ljava/lang/String;"⟩, 9), (⟨"java/lang/Throwable", "fillInStackTrace", "(I)Ljava/lang/Throwable;"⟩, 6), (⟨"MarkerText$Reader", "readJoined", "(I)LMarkerText$Node;"⟩, 7), (⟨"MarkerText$Reader", "readTest", "()LMarkerText$Node;"⟩, 7), (⟨"MarkerText$Reader", "skipBlanks", "()V"⟩, 7), (⟨"MarkerText$Reader", "wordHere", "()Ljava/lang/String;"⟩, 7), (⟨"MarkerText$Reader", "characterHere", "()C"⟩, 7), (⟨"MarkerText$Reader", "readOpened", "(Z)LMarkerText$Node;"⟩, 7)]
theorem lw_r1 : ∀ q ∈ lw_privs_1, lw_okq q := List.forall_mem_cons.mpr ⟨lw_p0, List.forall_mem_cons.mpr ⟨lw_p1, List.forall_mem_cons.mpr ⟨lw_p2, List.forall_mem_cons.mpr ⟨lw_p3, List.forall_mem_cons.mpr ⟨lw_p4, List.forall_mem_cons.mpr ⟨lw_p5, List.forall_mem_cons.mpr ⟨lw_p6, List.forall_mem_cons.mpr ⟨lw_p7, List.forall_mem_cons.mpr ⟨lw_p8, List.forall_mem_cons.mpr ⟨lw_p9, List.forall_mem_cons.mpr ⟨lw_p10, List.forall_mem_cons.mpr ⟨lw_p11, List.forall_mem_cons.mpr ⟨lw_p12, List.forall_mem_cons.mpr ⟨lw_p13, List.forall_mem_cons.mpr ⟨lw_p14, List.forall_mem_cons.mpr ⟨lw_p15, fun _ h => absurd h List.not_mem_nil⟩⟩⟩⟩⟩⟩⟩⟩⟩⟩⟩⟩⟩⟩⟩⟩
theorem lw_p16 : lw_okq (⟨"MarkerText$Reader", "takesSign", "(C)Z"⟩, 7) := ⟨⟨by decide +kernel, by decide +kernel⟩, List.mem_of_getElem? (i := 824) (by decide +kernel), List.mem_of_getElem? (i := 957) (by decide +kernel), List.mem_of_getElem? (i := 958) (by decide +kernel)⟩
theorem lw_p17 : lw_okq (⟨"MarkerText$Reader", "readComparison", "(I)LMarkerText$Node;"⟩, 7) := ⟨⟨by decide +kernel, by decide +kernel⟩, List.mem_of_getElem? (i := 824) (by decide +kernel), List.mem_of_getElem? (i := 975) (by decide +kernel), List.mem_of_getElem? (i := 976) (by decide +kernel)⟩
theorem lw_p18 : lw_okq (⟨"MarkerText$Reader", "takesWord", "(Ljava/lang/String;)Z"⟩, 7) := ⟨⟨by decide +kernel, by decide +kernel⟩, List.mem_of_getElem? (i := 824) (by decide +kernel), List.mem_of_getElem? (i := 983) (by decide +kernel), List.mem_of_getElem? (i := 984) (by decide +kernel)⟩
theorem lw_p19 : lw_okq (⟨"MarkerText$Reader", "readOperator", "()I"⟩, 7) := ⟨⟨by decide +kernel, by decide +kernel⟩, List.mem_of_getElem? (i := 824) (by decide +kernel), List.mem_of_getElem? (i := 987) (by decide +kernel), List.mem_of_getElem? (i := 988) (by decide +kernel)⟩
theorem lw_p20 : lw_okq (⟨"MarkerText$Reader", "readList", "(LMarkerText$Name;)[J"⟩, 7) := ⟨⟨by decide +kernel, by decide +kernel⟩, List.mem_of_getElem? (i := 824) (by decide +kernel), List.mem_of_getElem? (i := 991) (by decide +kernel), List.mem_of_getElem? (i := 992) (by decide +kernel)⟩
theorem lw_p21 : lw_okq (⟨"MarkerText$Reader", "readValue", "(LMarkerText$Name;)J"⟩, 7) := ⟨⟨by decide +kernel, by decide +kernel⟩, List.mem_of_getElem? (i := 824) (by decide +kernel), List.mem_of_getElem? (i := 995) (by decide +kernel), List.mem_of_getElem? (i := 996) (by decide +kernel)⟩
theorem lw_p22 : lw_okq (⟨"MarkerText$Reader", "readSingle", "(LMarkerText$Name;)[J"⟩, 7) := ⟨⟨by decide +kernel, by decide +kernel⟩, List.mem_of_getElem? (i := 824) (by decide +kernel), List.mem_of_getElem? (i := 1009) (by decide +kernel), List.mem_of_getElem? (i := 1010) (by decide +kernel)⟩
theorem lw_p23 : lw_okq (⟨"java/util/ArrayList", "add", "(Ljava/lang/Object;[Ljava/lang/Object;I)V"⟩, 3) := ⟨⟨by decide +kernel, by decide +kernel⟩, List.mem_of_getElem? (i := 830) (by decide +kernel), List.mem_of_getElem? (i := 1040) (by decide +kernel), List.mem_of_getElem? (i := 1041) (by decide +kernel)⟩
theorem lw_p24 : lw_okq (⟨"java/util/ArrayList", "grow", "()[Ljava/lang/Object;"⟩, 3) := ⟨⟨by decide +kernel, by decide +kernel⟩, List.mem_of_getElem? (i := 830) (by decide +kernel), List.mem_of_getElem? (i := 1044) (by decide +kernel), List.mem_of_getElem? (i := 1045) (by decide +kernel)⟩
theorem lw_p25 : lw_okq (⟨"java/util/ArrayList", "grow", "(I)[Ljava/lang/Object;"⟩, 3) := ⟨⟨by decide +kernel, by decide +kernel⟩, List.mem_of_getElem? (i := 830) (by decide +kernel), List.mem_of_getElem? (i := 1048) (by decide +kernel), List.mem_of_getElem? (i := 1049) (by decide +kernel)⟩
theorem lw_p26 : lw_okq (⟨"MarkerTextModel", "word", "(II)J"⟩, 52) := ⟨⟨by decide +kernel, by decide +kernel⟩, List.mem_of_getElem? (i := 1165) (by decide +kernel), List.mem_of_getElem? (i := 1343) (by decide +kernel), List.mem_of_getElem? (i := 1344) (by decide +kernel)⟩
theorem lw_p27 : lw_okq (⟨"MarkerTextModel", "meaning", "(J)I"⟩, 52) := ⟨⟨by decide +kernel, by decide +kernel⟩, List.mem_of_getElem? (i := 1165) (by decide +kernel), List.mem_of_getElem? (i := 1349) (by decide +kernel), List.mem_of_getElem? (i := 1350) (by decide +kernel)⟩
theorem lw_p28 : lw_okq (⟨"MarkerTextModel", "fails", "(ZZ)Z"⟩, 52) := ⟨⟨by decide +kernel, by decide +kernel⟩, List.mem_of_getElem? (i := 1165) (by decide +kernel), List.mem_of_getElem? (i := 1359) (by decide +kernel), List.mem_of_getElem? (i := 1360) (by decide +kernel)⟩
theorem lw_p29 : lw_okq (⟨"MarkerTextModel", "isName", "(I)Z"⟩, 52) := ⟨⟨by decide +kernel, by decide +kernel⟩, List.mem_of_getElem? (i := 1165) (by decide +kernel), List.mem_of_getElem? (i := 1367) (by decide +kernel), List.mem_of_getElem? (i := 1368) (by decide +kernel)⟩
theorem lw_p30 : lw_okq (⟨"MarkerTextModel", "isValue", "(III)Z"⟩, 52) := ⟨⟨by decide +kernel, by decide +kernel⟩, List.mem_of_getElem? (i := 1165) (by decide +kernel), List.mem_of_getElem? (i := 1371) (by decide +kernel), List.mem_of_getElem? (i := 1372) (by decide +kernel)⟩
theorem lw_p31 : lw_okq (⟨"MarkerTextModel", "isText", "(II)Z"⟩, 52) := ⟨⟨by decide +kernel, by decide +kernel⟩, List.mem_of_getElem? (i := 1165) (by decide +kernel), List.mem_of_getElem? (i := 1375) (by decide +kernel), List.mem_of_getElem? (i := 1376) (by decide +kernel)⟩
def lw_privs_2 : List (MethodName × Nat) := [(⟨"MarkerText$Reader", "takesSign", "(C)Z"⟩, 7), (⟨"MarkerText$Reader", "readComparison", "(I)LMarkerText$Node;"⟩, 7), (⟨"MarkerText$Reader", "takesWord", "(Ljava/lang/String;)Z"⟩, 7), (⟨"MarkerText$Reader", "readOperator", "()I"⟩, 7), (⟨"MarkerText$Reader", "readList", "(LMarkerText$Name;)[J"⟩, 7), (⟨"MarkerText$Reader", "readValue", "(LMarkerText$Name;)J"⟩, 7), (⟨"MarkerText$Reader", "readSingle", "(LMarkerText$Name;)[J"⟩, 7), (⟨"java/util/ArrayList", "add", "(Ljava/lang/Object;[Ljava/lang/Object;I)V"⟩, 3), (⟨"java/util/ArrayList", "grow", "()[Ljava/lang/Object;"⟩, 3), (⟨"java/util/ArrayList", "grow", "(I)[Ljava/lang/Object;"⟩, 3), (⟨"MarkerTextModel", "word", "(II)J"⟩, 52), (⟨"MarkerTextModel", "meaning", "(J)I"⟩, 52), (⟨"MarkerTextModel", "fails", "(ZZ)Z"⟩, 52), (⟨"MarkerTextModel", "isName", "(I)Z"⟩, 52), (⟨"MarkerTextModel", "isValue", "(III)Z"⟩, 52), (⟨"MarkerTextModel", "isText", "(II)Z"⟩, 52)]
theorem lw_r2 : ∀ q ∈ lw_privs_2, lw_okq q := List.forall_mem_cons.mpr ⟨lw_p16, List.forall_mem_cons.mpr ⟨lw_p17, List.forall_mem_cons.mpr ⟨lw_p18, List.forall_mem_cons.mpr ⟨lw_p19, List.forall_mem_cons.mpr ⟨lw_p20, List.forall_mem_cons.mpr ⟨lw_p21, List.forall_mem_cons.mpr ⟨lw_p22, List.forall_mem_cons.mpr ⟨lw_p23, List.forall_mem_cons.mpr ⟨lw_p24, List.forall_mem_cons.mpr ⟨lw_p25, List.forall_mem_cons.mpr ⟨lw_p26, List.forall_mem_cons.mpr ⟨lw_p27, List.forall_mem_cons.mpr ⟨lw_p28, List.forall_mem_cons.mpr ⟨lw_p29, List.forall_mem_cons.mpr ⟨lw_p30, List.forall_mem_cons.mpr ⟨lw_p31, fun _ h => absurd h List.not_mem_nil⟩⟩⟩⟩⟩⟩⟩⟩⟩⟩⟩⟩⟩⟩⟩⟩
theorem lw_p32 : lw_okq (⟨"MarkerTextModel", "isVersion", "(II)Z"⟩, 52) := ⟨⟨by decide +kernel, by decide +kernel⟩, List.mem_of_getElem? (i := 1165) (by decide +kernel), List.mem_of_getElem? (i := 1383) (by decide +kernel), List.mem_of_getElem? (i := 1384) (by decide +kernel)⟩
theorem lw_p33 : lw_okq (⟨"MarkerTextModel", "read", "()V"⟩, 52) := ⟨⟨by decide +kernel, by decide +kernel⟩, List.mem_of_getElem? (i := 1165) (by decide +kernel), List.mem_of_getElem? (i := 1396) (by decide +kernel), List.mem_of_getElem? (i := 1397) (by decide +kernel)⟩
theorem lw_p34 : lw_okq (⟨"MarkerTextModel", "skip", "()V"⟩, 52) := ⟨⟨by decide +kernel, by decide +kernel⟩, List.mem_of_getElem? (i := 1165) (by decide +kernel), List.mem_of_getElem? (i := 1400) (by decide +kernel), List.mem_of_getElem? (i := 1401) (by decide +kernel)⟩
theorem lw_p35 : lw_okq (⟨"MarkerTextModel", "readFirst", "()V"⟩, 52) := ⟨⟨by decide +kernel, by decide +kernel⟩, List.mem_of_getElem? (i := 1165) (by decide +kernel), List.mem_of_getElem? (i := 1404) (by decide +kernel), List.mem_of_getElem? (i := 1405) (by decide +kernel)⟩
theorem lw_p36 : lw_okq (⟨"MarkerTextModel", "now", "()I"⟩, 52) := ⟨⟨by decide +kernel, by decide +kernel⟩, List.mem_of_getElem? (i := 1165) (by decide +kernel), List.mem_of_getElem? (i := 1408) (by decide +kernel), List.mem_of_getElem? (i := 1409) (by decide +kernel)⟩
theorem lw_p37 : lw_okq (⟨"MarkerTextModel", "open", "(II)V"⟩, 52) := ⟨⟨by decide +kernel, by decide +kernel⟩, List.mem_of_getElem? (i := 1165) (by decide +kernel), List.mem_of_getElem? (i := 1412) (by decide +kernel), List.mem_of_getElem? (i := 1413) (by decide +kernel)⟩
theorem lw_p38 : lw_okq (⟨"MarkerTextModel", "fault", "(I)V"⟩, 52) := ⟨⟨by decide +kernel, by decide +kernel⟩, List.mem_of_getElem? (i := 1165) (by decide +kernel), List.mem_of_getElem? (i := 1416) (by decide +kernel), List.mem_of_getElem? (i := 1417) (by decide +kernel)⟩
theorem lw_p39 : lw_okq (⟨"MarkerTextModel", "push", "(I)V"⟩, 52) := ⟨⟨by decide +kernel, by decide +kernel⟩, List.mem_of_getElem? (i := 1165) (by decide +kernel), List.mem_of_getElem? (i := 1420) (by decide +kernel), List.mem_of_getElem? (i := 1421) (by decide +kernel)⟩
theorem lw_p40 : lw_okq (⟨"MarkerTextModel", "letters", "(I)I"⟩, 52) := ⟨⟨by decide +kernel, by decide +kernel⟩, List.mem_of_getElem? (i := 1165) (by decide +kernel), List.mem_of_getElem? (i := 1424) (by decide +kernel), List.mem_of_getElem? (i := 1425) (by decide +kernel)⟩
theorem lw_p41 : lw_okq (⟨"MarkerTextModel", "readTest", "(I)V"⟩, 52) := ⟨⟨by decide +kernel, by decide +kernel⟩, List.mem_of_getElem? (i := 1165) (by decide +kernel), List.mem_of_getElem? (i := 1428) (by decide +kernel), List.mem_of_getElem? (i := 1429) (by decide +kernel)⟩
theorem lw_p42 : lw_okq (⟨"MarkerTextModel", "readList", "(I)V"⟩, 52) := ⟨⟨by decide +kernel, by decide +kernel⟩, List.mem_of_getElem? (i := 1165) (by decide +kernel), List.mem_of_getElem? (i := 1432) (by decide +kernel), List.mem_of_getElem? (i := 1433) (by decide +kernel)⟩
theorem lw_p43 : lw_okq (⟨"MarkerTextModel", "expect", "(I)V"⟩, 52) := ⟨⟨by decide +kernel, by decide +kernel⟩, List.mem_of_getElem? (i := 1165) (by decide +kernel), List.mem_of_getElem? (i := 1436) (by decide +kernel), List.mem_of_getElem? (i := 1437) (by decide +kernel)⟩
theorem lw_p44 : lw_okq (⟨"MarkerTextModel", "readValue", "(I)V"⟩, 52) := ⟨⟨by decide +kernel, by decide +kernel⟩, List.mem_of_getElem? (i := 1165) (by decide +kernel), List.mem_of_getElem? (i := 1440) (by decide +kernel), List.mem_of_getElem? (i := 1441) (by decide +kernel)⟩
theorem lw_p45 : lw_okq (⟨"MarkerTextModel", "operator", "()I"⟩, 52) := ⟨⟨by decide +kernel, by decide +kernel⟩, List.mem_of_getElem? (i := 1165) (by decide +kernel), List.mem_of_getElem? (i := 1444) (by decide +kernel), List.mem_of_getElem? (i := 1445) (by decide +kernel)⟩
theorem lw_p46 : lw_okq (⟨"MarkerTextModel", "addTest", "(III)V"⟩, 52) := ⟨⟨by decide +kernel, by decide +kernel⟩, List.mem_of_getElem? (i := 1165) (by decide +kernel), List.mem_of_getElem? (i := 1448) (by decide +kernel), List.mem_of_getElem? (i := 1449) (by decide +kernel)⟩
theorem lw_p47 : lw_okq (⟨"MarkerTextModel", "addNode", "(III)I"⟩, 52) := ⟨⟨by decide +kernel, by decide +kernel⟩, List.mem_of_getElem? (i := 1165) (by decide +kernel), List.mem_of_getElem? (i := 1452) (by decide +kernel), List.mem_of_getElem? (i := 1453) (by decide +kernel)⟩
def lw_privs_3 : List (MethodName × Nat) := [(⟨"MarkerTextModel", "isVersion", "(II)Z"⟩, 52), (⟨"MarkerTextModel", "read", "()V"⟩, 52), (⟨"MarkerTextModel", "skip", "()V"⟩, 52), (⟨"MarkerTextModel", "readFirst", "()V"⟩, 52), (⟨"MarkerTextModel", "now", "()I"⟩, 52), (⟨"MarkerTextModel", "open", "(II)V"⟩, 52), (⟨"MarkerTextModel", "fault", "(I)V"⟩, 52), (⟨"MarkerTextModel", "push", "(I)V"⟩, 52), (⟨"MarkerTextModel", "letters", "(I)I"⟩, 52), (⟨"MarkerTextModel", "readTest", "(I)V"⟩, 52), (⟨"MarkerTextModel", "readList", "(I)V"⟩, 52), (⟨"MarkerTextModel", "expect", "(I)V"⟩, 52), (⟨"MarkerTextModel", "readValue", "(I)V"⟩, 52), (⟨"MarkerTextModel", "operator", "()I"⟩, 52), (⟨"MarkerTextModel", "addTest", "(III)V"⟩, 52), (⟨"MarkerTextModel", "addNode", "(III)I"⟩, 52)]
theorem lw_r3 : ∀ q ∈ lw_privs_3, lw_okq q := List.forall_mem_cons.mpr ⟨lw_p32, List.forall_mem_cons.mpr ⟨lw_p33, List.forall_mem_cons.mpr ⟨lw_p34, List.forall_mem_cons.mpr ⟨lw_p35, List.forall_mem_cons.mpr ⟨lw_p36, List.forall_mem_cons.mpr ⟨lw_p37, List.forall_mem_cons.mpr ⟨lw_p38, List.forall_mem_cons.mpr ⟨lw_p39, List.forall_mem_cons.mpr ⟨lw_p40, List.forall_mem_cons.mpr ⟨lw_p41, List.forall_mem_cons.mpr ⟨lw_p42, List.forall_mem_cons.mpr ⟨lw_p43, List.forall_mem_cons.mpr ⟨lw_p44, List.forall_mem_cons.mpr ⟨lw_p45, List.forall_mem_cons.mpr ⟨lw_p46, List.forall_mem_cons.mpr ⟨lw_p47, fun _ h => absurd h List.not_mem_nil⟩⟩⟩⟩⟩⟩⟩⟩⟩⟩⟩⟩⟩⟩⟩⟩
theorem lw_p48 : lw_okq (⟨"MarkerTextModel", "complete", "()V"⟩, 52) := ⟨⟨by decide +kernel, by decide +kernel⟩, List.mem_of_getElem? (i := 1165) (by decide +kernel), List.mem_of_getElem? (i := 1456) (by decide +kernel), List.mem_of_getElem? (i := 1457) (by decide +kernel)⟩
theorem lw_p49 : lw_okq (⟨"MarkerTextModel", "isOnTop", "(I)Z"⟩, 52) := ⟨⟨by decide +kernel, by decide +kernel⟩, List.mem_of_getElem? (i := 1165) (by decide +kernel), List.mem_of_getElem? (i := 1460) (by decide +kernel), List.mem_of_getElem? (i := 1461) (by decide +kernel)⟩
theorem lw_p50 : lw_okq (⟨"MarkerTextModel", "apply", "()V"⟩, 52) := ⟨⟨by decide +kernel, by decide +kernel⟩, List.mem_of_getElem? (i := 1165) (by decide +kernel), List.mem_of_getElem? (i := 1464) (by decide +kernel), List.mem_of_getElem? (i := 1465) (by decide +kernel)⟩
theorem lw_p51 : lw_okq (⟨"MarkerTextModel", "readNext", "()Z"⟩, 52) := ⟨⟨by decide +kernel, by decide +kernel⟩, List.mem_of_getElem? (i := 1165) (by decide +kernel), List.mem_of_getElem? (i := 1468) (by decide +kernel), List.mem_of_getElem? (i := 1469) (by decide +kernel)⟩
theorem lw_p52 : lw_okq (⟨"MarkerTextModel", "isCondition", "(I)Z"⟩, 52) := ⟨⟨by decide +kernel, by decide +kernel⟩, List.mem_of_getElem? (i := 1165) (by decide +kernel), List.mem_of_getElem? (i := 1480) (by decide +kernel), List.mem_of_getElem? (i := 1481) (by decide +kernel)⟩
theorem lw_p53 : lw_okq (⟨"MarkerTextModel", "isHeld", "(IZ)Z"⟩, 52) := ⟨⟨by decide +kernel, by decide +kernel⟩, List.mem_of_getElem? (i := 1165) (by decide +kernel), List.mem_of_getElem? (i := 1484) (by decide +kernel), List.mem_of_getElem? (i := 1485) (by decide +kernel)⟩
theorem lw_p54 : lw_okq (⟨"MarkerTextModel", "isTrue", "(IZ)Z"⟩, 52) := ⟨⟨by decide +kernel, by decide +kernel⟩, List.mem_of_getElem? (i := 1165) (by decide +kernel), List.mem_of_getElem? (i := 1488) (by decide +kernel), List.mem_of_getElem? (i := 1489) (by decide +kernel)⟩
theorem lw_p55 : lw_okq (⟨"MarkerTextModel", "some", "(III)I"⟩, 52) := ⟨⟨by decide +kernel, by decide +kernel⟩, List.mem_of_getElem? (i := 1165) (by decide +kernel), List.mem_of_getElem? (i := 1499) (by decide +kernel), List.mem_of_getElem? (i := 1500) (by decide +kernel)⟩
theorem lw_p56 : lw_okq (⟨"MarkerTextModel", "prepare", "(I)Z"⟩, 52) := ⟨⟨by decide +kernel, by decide +kernel⟩, List.mem_of_getElem? (i := 1165) (by decide +kernel), List.mem_of_getElem? (i := 1503) (by decide +kernel), List.mem_of_getElem? (i := 1504) (by decide +kernel)⟩
theorem lw_p57 : lw_okq (⟨"MarkerTextModel", "gather", "(I)V"⟩, 52) := ⟨⟨by decide +kernel, by decide +kernel⟩, List.mem_of_getElem? (i := 1165) (by decide +kernel), List.mem_of_getElem? (i := 1507) (by decide +kernel), List.mem_of_getElem? (i := 1508) (by decide +kernel)⟩
theorem lw_p58 : lw_okq (⟨"MarkerTextModel", "sort", "(IJ)V"⟩, 52) := ⟨⟨by decide +kernel, by decide +kernel⟩, List.mem_of_getElem? (i := 1165) (by decide +kernel), List.mem_of_getElem? (i := 1511) (by decide +kernel), List.mem_of_getElem? (i := 1512) (by decide +kernel)⟩
theorem lw_p59 : lw_okq (⟨"MarkerTextModel", "samples", "(I)I"⟩, 52) := ⟨⟨by decide +kernel, by decide +kernel⟩, List.mem_of_getElem? (i := 1165) (by decide +kernel), List.mem_of_getElem? (i := 1516) (by decide +kernel), List.mem_of_getElem? (i := 1517) (by decide +kernel)⟩
theorem lw_p60 : lw_okq (⟨"MarkerTextModel", "locate", "(I)V"⟩, 52) := ⟨⟨by decide +kernel, by decide +kernel⟩, List.mem_of_getElem? (i := 1165) (by decide +kernel), List.mem_of_getElem? (i := 1520) (by decide +kernel), List.mem_of_getElem? (i := 1521) (by decide +kernel)⟩
theorem lw_p61 : lw_okq (⟨"MarkerTextModel", "truth", "(I)I"⟩, 52) := ⟨⟨by decide +kernel, by decide +kernel⟩, List.mem_of_getElem? (i := 1165) (by decide +kernel), List.mem_of_getElem? (i := 1524) (by decide +kernel), List.mem_of_getElem? (i := 1525) (by decide +kernel)⟩
theorem lw_p62 : lw_okq (⟨"MarkerTextModel", "advance", "()Z"⟩, 52) := ⟨⟨by decide +kernel, by decide +kernel⟩, List.mem_of_getElem? (i := 1165) (by decide +kernel), List.mem_of_getElem? (i := 1528) (by decide +kernel), List.mem_of_getElem? (i := 1529) (by decide +kernel)⟩
theorem lw_p63 : lw_okq (⟨"MarkerTextModel", "print", "(I)V"⟩, 52) := ⟨⟨by decide +kernel, by decide +kernel⟩, List.mem_of_getElem? (i := 1165) (by decide +kernel), List.mem_of_getElem? (i := 1560) (by decide +kernel), List.mem_of_getElem? (i := 1561) (by decide +kernel)⟩
def lw_privs_4 : List (MethodName × Nat) := [(⟨"MarkerTextModel", "complete", "()V"⟩, 52), (⟨"MarkerTextModel", "isOnTop", "(I)Z"⟩, 52), (⟨"MarkerTextModel", "apply", "()V"⟩, 52), (⟨"MarkerTextModel", "readNext", "()Z"⟩, 52), (⟨"MarkerTextModel", "isCondition", "(I)Z"⟩, 52), (⟨"MarkerTextModel", "isHeld", "(IZ)Z"⟩, 52), (⟨"MarkerTextModel", "isTrue", "(IZ)Z"⟩, 52), (⟨"MarkerTextModel", "some", "(III)I"⟩, 52), (⟨"MarkerTextModel", "prepare", "(I)Z"⟩, 52), (⟨"MarkerTextModel", "gather", "(I)V"⟩, 52), (⟨"MarkerTextModel", "sort", "(IJ)V"⟩, 52), (⟨"MarkerTextModel", "samples", "(I)I"⟩, 52), (⟨"MarkerTextModel", "locate", "(I)V"⟩, 52), (⟨"MarkerTextModel", "truth", "(I)I"⟩, 52), (⟨"MarkerTextModel", "advance", "()Z"⟩, 52), (⟨"MarkerTextModel", "print", "(I)V"⟩, 52)]
theorem lw_r4 : ∀ q ∈ lw_privs_4, lw_okq q := List.forall_mem_cons.mpr ⟨lw_p48, List.forall_mem_cons.mpr ⟨lw_p49, List.forall_mem_cons.mpr ⟨lw_p50, List.forall_mem_cons.mpr ⟨lw_p51, List.forall_mem_cons.mpr ⟨lw_p52, List.forall_mem_cons.mpr ⟨lw_p53, List.forall_mem_cons.mpr ⟨lw_p54, List.forall_mem_cons.mpr ⟨lw_p55, List.forall_mem_cons.mpr ⟨lw_p56, List.forall_mem_cons.mpr ⟨lw_p57, List.forall_mem_cons.mpr ⟨lw_p58, List.forall_mem_cons.mpr ⟨lw_p59, List.forall_mem_cons.mpr ⟨lw_p60, List.forall_mem_cons.mpr ⟨lw_p61, List.forall_mem_cons.mpr ⟨lw_p62, List.forall_mem_cons.mpr ⟨lw_p63, fun _ h => absurd h List.not_mem_nil⟩⟩⟩⟩⟩⟩⟩⟩⟩⟩⟩⟩⟩⟩⟩⟩
theorem lw_p64 : lw_okq (⟨"MarkerTextModel", "later", "(I)V"⟩, 52) := ⟨⟨by decide +kernel, by decide +kernel⟩, List.mem_of_getElem? (i := 1165) (by decide +kernel), List.mem_of_getElem? (i := 1564) (by decide +kernel), List.mem_of_getElem? (i := 1565) (by decide +kernel)⟩
theorem lw_p65 : lw_okq (⟨"MarkerTextModel", "putAll", "(J)V"⟩, 52) := ⟨⟨by decide +kernel, by decide +kernel⟩, List.mem_of_getElem? (i := 1165) (by decide +kernel), List.mem_of_getElem? (i := 1570) (by decide +kernel), List.mem_of_getElem? (i := 1571) (by decide +kernel)⟩
theorem lw_p66 : lw_okq (⟨"MarkerTextModel", "put", "(I)V"⟩, 52) := ⟨⟨by decide +kernel, by decide +kernel⟩, List.mem_of_getElem? (i := 1165) (by decide +kernel), List.mem_of_getElem? (i := 1575) (by decide +kernel), List.mem_of_getElem? (i := 1576) (by decide +kernel)⟩
theorem lw_p67 : lw_okq (⟨"MarkerTextModel", "printTest", "(I)V"⟩, 52) := ⟨⟨by decide +kernel, by decide +kernel⟩, List.mem_of_getElem? (i := 1165) (by decide +kernel), List.mem_of_getElem? (i := 1579) (by decide +kernel), List.mem_of_getElem? (i := 1580) (by decide +kernel)⟩
theorem lw_p68 : lw_okq (⟨"MarkerTextModel", "laterNode", "(IZ)V"⟩, 52) := ⟨⟨by decide +kernel, by decide +kernel⟩, List.mem_of_getElem? (i := 1165) (by decide +kernel), List.mem_of_getElem? (i := 1598) (by decide +kernel), List.mem_of_getElem? (i := 1599) (by decide +kernel)⟩
def lw_privs_5 : List (MethodName × Nat) := [(⟨"MarkerTextModel", "later", "(I)V"⟩, 52), (⟨"MarkerTextModel", "putAll", "(J)V"⟩, 52), (⟨"MarkerTextModel", "put", "(I)V"⟩, 52), (⟨"MarkerTextModel", "printTest", "(I)V"⟩, 52), (⟨"MarkerTextModel", "laterNode", "(IZ)V"⟩, 52)]
theorem lw_r5 : ∀ q ∈ lw_privs_5, lw_okq q := List.forall_mem_cons.mpr ⟨lw_p64, List.forall_mem_cons.mpr ⟨lw_p65, List.forall_mem_cons.mpr ⟨lw_p66, List.forall_mem_cons.mpr ⟨lw_p67, List.forall_mem_cons.mpr ⟨lw_p68, fun _ h => absurd h List.not_mem_nil⟩⟩⟩⟩⟩
def lw_privs : List (MethodName × Nat) := lw_privs_1 ++ (lw_privs_2 ++ (lw_privs_3 ++ (lw_privs_4 ++ (lw_privs_5))))
def lw_tbl : List Cond := k2_sels lw_privs ++ tables_1
theorem lw_privs_ok : ∀ q ∈ lw_privs, lw_okq q := by
  show ∀ q ∈ lw_privs_1 ++ (lw_privs_2 ++ (lw_privs_3 ++ (lw_privs_4 ++ (lw_privs_5)))), lw_okq q
  exact List.forall_mem_append.mpr ⟨lw_r1, List.forall_mem_append.mpr ⟨lw_r2, List.forall_mem_append.mpr ⟨lw_r3, List.forall_mem_append.mpr ⟨lw_r4, lw_r5⟩⟩⟩⟩
-- ===== end of PART A; then your names; then what follows =====
end
section
section XK
/-- which words go along when the tables warm -/
def xgw (w : Cond) : Bool := (w.onTables && w.keeps) || match w with
  | .arrayClass _ => true
  | .fieldLinkNest _ _ _ _ _ _ => true
  | .methodLinkNest _ _ _ _ => true
  | .declares _ => true
  | .castable _ _ => true
  | .arrayOver (.object _) => true
  | _ => false
/-- the words of the tables that a contract carries -/
def xT : List Cond := lw_tbl.filter (fun w => w.onTables && xgw w)
theorem xT_on (w : Cond) (h : w ∈ xT) : w.onTables = true := (Bool.and_eq_true_iff.mp (List.mem_filter.mp h).2).1
theorem xT_gw (w : Cond) (h : w ∈ xT) : xgw w = true := (Bool.and_eq_true_iff.mp (List.mem_filter.mp h).2).2
theorem xT_tbl {w : Cond} (h : w ∈ tables_1) (hg : (w.onTables && xgw w) = true) : w ∈ xT := List.mem_filter.mpr ⟨List.mem_append_right _ h, hg⟩
theorem xT_at {w : Cond} (i : Nat) (h : tables_1[i]? = some w) (hg : (w.onTables && xgw w) = true) : w ∈ xT := xT_tbl (List.mem_of_getElem? h) hg
theorem xT_sel {q : MethodName × Nat} (h : q ∈ lw_privs) (hg : ((Cond.selects q.1.cls q.1 q.1).onTables && xgw (Cond.selects q.1.cls q.1 q.1)) = true) : Cond.selects q.1.cls q.1 q.1 ∈ xT := List.mem_filter.mpr ⟨List.mem_append_left _ (List.mem_map.mpr ⟨q, h, rfl⟩), hg⟩
theorem xT_many (ps : List Nat) (ws : List Cond) (h : ws.map some = ps.map (fun i => tables_1[i]?)) (hg : ws.all (fun w => w.onTables && xgw w) = true) : ∀ w ∈ ws, w ∈ xT := by
  intro w hw
  refine xT_tbl ?_ (List.all_eq_true.mp hg w hw)
  have h1 : some w ∈ ps.map (fun i => tables_1[i]?) := by rw [← h]; exact List.mem_map.mpr ⟨w, hw, rfl⟩
  obtain ⟨i, -, hi⟩ := List.mem_map.mp h1
  exact List.mem_of_getElem? hi
abbrev R_MarkerText : String := "MarkerText"
def T_MarkerText : u_T := fun k => match k with
  | 0 => ("MarkerText", "text", "Ljava/lang/StringBuilder;", true)
  | 1 => ("MarkerText", "names", "[LMarkerText$Name;", true)
  | 2 => ("MarkerText", "nameCount", "I", false)
  | 3 => ("MarkerText", "conditions", "[LMarkerText$Condition;", true)
  | 4 => ("MarkerText", "conditionCount", "I", false)
  | 5 => ("MarkerText", "illPlace", "I", false)
  | 6 => ("MarkerText", "environment", "[J", true)
  | 7 => ("MarkerText", "choices", "LMarkerText$Choices;", true)
  | _ => ("MarkerText", "parting", "LMarkerText$Parting;", true)
abbrev k_MarkerText : Nat := 0
abbrev R_StringBuilder : String := "java/lang/StringBuilder"
def T_StringBuilder : u_T := fun k => match k with
  | 0 => ("java/lang/AbstractStringBuilder", "value", "[B", false)
  | 1 => ("java/lang/AbstractStringBuilder", "coder", "B", false)
  | 2 => ("java/lang/AbstractStringBuilder", "maybeLatin1", "Z", false)
  | _ => ("java/lang/AbstractStringBuilder", "count", "I", false)
abbrev k_StringBuilder : Nat := 1
abbrev R_Choices : String := "MarkerText$Choices"
def T_Choices : u_T := fun k => match k with
  | 0 => ("MarkerText$Choices", "values", "[J", true)
  | 1 => ("MarkerText$Choices", "used", "I", false)
  | 2 => ("MarkerText$Choices", "starts", "[I", true)
  | 3 => ("MarkerText$Choices", "samples", "[I", true)
  | 4 => ("MarkerText$Choices", "picks", "[I", true)
  | 5 => ("MarkerText$Choices", "levels", "[J", true)
  | _ => ("MarkerText$Choices", "count", "I", false)
abbrev k_Choices : Nat := 2
abbrev R_Parting : String := "MarkerText$Parting"
def T_Parting : u_T := fun k => match k with
  | 0 => ("MarkerText$Parting", "count", "I", false)
  | 1 => ("MarkerText$Parting", "truths", "[I", true)
  | 2 => ("MarkerText$Parting", "sizes", "[I", true)
  | 3 => ("MarkerText$Parting", "firsts", "[I", true)
  | 4 => ("MarkerText$Parting", "classOfTruths", "[I", true)
  | _ => ("MarkerText$Parting", "samples", "[I", true)
abbrev k_Parting : Nat := 3
abbrev R_String : String := "java/lang/String"
def T_String : u_T := fun k => match k with
  | 0 => ("java/lang/String", "value", "[B", true)
  | 1 => ("java/lang/String", "coder", "B", true)
  | 2 => ("java/lang/String", "hash", "I", false)
  | _ => ("java/lang/String", "hashIsZero", "Z", false)
abbrev k_String : Nat := 4
abbrev R_IllegalArgumentException : String := "java/lang/IllegalArgumentException"
def T_IllegalArgumentException : u_T := fun k => match k with
  | 0 => ("java/lang/Throwable", "cause", "Ljava/lang/Throwable;", false)
  | 1 => ("java/lang/Throwable", "stackTrace", "[Ljava/lang/StackTraceElement;", false)
  | 2 => ("java/lang/Throwable", "suppressedExceptions", "Ljava/util/List;", false)
  | 3 => ("java/lang/Throwable", "detailMessage", "Ljava/lang/String;", false)
  | 4 => ("java/lang/Throwable", "backtrace", "Ljava/lang/Object;", false)
  | _ => ("java/lang/Throwable", "depth", "I", false)
abbrev k_IllegalArgumentException : Nat := 5
abbrev R_IllegalStateException : String := "java/lang/IllegalStateException"
def T_IllegalStateException : u_T := fun k => match k with
  | 0 => ("java/lang/Throwable", "cause", "Ljava/lang/Throwable;", false)
  | 1 => ("java/lang/Throwable", "stackTrace", "[Ljava/lang/StackTraceElement;", false)
  | 2 => ("java/lang/Throwable", "suppressedExceptions", "Ljava/util/List;", false)
  | 3 => ("java/lang/Throwable", "detailMessage", "Ljava/lang/String;", false)
  | 4 => ("java/lang/Throwable", "backtrace", "Ljava/lang/Object;", false)
  | _ => ("java/lang/Throwable", "depth", "I", false)
abbrev k_IllegalStateException : Nat := 6
abbrev R_Name : String := "MarkerText$Name"
def T_Name : u_T := fun k => match k with
  | 0 => ("MarkerText$Name", "spelling", "Ljava/lang/String;", true)
  | 1 => ("MarkerText$Name", "kind", "I", true)
  | 2 => ("MarkerText$Name", "known", "[J", true)
  | _ => ("MarkerText$Name", "knownCount", "I", false)
abbrev k_Name : Nat := 7
abbrev R_Reader : String := "MarkerText$Reader"
def T_Reader : u_T := fun k => match k with
  | 0 => ("MarkerText$Reader", "text", "Ljava/lang/String;", true)
  | 1 => ("MarkerText$Reader", "names", "[LMarkerText$Name;", true)
  | 2 => ("MarkerText$Reader", "tests", "Ljava/util/ArrayList;", true)
  | 3 => ("MarkerText$Reader", "line", "Ljava/lang/StringBuilder;", true)
  | 4 => ("MarkerText$Reader", "at", "I", false)
  | 5 => ("MarkerText$Reader", "open", "I", false)
  | _ => ("MarkerText$Reader", "testCount", "I", false)
abbrev k_Reader : Nat := 8
abbrev R_ArrayList : String := "java/util/ArrayList"
def T_ArrayList : u_T := fun k => match k with
  | 0 => ("java/util/ArrayList", "elementData", "[Ljava/lang/Object;", false)
  | 1 => ("java/util/ArrayList", "size", "I", false)
  | _ => ("java/util/AbstractList", "modCount", "I", false)
abbrev k_ArrayList : Nat := 9
abbrev R_Negation : String := "MarkerText$Negation"
def T_Negation : u_T := fun k => match k with
  | 0 => ("MarkerText$Negation", "inner", "LMarkerText$Node;", true)
  | _ => ("MarkerText$Node", "strength", "I", true)
abbrev k_Negation : Nat := 10
abbrev R_Constant : String := "MarkerText$Constant"
def T_Constant : u_T := fun k => match k with
  | 0 => ("MarkerText$Constant", "truth", "Z", true)
  | _ => ("MarkerText$Node", "strength", "I", true)
abbrev k_Constant : Nat := 11
abbrev R_Test : String := "MarkerText$Test"
def T_Test : u_T := fun k => match k with
  | 0 => ("MarkerText$Test", "name", "I", true)
  | 1 => ("MarkerText$Test", "accepted", "I", true)
  | 2 => ("MarkerText$Test", "values", "[J", true)
  | 3 => ("MarkerText$Test", "shown", "Ljava/lang/String;", true)
  | _ => ("MarkerText$Node", "strength", "I", true)
abbrev k_Test : Nat := 12
abbrev R_Join : String := "MarkerText$Join"
def T_Join : u_T := fun k => match k with
  | 0 => ("MarkerText$Join", "first", "LMarkerText$Node;", true)
  | 1 => ("MarkerText$Join", "second", "LMarkerText$Node;", true)
  | _ => ("MarkerText$Node", "strength", "I", true)
abbrev k_Join : Nat := 13
abbrev R_Condition : String := "MarkerText$Condition"
def T_Condition : u_T := fun k => match k with
  | 0 => ("MarkerText$Condition", "root", "LMarkerText$Node;", true)
  | 1 => ("MarkerText$Condition", "tests", "Ljava/util/ArrayList;", true)
  | _ => ("MarkerText$Condition", "shown", "Ljava/lang/String;", true)
abbrev k_Condition : Nat := 14
abbrev R_MarkerTextModel : String := "MarkerTextModel"
def T_MarkerTextModel : u_T := fun k => match k with
  | 0 => ("MarkerTextModel", "thrown", "I", false)
  | 1 => ("MarkerTextModel", "text", "[I", true)
  | 2 => ("MarkerTextModel", "size", "I", false)
  | 3 => ("MarkerTextModel", "names", "I", false)
  | 4 => ("MarkerTextModel", "letters", "[I", true)
  | 5 => ("MarkerTextModel", "lengths", "[I", true)
  | 6 => ("MarkerTextModel", "kinds", "[I", true)
  | 7 => ("MarkerTextModel", "knownMany", "[I", true)
  | 8 => ("MarkerTextModel", "known", "[J", true)
  | 9 => ("MarkerTextModel", "given", "[Z", true)
  | 10 => ("MarkerTextModel", "gives", "[J", true)
  | 11 => ("MarkerTextModel", "conditions", "I", false)
  | 12 => ("MarkerTextModel", "nodeKinds", "[I", true)
  | 13 => ("MarkerTextModel", "lefts", "[I", true)
  | 14 => ("MarkerTextModel", "rights", "[I", true)
  | 15 => ("MarkerTextModel", "nodes", "[I", true)
  | 16 => ("MarkerTextModel", "tops", "[I", true)
  | 17 => ("MarkerTextModel", "testNames", "[I", true)
  | 18 => ("MarkerTextModel", "operators", "[I", true)
  | 19 => ("MarkerTextModel", "firsts", "[I", true)
  | 20 => ("MarkerTextModel", "manies", "[I", true)
  | 21 => ("MarkerTextModel", "tests", "[I", true)
  | 22 => ("MarkerTextModel", "keys", "[J", true)
  | 23 => ("MarkerTextModel", "written", "[I", true)
  | 24 => ("MarkerTextModel", "writtenSizes", "[I", true)
  | 25 => ("MarkerTextModel", "places", "[I", true)
  | 26 => ("MarkerTextModel", "values", "[I", true)
  | 27 => ("MarkerTextModel", "at", "I", false)
  | 28 => ("MarkerTextModel", "slot", "I", false)
  | 29 => ("MarkerTextModel", "wrong", "I", false)
  | 30 => ("MarkerTextModel", "place", "I", false)
  | 31 => ("MarkerTextModel", "piles", "[I", true)
  | 32 => ("MarkerTextModel", "pile", "I", false)
  | 33 => ("MarkerTextModel", "opens", "I", false)
  | 34 => ("MarkerTextModel", "ready", "[I", true)
  | 35 => ("MarkerTextModel", "readyMany", "I", false)
  | 36 => ("MarkerTextModel", "key", "J", false)
  | 37 => ("MarkerTextModel", "sorted", "[J", true)
  | 38 => ("MarkerTextModel", "many", "[I", true)
  | 39 => ("MarkerTextModel", "asked", "[Z", true)
  | 40 => ("MarkerTextModel", "choice", "[I", true)
  | 41 => ("MarkerTextModel", "truths", "[Z", true)
  | 42 => ("MarkerTextModel", "classes", "I", false)
  | 43 => ("MarkerTextModel", "classSet", "I", false)
  | 44 => ("MarkerTextModel", "classNames", "I", false)
  | 45 => ("MarkerTextModel", "classBits", "[I", true)
  | 46 => ("MarkerTextModel", "classMany", "[I", true)
  | 47 => ("MarkerTextModel", "classSamples", "[I", true)
  | 48 => ("MarkerTextModel", "print", "[I", true)
  | 49 => ("MarkerTextModel", "printed", "I", false)
  | 50 => ("MarkerTextModel", "todo", "[I", true)
  | _ => ("MarkerTextModel", "todoMany", "I", false)
abbrev k_MarkerTextModel : Nat := 15
abbrev k_abyte : Nat := 16
abbrev k_aint : Nat := 17
abbrev k_along : Nat := 18
abbrev k_aboolean : Nat := 19
abbrev k_aName : Nat := 20
abbrev k_aCondition : Nat := 21
abbrev k_aObject : Nat := 22
def xk : List (vw_C ⊕ FieldType) := [.inl (R_MarkerText, T_MarkerText, 9), .inl (R_StringBuilder, T_StringBuilder, 4), .inl (R_Choices, T_Choices, 7), .inl (R_Parting, T_Parting, 6), .inl (R_String, T_String, 4), .inl (R_IllegalArgumentException, T_IllegalArgumentException, 6), .inl (R_IllegalStateException, T_IllegalStateException, 6), .inl (R_Name, T_Name, 4), .inl (R_Reader, T_Reader, 7), .inl (R_ArrayList, T_ArrayList, 3), .inl (R_Negation, T_Negation, 2), .inl (R_Constant, T_Constant, 2), .inl (R_Test, T_Test, 5), .inl (R_Join, T_Join, 3), .inl (R_Condition, T_Condition, 3), .inl (R_MarkerTextModel, T_MarkerTextModel, 52), .inr (.byte), .inr (.int), .inr (.long), .inr (.boolean), .inr (.object "MarkerText$Name"), .inr (.object "MarkerText$Condition"), .inr (.object "java/lang/Object")]
def xkP : vw_C ⊕ FieldType → Prop
  | .inl q => (∀ w ∈ u_ws q.1 q.2.1 q.2.2, w ∈ xT) ∧ (∀ j, j < q.2.2 → (parseFieldDescriptor (q.2.1 j).2.2.1).isSome = true) ∧ (∀ a, a < q.2.2 → ∀ b, b < q.2.2 → a ≠ b → (q.2.1 a).2.1 ≠ (q.2.1 b).2.1)
  | .inr _ => True
theorem xkp_MarkerText : xkP (.inl (R_MarkerText, T_MarkerText, 9)) := ⟨xT_many [149, 151, 153, 155, 157, 159, 161, 163, 165] _ (by decide +kernel) (by decide +kernel), by decide +kernel, by decide +kernel⟩
theorem xkp_StringBuilder : xkP (.inl (R_StringBuilder, T_StringBuilder, 4)) := ⟨xT_many [65, 67, 69, 71] _ (by decide +kernel) (by decide +kernel), by decide +kernel, by decide +kernel⟩
theorem xkp_Choices : xkP (.inl (R_Choices, T_Choices, 7)) := ⟨xT_many [95, 97, 99, 101, 103, 105, 107] _ (by decide +kernel) (by decide +kernel), by decide +kernel, by decide +kernel⟩
theorem xkp_Parting : xkP (.inl (R_Parting, T_Parting, 6)) := ⟨xT_many [127, 129, 131, 133, 135, 137] _ (by decide +kernel) (by decide +kernel), by decide +kernel, by decide +kernel⟩
theorem xkp_String : xkP (.inl (R_String, T_String, 4)) := ⟨xT_many [635, 637, 639, 641] _ (by decide +kernel) (by decide +kernel), by decide +kernel, by decide +kernel⟩
theorem xkp_IllegalArgumentException : xkP (.inl (R_IllegalArgumentException, T_IllegalArgumentException, 6)) := ⟨xT_many [501, 503, 505, 507, 509, 619] _ (by decide +kernel) (by decide +kernel), by decide +kernel, by decide +kernel⟩
theorem xkp_IllegalStateException : xkP (.inl (R_IllegalStateException, T_IllegalStateException, 6)) := ⟨xT_many [702, 703, 704, 705, 706, 712] _ (by decide +kernel) (by decide +kernel), by decide +kernel, by decide +kernel⟩
theorem xkp_Name : xkP (.inl (R_Name, T_Name, 4)) := ⟨xT_many [728, 730, 732, 734] _ (by decide +kernel) (by decide +kernel), by decide +kernel, by decide +kernel⟩
theorem xkp_Reader : xkP (.inl (R_Reader, T_Reader, 7)) := ⟨xT_many [865, 867, 869, 871, 873, 875, 877] _ (by decide +kernel) (by decide +kernel), by decide +kernel, by decide +kernel⟩
theorem xkp_ArrayList : xkP (.inl (R_ArrayList, T_ArrayList, 3)) := ⟨xT_many [848, 850, 852] _ (by decide +kernel) (by decide +kernel), by decide +kernel, by decide +kernel⟩
theorem xkp_Negation : xkP (.inl (R_Negation, T_Negation, 2)) := ⟨xT_many [951, 953] _ (by decide +kernel) (by decide +kernel), by decide +kernel, by decide +kernel⟩
theorem xkp_Constant : xkP (.inl (R_Constant, T_Constant, 2)) := ⟨xT_many [970, 972] _ (by decide +kernel) (by decide +kernel), by decide +kernel, by decide +kernel⟩
theorem xkp_Test : xkP (.inl (R_Test, T_Test, 5)) := ⟨xT_many [1025, 1027, 1029, 1031, 1033] _ (by decide +kernel) (by decide +kernel), by decide +kernel, by decide +kernel⟩
theorem xkp_Join : xkP (.inl (R_Join, T_Join, 3)) := ⟨xT_many [1093, 1095, 1097] _ (by decide +kernel) (by decide +kernel), by decide +kernel, by decide +kernel⟩
theorem xkp_Condition : xkP (.inl (R_Condition, T_Condition, 3)) := ⟨xT_many [1147, 1149, 1151] _ (by decide +kernel) (by decide +kernel), by decide +kernel, by decide +kernel⟩
theorem xkp_MarkerTextModel : xkP (.inl (R_MarkerTextModel, T_MarkerTextModel, 52)) := ⟨xT_many [1222, 1224, 1226, 1228, 1230, 1232, 1234, 1236, 1238, 1240, 1242, 1244, 1246, 1248, 1250, 1252, 1254, 1256, 1258, 1260, 1262, 1264, 1266, 1268, 1270, 1272, 1274, 1276, 1278, 1280, 1282, 1284, 1286, 1288, 1290, 1292, 1294, 1296, 1298, 1300, 1302, 1304, 1306, 1308, 1310, 1312, 1314, 1316, 1318, 1320, 1322, 1324] _ (by decide +kernel) (by decide +kernel), by decide +kernel, by decide +kernel⟩
theorem xk_all : ∀ e ∈ xk, xkP e := List.forall_mem_cons.mpr ⟨xkp_MarkerText, List.forall_mem_cons.mpr ⟨xkp_StringBuilder, List.forall_mem_cons.mpr ⟨xkp_Choices, List.forall_mem_cons.mpr ⟨xkp_Parting, List.forall_mem_cons.mpr ⟨xkp_String, List.forall_mem_cons.mpr ⟨xkp_IllegalArgumentException, List.forall_mem_cons.mpr ⟨xkp_IllegalStateException, List.forall_mem_cons.mpr ⟨xkp_Name, List.forall_mem_cons.mpr ⟨xkp_Reader, List.forall_mem_cons.mpr ⟨xkp_ArrayList, List.forall_mem_cons.mpr ⟨xkp_Negation, List.forall_mem_cons.mpr ⟨xkp_Constant, List.forall_mem_cons.mpr ⟨xkp_Test, List.forall_mem_cons.mpr ⟨xkp_Join, List.forall_mem_cons.mpr ⟨xkp_Condition, List.forall_mem_cons.mpr ⟨xkp_MarkerTextModel, List.forall_mem_cons.mpr ⟨trivial, List.forall_mem_cons.mpr ⟨trivial, List.forall_mem_cons.mpr ⟨trivial, List.forall_mem_cons.mpr ⟨trivial, List.forall_mem_cons.mpr ⟨trivial, List.forall_mem_cons.mpr ⟨trivial, List.forall_mem_cons.mpr ⟨trivial, fun _ h => absurd h List.not_mem_nil⟩⟩⟩⟩⟩⟩⟩⟩⟩⟩⟩⟩⟩⟩⟩⟩⟩⟩⟩⟩⟩⟩⟩
theorem xk_lay {k : Nat} {C : String} {T : u_T} {N : Nat} (h : xk[k]? = some (.inl (C, T, N))) : ∀ w ∈ u_ws C T N, w ∈ xT := (xk_all _ (List.mem_of_getElem? h)).1
theorem xk_ty {k : Nat} {C : String} {T : u_T} {N : Nat} (h : xk[k]? = some (.inl (C, T, N))) : ∀ j, j < N → ∃ ty, parseFieldDescriptor (T j).2.2.1 = some ty := fun j hj => Option.isSome_iff_exists.mp ((xk_all _ (List.mem_of_getElem? h)).2.1 j hj)
theorem xk_nm {k : Nat} {C : String} {T : u_T} {N : Nat} (h : xk[k]? = some (.inl (C, T, N))) : ∀ a, a < N → ∀ b, b < N → a ≠ b → (T a).2.1 ≠ (T b).2.1 := (xk_all _ (List.mem_of_getElem? h)).2.2
/-- the String constants: whose pool, which entry, the text, our number for it -/
def xStr : List (String × Nat × String × Nat) := [("java/util/Arrays", 337, " > ", 0), ("java/util/Arrays", 48, "fromIndex(", 1), ("java/util/Arrays", 57, ") > toIndex(", 2), ("java/util/Arrays", 59, ")", 3), ("MarkerText", 216, "or", 4), ("MarkerText", 222, "and", 5), ("MarkerText", 224, "not", 6), ("MarkerText", 226, "in", 7), ("MarkerText", 228, "true", 8), ("MarkerText", 230, "false", 9), ("MarkerText", 78, "no new name", 10), ("MarkerText", 83, "no such kind", 11), ("MarkerText", 87, "too many names", 12), ("MarkerText", 97, "no such name", 13), ("MarkerText$Name", 33, ".0123456789abcdefghijklmnopqrstuvwxyz", 14), ("MarkerText", 110, "no new value of the name's kind", 15), ("MarkerText", 115, "too many known values", 16), ("java/lang/StringLatin1", 151, "", 17), ("java/lang/StringUTF16", 295, "", 18), ("MarkerText$Reader", 95, "not", 19), ("MarkerText$Reader", 109, "true", 20), ("MarkerText$Reader", 111, "false", 21), ("MarkerText$Reader", 146, "in", 22), ("MarkerText$Reader", 176, ", ", 23), ("MarkerText$Reader", 79, "or", 24), ("MarkerText$Reader", 81, "and", 25), ("MarkerText$Constant", 13, "true", 26), ("MarkerText$Constant", 15, "false", 27), ("MarkerText$Negation", 17, "not ", 28), ("MarkerText$Join", 29, " or ", 29), ("MarkerText$Join", 31, " and ", 30), ("MarkerText", 133, "the text is ill", 31), ("MarkerText", 135, "too many conditions", 32), ("MarkerText", 141, "no value of the name's kind", 33)]
abbrev xCB : Nat := 601024
abbrev xSB : Nat := 7293034
end XK
end
section
/-! A SMALL MACHINE OVER THE KIT'S: cells as lists of values, a heap as a function, budgets as two numbers. XW: from this frame the method comes to its end with P. XM: a method's contract at one start. -/
section XC
/-- our cells: address to kind and contents -/
abbrev XH : Type := Nat → Option (Nat × List Value)
/-- class numbers and slots; where our cells begin; the cells that stay as they are; the places of strings and statics -/
abbrev XG : Type := va_G × Nat × XH × (Nat → Nat) × (Nat → Value)
/-- a method: its name, its code, how many locals, what it returns -/
abbrev XMt : Type := MethodName × ByteArray × Nat × Option FieldType
/-- the statics that are read: class, name, descriptor, value -/
def xSta (G : XG) : List (String × String × String × Value) := [("java/lang/String", "COMPACT_STRINGS", "Z", .int 1), ("java/lang/StringUTF16", "$assertionsDisabled", "Z", .int 1), ("java/lang/StringUTF16", "HI_BYTE_SHIFT", "I", .int 0), ("java/lang/StringUTF16", "LO_BYTE_SHIFT", "I", .int 8), ("java/util/ArrayList", "DEFAULTCAPACITY_EMPTY_ELEMENTDATA", "[Ljava/lang/Object;", .ref (G.2.2.2.1 100)), ("jdk/internal/util/Preconditions", "SIOOBE_FORMATTER", "Ljava/util/function/BiFunction;", G.2.2.2.2 0), ("java/lang/Throwable", "UNASSIGNED_STACK", "[Ljava/lang/StackTraceElement;", G.2.2.2.2 1), ("java/lang/Throwable", "SUPPRESSED_SENTINEL", "Ljava/util/List;", G.2.2.2.2 2)]
abbrev xA (G : XG) : Nat → Prop := fun q => G.2.1 ≤ q
def xarr (k : Nat) : Bool := match xk[k]? with
  | some (.inr _) => true
  | _ => false
def xN (k : Nat) : Nat := match xk[k]? with
  | some (.inl q) => q.2.2
  | _ => 0
def xcell (D : va_G) (k : Nat) (vs : List Value) (cell : Cell) : Prop := cell.cls = D.1 k ∧ (∀ (j : Nat) (v : Value), vs[j]? = some v → (xarr k = true ∨ j < xN k) ∧ cell.slots[D.2 k j]? = some v) ∧ (xarr k = true → cell.slots.size = vs.length)
def xhp (G : XG) (h : XH) (H : Heap) : Prop := ∀ (a k : Nat) (vs : List Value), h a = some (k, vs) → G.2.1 ≤ a ∧ ∃ cell : Cell, H[a]? = some cell ∧ cell.vm = .none ∧ xcell G.1 k vs cell
def xkh (G : XG) (H : Heap) : Prop := ∀ (a k : Nat) (vs : List Value), G.2.2.1 a = some (k, vs) → a < G.2.1 ∧ ∃ cell : Cell, H[a]? = some cell ∧ cell.vm ≠ .unknown ∧ cell.vm.isStatics = false ∧ xcell G.1 k vs cell
/-- the kinds: what the tables say of each -/
def xK (D : va_G) (U : State) : Prop := ∀ (k : Nat) (r : vw_C ⊕ FieldType), xk[k]? = some r → match r with
  | .inl q => u_Kn U q.1 q.2.1 q.2.2 (D.1 k) (D.2 k)
  | .inr ty => ArrOfT U (D.1 k) ty ∧ va_RA U (D.1 k) ty ∧ ∀ j : Nat, D.2 k j = j
/-- what the tables say, at any state of the run -/
def xV (G : XG) (U : State) (H : Heap) : Prop := xK G.1 U ∧ (∀ w ∈ xT, va_Nw w U) ∧ (∀ q ∈ xStr, vk_R q.1 q.2.1 q.2.2.1 (G.2.2.2.1 q.2.2.2) U) ∧ (∀ q ∈ xSta G, va_Z q.1 q.2.1 q.2.2.1 q.2.2.2 (xA G) U H) ∧ xkh G H
def xU (z : Nat) (H : Heap) : Nat := ((H.toList.drop z).map (fun q : Cell => q.slots.size)).sum
/-- what the heap holds -/
def xS (G : XG) (h : XH) (c n : Nat) (H : Heap) : Prop := xhp G h H ∧ G.2.1 ≤ H.size ∧ H.size ≤ G.2.1 + c ∧ xU G.2.1 H ≤ n ∧ c ≤ xCB ∧ n ≤ xSB
def xQ (G : XG) (P : Option Value → XH → Nat → Nat → Prop) : Array Value → State → Outcome → State → Prop := fun _ st o t => (∃ (v : Option Value) (h : XH) (c n : Nat), o = .returned v ∧ P v h c n ∧ xS G h c n t.heap) ∧ va_F (xA G) st t
def xRm (d c0 n0 : Nat) : Room := { frames := d, cells := xCB - c0, slots := xSB - n0, locals := d * 60 + 11000 }
def xPre (G : XG) (h : XH) (c n c0 n0 : Nat) (U : State) : Prop := U.heap.size = G.2.1 + c0 ∧ xU G.2.1 U.heap = n0 ∧ xV G U U.heap ∧ xS G h c n U.heap
/-- A CONTRACT AT ONE START: from the arguments, the heap h and the budgets used, with d frames of room, the method returns with P -/
def XM (l : Launch) (G : XG) (d : Nat) (M : XMt) (args : List Value) (h : XH) (c n : Nat) (P : Option Value → XH → Nat → Nat → Prop) : Prop :=
  ∀ c0 n0 : Nat, Met l M.1 [Cond.code M.1 M.2.1 M.2.2.1 M.2.2.2] (xRm d c0 n0) (va_Pc args (xPre G h c n c0 n0)) (xQ G P) (xCB - c0) (xSB - n0) (xA G)
/-! locals -/
def xpr (L : List (Option Value)) : List (Nat × Value) := (List.range L.length).filterMap fun i => match L[i]? with
  | some (some v) => some (i, v)
  | _ => none
theorem xpr_mem {L : List (Option Value)} {i : Nat} {v : Value} : (i, v) ∈ xpr L ↔ L[i]? = some (some v) := by
  unfold xpr
  rw [List.mem_filterMap]
  constructor
  · rintro ⟨j, -, hj⟩
    split at hj
    · rename_i w hw
      cases hj
      exact hw
    · cases hj
  · intro h
    refine ⟨i, List.mem_range.mpr (List.getElem?_eq_some_iff.mp h).1, ?_⟩
    simp [h]
def xlr (ls : Array Slot) (L : List (Option Value)) : Prop := lv_has ls L.length (xpr L)
theorem xlr.at {ls : Array Slot} {L : List (Option Value)} (h : xlr ls L) {i : Nat} {v : Value} (hi : L[i]? = some (some v)) : ls[i]? = some (.val v) := h.2.2 (i, v) (xpr_mem.mpr hi)
def xc2 : Option (Option Value) → Bool
  | some (some (.long _)) => true
  | some (some (.double _)) => true
  | _ => false
theorem xc2_of {L : List (Option Value)} {j : Nat} {v : Value} (h : L[j]? = some (some v)) (hc : v.category = 2) : xc2 L[j]? = true := by
  rw [h]
  cases v <;> first | rfl | (simp [Value.category] at hc)
/-- a store of one slot -/
def xset1 (L : List (Option Value)) (i : Nat) (v : Value) : List (Option Value) := match i with
  | 0 => L.set 0 (some v)
  | j + 1 => bif xc2 L[j]? then (L.set j none).set (j + 1) (some v) else L.set (j + 1) (some v)
def xset2 (L : List (Option Value)) (i : Nat) (v : Value) : List (Option Value) := (xset1 L i v).set (i + 1) none
theorem xset1_len (L : List (Option Value)) (i : Nat) (v : Value) : (xset1 L i v).length = L.length := by
  unfold xset1
  split
  · simp
  · cases xc2 _ <;> simp
theorem xset1_at {L : List (Option Value)} {i k : Nat} {v w : Value} (h : (xset1 L i v)[k]? = some (some w)) : (k = i ∧ w = v) ∨ (k ≠ i ∧ L[k]? = some (some w) ∧ ¬ (k + 1 = i ∧ w.category = 2)) := by
  unfold xset1 at h
  split at h
  · by_cases hk : k = 0
    · subst hk
      rw [List.getElem?_set] at h
      simp at h
      exact Or.inl ⟨rfl, h.2.symm⟩
    · rw [List.getElem?_set_ne (Ne.symm hk)] at h
      exact Or.inr ⟨hk, h, fun q => by omega⟩
  · rename_i j
    by_cases hk : k = j + 1
    · subst hk
      left
      refine ⟨rfl, ?_⟩
      cases hc : xc2 L[j]? <;> simp only [hc, cond_true, cond_false] at h <;> rw [List.getElem?_set] at h <;> simp at h <;> exact h.2.symm
    · right
      refine ⟨hk, ?_⟩
      cases hc : xc2 L[j]? with
      | true =>
        simp only [hc, cond_true] at h
        rw [List.getElem?_set_ne (Ne.symm hk)] at h
        by_cases hj : k = j
        · subst hj
          rw [List.getElem?_set] at h
          simp at h
        · rw [List.getElem?_set_ne (Ne.symm hj)] at h
          exact ⟨h, fun q => hj (by omega)⟩
      | false =>
        simp only [hc, cond_false] at h
        rw [List.getElem?_set_ne (Ne.symm hk)] at h
        refine ⟨h, fun q => ?_⟩
        have e : k = j := by omega
        subst e
        rw [xc2_of h q.2] at hc
        cases hc
theorem xlr.st1 {ls : Array Slot} {L : List (Option Value)} {i : Nat} {v : Value} (h : lv_has ls L.length ((i, v) :: (xpr L).filter (fun q => !(q.1 == i) && !(q.1 + 1 == i && q.2.category == 2)))) : xlr ls (xset1 L i v) := by
  refine ⟨by rw [xset1_len]; exact h.1, h.2.1, fun q hq => ?_⟩
  obtain ⟨k, w⟩ := q
  rcases xset1_at (xpr_mem.mp hq) with ⟨rfl, rfl⟩ | ⟨h1, h2, h3⟩
  · exact h.2.2 _ List.mem_cons_self
  · refine h.2.2 (k, w) (List.mem_cons_of_mem _ (List.mem_filter.mpr ⟨xpr_mem.mpr h2, ?_⟩))
    simp only [Bool.and_eq_true, Bool.not_eq_true', beq_eq_false_iff_ne, ne_eq, Bool.and_eq_false_iff]
    refine ⟨h1, ?_⟩
    by_cases hk : k + 1 = i
    · exact Or.inr (fun q => h3 ⟨hk, q⟩)
    · exact Or.inl hk
theorem xlr.st2 {ls : Array Slot} {L : List (Option Value)} {i : Nat} {v : Value} (h : lv_has ls L.length ((i, v) :: (xpr L).filter (fun q => !(q.1 == i) && (!(q.1 == i + 1) && !(q.1 + 1 == i && q.2.category == 2))))) : xlr ls (xset2 L i v) := by
  unfold xset2
  refine ⟨by rw [List.length_set, xset1_len]; exact h.1, h.2.1, fun q hq => ?_⟩
  obtain ⟨k, w⟩ := q
  have hk := xpr_mem.mp hq
  by_cases hki : k = i + 1
  · subst hki
    rw [List.getElem?_set] at hk
    simp at hk
  · rw [List.getElem?_set_ne (Ne.symm hki)] at hk
    rcases xset1_at hk with ⟨rfl, rfl⟩ | ⟨h1, h2, h3⟩
    · exact h.2.2 _ List.mem_cons_self
    · refine h.2.2 (k, w) (List.mem_cons_of_mem _ (List.mem_filter.mpr ⟨xpr_mem.mpr h2, ?_⟩))
      simp only [Bool.and_eq_true, Bool.not_eq_true', beq_eq_false_iff_ne, ne_eq, Bool.and_eq_false_iff]
      refine ⟨h1, hki, ?_⟩
      by_cases hk : k + 1 = i
      · exact Or.inr (fun q => h3 ⟨hk, q⟩)
      · exact Or.inl hk
/-- the locals with which a method begins -/
def xin : List Value → List (Option Value)
  | [] => []
  | .long x :: vs => some (.long x) :: none :: xin vs
  | .double x :: vs => some (.double x) :: none :: xin vs
  | v :: vs => some v :: xin vs
theorem xin_at (vs : List Value) : ∀ (i k : Nat) (w : Value), (xin vs)[k]? = some (some w) → (i + k, w) ∈ lv_args i vs := by
  induction vs with
  | nil => intro i k w h; simp [xin] at h
  | cons v vs ih =>
    intro i k w h
    have two : ∀ (z : Value), z.category = 2 → (some z :: none :: xin vs)[k]? = some (some w) → (i + k, w) ∈ lv_args i (z :: vs) := by
      intro z hz h
      simp only [lv_args, hz, if_true]
      match k, h with
      | 0, h => simp at h; subst h; simp
      | 1, h => simp at h
      | k + 2, h =>
        simp at h
        have := ih (i + 2) k w h
        exact List.mem_cons_of_mem _ (by rw [show i + (k + 2) = i + 2 + k by omega]; exact this)
    have one : ∀ (z : Value), z.category = 1 → (some z :: xin vs)[k]? = some (some w) → (i + k, w) ∈ lv_args i (z :: vs) := by
      intro z hz h
      simp only [lv_args, hz]
      match k, h with
      | 0, h => simp at h; subst h; simp
      | k + 1, h =>
        simp at h
        have := ih (i + 1) k w h
        exact List.mem_cons_of_mem _ (by rw [show i + (k + 1) = i + 1 + k by omega]; exact this)
    cases v with
    | long x => exact two _ rfl h
    | double x => exact two _ rfl h
    | int x => exact one _ rfl h
    | float x => exact one _ rfl h
    | null => exact one _ rfl h
    | ref x => exact one _ rfl h
    | retAddr x => exact one _ rfl h
theorem xin_len (vs : List Value) : (xin vs).length = (lg_sl vs).length := by
  induction vs with
  | nil => rfl
  | cons v vs ih => cases v <;> simp [xin, lg_sl, Value.category] at ih ⊢ <;> omega
theorem xlr.entry (vs : List Value) {n : Nat} (hn : (xin vs).length ≤ n) : xlr ((lg_sl vs ++ List.replicate (n - (lg_sl vs).length) Slot.unset).toArray) (xin vs ++ List.replicate (n - (xin vs).length) none) := by
  have h := lv_entry vs (n := n) (by rw [← xin_len]; exact hn)
  refine ⟨by rw [h.1]; simp; omega, h.2.1, fun q hq => ?_⟩
  obtain ⟨k, w⟩ := q
  have hk := xpr_mem.mp hq
  refine h.2.2 (k, w) ?_
  rw [List.getElem?_append] at hk
  split at hk
  · have := xin_at vs 0 k w hk
    rwa [Nat.zero_add] at this
  · rw [List.getElem?_replicate] at hk
    split at hk <;> cases hk
/-! the heap's size -/
theorem xU_eq {z : Nat} {H H' : Heap} (h : H'.toList.map (fun q : Cell => q.slots.size) = H.toList.map (fun q : Cell => q.slots.size)) : xU z H' = xU z H := by
  unfold xU
  rw [List.map_drop, List.map_drop, h]
theorem xU_put {z a : Nat} {H H' : Heap} {cell cell' : Cell} (hz : H'.size = H.size) (ha : H[a]? = some cell) (ha' : H'[a]? = some cell') (hs : cell'.slots.size = cell.slots.size) (ho : ∀ q : Nat, q ≠ a → H'[q]? = H[q]?) : xU z H' = xU z H := by
  refine xU_eq (List.ext_getElem? fun i => ?_)
  rw [List.getElem?_map, List.getElem?_map, Array.getElem?_toList, Array.getElem?_toList]
  by_cases hi : i = a
  · subst hi
    rw [ha, ha']
    simp [hs]
  · rw [ho i hi]
theorem xU_push {z : Nat} {H : Heap} {cell : Cell} (hz : z ≤ H.size) : xU z (H.push cell) = xU z H + cell.slots.size := by
  unfold xU
  rw [Array.toList_push, List.drop_append_of_le_length (by simpa using hz)]
  simp
theorem xU_grow {z : Nat} {s T : State} {locs : List Loc} {cells slots : Nat} (hz : z ≤ s.heap.size) (h : s.sameButNew T locs cells slots) : xU z T.heap = xU z s.heap + ((T.heap.toList.drop s.heap.size).map (fun q : Cell => q.slots.size)).sum := by
  obtain ⟨-, h2, -, -, -, h6⟩ := h
  have e : (T.heap.toList.map (fun q : Cell => q.slots.size)).take s.heap.size = s.heap.toList.map (fun q : Cell => q.slots.size) := by
    refine List.ext_getElem? fun i => ?_
    rw [List.getElem?_take]
    by_cases hi : i < s.heap.size
    · rw [if_pos hi, List.getElem?_map, List.getElem?_map, Array.getElem?_toList, Array.getElem?_toList]
      obtain ⟨c', g1, -, g3, -⟩ := h6 i s.heap[i] (Array.getElem?_eq_getElem hi)
      rw [g1, Array.getElem?_eq_getElem hi]
      simp [g3]
    · rw [if_neg hi, List.getElem?_eq_none (by simp; omega)]
  unfold xU
  rw [List.map_drop, List.map_drop, List.map_drop, ← e]
  generalize T.heap.toList.map (fun q : Cell => q.slots.size) = f
  conv => lhs; rw [← List.take_append_drop s.heap.size f]
  by_cases hf : z ≤ (f.take s.heap.size).length
  · rw [List.drop_append_of_le_length hf, List.sum_append]
  · have hl : f.length ≤ z := by
      rw [List.length_take] at hf
      omega
    rw [List.drop_eq_nil_of_le (show (f.take s.heap.size ++ f.drop s.heap.size).length ≤ z by rw [List.take_append_drop]; exact hl), List.drop_eq_nil_of_le (show (f.take s.heap.size).length ≤ z by rw [List.length_take]; omega), List.drop_eq_nil_of_le (show f.length ≤ s.heap.size by omega)]
    rfl
end XC
end
section
section XW1
/-- what stays through a method's run -/
def xFix (p : Program) (s : State) (m : MethodId) (meth : Method) (cd : Code) (M : XMt) : Prop := p.tables.exec = Jvm.exec ∧ cd.code = M.2.1 ∧ cd.maxLocals = M.2.2.1 ∧ meth.sig.returnType = M.2.2.2 ∧ s.vm.findClass M.1.cls = some m.cls ∧ meth.locks = false ∧ meth.name = M.1.name
def xRo (G : XG) (R : Room) (d : Nat) (s : State) : Prop := R.frames = d ∧ R.locals = d * 60 + 11000 ∧ R.cells = xCB - (s.heap.size - G.2.1) ∧ R.slots = xSB - xU G.2.1 s.heap ∧ G.2.1 ≤ s.heap.size
/-- FROM THE FRAME AT pc WITH LOCALS L AND STACK st, over the heap h, THE METHOD M RETURNS WITH P -/
def XW (l : Launch) (G : XG) (M : XMt) (d pc : Nat) (L : List (Option Value)) (st : List Value) (h : XH) (c n : Nat) (P : Option Value → XH → Nat → Nat → Prop) : Prop :=
  ∀ (p : Program) (e : Env) (R : Room) (s : State) (m : MethodId) (args : Array Value) (below : List Frame) (meth : Method) (cd : Code) (H : Heap) (locs : List Loc) (cells slots : Nat) (ls : Array Slot),
    xFix p s m meth cd M → xRo G R d s → xlr ls L → L.length = M.2.2.1 → xV G s H → xS G h c n H → va_S (xA G) s.heap H locs →
    W p l e R s m args below meth cd H locs cells slots (MQ below (xQ G P) args s R.cells R.slots (xA G)) (F0 m pc ls st)
variable {l : Launch} {G : XG} {M : XMt} {d pc : Nat} {L : List (Option Value)} {rest : List Value} {h : XH} {c n : Nat} {P : Option Value → XH → Nat → Nat → Prop}
/-- the numbers of cells and slots follow from the heap -/
theorem x_tight {p : Program} {e : Env} {R : Room} {s : State} {m : MethodId} {args : Array Value} {below : List Frame} {meth : Method} {cd : Code} {H : Heap} {locs : List Loc} {cells slots : Nat} {Q : State → Prop} {g : JFrame} {z k j : Nat} (hz : z ≤ s.heap.size) (hk : H.size ≤ s.heap.size + k) (hj : xU z H ≤ xU z s.heap + j)
    (kk : W p l e R s m args below meth cd H locs k j Q g) : W p l e R s m args below meth cd H locs cells slots Q g := by
  intro T hT X
  refine kk T hT { X with same := ?_ }
  have hs := X.same
  have e := xU_grow hz hs
  obtain ⟨h1, h2, h3, h4, h5, h6⟩ := hs
  have hH : (T.setVm s.vm).heap = H := hT
  rw [hH] at e
  refine ⟨h1, h2, by rw [hH]; exact hk, h4, ?_, h6⟩
  rw [hH]
  show ((H.toList.drop s.heap.size).map (fun q : Cell => q.slots.size)).sum ≤ j
  omega
theorem x_mono {p : Program} {e : Env} {R : Room} {s : State} {m : MethodId} {args : Array Value} {below : List Frame} {meth : Method} {cd : Code} {H : Heap} {locs : List Loc} {cells slots : Nat} {Q : State → Prop} {g : JFrame} {z : Nat} (hz : z ≤ s.heap.size)
    (kk : xU z s.heap ≤ xU z H → s.heap.size ≤ H.size → W p l e R s m args below meth cd H locs cells slots Q g) : W p l e R s m args below meth cd H locs cells slots Q g := by
  intro T hT X
  have e := xU_grow hz X.same
  have hH : (T.setVm s.vm).heap = H := hT
  have h2 := X.same.2.1
  rw [hH] at e h2
  exact kk (by omega) h2 T hT X
/-- a method's end -/
theorem x_end {p : Program} {e : Env} {R : Room} {s : State} {m : MethodId} {args : Array Value} {below : List Frame} {meth : Method} {cd : Code} {H : Heap} {locs : List Loc} {cells slots : Nat} {Q : State → Prop} {g : JFrame} (hR : xRo G R d s) (hS : xS G h c n H)
    (kk : W p l e R s m args below meth cd H locs R.cells R.slots Q g) : W p l e R s m args below meth cd H locs cells slots Q g := by
  obtain ⟨-, -, h3, h4, h5⟩ := hR
  obtain ⟨-, -, g1, g2, g3, g4⟩ := hS
  exact x_tight h5 (by rw [h3]; omega) (by rw [h4]; omega) kk
theorem x_q {s t : State} {args : Array Value} {H : Heap} {locs : List Loc} {v : Option Value} (hP : P v h c n) (hS : xS G h c n H) (hF : va_S (xA G) s.heap H locs) (ht : t.heap = H) : xQ G P args s (.returned v) t := ⟨⟨v, h, c, n, rfl, hP, by rw [ht]; exact hS⟩, hF.F ht⟩
theorem x_iret {x : Int32} (hd : decode M.2.1 pc = .ok (.ireturn, 1)) (hr : M.2.2.2 = some .int) (hP : P (some (.int x)) h c n) : XW l G M d pc L [.int x] h c n P := by
  intro p e R s m args below meth cd H locs cells slots ls hF hR hl hL hV hS hN
  refine x_end hR hS ?_
  exact W.iret hF.1 hF.2.1 (hF.2.2.2.1.trans hr) (fun t ht hW => x_q hP hS hN ht) hN.2.2 hd hF.2.2.2.2.2.1
theorem x_zret {x : Int32} {ty : FieldType} (hd : decode M.2.1 pc = .ok (.ireturn, 1)) (hr : M.2.2.2 = some ty) (hn : narrow ty (.int x) = .int x) (hP : P (some (.int x)) h c n) : XW l G M d pc L [.int x] h c n P := by
  intro p e R s m args below meth cd H locs cells slots ls hF hR hl hL hV hS hN
  refine x_end hR hS ?_
  exact W.zret hF.1 hF.2.1 (hF.2.2.2.1.trans hr) hn (fun t ht hW => x_q hP hS hN ht) hN.2.2 hd hF.2.2.2.2.2.1
theorem x_lret {x : Int64} (hd : decode M.2.1 pc = .ok (.lreturn, 1)) (hr : M.2.2.2 = some .long) (hP : P (some (.long x)) h c n) : XW l G M d pc L [.long x] h c n P := by
  intro p e R s m args below meth cd H locs cells slots ls hF hR hl hL hV hS hN
  refine x_end hR hS ?_
  exact W.lret hF.1 hF.2.1 (hF.2.2.2.1.trans hr) (fun t ht hW => x_q hP hS hN ht) hN.2.2 hd hF.2.2.2.2.2.1
theorem x_vret (hd : decode M.2.1 pc = .ok (.return_, 1)) (hr : M.2.2.2 = none) (hP : P none h c n) : XW l G M d pc L [] h c n P := by
  intro p e R s m args below meth cd H locs cells slots ls hF hR hl hL hV hS hN
  refine x_end hR hS ?_
  exact W.vret hF.1 hF.2.1 (hF.2.2.2.1.trans hr) (fun t ht hW => x_q hP hS hN ht) hN.2.2 hd hF.2.2.2.2.2.1
def xisr : Value → Bool
  | .null => true
  | .ref _ => true
  | _ => false
theorem xisr_or {v : Value} (h : xisr v = true) : v = .null ∨ ∃ a, v = .ref a := by
  cases v <;> first | exact Or.inl rfl | exact Or.inr ⟨_, rfl⟩ | cases h
def xrty : Option FieldType → Bool
  | some (.object _) => true
  | some (.array _) => true
  | _ => false
theorem x_aret {v : Value} (hd : decode M.2.1 pc = .ok (.areturn, 1)) (hr : xrty M.2.2.2 = true) (hv : xisr v = true) (hP : P (some v) h c n) : XW l G M d pc L [v] h c n P := by
  intro p e R s m args below meth cd H locs cells slots ls hF hR hl hL hV hS hN
  refine x_end hR hS ?_
  obtain ⟨rt, hrt, hrs⟩ : ∃ rt, M.2.2.2 = some rt ∧ ((∃ n, rt = .object n) ∨ ∃ t, rt = .array t) := by
    cases hm : M.2.2.2 with
    | none => rw [hm] at hr; cases hr
    | some rt =>
      rw [hm] at hr
      refine ⟨rt, rfl, ?_⟩
      cases rt <;> first | exact Or.inl ⟨_, rfl⟩ | exact Or.inr ⟨_, rfl⟩ | cases hr
  exact W.aret hF.1 hF.2.1 (hF.2.2.2.1.trans hrt) hrs (xisr_or hv) (fun t ht hW => x_q hP hS hN ht) hN.2.2 hd hF.2.2.2.2.2.1
/-- a contract out of a walk -/
theorem XM.of {args : List Value} (hy : plainName M.1.cls = true) (hn : (xin args).length ≤ M.2.2.1) (hw : XW l G M d 0 (xin args ++ List.replicate (M.2.2.1 - (xin args).length) none) [] h c n P) : XM l G d M args h c n P := by
  intro c0 n0
  refine Met.ofW (cc := M.2.1) (maxL := M.2.2.1) (ret := M.2.2.2) (ws' := []) hy rfl ?_
  intro p e s m args' below meth cd s₁ B hml hv
  obtain ⟨rfl, hz, hu, hV, hS⟩ := hv
  rw [lg_entry_eq]
  have hR : xRo G (xRm d c0 n0) d s := ⟨rfl, rfl, by rw [hz, Nat.add_sub_cancel_left]; rfl, by rw [hu]; rfl, by rw [hz]; exact Nat.le_add_right _ _⟩
  exact hw p e (xRm d c0 n0) s m _ below meth cd s.heap [] 0 0 _ ⟨B.exec, B.bytes, hml, B.returns, findClass_of_methodNamed B.named, B.notSynchronized, (name_of_methodNamed B.named B.method).1⟩ hR (xlr.entry args hn) (by simp; omega) hV hS va_S.rf
/-- a weaker end -/
theorem XM.mono {args : List Value} {P' : Option Value → XH → Nat → Nat → Prop} (h0 : XM l G d M args h c n P) (hP : ∀ v h' c' n', P v h' c' n' → P' v h' c' n') : XM l G d M args h c n P' := by
  intro c0 n0 p e ha hc hk s m as below hf happ hPc hKc
  obtain ⟨k, o, h1, h2, h3, ⟨⟨⟨v, h', c', n', e1, e2, e3⟩, e4⟩, e5⟩⟩ := h0 c0 n0 p e ha hc hk s m as below hf happ hPc hKc
  exact ⟨k, o, h1, h2, h3, ⟨⟨v, h', c', n', e1, hP _ _ _ _ e2, e3⟩, e4⟩, e5⟩
end XW1
end
