section
-- ===== PART A: goes FIRST, ahead of the names: the tables' words, and 'selects' of the private methods out of them =====
/-- a private method of a class that the tables say can be made, by its rows of tables_1 -/
def lw_okq (q : MethodName × Nat) : Prop := (q.1.cls ≠ "java/lang/invoke/MethodHandle" ∧ q.1.cls ≠ "java/lang/invoke/VarHandle") ∧ Cond.instantiable q.1.cls q.2 ∈ tables_1 ∧ Cond.privateMethod q.1 ∈ tables_1 ∧ Cond.instanceMethod q.1 ∈ tables_1
theorem lw_p0 : lw_okq (⟨"MarkerText", "conditionAt", "(I)LMarkerText$Condition;"⟩, 9) := ⟨⟨by decide +kernel, by decide +kernel⟩, List.mem_of_getElem? (i := 35) (by decide +kernel), List.mem_of_getElem? (i := 283) (by decide +kernel), List.mem_of_getElem? (i := 284) (by decide +kernel)⟩
theorem lw_p1 : lw_okq (⟨"MarkerText", "findChoice", "(II)I"⟩, 9) := ⟨⟨by decide +kernel, by decide +kernel⟩, List.mem_of_getElem? (i := 35) (by decide +kernel), List.mem_of_getElem? (i := 311) (by decide +kernel), List.mem_of_getElem? (i := 312) (by decide +kernel)⟩
theorem lw_p2 : lw_okq (⟨"MarkerText$Choices", "addTested", "(Ljava/util/ArrayList;I)V"⟩, 7) := ⟨⟨by decide +kernel, by decide +kernel⟩, List.mem_of_getElem? (i := 80) (by decide +kernel), List.mem_of_getElem? (i := 319) (by decide +kernel), List.mem_of_getElem? (i := 320) (by decide +kernel)⟩
theorem lw_p3 : lw_okq (⟨"MarkerText$Choices", "add", "(JI)V"⟩, 7) := ⟨⟨by decide +kernel, by decide +kernel⟩, List.mem_of_getElem? (i := 80) (by decide +kernel), List.mem_of_getElem? (i := 340) (by decide +kernel), List.mem_of_getElem? (i := 341) (by decide +kernel)⟩
theorem lw_p4 : lw_okq (⟨"MarkerText$Choices", "addKnown", "(LMarkerText$Name;I)V"⟩, 7) := ⟨⟨by decide +kernel, by decide +kernel⟩, List.mem_of_getElem? (i := 80) (by decide +kernel), List.mem_of_getElem? (i := 345) (by decide +kernel), List.mem_of_getElem? (i := 346) (by decide +kernel)⟩
theorem lw_p5 : lw_okq (⟨"MarkerText$Choices", "levelOfPick", "(I)J"⟩, 7) := ⟨⟨by decide +kernel, by decide +kernel⟩, List.mem_of_getElem? (i := 80) (by decide +kernel), List.mem_of_getElem? (i := 359) (by decide +kernel), List.mem_of_getElem? (i := 360) (by decide +kernel)⟩
theorem lw_p6 : lw_okq (⟨"MarkerText$Parting", "countIn", "(II)V"⟩, 6) := ⟨⟨by decide +kernel, by decide +kernel⟩, List.mem_of_getElem? (i := 113) (by decide +kernel), List.mem_of_getElem? (i := 388) (by decide +kernel), List.mem_of_getElem? (i := 389) (by decide +kernel)⟩
theorem lw_p7 : lw_okq (⟨"MarkerText", "nameAt", "(I)LMarkerText$Name;"⟩, 9) := ⟨⟨by decide +kernel, by decide +kernel⟩, List.mem_of_getElem? (i := 35) (by decide +kernel), List.mem_of_getElem? (i := 410) (by decide +kernel), List.mem_of_getElem? (i := 411) (by decide +kernel)⟩
theorem lw_p8 : lw_okq (⟨"MarkerText", "takeText", "()Ljava/lang/String;"⟩, 9) := ⟨⟨by decide +kernel, by decide +kernel⟩, List.mem_of_getElem? (i := 35) (by decide +kernel), List.mem_of_getElem? (i := 458) (by decide +kernel), List.mem_of_getElem? (i := 459) (by decide +kernel)⟩
theorem lw_p9 : lw_okq (⟨"java/lang/Throwable", "fillInStackTrace", "(I)Ljava/lang/Throwable;"⟩, 6) := ⟨⟨by decide +kernel, by decide +kernel⟩, List.mem_of_getElem? (i := 528) (by decide +kernel), List.mem_of_getElem? (i := 526) (by decide +kernel), List.mem_of_getElem? (i := 527) (by decide +kernel)⟩
theorem lw_p10 : lw_okq (⟨"MarkerText$Reader", "readJoined", "(I)LMarkerText$Node;"⟩, 7) := ⟨⟨by decide +kernel, by decide +kernel⟩, List.mem_of_getElem? (i := 824) (by decide +kernel), List.mem_of_getElem? (i := 885) (by decide +kernel), List.mem_of_getElem? (i := 886) (by decide +kernel)⟩
theorem lw_p11 : lw_okq (⟨"MarkerText$Reader", "readTest", "()LMarkerText$Node;"⟩, 7) := ⟨⟨by decide +kernel, by decide +kernel⟩, List.mem_of_getElem? (i := 824) (by decide +kernel), List.mem_of_getElem? (i := 889) (by decide +kernel), List.mem_of_getElem? (i := 890) (by decide +kernel)⟩
theorem lw_p12 : lw_okq (⟨"MarkerText$Reader", "skipBlanks", "()V"⟩, 7) := ⟨⟨by decide +kernel, by decide +kernel⟩, List.mem_of_getElem? (i := 824) (by decide +kernel), List.mem_of_getElem? (i := 893) (by decide +kernel), List.mem_of_getElem? (i := 894) (by decide +kernel)⟩
theorem lw_p13 : lw_okq (⟨"MarkerText$Reader", "wordHere", "()Ljava/lang/String;"⟩, 7) := ⟨⟨by decide +kernel, by decide +kernel⟩, List.mem_of_getElem? (i := 824) (by decide +kernel), List.mem_of_getElem? (i := 899) (by decide +kernel), List.mem_of_getElem? (i := 900) (by decide +kernel)⟩
theorem lw_p14 : lw_okq (⟨"MarkerText$Reader", "characterHere", "()C"⟩, 7) := ⟨⟨by decide +kernel, by decide +kernel⟩, List.mem_of_getElem? (i := 824) (by decide +kernel), List.mem_of_getElem? (i := 929) (by decide +kernel), List.mem_of_getElem? (i := 930) (by decide +kernel)⟩
theorem lw_p15 : lw_okq (⟨"MarkerText$Reader", "readOpened", "(Z)LMarkerText$Node;"⟩, 7) := ⟨⟨by decide +kernel, by decide +kernel⟩, List.mem_of_getElem? (i := 824) (by decide +kernel), List.mem_of_getElem? (i := 933) (by decide +kernel), List.mem_of_getElem? (i := 934) (by decide +kernel)⟩
def lw_privs_1 : List (MethodName × Nat) := [(⟨"MarkerText", "conditionAt", "(I)LMarkerText$Condition;"⟩, 9), (⟨"MarkerText", "findChoice", "(II)I"⟩, 9), (⟨"MarkerText$Choices", "addTested", "(Ljava/util/ArrayList;I)V"⟩, 7), (⟨"MarkerText$Choices", "add", "(JI)V"⟩, 7), (⟨"MarkerText$Choices", "addKnown", "(LMarkerText$Name;I)V"⟩, 7), (⟨"MarkerText$Choices", "levelOfPick", "(I)J"⟩, 7), (⟨"MarkerText$Parting", "countIn", "(II)V"⟩, 6), (⟨"MarkerText", "nameAt", "(I)LMarkerText$Name;"⟩, 9), (⟨"MarkerText", "takeText", "()Ljava/lang/String;"⟩, 9), (⟨"java/lang/Throwable", "fillInStackTrace", "(I)Ljava/lang/Throwable;"⟩, 6), (⟨"MarkerText$Reader", "readJoined", "(I)LMarkerText$Node;"⟩, 7), (⟨"MarkerText$Reader", "readTest", "()LMarkerText$Node;"⟩, 7), (⟨"MarkerText$Reader", "skipBlanks", "()V"⟩, 7), (⟨"MarkerText$Reader", "wordHere", "()Ljava/lang/String;"⟩, 7), (⟨"MarkerText$Reader", "characterHere", "()C"⟩, 7), (⟨"MarkerText$Reader", "readOpened", "(Z)LMarkerText$Node;"⟩, 7)]
theorem lw_r1 : ∀ q ∈ lw_privs_1, lw_okq q := List.forall_mem_cons.mpr ⟨lw_p0, List.forall_mem_cons.mpr ⟨lw_p1, List.forall_mem_cons.mpr ⟨lw_p2, List.forall_mem_cons.mpr ⟨lw_p3, List.forall_mem_cons.mpr ⟨lw_p4, List.forall_mem_cons.mpr ⟨lw_p5, List.forall_mem_cons.mpr ⟨lw_p6, List.forall_mem_cons.mpr ⟨lw_p7, List.forall_mem_cons.mpr ⟨lw_p8, List.forall_mem_cons.mpr ⟨lw_p9, List.forall_mem_cons.mpr ⟨lw_p10, List.forall_mem_cons.mpr ⟨lw_p11, List.forall_mem_cons.mpr ⟨lw_p12, List.forall_mem_cons.mpr ⟨lw_p13, List.forall_mem_cons.mpr ⟨lw_p14, List.forall_mem_cons.mpr ⟨lw_p15, fun _ h => absurd h List.not_mem_nil⟩⟩⟩⟩⟩⟩⟩⟩⟩⟩⟩⟩⟩⟩⟩⟩
theorem lw_p16 : lw_okq (⟨"MarkerText$Reader", "takesSign", "(C)Z"⟩, 7) := ⟨⟨by decide +kernel, by decide +kernel⟩, List.mem_of_getElem? (i := 824) (by decide +kernel), List.mem_of_getElem? (i := 957) (by decide +kernel), List.mem_of_getElem? (i := 958) (by decide +kernel)⟩
theorem lw_p17 : lw_okq (⟨"MarkerText$Reader", "readComparison", "(I)LMarkerText$Node;"⟩, 7) := ⟨⟨by decide +kernel, by decide +kernel⟩, List.mem_of_getElem? (i := 824) (by decide +kernel), List.mem_of_getElem? (i := 975) (by decide +kernel), List.mem_of_getElem? (i := 976) (by decide +kernel)⟩
theorem lw_p18 : lw_okq (⟨"MarkerText$Reader", "takesWord", "(Ljava/lang/String;)Z"⟩, 7) := ⟨⟨by decide +kernel, by decide +kernel⟩, List.mem_of_getElem? (i := 824) (by decide +kernel), List.mem_of_getElem? (i := 983) (by decide +kernel), List.mem_of_getElem? (i := 984) (by decide +kernel)⟩
theorem lw_p19 : lw_okq (⟨"MarkerText$Reader", "readOperator", "()I"⟩, 7) := ⟨⟨by decide +kernel, by decide +kernel⟩, List.mem_of_getElem? (i := 824) (by decide +kernel), List.mem_of_getElem? (i := 987) (by decide +kernel), List.mem_of_getElem? (i := 988) (by decide +kernel)⟩
theorem lw_p20 : lw_okq (⟨"MarkerText$Reader", "readList", "(LMarkerText$Name;)[J"⟩, 7) := ⟨⟨by decide +kernel, by decide +kernel⟩, List.mem_of_getElem? (i := 824) (by decide +kernel), List.mem_of_getElem? (i := 991) (by decide +kernel), List.mem_of_getElem? (i := 992) (by decide +kernel)⟩
theorem lw_p21 : lw_okq (⟨"MarkerText$Reader", "readValue", "(LMarkerText$Name;)J"⟩, 7) := ⟨⟨by decide +kernel, by decide +kernel⟩, List.mem_of_getElem? (i := 824) (by decide +kernel), List.mem_of_getElem? (i := 995) (by decide +kernel), List.mem_of_getElem? (i := 996) (by decide +kernel)⟩
theorem lw_p22 : lw_okq (⟨"MarkerText$Reader", "readSingle", "(LMarkerText$Name;)[J"⟩, 7) := ⟨⟨by decide +kernel, by decide +kernel⟩, List.mem_of_getElem? (i := 824) (by decide +kernel), List.mem_of_getElem? (i := 1009) (by decide +kernel), List.mem_of_getElem? (i := 1010) (by decide +kernel)⟩
theorem lw_p23 : lw_okq (⟨"java/util/ArrayList", "add", "(Ljava/lang/Object;[Ljava/lang/Object;I)V"⟩, 3) := ⟨⟨by decide +kernel, by decide +kernel⟩, List.mem_of_getElem? (i := 830) (by decide +kernel), List.mem_of_getElem? (i := 1040) (by decide +kernel), List.mem_of_getElem? (i := 1041) (by decide +kernel)⟩
theorem lw_p24 : lw_okq (⟨"java/util/ArrayList", "grow", "()[Ljava/lang/Object;"⟩, 3) := ⟨⟨by decide +kernel, by decide +kernel⟩, List.mem_of_getElem? (i := 830) (by decide +kernel), List.mem_of_getElem? (i := 1044) (by decide +kernel), List.mem_of_getElem? (i := 1045) (by decide +kernel)⟩
theorem lw_p25 : lw_okq (⟨"java/util/ArrayList", "grow", "(I)[Ljava/lang/Object;"⟩, 3) := ⟨⟨by decide +kernel, by decide +kernel⟩, List.mem_of_getElem? (i := 830) (by decide +kernel), List.mem_of_getElem? (i := 1048) (by decide +kernel), List.mem_of_getElem? (i := 1049) (by decide +kernel)⟩
theorem lw_p26 : lw_okq (⟨"MarkerTextModel", "word", "(II)J"⟩, 52) := ⟨⟨by decide +kernel, by decide +kernel⟩, List.mem_of_getElem? (i := 1165) (by decide +kernel), List.mem_of_getElem? (i := 1343) (by decide +kernel), List.mem_of_getElem? (i := 1344) (by decide +kernel)⟩
theorem lw_p27 : lw_okq (⟨"MarkerTextModel", "meaning", "(J)I"⟩, 52) := ⟨⟨by decide +kernel, by decide +kernel⟩, List.mem_of_getElem? (i := 1165) (by decide +kernel), List.mem_of_getElem? (i := 1349) (by decide +kernel), List.mem_of_getElem? (i := 1350) (by decide +kernel)⟩
theorem lw_p28 : lw_okq (⟨"MarkerTextModel", "fails", "(ZZ)Z"⟩, 52) := ⟨⟨by decide +kernel, by decide +kernel⟩, List.mem_of_getElem? (i := 1165) (by decide +kernel), List.mem_of_getElem? (i := 1359) (by decide +kernel), List.mem_of_getElem? (i := 1360) (by decide +kernel)⟩
theorem lw_p29 : lw_okq (⟨"MarkerTextModel", "isName", "(I)Z"⟩, 52) := ⟨⟨by decide +kernel, by decide +kernel⟩, List.mem_of_getElem? (i := 1165) (by decide +kernel), List.mem_of_getElem? (i := 1367) (by decide +kernel), List.mem_of_getElem? (i := 1368) (by decide +kernel)⟩
theorem lw_p30 : lw_okq (⟨"MarkerTextModel", "isValue", "(III)Z"⟩, 52) := ⟨⟨by decide +kernel, by decide +kernel⟩, List.mem_of_getElem? (i := 1165) (by decide +kernel), List.mem_of_getElem? (i := 1371) (by decide +kernel), List.mem_of_getElem? (i := 1372) (by decide +kernel)⟩
theorem lw_p31 : lw_okq (⟨"MarkerTextModel", "isText", "(II)Z"⟩, 52) := ⟨⟨by decide +kernel, by decide +kernel⟩, List.mem_of_getElem? (i := 1165) (by decide +kernel), List.mem_of_getElem? (i := 1375) (by decide +kernel), List.mem_of_getElem? (i := 1376) (by decide +kernel)⟩
def lw_privs_2 : List (MethodName × Nat) := [(⟨"MarkerText$Reader", "takesSign", "(C)Z"⟩, 7), (⟨"MarkerText$Reader", "readComparison", "(I)LMarkerText$Node;"⟩, 7), (⟨"MarkerText$Reader", "takesWord", "(Ljava/lang/String;)Z"⟩, 7), (⟨"MarkerText$Reader", "readOperator", "()I"⟩, 7), (⟨"MarkerText$Reader", "readList", "(LMarkerText$Name;)[J"⟩, 7), (⟨"MarkerText$Reader", "readValue", "(LMarkerText$Name;)J"⟩, 7), (⟨"MarkerText$Reader", "readSingle", "(LMarkerText$Name;)[J"⟩, 7), (⟨"java/util/ArrayList", "add", "(Ljava/lang/Object;[Ljava/lang/Object;I)V"⟩, 3), (⟨"java/util/ArrayList", "grow", "()[Ljava/lang/Object;"⟩, 3), (⟨"java/util/ArrayList", "grow", "(I)[Ljava/lang/Object;"⟩, 3), (⟨"MarkerTextModel", "word", "(II)J"⟩, 52), (⟨"MarkerTextModel", "meaning", "(J)I"⟩, 52), (⟨"MarkerTextModel", "fails", "(ZZ)Z"⟩, 52), (⟨"MarkerTextModel", "isName", "(I)Z"⟩, 52), (⟨"MarkerTextModel", "isValue", "(III)Z"⟩, 52), (⟨"MarkerTextModel", "isText", "(II)Z"⟩, 52)]
theorem lw_r2 : ∀ q ∈ lw_privs_2, lw_okq q := List.forall_mem_cons.mpr ⟨lw_p16, List.forall_mem_cons.mpr ⟨lw_p17, List.forall_mem_cons.mpr ⟨lw_p18, List.forall_mem_cons.mpr ⟨lw_p19, List.forall_mem_cons.mpr ⟨lw_p20, List.forall_mem_cons.mpr ⟨lw_p21, List.forall_mem_cons.mpr ⟨lw_p22, List.forall_mem_cons.mpr ⟨lw_p23, List.forall_mem_cons.mpr ⟨lw_p24, List.forall_mem_cons.mpr ⟨lw_p25, List.forall_mem_cons.mpr ⟨lw_p26, List.forall_mem_cons.mpr ⟨lw_p27, List.forall_mem_cons.mpr ⟨lw_p28, List.forall_mem_cons.mpr ⟨lw_p29, List.forall_mem_cons.mpr ⟨lw_p30, List.forall_mem_cons.mpr ⟨lw_p31, fun _ h => absurd h List.not_mem_nil⟩⟩⟩⟩⟩⟩⟩⟩⟩⟩⟩⟩⟩⟩⟩⟩
theorem lw_p32 : lw_okq (⟨"MarkerTextModel", "isVersion", "(II)Z"⟩, 52) := ⟨⟨by decide +kernel, by decide +kernel⟩, List.mem_of_getElem? (i := 1165) (by decide +kernel), List.mem_of_getElem? (i := 1383) (by decide +kernel), List.mem_of_getElem? (i := 1384) (by decide +kernel)⟩
theorem lw_p33 : lw_okq (⟨"MarkerTextModel", "read", "()V"⟩, 52) := ⟨⟨by decide +kernel, by decide +kernel⟩, List.mem_of_getElem? (i := 1165) (by decide +kernel), List.mem_of_getElem? (i := 1396) (by decide +kernel), List.mem_of_getElem? (i := 1397) (by decide +kernel)⟩
theorem lw_p34 : lw_okq (⟨"MarkerTextModel", "skip", "()V"⟩, 52) := ⟨⟨by decide +kernel, by decide +kernel⟩, List.mem_of_getElem? (i := 1165) (by decide +kernel), List.mem_of_getElem? (i := 1400) (by decide +kernel), List.mem_of_getElem? (i := 1401) (by decide +kernel)⟩
theorem lw_p35 : lw_okq (⟨"MarkerTextModel", "readFirst", "()V"⟩, 52) := ⟨⟨by decide +kernel, by decide +kernel⟩, List.mem_of_getElem? (i := 1165) (by decide +kernel), List.mem_of_getElem? (i := 1404) (by decide +kernel), List.mem_of_getElem? (i := 1405) (by decide +kernel)⟩
theorem lw_p36 : lw_okq (⟨"MarkerTextModel", "now", "()I"⟩, 52) := ⟨⟨by decide +kernel, by decide +kernel⟩, List.mem_of_getElem? (i := 1165) (by decide +kernel), List.mem_of_getElem? (i := 1408) (by decide +kernel), List.mem_of_getElem? (i := 1409) (by decide +kernel)⟩
theorem lw_p37 : lw_okq (⟨"MarkerTextModel", "open", "(II)V"⟩, 52) := ⟨⟨by decide +kernel, by decide +kernel⟩, List.mem_of_getElem? (i := 1165) (by decide +kernel), List.mem_of_getElem? (i := 1412) (by decide +kernel), List.mem_of_getElem? (i := 1413) (by decide +kernel)⟩
theorem lw_p38 : lw_okq (⟨"MarkerTextModel", "fault", "(I)V"⟩, 52) := ⟨⟨by decide +kernel, by decide +kernel⟩, List.mem_of_getElem? (i := 1165) (by decide +kernel), List.mem_of_getElem? (i := 1416) (by decide +kernel), List.mem_of_getElem? (i := 1417) (by decide +kernel)⟩
theorem lw_p39 : lw_okq (⟨"MarkerTextModel", "push", "(I)V"⟩, 52) := ⟨⟨by decide +kernel, by decide +kernel⟩, List.mem_of_getElem? (i := 1165) (by decide +kernel), List.mem_of_getElem? (i := 1420) (by decide +kernel), List.mem_of_getElem? (i := 1421) (by decide +kernel)⟩
theorem lw_p40 : lw_okq (⟨"MarkerTextModel", "letters", "(I)I"⟩, 52) := ⟨⟨by decide +kernel, by decide +kernel⟩, List.mem_of_getElem? (i := 1165) (by decide +kernel), List.mem_of_getElem? (i := 1424) (by decide +kernel), List.mem_of_getElem? (i := 1425) (by decide +kernel)⟩
theorem lw_p41 : lw_okq (⟨"MarkerTextModel", "readTest", "(I)V"⟩, 52) := ⟨⟨by decide +kernel, by decide +kernel⟩, List.mem_of_getElem? (i := 1165) (by decide +kernel), List.mem_of_getElem? (i := 1428) (by decide +kernel), List.mem_of_getElem? (i := 1429) (by decide +kernel)⟩
theorem lw_p42 : lw_okq (⟨"MarkerTextModel", "readList", "(I)V"⟩, 52) := ⟨⟨by decide +kernel, by decide +kernel⟩, List.mem_of_getElem? (i := 1165) (by decide +kernel), List.mem_of_getElem? (i := 1432) (by decide +kernel), List.mem_of_getElem? (i := 1433) (by decide +kernel)⟩
theorem lw_p43 : lw_okq (⟨"MarkerTextModel", "expect", "(I)V"⟩, 52) := ⟨⟨by decide +kernel, by decide +kernel⟩, List.mem_of_getElem? (i := 1165) (by decide +kernel), List.mem_of_getElem? (i := 1436) (by decide +kernel), List.mem_of_getElem? (i := 1437) (by decide +kernel)⟩
theorem lw_p44 : lw_okq (⟨"MarkerTextModel", "readValue", "(I)V"⟩, 52) := ⟨⟨by decide +kernel, by decide +kernel⟩, List.mem_of_getElem? (i := 1165) (by decide +kernel), List.mem_of_getElem? (i := 1440) (by decide +kernel), List.mem_of_getElem? (i := 1441) (by decide +kernel)⟩
theorem lw_p45 : lw_okq (⟨"MarkerTextModel", "operator", "()I"⟩, 52) := ⟨⟨by decide +kernel, by decide +kernel⟩, List.mem_of_getElem? (i := 1165) (by decide +kernel), List.mem_of_getElem? (i := 1444) (by decide +kernel), List.mem_of_getElem? (i := 1445) (by decide +kernel)⟩
theorem lw_p46 : lw_okq (⟨"MarkerTextModel", "addTest", "(III)V"⟩, 52) := ⟨⟨by decide +kernel, by decide +kernel⟩, List.mem_of_getElem? (i := 1165) (by decide +kernel), List.mem_of_getElem? (i := 1448) (by decide +kernel), List.mem_of_getElem? (i := 1449) (by decide +kernel)⟩
theorem lw_p47 : lw_okq (⟨"MarkerTextModel", "addNode", "(III)I"⟩, 52) := ⟨⟨by decide +kernel, by decide +kernel⟩, List.mem_of_getElem? (i := 1165) (by decide +kernel), List.mem_of_getElem? (i := 1452) (by decide +kernel), List.mem_of_getElem? (i := 1453) (by decide +kernel)⟩
def lw_privs_3 : List (MethodName × Nat) := [(⟨"MarkerTextModel", "isVersion", "(II)Z"⟩, 52), (⟨"MarkerTextModel", "read", "()V"⟩, 52), (⟨"MarkerTextModel", "skip", "()V"⟩, 52), (⟨"MarkerTextModel", "readFirst", "()V"⟩, 52), (⟨"MarkerTextModel", "now", "()I"⟩, 52), (⟨"MarkerTextModel", "open", "(II)V"⟩, 52), (⟨"MarkerTextModel", "fault", "(I)V"⟩, 52), (⟨"MarkerTextModel", "push", "(I)V"⟩, 52), (⟨"MarkerTextModel", "letters", "(I)I"⟩, 52), (⟨"MarkerTextModel", "readTest", "(I)V"⟩, 52), (⟨"MarkerTextModel", "readList", "(I)V"⟩, 52), (⟨"MarkerTextModel", "expect", "(I)V"⟩, 52), (⟨"MarkerTextModel", "readValue", "(I)V"⟩, 52), (⟨"MarkerTextModel", "operator", "()I"⟩, 52), (⟨"MarkerTextModel", "addTest", "(III)V"⟩, 52), (⟨"MarkerTextModel", "addNode", "(III)I"⟩, 52)]
theorem lw_r3 : ∀ q ∈ lw_privs_3, lw_okq q := List.forall_mem_cons.mpr ⟨lw_p32, List.forall_mem_cons.mpr ⟨lw_p33, List.forall_mem_cons.mpr ⟨lw_p34, List.forall_mem_cons.mpr ⟨lw_p35, List.forall_mem_cons.mpr ⟨lw_p36, List.forall_mem_cons.mpr ⟨lw_p37, List.forall_mem_cons.mpr ⟨lw_p38, List.forall_mem_cons.mpr ⟨lw_p39, List.forall_mem_cons.mpr ⟨lw_p40, List.forall_mem_cons.mpr ⟨lw_p41, List.forall_mem_cons.mpr ⟨lw_p42, List.forall_mem_cons.mpr ⟨lw_p43, List.forall_mem_cons.mpr ⟨lw_p44, List.forall_mem_cons.mpr ⟨lw_p45, List.forall_mem_cons.mpr ⟨lw_p46, List.forall_mem_cons.mpr ⟨lw_p47, fun _ h => absurd h List.not_mem_nil⟩⟩⟩⟩⟩⟩⟩⟩⟩⟩⟩⟩⟩⟩⟩⟩
theorem lw_p48 : lw_okq (⟨"MarkerTextModel", "complete", "()V"⟩, 52) := ⟨⟨by decide +kernel, by decide +kernel⟩, List.mem_of_getElem? (i := 1165) (by decide +kernel), List.mem_of_getElem? (i := 1456) (by decide +kernel), List.mem_of_getElem? (i := 1457) (by decide +kernel)⟩
theorem lw_p49 : lw_okq (⟨"MarkerTextModel", "isOnTop", "(I)Z"⟩, 52) := ⟨⟨by decide +kernel, by decide +kernel⟩, List.mem_of_getElem? (i := 1165) (by decide +kernel), List.mem_of_getElem? (i := 1460) (by decide +kernel), List.mem_of_getElem? (i := 1461) (by decide +kernel)⟩
theorem lw_p50 : lw_okq (⟨"MarkerTextModel", "apply", "()V"⟩, 52) := ⟨⟨by decide +kernel, by decide +kernel⟩, List.mem_of_getElem? (i := 1165) (by decide +kernel), List.mem_of_getElem? (i := 1464) (by decide +kernel), List.mem_of_getElem? (i := 1465) (by decide +kernel)⟩
theorem lw_p51 : lw_okq (⟨"MarkerTextModel", "readNext", "()Z"⟩, 52) := ⟨⟨by decide +kernel, by decide +kernel⟩, List.mem_of_getElem? (i := 1165) (by decide +kernel), List.mem_of_getElem? (i := 1468) (by decide +kernel), List.mem_of_getElem? (i := 1469) (by decide +kernel)⟩
theorem lw_p52 : lw_okq (⟨"MarkerTextModel", "isCondition", "(I)Z"⟩, 52) := ⟨⟨by decide +kernel, by decide +kernel⟩, List.mem_of_getElem? (i := 1165) (by decide +kernel), List.mem_of_getElem? (i := 1480) (by decide +kernel), List.mem_of_getElem? (i := 1481) (by decide +kernel)⟩
theorem lw_p53 : lw_okq (⟨"MarkerTextModel", "isHeld", "(IZ)Z"⟩, 52) := ⟨⟨by decide +kernel, by decide +kernel⟩, List.mem_of_getElem? (i := 1165) (by decide +kernel), List.mem_of_getElem? (i := 1484) (by decide +kernel), List.mem_of_getElem? (i := 1485) (by decide +kernel)⟩
theorem lw_p54 : lw_okq (⟨"MarkerTextModel", "isTrue", "(IZ)Z"⟩, 52) := ⟨⟨by decide +kernel, by decide +kernel⟩, List.mem_of_getElem? (i := 1165) (by decide +kernel), List.mem_of_getElem? (i := 1488) (by decide +kernel), List.mem_of_getElem? (i := 1489) (by decide +kernel)⟩
theorem lw_p55 : lw_okq (⟨"MarkerTextModel", "some", "(III)I"⟩, 52) := ⟨⟨by decide +kernel, by decide +kernel⟩, List.mem_of_getElem? (i := 1165) (by decide +kernel), List.mem_of_getElem? (i := 1499) (by decide +kernel), List.mem_of_getElem? (i := 1500) (by decide +kernel)⟩
theorem lw_p56 : lw_okq (⟨"MarkerTextModel", "prepare", "(I)Z"⟩, 52) := ⟨⟨by decide +kernel, by decide +kernel⟩, List.mem_of_getElem? (i := 1165) (by decide +kernel), List.mem_of_getElem? (i := 1503) (by decide +kernel), List.mem_of_getElem? (i := 1504) (by decide +kernel)⟩
theorem lw_p57 : lw_okq (⟨"MarkerTextModel", "gather", "(I)V"⟩, 52) := ⟨⟨by decide +kernel, by decide +kernel⟩, List.mem_of_getElem? (i := 1165) (by decide +kernel), List.mem_of_getElem? (i := 1507) (by decide +kernel), List.mem_of_getElem? (i := 1508) (by decide +kernel)⟩
theorem lw_p58 : lw_okq (⟨"MarkerTextModel", "sort", "(IJ)V"⟩, 52) := ⟨⟨by decide +kernel, by decide +kernel⟩, List.mem_of_getElem? (i := 1165) (by decide +kernel), List.mem_of_getElem? (i := 1511) (by decide +kernel), List.mem_of_getElem? (i := 1512) (by decide +kernel)⟩
theorem lw_p59 : lw_okq (⟨"MarkerTextModel", "samples", "(I)I"⟩, 52) := ⟨⟨by decide +kernel, by decide +kernel⟩, List.mem_of_getElem? (i := 1165) (by decide +kernel), List.mem_of_getElem? (i := 1516) (by decide +kernel), List.mem_of_getElem? (i := 1517) (by decide +kernel)⟩
theorem lw_p60 : lw_okq (⟨"MarkerTextModel", "locate", "(I)V"⟩, 52) := ⟨⟨by decide +kernel, by decide +kernel⟩, List.mem_of_getElem? (i := 1165) (by decide +kernel), List.mem_of_getElem? (i := 1520) (by decide +kernel), List.mem_of_getElem? (i := 1521) (by decide +kernel)⟩
theorem lw_p61 : lw_okq (⟨"MarkerTextModel", "truth", "(I)I"⟩, 52) := ⟨⟨by decide +kernel, by decide +kernel⟩, List.mem_of_getElem? (i := 1165) (by decide +kernel), List.mem_of_getElem? (i := 1524) (by decide +kernel), List.mem_of_getElem? (i := 1525) (by decide +kernel)⟩
theorem lw_p62 : lw_okq (⟨"MarkerTextModel", "advance", "()Z"⟩, 52) := ⟨⟨by decide +kernel, by decide +kernel⟩, List.mem_of_getElem? (i := 1165) (by decide +kernel), List.mem_of_getElem? (i := 1528) (by decide +kernel), List.mem_of_getElem? (i := 1529) (by decide +kernel)⟩
theorem lw_p63 : lw_okq (⟨"MarkerTextModel", "print", "(I)V"⟩, 52) := ⟨⟨by decide +kernel, by decide +kernel⟩, List.mem_of_getElem? (i := 1165) (by decide +kernel), List.mem_of_getElem? (i := 1560) (by decide +kernel), List.mem_of_getElem? (i := 1561) (by decide +kernel)⟩
def lw_privs_4 : List (MethodName × Nat) := [(⟨"MarkerTextModel", "complete", "()V"⟩, 52), (⟨"MarkerTextModel", "isOnTop", "(I)Z"⟩, 52), (⟨"MarkerTextModel", "apply", "()V"⟩, 52), (⟨"MarkerTextModel", "readNext", "()Z"⟩, 52), (⟨"MarkerTextModel", "isCondition", "(I)Z"⟩, 52), (⟨"MarkerTextModel", "isHeld", "(IZ)Z"⟩, 52), (⟨"MarkerTextModel", "isTrue", "(IZ)Z"⟩, 52), (⟨"MarkerTextModel", "some", "(III)I"⟩, 52), (⟨"MarkerTextModel", "prepare", "(I)Z"⟩, 52), (⟨"MarkerTextModel", "gather", "(I)V"⟩, 52), (⟨"MarkerTextModel", "sort", "(IJ)V"⟩, 52), (⟨"MarkerTextModel", "samples", "(I)I"⟩, 52), (⟨"MarkerTextModel", "locate", "(I)V"⟩, 52), (⟨"MarkerTextModel", "truth", "(I)I"⟩, 52), (⟨"MarkerTextModel", "advance", "()Z"⟩, 52), (⟨"MarkerTextModel", "print", "(I)V"⟩, 52)]
theorem lw_r4 : ∀ q ∈ lw_privs_4, lw_okq q := List.forall_mem_cons.mpr ⟨lw_p48, List.forall_mem_cons.mpr ⟨lw_p49, List.forall_mem_cons.mpr ⟨lw_p50, List.forall_mem_cons.mpr ⟨lw_p51, List.forall_mem_cons.mpr ⟨lw_p52, List.forall_mem_cons.mpr ⟨lw_p53, List.forall_mem_cons.mpr ⟨lw_p54, List.forall_mem_cons.mpr ⟨lw_p55, List.forall_mem_cons.mpr ⟨lw_p56, List.forall_mem_cons.mpr ⟨lw_p57, List.forall_mem_cons.mpr ⟨lw_p58, List.forall_mem_cons.mpr ⟨lw_p59, List.forall_mem_cons.mpr ⟨lw_p60, List.forall_mem_cons.mpr ⟨lw_p61, List.forall_mem_cons.mpr ⟨lw_p62, List.forall_mem_cons.mpr ⟨lw_p63, fun _ h => absurd h List.not_mem_nil⟩⟩⟩⟩⟩⟩⟩⟩⟩⟩⟩⟩⟩⟩⟩⟩
theorem lw_p64 : lw_okq (⟨"MarkerTextModel", "later", "(I)V"⟩, 52) := ⟨⟨by decide +kernel, by decide +kernel⟩, List.mem_of_getElem? (i := 1165) (by decide +kernel), List.mem_of_getElem? (i := 1564) (by decide +kernel), List.mem_of_getElem? (i := 1565) (by decide +kernel)⟩
theorem lw_p65 : lw_okq (⟨"MarkerTextModel", "putAll", "(J)V"⟩, 52) := ⟨⟨by decide +kernel, by decide +kernel⟩, List.mem_of_getElem? (i := 1165) (by decide +kernel), List.mem_of_getElem? (i := 1570) (by decide +kernel), List.mem_of_getElem? (i := 1571) (by decide +kernel)⟩
theorem lw_p66 : lw_okq (⟨"MarkerTextModel", "put", "(I)V"⟩, 52) := ⟨⟨by decide +kernel, by decide +kernel⟩, List.mem_of_getElem? (i := 1165) (by decide +kernel), List.mem_of_getElem? (i := 1575) (by decide +kernel), List.mem_of_getElem? (i := 1576) (by decide +kernel)⟩
theorem lw_p67 : lw_okq (⟨"MarkerTextModel", "printTest", "(I)V"⟩, 52) := ⟨⟨by decide +kernel, by decide +kernel⟩, List.mem_of_getElem? (i := 1165) (by decide +kernel), List.mem_of_getElem? (i := 1579) (by decide +kernel), List.mem_of_getElem? (i := 1580) (by decide +kernel)⟩
theorem lw_p68 : lw_okq (⟨"MarkerTextModel", "laterNode", "(IZ)V"⟩, 52) := ⟨⟨by decide +kernel, by decide +kernel⟩, List.mem_of_getElem? (i := 1165) (by decide +kernel), List.mem_of_getElem? (i := 1598) (by decide +kernel), List.mem_of_getElem? (i := 1599) (by decide +kernel)⟩
def lw_privs_5 : List (MethodName × Nat) := [(⟨"MarkerTextModel", "later", "(I)V"⟩, 52), (⟨"MarkerTextModel", "putAll", "(J)V"⟩, 52), (⟨"MarkerTextModel", "put", "(I)V"⟩, 52), (⟨"MarkerTextModel", "printTest", "(I)V"⟩, 52), (⟨"MarkerTextModel", "laterNode", "(IZ)V"⟩, 52)]
theorem lw_r5 : ∀ q ∈ lw_privs_5, lw_okq q := List.forall_mem_cons.mpr ⟨lw_p64, List.forall_mem_cons.mpr ⟨lw_p65, List.forall_mem_cons.mpr ⟨lw_p66, List.forall_mem_cons.mpr ⟨lw_p67, List.forall_mem_cons.mpr ⟨lw_p68, fun _ h => absurd h List.not_mem_nil⟩⟩⟩⟩⟩
def lw_privs : List (MethodName × Nat) := lw_privs_1 ++ (lw_privs_2 ++ (lw_privs_3 ++ (lw_privs_4 ++ (lw_privs_5))))
def lw_tbl : List Cond := k2_sels lw_privs ++ tables_1
theorem lw_privs_ok : ∀ q ∈ lw_privs, lw_okq q := by
  show ∀ q ∈ lw_privs_1 ++ (lw_privs_2 ++ (lw_privs_3 ++ (lw_privs_4 ++ (lw_privs_5)))), lw_okq q
  exact List.forall_mem_append.mpr ⟨lw_r1, List.forall_mem_append.mpr ⟨lw_r2, List.forall_mem_append.mpr ⟨lw_r3, List.forall_mem_append.mpr ⟨lw_r4, lw_r5⟩⟩⟩⟩
-- ===== end of PART A; then your names; then what follows =====
end
section
section XK
/-- which words go along when the tables warm -/
def xgw (w : Cond) : Bool := (w.onTables && w.keeps) || match w with
  | .arrayClass _ => true
  | .fieldLinkNest _ _ _ _ _ _ => true
  | .methodLinkNest _ _ _ _ => true
  | .declares _ => true
  | .castable _ _ => true
  | .arrayOver (.object _) => true
  | _ => false
/-- the words of the tables that a contract carries -/
def xok (w : Cond) : Bool := match w with
  | .arrayClass _ => true
  | .arrayOver (.object _) => true
  | w => w.onTables && xgw w
/-- private methods of a superclass: a receiver of the subclass selects them too -/
def xpriv : List (String × MethodName × MethodName) := [("java/lang/StringBuilder", ⟨"java/lang/AbstractStringBuilder", "isLatin1", "()Z"⟩, ⟨"java/lang/AbstractStringBuilder", "ensureCapacityInternal", "(I)V"⟩), ("java/lang/StringBuilder", ⟨"java/lang/AbstractStringBuilder", "isLatin1", "()Z"⟩, ⟨"java/lang/AbstractStringBuilder", "newCapacity", "(I)I"⟩), ("java/lang/StringBuilder", ⟨"java/lang/AbstractStringBuilder", "isLatin1", "()Z"⟩, ⟨"java/lang/AbstractStringBuilder", "inflate", "()V"⟩), ("java/lang/StringBuilder", ⟨"java/lang/AbstractStringBuilder", "isLatin1", "()Z"⟩, ⟨"java/lang/AbstractStringBuilder", "appendNull", "()Ljava/lang/AbstractStringBuilder;"⟩), ("java/lang/StringBuilder", ⟨"java/lang/AbstractStringBuilder", "isLatin1", "()Z"⟩, ⟨"java/lang/AbstractStringBuilder", "putStringAt", "(ILjava/lang/String;)V"⟩), ("java/lang/StringBuilder", ⟨"java/lang/AbstractStringBuilder", "isLatin1", "()Z"⟩, ⟨"java/lang/AbstractStringBuilder", "inflateIfNeededFor", "(Ljava/lang/String;)V"⟩)]
def xpsel : List Cond := xpriv.map (fun q => Cond.selects q.1 q.2.2 q.2.2)
def xpok (q : String × MethodName × MethodName) : Prop := q.2.1.cls = q.2.2.cls ∧ (q.2.2.cls ≠ "java/lang/invoke/MethodHandle" ∧ q.2.2.cls ≠ "java/lang/invoke/VarHandle") ∧ Cond.selects q.1 q.2.1 q.2.1 ∈ tables_1 ∧ Cond.privateMethod q.2.2 ∈ tables_1 ∧ Cond.instanceMethod q.2.2 ∈ tables_1
theorem xpp0 : xpok ("java/lang/StringBuilder", ⟨"java/lang/AbstractStringBuilder", "isLatin1", "()Z"⟩, ⟨"java/lang/AbstractStringBuilder", "ensureCapacityInternal", "(I)V"⟩) := ⟨rfl, ⟨by decide, by decide⟩, List.mem_of_getElem? (i := 224) (by decide +kernel), List.mem_of_getElem? (i := 187) (by decide +kernel), List.mem_of_getElem? (i := 188) (by decide +kernel)⟩
theorem xpp1 : xpok ("java/lang/StringBuilder", ⟨"java/lang/AbstractStringBuilder", "isLatin1", "()Z"⟩, ⟨"java/lang/AbstractStringBuilder", "newCapacity", "(I)I"⟩) := ⟨rfl, ⟨by decide, by decide⟩, List.mem_of_getElem? (i := 224) (by decide +kernel), List.mem_of_getElem? (i := 191) (by decide +kernel), List.mem_of_getElem? (i := 192) (by decide +kernel)⟩
theorem xpp2 : xpok ("java/lang/StringBuilder", ⟨"java/lang/AbstractStringBuilder", "isLatin1", "()Z"⟩, ⟨"java/lang/AbstractStringBuilder", "inflate", "()V"⟩) := ⟨rfl, ⟨by decide, by decide⟩, List.mem_of_getElem? (i := 224) (by decide +kernel), List.mem_of_getElem? (i := 230) (by decide +kernel), List.mem_of_getElem? (i := 231) (by decide +kernel)⟩
theorem xpp3 : xpok ("java/lang/StringBuilder", ⟨"java/lang/AbstractStringBuilder", "isLatin1", "()Z"⟩, ⟨"java/lang/AbstractStringBuilder", "appendNull", "()Ljava/lang/AbstractStringBuilder;"⟩) := ⟨rfl, ⟨by decide, by decide⟩, List.mem_of_getElem? (i := 224) (by decide +kernel), List.mem_of_getElem? (i := 575) (by decide +kernel), List.mem_of_getElem? (i := 576) (by decide +kernel)⟩
theorem xpp4 : xpok ("java/lang/StringBuilder", ⟨"java/lang/AbstractStringBuilder", "isLatin1", "()Z"⟩, ⟨"java/lang/AbstractStringBuilder", "putStringAt", "(ILjava/lang/String;)V"⟩) := ⟨rfl, ⟨by decide, by decide⟩, List.mem_of_getElem? (i := 224) (by decide +kernel), List.mem_of_getElem? (i := 583) (by decide +kernel), List.mem_of_getElem? (i := 584) (by decide +kernel)⟩
theorem xpp5 : xpok ("java/lang/StringBuilder", ⟨"java/lang/AbstractStringBuilder", "isLatin1", "()Z"⟩, ⟨"java/lang/AbstractStringBuilder", "inflateIfNeededFor", "(Ljava/lang/String;)V"⟩) := ⟨rfl, ⟨by decide, by decide⟩, List.mem_of_getElem? (i := 224) (by decide +kernel), List.mem_of_getElem? (i := 587) (by decide +kernel), List.mem_of_getElem? (i := 588) (by decide +kernel)⟩
theorem xpriv_ok : ∀ q ∈ xpriv, xpok q := List.forall_mem_cons.mpr ⟨xpp0, List.forall_mem_cons.mpr ⟨xpp1, List.forall_mem_cons.mpr ⟨xpp2, List.forall_mem_cons.mpr ⟨xpp3, List.forall_mem_cons.mpr ⟨xpp4, List.forall_mem_cons.mpr ⟨xpp5, fun _ h => absurd h List.not_mem_nil⟩⟩⟩⟩⟩⟩
theorem xpsel_ok {args : Array Value} {s : State} (hts : ∀ w ∈ tables_1, w.before args s = true) : ∀ w ∈ xpsel, w.before args s = true := by
  intro w hw
  obtain ⟨q, hq, rfl⟩ := List.mem_map.mp hw
  obtain ⟨e, hy, h0, hp, hi⟩ := xpriv_ok q hq
  obtain ⟨mk, methM, hnamed, hmethM, -, -⟩ := Cond.instanceMethod_spec (hts _ hi)
  obtain ⟨c2, r2, m2, q1, q2, q3, q4, kP, hkP, hkPi⟩ := Cond.selects_spec (hts _ h0)
  have hfound : s.methodFound? q.2.2.cls q.2.2.name q.2.2.desc = some mk := State.methodFound?_of_named hnamed hy
  have hm2 : m2.cls = mk.cls := Option.some.inj ((findClass_of_methodNamed q3).symm.trans (by rw [e]; exact findClass_of_methodNamed hnamed))
  rw [hm2] at hkP
  have hsel : selectMethod {} s.vm c2 mk = .method mk := selectMethod_private hmethM (Cond.privateMethod_at (hts _ hp) mk methM hnamed hmethM)
  simp only [Cond.before, Cond.holds, Cond.value, q1, hfound, hnamed, hsel, hkP]
  simp; exact hkPi
def xT : List Cond := (xpsel ++ lw_tbl).filter xok
theorem xok_or {w : Cond} (h : xok w = true) : (w.onTables = true ∧ xgw w = true) ∨ (∃ ty, w = .arrayClass ty) ∨ ∃ C, w = .arrayOver (.object C) := by
  unfold xok at h
  split at h
  · exact Or.inr (Or.inl ⟨_, rfl⟩)
  · exact Or.inr (Or.inr ⟨_, rfl⟩)
  · exact Or.inl (Bool.and_eq_true_iff.mp h)
theorem xT_or {w : Cond} (h : w ∈ xT) : (w.onTables = true ∧ xgw w = true) ∨ (∃ ty, w = .arrayClass ty) ∨ ∃ C, w = .arrayOver (.object C) := xok_or (List.mem_filter.mp h).2
/-- a word at the same tables, whatever the arguments -/
theorem xT_same {w : Cond} (h : w ∈ xT) {s U : State} {a b : Array Value} (hv : s.vm = U.vm) (hw : w.before a s = true) : w.before b U = true := by
  rcases xT_or h with ⟨q, -⟩ | ⟨ty, rfl⟩ | ⟨C, rfl⟩
  · exact va_tabs q hv hw
  · exact word_at (by rw [← hv]; exact State.WarmedH.refl s) (Or.inr ⟨_, rfl⟩) hw
  · exact va_AO.moved (by rw [hv]; exact Vm.Alike.refl _) hw
theorem xT_tbl {w : Cond} (h : w ∈ tables_1) (hg : xok w = true) : w ∈ xT := List.mem_filter.mpr ⟨List.mem_append_right _ (List.mem_append_right _ h), hg⟩
theorem xT_ps {w : Cond} (h : w ∈ xpsel) (hg : xok w = true) : w ∈ xT := List.mem_filter.mpr ⟨List.mem_append_left _ h, hg⟩
theorem xT_at {w : Cond} (i : Nat) (h : tables_1[i]? = some w) (hg : xok w = true) : w ∈ xT := xT_tbl (List.mem_of_getElem? h) hg
theorem xT_sel {q : MethodName × Nat} (h : q ∈ lw_privs) (hg : xok (Cond.selects q.1.cls q.1 q.1) = true) : Cond.selects q.1.cls q.1 q.1 ∈ xT := List.mem_filter.mpr ⟨List.mem_append_right _ (List.mem_append_left _ (List.mem_map.mpr ⟨q, h, rfl⟩)), hg⟩
theorem xT_many (ps : List Nat) (ws : List Cond) (h : ws.map some = ps.map (fun i => tables_1[i]?)) (hg : ws.all xok = true) : ∀ w ∈ ws, w ∈ xT := by
  intro w hw
  refine xT_tbl ?_ (List.all_eq_true.mp hg w hw)
  have h1 : some w ∈ ps.map (fun i => tables_1[i]?) := by rw [← h]; exact List.mem_map.mpr ⟨w, hw, rfl⟩
  obtain ⟨i, -, hi⟩ := List.mem_map.mp h1
  exact List.mem_of_getElem? hi
abbrev R_MarkerText : String := "MarkerText"
def T_MarkerText : u_T := fun k => match k with
  | 0 => ("MarkerText", "text", "Ljava/lang/StringBuilder;", true)
  | 1 => ("MarkerText", "names", "[LMarkerText$Name;", true)
  | 2 => ("MarkerText", "nameCount", "I", false)
  | 3 => ("MarkerText", "conditions", "[LMarkerText$Condition;", true)
  | 4 => ("MarkerText", "conditionCount", "I", false)
  | 5 => ("MarkerText", "illPlace", "I", false)
  | 6 => ("MarkerText", "environment", "[J", true)
  | 7 => ("MarkerText", "choices", "LMarkerText$Choices;", true)
  | _ => ("MarkerText", "parting", "LMarkerText$Parting;", true)
abbrev k_MarkerText : Nat := 0
abbrev R_StringBuilder : String := "java/lang/StringBuilder"
def T_StringBuilder : u_T := fun k => match k with
  | 0 => ("java/lang/AbstractStringBuilder", "value", "[B", false)
  | 1 => ("java/lang/AbstractStringBuilder", "coder", "B", false)
  | 2 => ("java/lang/AbstractStringBuilder", "maybeLatin1", "Z", false)
  | _ => ("java/lang/AbstractStringBuilder", "count", "I", false)
abbrev k_StringBuilder : Nat := 1
abbrev R_Choices : String := "MarkerText$Choices"
def T_Choices : u_T := fun k => match k with
  | 0 => ("MarkerText$Choices", "values", "[J", true)
  | 1 => ("MarkerText$Choices", "used", "I", false)
  | 2 => ("MarkerText$Choices", "starts", "[I", true)
  | 3 => ("MarkerText$Choices", "samples", "[I", true)
  | 4 => ("MarkerText$Choices", "picks", "[I", true)
  | 5 => ("MarkerText$Choices", "levels", "[J", true)
  | _ => ("MarkerText$Choices", "count", "I", false)
abbrev k_Choices : Nat := 2
abbrev R_Parting : String := "MarkerText$Parting"
def T_Parting : u_T := fun k => match k with
  | 0 => ("MarkerText$Parting", "count", "I", false)
  | 1 => ("MarkerText$Parting", "truths", "[I", true)
  | 2 => ("MarkerText$Parting", "sizes", "[I", true)
  | 3 => ("MarkerText$Parting", "firsts", "[I", true)
  | 4 => ("MarkerText$Parting", "classOfTruths", "[I", true)
  | _ => ("MarkerText$Parting", "samples", "[I", true)
abbrev k_Parting : Nat := 3
abbrev R_String : String := "java/lang/String"
def T_String : u_T := fun k => match k with
  | 0 => ("java/lang/String", "value", "[B", true)
  | 1 => ("java/lang/String", "coder", "B", true)
  | 2 => ("java/lang/String", "hash", "I", false)
  | _ => ("java/lang/String", "hashIsZero", "Z", false)
abbrev k_String : Nat := 4
abbrev R_IllegalArgumentException : String := "java/lang/IllegalArgumentException"
def T_IllegalArgumentException : u_T := fun k => match k with
  | 0 => ("java/lang/Throwable", "cause", "Ljava/lang/Throwable;", false)
  | 1 => ("java/lang/Throwable", "stackTrace", "[Ljava/lang/StackTraceElement;", false)
  | 2 => ("java/lang/Throwable", "suppressedExceptions", "Ljava/util/List;", false)
  | 3 => ("java/lang/Throwable", "detailMessage", "Ljava/lang/String;", false)
  | 4 => ("java/lang/Throwable", "backtrace", "Ljava/lang/Object;", false)
  | _ => ("java/lang/Throwable", "depth", "I", false)
abbrev k_IllegalArgumentException : Nat := 5
abbrev R_IllegalStateException : String := "java/lang/IllegalStateException"
def T_IllegalStateException : u_T := fun k => match k with
  | 0 => ("java/lang/Throwable", "cause", "Ljava/lang/Throwable;", false)
  | 1 => ("java/lang/Throwable", "stackTrace", "[Ljava/lang/StackTraceElement;", false)
  | 2 => ("java/lang/Throwable", "suppressedExceptions", "Ljava/util/List;", false)
  | 3 => ("java/lang/Throwable", "detailMessage", "Ljava/lang/String;", false)
  | 4 => ("java/lang/Throwable", "backtrace", "Ljava/lang/Object;", false)
  | _ => ("java/lang/Throwable", "depth", "I", false)
abbrev k_IllegalStateException : Nat := 6
abbrev R_Name : String := "MarkerText$Name"
def T_Name : u_T := fun k => match k with
  | 0 => ("MarkerText$Name", "spelling", "Ljava/lang/String;", true)
  | 1 => ("MarkerText$Name", "kind", "I", true)
  | 2 => ("MarkerText$Name", "known", "[J", true)
  | _ => ("MarkerText$Name", "knownCount", "I", false)
abbrev k_Name : Nat := 7
abbrev R_Reader : String := "MarkerText$Reader"
def T_Reader : u_T := fun k => match k with
  | 0 => ("MarkerText$Reader", "text", "Ljava/lang/String;", true)
  | 1 => ("MarkerText$Reader", "names", "[LMarkerText$Name;", true)
  | 2 => ("MarkerText$Reader", "tests", "Ljava/util/ArrayList;", true)
  | 3 => ("MarkerText$Reader", "line", "Ljava/lang/StringBuilder;", true)
  | 4 => ("MarkerText$Reader", "at", "I", false)
  | 5 => ("MarkerText$Reader", "open", "I", false)
  | _ => ("MarkerText$Reader", "testCount", "I", false)
abbrev k_Reader : Nat := 8
abbrev R_ArrayList : String := "java/util/ArrayList"
def T_ArrayList : u_T := fun k => match k with
  | 0 => ("java/util/ArrayList", "elementData", "[Ljava/lang/Object;", false)
  | 1 => ("java/util/ArrayList", "size", "I", false)
  | _ => ("java/util/AbstractList", "modCount", "I", false)
abbrev k_ArrayList : Nat := 9
abbrev R_Negation : String := "MarkerText$Negation"
def T_Negation : u_T := fun k => match k with
  | 0 => ("MarkerText$Negation", "inner", "LMarkerText$Node;", true)
  | _ => ("MarkerText$Node", "strength", "I", true)
abbrev k_Negation : Nat := 10
abbrev R_Constant : String := "MarkerText$Constant"
def T_Constant : u_T := fun k => match k with
  | 0 => ("MarkerText$Constant", "truth", "Z", true)
  | _ => ("MarkerText$Node", "strength", "I", true)
abbrev k_Constant : Nat := 11
abbrev R_Test : String := "MarkerText$Test"
def T_Test : u_T := fun k => match k with
  | 0 => ("MarkerText$Test", "name", "I", true)
  | 1 => ("MarkerText$Test", "accepted", "I", true)
  | 2 => ("MarkerText$Test", "values", "[J", true)
  | 3 => ("MarkerText$Test", "shown", "Ljava/lang/String;", true)
  | _ => ("MarkerText$Node", "strength", "I", true)
abbrev k_Test : Nat := 12
abbrev R_Join : String := "MarkerText$Join"
def T_Join : u_T := fun k => match k with
  | 0 => ("MarkerText$Join", "first", "LMarkerText$Node;", true)
  | 1 => ("MarkerText$Join", "second", "LMarkerText$Node;", true)
  | _ => ("MarkerText$Node", "strength", "I", true)
abbrev k_Join : Nat := 13
abbrev R_Condition : String := "MarkerText$Condition"
def T_Condition : u_T := fun k => match k with
  | 0 => ("MarkerText$Condition", "root", "LMarkerText$Node;", true)
  | 1 => ("MarkerText$Condition", "tests", "Ljava/util/ArrayList;", true)
  | _ => ("MarkerText$Condition", "shown", "Ljava/lang/String;", true)
abbrev k_Condition : Nat := 14
abbrev R_MarkerTextModel : String := "MarkerTextModel"
def T_MarkerTextModel : u_T := fun k => match k with
  | 0 => ("MarkerTextModel", "thrown", "I", false)
  | 1 => ("MarkerTextModel", "text", "[I", true)
  | 2 => ("MarkerTextModel", "size", "I", false)
  | 3 => ("MarkerTextModel", "names", "I", false)
  | 4 => ("MarkerTextModel", "letters", "[I", true)
  | 5 => ("MarkerTextModel", "lengths", "[I", true)
  | 6 => ("MarkerTextModel", "kinds", "[I", true)
  | 7 => ("MarkerTextModel", "knownMany", "[I", true)
  | 8 => ("MarkerTextModel", "known", "[J", true)
  | 9 => ("MarkerTextModel", "given", "[Z", true)
  | 10 => ("MarkerTextModel", "gives", "[J", true)
  | 11 => ("MarkerTextModel", "conditions", "I", false)
  | 12 => ("MarkerTextModel", "nodeKinds", "[I", true)
  | 13 => ("MarkerTextModel", "lefts", "[I", true)
  | 14 => ("MarkerTextModel", "rights", "[I", true)
  | 15 => ("MarkerTextModel", "nodes", "[I", true)
  | 16 => ("MarkerTextModel", "tops", "[I", true)
  | 17 => ("MarkerTextModel", "testNames", "[I", true)
  | 18 => ("MarkerTextModel", "operators", "[I", true)
  | 19 => ("MarkerTextModel", "firsts", "[I", true)
  | 20 => ("MarkerTextModel", "manies", "[I", true)
  | 21 => ("MarkerTextModel", "tests", "[I", true)
  | 22 => ("MarkerTextModel", "keys", "[J", true)
  | 23 => ("MarkerTextModel", "written", "[I", true)
  | 24 => ("MarkerTextModel", "writtenSizes", "[I", true)
  | 25 => ("MarkerTextModel", "places", "[I", true)
  | 26 => ("MarkerTextModel", "values", "[I", true)
  | 27 => ("MarkerTextModel", "at", "I", false)
  | 28 => ("MarkerTextModel", "slot", "I", false)
  | 29 => ("MarkerTextModel", "wrong", "I", false)
  | 30 => ("MarkerTextModel", "place", "I", false)
  | 31 => ("MarkerTextModel", "piles", "[I", true)
  | 32 => ("MarkerTextModel", "pile", "I", false)
  | 33 => ("MarkerTextModel", "opens", "I", false)
  | 34 => ("MarkerTextModel", "ready", "[I", true)
  | 35 => ("MarkerTextModel", "readyMany", "I", false)
  | 36 => ("MarkerTextModel", "key", "J", false)
  | 37 => ("MarkerTextModel", "sorted", "[J", true)
  | 38 => ("MarkerTextModel", "many", "[I", true)
  | 39 => ("MarkerTextModel", "asked", "[Z", true)
  | 40 => ("MarkerTextModel", "choice", "[I", true)
  | 41 => ("MarkerTextModel", "truths", "[Z", true)
  | 42 => ("MarkerTextModel", "classes", "I", false)
  | 43 => ("MarkerTextModel", "classSet", "I", false)
  | 44 => ("MarkerTextModel", "classNames", "I", false)
  | 45 => ("MarkerTextModel", "classBits", "[I", true)
  | 46 => ("MarkerTextModel", "classMany", "[I", true)
  | 47 => ("MarkerTextModel", "classSamples", "[I", true)
  | 48 => ("MarkerTextModel", "print", "[I", true)
  | 49 => ("MarkerTextModel", "printed", "I", false)
  | 50 => ("MarkerTextModel", "todo", "[I", true)
  | _ => ("MarkerTextModel", "todoMany", "I", false)
abbrev k_MarkerTextModel : Nat := 15
abbrev k_abyte : Nat := 16
abbrev k_aint : Nat := 17
abbrev k_along : Nat := 18
abbrev k_aboolean : Nat := 19
abbrev k_aName : Nat := 20
abbrev k_aCondition : Nat := 21
abbrev k_aObject : Nat := 22
abbrev k_asbyte : Nat := 23
abbrev k_aenv : Nat := 24
abbrev k_aknown : Nat := 25
abbrev k_avals : Nat := 26
abbrev k_achv : Nat := 27
abbrev k_achl : Nat := 28
abbrev k_astarts : Nat := 29
abbrev k_asamples : Nat := 30
abbrev k_apicks : Nat := 31
abbrev k_aptr : Nat := 32
abbrev k_apsz : Nat := 33
abbrev k_apfi : Nat := 34
abbrev k_apcl : Nat := 35
abbrev k_apsa : Nat := 36
def xk : List (vw_C ⊕ FieldType) := [.inl (R_MarkerText, T_MarkerText, 9), .inl (R_StringBuilder, T_StringBuilder, 4), .inl (R_Choices, T_Choices, 7), .inl (R_Parting, T_Parting, 6), .inl (R_String, T_String, 4), .inl (R_IllegalArgumentException, T_IllegalArgumentException, 6), .inl (R_IllegalStateException, T_IllegalStateException, 6), .inl (R_Name, T_Name, 4), .inl (R_Reader, T_Reader, 7), .inl (R_ArrayList, T_ArrayList, 3), .inl (R_Negation, T_Negation, 2), .inl (R_Constant, T_Constant, 2), .inl (R_Test, T_Test, 5), .inl (R_Join, T_Join, 3), .inl (R_Condition, T_Condition, 3), .inl (R_MarkerTextModel, T_MarkerTextModel, 52), .inr (.byte), .inr (.int), .inr (.long), .inr (.boolean), .inr (.object "MarkerText$Name"), .inr (.object "MarkerText$Condition"), .inr (.object "java/lang/Object"), .inr (.byte), .inr (.long), .inr (.long), .inr (.long), .inr (.long), .inr (.long), .inr (.int), .inr (.int), .inr (.int), .inr (.int), .inr (.int), .inr (.int), .inr (.int), .inr (.int)]
def xkP : vw_C ⊕ FieldType → Prop
  | .inl q => (∀ w ∈ u_ws q.1 q.2.1 q.2.2, w ∈ xT) ∧ (∀ j, j < q.2.2 → (parseFieldDescriptor (q.2.1 j).2.2.1).isSome = true) ∧ (∀ a, a < q.2.2 → ∀ b, b < q.2.2 → a ≠ b → (q.2.1 a).2.1 ≠ (q.2.1 b).2.1)
  | .inr _ => True
theorem xkp_MarkerText : xkP (.inl (R_MarkerText, T_MarkerText, 9)) := ⟨xT_many [149, 151, 153, 155, 157, 159, 161, 163, 165] _ (by decide +kernel) (by decide +kernel), by decide +kernel, by decide +kernel⟩
theorem xkp_StringBuilder : xkP (.inl (R_StringBuilder, T_StringBuilder, 4)) := ⟨xT_many [65, 67, 69, 71] _ (by decide +kernel) (by decide +kernel), by decide +kernel, by decide +kernel⟩
theorem xkp_Choices : xkP (.inl (R_Choices, T_Choices, 7)) := ⟨xT_many [95, 97, 99, 101, 103, 105, 107] _ (by decide +kernel) (by decide +kernel), by decide +kernel, by decide +kernel⟩
theorem xkp_Parting : xkP (.inl (R_Parting, T_Parting, 6)) := ⟨xT_many [127, 129, 131, 133, 135, 137] _ (by decide +kernel) (by decide +kernel), by decide +kernel, by decide +kernel⟩
theorem xkp_String : xkP (.inl (R_String, T_String, 4)) := ⟨xT_many [635, 637, 639, 641] _ (by decide +kernel) (by decide +kernel), by decide +kernel, by decide +kernel⟩
theorem xkp_IllegalArgumentException : xkP (.inl (R_IllegalArgumentException, T_IllegalArgumentException, 6)) := ⟨xT_many [501, 503, 505, 507, 509, 619] _ (by decide +kernel) (by decide +kernel), by decide +kernel, by decide +kernel⟩
theorem xkp_IllegalStateException : xkP (.inl (R_IllegalStateException, T_IllegalStateException, 6)) := ⟨xT_many [702, 703, 704, 705, 706, 712] _ (by decide +kernel) (by decide +kernel), by decide +kernel, by decide +kernel⟩
theorem xkp_Name : xkP (.inl (R_Name, T_Name, 4)) := ⟨xT_many [728, 730, 732, 734] _ (by decide +kernel) (by decide +kernel), by decide +kernel, by decide +kernel⟩
theorem xkp_Reader : xkP (.inl (R_Reader, T_Reader, 7)) := ⟨xT_many [865, 867, 869, 871, 873, 875, 877] _ (by decide +kernel) (by decide +kernel), by decide +kernel, by decide +kernel⟩
theorem xkp_ArrayList : xkP (.inl (R_ArrayList, T_ArrayList, 3)) := ⟨xT_many [848, 850, 852] _ (by decide +kernel) (by decide +kernel), by decide +kernel, by decide +kernel⟩
theorem xkp_Negation : xkP (.inl (R_Negation, T_Negation, 2)) := ⟨xT_many [951, 953] _ (by decide +kernel) (by decide +kernel), by decide +kernel, by decide +kernel⟩
theorem xkp_Constant : xkP (.inl (R_Constant, T_Constant, 2)) := ⟨xT_many [970, 972] _ (by decide +kernel) (by decide +kernel), by decide +kernel, by decide +kernel⟩
theorem xkp_Test : xkP (.inl (R_Test, T_Test, 5)) := ⟨xT_many [1025, 1027, 1029, 1031, 1033] _ (by decide +kernel) (by decide +kernel), by decide +kernel, by decide +kernel⟩
theorem xkp_Join : xkP (.inl (R_Join, T_Join, 3)) := ⟨xT_many [1093, 1095, 1097] _ (by decide +kernel) (by decide +kernel), by decide +kernel, by decide +kernel⟩
theorem xkp_Condition : xkP (.inl (R_Condition, T_Condition, 3)) := ⟨xT_many [1147, 1149, 1151] _ (by decide +kernel) (by decide +kernel), by decide +kernel, by decide +kernel⟩
theorem xkp_MarkerTextModel : xkP (.inl (R_MarkerTextModel, T_MarkerTextModel, 52)) := ⟨xT_many [1222, 1224, 1226, 1228, 1230, 1232, 1234, 1236, 1238, 1240, 1242, 1244, 1246, 1248, 1250, 1252, 1254, 1256, 1258, 1260, 1262, 1264, 1266, 1268, 1270, 1272, 1274, 1276, 1278, 1280, 1282, 1284, 1286, 1288, 1290, 1292, 1294, 1296, 1298, 1300, 1302, 1304, 1306, 1308, 1310, 1312, 1314, 1316, 1318, 1320, 1322, 1324] _ (by decide +kernel) (by decide +kernel), by decide +kernel, by decide +kernel⟩
theorem xk_all : ∀ e ∈ xk, xkP e := List.forall_mem_cons.mpr ⟨xkp_MarkerText, List.forall_mem_cons.mpr ⟨xkp_StringBuilder, List.forall_mem_cons.mpr ⟨xkp_Choices, List.forall_mem_cons.mpr ⟨xkp_Parting, List.forall_mem_cons.mpr ⟨xkp_String, List.forall_mem_cons.mpr ⟨xkp_IllegalArgumentException, List.forall_mem_cons.mpr ⟨xkp_IllegalStateException, List.forall_mem_cons.mpr ⟨xkp_Name, List.forall_mem_cons.mpr ⟨xkp_Reader, List.forall_mem_cons.mpr ⟨xkp_ArrayList, List.forall_mem_cons.mpr ⟨xkp_Negation, List.forall_mem_cons.mpr ⟨xkp_Constant, List.forall_mem_cons.mpr ⟨xkp_Test, List.forall_mem_cons.mpr ⟨xkp_Join, List.forall_mem_cons.mpr ⟨xkp_Condition, List.forall_mem_cons.mpr ⟨xkp_MarkerTextModel, List.forall_mem_cons.mpr ⟨trivial, List.forall_mem_cons.mpr ⟨trivial, List.forall_mem_cons.mpr ⟨trivial, List.forall_mem_cons.mpr ⟨trivial, List.forall_mem_cons.mpr ⟨trivial, List.forall_mem_cons.mpr ⟨trivial, List.forall_mem_cons.mpr ⟨trivial, List.forall_mem_cons.mpr ⟨trivial, List.forall_mem_cons.mpr ⟨trivial, List.forall_mem_cons.mpr ⟨trivial, List.forall_mem_cons.mpr ⟨trivial, List.forall_mem_cons.mpr ⟨trivial, List.forall_mem_cons.mpr ⟨trivial, List.forall_mem_cons.mpr ⟨trivial, List.forall_mem_cons.mpr ⟨trivial, List.forall_mem_cons.mpr ⟨trivial, List.forall_mem_cons.mpr ⟨trivial, List.forall_mem_cons.mpr ⟨trivial, List.forall_mem_cons.mpr ⟨trivial, List.forall_mem_cons.mpr ⟨trivial, List.forall_mem_cons.mpr ⟨trivial, fun _ h => absurd h List.not_mem_nil⟩⟩⟩⟩⟩⟩⟩⟩⟩⟩⟩⟩⟩⟩⟩⟩⟩⟩⟩⟩⟩⟩⟩⟩⟩⟩⟩⟩⟩⟩⟩⟩⟩⟩⟩⟩⟩
theorem xk_lay {k : Nat} {C : String} {T : u_T} {N : Nat} (h : xk[k]? = some (.inl (C, T, N))) : ∀ w ∈ u_ws C T N, w ∈ xT := (xk_all _ (List.mem_of_getElem? h)).1
theorem xk_ty {k : Nat} {C : String} {T : u_T} {N : Nat} (h : xk[k]? = some (.inl (C, T, N))) : ∀ j, j < N → ∃ ty, parseFieldDescriptor (T j).2.2.1 = some ty := fun j hj => Option.isSome_iff_exists.mp ((xk_all _ (List.mem_of_getElem? h)).2.1 j hj)
theorem xk_nm {k : Nat} {C : String} {T : u_T} {N : Nat} (h : xk[k]? = some (.inl (C, T, N))) : ∀ a, a < N → ∀ b, b < N → a ≠ b → (T a).2.1 ≠ (T b).2.1 := (xk_all _ (List.mem_of_getElem? h)).2.2
/-- the String constants: whose pool, which entry, the text, our number for it -/
def xStr : List (String × Nat × String × Nat) := [("java/util/Arrays", 337, " > ", 0), ("java/util/Arrays", 48, "fromIndex(", 1), ("java/util/Arrays", 57, ") > toIndex(", 2), ("java/util/Arrays", 59, ")", 3), ("MarkerText", 216, "or", 4), ("MarkerText", 222, "and", 5), ("MarkerText", 224, "not", 6), ("MarkerText", 226, "in", 7), ("MarkerText", 228, "true", 8), ("MarkerText", 230, "false", 9), ("MarkerText", 78, "no new name", 10), ("MarkerText", 83, "no such kind", 11), ("MarkerText", 87, "too many names", 12), ("MarkerText", 97, "no such name", 13), ("MarkerText$Name", 33, ".0123456789abcdefghijklmnopqrstuvwxyz", 14), ("MarkerText", 110, "no new value of the name's kind", 15), ("MarkerText", 115, "too many known values", 16), ("java/lang/StringLatin1", 151, "", 17), ("java/lang/StringUTF16", 295, "", 18), ("MarkerText$Reader", 95, "not", 19), ("MarkerText$Reader", 109, "true", 20), ("MarkerText$Reader", 111, "false", 21), ("MarkerText$Reader", 146, "in", 22), ("MarkerText$Reader", 176, ", ", 23), ("MarkerText$Reader", 79, "or", 24), ("MarkerText$Reader", 81, "and", 25), ("MarkerText$Constant", 13, "true", 26), ("MarkerText$Constant", 15, "false", 27), ("MarkerText$Negation", 17, "not ", 28), ("MarkerText$Join", 29, " or ", 29), ("MarkerText$Join", 31, " and ", 30), ("MarkerText", 133, "the text is ill", 31), ("MarkerText", 135, "too many conditions", 32), ("MarkerText", 141, "no value of the name's kind", 33)]
/-- the texts of the String constants, by their numbers -/
def xtx : Nat → List Nat
  | 0 => [32, 62, 32]
  | 1 => [102, 114, 111, 109, 73, 110, 100, 101, 120, 40]
  | 2 => [41, 32, 62, 32, 116, 111, 73, 110, 100, 101, 120, 40]
  | 3 => [41]
  | 4 => [111, 114]
  | 5 => [97, 110, 100]
  | 6 => [110, 111, 116]
  | 7 => [105, 110]
  | 8 => [116, 114, 117, 101]
  | 9 => [102, 97, 108, 115, 101]
  | 10 => [110, 111, 32, 110, 101, 119, 32, 110, 97, 109, 101]
  | 11 => [110, 111, 32, 115, 117, 99, 104, 32, 107, 105, 110, 100]
  | 12 => [116, 111, 111, 32, 109, 97, 110, 121, 32, 110, 97, 109, 101, 115]
  | 13 => [110, 111, 32, 115, 117, 99, 104, 32, 110, 97, 109, 101]
  | 14 => [46, 48, 49, 50, 51, 52, 53, 54, 55, 56, 57, 97, 98, 99, 100, 101, 102, 103, 104, 105, 106, 107, 108, 109, 110, 111, 112, 113, 114, 115, 116, 117, 118, 119, 120, 121, 122]
  | 15 => [110, 111, 32, 110, 101, 119, 32, 118, 97, 108, 117, 101, 32, 111, 102, 32, 116, 104, 101, 32, 110, 97, 109, 101, 39, 115, 32, 107, 105, 110, 100]
  | 16 => [116, 111, 111, 32, 109, 97, 110, 121, 32, 107, 110, 111, 119, 110, 32, 118, 97, 108, 117, 101, 115]
  | 17 => []
  | 18 => []
  | 19 => [110, 111, 116]
  | 20 => [116, 114, 117, 101]
  | 21 => [102, 97, 108, 115, 101]
  | 22 => [105, 110]
  | 23 => [44, 32]
  | 24 => [111, 114]
  | 25 => [97, 110, 100]
  | 26 => [116, 114, 117, 101]
  | 27 => [102, 97, 108, 115, 101]
  | 28 => [110, 111, 116, 32]
  | 29 => [32, 111, 114, 32]
  | 30 => [32, 97, 110, 100, 32]
  | 31 => [116, 104, 101, 32, 116, 101, 120, 116, 32, 105, 115, 32, 105, 108, 108]
  | 32 => [116, 111, 111, 32, 109, 97, 110, 121, 32, 99, 111, 110, 100, 105, 116, 105, 111, 110, 115]
  | 33 => [110, 111, 32, 118, 97, 108, 117, 101, 32, 111, 102, 32, 116, 104, 101, 32, 110, 97, 109, 101, 39, 115, 32, 107, 105, 110, 100]
  | _ => []
abbrev xnstr : Nat := 34
abbrev xCB : Nat := 601024
abbrev xSB : Nat := 7293034
end XK
end
section
/-! A SMALL MACHINE OVER THE KIT'S: cells as lists of values, a heap as a function, budgets as two numbers. XW: from this frame the method comes to its end with P. XM: a method's contract at one start. -/
section XC
/-- our cells: address to kind and contents -/
abbrev XH : Type := Nat → Option (Nat × List Value)
/-- class numbers and slots; where our cells begin; the cells that stay as they are; the places of strings and statics -/
abbrev XG : Type := va_G × Nat × XH × (Nat → Nat) × (Nat → Value)
/-- a method: its name, its code, how many locals, what it returns -/
abbrev XMt : Type := MethodName × ByteArray × Nat × Option FieldType
/-- the statics that are read: class, name, descriptor, value -/
def xSta (G : XG) : List (String × String × String × Value) := [("java/lang/String", "COMPACT_STRINGS", "Z", .int 1), ("java/lang/StringUTF16", "$assertionsDisabled", "Z", .int 1), ("java/lang/StringUTF16", "HI_BYTE_SHIFT", "I", .int 0), ("java/lang/StringUTF16", "LO_BYTE_SHIFT", "I", .int 8), ("java/util/ArrayList", "DEFAULTCAPACITY_EMPTY_ELEMENTDATA", "[Ljava/lang/Object;", .ref (G.2.2.2.1 100)), ("jdk/internal/util/Preconditions", "SIOOBE_FORMATTER", "Ljava/util/function/BiFunction;", G.2.2.2.2 0), ("java/lang/Throwable", "UNASSIGNED_STACK", "[Ljava/lang/StackTraceElement;", G.2.2.2.2 1), ("java/lang/Throwable", "SUPPRESSED_SENTINEL", "Ljava/util/List;", G.2.2.2.2 2)]
abbrev xA (G : XG) : Nat → Prop := fun q => G.2.1 ≤ q
def xarr (k : Nat) : Bool := match xk[k]? with
  | some (.inr _) => true
  | _ => false
def xN (k : Nat) : Nat := match xk[k]? with
  | some (.inl q) => q.2.2
  | _ => 0
def xcell (D : va_G) (k : Nat) (vs : List Value) (cell : Cell) : Prop := cell.cls = D.1 k ∧ (∀ (j : Nat) (v : Value), vs[j]? = some v → (xarr k = true ∨ j < xN k) ∧ cell.slots[D.2 k j]? = some v) ∧ (xarr k = true → cell.slots.size = vs.length)
def xhp (G : XG) (h : XH) (H : Heap) : Prop := ∀ (a k : Nat) (vs : List Value), h a = some (k, vs) → G.2.1 ≤ a ∧ ∃ cell : Cell, H[a]? = some cell ∧ cell.vm = .none ∧ xcell G.1 k vs cell
def xkh (G : XG) (H : Heap) : Prop := ∀ (a k : Nat) (vs : List Value), G.2.2.1 a = some (k, vs) → a < G.2.1 ∧ ∃ cell : Cell, H[a]? = some cell ∧ cell.vm ≠ .unknown ∧ cell.vm.isStatics = false ∧ xcell G.1 k vs cell
/-- the kinds: what the tables say of each -/
def xK (D : va_G) (U : State) : Prop := ∀ (k : Nat) (r : vw_C ⊕ FieldType), xk[k]? = some r → match r with
  | .inl q => u_Kn U q.1 q.2.1 q.2.2 (D.1 k) (D.2 k)
  | .inr ty => ArrOfT U (D.1 k) ty ∧ va_RA U (D.1 k) ty ∧ ∀ j : Nat, D.2 k j = j
/-- what the tables say, at any state of the run -/
def xV (G : XG) (U : State) (H : Heap) : Prop := xK G.1 U ∧ (∀ w ∈ xT, va_Nw w U) ∧ ((∀ q ∈ xStr, vk_R q.1 q.2.1 q.2.2.1 (G.2.2.2.1 q.2.2.2) U) ∧ va_Mi "[Ljava/lang/Object;" (G.2.2.2.1 101) U) ∧ (∀ q ∈ xSta G, va_Z q.1 q.2.1 q.2.2.1 q.2.2.2 (xA G) U H) ∧ xkh G H
def xU (z : Nat) (H : Heap) : Nat := ((H.toList.drop z).map (fun q : Cell => q.slots.size)).sum
/-- what the heap holds -/
def xS (G : XG) (h : XH) (c n : Nat) (H : Heap) : Prop := xhp G h H ∧ G.2.1 ≤ H.size ∧ H.size ≤ G.2.1 + c ∧ xU G.2.1 H ≤ n ∧ c ≤ xCB ∧ n ≤ xSB
def xQ (G : XG) (P : Option Value → XH → Nat → Nat → Prop) : Array Value → State → Outcome → State → Prop := fun _ st o t => (∃ (v : Option Value) (h : XH) (c n : Nat), o = .returned v ∧ P v h c n ∧ xS G h c n t.heap) ∧ va_F (xA G) st t
def xRm (d c0 n0 : Nat) : Room := { frames := d, cells := xCB - c0, slots := xSB - n0, locals := d * 60 + 11000 }
def xPre (G : XG) (h : XH) (c n c0 n0 : Nat) (U : State) : Prop := U.heap.size = G.2.1 + c0 ∧ xU G.2.1 U.heap = n0 ∧ xV G U U.heap ∧ xS G h c n U.heap
/-- A CONTRACT AT ONE START: from the arguments, the heap h and the budgets used, with d frames of room, the method returns with P -/
def XM (l : Launch) (G : XG) (d : Nat) (M : XMt) (args : List Value) (h : XH) (c n : Nat) (P : Option Value → XH → Nat → Nat → Prop) : Prop :=
  ∀ c0 n0 : Nat, Met l M.1 [Cond.code M.1 M.2.1 M.2.2.1 M.2.2.2] (xRm d c0 n0) (va_Pc args (xPre G h c n c0 n0)) (xQ G P) (xCB - c0) (xSB - n0) (xA G)
/-! locals -/
def xpr (L : List (Option Value)) : List (Nat × Value) := (List.range L.length).filterMap fun i => match L[i]? with
  | some (some v) => some (i, v)
  | _ => none
theorem xpr_mem {L : List (Option Value)} {i : Nat} {v : Value} : (i, v) ∈ xpr L ↔ L[i]? = some (some v) := by
  unfold xpr
  rw [List.mem_filterMap]
  constructor
  · rintro ⟨j, -, hj⟩
    split at hj
    · rename_i w hw
      cases hj
      exact hw
    · cases hj
  · intro h
    refine ⟨i, List.mem_range.mpr (List.getElem?_eq_some_iff.mp h).1, ?_⟩
    simp [h]
def xlr (ls : Array Slot) (L : List (Option Value)) : Prop := lv_has ls L.length (xpr L)
theorem xlr.at {ls : Array Slot} {L : List (Option Value)} (h : xlr ls L) {i : Nat} {v : Value} (hi : L[i]? = some (some v)) : ls[i]? = some (.val v) := h.2.2 (i, v) (xpr_mem.mpr hi)
def xc2 : Option (Option Value) → Bool
  | some (some (.long _)) => true
  | some (some (.double _)) => true
  | _ => false
theorem xc2_of {L : List (Option Value)} {j : Nat} {v : Value} (h : L[j]? = some (some v)) (hc : v.category = 2) : xc2 L[j]? = true := by
  rw [h]
  cases v <;> first | rfl | (simp [Value.category] at hc)
/-- a store of one slot -/
def xset1 (L : List (Option Value)) (i : Nat) (v : Value) : List (Option Value) := match i with
  | 0 => L.set 0 (some v)
  | j + 1 => bif xc2 L[j]? then (L.set j none).set (j + 1) (some v) else L.set (j + 1) (some v)
def xset2 (L : List (Option Value)) (i : Nat) (v : Value) : List (Option Value) := (xset1 L i v).set (i + 1) none
theorem xset1_len (L : List (Option Value)) (i : Nat) (v : Value) : (xset1 L i v).length = L.length := by
  unfold xset1
  split
  · simp
  · cases xc2 _ <;> simp
theorem xset1_at {L : List (Option Value)} {i k : Nat} {v w : Value} (h : (xset1 L i v)[k]? = some (some w)) : (k = i ∧ w = v) ∨ (k ≠ i ∧ L[k]? = some (some w) ∧ ¬ (k + 1 = i ∧ w.category = 2)) := by
  unfold xset1 at h
  split at h
  · by_cases hk : k = 0
    · subst hk
      rw [List.getElem?_set] at h
      simp at h
      exact Or.inl ⟨rfl, h.2.symm⟩
    · rw [List.getElem?_set_ne (Ne.symm hk)] at h
      exact Or.inr ⟨hk, h, fun q => by omega⟩
  · rename_i j
    by_cases hk : k = j + 1
    · subst hk
      left
      refine ⟨rfl, ?_⟩
      cases hc : xc2 L[j]? <;> simp only [hc, cond_true, cond_false] at h <;> rw [List.getElem?_set] at h <;> simp at h <;> exact h.2.symm
    · right
      refine ⟨hk, ?_⟩
      cases hc : xc2 L[j]? with
      | true =>
        simp only [hc, cond_true] at h
        rw [List.getElem?_set_ne (Ne.symm hk)] at h
        by_cases hj : k = j
        · subst hj
          rw [List.getElem?_set] at h
          simp at h
        · rw [List.getElem?_set_ne (Ne.symm hj)] at h
          exact ⟨h, fun q => hj (by omega)⟩
      | false =>
        simp only [hc, cond_false] at h
        rw [List.getElem?_set_ne (Ne.symm hk)] at h
        refine ⟨h, fun q => ?_⟩
        have e : k = j := by omega
        subst e
        rw [xc2_of h q.2] at hc
        cases hc
theorem xlr.st1 {ls : Array Slot} {L : List (Option Value)} {i : Nat} {v : Value} (h : lv_has ls L.length ((i, v) :: (xpr L).filter (fun q => !(q.1 == i) && !(q.1 + 1 == i && q.2.category == 2)))) : xlr ls (xset1 L i v) := by
  refine ⟨by rw [xset1_len]; exact h.1, h.2.1, fun q hq => ?_⟩
  obtain ⟨k, w⟩ := q
  rcases xset1_at (xpr_mem.mp hq) with ⟨rfl, rfl⟩ | ⟨h1, h2, h3⟩
  · exact h.2.2 _ List.mem_cons_self
  · refine h.2.2 (k, w) (List.mem_cons_of_mem _ (List.mem_filter.mpr ⟨xpr_mem.mpr h2, ?_⟩))
    simp only [Bool.and_eq_true, Bool.not_eq_true', beq_eq_false_iff_ne, ne_eq, Bool.and_eq_false_iff]
    refine ⟨h1, ?_⟩
    by_cases hk : k + 1 = i
    · exact Or.inr (fun q => h3 ⟨hk, q⟩)
    · exact Or.inl hk
theorem xlr.st2 {ls : Array Slot} {L : List (Option Value)} {i : Nat} {v : Value} (h : lv_has ls L.length ((i, v) :: (xpr L).filter (fun q => !(q.1 == i) && (!(q.1 == i + 1) && !(q.1 + 1 == i && q.2.category == 2))))) : xlr ls (xset2 L i v) := by
  unfold xset2
  refine ⟨by rw [List.length_set, xset1_len]; exact h.1, h.2.1, fun q hq => ?_⟩
  obtain ⟨k, w⟩ := q
  have hk := xpr_mem.mp hq
  by_cases hki : k = i + 1
  · subst hki
    rw [List.getElem?_set] at hk
    simp at hk
  · rw [List.getElem?_set_ne (Ne.symm hki)] at hk
    rcases xset1_at hk with ⟨rfl, rfl⟩ | ⟨h1, h2, h3⟩
    · exact h.2.2 _ List.mem_cons_self
    · refine h.2.2 (k, w) (List.mem_cons_of_mem _ (List.mem_filter.mpr ⟨xpr_mem.mpr h2, ?_⟩))
      simp only [Bool.and_eq_true, Bool.not_eq_true', beq_eq_false_iff_ne, ne_eq, Bool.and_eq_false_iff]
      refine ⟨h1, hki, ?_⟩
      by_cases hk : k + 1 = i
      · exact Or.inr (fun q => h3 ⟨hk, q⟩)
      · exact Or.inl hk
/-- the locals with which a method begins -/
def xin : List Value → List (Option Value)
  | [] => []
  | .long x :: vs => some (.long x) :: none :: xin vs
  | .double x :: vs => some (.double x) :: none :: xin vs
  | v :: vs => some v :: xin vs
theorem xin_at (vs : List Value) : ∀ (i k : Nat) (w : Value), (xin vs)[k]? = some (some w) → (i + k, w) ∈ lv_args i vs := by
  induction vs with
  | nil => intro i k w h; simp [xin] at h
  | cons v vs ih =>
    intro i k w h
    have two : ∀ (z : Value), z.category = 2 → (some z :: none :: xin vs)[k]? = some (some w) → (i + k, w) ∈ lv_args i (z :: vs) := by
      intro z hz h
      simp only [lv_args, hz, if_true]
      match k, h with
      | 0, h => simp at h; subst h; simp
      | 1, h => simp at h
      | k + 2, h =>
        simp at h
        have := ih (i + 2) k w h
        exact List.mem_cons_of_mem _ (by rw [show i + (k + 2) = i + 2 + k by omega]; exact this)
    have one : ∀ (z : Value), z.category = 1 → (some z :: xin vs)[k]? = some (some w) → (i + k, w) ∈ lv_args i (z :: vs) := by
      intro z hz h
      simp only [lv_args, hz]
      match k, h with
      | 0, h => simp at h; subst h; simp
      | k + 1, h =>
        simp at h
        have := ih (i + 1) k w h
        exact List.mem_cons_of_mem _ (by rw [show i + (k + 1) = i + 1 + k by omega]; exact this)
    cases v with
    | long x => exact two _ rfl h
    | double x => exact two _ rfl h
    | int x => exact one _ rfl h
    | float x => exact one _ rfl h
    | null => exact one _ rfl h
    | ref x => exact one _ rfl h
    | retAddr x => exact one _ rfl h
theorem xin_len (vs : List Value) : (xin vs).length = (lg_sl vs).length := by
  induction vs with
  | nil => rfl
  | cons v vs ih => cases v <;> simp [xin, lg_sl, Value.category] at ih ⊢ <;> omega
theorem xlr.entry (vs : List Value) {n : Nat} (hn : (xin vs).length ≤ n) : xlr ((lg_sl vs ++ List.replicate (n - (lg_sl vs).length) Slot.unset).toArray) (xin vs ++ List.replicate (n - (xin vs).length) none) := by
  have h := lv_entry vs (n := n) (by rw [← xin_len]; exact hn)
  refine ⟨by rw [h.1]; simp; omega, h.2.1, fun q hq => ?_⟩
  obtain ⟨k, w⟩ := q
  have hk := xpr_mem.mp hq
  refine h.2.2 (k, w) ?_
  rw [List.getElem?_append] at hk
  split at hk
  · have := xin_at vs 0 k w hk
    rwa [Nat.zero_add] at this
  · rw [List.getElem?_replicate] at hk
    split at hk <;> cases hk
/-! the heap's size -/
theorem xU_eq {z : Nat} {H H' : Heap} (h : H'.toList.map (fun q : Cell => q.slots.size) = H.toList.map (fun q : Cell => q.slots.size)) : xU z H' = xU z H := by
  unfold xU
  rw [List.map_drop, List.map_drop, h]
theorem xU_put {z a : Nat} {H H' : Heap} {cell cell' : Cell} (hz : H'.size = H.size) (ha : H[a]? = some cell) (ha' : H'[a]? = some cell') (hs : cell'.slots.size = cell.slots.size) (ho : ∀ q : Nat, q ≠ a → H'[q]? = H[q]?) : xU z H' = xU z H := by
  refine xU_eq (List.ext_getElem? fun i => ?_)
  rw [List.getElem?_map, List.getElem?_map, Array.getElem?_toList, Array.getElem?_toList]
  by_cases hi : i = a
  · subst hi
    rw [ha, ha']
    simp [hs]
  · rw [ho i hi]
theorem xU_push {z : Nat} {H : Heap} {cell : Cell} (hz : z ≤ H.size) : xU z (H.push cell) = xU z H + cell.slots.size := by
  unfold xU
  rw [Array.toList_push, List.drop_append_of_le_length (by simpa using hz)]
  simp
theorem xU_grow {z : Nat} {s T : State} {locs : List Loc} {cells slots : Nat} (hz : z ≤ s.heap.size) (h : s.sameButNew T locs cells slots) : xU z T.heap = xU z s.heap + ((T.heap.toList.drop s.heap.size).map (fun q : Cell => q.slots.size)).sum := by
  obtain ⟨-, h2, -, -, -, h6⟩ := h
  have e : (T.heap.toList.map (fun q : Cell => q.slots.size)).take s.heap.size = s.heap.toList.map (fun q : Cell => q.slots.size) := by
    refine List.ext_getElem? fun i => ?_
    rw [List.getElem?_take]
    by_cases hi : i < s.heap.size
    · rw [if_pos hi, List.getElem?_map, List.getElem?_map, Array.getElem?_toList, Array.getElem?_toList]
      obtain ⟨c', g1, -, g3, -⟩ := h6 i s.heap[i] (Array.getElem?_eq_getElem hi)
      rw [g1, Array.getElem?_eq_getElem hi]
      simp [g3]
    · rw [if_neg hi, List.getElem?_eq_none (by simp; omega)]
  unfold xU
  rw [List.map_drop, List.map_drop, List.map_drop, ← e]
  generalize T.heap.toList.map (fun q : Cell => q.slots.size) = f
  conv => lhs; rw [← List.take_append_drop s.heap.size f]
  by_cases hf : z ≤ (f.take s.heap.size).length
  · rw [List.drop_append_of_le_length hf, List.sum_append]
  · have hl : f.length ≤ z := by
      rw [List.length_take] at hf
      omega
    rw [List.drop_eq_nil_of_le (show (f.take s.heap.size ++ f.drop s.heap.size).length ≤ z by rw [List.take_append_drop]; exact hl), List.drop_eq_nil_of_le (show (f.take s.heap.size).length ≤ z by rw [List.length_take]; omega), List.drop_eq_nil_of_le (show f.length ≤ s.heap.size by omega)]
    rfl
end XC
end
section
section XW1
/-- what stays through a method's run -/
def xFix (p : Program) (s : State) (m : MethodId) (meth : Method) (cd : Code) (M : XMt) : Prop := p.tables.exec = Jvm.exec ∧ cd.code = M.2.1 ∧ cd.maxLocals = M.2.2.1 ∧ meth.sig.returnType = M.2.2.2 ∧ s.vm.findClass M.1.cls = some m.cls ∧ meth.locks = false ∧ meth.name = M.1.name
def xRo (G : XG) (R : Room) (d : Nat) (s : State) : Prop := R.frames = d ∧ R.locals = d * 60 + 11000 ∧ R.cells = xCB - (s.heap.size - G.2.1) ∧ R.slots = xSB - xU G.2.1 s.heap ∧ G.2.1 ≤ s.heap.size
/-- FROM THE FRAME AT pc WITH LOCALS L AND STACK st, over the heap h, THE METHOD M RETURNS WITH P -/
def XW (l : Launch) (G : XG) (M : XMt) (d pc : Nat) (L : List (Option Value)) (st : List Value) (h : XH) (c n : Nat) (P : Option Value → XH → Nat → Nat → Prop) : Prop :=
  ∀ (p : Program) (e : Env) (R : Room) (s : State) (m : MethodId) (args : Array Value) (below : List Frame) (meth : Method) (cd : Code) (H : Heap) (locs : List Loc) (cells slots : Nat) (ls : Array Slot),
    xFix p s m meth cd M → xRo G R d s → xlr ls L → L.length = M.2.2.1 → xV G s H → xS G h c n H → va_S (xA G) s.heap H locs →
    W p l e R s m args below meth cd H locs cells slots (MQ below (xQ G P) args s R.cells R.slots (xA G)) (F0 m pc ls st)
variable {l : Launch} {G : XG} {M : XMt} {d pc : Nat} {L : List (Option Value)} {rest : List Value} {h : XH} {c n : Nat} {P : Option Value → XH → Nat → Nat → Prop}
/-- the numbers of cells and slots follow from the heap -/
theorem x_tight {p : Program} {e : Env} {R : Room} {s : State} {m : MethodId} {args : Array Value} {below : List Frame} {meth : Method} {cd : Code} {H : Heap} {locs : List Loc} {cells slots : Nat} {Q : State → Prop} {g : JFrame} {z k j : Nat} (hz : z ≤ s.heap.size) (hk : H.size ≤ s.heap.size + k) (hj : xU z H ≤ xU z s.heap + j)
    (kk : W p l e R s m args below meth cd H locs k j Q g) : W p l e R s m args below meth cd H locs cells slots Q g := by
  intro T hT X
  refine kk T hT { X with same := ?_ }
  have hs := X.same
  have e := xU_grow hz hs
  obtain ⟨h1, h2, h3, h4, h5, h6⟩ := hs
  have hH : (T.setVm s.vm).heap = H := hT
  rw [hH] at e
  refine ⟨h1, h2, by rw [hH]; exact hk, h4, ?_, h6⟩
  rw [hH]
  show ((H.toList.drop s.heap.size).map (fun q : Cell => q.slots.size)).sum ≤ j
  omega
theorem x_mono {p : Program} {e : Env} {R : Room} {s : State} {m : MethodId} {args : Array Value} {below : List Frame} {meth : Method} {cd : Code} {H : Heap} {locs : List Loc} {cells slots : Nat} {Q : State → Prop} {g : JFrame} {z : Nat} (hz : z ≤ s.heap.size)
    (kk : xU z s.heap ≤ xU z H → s.heap.size ≤ H.size → W p l e R s m args below meth cd H locs cells slots Q g) : W p l e R s m args below meth cd H locs cells slots Q g := by
  intro T hT X
  have e := xU_grow hz X.same
  have hH : (T.setVm s.vm).heap = H := hT
  have h2 := X.same.2.1
  rw [hH] at e h2
  exact kk (by omega) h2 T hT X
/-- a method's end -/
theorem x_end {p : Program} {e : Env} {R : Room} {s : State} {m : MethodId} {args : Array Value} {below : List Frame} {meth : Method} {cd : Code} {H : Heap} {locs : List Loc} {cells slots : Nat} {Q : State → Prop} {g : JFrame} (hR : xRo G R d s) (hS : xS G h c n H)
    (kk : W p l e R s m args below meth cd H locs R.cells R.slots Q g) : W p l e R s m args below meth cd H locs cells slots Q g := by
  obtain ⟨-, -, h3, h4, h5⟩ := hR
  obtain ⟨-, -, g1, g2, g3, g4⟩ := hS
  exact x_tight h5 (by rw [h3]; omega) (by rw [h4]; omega) kk
theorem x_q {s t : State} {args : Array Value} {H : Heap} {locs : List Loc} {v : Option Value} (hP : P v h c n) (hS : xS G h c n H) (hF : va_S (xA G) s.heap H locs) (ht : t.heap = H) : xQ G P args s (.returned v) t := ⟨⟨v, h, c, n, rfl, hP, by rw [ht]; exact hS⟩, hF.F ht⟩
theorem x_iret {x : Int32} (hd : decode M.2.1 pc = .ok (.ireturn, 1)) (hr : M.2.2.2 = some .int) (hP : P (some (.int x)) h c n) : XW l G M d pc L [.int x] h c n P := by
  intro p e R s m args below meth cd H locs cells slots ls hF hR hl hL hV hS hN
  refine x_end hR hS ?_
  exact W.iret hF.1 hF.2.1 (hF.2.2.2.1.trans hr) (fun t ht hW => x_q hP hS hN ht) hN.2.2 hd hF.2.2.2.2.2.1
theorem x_zret {x : Int32} {ty : FieldType} (hd : decode M.2.1 pc = .ok (.ireturn, 1)) (hr : M.2.2.2 = some ty) (hn : narrow ty (.int x) = .int x) (hP : P (some (.int x)) h c n) : XW l G M d pc L [.int x] h c n P := by
  intro p e R s m args below meth cd H locs cells slots ls hF hR hl hL hV hS hN
  refine x_end hR hS ?_
  exact W.zret hF.1 hF.2.1 (hF.2.2.2.1.trans hr) hn (fun t ht hW => x_q hP hS hN ht) hN.2.2 hd hF.2.2.2.2.2.1
theorem x_lret {x : Int64} (hd : decode M.2.1 pc = .ok (.lreturn, 1)) (hr : M.2.2.2 = some .long) (hP : P (some (.long x)) h c n) : XW l G M d pc L [.long x] h c n P := by
  intro p e R s m args below meth cd H locs cells slots ls hF hR hl hL hV hS hN
  refine x_end hR hS ?_
  exact W.lret hF.1 hF.2.1 (hF.2.2.2.1.trans hr) (fun t ht hW => x_q hP hS hN ht) hN.2.2 hd hF.2.2.2.2.2.1
theorem x_vret (hd : decode M.2.1 pc = .ok (.return_, 1)) (hr : M.2.2.2 = none) (hP : P none h c n) : XW l G M d pc L [] h c n P := by
  intro p e R s m args below meth cd H locs cells slots ls hF hR hl hL hV hS hN
  refine x_end hR hS ?_
  exact W.vret hF.1 hF.2.1 (hF.2.2.2.1.trans hr) (fun t ht hW => x_q hP hS hN ht) hN.2.2 hd hF.2.2.2.2.2.1
def xisr : Value → Bool
  | .null => true
  | .ref _ => true
  | _ => false
theorem xisr_or {v : Value} (h : xisr v = true) : v = .null ∨ ∃ a, v = .ref a := by
  cases v <;> first | exact Or.inl rfl | exact Or.inr ⟨_, rfl⟩ | cases h
def xrty : Option FieldType → Bool
  | some (.object _) => true
  | some (.array _) => true
  | _ => false
theorem x_aret {v : Value} (hd : decode M.2.1 pc = .ok (.areturn, 1)) (hr : xrty M.2.2.2 = true) (hv : xisr v = true) (hP : P (some v) h c n) : XW l G M d pc L [v] h c n P := by
  intro p e R s m args below meth cd H locs cells slots ls hF hR hl hL hV hS hN
  refine x_end hR hS ?_
  obtain ⟨rt, hrt, hrs⟩ : ∃ rt, M.2.2.2 = some rt ∧ ((∃ n, rt = .object n) ∨ ∃ t, rt = .array t) := by
    cases hm : M.2.2.2 with
    | none => rw [hm] at hr; cases hr
    | some rt =>
      rw [hm] at hr
      refine ⟨rt, rfl, ?_⟩
      cases rt <;> first | exact Or.inl ⟨_, rfl⟩ | exact Or.inr ⟨_, rfl⟩ | cases hr
  exact W.aret hF.1 hF.2.1 (hF.2.2.2.1.trans hrt) hrs (xisr_or hv) (fun t ht hW => x_q hP hS hN ht) hN.2.2 hd hF.2.2.2.2.2.1
/-- a contract out of a walk -/
theorem XM.of {args : List Value} (hy : plainName M.1.cls = true) (hn : (xin args).length ≤ M.2.2.1) (hw : XW l G M d 0 (xin args ++ List.replicate (M.2.2.1 - (xin args).length) none) [] h c n P) : XM l G d M args h c n P := by
  intro c0 n0
  refine Met.ofW (cc := M.2.1) (maxL := M.2.2.1) (ret := M.2.2.2) (ws' := []) hy rfl ?_
  intro p e s m args' below meth cd s₁ B hml hv
  obtain ⟨rfl, hz, hu, hV, hS⟩ := hv
  rw [lg_entry_eq]
  have hR : xRo G (xRm d c0 n0) d s := ⟨rfl, rfl, by rw [hz, Nat.add_sub_cancel_left]; rfl, by rw [hu]; rfl, by rw [hz]; exact Nat.le_add_right _ _⟩
  exact hw p e (xRm d c0 n0) s m _ below meth cd s.heap [] 0 0 _ ⟨B.exec, B.bytes, hml, B.returns, findClass_of_methodNamed B.named, B.notSynchronized, (name_of_methodNamed B.named B.method).1⟩ hR (xlr.entry args hn) (by simp; omega) hV hS va_S.rf
/-- a weaker end -/
theorem XM.mono {args : List Value} {P' : Option Value → XH → Nat → Nat → Prop} (h0 : XM l G d M args h c n P) (hP : ∀ v h' c' n', P v h' c' n' → P' v h' c' n') : XM l G d M args h c n P' := by
  intro c0 n0 p e ha hc hk s m as below hf happ hPc hKc
  obtain ⟨k, o, h1, h2, h3, ⟨⟨⟨v, h', c', n', e1, e2, e3⟩, e4⟩, e5⟩⟩ := h0 c0 n0 p e ha hc hk s m as below hf happ hPc hKc
  exact ⟨k, o, h1, h2, h3, ⟨⟨v, h', c', n', e1, hP _ _ _ _ e2, e3⟩, e4⟩, e5⟩
end XW1
end
section
section XR
variable {l : Launch} {G : XG} {M : XMt} {d pc : Nat} {L : List (Option Value)} {rest : List Value} {h : XH} {c n : Nat} {P : Option Value → XH → Nat → Nat → Prop}
theorem x_iconst {i : Int} {v : Int32} (hd : decode M.2.1 pc = .ok (.iconst i, 1)) (hv : Int32.ofInt i = v) (k : XW l G M d (pc + 1) L (.int v :: rest) h c n P) : XW l G M d pc L (rest) h c n P := by
  intro p e R s m args below meth cd H locs cells slots ls hF hR hl hL hV hS hN
  exact lv_iconst hF.1 hF.2.1 hd hv (k p e R s m args below meth cd H locs cells slots ls hF hR hl hL hV hS hN)
theorem x_bipush {i : Int} {v : Int32} (hd : decode M.2.1 pc = .ok (.bipush i, 2)) (hv : (Int8.ofInt i).toInt32 = v) (k : XW l G M d (pc + 2) L (.int v :: rest) h c n P) : XW l G M d pc L (rest) h c n P := by
  intro p e R s m args below meth cd H locs cells slots ls hF hR hl hL hV hS hN
  exact lv_bipush hF.1 hF.2.1 hd hv (k p e R s m args below meth cd H locs cells slots ls hF hR hl hL hV hS hN)
theorem x_sipush {i : Int} {v : Int32} (hd : decode M.2.1 pc = .ok (.sipush i, 3)) (hv : (Int16.ofInt i).toInt32 = v) (k : XW l G M d (pc + 3) L (.int v :: rest) h c n P) : XW l G M d pc L (rest) h c n P := by
  intro p e R s m args below meth cd H locs cells slots ls hF hR hl hL hV hS hN
  exact lv_sipush hF.1 hF.2.1 hd hv (k p e R s m args below meth cd H locs cells slots ls hF hR hl hL hV hS hN)
theorem x_lconst {i : Fin 2} {v : Int64} (hd : decode M.2.1 pc = .ok (.lconst i, 1)) (hv : Int64.ofNat (i : Nat) = v) (k : XW l G M d (pc + 1) L (.long v :: rest) h c n P) : XW l G M d pc L (rest) h c n P := by
  intro p e R s m args below meth cd H locs cells slots ls hF hR hl hL hV hS hN
  exact lv_lconst hF.1 hF.2.1 hd hv (k p e R s m args below meth cd H locs cells slots ls hF hR hl hL hV hS hN)
theorem x_null  (hd : decode M.2.1 pc = .ok (.aconst_null, 1)) (k : XW l G M d (pc + 1) L (.null :: rest) h c n P) : XW l G M d pc L (rest) h c n P := by
  intro p e R s m args below meth cd H locs cells slots ls hF hR hl hL hV hS hN
  exact lv_null hF.1 hF.2.1 hd (k p e R s m args below meth cd H locs cells slots ls hF hR hl hL hV hS hN)
theorem x_iload_n {q : Fin 4} {x : Int32} (hd : decode M.2.1 pc = .ok (.iload_n q, 1)) (hx : L[(q : Nat)]? = some (some (.int x))) (k : XW l G M d (pc + 1) L (.int x :: rest) h c n P) : XW l G M d pc L (rest) h c n P := by
  intro p e R s m args below meth cd H locs cells slots ls hF hR hl hL hV hS hN
  exact lv_iload_n hF.1 hF.2.1 hd rfl (hl.at hx) (k p e R s m args below meth cd H locs cells slots ls hF hR hl hL hV hS hN)
theorem x_iload {q : Nat} {x : Int32} (hd : decode M.2.1 pc = .ok (.iload q, 2)) (hx : L[q]? = some (some (.int x))) (k : XW l G M d (pc + 2) L (.int x :: rest) h c n P) : XW l G M d pc L (rest) h c n P := by
  intro p e R s m args below meth cd H locs cells slots ls hF hR hl hL hV hS hN
  exact lv_iload hF.1 hF.2.1 hd (hl.at hx) (k p e R s m args below meth cd H locs cells slots ls hF hR hl hL hV hS hN)
theorem x_lload_n {q : Fin 4} {x : Int64} (hd : decode M.2.1 pc = .ok (.lload_n q, 1)) (hx : L[(q : Nat)]? = some (some (.long x))) (k : XW l G M d (pc + 1) L (.long x :: rest) h c n P) : XW l G M d pc L (rest) h c n P := by
  intro p e R s m args below meth cd H locs cells slots ls hF hR hl hL hV hS hN
  exact lv_lload_n hF.1 hF.2.1 hd rfl (hl.at hx) (k p e R s m args below meth cd H locs cells slots ls hF hR hl hL hV hS hN)
theorem x_lload {q : Nat} {x : Int64} (hd : decode M.2.1 pc = .ok (.lload q, 2)) (hx : L[q]? = some (some (.long x))) (k : XW l G M d (pc + 2) L (.long x :: rest) h c n P) : XW l G M d pc L (rest) h c n P := by
  intro p e R s m args below meth cd H locs cells slots ls hF hR hl hL hV hS hN
  exact lv_lload hF.1 hF.2.1 hd (hl.at hx) (k p e R s m args below meth cd H locs cells slots ls hF hR hl hL hV hS hN)
theorem x_aload_n {q : Fin 4} {v : Value} (hd : decode M.2.1 pc = .ok (.aload_n q, 1)) (hx : L[(q : Nat)]? = some (some v)) (hv : xisr v = true) (k : XW l G M d (pc + 1) L (v :: rest) h c n P) : XW l G M d pc L (rest) h c n P := by
  intro p e R s m args below meth cd H locs cells slots ls hF hR hl hL hV hS hN
  rcases xisr_or hv with rfl | ⟨a, rfl⟩
  · exact lv_aload_nN hF.1 hF.2.1 hd rfl (hl.at hx) (k p e R s m args below meth cd H locs cells slots ls hF hR hl hL hV hS hN)
  · exact lv_aload_n hF.1 hF.2.1 hd rfl (hl.at hx) (k p e R s m args below meth cd H locs cells slots ls hF hR hl hL hV hS hN)
theorem x_aload {q : Nat} {v : Value} (hd : decode M.2.1 pc = .ok (.aload q, 2)) (hx : L[q]? = some (some v)) (hv : xisr v = true) (k : XW l G M d (pc + 2) L (v :: rest) h c n P) : XW l G M d pc L (rest) h c n P := by
  intro p e R s m args below meth cd H locs cells slots ls hF hR hl hL hV hS hN
  rcases xisr_or hv with rfl | ⟨a, rfl⟩
  · exact lv_aloadN hF.1 hF.2.1 hd (hl.at hx) (k p e R s m args below meth cd H locs cells slots ls hF hR hl hL hV hS hN)
  · exact lv_aload hF.1 hF.2.1 hd (hl.at hx) (k p e R s m args below meth cd H locs cells slots ls hF hR hl hL hV hS hN)
theorem x_istore_n {q : Fin 4} {x : Int32} {L' : List (Option Value)} (hd : decode M.2.1 pc = .ok (.istore_n q, 1)) (hq : Nat.blt (q : Nat) L.length = true) (hL' : xset1 L (q : Nat) (.int x) = L') (k : XW l G M d (pc + 1) L' (rest) h c n P) : XW l G M d pc L (.int x :: rest) h c n P := by
  intro p e R s m args below meth cd H locs cells slots ls hF hR hl hL hV hS hN
  subst hL'
  refine lv_istore_n hF.1 hF.2.1 hd rfl hl (Nat.le_of_ble_eq_true hq) rfl (fun ls' hl' => ?_)
  exact k p e R s m args below meth cd H locs cells slots ls' hF hR (xlr.st1 hl') (by simp [xset2, xset1_len, hL]) hV hS hN
theorem x_istore {q : Nat} {x : Int32} {L' : List (Option Value)} (hd : decode M.2.1 pc = .ok (.istore q, 2)) (hq : Nat.blt (q : Nat) L.length = true) (hL' : xset1 L (q : Nat) (.int x) = L') (k : XW l G M d (pc + 2) L' (rest) h c n P) : XW l G M d pc L (.int x :: rest) h c n P := by
  intro p e R s m args below meth cd H locs cells slots ls hF hR hl hL hV hS hN
  subst hL'
  refine lv_istore hF.1 hF.2.1 hd hl (Nat.le_of_ble_eq_true hq) rfl (fun ls' hl' => ?_)
  exact k p e R s m args below meth cd H locs cells slots ls' hF hR (xlr.st1 hl') (by simp [xset2, xset1_len, hL]) hV hS hN
theorem x_lstore_n {q : Fin 4} {x : Int64} {L' : List (Option Value)} (hd : decode M.2.1 pc = .ok (.lstore_n q, 1)) (hq : Nat.blt ((q : Nat) + 1) L.length = true) (hL' : xset2 L (q : Nat) (.long x) = L') (k : XW l G M d (pc + 1) L' (rest) h c n P) : XW l G M d pc L (.long x :: rest) h c n P := by
  intro p e R s m args below meth cd H locs cells slots ls hF hR hl hL hV hS hN
  subst hL'
  refine lv_lstore_n hF.1 hF.2.1 hd rfl hl (Nat.le_of_ble_eq_true hq) rfl (fun ls' hl' => ?_)
  exact k p e R s m args below meth cd H locs cells slots ls' hF hR (xlr.st2 hl') (by simp [xset2, xset1_len, hL]) hV hS hN
theorem x_lstore {q : Nat} {x : Int64} {L' : List (Option Value)} (hd : decode M.2.1 pc = .ok (.lstore q, 2)) (hq : Nat.blt ((q : Nat) + 1) L.length = true) (hL' : xset2 L (q : Nat) (.long x) = L') (k : XW l G M d (pc + 2) L' (rest) h c n P) : XW l G M d pc L (.long x :: rest) h c n P := by
  intro p e R s m args below meth cd H locs cells slots ls hF hR hl hL hV hS hN
  subst hL'
  refine lv_lstore hF.1 hF.2.1 hd hl (Nat.le_of_ble_eq_true hq) rfl (fun ls' hl' => ?_)
  exact k p e R s m args below meth cd H locs cells slots ls' hF hR (xlr.st2 hl') (by simp [xset2, xset1_len, hL]) hV hS hN
theorem x_astore_n {q : Fin 4} {v : Value} {L' : List (Option Value)} (hd : decode M.2.1 pc = .ok (.astore_n q, 1)) (hv : xisr v = true) (hq : Nat.blt (q : Nat) L.length = true) (hL' : xset1 L (q : Nat) v = L') (k : XW l G M d (pc + 1) L' (rest) h c n P) : XW l G M d pc L (v :: rest) h c n P := by
  intro p e R s m args below meth cd H locs cells slots ls hF hR hl hL hV hS hN
  subst hL'
  rcases xisr_or hv with rfl | ⟨a, rfl⟩
  · refine lv_astore_nN hF.1 hF.2.1 hd rfl hl (Nat.le_of_ble_eq_true hq) rfl (fun ls' hl' => ?_)
    exact k p e R s m args below meth cd H locs cells slots ls' hF hR (xlr.st1 hl') (by simp [xset1_len, hL]) hV hS hN
  · refine lv_astore_n hF.1 hF.2.1 hd rfl hl (Nat.le_of_ble_eq_true hq) rfl (fun ls' hl' => ?_)
    exact k p e R s m args below meth cd H locs cells slots ls' hF hR (xlr.st1 hl') (by simp [xset1_len, hL]) hV hS hN
theorem x_astore {q : Nat} {v : Value} {L' : List (Option Value)} (hd : decode M.2.1 pc = .ok (.astore q, 2)) (hv : xisr v = true) (hq : Nat.blt (q : Nat) L.length = true) (hL' : xset1 L (q : Nat) v = L') (k : XW l G M d (pc + 2) L' (rest) h c n P) : XW l G M d pc L (v :: rest) h c n P := by
  intro p e R s m args below meth cd H locs cells slots ls hF hR hl hL hV hS hN
  subst hL'
  rcases xisr_or hv with rfl | ⟨a, rfl⟩
  · refine lv_astoreN hF.1 hF.2.1 hd hl (Nat.le_of_ble_eq_true hq) rfl (fun ls' hl' => ?_)
    exact k p e R s m args below meth cd H locs cells slots ls' hF hR (xlr.st1 hl') (by simp [xset1_len, hL]) hV hS hN
  · refine lv_astore hF.1 hF.2.1 hd hl (Nat.le_of_ble_eq_true hq) rfl (fun ls' hl' => ?_)
    exact k p e R s m args below meth cd H locs cells slots ls' hF hR (xlr.st1 hl') (by simp [xset1_len, hL]) hV hS hN
theorem x_iinc {q : Nat} {i : Int} {x v : Int32} {L' : List (Option Value)} (hd : decode M.2.1 pc = .ok (.iinc q i, 3)) (hx : L[q]? = some (some (.int x))) (hv : x + Int32.ofInt i = v) (hq : Nat.blt q L.length = true) (hL' : xset1 L q (.int v) = L') (k : XW l G M d (pc + 3) L' (rest) h c n P) : XW l G M d pc L (rest) h c n P := by
  intro p e R s m args below meth cd H locs cells slots ls hF hR hl hL hV hS hN
  subst hL'
  obtain ⟨j, hj⟩ := List.getElem?_of_mem (xpr_mem.mpr hx)
  refine lv_iinc hF.1 hF.2.1 hd hl hj hv (Nat.le_of_ble_eq_true hq) rfl (fun ls' hl' => ?_)
  exact k p e R s m args below meth cd H locs cells slots ls' hF hR (xlr.st1 hl') (by simp [xset1_len, hL]) hV hS hN
theorem x_iadd {x y : Int32} (hd : decode M.2.1 pc = .ok (.iadd, 1)) (k : XW l G M d (pc + 1) L (.int (x + y) :: rest) h c n P) : XW l G M d pc L (.int y :: .int x :: rest) h c n P := by
  intro p e R s m args below meth cd H locs cells slots ls hF hR hl hL hV hS hN
  exact lv_iadd hF.1 hF.2.1 hd (k p e R s m args below meth cd H locs cells slots ls hF hR hl hL hV hS hN)
theorem x_isub {x y : Int32} (hd : decode M.2.1 pc = .ok (.isub, 1)) (k : XW l G M d (pc + 1) L (.int (x - y) :: rest) h c n P) : XW l G M d pc L (.int y :: .int x :: rest) h c n P := by
  intro p e R s m args below meth cd H locs cells slots ls hF hR hl hL hV hS hN
  exact lv_isub hF.1 hF.2.1 hd (k p e R s m args below meth cd H locs cells slots ls hF hR hl hL hV hS hN)
theorem x_imul {x y : Int32} (hd : decode M.2.1 pc = .ok (.imul, 1)) (k : XW l G M d (pc + 1) L (.int (x * y) :: rest) h c n P) : XW l G M d pc L (.int y :: .int x :: rest) h c n P := by
  intro p e R s m args below meth cd H locs cells slots ls hF hR hl hL hV hS hN
  exact lv_imul hF.1 hF.2.1 hd (k p e R s m args below meth cd H locs cells slots ls hF hR hl hL hV hS hN)
theorem x_iand {x y : Int32} (hd : decode M.2.1 pc = .ok (.iand, 1)) (k : XW l G M d (pc + 1) L (.int (x &&& y) :: rest) h c n P) : XW l G M d pc L (.int y :: .int x :: rest) h c n P := by
  intro p e R s m args below meth cd H locs cells slots ls hF hR hl hL hV hS hN
  exact lv_iand hF.1 hF.2.1 hd (k p e R s m args below meth cd H locs cells slots ls hF hR hl hL hV hS hN)
theorem x_ior {x y : Int32} (hd : decode M.2.1 pc = .ok (.ior, 1)) (k : XW l G M d (pc + 1) L (.int (x ||| y) :: rest) h c n P) : XW l G M d pc L (.int y :: .int x :: rest) h c n P := by
  intro p e R s m args below meth cd H locs cells slots ls hF hR hl hL hV hS hN
  exact lv_ior hF.1 hF.2.1 hd (k p e R s m args below meth cd H locs cells slots ls hF hR hl hL hV hS hN)
theorem x_ixor {x y : Int32} (hd : decode M.2.1 pc = .ok (.ixor, 1)) (k : XW l G M d (pc + 1) L (.int (x ^^^ y) :: rest) h c n P) : XW l G M d pc L (.int y :: .int x :: rest) h c n P := by
  intro p e R s m args below meth cd H locs cells slots ls hF hR hl hL hV hS hN
  exact lv_ixor hF.1 hF.2.1 hd (k p e R s m args below meth cd H locs cells slots ls hF hR hl hL hV hS hN)
theorem x_ishl {x y : Int32} (hd : decode M.2.1 pc = .ok (.ishl, 1)) (k : XW l G M d (pc + 1) L (.int (x <<< (y &&& 31)) :: rest) h c n P) : XW l G M d pc L (.int y :: .int x :: rest) h c n P := by
  intro p e R s m args below meth cd H locs cells slots ls hF hR hl hL hV hS hN
  exact lv_ishl hF.1 hF.2.1 hd (k p e R s m args below meth cd H locs cells slots ls hF hR hl hL hV hS hN)
theorem x_ishr {x y : Int32} (hd : decode M.2.1 pc = .ok (.ishr, 1)) (k : XW l G M d (pc + 1) L (.int (x >>> (y &&& 31)) :: rest) h c n P) : XW l G M d pc L (.int y :: .int x :: rest) h c n P := by
  intro p e R s m args below meth cd H locs cells slots ls hF hR hl hL hV hS hN
  exact lv_ishr hF.1 hF.2.1 hd (k p e R s m args below meth cd H locs cells slots ls hF hR hl hL hV hS hN)
theorem x_iushr {x y v : Int32} (hd : decode M.2.1 pc = .ok (.iushr, 1)) (hv : (x.toUInt32 >>> (y.toUInt32 &&& Int32.toUInt32 31)).toInt32 = v) (k : XW l G M d (pc + 1) L (.int v :: rest) h c n P) : XW l G M d pc L (.int y :: .int x :: rest) h c n P := by
  intro p e R s m args below meth cd H locs cells slots ls hF hR hl hL hV hS hN
  exact lv_iushr hF.1 hF.2.1 hd hv (k p e R s m args below meth cd H locs cells slots ls hF hR hl hL hV hS hN)
theorem x_idiv {x y : Int32} (hd : decode M.2.1 pc = .ok (.idiv, 1)) (hne : ¬ y = 0) (k : XW l G M d (pc + 1) L (.int (x / y) :: rest) h c n P) : XW l G M d pc L (.int y :: .int x :: rest) h c n P := by
  intro p e R s m args below meth cd H locs cells slots ls hF hR hl hL hV hS hN
  exact lv_idiv hF.1 hF.2.1 hd hne (k p e R s m args below meth cd H locs cells slots ls hF hR hl hL hV hS hN)
theorem x_irem {x y : Int32} (hd : decode M.2.1 pc = .ok (.irem, 1)) (hne : ¬ y = 0) (k : XW l G M d (pc + 1) L (.int (x - x / y * y) :: rest) h c n P) : XW l G M d pc L (.int y :: .int x :: rest) h c n P := by
  intro p e R s m args below meth cd H locs cells slots ls hF hR hl hL hV hS hN
  exact lv_irem hF.1 hF.2.1 hd hne (k p e R s m args below meth cd H locs cells slots ls hF hR hl hL hV hS hN)
theorem x_ineg {x : Int32} (hd : decode M.2.1 pc = .ok (.ineg, 1)) (k : XW l G M d (pc + 1) L (.int (-x) :: rest) h c n P) : XW l G M d pc L (.int x :: rest) h c n P := by
  intro p e R s m args below meth cd H locs cells slots ls hF hR hl hL hV hS hN
  exact lv_ineg hF.1 hF.2.1 hd (k p e R s m args below meth cd H locs cells slots ls hF hR hl hL hV hS hN)
theorem x_ladd {x y : Int64} (hd : decode M.2.1 pc = .ok (.ladd, 1)) (k : XW l G M d (pc + 1) L (.long (x + y) :: rest) h c n P) : XW l G M d pc L (.long y :: .long x :: rest) h c n P := by
  intro p e R s m args below meth cd H locs cells slots ls hF hR hl hL hV hS hN
  exact lv_ladd hF.1 hF.2.1 hd (k p e R s m args below meth cd H locs cells slots ls hF hR hl hL hV hS hN)
theorem x_lsub {x y : Int64} (hd : decode M.2.1 pc = .ok (.lsub, 1)) (k : XW l G M d (pc + 1) L (.long (x - y) :: rest) h c n P) : XW l G M d pc L (.long y :: .long x :: rest) h c n P := by
  intro p e R s m args below meth cd H locs cells slots ls hF hR hl hL hV hS hN
  exact lv_lsub hF.1 hF.2.1 hd (k p e R s m args below meth cd H locs cells slots ls hF hR hl hL hV hS hN)
theorem x_lmul {x y : Int64} (hd : decode M.2.1 pc = .ok (.lmul, 1)) (k : XW l G M d (pc + 1) L (.long (x * y) :: rest) h c n P) : XW l G M d pc L (.long y :: .long x :: rest) h c n P := by
  intro p e R s m args below meth cd H locs cells slots ls hF hR hl hL hV hS hN
  exact lv_lmul hF.1 hF.2.1 hd (k p e R s m args below meth cd H locs cells slots ls hF hR hl hL hV hS hN)
theorem x_land {x y : Int64} (hd : decode M.2.1 pc = .ok (.land, 1)) (k : XW l G M d (pc + 1) L (.long (x &&& y) :: rest) h c n P) : XW l G M d pc L (.long y :: .long x :: rest) h c n P := by
  intro p e R s m args below meth cd H locs cells slots ls hF hR hl hL hV hS hN
  exact lv_land hF.1 hF.2.1 hd (k p e R s m args below meth cd H locs cells slots ls hF hR hl hL hV hS hN)
theorem x_lor {x y : Int64} (hd : decode M.2.1 pc = .ok (.lor, 1)) (k : XW l G M d (pc + 1) L (.long (x ||| y) :: rest) h c n P) : XW l G M d pc L (.long y :: .long x :: rest) h c n P := by
  intro p e R s m args below meth cd H locs cells slots ls hF hR hl hL hV hS hN
  exact lv_lor hF.1 hF.2.1 hd (k p e R s m args below meth cd H locs cells slots ls hF hR hl hL hV hS hN)
theorem x_lxor {x y : Int64} (hd : decode M.2.1 pc = .ok (.lxor, 1)) (k : XW l G M d (pc + 1) L (.long (x ^^^ y) :: rest) h c n P) : XW l G M d pc L (.long y :: .long x :: rest) h c n P := by
  intro p e R s m args below meth cd H locs cells slots ls hF hR hl hL hV hS hN
  exact lv_lxor hF.1 hF.2.1 hd (k p e R s m args below meth cd H locs cells slots ls hF hR hl hL hV hS hN)
theorem x_i2l {x : Int32} (hd : decode M.2.1 pc = .ok (.i2l, 1)) (k : XW l G M d (pc + 1) L (.long x.toInt64 :: rest) h c n P) : XW l G M d pc L (.int x :: rest) h c n P := by
  intro p e R s m args below meth cd H locs cells slots ls hF hR hl hL hV hS hN
  exact lv_i2l hF.1 hF.2.1 hd rfl (k p e R s m args below meth cd H locs cells slots ls hF hR hl hL hV hS hN)
theorem x_l2i {x : Int64} (hd : decode M.2.1 pc = .ok (.l2i, 1)) (k : XW l G M d (pc + 1) L (.int x.toInt32 :: rest) h c n P) : XW l G M d pc L (.long x :: rest) h c n P := by
  intro p e R s m args below meth cd H locs cells slots ls hF hR hl hL hV hS hN
  exact lv_l2i hF.1 hF.2.1 hd rfl (k p e R s m args below meth cd H locs cells slots ls hF hR hl hL hV hS hN)
theorem x_i2b {x : Int32} (hd : decode M.2.1 pc = .ok (.i2b, 1)) (k : XW l G M d (pc + 1) L (.int x.toInt8.toInt32 :: rest) h c n P) : XW l G M d pc L (.int x :: rest) h c n P := by
  intro p e R s m args below meth cd H locs cells slots ls hF hR hl hL hV hS hN
  exact lv_i2b hF.1 hF.2.1 hd rfl (k p e R s m args below meth cd H locs cells slots ls hF hR hl hL hV hS hN)
theorem x_i2s {x : Int32} (hd : decode M.2.1 pc = .ok (.i2s, 1)) (k : XW l G M d (pc + 1) L (.int x.toInt16.toInt32 :: rest) h c n P) : XW l G M d pc L (.int x :: rest) h c n P := by
  intro p e R s m args below meth cd H locs cells slots ls hF hR hl hL hV hS hN
  exact lv_i2s hF.1 hF.2.1 hd rfl (k p e R s m args below meth cd H locs cells slots ls hF hR hl hL hV hS hN)
theorem x_i2c {x : Int32} (hd : decode M.2.1 pc = .ok (.i2c, 1)) (k : XW l G M d (pc + 1) L (.int (x.toUInt32 % 65536).toInt32 :: rest) h c n P) : XW l G M d pc L (.int x :: rest) h c n P := by
  intro p e R s m args below meth cd H locs cells slots ls hF hR hl hL hV hS hN
  exact lv_i2c hF.1 hF.2.1 hd rfl (k p e R s m args below meth cd H locs cells slots ls hF hR hl hL hV hS hN)
theorem x_lushr {x v : Int64} {y : Int32} (hd : decode M.2.1 pc = .ok (.lushr, 1)) (hv : (x.toUInt64 >>> (y.toInt64.toUInt64 &&& Int64.toUInt64 63)).toInt64 = v) (k : XW l G M d (pc + 1) L (.long v :: rest) h c n P) : XW l G M d pc L (.int y :: .long x :: rest) h c n P := by
  intro p e R s m args below meth cd H locs cells slots ls hF hR hl hL hV hS hN
  exact lv_lushr hF.1 hF.2.1 hd hv (k p e R s m args below meth cd H locs cells slots ls hF hR hl hL hV hS hN)
theorem x_lshl {x v : Int64} {y : Int32} (hd : decode M.2.1 pc = .ok (.lshl, 1)) (hv : x <<< (y.toInt64 &&& 63) = v) (k : XW l G M d (pc + 1) L (.long v :: rest) h c n P) : XW l G M d pc L (.int y :: .long x :: rest) h c n P := by
  intro p e R s m args below meth cd H locs cells slots ls hF hR hl hL hV hS hN
  exact lv_lshl hF.1 hF.2.1 hd hv (k p e R s m args below meth cd H locs cells slots ls hF hR hl hL hV hS hN)
theorem x_lshr {x v : Int64} {y : Int32} (hd : decode M.2.1 pc = .ok (.lshr, 1)) (hv : x >>> (y.toInt64 &&& 63) = v) (k : XW l G M d (pc + 1) L (.long v :: rest) h c n P) : XW l G M d pc L (.int y :: .long x :: rest) h c n P := by
  intro p e R s m args below meth cd H locs cells slots ls hF hR hl hL hV hS hN
  exact lv_lshr hF.1 hF.2.1 hd hv (k p e R s m args below meth cd H locs cells slots ls hF hR hl hL hV hS hN)
theorem x_lcmp {x y : Int64} (hd : decode M.2.1 pc = .ok (.lcmp, 1)) (k : XW l G M d (pc + 1) L (.int (lg_cmp x y) :: rest) h c n P) : XW l G M d pc L (.long y :: .long x :: rest) h c n P := by
  intro p e R s m args below meth cd H locs cells slots ls hF hR hl hL hV hS hN
  exact W.lcmp hF.1 hF.2.1 hd (k p e R s m args below meth cd H locs cells slots ls hF hR hl hL hV hS hN)
theorem x_dup {a : Value} (hd : decode M.2.1 pc = .ok (.dup, 1)) (ha : a.category = 1) (k : XW l G M d (pc + 1) L (a :: a :: rest) h c n P) : XW l G M d pc L (a :: rest) h c n P := by
  intro p e R s m args below meth cd H locs cells slots ls hF hR hl hL hV hS hN
  exact lv_dup hF.1 hF.2.1 hd ha (k p e R s m args below meth cd H locs cells slots ls hF hR hl hL hV hS hN)
theorem x_pop {a : Value} (hd : decode M.2.1 pc = .ok (.pop, 1)) (ha : a.category = 1) (k : XW l G M d (pc + 1) L (rest) h c n P) : XW l G M d pc L (a :: rest) h c n P := by
  intro p e R s m args below meth cd H locs cells slots ls hF hR hl hL hV hS hN
  exact lv_pop hF.1 hF.2.1 hd ha (k p e R s m args below meth cd H locs cells slots ls hF hR hl hL hV hS hN)
theorem x_dup_x1 {a b : Value} (hd : decode M.2.1 pc = .ok (.dup_x1, 1)) (ha : a.category = 1) (hb : b.category = 1) (k : XW l G M d (pc + 1) L (a :: b :: a :: rest) h c n P) : XW l G M d pc L (a :: b :: rest) h c n P := by
  intro p e R s m args below meth cd H locs cells slots ls hF hR hl hL hV hS hN
  exact lv_dup_x1 hF.1 hF.2.1 hd ha hb (k p e R s m args below meth cd H locs cells slots ls hF hR hl hL hV hS hN)
theorem x_dup_x2 {a b f : Value} (hd : decode M.2.1 pc = .ok (.dup_x2, 1)) (ha : a.category = 1) (hb : b.category = 1) (hf : f.category = 1) (k : XW l G M d (pc + 1) L (a :: b :: f :: a :: rest) h c n P) : XW l G M d pc L (a :: b :: f :: rest) h c n P := by
  intro p e R s m args below meth cd H locs cells slots ls hF hR hl hL hV hS hN
  exact lv_dup_x2 hF.1 hF.2.1 hd ha hb hf (k p e R s m args below meth cd H locs cells slots ls hF hR hl hL hV hS hN)
theorem x_dup2_11 {a b : Value} (hd : decode M.2.1 pc = .ok (.dup2, 1)) (ha : a.category = 1) (hb : b.category = 1) (k : XW l G M d (pc + 1) L (a :: b :: a :: b :: rest) h c n P) : XW l G M d pc L (a :: b :: rest) h c n P := by
  intro p e R s m args below meth cd H locs cells slots ls hF hR hl hL hV hS hN
  exact lv_dup2_11 hF.1 hF.2.1 hd ha hb (k p e R s m args below meth cd H locs cells slots ls hF hR hl hL hV hS hN)
theorem x_dup2_2 {a : Value} (hd : decode M.2.1 pc = .ok (.dup2, 1)) (ha : a.category = 2) (k : XW l G M d (pc + 1) L (a :: a :: rest) h c n P) : XW l G M d pc L (a :: rest) h c n P := by
  intro p e R s m args below meth cd H locs cells slots ls hF hR hl hL hV hS hN
  exact lv_dup2_2 hF.1 hF.2.1 hd ha (k p e R s m args below meth cd H locs cells slots ls hF hR hl hL hV hS hN)
theorem x_dup2_x1_2 {a b : Value} (hd : decode M.2.1 pc = .ok (.dup2_x1, 1)) (ha : a.category = 2) (hb : b.category = 1) (k : XW l G M d (pc + 1) L (a :: b :: a :: rest) h c n P) : XW l G M d pc L (a :: b :: rest) h c n P := by
  intro p e R s m args below meth cd H locs cells slots ls hF hR hl hL hV hS hN
  exact lv_dup2_x1_2 hF.1 hF.2.1 hd ha hb (k p e R s m args below meth cd H locs cells slots ls hF hR hl hL hV hS hN)
theorem x_dup2_x2_2 {a b f : Value} (hd : decode M.2.1 pc = .ok (.dup2_x2, 1)) (ha : a.category = 2) (hb : b.category = 1) (hf : f.category = 1) (k : XW l G M d (pc + 1) L (a :: b :: f :: a :: rest) h c n P) : XW l G M d pc L (a :: b :: f :: rest) h c n P := by
  intro p e R s m args below meth cd H locs cells slots ls hF hR hl hL hV hS hN
  exact lv_dup2_x2_2 hF.1 hF.2.1 hd ha hb hf (k p e R s m args below meth cd H locs cells slots ls hF hR hl hL hV hS hN)
theorem x_pop2_2 {a : Value} (hd : decode M.2.1 pc = .ok (.pop2, 1)) (ha : a.category = 2) (k : XW l G M d (pc + 1) L (rest) h c n P) : XW l G M d pc L (a :: rest) h c n P := by
  intro p e R s m args below meth cd H locs cells slots ls hF hR hl hL hV hS hN
  exact lv_pop2_2 hF.1 hF.2.1 hd ha (k p e R s m args below meth cd H locs cells slots ls hF hR hl hL hV hS hN)
theorem x_if_eq {x : Int32} {off : Int} {tgt : Nat} (hd : decode M.2.1 pc = .ok (.ifCond .eq off, 3)) (ht : (pc : Int) + off = (tgt : Int)) (kt : x = 0 → XW l G M d tgt L rest h c n P) (kf : ¬ x = 0 → XW l G M d (pc + 3) L rest h c n P) : XW l G M d pc L (.int x :: rest) h c n P := by
  intro p e R s m args below meth cd H locs cells slots ls hF hR hl hL hV hS hN
  exact lv_if_eq hF.1 hF.2.1 hd ht (fun q => kt q p e R s m args below meth cd H locs cells slots ls hF hR hl hL hV hS hN) (fun q => kf q p e R s m args below meth cd H locs cells slots ls hF hR hl hL hV hS hN)
theorem x_icmp_eq {x y : Int32} {off : Int} {tgt : Nat} (hd : decode M.2.1 pc = .ok (.if_icmp .eq off, 3)) (ht : (pc : Int) + off = (tgt : Int)) (kt : x = y → XW l G M d tgt L rest h c n P) (kf : ¬ x = y → XW l G M d (pc + 3) L rest h c n P) : XW l G M d pc L (.int y :: .int x :: rest) h c n P := by
  intro p e R s m args below meth cd H locs cells slots ls hF hR hl hL hV hS hN
  exact lv_icmp_eq hF.1 hF.2.1 hd ht (fun q => kt q p e R s m args below meth cd H locs cells slots ls hF hR hl hL hV hS hN) (fun q => kf q p e R s m args below meth cd H locs cells slots ls hF hR hl hL hV hS hN)
theorem x_if_ne {x : Int32} {off : Int} {tgt : Nat} (hd : decode M.2.1 pc = .ok (.ifCond .ne off, 3)) (ht : (pc : Int) + off = (tgt : Int)) (kt : ¬ x = 0 → XW l G M d tgt L rest h c n P) (kf : x = 0 → XW l G M d (pc + 3) L rest h c n P) : XW l G M d pc L (.int x :: rest) h c n P := by
  intro p e R s m args below meth cd H locs cells slots ls hF hR hl hL hV hS hN
  exact lv_if_ne hF.1 hF.2.1 hd ht (fun q => kt q p e R s m args below meth cd H locs cells slots ls hF hR hl hL hV hS hN) (fun q => kf q p e R s m args below meth cd H locs cells slots ls hF hR hl hL hV hS hN)
theorem x_icmp_ne {x y : Int32} {off : Int} {tgt : Nat} (hd : decode M.2.1 pc = .ok (.if_icmp .ne off, 3)) (ht : (pc : Int) + off = (tgt : Int)) (kt : ¬ x = y → XW l G M d tgt L rest h c n P) (kf : x = y → XW l G M d (pc + 3) L rest h c n P) : XW l G M d pc L (.int y :: .int x :: rest) h c n P := by
  intro p e R s m args below meth cd H locs cells slots ls hF hR hl hL hV hS hN
  exact lv_icmp_ne hF.1 hF.2.1 hd ht (fun q => kt q p e R s m args below meth cd H locs cells slots ls hF hR hl hL hV hS hN) (fun q => kf q p e R s m args below meth cd H locs cells slots ls hF hR hl hL hV hS hN)
theorem x_if_lt {x : Int32} {off : Int} {tgt : Nat} (hd : decode M.2.1 pc = .ok (.ifCond .lt off, 3)) (ht : (pc : Int) + off = (tgt : Int)) (kt : x < 0 → XW l G M d tgt L rest h c n P) (kf : ¬ x < 0 → XW l G M d (pc + 3) L rest h c n P) : XW l G M d pc L (.int x :: rest) h c n P := by
  intro p e R s m args below meth cd H locs cells slots ls hF hR hl hL hV hS hN
  exact lv_if_lt hF.1 hF.2.1 hd ht (fun q => kt q p e R s m args below meth cd H locs cells slots ls hF hR hl hL hV hS hN) (fun q => kf q p e R s m args below meth cd H locs cells slots ls hF hR hl hL hV hS hN)
theorem x_icmp_lt {x y : Int32} {off : Int} {tgt : Nat} (hd : decode M.2.1 pc = .ok (.if_icmp .lt off, 3)) (ht : (pc : Int) + off = (tgt : Int)) (kt : x < y → XW l G M d tgt L rest h c n P) (kf : ¬ x < y → XW l G M d (pc + 3) L rest h c n P) : XW l G M d pc L (.int y :: .int x :: rest) h c n P := by
  intro p e R s m args below meth cd H locs cells slots ls hF hR hl hL hV hS hN
  exact lv_icmp_lt hF.1 hF.2.1 hd ht (fun q => kt q p e R s m args below meth cd H locs cells slots ls hF hR hl hL hV hS hN) (fun q => kf q p e R s m args below meth cd H locs cells slots ls hF hR hl hL hV hS hN)
theorem x_if_ge {x : Int32} {off : Int} {tgt : Nat} (hd : decode M.2.1 pc = .ok (.ifCond .ge off, 3)) (ht : (pc : Int) + off = (tgt : Int)) (kt : 0 ≤ x → XW l G M d tgt L rest h c n P) (kf : ¬ 0 ≤ x → XW l G M d (pc + 3) L rest h c n P) : XW l G M d pc L (.int x :: rest) h c n P := by
  intro p e R s m args below meth cd H locs cells slots ls hF hR hl hL hV hS hN
  exact lv_if_ge hF.1 hF.2.1 hd ht (fun q => kt q p e R s m args below meth cd H locs cells slots ls hF hR hl hL hV hS hN) (fun q => kf q p e R s m args below meth cd H locs cells slots ls hF hR hl hL hV hS hN)
theorem x_icmp_ge {x y : Int32} {off : Int} {tgt : Nat} (hd : decode M.2.1 pc = .ok (.if_icmp .ge off, 3)) (ht : (pc : Int) + off = (tgt : Int)) (kt : y ≤ x → XW l G M d tgt L rest h c n P) (kf : ¬ y ≤ x → XW l G M d (pc + 3) L rest h c n P) : XW l G M d pc L (.int y :: .int x :: rest) h c n P := by
  intro p e R s m args below meth cd H locs cells slots ls hF hR hl hL hV hS hN
  exact lv_icmp_ge hF.1 hF.2.1 hd ht (fun q => kt q p e R s m args below meth cd H locs cells slots ls hF hR hl hL hV hS hN) (fun q => kf q p e R s m args below meth cd H locs cells slots ls hF hR hl hL hV hS hN)
theorem x_if_gt {x : Int32} {off : Int} {tgt : Nat} (hd : decode M.2.1 pc = .ok (.ifCond .gt off, 3)) (ht : (pc : Int) + off = (tgt : Int)) (kt : 0 < x → XW l G M d tgt L rest h c n P) (kf : ¬ 0 < x → XW l G M d (pc + 3) L rest h c n P) : XW l G M d pc L (.int x :: rest) h c n P := by
  intro p e R s m args below meth cd H locs cells slots ls hF hR hl hL hV hS hN
  exact lv_if_gt hF.1 hF.2.1 hd ht (fun q => kt q p e R s m args below meth cd H locs cells slots ls hF hR hl hL hV hS hN) (fun q => kf q p e R s m args below meth cd H locs cells slots ls hF hR hl hL hV hS hN)
theorem x_icmp_gt {x y : Int32} {off : Int} {tgt : Nat} (hd : decode M.2.1 pc = .ok (.if_icmp .gt off, 3)) (ht : (pc : Int) + off = (tgt : Int)) (kt : y < x → XW l G M d tgt L rest h c n P) (kf : ¬ y < x → XW l G M d (pc + 3) L rest h c n P) : XW l G M d pc L (.int y :: .int x :: rest) h c n P := by
  intro p e R s m args below meth cd H locs cells slots ls hF hR hl hL hV hS hN
  exact lv_icmp_gt hF.1 hF.2.1 hd ht (fun q => kt q p e R s m args below meth cd H locs cells slots ls hF hR hl hL hV hS hN) (fun q => kf q p e R s m args below meth cd H locs cells slots ls hF hR hl hL hV hS hN)
theorem x_if_le {x : Int32} {off : Int} {tgt : Nat} (hd : decode M.2.1 pc = .ok (.ifCond .le off, 3)) (ht : (pc : Int) + off = (tgt : Int)) (kt : x ≤ 0 → XW l G M d tgt L rest h c n P) (kf : ¬ x ≤ 0 → XW l G M d (pc + 3) L rest h c n P) : XW l G M d pc L (.int x :: rest) h c n P := by
  intro p e R s m args below meth cd H locs cells slots ls hF hR hl hL hV hS hN
  exact lv_if_le hF.1 hF.2.1 hd ht (fun q => kt q p e R s m args below meth cd H locs cells slots ls hF hR hl hL hV hS hN) (fun q => kf q p e R s m args below meth cd H locs cells slots ls hF hR hl hL hV hS hN)
theorem x_icmp_le {x y : Int32} {off : Int} {tgt : Nat} (hd : decode M.2.1 pc = .ok (.if_icmp .le off, 3)) (ht : (pc : Int) + off = (tgt : Int)) (kt : x ≤ y → XW l G M d tgt L rest h c n P) (kf : ¬ x ≤ y → XW l G M d (pc + 3) L rest h c n P) : XW l G M d pc L (.int y :: .int x :: rest) h c n P := by
  intro p e R s m args below meth cd H locs cells slots ls hF hR hl hL hV hS hN
  exact lv_icmp_le hF.1 hF.2.1 hd ht (fun q => kt q p e R s m args below meth cd H locs cells slots ls hF hR hl hL hV hS hN) (fun q => kf q p e R s m args below meth cd H locs cells slots ls hF hR hl hL hV hS hN)
theorem x_goto {off : Int} {tgt : Nat} (hd : decode M.2.1 pc = .ok (.goto off, 3)) (ht : (pc : Int) + off = (tgt : Int)) (k : XW l G M d tgt L rest h c n P) : XW l G M d pc L (rest) h c n P := by
  intro p e R s m args below meth cd H locs cells slots ls hF hR hl hL hV hS hN
  exact lv_goto hF.1 hF.2.1 hd ht (k p e R s m args below meth cd H locs cells slots ls hF hR hl hL hV hS hN)
theorem x_ifnull {a : Nat} {off : Int} (hd : decode M.2.1 pc = .ok (.ifnull off, 3)) (k : XW l G M d (pc + 3) L rest h c n P) : XW l G M d pc L (.ref a :: rest) h c n P := by
  intro p e R s m args below meth cd H locs cells slots ls hF hR hl hL hV hS hN
  exact lv_ifnull hF.1 hF.2.1 hd (k p e R s m args below meth cd H locs cells slots ls hF hR hl hL hV hS hN)
theorem x_ifnullN {off : Int} {tgt : Nat} (hd : decode M.2.1 pc = .ok (.ifnull off, 3)) (ht : (pc : Int) + off = (tgt : Int)) (k : XW l G M d tgt L rest h c n P) : XW l G M d pc L (.null :: rest) h c n P := by
  intro p e R s m args below meth cd H locs cells slots ls hF hR hl hL hV hS hN
  exact lv_ifnullN hF.1 hF.2.1 hd ht (k p e R s m args below meth cd H locs cells slots ls hF hR hl hL hV hS hN)
theorem x_ifnonnull {a : Nat} {off : Int} {tgt : Nat} (hd : decode M.2.1 pc = .ok (.ifnonnull off, 3)) (ht : (pc : Int) + off = (tgt : Int)) (k : XW l G M d tgt L rest h c n P) : XW l G M d pc L (.ref a :: rest) h c n P := by
  intro p e R s m args below meth cd H locs cells slots ls hF hR hl hL hV hS hN
  exact lv_ifnonnull hF.1 hF.2.1 hd ht (k p e R s m args below meth cd H locs cells slots ls hF hR hl hL hV hS hN)
theorem x_ifnonnullN {off : Int} (hd : decode M.2.1 pc = .ok (.ifnonnull off, 3)) (k : XW l G M d (pc + 3) L rest h c n P) : XW l G M d pc L (.null :: rest) h c n P := by
  intro p e R s m args below meth cd H locs cells slots ls hF hR hl hL hV hS hN
  exact lv_ifnonnullN hF.1 hF.2.1 hd (k p e R s m args below meth cd H locs cells slots ls hF hR hl hL hV hS hN)
theorem x_tableIn {dflt lo hi : Int} {offs : Array Int} {len : Nat} {x : Int32} {off : Int} {tgt : Nat} (hd : decode M.2.1 pc = .ok (.tableswitch dflt lo hi offs, len)) (h1 : ¬ x.toInt < lo) (h2 : ¬ hi < x.toInt) (ho : offs[(x.toInt - lo).toNat]? = some off) (ht : (pc : Int) + off = (tgt : Int)) (k : XW l G M d tgt L rest h c n P) : XW l G M d pc L (.int x :: rest) h c n P := by
  intro p e R s m args below meth cd H locs cells slots ls hF hR hl hL hV hS hN
  exact lv_tableIn hF.1 hF.2.1 hd h1 h2 ho ht (k p e R s m args below meth cd H locs cells slots ls hF hR hl hL hV hS hN)
theorem x_tableOut {dflt lo hi : Int} {offs : Array Int} {len : Nat} {x : Int32} {tgt : Nat} (hd : decode M.2.1 pc = .ok (.tableswitch dflt lo hi offs, len)) (h1 : x.toInt < lo ∨ hi < x.toInt) (ht : (pc : Int) + dflt = (tgt : Int)) (k : XW l G M d tgt L rest h c n P) : XW l G M d pc L (.int x :: rest) h c n P := by
  intro p e R s m args below meth cd H locs cells slots ls hF hR hl hL hV hS hN
  exact lv_tableOut hF.1 hF.2.1 hd h1 ht (k p e R s m args below meth cd H locs cells slots ls hF hR hl hL hV hS hN)
theorem x_lookup {dflt : Int} {ps : Array (Int × Int)} {len : Nat} {x : Int32} {off : Int} {tgt : Nat} (hd : decode M.2.1 pc = .ok (.lookupswitch dflt ps, len)) (hp : (ps.toList.zip (ps.toList.drop 1)).all (fun (a, next) => a.1 < next.1) = true) (ho : Op.lookupswitch.offset ps.toList dflt x.toInt = off) (ht : (pc : Int) + off = (tgt : Int)) (k : XW l G M d tgt L rest h c n P) : XW l G M d pc L (.int x :: rest) h c n P := by
  intro p e R s m args below meth cd H locs cells slots ls hF hR hl hL hV hS hN
  exact lv_lookup hF.1 hF.2.1 hd hp ho ht (k p e R s m args below meth cd H locs cells slots ls hF hR hl hL hV hS hN)
end XR
end
section
section XHP
variable {l : Launch} {G : XG} {M : XMt} {d pc : Nat} {L : List (Option Value)} {rest : List Value} {h : XH} {c n : Nat} {P : Option Value → XH → Nat → Nat → Prop}
def xup (h : XH) (a : Nat) (e : Nat × List Value) : XH := fun q => if q = a then some e else h q
theorem xup_self {h : XH} {a : Nat} {e : Nat × List Value} : xup h a e a = some e := if_pos rfl
theorem xup_ne {h : XH} {a q : Nat} {e : Nat × List Value} (hq : q ≠ a) : xup h a e q = h q := if_neg hq
/-- a cell that is there: ours, or one that stays -/
def xr (G : XG) (h : XH) (a k : Nat) (vs : List Value) : Prop := h a = some (k, vs) ∨ G.2.2.1 a = some (k, vs)
theorem xr_cell {s : State} {H : Heap} {a k : Nat} {vs : List Value} (ha : xr G h a k vs) (hV : xV G s H) (hS : xS G h c n H) : ∃ cell : Cell, H[a]? = some cell ∧ cell.vm ≠ .unknown ∧ cell.vm.isStatics = false ∧ xcell G.1 k vs cell := by
  rcases ha with ha | ha
  · obtain ⟨-, cell, g1, g2, g3⟩ := hS.1 a k vs ha
    exact ⟨cell, g1, (by rw [g2]; exact fun q => (by cases q)), (by rw [g2]; rfl), g3⟩
  · exact (hV.2.2.2.2 a k vs ha).2
theorem xV.ts {s : State} {H : Heap} (hV : xV G s H) (args : Array Value) : ∀ w ∈ xT, w.before args s = true := fun w hw => xT_same hw rfl (hV.2.1 w hw)
theorem xkh.kept {H H1 : Heap} (hk : xkh G H) (hq : ∀ a : Nat, a < H.size → ¬ xA G a → H1[a]? = H[a]?) : xkh G H1 := by
  intro a k vs ha
  obtain ⟨g1, cell, g2, g3⟩ := hk a k vs ha
  exact ⟨g1, cell, by rw [hq a (Array.getElem?_eq_some_iff.mp g2).1 (Nat.not_le.mpr g1)]; exact g2, g3⟩
theorem xV.kept {s : State} {H H1 : Heap} (hV : xV G s H) (hq : ∀ a : Nat, a < H.size → ¬ xA G a → H1[a]? = H[a]?) : xV G s H1 := ⟨hV.1, hV.2.1, hV.2.2.1, fun q hm => (hV.2.2.2.1 q hm).kept hq, hV.2.2.2.2.kept hq⟩
/-- a write into one of our cells -/
theorem xS.put {H H1 : Heap} {a k : Nat} {vs vs' : List Value} {cell cell' : Cell} (hS : xS G h c n H) (ha : h a = some (k, vs)) (g1 : H[a]? = some cell) (e1 : H1[a]? = some cell') (e2 : H1.size = H.size) (e3 : ∀ q : Nat, q ≠ a → H1[q]? = H[q]?) (es : cell'.slots.size = cell.slots.size) (ev : cell'.vm = .none) (ec : xcell G.1 k vs' cell') : xS G (xup h a (k, vs')) c n H1 := by
  obtain ⟨h1, h2, h3, h4, h5⟩ := hS
  refine ⟨fun q kq vq hq => ?_, by rw [e2]; exact h2, by rw [e2]; exact h3, by rw [xU_put e2 g1 e1 es e3]; exact h4, h5⟩
  by_cases hqa : q = a
  · subst hqa
    rw [xup_self] at hq
    cases hq
    exact ⟨(h1 q k vs ha).1, cell', e1, ev, ec⟩
  · rw [xup_ne hqa] at hq
    obtain ⟨q1, q2, q3⟩ := h1 q kq vq hq
    exact ⟨q1, q2, by rw [e3 q hqa]; exact q3⟩
theorem xS.ge {H : Heap} {a k : Nat} {vs : List Value} (hS : xS G h c n H) (ha : h a = some (k, vs)) : xA G a := (hS.1 a k vs ha).1
theorem va_S.put1 {H0 H H1 : Heap} {locs : List Loc} {a i : Nat} (hN : va_S (xA G) H0 H locs) (ha : xA G a) (e2 : H1.size = H.size) (e3 : ∀ q : Nat, q ≠ a → H1[q]? = H[q]?) : va_S (xA G) H0 H1 (locs ++ [⟨a, i⟩]) := hN.put e2 e3 ha
theorem xV.put {s : State} {H H1 : Heap} {a : Nat} (hV : xV G s H) (ha : xA G a) (e3 : ∀ q : Nat, q ≠ a → H1[q]? = H[q]?) : xV G s H1 := hV.kept (fun q _ hq => e3 q (fun e => hq (by rw [e]; exact ha)))
/-- a new cell -/
theorem xS.new {H : Heap} {k z : Nat} {vs : List Value} {cell : Cell} (hS : xS G h c n H) (ev : cell.vm = .none) (ez : cell.slots.size = z) (ec : xcell G.1 k vs cell) (hc : c + 1 ≤ xCB) (hn : n + z ≤ xSB) : xS G (xup h H.size (k, vs)) (c + 1) (n + z) (H.push cell) ∧ h H.size = none := by
  obtain ⟨h1, h2, h3, h4, h5, h6⟩ := hS
  have hnone : h H.size = none := by
    cases hh : h H.size with
    | none => rfl
    | some e =>
      obtain ⟨-, cell, g1, -⟩ := h1 H.size e.1 e.2 hh
      exact absurd (Array.getElem?_eq_some_iff.mp g1).1 (Nat.lt_irrefl _)
  refine ⟨⟨fun q kq vq hq => ?_, by rw [Array.size_push]; omega, by rw [Array.size_push]; omega, by rw [xU_push h2, ez]; omega, hc, hn⟩, hnone⟩
  by_cases hqa : q = H.size
  · subst hqa
    rw [xup_self] at hq
    cases hq
    exact ⟨h2, cell, Array.getElem?_push_size, ev, ec⟩
  · rw [xup_ne hqa] at hq
    obtain ⟨q1, c1, q2, q3⟩ := h1 q kq vq hq
    exact ⟨q1, c1, by rw [Array.getElem?_push, if_neg hqa]; exact q2, q3⟩
theorem xV.new {s : State} {H : Heap} {cell : Cell} (hV : xV G s H) : xV G s (H.push cell) := hV.kept (fun q hq _ => by rw [Array.getElem?_push, if_neg (Nat.ne_of_lt hq)])
theorem va_S.new {H0 H : Heap} {locs : List Loc} {cell : Cell} (hN : va_S (xA G) H0 H locs) : va_S (xA G) H0 (H.push cell) locs := ⟨by rw [Array.size_push]; exact Nat.le_succ_of_le hN.1, fun q h1 h2 => by rw [Array.getElem?_push, if_neg (Nat.ne_of_lt (Nat.lt_of_lt_of_le h1 hN.1))]; exact hN.2.1 q h1 h2, hN.2.2⟩
theorem xkh.none {s : State} {H : Heap} (hV : xV G s H) (hS : xS G h c n H) : G.2.2.1 H.size = none := by
  cases hh : G.2.2.1 H.size with
  | none => rfl
  | some e =>
    obtain ⟨g1, -⟩ := hV.2.2.2.2 H.size e.1 e.2 hh
    exact absurd (Nat.lt_of_lt_of_le g1 hS.2.1) (Nat.lt_irrefl _)
/-! fields -/
/-- what an instruction that names a field links: kind k's field number j -/
def xF (own : String) (idx k j : Nat) : Prop := ∃ (C : String) (T : u_T) (N : Nat) (ref : String), xk[k]? = some (.inl (C, T, N)) ∧ j < N ∧ (Cond.fieldLink own idx ref (T j).2.1 (T j).2.2.1 ∈ xT ∨ ∃ host, Cond.fieldLinkNest own idx ref (T j).2.1 (T j).2.2.1 host ∈ xT) ∧ (ref = (T j).1 ∨ Cond.sameField ref (T j).1 (T j).2.1 (T j).2.2.1 ∈ xT)
/-- the type of a field that isn't final; of one that is -/
def xP (k j : Nat) (fin : Bool) (ty : FieldType) : Prop := ∃ (C : String) (T : u_T) (N : Nat), xk[k]? = some (.inl (C, T, N)) ∧ (T j).2.2.2 = fin ∧ parseFieldDescriptor (T j).2.2.1 = some ty
theorem x_get {a k j idx : Nat} {vs : List Value} {v : Value} (hx : xF M.1.cls idx k j) (ha : xr G h a k vs) (hv : vs[j]? = some v) (hd : decode M.2.1 pc = .ok (.getfield idx, 3)) (kk : XW l G M d (pc + 3) L (v :: rest) h c n P) : XW l G M d pc L (.ref a :: rest) h c n P := by
  intro p e R s m args below meth cd H locs cells slots ls hF hR hl hL hV hS hN
  obtain ⟨C, T, N, ref, hk, hj, hlk, hsm⟩ := hx
  have hts := hV.ts args
  obtain ⟨cell, g1, g2, -, g3⟩ := xr_cell ha hV hS
  obtain ⟨hSl, hfc, kC, hkC, hkind⟩ := (hV.1 k _ hk : u_Kn s C T N (G.1.1 k) (G.1.2 k))
  obtain ⟨cf, kf, fi, f, hi, hsl⟩ := hSl j hj
  have hi' : s.fieldFound? ref (T j).2.1 (T j).2.2.1 = some (cf, kf, fi, f) := by
    rcases hsm with rfl | hsm
    · exact hi
    · exact u_same (hts _ hsm) _ hi
  have hst := (u_facts hfc hkC (u_lays hts (xk_lay hk) hj) hi).1
  have hv' : cell.slots[f.slot]? = some v := by rw [hsl]; exact (g3.2.1 j v hv).2
  rcases hlk with hlk | ⟨host, hlk⟩
  · exact W.getf hF.1 hF.2.1 hF.2.2.2.2.1 (hts _ hlk) hi' hst g1 g2 (v := v) hv' rfl rfl hd (kk p e R s m args below meth cd H locs cells slots ls hF hR hl hL hV hS hN)
  · exact va_Wgetf hF.1 hF.2.1 hF.2.2.2.2.1 (hts _ hlk) hi' hst g1 g2 (v := v) hv' rfl rfl hd (kk p e R s m args below meth cd H locs cells slots ls hF hR hl hL hV hS hN)
theorem xcell_set {D : va_G} {s : State} {args : Array Value} {cell : Cell} {k j : Nat} {vs : List Value} {v v0 : Value} {C : String} {T : u_T} {N : Nat} (hts : ∀ w ∈ xT, w.before args s = true) (hK : xK D s) (hk : xk[k]? = some (.inl (C, T, N))) (hj : j < N) (g3 : xcell D k vs cell) (h0 : vs[j]? = some v0) : xcell D k (vs.set j v) (cell.setSlot (D.2 k j) v) := by
  have hnk : xN k = N := by unfold xN; rw [hk]
  have hak : xarr k = false := by unfold xarr; rw [hk]
  have hap : ∀ x y, x < N → y < N → x ≠ y → (D.2 k) x ≠ (D.2 k) y := by
    intro x y hx hy hne
    obtain ⟨hS, -⟩ := (hK k _ hk : u_Kn s C T N (D.1 k) (D.2 k))
    obtain ⟨_, _, _, fa, hia, ea⟩ := hS x hx
    obtain ⟨_, _, _, fb, hib, eb⟩ := hS y hy
    rw [← ea, ← eb]
    refine u_apart (u_lays hts (xk_lay hk) hx) (u_lays hts (xk_lay hk) hy) hia hib ?_
    obtain ⟨ty, hty⟩ := xk_ty hk x hx
    obtain ⟨ty', hty'⟩ := xk_ty hk y hy
    rw [(State.fieldFound?_type hia hty).1, (State.fieldFound?_type hib hty').1]
    exact xk_nm hk x hx y hy hne
  have hjl : j < vs.length := (List.getElem?_eq_some_iff.mp h0).1
  refine ⟨g3.1, fun i w hw => ?_, fun q => by rw [hak] at q; cases q⟩
  by_cases hij : i = j
  · subst hij
    rw [List.getElem?_set_self hjl] at hw
    cases hw
    exact ⟨Or.inr (by rw [hnk]; exact hj), Cell.slots_setSlot_self _ (k2_hasslot (g3.2.1 i v0 h0).2)⟩
  · rw [List.getElem?_set_ne (Ne.symm hij)] at hw
    obtain ⟨q1, q2⟩ := g3.2.1 i w hw
    have hi : i < N := by
      rcases q1 with q | q
      · rw [hak] at q; cases q
      · rw [hnk] at q; exact q
    exact ⟨q1, by rw [slot_ne _ _ (hap j i hj hi (Ne.symm hij))]; exact q2⟩
theorem x_put {a k j idx : Nat} {vs vs' : List Value} {v v0 : Value} {ty : FieldType} (hx : xF M.1.cls idx k j) (hp : xP k j false ty) (hn : narrow ty v = v) (hf : fits ty v = true) (ha : h a = some (k, vs)) (h0 : vs[j]? = some v0) (hs : vs.set j v = vs') (hd : decode M.2.1 pc = .ok (.putfield idx, 3)) (kk : XW l G M d (pc + 3) L rest (xup h a (k, vs')) c n P) : XW l G M d pc L (v :: .ref a :: rest) h c n P := by
  intro p e R s m args below meth cd H locs cells slots ls hF hR hl hL hV hS hN
  subst hs
  obtain ⟨C, T, N, ref, hk, hj, hlk, hsm⟩ := hx
  obtain ⟨C', T', N', hk', hfin, hpt⟩ := hp
  cases hk.symm.trans hk'
  have hts := hV.ts args
  obtain ⟨ga, cell, g1, g2, g3⟩ := hS.1 a k vs ha
  obtain ⟨hSl, hfc, kC, hkC, hkind⟩ := (hV.1 k _ hk : u_Kn s C T N (G.1.1 k) (G.1.2 k))
  obtain ⟨cf, kf, fi, f, hi, hsl⟩ := hSl j hj
  have hi' : s.fieldFound? ref (T j).2.1 (T j).2.2.1 = some (cf, kf, fi, f) := by
    rcases hsm with rfl | hsm
    · exact hi
    · exact u_same (hts _ hsm) _ hi
  have hlay := hts _ (xk_lay hk _ (u_in_lay hj))
  unfold u_lay at hlay
  rw [if_neg (by rw [hfin]; decide)] at hlay
  have hst := (u_facts hfc hkC (u_lays hts (xk_lay hk) hj) hi).1
  have h6 := u_store hfc hkC hkind hlay hi hpt hn hf
  have hlt : f.slot < cell.slots.size := by rw [hsl]; exact k2_hasslot (g3.2.1 j v0 h0).2
  have fin : ∀ H' : Heap, H'[a]? = some (cell.setSlot f.slot v) → H'.size = H.size → (∀ q, q ≠ a → H'[q]? = H[q]?) → W p l e R s m args below meth cd H' (locs ++ [⟨a, f.slot⟩]) cells slots (MQ below (xQ G P) args s R.cells R.slots (xA G)) (F0 m (pc + 3) ls rest) := by
    intro H' e1 e2 e3
    rw [hsl] at e1 ⊢
    exact kk p e R s m args below meth cd H' _ cells slots ls hF hR hl hL (hV.put ga e3) (hS.put ha g1 e1 e2 e3 (k2_slotsz _ _ _) g2 (xcell_set hts hV.1 hk hj g3 h0)) (va_S.put1 hN ga e2 e3)
  rcases hlk with hlk | ⟨host, hlk⟩
  · exact W.putK hF.1 hF.2.1 (f := f) ⟨hF.2.2.2.2.1, hts _ hlk, ⟨_, _, _, hi'⟩, hst⟩ (by rw [g3.1]; exact h6) g1 g2 hlt rfl rfl hd fin
  · exact va_WputK hF.1 hF.2.1 (f := f) hF.2.2.2.2.1 (hts _ hlk) hi' hst (by rw [g3.1]; exact h6) g1 g2 hlt rfl rfl hd fin
theorem x_putF {a k j idx : Nat} {vs vs' : List Value} {v v0 : Value} {ty : FieldType} (hx : xF M.1.cls idx k j) (hp : xP k j true ty) (hdc : ∃ (C : String) (T : u_T) (N : Nat), xk[k]? = some (.inl (C, T, N)) ∧ (T j).1 = M.1.cls ∧ Cond.fieldLink M.1.cls idx (T j).1 (T j).2.1 (T j).2.2.1 ∈ xT) (hin : M.1.name = "<init>") (hn : narrow ty v = v) (hf : fits ty v = true) (ha : h a = some (k, vs)) (h0 : vs[j]? = some v0) (hs : vs.set j v = vs') (hd : decode M.2.1 pc = .ok (.putfield idx, 3)) (kk : XW l G M d (pc + 3) L rest (xup h a (k, vs')) c n P) : XW l G M d pc L (v :: .ref a :: rest) h c n P := by
  intro p e R s m args below meth cd H locs cells slots ls hF hR hl hL hV hS hN
  subst hs
  obtain ⟨C, T, N, ref, hk, hj, -, -⟩ := hx
  obtain ⟨C', T', N', hk', hfin, hpt⟩ := hp
  cases hk.symm.trans hk'
  obtain ⟨C'', T'', N'', hk'', hdecl, hlk⟩ := hdc
  cases hk.symm.trans hk''
  have hts := hV.ts args
  obtain ⟨ga, cell, g1, g2, g3⟩ := hS.1 a k vs ha
  obtain ⟨hSl, hfc, kC, hkC, hkind⟩ := (hV.1 k _ hk : u_Kn s C T N (G.1.1 k) (G.1.2 k))
  obtain ⟨cf, kf, fi, f, hi, hsl⟩ := hSl j hj
  have hlay := hts _ (xk_lay hk _ (u_in_lay hj))
  unfold u_lay at hlay
  rw [if_pos hfin] at hlay
  have hst := (u_facts hfc hkC (u_lays hts (xk_lay hk) hj) hi).1
  have hcf : m.cls = cf := by
    obtain ⟨_, _, c', _, _, _, -, -, hf', -, -, -, hown2, -⟩ := Cond.laysFinal_spec hlay
    have e1 : c' = cf := by have := hi.symm.trans hf'; simp at this; exact this.1.symm
    rw [hdecl] at hown2
    rw [← e1]; exact Option.some.inj (hF.2.2.2.2.1.symm.trans hown2)
  have h6 := u_fits hfc hkC hkind (Or.inr hlay) hi hpt hn hf
  have hlt : f.slot < cell.slots.size := by rw [hsl]; exact k2_hasslot (g3.2.1 j v0 h0).2
  refine W.putFinK hF.1 hF.2.1 hF.2.2.2.2.1 (hts _ hlk) hi hst hcf (hF.2.2.2.2.2.2.trans hin) (by rw [g3.1]; exact h6) g1 g2 hlt rfl rfl hd fun H' e1 e2 e3 => ?_
  rw [hsl] at e1 ⊢
  exact kk p e R s m args below meth cd H' _ cells slots ls hF hR hl hL (hV.put ga e3) (hS.put ha g1 e1 e2 e3 (k2_slotsz _ _ _) g2 (xcell_set hts hV.1 hk hj g3 h0)) (va_S.put1 hN ga e2 e3)
/-- what 'new' links: kind k, how many slots, the fields' first values -/
def xNw (own : String) (idx k z : Nat) (vs : List Value) : Prop := ∃ (C : String) (T : u_T) (N : Nat), xk[k]? = some (.inl (C, T, N)) ∧ vs.length = N ∧ (∀ j, j < N → (parseFieldDescriptor (T j).2.2.1).map defaultValue = vs[j]?) ∧ Cond.classLink own idx C ∈ xT ∧ Cond.instantiable C z ∈ xT ∧ Cond.initialized C ∈ xT
theorem x_new {k z idx : Nat} {vs : List Value} (hx : xNw M.1.cls idx k z vs) (hc : c + 1 ≤ xCB) (hn : n + z ≤ xSB) (hd : decode M.2.1 pc = .ok (.new idx, 3)) (kk : ∀ q : Nat, h q = none → G.2.2.1 q = none → XW l G M d (pc + 3) L (.ref q :: rest) (xup h q (k, vs)) (c + 1) (n + z) P) : XW l G M d pc L rest h c n P := by
  intro p e R s m args below meth cd H locs cells slots ls hF hR hl hL hV hS hN
  obtain ⟨C, T, N, hk, hlen, hdef, h1, h2, h3⟩ := hx
  have hts := hV.ts args
  have hKn := (hV.1 k _ hk : u_Kn s C T N (G.1.1 k) (G.1.2 k))
  obtain ⟨r1, r2, r3, r4, r5⟩ := hR
  obtain ⟨s1, s2, s3, s4, s5, s6⟩ := hS
  refine x_mono r5 fun m1 m2 => ?_
  refine x_tight (k := R.cells - 1) (j := R.slots - z) r5 (by rw [r3]; omega) (by rw [r4]; omega) ?_
  refine W.newc hF.1 hF.2.1 hF.2.2.2.2.1 (hts _ h1) (hts _ h2) (hts _ h3) rfl hd (by rw [r3]; omega) (by rw [r4]; omega) fun cC kC f1 f2 f3 f4 => ?_
  have hcC : cC = G.1.1 k := Option.some.inj (f1.symm.trans hKn.2.1)
  subst hcC
  have hnk : xN k = N := by unfold xN; rw [hk]
  have hak : xarr k = false := by unfold xarr; rw [hk]
  have hb : t_OB H.size (G.1.1 k) N (G.1.2 k) (H.push { cls := G.1.1 k, slots := kC.instanceTypes.map defaultValue, vm := .none }) (fun j => defaultValue ((parseFieldDescriptor (T j).2.2.1).getD .int)) := by
    refine u_born (fun j => (parseFieldDescriptor (T j).2.2.1).getD .int) hts (xk_lay hk) hKn f2 Array.getElem?_push_size (fun j hj => ?_)
    obtain ⟨ty, hty⟩ := xk_ty hk j hj
    rw [hty]; rfl
  obtain ⟨cell, b1, b2, b3, b4⟩ := hb
  rw [Array.getElem?_push_size] at b1
  cases b1
  have hcell : xcell G.1 k vs { cls := G.1.1 k, slots := kC.instanceTypes.map defaultValue, vm := .none } := by
    refine ⟨rfl, fun j v hv => ?_, fun q => by rw [hak] at q; cases q⟩
    have hj : j < N := by rw [← hlen]; exact (List.getElem?_eq_some_iff.mp hv).1
    refine ⟨Or.inr (by rw [hnk]; exact hj), ?_⟩
    rw [b4 j hj]
    have hdj := hdef j hj
    obtain ⟨ty, hty⟩ := xk_ty hk j hj
    rw [hv, hty] at hdj
    dsimp only
    rw [hty]
    exact hdj
  obtain ⟨hS', hno⟩ := xS.new (k := k) (z := z) (vs := vs) (cell := { cls := G.1.1 k, slots := kC.instanceTypes.map defaultValue, vm := .none }) ⟨s1, s2, s3, s4, s5, s6⟩ rfl (by simp [f4]) hcell hc hn
  exact kk H.size hno (xkh.none hV ⟨s1, s2, s3, s4, s5, s6⟩) p e R s m args below meth cd _ locs _ _ ls hF ⟨r1, r2, r3, r4, r5⟩ hl hL hV.new hS' (va_S.new hN)
/-! arrays -/
theorem xarr_of {k : Nat} {ty : FieldType} (hk : xk[k]? = some (.inr ty)) : xarr k = true := by unfold xarr; rw [hk]
theorem xarr_ok {s : State} {k : Nat} {ty : FieldType} {D : va_G} {cell : Cell} {vs : List Value} (hK : xK D s) (hk : xk[k]? = some (.inr ty)) (hc : xcell D k vs cell) (hs : cell.vm.isStatics = false) : s.isArrayOf cell ty := by
  obtain ⟨h1, -, -⟩ := (hK k _ hk : ArrOfT s (D.1 k) ty ∧ va_RA s (D.1 k) ty ∧ ∀ j : Nat, D.2 k j = j)
  obtain ⟨-, h2⟩ := h1 0 (fun _ => .null)
  rw [← hc.1] at h2
  exact ⟨fun q hq => (by rw [hq] at hs; cases hs), h2⟩
theorem xarr_at {s : State} {k j : Nat} {ty : FieldType} {D : va_G} {cell : Cell} {vs : List Value} {v : Value} (hK : xK D s) (hk : xk[k]? = some (.inr ty)) (hc : xcell D k vs cell) (hv : vs[j]? = some v) : cell.slots[j]? = some v := by
  obtain ⟨-, -, h3⟩ := (hK k _ hk : ArrOfT s (D.1 k) ty ∧ va_RA s (D.1 k) ty ∧ ∀ j : Nat, D.2 k j = j)
  have := (hc.2.1 j v hv).2
  rwa [h3 j] at this
theorem xarr_sz {k : Nat} {ty : FieldType} {D : va_G} {cell : Cell} {vs : List Value} (hk : xk[k]? = some (.inr ty)) (hc : xcell D k vs cell) : cell.slots.size = vs.length := hc.2.2 (xarr_of hk)
theorem xarr_in {i : Int32} {vs : List Value} {v : Value} (h0 : ¬ i < 0) (hv : vs[i.toNatClampNeg]? = some v) {cell : Cell} (hz : cell.slots.size = vs.length) : ¬ (i < 0 ∨ cell.slots.size ≤ i.toNatClampNeg) := by
  rintro (q | q)
  · exact h0 q
  · have := (List.getElem?_eq_some_iff.mp hv).1
    omega
theorem xarr_set {s : State} {k j : Nat} {ty : FieldType} {D : va_G} {cell : Cell} {vs : List Value} {v v0 : Value} (hK : xK D s) (hk : xk[k]? = some (.inr ty)) (hc : xcell D k vs cell) (h0 : vs[j]? = some v0) : xcell D k (vs.set j v) (cell.setSlot j v) := by
  have h3 := (hK k _ hk : ArrOfT s (D.1 k) ty ∧ va_RA s (D.1 k) ty ∧ ∀ j : Nat, D.2 k j = j).2.2
  have hjl : j < vs.length := (List.getElem?_eq_some_iff.mp h0).1
  refine ⟨hc.1, fun i w hw => ⟨Or.inl (xarr_of hk), ?_⟩, fun q => by rw [k2_slotsz, hc.2.2 q, List.length_set]⟩
  rw [h3 i]
  by_cases hij : i = j
  · subst hij
    rw [List.getElem?_set_self hjl] at hw
    cases hw
    exact Cell.slots_setSlot_self _ (k2_hasslot (xarr_at hK hk hc h0))
  · rw [List.getElem?_set_ne (Ne.symm hij)] at hw
    rw [slot_ne _ _ (Ne.symm hij)]
    exact xarr_at hK hk hc hw
theorem x_alen {a k : Nat} {vs : List Value} {ty : FieldType} {v : Int32} (hk : xk[k]? = some (.inr ty)) (ha : xr G h a k vs) (hv : Int32.ofNat vs.length = v) (hd : decode M.2.1 pc = .ok (.arraylength, 1)) (kk : XW l G M d (pc + 1) L (.int v :: rest) h c n P) : XW l G M d pc L (.ref a :: rest) h c n P := by
  intro p e R s m args below meth cd H locs cells slots ls hF hR hl hL hV hS hN
  obtain ⟨cell, g1, g2, g2', g3⟩ := xr_cell ha hV hS
  exact W.alen hF.1 hF.2.1 g1 (xarr_ok hV.1 hk g3 g2') (by rw [xarr_sz hk g3]; exact hv) rfl rfl hd (kk p e R s m args below meth cd H locs cells slots ls hF hR hl hL hV hS hN)
theorem x_iald {a k : Nat} {vs : List Value} {i : Int32} {v : Value} (hk : xk[k]? = some (.inr .int)) (ha : xr G h a k vs) (h0 : ¬ i < 0) (hv : vs[i.toNatClampNeg]? = some v) (hd : decode M.2.1 pc = .ok (.iaload, 1)) (kk : XW l G M d (pc + 1) L (v :: rest) h c n P) : XW l G M d pc L (.int i :: .ref a :: rest) h c n P := by
  intro p e R s m args below meth cd H locs cells slots ls hF hR hl hL hV hS hN
  obtain ⟨cell, g1, g2, g2', g3⟩ := xr_cell ha hV hS
  exact W.iald hF.1 hF.2.1 g1 (xarr_ok hV.1 hk g3 g2') g2 (xarr_in h0 hv (xarr_sz hk g3)) (xarr_at hV.1 hk g3 hv) rfl rfl hd (kk p e R s m args below meth cd H locs cells slots ls hF hR hl hL hV hS hN)
theorem x_bald {a k : Nat} {vs : List Value} {i : Int32} {v : Value} (hk : xk[k]? = some (.inr .byte)) (ha : xr G h a k vs) (h0 : ¬ i < 0) (hv : vs[i.toNatClampNeg]? = some v) (hd : decode M.2.1 pc = .ok (.baload, 1)) (kk : XW l G M d (pc + 1) L (v :: rest) h c n P) : XW l G M d pc L (.int i :: .ref a :: rest) h c n P := by
  intro p e R s m args below meth cd H locs cells slots ls hF hR hl hL hV hS hN
  obtain ⟨cell, g1, g2, g2', g3⟩ := xr_cell ha hV hS
  exact W.bald hF.1 hF.2.1 g1 (xarr_ok hV.1 hk g3 g2') g2 (xarr_in h0 hv (xarr_sz hk g3)) (xarr_at hV.1 hk g3 hv) rfl rfl hd (kk p e R s m args below meth cd H locs cells slots ls hF hR hl hL hV hS hN)
theorem x_zald {a k : Nat} {vs : List Value} {i : Int32} {v : Value} (hk : xk[k]? = some (.inr .boolean)) (ha : xr G h a k vs) (h0 : ¬ i < 0) (hv : vs[i.toNatClampNeg]? = some v) (hd : decode M.2.1 pc = .ok (.baload, 1)) (kk : XW l G M d (pc + 1) L (v :: rest) h c n P) : XW l G M d pc L (.int i :: .ref a :: rest) h c n P := by
  intro p e R s m args below meth cd H locs cells slots ls hF hR hl hL hV hS hN
  obtain ⟨cell, g1, g2, g2', g3⟩ := xr_cell ha hV hS
  exact W.zald hF.1 hF.2.1 g1 (xarr_ok hV.1 hk g3 g2') g2 (xarr_in h0 hv (xarr_sz hk g3)) (xarr_at hV.1 hk g3 hv) rfl rfl hd (kk p e R s m args below meth cd H locs cells slots ls hF hR hl hL hV hS hN)
theorem x_cald {a k : Nat} {vs : List Value} {i : Int32} {v : Value} (hk : xk[k]? = some (.inr .char)) (ha : xr G h a k vs) (h0 : ¬ i < 0) (hv : vs[i.toNatClampNeg]? = some v) (hd : decode M.2.1 pc = .ok (.caload, 1)) (kk : XW l G M d (pc + 1) L (v :: rest) h c n P) : XW l G M d pc L (.int i :: .ref a :: rest) h c n P := by
  intro p e R s m args below meth cd H locs cells slots ls hF hR hl hL hV hS hN
  obtain ⟨cell, g1, g2, g2', g3⟩ := xr_cell ha hV hS
  exact W.cald hF.1 hF.2.1 g1 (xarr_ok hV.1 hk g3 g2') g2 (xarr_in h0 hv (xarr_sz hk g3)) (xarr_at hV.1 hk g3 hv) rfl rfl hd (kk p e R s m args below meth cd H locs cells slots ls hF hR hl hL hV hS hN)
theorem x_lald {a k : Nat} {vs : List Value} {i : Int32} {v : Value} (hk : xk[k]? = some (.inr .long)) (ha : xr G h a k vs) (h0 : ¬ i < 0) (hv : vs[i.toNatClampNeg]? = some v) (hd : decode M.2.1 pc = .ok (.laload, 1)) (kk : XW l G M d (pc + 1) L (v :: rest) h c n P) : XW l G M d pc L (.int i :: .ref a :: rest) h c n P := by
  intro p e R s m args below meth cd H locs cells slots ls hF hR hl hL hV hS hN
  obtain ⟨cell, g1, g2, g2', g3⟩ := xr_cell ha hV hS
  exact W.lald hF.1 hF.2.1 g1 (xarr_ok hV.1 hk g3 g2') g2 (xarr_in h0 hv (xarr_sz hk g3)) (xarr_at hV.1 hk g3 hv) rfl rfl hd (kk p e R s m args below meth cd H locs cells slots ls hF hR hl hL hV hS hN)
theorem x_aald {a k : Nat} {vs : List Value} {i : Int32} {v : Value} {ty : FieldType} (hk : xk[k]? = some (.inr ty)) (hty : ty.isReference = true) (ha : xr G h a k vs) (h0 : ¬ i < 0) (hv : vs[i.toNatClampNeg]? = some v) (hd : decode M.2.1 pc = .ok (.aaload, 1)) (kk : XW l G M d (pc + 1) L (v :: rest) h c n P) : XW l G M d pc L (.int i :: .ref a :: rest) h c n P := by
  intro p e R s m args below meth cd H locs cells slots ls hF hR hl hL hV hS hN
  obtain ⟨cell, g1, g2, g2', g3⟩ := xr_cell ha hV hS
  exact W.aald hF.1 hF.2.1 g1 (xarr_ok hV.1 hk g3 g2') hty g2 (xarr_in h0 hv (xarr_sz hk g3)) (xarr_at hV.1 hk g3 hv) rfl rfl hd (kk p e R s m args below meth cd H locs cells slots ls hF hR hl hL hV hS hN)
theorem x_iast {a k : Nat} {vs : List Value} {i : Int32} {x : Int32} {v0 : Value} (hk : xk[k]? = some (.inr .int)) (ha : h a = some (k, vs)) (h0 : ¬ i < 0) (hv : vs[i.toNatClampNeg]? = some v0) (hd : decode M.2.1 pc = .ok (.iastore, 1)) (kk : XW l G M d (pc + 1) L rest (xup h a (k, vs.set i.toNatClampNeg (.int x))) c n P) : XW l G M d pc L (.int x :: .int i :: .ref a :: rest) h c n P := by
  intro p e R s m args below meth cd H locs cells slots ls hF hR hl hL hV hS hN
  obtain ⟨ga, cell, g1, g2, g3⟩ := hS.1 a k vs ha
  have g2' : cell.vm.isStatics = false := by rw [g2]; rfl
  refine W.iast hF.1 hF.2.1 g1 (xarr_ok hV.1 hk g3 g2') (by rw [g2]; exact fun q => (by cases q)) (xarr_in h0 hv (xarr_sz hk g3)) rfl rfl hd fun H' e1 e2 e3 => ?_
  exact kk p e R s m args below meth cd H' _ cells slots ls hF hR hl hL (hV.put ga e3) (hS.put ha g1 e1 e2 e3 (k2_slotsz _ _ _) g2 (xarr_set hV.1 hk g3 hv)) (va_S.put1 hN ga e2 e3)
theorem x_last {a k : Nat} {vs : List Value} {i : Int32} {x : Int64} {v0 : Value} (hk : xk[k]? = some (.inr .long)) (ha : h a = some (k, vs)) (h0 : ¬ i < 0) (hv : vs[i.toNatClampNeg]? = some v0) (hd : decode M.2.1 pc = .ok (.lastore, 1)) (kk : XW l G M d (pc + 1) L rest (xup h a (k, vs.set i.toNatClampNeg (.long x))) c n P) : XW l G M d pc L (.long x :: .int i :: .ref a :: rest) h c n P := by
  intro p e R s m args below meth cd H locs cells slots ls hF hR hl hL hV hS hN
  obtain ⟨ga, cell, g1, g2, g3⟩ := hS.1 a k vs ha
  have g2' : cell.vm.isStatics = false := by rw [g2]; rfl
  refine W.last hF.1 hF.2.1 g1 (xarr_ok hV.1 hk g3 g2') (by rw [g2]; exact fun q => (by cases q)) (xarr_in h0 hv (xarr_sz hk g3)) rfl rfl hd fun H' e1 e2 e3 => ?_
  exact kk p e R s m args below meth cd H' _ cells slots ls hF hR hl hL (hV.put ga e3) (hS.put ha g1 e1 e2 e3 (k2_slotsz _ _ _) g2 (xarr_set hV.1 hk g3 hv)) (va_S.put1 hN ga e2 e3)
/-- a new array of numbers -/
theorem x_newa {k : Nat} {atype : ArrayType} {ty : FieldType} {i : Int32} {z : Nat} (hk : xk[k]? = some (.inr ty)) (hty : newarray.typeOf atype = ty) (hno : ∀ C, ty ≠ .object C) (hw : Cond.arrayClass ty ∈ xT) (h0 : ¬ i < 0) (hz : i.toNatClampNeg = z) (hb : z * componentBytes ty ≤ 536870912) (hc : c + 1 ≤ xCB) (hn : n + z ≤ xSB) (hd : decode M.2.1 pc = .ok (.newarray atype, 2))
    (kk : ∀ q : Nat, h q = none → G.2.2.1 q = none → XW l G M d (pc + 2) L (.ref q :: rest) (xup h q (k, List.replicate z (defaultValue ty))) (c + 1) (n + z) P) : XW l G M d pc L (.int i :: rest) h c n P := by
  intro p e R s m args below meth cd H locs cells slots ls hF hR hl hL hV hS hN
  subst hty
  subst hz
  have hts := hV.ts args
  obtain ⟨q1, q2, q3⟩ := (hV.1 k _ hk : ArrOfT s (G.1.1 k) (newarray.typeOf atype) ∧ va_RA s (G.1.1 k) (newarray.typeOf atype) ∧ ∀ j : Nat, G.1.2 k j = j)
  obtain ⟨r1, r2, r3, r4, r5⟩ := hR
  obtain ⟨s1, s2, s3, s4, s5, s6⟩ := hS
  refine x_mono r5 fun m1 m2 => ?_
  refine x_tight (k := R.cells - 1) (j := R.slots - i.toNatClampNeg) r5 (by rw [r3]; omega) (by rw [r4]; omega) ?_
  refine W.newa hF.1 hF.2.1 (hts _ hw) rfl hd rfl h0 hb (by rw [r3]; omega) (by rw [r4]; omega) fun cA kA comp f1 f2 f3 => ?_
  have hcA : s.vm.findClass ("[" ++ (newarray.typeOf atype).toString) = some (G.1.1 k) := by
    revert q2 hno
    generalize newarray.typeOf atype = ty
    intro hno q2
    cases ty <;> first | exact q2 | exact absurd rfl (hno _)
  have hcC : cA = G.1.1 k := Option.some.inj (f1.symm.trans hcA)
  subst hcC
  have hcell : xcell G.1 k (List.replicate i.toNatClampNeg (defaultValue (newarray.typeOf atype))) { cls := G.1.1 k, slots := Array.replicate i.toNatClampNeg (defaultValue (newarray.typeOf atype)), vm := .none } := by
    refine ⟨rfl, fun j v hv => ⟨Or.inl (xarr_of hk), ?_⟩, fun _ => by simp⟩
    rw [q3 j]
    rw [List.getElem?_replicate] at hv
    simp only [Array.getElem?_replicate]
    exact hv
  obtain ⟨hS', hno'⟩ := xS.new (k := k) (z := i.toNatClampNeg) (cell := { cls := G.1.1 k, slots := Array.replicate i.toNatClampNeg (defaultValue (newarray.typeOf atype)), vm := .none }) ⟨s1, s2, s3, s4, s5, s6⟩ rfl (by simp) hcell hc hn
  exact kk H.size hno' (xkh.none hV ⟨s1, s2, s3, s4, s5, s6⟩) p e R s m args below meth cd _ locs _ _ ls hF ⟨r1, r2, r3, r4, r5⟩ hl hL hV.new hS' (va_S.new hN)
end XHP
end
section
section XCL
variable {l : Launch} {G : XG} {M : XMt} {d pc : Nat} {L : List (Option Value)} {rest : List Value} {h : XH} {c n : Nat} {P : Option Value → XH → Nat → Nat → Prop}
theorem xNw_warm {w : Cond} (hT : w ∈ xT) {s U : State} (hW : s.WarmedH U.vm) (h : va_Nw w s) : va_Nw w U := by
  rcases (xT_or hT).symm with (⟨ty, rfl⟩ | ⟨C, rfl⟩) | ⟨-, hg⟩
  · exact word_at hW (Or.inr ⟨_, rfl⟩) h
  · exact va_AO.moved hW.alike h
  unfold xgw at hg
  rcases Bool.or_eq_true_iff.mp hg with hg | hg
  · exact word_at hW (Or.inl hg) h
  · split at hg
    · exact word_at hW (Or.inr ⟨_, rfl⟩) h
    · exact va_Nw.warmF hW h
    · exact va_Nw.warmM hW h
    · exact va_Nw.warmD hW h
    · exact va_Nw.warmC hW h
    · exact va_AO.moved hW.alike h
    · cases hg
theorem xK.moved {D : va_G} {u U : State} (hvm : u.vm.Alike U.vm) (hK : xK D u) : xK D U := by
  intro k r hr
  have h1 := hK k r hr
  cases r with
  | inl q => exact u_Kn_moved hvm h1
  | inr ty => exact ⟨arrOfT_moved hvm h1.1, h1.2.1.moved hvm, h1.2.2⟩
theorem xV.warm {s U : State} {H : Heap} (hW : s.WarmedH U.vm) (hV : xV G s H) : xV G U H :=
  ⟨hV.1.moved hW.alike, fun w hw => xNw_warm hw hW (hV.2.1 w hw), ⟨fun q hq => (hV.2.2.1.1 q hq).warm hW, hV.2.2.1.2.moved hW.alike⟩, fun q hq => (hV.2.2.2.1 q hq).moved hW.alike, hV.2.2.2.2⟩
theorem xV.same {s U : State} {H : Heap} (hv : s.vm = U.vm) (hV : xV G s H) : xV G U H := by
  have hA : s.vm.Alike U.vm := by rw [hv]; exact Vm.Alike.refl _
  exact ⟨hV.1.moved hA, fun w hw => xT_same hw hv (hV.2.1 w hw), ⟨fun q hq => (hV.2.2.1.1 q hq).same hv.symm, hV.2.2.1.2.moved hA⟩, fun q hq => (hV.2.2.2.1 q hq).moved hA, hV.2.2.2.2⟩
theorem xPre.blind {c0 n0 : Nat} {av : List Value} : FrameBlind (va_Pc av (xPre G h c n c0 n0)) := by
  intro a U g mk hq
  obtain ⟨q0, q1, q2, q3, q4⟩ := hq
  exact ⟨q0, q1, q2, xV.same (s := U) (U := U.calling g mk a) rfl q3, q4⟩
theorem xPre.at {s U : State} {H : Heap} {av : List Value} (hV : xV G s H) (hS : xS G h c n H) (hU : U.heap = H) (hW : s.WarmedH U.vm) : va_Pc av (xPre G h c n (H.size - G.2.1) (xU G.2.1 H)) av.toArray U :=
  ⟨rfl, by rw [hU]; have := hS.2.1; omega, by rw [hU], by rw [hU]; exact hV.warm hW, by rw [hU]; exact hS⟩
/-- behind a call -/
theorem x_cont {p : Program} {e : Env} {R : Room} {s : State} {m : MethodId} {args a : Array Value} {below : List Frame} {meth : Method} {cd : Code} {H : Heap} {locs : List Loc} {cells slots mc ms : Nat} {Q : State → Prop} {ls : Array Slot} {st0 : List Value} {P' : Option Value → XH → Nat → Nat → Prop}
    (hr : va_Run p l e R s m args below meth cd H locs cells slots mc ms (F0 m pc ls st0) rest (xQ G P' a) (xA G)) (hN : va_S (xA G) s.heap H locs)
    (kk : ∀ (v : Option Value) (h' : XH) (c' n' : Nat) (H1 : Heap) (locs1 : List Loc), P' v h' c' n' → xS G h' c' n' H1 → va_S (xA G) s.heap H1 locs1 → (∀ q : Nat, q < H.size → ¬ xA G q → H1[q]? = H[q]?) → W p l e R s m args below meth cd H1 locs1 (cells + mc) (slots + ms) Q (F0 m (pc + 3) ls (v.toList ++ rest))) : W p l e R s m args below meth cd H locs cells slots Q (F0 m pc ls st0) := by
  intro T hT X
  obtain ⟨v, st₀, t, T', L, h0, X', hL, e1, e2, ⟨⟨v', h', c', n', hv, hp, hb⟩, hz, hk⟩, st⟩ := hr T hT X
  cases hv
  rw [h0] at hz hk
  obtain ⟨t2, a1, b1⟩ := kk v h' c' n' T'.heap (locs ++ L) hp (by rw [e1]; exact hb)
    ⟨Nat.le_trans hN.1 (by rw [e1]; exact hz), fun q h1 h2 => by rw [e1, hk q (Nat.lt_of_lt_of_le h1 hN.1) h2]; exact hN.2.1 q h1 h2, fun q hq => by
      rcases List.mem_append.mp hq with h | h
      · exact hN.2.2 q h
      · exact hL q h⟩ (fun q h1 h2 => by rw [e1]; exact hk q h1 h2) T' rfl X'
  exact ⟨t2, st t2 a1, b1⟩
/-- what a callee's words are -/
def xcb (Mc : XMt) (nn : Nat) : Prop := Cond.code Mc.1 Mc.2.1 Mc.2.2.1 Mc.2.2.2 ∈ xT ∧ Cond.initialized Mc.1.cls ∈ xT ∧ Mc.2.2.1 ≤ 41 ∧ (Mc.1.cls ≠ "java/lang/invoke/MethodHandle" ∧ Mc.1.cls ≠ "java/lang/invoke/VarHandle" ∧ (parseMethodDescriptor Mc.1.desc).map (fun d => d.parameters.length) = some nn)
theorem xcb_good {Mc : XMt} {nn : Nat} (hx : xcb Mc nn) : GoodIn xT [Cond.code Mc.1 Mc.2.1 Mc.2.2.1 Mc.2.2.2] := by
  intro w hw
  rw [List.mem_singleton] at hw
  subst hw
  exact ⟨hx.1, Or.inl (by first | rfl | simp [Cond.onTables, Cond.keeps, Cond.steady])⟩
def xCS (own : String) (idx : Nat) (Mc : XMt) (nn : Nat) : Prop := xcb Mc nn ∧ Cond.static Mc.1 ∈ xT ∧ (Cond.methodLink own idx Mc.1 ∈ xT ∨ ∃ host, Cond.methodLinkNest own idx Mc.1 host ∈ xT)
theorem x_callS {Mc : XMt} {As st : List Value} {idx nn : Nat} {P' : Option Value → XH → Nat → Nat → Prop} (hx : xCS M.1.cls idx Mc nn) (hM : XM l G d Mc As h c n P') (hn : As.length = nn) (hst : st = As.reverse ++ rest) (hr : (rest.map fun v => v.category).sum ≤ 8) (hd : decode M.2.1 pc = .ok (.invokestatic idx, 3))
    (kk : ∀ (v : Option Value) (h' : XH) (c' n' : Nat), P' v h' c' n' → XW l G M (d + 1) (pc + 3) L (v.toList ++ rest) h' c' n' P) : XW l G M (d + 1) pc L st h c n P := by
  intro p e R s m args below meth cd H locs cells slots ls hF hR hl hL hV hS hN
  obtain ⟨hb, hsta, hlk⟩ := hx
  have hts := hV.ts args
  have hR0 := hR
  obtain ⟨r1, r2, r3, r4, r5⟩ := hR
  have hS0 := hS
  obtain ⟨s1, s2, s3, s4, s5, s6⟩ := hS
  have h41 := hb.2.2.1
  refine x_mono r5 fun m1 m2 => ?_
  refine x_tight (k := H.size - s.heap.size) (j := xU G.2.1 H - xU G.2.1 s.heap) r5 (by omega) (by omega) ?_
  have fin := fun (v : Option Value) (h' : XH) (c' n' : Nat) (H1 : Heap) (locs1 : List Loc) (hp : P' v h' c' n') (hS1 : xS G h' c' n' H1) (hN1 : va_S (xA G) s.heap H1 locs1) (hk1 : ∀ q : Nat, q < H.size → ¬ xA G q → H1[q]? = H[q]?) =>
    kk v h' c' n' hp p e R s m args below meth cd H1 locs1 (H.size - s.heap.size + (xCB - (H.size - G.2.1))) (xU G.2.1 H - xU G.2.1 s.heap + (xSB - xU G.2.1 H)) ls hF hR0 hl hL (hV.kept hk1) hS1 hN1
  have hp : PreS s H (va_Pc As (xPre G h c n (H.size - G.2.1) (xU G.2.1 H))) As := ⟨xPre.blind, fun U hU hW => xPre.at hV hS0 hU hW⟩
  have hf : H.size - s.heap.size + (xCB - (H.size - G.2.1)) ≤ R.cells ∧ xU G.2.1 H - xU G.2.1 s.heap + (xSB - xU G.2.1 H) ≤ R.slots := ⟨by rw [r3]; omega, by rw [r4]; omega⟩
  have hRR : (xRm d (H.size - G.2.1) (xU G.2.1 H)).frames + 1 ≤ R.frames ∧ 8 + (Mc.2.2.1 + 11) + (xRm d (H.size - G.2.1) (xU G.2.1 H)).locals ≤ R.locals := ⟨by rw [r1]; exact Nat.le_refl _, by rw [r2]; show 8 + (Mc.2.2.1 + 11) + (d * 60 + 11000) ≤ _; omega⟩
  rcases hlk with hlk | ⟨host, hlk⟩
  · exact x_cont (va_runS (Ts := xT) (bytes := Mc.2.1) (maxL := Mc.2.2.1) (ret := Mc.2.2.2) ⟨hF.1, hF.2.1, hF.2.2.1, hF.2.2.2.2.1, hts⟩ (hM (H.size - G.2.1) (xU G.2.1 H)) ⟨callB_of nn hts (xcb_good hb) rfl rfl rfl (hts _ hb.2.1) (hts _ hlk) hb.2.2.2 hRR, hts _ hsta⟩ hp rfl hn (hl.1.trans hL) hst (by show 2 * 0 + _ ≤ 8; omega) hd hf) hN fin
  · exact x_cont (va_runSN (Ts := xT) (bytes := Mc.2.1) (maxL := Mc.2.2.1) (ret := Mc.2.2.2) ⟨hF.1, hF.2.1, hF.2.2.1, hF.2.2.2.2.1, hts⟩ (hM (H.size - G.2.1) (xU G.2.1 H)) ⟨va_cnB nn hts (xcb_good hb) rfl rfl rfl (hV.2.1 _ hlk) (hts _ hb.2.1) hb.2.2.2 hRR, hts _ hsta, trivial⟩ hp rfl hn (hl.1.trans hL) hst (by show 2 * 0 + _ ≤ 8; omega) hd hf) hN fin
def xCI (own : String) (idx : Nat) (Mc : XMt) (nn : Nat) : Prop := xcb Mc nn ∧ Mc.2.2.2 = none ∧ Mc.1.name = "<init>" ∧ Cond.instanceMethod Mc.1 ∈ xT ∧ (Cond.methodLink own idx Mc.1 ∈ xT ∨ ∃ host, Cond.methodLinkNest own idx Mc.1 host ∈ xT)
theorem x_callI {Mc : XMt} {As st : List Value} {b idx nn : Nat} {P' : Option Value → XH → Nat → Nat → Prop} (hx : xCI M.1.cls idx Mc nn) (hM : XM l G d Mc (.ref b :: As) h c n P') (hn : As.length = nn) (hst : st = As.reverse ++ .ref b :: rest) (hr : (rest.map fun v => v.category).sum ≤ 8) (hd : decode M.2.1 pc = .ok (.invokespecial idx, 3))
    (kk : ∀ (v : Option Value) (h' : XH) (c' n' : Nat), P' v h' c' n' → XW l G M (d + 1) (pc + 3) L (v.toList ++ rest) h' c' n' P) : XW l G M (d + 1) pc L st h c n P := by
  intro p e R s m args below meth cd H locs cells slots ls hF hR hl hL hV hS hN
  obtain ⟨hb, hret, hin, hins, hlk⟩ := hx
  have hts := hV.ts args
  have hR0 := hR
  obtain ⟨r1, r2, r3, r4, r5⟩ := hR
  have hS0 := hS
  obtain ⟨s1, s2, s3, s4, s5, s6⟩ := hS
  have h41 := hb.2.2.1
  have hgood := xcb_good hb
  refine x_mono r5 fun m1 m2 => ?_
  refine x_tight (k := H.size - s.heap.size) (j := xU G.2.1 H - xU G.2.1 s.heap) r5 (by omega) (by omega) ?_
  have fin := fun (v : Option Value) (h' : XH) (c' n' : Nat) (H1 : Heap) (locs1 : List Loc) (hp : P' v h' c' n') (hS1 : xS G h' c' n' H1) (hN1 : va_S (xA G) s.heap H1 locs1) (hk1 : ∀ q : Nat, q < H.size → ¬ xA G q → H1[q]? = H[q]?) =>
    kk v h' c' n' hp p e R s m args below meth cd H1 locs1 (H.size - s.heap.size + (xCB - (H.size - G.2.1))) (xU G.2.1 H - xU G.2.1 s.heap + (xSB - xU G.2.1 H)) ls hF hR0 hl hL (hV.kept hk1) hS1 hN1
  have hp : PreS s H (va_Pc (.ref b :: As) (xPre G h c n (H.size - G.2.1) (xU G.2.1 H))) (.ref b :: As) := ⟨xPre.blind, fun U hU hW => xPre.at hV hS0 hU hW⟩
  have hf : H.size - s.heap.size + (xCB - (H.size - G.2.1)) ≤ R.cells ∧ xU G.2.1 H - xU G.2.1 s.heap + (xSB - xU G.2.1 H) ≤ R.slots := ⟨by rw [r3]; omega, by rw [r4]; omega⟩
  have hRR : (xRm d (H.size - G.2.1) (xU G.2.1 H)).frames + 1 ≤ R.frames ∧ 8 + (Mc.2.2.1 + 11) + (xRm d (H.size - G.2.1) (xU G.2.1 H)).locals ≤ R.locals := ⟨by rw [r1]; exact Nat.le_refl _, by rw [r2]; show 8 + (Mc.2.2.1 + 11) + (d * 60 + 11000) ≤ _; omega⟩
  have hM0 := hM (H.size - G.2.1) (xU G.2.1 H)
  rw [hret] at hM0 hgood
  rcases hlk with hlk | ⟨host, hlk⟩
  · exact x_cont (va_runI (Ts := xT) (bytes := Mc.2.1) (maxL := Mc.2.2.1) ⟨hF.1, hF.2.1, hF.2.2.1, hF.2.2.2.2.1, hts⟩ hM0 ⟨callB_of nn hts hgood rfl rfl rfl (hts _ hb.2.1) (hts _ hlk) hb.2.2.2 hRR, hin, hts _ hins⟩ hp rfl hn (hl.1.trans hL) hst (by show 2 * 0 + _ ≤ 8; omega) hd hf) hN fin
  · exact x_cont (va_runIN (Ts := xT) (bytes := Mc.2.1) (maxL := Mc.2.2.1) ⟨hF.1, hF.2.1, hF.2.2.1, hF.2.2.2.2.1, hts⟩ hM0 ⟨va_cnB nn hts hgood rfl rfl rfl (hV.2.1 _ hlk) (hts _ hb.2.1) hb.2.2.2 hRR, hin, hts _ hins⟩ hp rfl hn (hl.1.trans hL) hst (by show 2 * 0 + _ ≤ 8; omega) hd hf) hN fin
/-- which method a receiver of class C selects -/
def xsl (C : String) (y : MethodName) : Prop := Cond.selects C y y ∈ xT ∨ False
theorem xsl_at {C : String} {y : MethodName} {s : State} {args : Array Value} (h : xsl C y) (hts : ∀ w ∈ xT, w.before args s = true) : (Cond.selects C y y).before args s = true := hts _ (h.elim id False.elim)
/-- a call on a receiver whose kind is known -/
def xCV (own : String) (idx : Nat) (C : String) (Mc : XMt) (nn : Nat) : Prop := xcb Mc nn ∧ Cond.instanceMethod Mc.1 ∈ xT ∧
  ((Cond.methodLink own idx Mc.1 ∈ xT ∧ xsl C Mc.1) ∨ (∃ host, Cond.methodLinkNest own idx Mc.1 host ∈ xT ∧ xsl C Mc.1) ∨
   (∃ (x : MethodName) (owner : String), Cond.methodLink own idx x ∈ xT ∧ Cond.sameMethod x.cls owner x.name x.desc ∈ xT ∧ Cond.selects C x Mc.1 ∈ xT ∧ x.desc = Mc.1.desc ∧ (owner ≠ "java/lang/invoke/MethodHandle" ∧ owner ≠ "java/lang/invoke/VarHandle") ∧ (Cond.declares ⟨owner, x.name, x.desc⟩ ∈ xT ∨ (Cond.instanceMethod ⟨owner, x.name, x.desc⟩ ∈ xT ∧ ∃ b m r, Cond.code ⟨owner, x.name, x.desc⟩ b m r ∈ xT))))
theorem x_callV {Mc : XMt} {As st vs : List Value} {b k idx nn N : Nat} {C : String} {T : u_T} {P' : Option Value → XH → Nat → Nat → Prop} (hk : xk[k]? = some (.inl (C, T, N))) (hx : xCV M.1.cls idx C Mc nn) (ha : xr G h b k vs) (hM : XM l G d Mc (.ref b :: As) h c n P') (hn : As.length = nn) (hst : st = As.reverse ++ .ref b :: rest) (hr : (rest.map fun v => v.category).sum ≤ 8) (hd : decode M.2.1 pc = .ok (.invokevirtual idx, 3))
    (kk : ∀ (v : Option Value) (h' : XH) (c' n' : Nat), P' v h' c' n' → XW l G M (d + 1) (pc + 3) L (v.toList ++ rest) h' c' n' P) : XW l G M (d + 1) pc L st h c n P := by
  intro p e R s m args below meth cd H locs cells slots ls hF hR hl hL hV hS hN
  obtain ⟨hb, hins, hlk⟩ := hx
  have hts := hV.ts args
  have hR0 := hR
  obtain ⟨r1, r2, r3, r4, r5⟩ := hR
  have hS0 := hS
  obtain ⟨s1, s2, s3, s4, s5, s6⟩ := hS
  have h41 := hb.2.2.1
  refine x_mono r5 fun m1 m2 => ?_
  refine x_tight (k := H.size - s.heap.size) (j := xU G.2.1 H - xU G.2.1 s.heap) r5 (by omega) (by omega) ?_
  have fin := fun (v : Option Value) (h' : XH) (c' n' : Nat) (H1 : Heap) (locs1 : List Loc) (hp : P' v h' c' n') (hS1 : xS G h' c' n' H1) (hN1 : va_S (xA G) s.heap H1 locs1) (hk1 : ∀ q : Nat, q < H.size → ¬ xA G q → H1[q]? = H[q]?) =>
    kk v h' c' n' hp p e R s m args below meth cd H1 locs1 (H.size - s.heap.size + (xCB - (H.size - G.2.1))) (xU G.2.1 H - xU G.2.1 s.heap + (xSB - xU G.2.1 H)) ls hF hR0 hl hL (hV.kept hk1) hS1 hN1
  obtain ⟨cellB, b1, -, b2, b3⟩ := xr_cell ha hV hS0
  have hcB : s.vm.findClass C = some cellB.cls := by rw [b3.1]; exact (hV.1 k _ hk : u_Kn s C T N (G.1.1 k) (G.1.2 k)).2.1
  have hp : PreV s H C b (va_Pc (.ref b :: As) (xPre G h c n (H.size - G.2.1) (xU G.2.1 H))) As := ⟨xPre.blind, ⟨cellB, b1, b2, hcB⟩, fun U hU hW => xPre.at hV hS0 hU hW⟩
  have hf : H.size - s.heap.size + (xCB - (H.size - G.2.1)) ≤ R.cells ∧ xU G.2.1 H - xU G.2.1 s.heap + (xSB - xU G.2.1 H) ≤ R.slots := ⟨by rw [r3]; omega, by rw [r4]; omega⟩
  have hRR : (xRm d (H.size - G.2.1) (xU G.2.1 H)).frames + 1 ≤ R.frames ∧ 8 + (Mc.2.2.1 + 11) + (xRm d (H.size - G.2.1) (xU G.2.1 H)).locals ≤ R.locals := ⟨by rw [r1]; exact Nat.le_refl _, by rw [r2]; show 8 + (Mc.2.2.1 + 11) + (d * 60 + 11000) ≤ _; omega⟩
  rcases hlk with ⟨hlk, hsel⟩ | ⟨host, hlk, hsel⟩ | ⟨x, owner, hlk, hsm, hsel, hde, how, hdecl⟩
  · exact x_cont (va_runV (Ts := xT) (C := C) (bytes := Mc.2.1) (maxL := Mc.2.2.1) (ret := Mc.2.2.2) ⟨hF.1, hF.2.1, hF.2.2.1, hF.2.2.2.2.1, hts⟩ (hM (H.size - G.2.1) (xU G.2.1 H)) ⟨callB_of nn hts (xcb_good hb) rfl rfl rfl (hts _ hb.2.1) (hts _ hlk) hb.2.2.2 hRR, hts _ hins, xsl_at hsel hts⟩ hp rfl hn (hl.1.trans hL) hst (by show 2 * 0 + _ ≤ 8; omega) hd hf) hN fin
  · exact x_cont (va_runVN (Ts := xT) (C := C) (bytes := Mc.2.1) (maxL := Mc.2.2.1) (ret := Mc.2.2.2) ⟨hF.1, hF.2.1, hF.2.2.1, hF.2.2.2.2.1, hts⟩ (hM (H.size - G.2.1) (xU G.2.1 H)) ⟨va_cnB nn hts (xcb_good hb) rfl rfl rfl (hV.2.1 _ hlk) (hts _ hb.2.1) hb.2.2.2 hRR, hts _ hins, xsl_at hsel hts⟩ hp rfl hn (hl.1.trans hL) hst (by show 2 * 0 + _ ≤ 8; omega) hd hf) hN fin
  · have hD : va_Decl s ⟨owner, x.name, x.desc⟩ := by
      rcases hdecl with q | ⟨q, b0, m0, r0, q'⟩
      · exact va_Decl.abs (hV.2.1 _ q)
      · exact va_Decl.of (hts _ q) (hts _ q')
    have hcu : va_CU R s args M.1.cls C owner idx x Mc.1 Mc.2.1 Mc.2.2.1 Mc.2.2.2 [Cond.code Mc.1 Mc.2.1 Mc.2.2.1 Mc.2.2.2] (xRm d (H.size - G.2.1) (xU G.2.1 H)) (xCB - (H.size - G.2.1)) (xSB - xU G.2.1 H) nn := by
      refine ⟨⟨rfl, rfl, hRR.1, hRR.2, pay_in hts (xcb_good hb), List.mem_singleton.mpr rfl⟩, hts _ hb.1, hts _ hb.2.1, how, fun sig hsig => ?_, hts _ hlk, hts _ hsm, hD, hts _ hsel, hts _ hins⟩
      have h2 := hb.2.2.2.2.2
      rw [← hde, hsig] at h2
      exact (Option.some.inj h2).symm
    exact x_cont (va_runU (Ts := xT) (C := C) (owner := owner) (bytes := Mc.2.1) (maxL := Mc.2.2.1) (ret := Mc.2.2.2) ⟨hF.1, hF.2.1, hF.2.2.1, hF.2.2.2.2.1, hts⟩ (hM (H.size - G.2.1) (xU G.2.1 H)) hcu hp rfl hn (hl.1.trans hL) hst (by show 2 * 0 + _ ≤ 8; omega) hd hf) hN fin
/-- Object.<init> -/
theorem x_objInit {a idx : Nat} (hlk : Cond.methodLink M.1.cls idx Lib.objectInit ∈ xT) (hin : Cond.instanceMethod Lib.objectInit ∈ xT) (hco : Cond.code Lib.objectInit ⟨#[0xb1]⟩ 1 none ∈ xT) (hr : (rest.map fun v => v.category).sum ≤ 8) (hd : decode M.2.1 pc = .ok (.invokespecial idx, 3)) (kk : XW l G M (d + 1) (pc + 3) L rest h c n P) : XW l G M (d + 1) pc L (.ref a :: rest) h c n P := by
  intro p e R s m args below meth cd H locs cells slots ls hF hR hl hL hV hS hN
  have hts := hV.ts args
  obtain ⟨r1, r2, r3, r4, r5⟩ := hR
  exact W.objInit hF.1 hF.2.1 hF.2.2.2.2.1 (hts _ hlk) (hts _ hin) (hts _ hco) rfl (by show ls.size = _; rw [hl.1, hL, hF.2.2.1]) rfl hd (by rw [r1]; omega) (by rw [r2]; show 2 * 0 + _ + 12 ≤ _; omega) (kk p e R s m args below meth cd H locs cells slots ls hF ⟨r1, r2, r3, r4, r5⟩ hl hL hV hS hN)
/-- constants of the pool -/
theorem x_ldc {idx : Nat} {v : Int32} (hw : Cond.constant M.1.cls idx v ∈ xT) (hd : decode M.2.1 pc = .ok (.ldc idx, 2)) (kk : XW l G M d (pc + 2) L (.int v :: rest) h c n P) : XW l G M d pc L rest h c n P := by
  intro p e R s m args below meth cd H locs cells slots ls hF hR hl hL hV hS hN
  exact lv_ldc hF.1 hF.2.1 hF.2.2.2.2.1 (hV.ts args _ hw) hd (kk p e R s m args below meth cd H locs cells slots ls hF hR hl hL hV hS hN)
theorem x_ldc2 {idx : Nat} {v : Int64} (hw : Cond.constantLong M.1.cls idx v ∈ xT) (hd : decode M.2.1 pc = .ok (.ldc2_w idx, 3)) (kk : XW l G M d (pc + 3) L (.long v :: rest) h c n P) : XW l G M d pc L rest h c n P := by
  intro p e R s m args below meth cd H locs cells slots ls hF hR hl hL hV hS hN
  exact lv_ldc2 hF.1 hF.2.1 hF.2.2.2.2.1 (hV.ts args _ hw) hd (kk p e R s m args below meth cd H locs cells slots ls hF hR hl hL hV hS hN)
theorem x_ldcS {idx i : Nat} {tx : String} (hw : (M.1.cls, idx, tx, i) ∈ xStr) (hd : decode M.2.1 pc = .ok (.ldc idx, 2)) (kk : XW l G M d (pc + 2) L (.ref (G.2.2.2.1 i) :: rest) h c n P) : XW l G M d pc L rest h c n P := by
  intro p e R s m args below meth cd H locs cells slots ls hF hR hl hL hV hS hN
  exact va_ldcS hF.1 hF.2.1 hF.2.2.2.2.1 (hV.2.2.1.1 _ hw) hd (kk p e R s m args below meth cd H locs cells slots ls hF hR hl hL hV hS hN)
theorem x_gets {idx : Nat} {C nm ds : String} {v : Value} (hw : Cond.fieldLink M.1.cls idx C nm ds ∈ xT) (hz : (C, nm, ds, v) ∈ xSta G) (hd : decode M.2.1 pc = .ok (.getstatic idx, 3)) (kk : XW l G M d (pc + 3) L (v :: rest) h c n P) : XW l G M d pc L rest h c n P := by
  intro p e R s m args below meth cd H locs cells slots ls hF hR hl hL hV hS hN
  obtain ⟨cf, kf, fi, f, a, cell, h1, h2, h3, h4, h5, h6, h7, h8⟩ := hV.2.2.2.1 _ hz
  exact W.gets hF.1 hF.2.1 hF.2.2.2.2.1 (hV.ts args _ hw) h1 h2 h3 h4 h5 (fun q => by rw [q] at h6; cases h6) h7 rfl hd (kk p e R s m args below meth cd H locs cells slots ls hF hR hl hL hV hS hN)
end XCL
end
section
section XMO
variable {l : Launch} {G : XG} {M : XMt} {d pc : Nat} {L : List (Option Value)} {rest : List Value} {h : XH} {c n : Nat} {P : Option Value → XH → Nat → Nat → Prop}
theorem xisr_rf {v : Value} (hv : xisr v = true) : ∃ r : Option Nat, v = va_rf r := by
  rcases xisr_or hv with rfl | ⟨a, rfl⟩
  · exact ⟨none, rfl⟩
  · exact ⟨some a, rfl⟩
theorem x_acmp_eq {v w : Value} {off : Int} {tgt : Nat} (hv : xisr v = true) (hw : xisr w = true) (hd : decode M.2.1 pc = .ok (.if_acmp .eq off, 3)) (ht : (pc : Int) + off = (tgt : Int)) (kt : v = w → XW l G M d tgt L rest h c n P) (kf : ¬ v = w → XW l G M d (pc + 3) L rest h c n P) : XW l G M d pc L (w :: v :: rest) h c n P := by
  intro p e R s m args below meth cd H locs cells slots ls hF hR hl hL hV hS hN
  obtain ⟨r, rfl⟩ := xisr_rf hv
  obtain ⟨q, rfl⟩ := xisr_rf hw
  exact lv_acmp_eq hF.1 hF.2.1 hd ht (fun e1 => kt (by rw [e1]) p e R s m args below meth cd H locs cells slots ls hF hR hl hL hV hS hN) (fun e1 => kf (fun e2 => e1 (by cases r <;> cases q <;> first | rfl | cases e2 <;> rfl)) p e R s m args below meth cd H locs cells slots ls hF hR hl hL hV hS hN)
theorem x_acmp_ne {v w : Value} {off : Int} {tgt : Nat} (hv : xisr v = true) (hw : xisr w = true) (hd : decode M.2.1 pc = .ok (.if_acmp .ne off, 3)) (ht : (pc : Int) + off = (tgt : Int)) (kt : ¬ v = w → XW l G M d tgt L rest h c n P) (kf : v = w → XW l G M d (pc + 3) L rest h c n P) : XW l G M d pc L (w :: v :: rest) h c n P := by
  intro p e R s m args below meth cd H locs cells slots ls hF hR hl hL hV hS hN
  obtain ⟨r, rfl⟩ := xisr_rf hv
  obtain ⟨q, rfl⟩ := xisr_rf hw
  exact lv_acmp_ne hF.1 hF.2.1 hd ht (fun e1 => kt (fun e2 => e1 (by cases r <;> cases q <;> first | rfl | cases e2 <;> rfl)) p e R s m args below meth cd H locs cells slots ls hF hR hl hL hV hS hN) (fun e1 => kf (by rw [e1]) p e R s m args below meth cd H locs cells slots ls hF hR hl hL hV hS hN)
/-- the class of a cell whose kind is known -/
theorem xr_cls {s : State} {H : Heap} {a k N : Nat} {vs : List Value} {C : String} {T : u_T} (hk : xk[k]? = some (.inl (C, T, N))) (ha : xr G h a k vs) (hV : xV G s H) (hS : xS G h c n H) : ∃ cell : Cell, H[a]? = some cell ∧ cell.vm.isStatics = false ∧ s.vm.findClass C = some cell.cls := by
  obtain ⟨cell, b1, -, b2, b3⟩ := xr_cell ha hV hS
  exact ⟨cell, b1, b2, by rw [b3.1]; exact (hV.1 k _ hk : u_Kn s C T N (G.1.1 k) (G.1.2 k)).2.1⟩
theorem x_castY {a k N idx : Nat} {vs : List Value} {C nm : String} {T : u_T} (hk : xk[k]? = some (.inl (C, T, N))) (hlk : Cond.classLink M.1.cls idx nm ∈ xT) (hcs : C = nm ∨ Cond.castable C nm ∈ xT) (ha : xr G h a k vs) (hd : decode M.2.1 pc = .ok (.checkcast idx, 3)) (kk : XW l G M d (pc + 3) L (.ref a :: rest) h c n P) : XW l G M d pc L (.ref a :: rest) h c n P := by
  intro p e R s m args below meth cd H locs cells slots ls hF hR hl hL hV hS hN
  rcases hcs with rfl | hcs
  · exact va_castS hF.1 hF.2.1 hF.2.2.2.2.1 (hV.ts args _ hlk) (hV.1 k _ hk : u_Kn s C T N (G.1.1 k) (G.1.2 k)).2 (xr_cls hk ha hV hS) hd (kk p e R s m args below meth cd H locs cells slots ls hF hR hl hL hV hS hN)
  · exact va_castY hF.1 hF.2.1 hF.2.2.2.2.1 (hV.ts args _ hlk) (hV.2.1 _ hcs) (xr_cls hk ha hV hS) hd (kk p e R s m args below meth cd H locs cells slots ls hF hR hl hL hV hS hN)
theorem x_instY {a k N idx : Nat} {vs : List Value} {C nm : String} {T : u_T} (hk : xk[k]? = some (.inl (C, T, N))) (hlk : Cond.classLink M.1.cls idx nm ∈ xT) (hcs : C = nm ∨ Cond.castable C nm ∈ xT) (ha : xr G h a k vs) (hd : decode M.2.1 pc = .ok (.instanceof idx, 3)) (kk : XW l G M d (pc + 3) L (.int 1 :: rest) h c n P) : XW l G M d pc L (.ref a :: rest) h c n P := by
  intro p e R s m args below meth cd H locs cells slots ls hF hR hl hL hV hS hN
  rcases hcs with rfl | hcs
  · exact va_instS hF.1 hF.2.1 hF.2.2.2.2.1 (hV.ts args _ hlk) (hV.1 k _ hk : u_Kn s C T N (G.1.1 k) (G.1.2 k)).2 (xr_cls hk ha hV hS) hd (kk p e R s m args below meth cd H locs cells slots ls hF hR hl hL hV hS hN)
  · exact va_instY hF.1 hF.2.1 hF.2.2.2.2.1 (hV.ts args _ hlk) (hV.2.1 _ hcs) (xr_cls hk ha hV hS) hd (kk p e R s m args below meth cd H locs cells slots ls hF hR hl hL hV hS hN)
theorem x_castN {idx : Nat} (hd : decode M.2.1 pc = .ok (.checkcast idx, 3)) (kk : XW l G M d (pc + 3) L (.null :: rest) h c n P) : XW l G M d pc L (.null :: rest) h c n P := by
  intro p e R s m args below meth cd H locs cells slots ls hF hR hl hL hV hS hN
  exact lv_castN hF.1 hF.2.1 hd (kk p e R s m args below meth cd H locs cells slots ls hF hR hl hL hV hS hN)
/-- arrays of references -/
theorem x_anew {k idx z : Nat} {C : String} {i : Int32} (hk : xk[k]? = some (.inr (.object C))) (hlk : Cond.classLink M.1.cls idx C ∈ xT) (hov : Cond.arrayOver (.object C) ∈ xT) (h0 : ¬ i < 0) (hz : i.toNatClampNeg = z) (hb : z * 4 ≤ 536870912) (hc : c + 1 ≤ xCB) (hn : n + z ≤ xSB) (hd : decode M.2.1 pc = .ok (.anewarray idx, 3))
    (kk : ∀ q : Nat, h q = none → G.2.2.1 q = none → XW l G M d (pc + 3) L (.ref q :: rest) (xup h q (k, List.replicate z .null)) (c + 1) (n + z) P) : XW l G M d pc L (.int i :: rest) h c n P := by
  intro p e R s m args below meth cd H locs cells slots ls hF hR hl hL hV hS hN
  subst hz
  have hts := hV.ts args
  obtain ⟨q1, ⟨kA0, comp0, q21, q22, q23, q24⟩, q3⟩ := (hV.1 k _ hk : ArrOfT s (G.1.1 k) (.object C) ∧ va_RA s (G.1.1 k) (.object C) ∧ ∀ j : Nat, G.1.2 k j = j)
  obtain ⟨r1, r2, r3, r4, r5⟩ := hR
  obtain ⟨s1, s2, s3, s4, s5, s6⟩ := hS
  refine x_mono r5 fun m1 m2 => ?_
  refine x_tight (k := R.cells - 1) (j := R.slots - i.toNatClampNeg) r5 (by rw [r3]; omega) (by rw [r4]; omega) ?_
  refine W.anew hF.1 hF.2.1 hF.2.2.2.2.1 (hts _ hlk) (hts _ hov) rfl hd rfl h0 hb (by rw [r3]; omega) (by rw [r4]; omega) fun cA kA comp f1 f2 f3 f4 => ?_
  have hcC : cA = G.1.1 k := Option.some.inj (f1.symm.trans q24)
  subst hcC
  have hcell : xcell G.1 k (List.replicate i.toNatClampNeg .null) { cls := G.1.1 k, slots := Array.replicate i.toNatClampNeg .null, vm := .none } := by
    refine ⟨rfl, fun j v hv => ⟨Or.inl (xarr_of hk), ?_⟩, fun _ => by simp⟩
    rw [q3 j]
    rw [List.getElem?_replicate] at hv
    simp only [Array.getElem?_replicate]
    exact hv
  obtain ⟨hS', hno'⟩ := xS.new (k := k) (z := i.toNatClampNeg) (cell := { cls := G.1.1 k, slots := Array.replicate i.toNatClampNeg .null, vm := .none }) ⟨s1, s2, s3, s4, s5, s6⟩ rfl (by simp) hcell hc hn
  exact kk H.size hno' (xkh.none hV ⟨s1, s2, s3, s4, s5, s6⟩) p e R s m args below meth cd _ locs _ _ ls hF ⟨r1, r2, r3, r4, r5⟩ hl hL hV.new hS' (va_S.new hN)
theorem x_aast {a b k kb N : Nat} {vs vb : List Value} {i : Int32} {v0 : Value} {E C : String} {T : u_T} (hk : xk[k]? = some (.inr (.object E))) (hkb : xk[kb]? = some (.inl (C, T, N))) (hcs : C = E ∨ Cond.castable C E ∈ xT) (ha : h a = some (k, vs)) (hb : xr G h b kb vb) (h0 : ¬ i < 0) (hv : vs[i.toNatClampNeg]? = some v0) (hd : decode M.2.1 pc = .ok (.aastore, 1)) (kk : XW l G M d (pc + 1) L rest (xup h a (k, vs.set i.toNatClampNeg (.ref b))) c n P) : XW l G M d pc L (.ref b :: .int i :: .ref a :: rest) h c n P := by
  intro p e R s m args below meth cd H locs cells slots ls hF hR hl hL hV hS hN
  obtain ⟨ga, cell, g1, g2, g3⟩ := hS.1 a k vs ha
  obtain ⟨cellB, b1, -, b2, b3⟩ := xr_cell hb hV hS
  obtain ⟨q1, ⟨kA, comp, q21, q22, q23, q24⟩, q3⟩ := (hV.1 k _ hk : ArrOfT s (G.1.1 k) (.object E) ∧ va_RA s (G.1.1 k) (.object E) ∧ ∀ j : Nat, G.1.2 k j = j)
  have hKb := (hV.1 kb _ hkb : u_Kn s C T N (G.1.1 kb) (G.1.2 kb)).2
  obtain ⟨kC, hkC, hkind⟩ := hKb.2
  obtain ⟨kcomp, hkcomp, -⟩ := Vm.findClass_spec q23
  have hass : s.vm.assignable cellB.cls comp = true := by
    rw [b3.1]
    rcases hcs with rfl | hcs
    · have e1 : comp = G.1.1 kb := Option.some.inj (q23.symm.trans hKb.1)
      rw [e1]
      exact va_assign hKb
    · obtain ⟨c0, t0, f1, f2, f3⟩ := Cond.castable_spec (va_Nw.use (A := args) rfl (hV.2.1 _ hcs))
      cases hKb.1.symm.trans f1
      cases q23.symm.trans f2
      exact f3
  have hz := xarr_sz hk g3
  have hlt : i.toNatClampNeg < vs.length := (List.getElem?_eq_some_iff.mp hv).1
  refine W.aast hF.1 hF.2.1 g1 (fun q hq => by rw [g2] at hq; cases hq) (by rw [g2]; exact fun q => (by cases q)) (by rw [g3.1]; exact q21) q22 rfl hkcomp ⟨h0, by omega⟩ b1 (fun q hq => by rw [hq] at b2; cases b2) (by rw [b3.1]; exact hkC) hass rfl rfl hd fun H' e1 e2 e3 => ?_
  exact kk p e R s m args below meth cd H' _ cells slots ls hF hR hl hL (hV.put ga e3) (hS.put ha g1 e1 e2 e3 (k2_slotsz _ _ _) g2 (xarr_set hV.1 hk g3 hv)) (va_S.put1 hN ga e2 e3)
/-- System.arraycopy of numbers -/
def xcopy (vs0 vs1 : List Value) (sp dp n : Nat) : List Value := vs1.take dp ++ ((vs0.drop sp).take n ++ vs1.drop (dp + n))
theorem xcopy_len {vs0 vs1 : List Value} {sp dp n : Nat} (h4 : sp + n ≤ vs0.length) (h5 : dp + n ≤ vs1.length) : (xcopy vs0 vs1 sp dp n).length = vs1.length := by
  unfold xcopy
  simp
  omega
theorem xcopy_at {vs0 vs1 : List Value} {sp dp n j : Nat} (h4 : sp + n ≤ vs0.length) (h5 : dp + n ≤ vs1.length) : (xcopy vs0 vs1 sp dp n)[j]? = if dp ≤ j ∧ j < dp + n then vs0[sp + (j - dp)]? else vs1[j]? := by
  unfold xcopy
  rw [List.getElem?_append]
  have l1 : (vs1.take dp).length = dp := by rw [List.length_take]; omega
  rw [l1]
  by_cases hj : j < dp
  · rw [if_pos hj, if_neg (by omega), List.getElem?_take, if_pos hj]
  · rw [if_neg hj, List.getElem?_append]
    have l2 : ((vs0.drop sp).take n).length = n := by rw [List.length_take, List.length_drop]; omega
    rw [l2]
    by_cases hj2 : j - dp < n
    · rw [if_pos hj2, if_pos (by omega), List.getElem?_take, if_pos hj2, List.getElem?_drop]
    · rw [if_neg hj2, if_neg (by omega), List.getElem?_drop]
      congr 1
      omega
theorem xnn {z : Int32} (hz : ¬ z < 0) : z.toInt = (z.toNatClampNeg : Int) := by
  have hz0 : (0 : Int) ≤ z.toInt := by
    have := Int32.not_lt.mp hz
    simpa using Int32.le_iff_toInt_le.mp this
  show z.toInt = ((z.toInt.toNat : Nat) : Int)
  omega
set_option maxRecDepth 20000 in
theorem x_copyP {a0 a1 k0 k idx : Nat} {vs0 vs1 : List Value} {ty : FieldType} {sp dp nn : Int32} (hk0 : xk[k0]? = some (.inr ty)) (hk : xk[k]? = some (.inr ty)) (hpr : refKind ty = false) (hlk : Cond.methodLink M.1.cls idx arraycopyName ∈ xT) (hna : Cond.native arraycopyName ∈ xT) (hsta : Cond.static arraycopyName ∈ xT) (hini : Cond.initialized "java/lang/System" ∈ xT)
    (ha0 : xr G h a0 k0 vs0) (ha1 : h a1 = some (k, vs1)) (h1 : ¬ sp < 0) (h2 : ¬ dp < 0) (h3 : ¬ nn < 0) (h4 : sp.toNatClampNeg + nn.toNatClampNeg ≤ vs0.length) (h5 : dp.toNatClampNeg + nn.toNatClampNeg ≤ vs1.length) (hfit : ∀ v ∈ vs0, fits ty v = true) (hr : (rest.map fun v => v.category).sum ≤ 8) (hd : decode M.2.1 pc = .ok (.invokestatic idx, 3))
    (kk : XW l G M (d + 1) (pc + 3) L rest (xup h a1 (k, xcopy vs0 vs1 sp.toNatClampNeg dp.toNatClampNeg nn.toNatClampNeg)) c n P) : XW l G M (d + 1) pc L (.int nn :: .int dp :: .ref a1 :: .int sp :: .ref a0 :: rest) h c n P := by
  intro p e R s m args below meth cd H locs cells slots ls hF hR hl hL hV hS hN
  have hts := hV.ts args
  have hR0 := hR
  obtain ⟨r1, r2, r3, r4, r5⟩ := hR
  obtain ⟨cs, g1, g2, g2', g3⟩ := xr_cell ha0 hV hS
  obtain ⟨ga, cd1, e1, e2, e3⟩ := hS.1 a1 k vs1 ha1
  have hA := (hV.1 k _ hk : ArrOfT s (G.1.1 k) ty ∧ va_RA s (G.1.1 k) ty ∧ ∀ j : Nat, G.1.2 k j = j)
  obtain ⟨-, kA, hkA, cmA, hkk⟩ := hA.1 0 (fun _ => .null)
  have hkA' : s.vm.classes[G.1.1 k]? = some kA := hkA
  obtain ⟨-, kA0, hkA0, cmA0, hkk0⟩ := (hV.1 k0 _ hk0 : ArrOfT s (G.1.1 k0) ty ∧ va_RA s (G.1.1 k0) ty ∧ ∀ j : Nat, G.1.2 k0 j = j).1 0 (fun _ => .null)
  have hkA0' : s.vm.classes[G.1.1 k0]? = some kA0 := hkA0
  have z0 := xarr_sz hk0 g3
  have z1 := xarr_sz hk e3
  have hat : ∀ j, j < vs0.length → cs.slots[j]? = vs0[j]? := fun j hj => by
    rw [List.getElem?_eq_getElem hj]
    exact xarr_at hV.1 hk0 g3 (List.getElem?_eq_getElem hj)
  have hgd : ∀ j (hj : j < vs0.length), cs.slots.getD j .null = vs0[j] := fun j hj => by
    rw [Array.getD_eq_getD_getElem?, hat j hj, List.getElem?_eq_getElem hj]
    rfl
  have hnw : nativeFrameWords "java/lang/System" "arraycopy" 5 ≤ 1000 := by decide +kernel
  intro T hT X
  obtain ⟨vm', X', step⟩ := X.arraycopy hF.1 hF.2.2.2.2.1 (hts _ hlk) (hts _ hna) (hts _ hsta) (hts _ hini) (src := a0) (dst := a1) (cs := cs) (cd := cd1) (srcPos := sp) (destPos := dp) (n := nn) (by rw [hT]; exact g1) (by rw [hT]; exact e1)
    (fun q hq => by rw [hq] at g2'; cases g2') (fun q hq => by rw [e2] at hq; cases hq) g2 (by rw [e2]; exact fun q => (by cases q)) (by rw [g3.1]; exact hkA0') (by rw [e3.1]; exact hkA') hkk0 hkk (by simp [hpr]) h1 h2 h3
    (by rw [xnn h1, xnn h3, z0]; omega) (by rw [xnn h2, xnn h3, z1]; omega)
    (fun vm₁ _ i hi => by
      have hj : sp.toNatClampNeg + i < vs0.length := by omega
      have hf := hfit _ (List.getElem_mem hj)
      rw [hgd _ hj]
      refine ⟨hf, ?_⟩
      revert hf
      generalize vs0[sp.toNatClampNeg + i] = v
      intro hf
      cases v <;> first | exact True.intro | (exfalso; cases ty <;> simp [refKind] at hpr <;> simp [fits] at hf))
    (g := F0 m pc ls (.int nn :: .int dp :: .ref a1 :: .int sp :: .ref a0 :: rest)) rfl (by show ls.size = _; rw [hl.1, hL, hF.2.2.1]) (rest := rest) rfl (by rw [hF.2.1]; exact hd) (by rw [r1]; omega) (by show 2 * 0 + _ + _ ≤ _; rw [r2]; omega)
  have hlt : a1 < H.size := (Array.getElem?_eq_some_iff.mp e1).1
  have hheap : ((T.setVm vm').setCell a1 (copied cs cd1 sp dp nn)).heap = H.setIfInBounds a1 (copied cs cd1 sp dp nn) := by rw [← hT]; rfl
  have oq : ∀ q : Nat, q ≠ a1 → (H.setIfInBounds a1 (copied cs cd1 sp dp nn))[q]? = H[q]? := fun q hq => by simp [Array.getElem?_setIfInBounds, Ne.symm hq]
  have oa : (H.setIfInBounds a1 (copied cs cd1 sp dp nn))[a1]? = some (copied cs cd1 sp dp nn) := by simp [Array.getElem?_setIfInBounds, hlt]
  obtain ⟨f1, f2, f3, -, -⟩ := Cell.storeRun_facts cd1 dp.toNatClampNeg (cs.stretch sp.toNatClampNeg nn.toNatClampNeg)
  have hsl : (cs.stretch sp.toNatClampNeg nn.toNatClampNeg).length = nn.toNatClampNeg := by simp [Cell.stretch]
  have hcell : xcell G.1 k (xcopy vs0 vs1 sp.toNatClampNeg dp.toNatClampNeg nn.toNatClampNeg) (copied cs cd1 sp dp nn) := by
    refine ⟨f1.trans e3.1, fun j v hv => ⟨Or.inl (xarr_of hk), ?_⟩, fun _ => by rw [f3, z1, xcopy_len h4 h5]⟩
    rw [hA.2.2 j]
    show (cd1.storeRun dp.toNatClampNeg (cs.stretch sp.toNatClampNeg nn.toNatClampNeg)).slots[j]? = some v
    rw [Cell.storeRun_get _ _ _ _ (by rw [hsl, z1]; exact h5), hsl]
    rw [xcopy_at h4 h5] at hv
    by_cases hj : dp.toNatClampNeg ≤ j ∧ j < dp.toNatClampNeg + nn.toNatClampNeg
    · rw [if_pos hj] at hv ⊢
      unfold Cell.stretch
      rw [List.getElem?_map, List.getElem?_range (by omega)]
      have hj' : sp.toNatClampNeg + (j - dp.toNatClampNeg) < vs0.length := by omega
      rw [List.getElem?_eq_getElem hj'] at hv
      simp only [Option.map_some]
      rw [hgd _ hj']
      exact hv
    · rw [if_neg hj] at hv ⊢
      exact xarr_at hV.1 hk e3 hv
  obtain ⟨t, a1', b1⟩ := kk p e R s m args below meth cd _ _ cells slots ls hF hR0 hl hL (hV.put ga oq) (hS.put ha1 e1 oa (by simp) oq f3 (f2.trans e2) hcell) ⟨by simp; exact hN.1, fun q q1 q2 => by
      rw [oq q (fun e => q2 (by rw [e]; exact ga))]
      exact hN.2.1 q q1 q2, fun q hq => by
      rcases List.mem_append.mp hq with hh | hh
      · exact hN.2.2 q hh
      · obtain ⟨z, -, hz⟩ := List.mem_map.mp hh
        rw [← hz]
        exact ga⟩ _ hheap X'
  exact ⟨t, step t a1', b1⟩
/-- Math.min, Math.max -/
theorem x_mmin {idx : Nat} {x y : Int32} (hlk : Cond.methodLink M.1.cls idx Lib.Math.min.name ∈ xT) (hsta : Cond.static Lib.Math.min.name ∈ xT) (hini : Cond.initialized "java/lang/Math" ∈ xT) (hco : Cond.code Lib.Math.min.name Lib.Math.min.code 2 (some .int) ∈ xT) (hr : (rest.map fun v => v.category).sum ≤ 8) (hd : decode M.2.1 pc = .ok (.invokestatic idx, 3)) (kk : XW l G M (d + 1) (pc + 3) L (.int (if y < x then y else x) :: rest) h c n P) : XW l G M (d + 1) pc L (.int y :: .int x :: rest) h c n P := by
  intro p e R s m args below meth cd H locs cells slots ls hF hR hl hL hV hS hN
  have hts := hV.ts args
  have hR0 := hR
  obtain ⟨r1, r2, r3, r4, r5⟩ := hR
  refine x_end hR0 hS ?_
  exact va_mmin hF.1 hF.2.1 (by rw [hl.1, hL, hF.2.2.1]) hF.2.2.2.2.1 (hts _ hlk) (hts _ hsta) (hts _ hini) (hts _ hco) (by rw [r1]; omega) (by rw [r2]; omega) (Nat.le_refl _) (Nat.le_refl _) hd (kk p e R s m args below meth cd H locs _ _ ls hF hR0 hl hL hV hS hN)
theorem x_mmax {idx : Nat} {x y : Int32} (hlk : Cond.methodLink M.1.cls idx Lib.Math.max.name ∈ xT) (hsta : Cond.static Lib.Math.max.name ∈ xT) (hini : Cond.initialized "java/lang/Math" ∈ xT) (hco : Cond.code Lib.Math.max.name Lib.Math.max.code 2 (some .int) ∈ xT) (hr : (rest.map fun v => v.category).sum ≤ 8) (hd : decode M.2.1 pc = .ok (.invokestatic idx, 3)) (kk : XW l G M (d + 1) (pc + 3) L (.int (if x < y then y else x) :: rest) h c n P) : XW l G M (d + 1) pc L (.int y :: .int x :: rest) h c n P := by
  intro p e R s m args below meth cd H locs cells slots ls hF hR hl hL hV hS hN
  have hts := hV.ts args
  have hR0 := hR
  obtain ⟨r1, r2, r3, r4, r5⟩ := hR
  refine x_end hR0 hS ?_
  exact va_mmax hF.1 hF.2.1 (by rw [hl.1, hL, hF.2.2.1]) hF.2.2.2.2.1 (hts _ hlk) (hts _ hsta) (hts _ hini) (hts _ hco) (by rw [r1]; omega) (by rw [r2]; omega) (Nat.le_refl _) (Nat.le_refl _) hd (kk p e R s m args below meth cd H locs _ _ ls hF hR0 hl hL hV hS hN)
end XMO
end
section
section XM2
variable {l : Launch} {G : XG} {M : XMt} {d pc : Nat} {L : List (Option Value)} {rest : List Value} {h : XH} {c n : Nat} {P : Option Value → XH → Nat → Nat → Prop}
theorem x_bast {a k : Nat} {vs : List Value} {i x y : Int32} {v0 : Value} (hk : xk[k]? = some (.inr .byte)) (ha : h a = some (k, vs)) (h0 : ¬ i < 0) (hv : vs[i.toNatClampNeg]? = some v0) (hy : narrow .byte (.int x) = .int y) (hd : decode M.2.1 pc = .ok (.bastore, 1)) (kk : XW l G M d (pc + 1) L rest (xup h a (k, vs.set i.toNatClampNeg (.int y))) c n P) : XW l G M d pc L (.int x :: .int i :: .ref a :: rest) h c n P := by
  intro p e R s m args below meth cd H locs cells slots ls hF hR hl hL hV hS hN
  obtain ⟨ga, cell, g1, g2, g3⟩ := hS.1 a k vs ha
  have g2' : cell.vm.isStatics = false := by rw [g2]; rfl
  refine W.bast hF.1 hF.2.1 g1 (xarr_ok hV.1 hk g3 g2') (by rw [g2]; exact fun q => (by cases q)) (xarr_in h0 hv (xarr_sz hk g3)) rfl rfl hd fun H' e1 e2 e3 => ?_
  rw [hy] at e1
  exact kk p e R s m args below meth cd H' _ cells slots ls hF hR hl hL (hV.put ga e3) (hS.put ha g1 e1 e2 e3 (k2_slotsz _ _ _) g2 (xarr_set hV.1 hk g3 hv)) (va_S.put1 hN ga e2 e3)
theorem x_zast {a k : Nat} {vs : List Value} {i x y : Int32} {v0 : Value} (hk : xk[k]? = some (.inr .boolean)) (ha : h a = some (k, vs)) (h0 : ¬ i < 0) (hv : vs[i.toNatClampNeg]? = some v0) (hy : narrow .boolean (.int x) = .int y) (hd : decode M.2.1 pc = .ok (.bastore, 1)) (kk : XW l G M d (pc + 1) L rest (xup h a (k, vs.set i.toNatClampNeg (.int y))) c n P) : XW l G M d pc L (.int x :: .int i :: .ref a :: rest) h c n P := by
  intro p e R s m args below meth cd H locs cells slots ls hF hR hl hL hV hS hN
  obtain ⟨ga, cell, g1, g2, g3⟩ := hS.1 a k vs ha
  have g2' : cell.vm.isStatics = false := by rw [g2]; rfl
  refine W.zast hF.1 hF.2.1 g1 (xarr_ok hV.1 hk g3 g2') (by rw [g2]; exact fun q => (by cases q)) (xarr_in h0 hv (xarr_sz hk g3)) rfl rfl hd fun H' e1 e2 e3 => ?_
  rw [hy] at e1
  exact kk p e R s m args below meth cd H' _ cells slots ls hF hR hl hL (hV.put ga e3) (hS.put ha g1 e1 e2 e3 (k2_slotsz _ _ _) g2 (xarr_set hV.1 hk g3 hv)) (va_S.put1 hN ga e2 e3)
/-- super.m(..) -/
def xCU (own : String) (idx : Nat) (Mc : XMt) (nn : Nat) : Prop := xcb Mc nn ∧ Mc.1.name ≠ "<init>" ∧ Cond.instanceMethod Mc.1 ∈ xT ∧ Cond.methodLink own idx Mc.1 ∈ xT ∧ Cond.sameMethod Mc.1.cls Mc.1.cls Mc.1.name Mc.1.desc ∈ xT ∧ Cond.superclass own Mc.1.cls ∈ xT
theorem x_callU {Mc : XMt} {As st vs : List Value} {b k idx nn N : Nat} {C : String} {T : u_T} {P' : Option Value → XH → Nat → Nat → Prop} (hk : xk[k]? = some (.inl (C, T, N))) (hx : xCU M.1.cls idx Mc nn) (ha : xr G h b k vs) (hM : XM l G d Mc (.ref b :: As) h c n P') (hn : As.length = nn) (hst : st = As.reverse ++ .ref b :: rest) (hr : (rest.map fun v => v.category).sum ≤ 8) (hd : decode M.2.1 pc = .ok (.invokespecial idx, 3))
    (kk : ∀ (v : Option Value) (h' : XH) (c' n' : Nat), P' v h' c' n' → XW l G M (d + 1) (pc + 3) L (v.toList ++ rest) h' c' n' P) : XW l G M (d + 1) pc L st h c n P := by
  intro p e R s m args below meth cd H locs cells slots ls hF hR hl hL hV hS hN
  obtain ⟨hb, hno, hins, hlk, hsm, hsu⟩ := hx
  have hts := hV.ts args
  have hR0 := hR
  obtain ⟨r1, r2, r3, r4, r5⟩ := hR
  have hS0 := hS
  obtain ⟨s1, s2, s3, s4, s5, s6⟩ := hS
  have h41 := hb.2.2.1
  refine x_mono r5 fun m1 m2 => ?_
  refine x_tight (k := H.size - s.heap.size) (j := xU G.2.1 H - xU G.2.1 s.heap) r5 (by omega) (by omega) ?_
  have fin := fun (v : Option Value) (h' : XH) (c' n' : Nat) (H1 : Heap) (locs1 : List Loc) (hp : P' v h' c' n') (hS1 : xS G h' c' n' H1) (hN1 : va_S (xA G) s.heap H1 locs1) (hk1 : ∀ q : Nat, q < H.size → ¬ xA G q → H1[q]? = H[q]?) =>
    kk v h' c' n' hp p e R s m args below meth cd H1 locs1 (H.size - s.heap.size + (xCB - (H.size - G.2.1))) (xU G.2.1 H - xU G.2.1 s.heap + (xSB - xU G.2.1 H)) ls hF hR0 hl hL (hV.kept hk1) hS1 hN1
  obtain ⟨cellB, b1, -, b2, b3⟩ := xr_cell ha hV hS0
  have hKn := (hV.1 k _ hk : u_Kn s C T N (G.1.1 k) (G.1.2 k)).2
  have hcB : s.vm.findClass C = some cellB.cls := by rw [b3.1]; exact hKn.1
  have hp : PreV s H C b (va_Pc (.ref b :: As) (xPre G h c n (H.size - G.2.1) (xU G.2.1 H))) As := ⟨xPre.blind, ⟨cellB, b1, b2, hcB⟩, fun U hU hW => xPre.at hV hS0 hU hW⟩
  have hf : H.size - s.heap.size + (xCB - (H.size - G.2.1)) ≤ R.cells ∧ xU G.2.1 H - xU G.2.1 s.heap + (xSB - xU G.2.1 H) ≤ R.slots := ⟨by rw [r3]; omega, by rw [r4]; omega⟩
  have hRR : (xRm d (H.size - G.2.1) (xU G.2.1 H)).frames + 1 ≤ R.frames ∧ 8 + (Mc.2.2.1 + 11) + (xRm d (H.size - G.2.1) (xU G.2.1 H)).locals ≤ R.locals := ⟨by rw [r1]; exact Nat.le_refl _, by rw [r2]; show 8 + (Mc.2.2.1 + 11) + (d * 60 + 11000) ≤ _; omega⟩
  have hcs : va_CS R s args M.1.cls idx Mc.1 Mc.2.1 Mc.2.2.1 Mc.2.2.2 [Cond.code Mc.1 Mc.2.1 Mc.2.2.1 Mc.2.2.2] (xRm d (H.size - G.2.1) (xU G.2.1 H)) (xCB - (H.size - G.2.1)) (xSB - xU G.2.1 H) nn := by
    refine ⟨⟨rfl, rfl, hRR.1, hRR.2, pay_in hts (xcb_good hb), List.mem_singleton.mpr rfl⟩, hts _ hlk, hts _ hsm, hts _ hsu, hts _ hins, hts _ hb.2.1, hts _ hb.1, hno, fun sig hsig => ?_⟩
    have h2 := hb.2.2.2.2.2
    rw [hsig] at h2
    exact (Option.some.inj h2).symm
  exact x_cont (va_runSU (Ts := xT) (C := C) hKn (bytes := Mc.2.1) (maxL := Mc.2.2.1) (ret := Mc.2.2.2) ⟨hF.1, hF.2.1, hF.2.2.1, hF.2.2.2.2.1, hts⟩ (hM (H.size - G.2.1) (xU G.2.1 H)) hcs hp rfl hn (hl.1.trans hL) hst (by show 2 * 0 + _ ≤ 8; omega) hd hf) hN fin
/-- a contract with less room needs no more -/
theorem xr_h {a k : Nat} {vs : List Value} (ha : h a = some (k, vs)) : xr G h a k vs := Or.inl ha
theorem xr_up {a q k : Nat} {vs : List Value} {e : Nat × List Value} (ha : xr G h a k vs) (hq : h q = none) : xr G (xup h q e) a k vs := by
  rcases ha with ha | ha
  · refine Or.inl ?_
    rw [xup_ne (fun z => by rw [z, hq] at ha; cases ha)]
    exact ha
  · exact Or.inr ha
theorem xup_old {a q k : Nat} {vs : List Value} {e : Nat × List Value} (ha : h a = some (k, vs)) (hq : h q = none) : xup h q e a = some (k, vs) := by
  rw [xup_ne (fun z => by rw [z, hq] at ha; cases ha)]
  exact ha
theorem xup_up {q : Nat} {e e' : Nat × List Value} : xup (xup h q e) q e' = xup h q e' := by
  funext z
  by_cases hz : z = q
  · subst hz; rw [xup_self, xup_self]
  · rw [xup_ne hz, xup_ne hz, xup_ne hz]
theorem xup_cm {q r : Nat} {e e' : Nat × List Value} (hqr : q ≠ r) : xup (xup h q e) r e' = xup (xup h r e') q e := by
  funext z
  by_cases hz : z = q
  · subst hz; rw [xup_ne hqr, xup_self, xup_self]
  · rw [xup_ne hz]
    by_cases hr : z = r
    · subst hr; rw [xup_self, xup_self]
    · rw [xup_ne hr, xup_ne hr, xup_ne hz]
theorem x_top {v w : Value} (e : v = w) (k : XW l G M d pc L (w :: rest) h c n P) : XW l G M d pc L (v :: rest) h c n P := by rw [e]; exact k
theorem x_st {st st' : List Value} (e : st = st') (k : XW l G M d pc L st' h c n P) : XW l G M d pc L st h c n P := by rw [e]; exact k
theorem x_lo {L' : List (Option Value)} {st : List Value} (e : L = L') (k : XW l G M d pc L' st h c n P) : XW l G M d pc L st h c n P := by rw [e]; exact k
theorem x_hp {st : List Value} {h' : XH} (e : h = h') (k : XW l G M d pc L st h' c n P) : XW l G M d pc L st h c n P := by rw [e]; exact k
theorem xarr_nm {s : State} {cA : ClassId} {ty : FieldType} (hno : ∀ C, ty ≠ .object C) (h : va_RA s cA ty) : s.vm.findClass ("[" ++ ty.toString) = some cA := by
  cases ty <;> first | exact h | exact absurd rfl (hno _)
/-- a[].clone() of an array of numbers -/
theorem x_clone {a k k1 idx : Nat} {vs : List Value} {ty : FieldType} {ad : String} (hk : xk[k]? = some (.inr ty)) (hk1 : xk[k1]? = some (.inr ty)) (hno : ∀ C, ty ≠ .object C) (had : "[" ++ ty.toString = ad)
    (w1 : Cond.methodLink M.1.cls idx ⟨ad, "clone", "()Ljava/lang/Object;"⟩ ∈ xT) (w2 : Cond.sameMethod ad "java/lang/Object" "clone" "()Ljava/lang/Object;" ∈ xT) (w3 : Cond.native ⟨"java/lang/Object", "clone", "()Ljava/lang/Object;"⟩ ∈ xT) (w4 : Cond.instanceMethod ⟨"java/lang/Object", "clone", "()Ljava/lang/Object;"⟩ ∈ xT) (w5 : Cond.selects ad ⟨ad, "clone", "()Ljava/lang/Object;"⟩ ⟨"java/lang/Object", "clone", "()Ljava/lang/Object;"⟩ ∈ xT) (w6 : Cond.castable ad "java/lang/Cloneable" ∈ xT)
    (ha : xr G h a k vs) (hfit : ∀ v ∈ vs, fits ty v = true) (hc : c + 1 ≤ xCB) (hn : n + vs.length ≤ xSB) (hr : (rest.map fun v => v.category).sum ≤ 8) (hd : decode M.2.1 pc = .ok (.invokevirtual idx, 3))
    (kk : ∀ q : Nat, h q = none → G.2.2.1 q = none → XW l G M (d + 1) (pc + 3) L (.ref q :: rest) (xup h q (k1, vs)) (c + 1) (n + vs.length) P) : XW l G M (d + 1) pc L (.ref a :: rest) h c n P := by
  intro p e R s m args below meth cd H locs cells slots ls hF hR hl hL hV hS hN
  have hts := hV.ts args
  have hS0 := hS
  obtain ⟨r1, r2, r3, r4, r5⟩ := hR
  obtain ⟨s1, s2, s3, s4, s5, s6⟩ := hS
  obtain ⟨cell, g1, g2, g2', g3⟩ := xr_cell ha hV hS0
  have hA := (hV.1 k _ hk : ArrOfT s (G.1.1 k) ty ∧ va_RA s (G.1.1 k) ty ∧ ∀ j : Nat, G.1.2 k j = j)
  have hnm : s.vm.findClass ad = some (G.1.1 k) := by rw [← had]; exact xarr_nm hno hA.2.1
  have hz := xarr_sz hk g3
  have hat : ∀ (i : Nat) (v : Value), cell.slots[i]? = some v → v ∈ vs := fun i v hv => by
    have hi : i < vs.length := by rw [← hz]; exact (Array.getElem?_eq_some_iff.mp hv).1
    have := xarr_at hV.1 hk g3 (List.getElem?_eq_getElem hi)
    rw [hv] at this
    cases this
    exact List.getElem_mem hi
  refine x_mono r5 fun m1 m2 => ?_
  refine x_tight (k := R.cells - 1) (j := R.slots - vs.length) r5 (by rw [r3]; omega) (by rw [r4]; omega) ?_
  obtain ⟨c0, t0', f1, f2, f3⟩ := Cond.castable_spec (va_Nw.use (A := args) rfl (hV.2.1 _ w6))
  cases hnm.symm.trans f1
  intro T hT X
  obtain ⟨-, kA, hkA, comp, hkind⟩ := State.isArrayOf_alike X.warmed.alike (hA.1 0 (fun _ => .null))
  obtain ⟨-, kS, hkS, compS, hkindS⟩ := hA.1 0 (fun _ => .null)
  obtain ⟨vm', X', st⟩ := X.cloneArray hF.1 hF.2.2.2.2.1 (hts _ w1) (hts _ w2) (hts _ w3) (hts _ w4) (hts _ w5) (a := a) (cell := cell) (by rw [hT]; exact g1) (fun q hq => (by rw [hq] at g2'; cases g2')) g2 (by rw [g3.1]; exact hnm) f2 (by rw [g3.1]; exact f3)
    (fun i v hv => by
      rw [g3.1]
      have hk' : T.vm.classes[G.1.1 k]? = some kA := hkA
      simpa [State.fitsSlot, State.slotType?, hk', hkind] using hfit v (hat i v hv))
    (g := F0 m pc ls (.ref a :: rest)) rfl (by show ls.size = _; rw [hl.1, hL, hF.2.2.1]) rfl (by rw [hF.2.1]; exact hd) (by rw [r1]; omega) (by show 2 * 0 + _ + 14 ≤ _; rw [r2]; omega) (by rw [r3]; omega) (by rw [r4, hz]; omega) (hloader := by rw [g3.1]; exact Vm.clonesLoader_of_array hkS hkindS)
  have hA1 := (hV.1 k1 _ hk1 : ArrOfT s (G.1.1 k1) ty ∧ va_RA s (G.1.1 k1) ty ∧ ∀ j : Nat, G.1.2 k1 j = j)
  have hkk1 : G.1.1 k = G.1.1 k1 := Option.some.inj ((xarr_nm hno hA.2.1).symm.trans (xarr_nm hno hA1.2.1))
  have hcell : xcell G.1 k1 vs ({ cls := cell.cls, slots := cell.slots } : Cell) := ⟨g3.1.trans hkk1, fun j v hv => ⟨Or.inl (xarr_of hk1), by rw [hA1.2.2 j]; exact xarr_at hV.1 hk g3 hv⟩, fun _ => hz⟩
  obtain ⟨hS', hno'⟩ := xS.new (k := k1) (z := vs.length) (cell := { cls := cell.cls, slots := cell.slots }) hS0 rfl hz hcell hc hn
  obtain ⟨t, b1, b2⟩ := kk H.size hno' (xkh.none hV hS0) p e R s m args below meth cd _ locs _ _ ls hF ⟨r1, r2, r3, r4, r5⟩ hl hL hV.new hS' (va_S.new hN) _ (by rw [← hT]; rfl) X'
  refine ⟨t, st t ?_, b2⟩
  rw [hT]
  exact b1
theorem x_castA {a k idx : Nat} {vs : List Value} {ty : FieldType} {nm : String} (hk : xk[k]? = some (.inr ty)) (hno : ∀ C, ty ≠ .object C) (had : "[" ++ ty.toString = nm) (hlk : Cond.classLink M.1.cls idx nm ∈ xT) (ha : xr G h a k vs) (hd : decode M.2.1 pc = .ok (.checkcast idx, 3)) (kk : XW l G M d (pc + 3) L (.ref a :: rest) h c n P) : XW l G M d pc L (.ref a :: rest) h c n P := by
  intro p e R s m args below meth cd H locs cells slots ls hF hR hl hL hV hS hN
  obtain ⟨cell, g1, g2, g2', g3⟩ := xr_cell ha hV hS
  have hA := (hV.1 k _ hk : ArrOfT s (G.1.1 k) ty ∧ va_RA s (G.1.1 k) ty ∧ ∀ j : Nat, G.1.2 k j = j)
  exact va_castE hF.1 hF.2.1 hF.2.2.2.2.1 (hV.ts args _ hlk) ⟨cell, g1, g2', by rw [g3.1, ← had]; exact xarr_nm hno hA.2.1⟩ hd (kk p e R s m args below meth cd H locs cells slots ls hF hR hl hL hV hS hN)
end XM2
end
section
section XM3
variable {l : Launch} {G : XG} {M : XMt} {d pc : Nat} {L : List (Option Value)} {rest : List Value} {h : XH} {c n : Nat} {P : Option Value → XH → Nat → Nat → Prop}
/-- Object[].class -/
theorem x_ldcM {idx : Nat} (hlk : Cond.classLink M.1.cls idx "[Ljava/lang/Object;" ∈ xT) (hd : decode M.2.1 pc = .ok (.ldc idx, 2)) (kk : XW l G M d (pc + 2) L (.ref (G.2.2.2.1 101) :: rest) h c n P) : XW l G M d pc L rest h c n P := by
  intro p e R s m args below meth cd H locs cells slots ls hF hR hl hL hV hS hN
  exact va_ldcM hF.1 hF.2.1 hF.2.2.2.2.1 (hV.ts args _ hlk) hV.2.2.1.2 hd (kk p e R s m args below meth cd H locs cells slots ls hF hR hl hL hV hS hN)
/-- getClass() of an Object[] -/
theorem x_getC {a k idx : Nat} {vs : List Value} (hk : xk[k]? = some (.inr (.object "java/lang/Object"))) (w1 : Cond.methodLink M.1.cls idx ⟨"java/lang/Object", "getClass", "()Ljava/lang/Class;"⟩ ∈ xT) (w2 : Cond.declares ⟨"java/lang/Object", "getClass", "()Ljava/lang/Class;"⟩ ∈ xT) (w3 : Cond.selects "[Ljava/lang/Object;" ⟨"java/lang/Object", "getClass", "()Ljava/lang/Class;"⟩ ⟨"java/lang/Object", "getClass", "()Ljava/lang/Class;"⟩ ∈ xT) (w4 : Cond.instanceMethod ⟨"java/lang/Object", "getClass", "()Ljava/lang/Class;"⟩ ∈ xT) (w5 : Cond.native ⟨"java/lang/Object", "getClass", "()Ljava/lang/Class;"⟩ ∈ xT)
    (ha : xr G h a k vs) (hr : (rest.map fun v => v.category).sum ≤ 8) (hd : decode M.2.1 pc = .ok (.invokevirtual idx, 3)) (kk : XW l G M (d + 1) (pc + 3) L (.ref (G.2.2.2.1 101) :: rest) h c n P) : XW l G M (d + 1) pc L (.ref a :: rest) h c n P := by
  intro p e R s m args below meth cd H locs cells slots ls hF hR hl hL hV hS hN
  have hts := hV.ts args
  have hR0 := hR
  obtain ⟨r1, r2, r3, r4, r5⟩ := hR
  obtain ⟨cell, g1, g2, g2', g3⟩ := xr_cell ha hV hS
  have hA := (hV.1 k _ hk : ArrOfT s (G.1.1 k) (.object "java/lang/Object") ∧ va_RA s (G.1.1 k) (.object "java/lang/Object") ∧ ∀ j : Nat, G.1.2 k j = j)
  exact va_getC hF.1 hF.2.1 (by rw [hl.1, hL, hF.2.2.1]) hF.2.2.2.2.1 (hts _ w1) (hts _ w2) (hts _ w3) (hts _ w4) (hts _ w5) hV.2.2.1.2 ⟨cell, g1, g2', by rw [g3.1]; exact va_nmO hA.2.1 (by decide +kernel)⟩ (by rw [r1]; omega) (by rw [r2]; omega) hd (kk p e R s m args below meth cd H locs cells slots ls hF hR0 hl hL hV hS hN)
/-- a value that an Object[] may hold -/
def xel (G : XG) (h : XH) (E : String) (v : Value) : Prop := v = .null ∨ ∃ (a k N : Nat) (vs : List Value) (C : String) (T : u_T), v = .ref a ∧ xr G h a k vs ∧ xk[k]? = some (.inl (C, T, N)) ∧ Cond.castable C E ∈ xT
theorem x_copyR {a0 a1 k idx : Nat} {vs0 vs1 : List Value} {E : String} {sp dp nn : Int32} (hk : xk[k]? = some (.inr (.object E))) (hlk : Cond.methodLink M.1.cls idx arraycopyName ∈ xT) (hna : Cond.native arraycopyName ∈ xT) (hsta : Cond.static arraycopyName ∈ xT) (hini : Cond.initialized "java/lang/System" ∈ xT)
    (ha0 : xr G h a0 k vs0) (ha1 : h a1 = some (k, vs1)) (h1 : ¬ sp < 0) (h2 : ¬ dp < 0) (h3 : ¬ nn < 0) (h4 : sp.toNatClampNeg + nn.toNatClampNeg ≤ vs0.length) (h5 : dp.toNatClampNeg + nn.toNatClampNeg ≤ vs1.length) (hel : ∀ v ∈ vs0, xel G h E v) (hr : (rest.map fun v => v.category).sum ≤ 8) (hd : decode M.2.1 pc = .ok (.invokestatic idx, 3))
    (kk : XW l G M (d + 1) (pc + 3) L rest (xup h a1 (k, xcopy vs0 vs1 sp.toNatClampNeg dp.toNatClampNeg nn.toNatClampNeg)) c n P) : XW l G M (d + 1) pc L (.int nn :: .int dp :: .ref a1 :: .int sp :: .ref a0 :: rest) h c n P := by
  intro p e R s m args below meth cd H locs cells slots ls hF hR hl hL hV hS hN
  have hts := hV.ts args
  have hR0 := hR
  obtain ⟨r1, r2, r3, r4, r5⟩ := hR
  obtain ⟨cs, g1, g2, g2', g3⟩ := xr_cell ha0 hV hS
  obtain ⟨ga, cd1, e1, e2, e3⟩ := hS.1 a1 k vs1 ha1
  have hA := (hV.1 k _ hk : ArrOfT s (G.1.1 k) (.object E) ∧ va_RA s (G.1.1 k) (.object E) ∧ ∀ j : Nat, G.1.2 k j = j)
  obtain ⟨kA, comp, hkA', hkk, hcomp, -⟩ := hA.2.1
  have z0 := xarr_sz hk g3
  have z1 := xarr_sz hk e3
  have hat : ∀ j, j < vs0.length → cs.slots[j]? = vs0[j]? := fun j hj => by
    rw [List.getElem?_eq_getElem hj]
    exact xarr_at hV.1 hk g3 (List.getElem?_eq_getElem hj)
  have hgd : ∀ j (hj : j < vs0.length), cs.slots.getD j .null = vs0[j] := fun j hj => by
    rw [Array.getD_eq_getD_getElem?, hat j hj, List.getElem?_eq_getElem hj]
    rfl
  obtain ⟨kcomp, hkcomp, -⟩ := Vm.findClass_spec hcomp
  have hnw : nativeFrameWords "java/lang/System" "arraycopy" 5 ≤ 1000 := by decide +kernel
  intro T hT X
  obtain ⟨vm', X', step⟩ := X.arraycopy hF.1 hF.2.2.2.2.1 (hts _ hlk) (hts _ hna) (hts _ hsta) (hts _ hini) (src := a0) (dst := a1) (cs := cs) (cd := cd1) (srcPos := sp) (destPos := dp) (n := nn) (by rw [hT]; exact g1) (by rw [hT]; exact e1)
    (fun q hq => by rw [hq] at g2'; cases g2') (fun q hq => by rw [e2] at hq; cases hq) g2 (by rw [e2]; exact fun q => (by cases q)) (by rw [g3.1]; exact hkA') (by rw [e3.1]; exact hkA') hkk hkk (by simp [refKind]) h1 h2 h3
    (by rw [xnn h1, xnn h3, z0]; omega) (by rw [xnn h2, xnn h3, z1]; omega)
    (fun vm₁ hal i hi => by
      have hj : sp.toNatClampNeg + i < vs0.length := by omega
      have hf := hel _ (List.getElem_mem hj)
      rw [hgd _ hj]
      revert hf
      generalize vs0[sp.toNatClampNeg + i] = v
      rintro (rfl | ⟨a, k', N, vs, C, Tt, rfl, har, hkk', hcas⟩)
      · exact ⟨rfl, trivial⟩
      · refine ⟨rfl, ?_⟩
        obtain ⟨cell, b1, b2, b3, b4⟩ := xr_cell har hV hS
        have hKb := (hV.1 k' _ hkk' : u_Kn s C Tt N (G.1.1 k') (G.1.2 k')).2
        obtain ⟨kC, hkC, -⟩ := hKb.2
        obtain ⟨c0, t0, f1, f2, f3⟩ := Cond.castable_spec (va_Nw.use (A := args) rfl (hV.2.1 _ hcas))
        cases hKb.1.symm.trans f1
        cases hcomp.symm.trans f2
        obtain ⟨kC', hkC', -⟩ := hal.2.2 _ _ hkC
        obtain ⟨kc', hkc', -⟩ := hal.2.2 _ _ hkcomp
        refine ⟨cell, (by show T.heap[a]? = _; rw [hT]; exact b1), (fun q hq => (by rw [hq] at b3; cases b3)), ⟨kC', (by rw [b4.1]; exact hkC')⟩, ⟨kc', hkc'⟩, ?_⟩
        rw [b4.1]
        show vm₁.assignable _ _ = true
        rw [hal.assignable]
        exact f3)
    (g := F0 m pc ls (.int nn :: .int dp :: .ref a1 :: .int sp :: .ref a0 :: rest)) rfl (by show ls.size = _; rw [hl.1, hL, hF.2.2.1]) (rest := rest) rfl (by rw [hF.2.1]; exact hd) (by rw [r1]; omega) (by show 2 * 0 + _ + _ ≤ _; rw [r2]; omega)
  have hlt : a1 < H.size := (Array.getElem?_eq_some_iff.mp e1).1
  have hheap : ((T.setVm vm').setCell a1 (copied cs cd1 sp dp nn)).heap = H.setIfInBounds a1 (copied cs cd1 sp dp nn) := by rw [← hT]; rfl
  have oq : ∀ q : Nat, q ≠ a1 → (H.setIfInBounds a1 (copied cs cd1 sp dp nn))[q]? = H[q]? := fun q hq => by simp [Array.getElem?_setIfInBounds, Ne.symm hq]
  have oa : (H.setIfInBounds a1 (copied cs cd1 sp dp nn))[a1]? = some (copied cs cd1 sp dp nn) := by simp [Array.getElem?_setIfInBounds, hlt]
  obtain ⟨f1, f2, f3, -, -⟩ := Cell.storeRun_facts cd1 dp.toNatClampNeg (cs.stretch sp.toNatClampNeg nn.toNatClampNeg)
  have hsl : (cs.stretch sp.toNatClampNeg nn.toNatClampNeg).length = nn.toNatClampNeg := by simp [Cell.stretch]
  have hcell : xcell G.1 k (xcopy vs0 vs1 sp.toNatClampNeg dp.toNatClampNeg nn.toNatClampNeg) (copied cs cd1 sp dp nn) := by
    refine ⟨f1.trans e3.1, fun j v hv => ⟨Or.inl (xarr_of hk), ?_⟩, fun _ => by rw [f3, z1, xcopy_len h4 h5]⟩
    rw [hA.2.2 j]
    show (cd1.storeRun dp.toNatClampNeg (cs.stretch sp.toNatClampNeg nn.toNatClampNeg)).slots[j]? = some v
    rw [Cell.storeRun_get _ _ _ _ (by rw [hsl, z1]; exact h5), hsl]
    rw [xcopy_at h4 h5] at hv
    by_cases hj : dp.toNatClampNeg ≤ j ∧ j < dp.toNatClampNeg + nn.toNatClampNeg
    · rw [if_pos hj] at hv ⊢
      unfold Cell.stretch
      rw [List.getElem?_map, List.getElem?_range (by omega)]
      have hj' : sp.toNatClampNeg + (j - dp.toNatClampNeg) < vs0.length := by omega
      rw [List.getElem?_eq_getElem hj'] at hv
      simp only [Option.map_some]
      rw [hgd _ hj']
      exact hv
    · rw [if_neg hj] at hv ⊢
      exact xarr_at hV.1 hk e3 hv
  obtain ⟨t, a1', b1⟩ := kk p e R s m args below meth cd _ _ cells slots ls hF hR0 hl hL (hV.put ga oq) (hS.put ha1 e1 oa (by simp) oq f3 (f2.trans e2) hcell) ⟨by simp; exact hN.1, fun q q1 q2 => by
      rw [oq q (fun e => q2 (by rw [e]; exact ga))]
      exact hN.2.1 q q1 q2, fun q hq => by
      rcases List.mem_append.mp hq with hh | hh
      · exact hN.2.2 q hh
      · obtain ⟨z, -, hz⟩ := List.mem_map.mp hh
        rw [← hz]
        exact ga⟩ _ hheap X'
  exact ⟨t, step t a1', b1⟩
end XM3
end
section
section
abbrev y_ASB_length : MethodName := ⟨"java/lang/AbstractStringBuilder", "length", "()I"⟩
abbrev M_ASB_length : XMt := (y_ASB_length, prog_15_method_6_code, 1, (some .int))
theorem d_ASB_length_0 : decode M_ASB_length.2.1 0 = .ok (.aload_n 0, 1) := by decide +kernel
theorem d_ASB_length_1 : decode M_ASB_length.2.1 1 = .ok (.getfield 79, 3) := by decide +kernel
theorem xw_64 : (Jvm.Cond.fieldLink "java/lang/AbstractStringBuilder" (79 : Nat) "java/lang/AbstractStringBuilder" "count" "I") ∈ xT := xT_at 64 (by decide +kernel) (by decide +kernel)
theorem xf_ASB_79_SB : xF "java/lang/AbstractStringBuilder" 79 k_StringBuilder 3 := ⟨_, _, _, "java/lang/AbstractStringBuilder", rfl, by decide, Or.inl xw_64, Or.inl rfl⟩
theorem d_ASB_length_4 : decode M_ASB_length.2.1 4 = .ok (.ireturn, 1) := by decide +kernel
abbrev y_SB_length : MethodName := ⟨"java/lang/StringBuilder", "length", "()I"⟩
abbrev M_SB_length : XMt := (y_SB_length, prog_26_method_93_code, 1, (some .int))
theorem d_SB_length_0 : decode M_SB_length.2.1 0 = .ok (.aload_n 0, 1) := by decide +kernel
theorem d_SB_length_1 : decode M_SB_length.2.1 1 = .ok (.invokespecial 343, 3) := by decide +kernel
theorem xw_178 : (Jvm.Cond.code ({ cls := "java/lang/AbstractStringBuilder", name := "length", desc := "()I" } : Jvm.MethodName) prog_15_method_6_code (1 : Nat) (Option.some Jvm.ClassFile.FieldType.int)) ∈ xT := xT_at 178 (by decide +kernel) (by decide +kernel)
theorem xw_2 : (Jvm.Cond.initialized "java/lang/AbstractStringBuilder") ∈ xT := xT_at 2 (by decide +kernel) (by decide +kernel)
theorem xcb_ASB_length : xcb M_ASB_length 0 := ⟨xw_178, xw_2, by decide, by decide, by decide, by decide +kernel⟩
theorem xw_177 : (Jvm.Cond.instanceMethod ({ cls := "java/lang/AbstractStringBuilder", name := "length", desc := "()I" } : Jvm.MethodName)) ∈ xT := xT_at 177 (by decide +kernel) (by decide +kernel)
theorem xw_176 : (Jvm.Cond.methodLink "java/lang/StringBuilder" (343 : Nat) ({ cls := "java/lang/AbstractStringBuilder", name := "length", desc := "()I" } : Jvm.MethodName)) ∈ xT := xT_at 176 (by decide +kernel) (by decide +kernel)
theorem xw_1601 : (Jvm.Cond.sameMethod "java/lang/AbstractStringBuilder" "java/lang/AbstractStringBuilder" "length" "()I") ∈ xT := xT_at 1601 (by decide +kernel) (by decide +kernel)
theorem xw_73 : (Jvm.Cond.superclass "java/lang/StringBuilder" "java/lang/AbstractStringBuilder") ∈ xT := xT_at 73 (by decide +kernel) (by decide +kernel)
theorem xcu_SB_343 : xCU "java/lang/StringBuilder" 343 M_ASB_length 0 := ⟨xcb_ASB_length, by decide, xw_177, xw_176, xw_1601, xw_73⟩
theorem d_SB_length_4 : decode M_SB_length.2.1 4 = .ok (.ireturn, 1) := by decide +kernel
abbrev y_ASB_isLatin1 : MethodName := ⟨"java/lang/AbstractStringBuilder", "isLatin1", "()Z"⟩
abbrev M_ASB_isLatin1 : XMt := (y_ASB_isLatin1, prog_15_method_68_code, 1, (some .boolean))
theorem d_ASB_isLatin1_0 : decode M_ASB_isLatin1.2.1 0 = .ok (.getstatic 18, 3) := by decide +kernel
theorem xw_51 : (Jvm.Cond.fieldLink "java/lang/AbstractStringBuilder" (18 : Nat) "java/lang/String" "COMPACT_STRINGS" "Z") ∈ xT := xT_at 51 (by decide +kernel) (by decide +kernel)
theorem d_ASB_isLatin1_3 : decode M_ASB_isLatin1.2.1 3 = .ok (.ifCond .eq 14, 3) := by decide +kernel
theorem d_ASB_isLatin1_6 : decode M_ASB_isLatin1.2.1 6 = .ok (.aload_n 0, 1) := by decide +kernel
theorem d_ASB_isLatin1_7 : decode M_ASB_isLatin1.2.1 7 = .ok (.getfield 22, 3) := by decide +kernel
theorem xw_61 : (Jvm.Cond.fieldLink "java/lang/AbstractStringBuilder" (22 : Nat) "java/lang/AbstractStringBuilder" "coder" "B") ∈ xT := xT_at 61 (by decide +kernel) (by decide +kernel)
theorem xf_ASB_22_SB : xF "java/lang/AbstractStringBuilder" 22 k_StringBuilder 1 := ⟨_, _, _, "java/lang/AbstractStringBuilder", rfl, by decide, Or.inl xw_61, Or.inl rfl⟩
theorem d_ASB_isLatin1_10 : decode M_ASB_isLatin1.2.1 10 = .ok (.ifCond .ne 7, 3) := by decide +kernel
theorem d_ASB_isLatin1_13 : decode M_ASB_isLatin1.2.1 13 = .ok (.iconst 1, 1) := by decide +kernel
theorem d_ASB_isLatin1_14 : decode M_ASB_isLatin1.2.1 14 = .ok (.goto 4, 3) := by decide +kernel
theorem d_ASB_isLatin1_18 : decode M_ASB_isLatin1.2.1 18 = .ok (.ireturn, 1) := by decide +kernel
abbrev y_SL1_canEncode_C : MethodName := ⟨"java/lang/StringLatin1", "canEncode", "(C)Z"⟩
abbrev M_SL1_canEncode_C : XMt := (y_SL1_canEncode_C, prog_27_method_3_code, 1, (some .boolean))
theorem d_SL1_canEncode_C_0 : decode M_SL1_canEncode_C.2.1 0 = .ok (.iload_n 0, 1) := by decide +kernel
theorem d_SL1_canEncode_C_1 : decode M_SL1_canEncode_C.2.1 1 = .ok (.sipush 255, 3) := by decide +kernel
theorem d_SL1_canEncode_C_4 : decode M_SL1_canEncode_C.2.1 4 = .ok (.if_icmp .gt 7, 3) := by decide +kernel
theorem d_SL1_canEncode_C_7 : decode M_SL1_canEncode_C.2.1 7 = .ok (.iconst 1, 1) := by decide +kernel
theorem d_SL1_canEncode_C_8 : decode M_SL1_canEncode_C.2.1 8 = .ok (.goto 4, 3) := by decide +kernel
theorem d_SL1_canEncode_C_12 : decode M_SL1_canEncode_C.2.1 12 = .ok (.ireturn, 1) := by decide +kernel
end
section SB1
variable {l : Launch} {G : XG} {h : XH} {c n d : Nat}
/-- an end that changes nothing -/
abbrev xSame (w : Value) (h : XH) (c n : Nat) : Option Value → XH → Nat → Nat → Prop := fun v h' c' n' => v = some w ∧ h' = h ∧ c' = c ∧ n' = n
/-- characters of one byte, as the byte arrays hold them -/
def xby (t : List Nat) : List Value := t.map (fun ch => .int (nI ch))
def xasc (t : List Nat) : Prop := ∀ ch ∈ t, ch < 128
/-- a StringBuilder: its fields -/
theorem c_ASB_length {a va : Nat} {w z : Value} {k : Int32} (ha : h a = some (k_StringBuilder, [.ref va, w, z, .int k])) : XM l G d M_ASB_length [.ref a] h c n (xSame (.int k) h c n) := by
  refine XM.of (by decide +kernel) (Nat.le_of_ble_eq_true rfl) ?_
  refine x_aload_n d_ASB_length_0 rfl rfl ?_
  refine x_get xf_ASB_79_SB (Or.inl ha) rfl d_ASB_length_1 ?_
  refine x_iret d_ASB_length_4 rfl ?_
  exact ⟨rfl, rfl, rfl, rfl⟩
theorem c_SB_length (hd : 1 ≤ d) {a va : Nat} {w z : Value} {k : Int32} (ha : h a = some (k_StringBuilder, [.ref va, w, z, .int k])) : XM l G d M_SB_length [.ref a] h c n (xSame (.int k) h c n) := by
  obtain ⟨d, rfl⟩ : ∃ q, d = q + 1 := ⟨d - 1, by omega⟩
  refine XM.of (by decide +kernel) (Nat.le_of_ble_eq_true rfl) ?_
  refine x_aload_n d_SB_length_0 rfl rfl ?_
  refine x_callU (As := []) (k := k_StringBuilder) rfl xcu_SB_343 (Or.inl ha) (c_ASB_length ha) rfl rfl (Nat.le_of_ble_eq_true rfl) d_SB_length_1 ?_
  rintro v h' c' n' ⟨rfl, rfl, rfl, rfl⟩
  refine x_iret d_SB_length_4 rfl ?_
  exact ⟨rfl, rfl, rfl, rfl⟩
theorem c_ASB_isLatin1 {a va : Nat} {z : Value} {k : Value} (ha : h a = some (k_StringBuilder, [.ref va, .int 0, z, k])) : XM l G d M_ASB_isLatin1 [.ref a] h c n (xSame (.int 1) h c n) := by
  refine XM.of (by decide +kernel) (Nat.le_of_ble_eq_true rfl) ?_
  refine x_gets xw_51 (List.mem_of_getElem? (i := 0) rfl) d_ASB_isLatin1_0 ?_
  refine x_if_eq (tgt := 17) d_ASB_isLatin1_3 (by decide) (fun ht => absurd ht (by decide)) (fun _ => ?_)
  refine x_aload_n d_ASB_isLatin1_6 rfl rfl ?_
  refine x_get xf_ASB_22_SB (Or.inl ha) rfl d_ASB_isLatin1_7 ?_
  refine x_if_ne (tgt := 17) d_ASB_isLatin1_10 (by decide) (fun ht => absurd (by decide) ht) (fun _ => ?_)
  refine x_iconst (v := 1) d_ASB_isLatin1_13 (by decide) ?_
  refine x_goto (tgt := 18) d_ASB_isLatin1_14 (by decide) ?_
  refine x_zret d_ASB_isLatin1_18 rfl rfl ?_
  exact ⟨rfl, rfl, rfl, rfl⟩
theorem c_SL1_canEncode_C {q : Nat} (hq : q < 256) : XM l G d M_SL1_canEncode_C [.int (nI q)] h c n (xSame (.int 1) h c n) := by
  refine XM.of (by decide +kernel) (Nat.le_of_ble_eq_true rfl) ?_
  refine x_iload_n d_SL1_canEncode_C_0 rfl ?_
  refine x_sipush (v := 255) d_SL1_canEncode_C_1 (by decide) ?_
  refine x_icmp_gt (tgt := 11) d_SL1_canEncode_C_4 (by decide) (fun ht => absurd ht (by exact nI_nlt (a := 255) (b := q) (by omega) (by omega))) (fun _ => ?_)
  refine x_iconst (v := 1) d_SL1_canEncode_C_7 (by decide) ?_
  refine x_goto (tgt := 12) d_SL1_canEncode_C_8 (by decide) ?_
  refine x_zret d_SL1_canEncode_C_12 rfl rfl ?_
  exact ⟨rfl, rfl, rfl, rfl⟩
end SB1
end
section
section
abbrev y_ArraysSupport_newLength : MethodName := ⟨"jdk/internal/util/ArraysSupport", "newLength", "(III)I"⟩
abbrev M_ArraysSupport_newLength : XMt := (y_ArraysSupport_newLength, prog_40_method_27_code, 4, (some .int))
theorem d_ArraysSupport_newLength_0 : decode M_ArraysSupport_newLength.2.1 0 = .ok (.iload_n 0, 1) := by decide +kernel
theorem d_ArraysSupport_newLength_1 : decode M_ArraysSupport_newLength.2.1 1 = .ok (.iload_n 1, 1) := by decide +kernel
theorem d_ArraysSupport_newLength_2 : decode M_ArraysSupport_newLength.2.1 2 = .ok (.iload_n 2, 1) := by decide +kernel
theorem d_ArraysSupport_newLength_3 : decode M_ArraysSupport_newLength.2.1 3 = .ok (.invokestatic 194, 3) := by decide +kernel
theorem xw_197 : (Jvm.Cond.methodLink "jdk/internal/util/ArraysSupport" (194 : Nat) ({ cls := "java/lang/Math", name := "max", desc := "(II)I" } : Jvm.MethodName)) ∈ xT := xT_at 197 (by decide +kernel) (by decide +kernel)
theorem xw_198 : (Jvm.Cond.static ({ cls := "java/lang/Math", name := "max", desc := "(II)I" } : Jvm.MethodName)) ∈ xT := xT_at 198 (by decide +kernel) (by decide +kernel)
theorem xw_10 : (Jvm.Cond.initialized "java/lang/Math") ∈ xT := xT_at 10 (by decide +kernel) (by decide +kernel)
theorem xw_199 : (Jvm.Cond.code ({ cls := "java/lang/Math", name := "max", desc := "(II)I" } : Jvm.MethodName) prog_23_method_65_code (2 : Nat) (Option.some Jvm.ClassFile.FieldType.int)) ∈ xT := xT_at 199 (by decide +kernel) (by decide +kernel)
theorem d_ArraysSupport_newLength_6 : decode M_ArraysSupport_newLength.2.1 6 = .ok (.iadd, 1) := by decide +kernel
theorem d_ArraysSupport_newLength_7 : decode M_ArraysSupport_newLength.2.1 7 = .ok (.istore_n 3, 1) := by decide +kernel
theorem d_ArraysSupport_newLength_8 : decode M_ArraysSupport_newLength.2.1 8 = .ok (.iconst 0, 1) := by decide +kernel
theorem d_ArraysSupport_newLength_9 : decode M_ArraysSupport_newLength.2.1 9 = .ok (.iload_n 3, 1) := by decide +kernel
theorem d_ArraysSupport_newLength_10 : decode M_ArraysSupport_newLength.2.1 10 = .ok (.if_icmp .ge 11, 3) := by decide +kernel
theorem d_ArraysSupport_newLength_13 : decode M_ArraysSupport_newLength.2.1 13 = .ok (.iload_n 3, 1) := by decide +kernel
theorem d_ArraysSupport_newLength_14 : decode M_ArraysSupport_newLength.2.1 14 = .ok (.ldc 200, 2) := by decide +kernel
theorem xw_200 : (Jvm.Cond.constant "jdk/internal/util/ArraysSupport" (200 : Nat) (2147483639 : Int32)) ∈ xT := xT_at 200 (by decide +kernel) (by decide +kernel)
theorem d_ArraysSupport_newLength_16 : decode M_ArraysSupport_newLength.2.1 16 = .ok (.if_icmp .gt 5, 3) := by decide +kernel
theorem d_ArraysSupport_newLength_19 : decode M_ArraysSupport_newLength.2.1 19 = .ok (.iload_n 3, 1) := by decide +kernel
theorem d_ArraysSupport_newLength_20 : decode M_ArraysSupport_newLength.2.1 20 = .ok (.ireturn, 1) := by decide +kernel
abbrev y_ASB_newCapacity : MethodName := ⟨"java/lang/AbstractStringBuilder", "newCapacity", "(I)I"⟩
abbrev M_ASB_newCapacity : XMt := (y_ASB_newCapacity, prog_15_method_10_code, 6, (some .int))
theorem d_ASB_newCapacity_0 : decode M_ASB_newCapacity.2.1 0 = .ok (.aload_n 0, 1) := by decide +kernel
theorem d_ASB_newCapacity_1 : decode M_ASB_newCapacity.2.1 1 = .ok (.getfield 15, 3) := by decide +kernel
theorem xw_60 : (Jvm.Cond.fieldLink "java/lang/AbstractStringBuilder" (15 : Nat) "java/lang/AbstractStringBuilder" "value" "[B") ∈ xT := xT_at 60 (by decide +kernel) (by decide +kernel)
theorem xf_ASB_15_SB : xF "java/lang/AbstractStringBuilder" 15 k_StringBuilder 0 := ⟨_, _, _, "java/lang/AbstractStringBuilder", rfl, by decide, Or.inl xw_60, Or.inl rfl⟩
theorem d_ASB_newCapacity_4 : decode M_ASB_newCapacity.2.1 4 = .ok (.arraylength, 1) := by decide +kernel
theorem d_ASB_newCapacity_5 : decode M_ASB_newCapacity.2.1 5 = .ok (.istore_n 2, 1) := by decide +kernel
theorem d_ASB_newCapacity_6 : decode M_ASB_newCapacity.2.1 6 = .ok (.iload_n 1, 1) := by decide +kernel
theorem d_ASB_newCapacity_7 : decode M_ASB_newCapacity.2.1 7 = .ok (.aload_n 0, 1) := by decide +kernel
theorem d_ASB_newCapacity_8 : decode M_ASB_newCapacity.2.1 8 = .ok (.getfield 22, 3) := by decide +kernel
theorem d_ASB_newCapacity_11 : decode M_ASB_newCapacity.2.1 11 = .ok (.ishl, 1) := by decide +kernel
theorem d_ASB_newCapacity_12 : decode M_ASB_newCapacity.2.1 12 = .ok (.istore_n 3, 1) := by decide +kernel
theorem d_ASB_newCapacity_13 : decode M_ASB_newCapacity.2.1 13 = .ok (.iload_n 3, 1) := by decide +kernel
theorem d_ASB_newCapacity_14 : decode M_ASB_newCapacity.2.1 14 = .ok (.iload_n 2, 1) := by decide +kernel
theorem d_ASB_newCapacity_15 : decode M_ASB_newCapacity.2.1 15 = .ok (.isub, 1) := by decide +kernel
theorem d_ASB_newCapacity_16 : decode M_ASB_newCapacity.2.1 16 = .ok (.istore 4, 2) := by decide +kernel
theorem d_ASB_newCapacity_18 : decode M_ASB_newCapacity.2.1 18 = .ok (.iload_n 2, 1) := by decide +kernel
theorem d_ASB_newCapacity_19 : decode M_ASB_newCapacity.2.1 19 = .ok (.iload 4, 2) := by decide +kernel
theorem d_ASB_newCapacity_21 : decode M_ASB_newCapacity.2.1 21 = .ok (.iload_n 2, 1) := by decide +kernel
theorem d_ASB_newCapacity_22 : decode M_ASB_newCapacity.2.1 22 = .ok (.iconst 2, 1) := by decide +kernel
theorem d_ASB_newCapacity_23 : decode M_ASB_newCapacity.2.1 23 = .ok (.aload_n 0, 1) := by decide +kernel
theorem d_ASB_newCapacity_24 : decode M_ASB_newCapacity.2.1 24 = .ok (.getfield 22, 3) := by decide +kernel
theorem d_ASB_newCapacity_27 : decode M_ASB_newCapacity.2.1 27 = .ok (.ishl, 1) := by decide +kernel
theorem d_ASB_newCapacity_28 : decode M_ASB_newCapacity.2.1 28 = .ok (.iadd, 1) := by decide +kernel
theorem d_ASB_newCapacity_29 : decode M_ASB_newCapacity.2.1 29 = .ok (.invokestatic 114, 3) := by decide +kernel
theorem xw_196 : (Jvm.Cond.code ({ cls := "jdk/internal/util/ArraysSupport", name := "newLength", desc := "(III)I" } : Jvm.MethodName) prog_40_method_27_code (4 : Nat) (Option.some Jvm.ClassFile.FieldType.int)) ∈ xT := xT_at 196 (by decide +kernel) (by decide +kernel)
theorem xw_9 : (Jvm.Cond.initialized "jdk/internal/util/ArraysSupport") ∈ xT := xT_at 9 (by decide +kernel) (by decide +kernel)
theorem xcb_ArraysSupport_newLength : xcb M_ArraysSupport_newLength 3 := ⟨xw_196, xw_9, by decide, by decide, by decide, by decide +kernel⟩
theorem xw_194 : (Jvm.Cond.methodLink "java/lang/AbstractStringBuilder" (114 : Nat) ({ cls := "jdk/internal/util/ArraysSupport", name := "newLength", desc := "(III)I" } : Jvm.MethodName)) ∈ xT := xT_at 194 (by decide +kernel) (by decide +kernel)
theorem xw_195 : (Jvm.Cond.static ({ cls := "jdk/internal/util/ArraysSupport", name := "newLength", desc := "(III)I" } : Jvm.MethodName)) ∈ xT := xT_at 195 (by decide +kernel) (by decide +kernel)
theorem xcs_ASB_114 : xCS "java/lang/AbstractStringBuilder" 114 M_ArraysSupport_newLength 3 := ⟨xcb_ArraysSupport_newLength, xw_195, Or.inl xw_194⟩
theorem d_ASB_newCapacity_32 : decode M_ASB_newCapacity.2.1 32 = .ok (.istore 5, 2) := by decide +kernel
theorem d_ASB_newCapacity_34 : decode M_ASB_newCapacity.2.1 34 = .ok (.iload 5, 2) := by decide +kernel
theorem d_ASB_newCapacity_36 : decode M_ASB_newCapacity.2.1 36 = .ok (.ldc 39, 2) := by decide +kernel
theorem xw_204 : (Jvm.Cond.constant "java/lang/AbstractStringBuilder" (39 : Nat) (2147483647 : Int32)) ∈ xT := xT_at 204 (by decide +kernel) (by decide +kernel)
theorem d_ASB_newCapacity_38 : decode M_ASB_newCapacity.2.1 38 = .ok (.if_icmp .ne 13, 3) := by decide +kernel
theorem d_ASB_newCapacity_51 : decode M_ASB_newCapacity.2.1 51 = .ok (.iload 5, 2) := by decide +kernel
theorem d_ASB_newCapacity_53 : decode M_ASB_newCapacity.2.1 53 = .ok (.aload_n 0, 1) := by decide +kernel
theorem d_ASB_newCapacity_54 : decode M_ASB_newCapacity.2.1 54 = .ok (.getfield 22, 3) := by decide +kernel
theorem d_ASB_newCapacity_57 : decode M_ASB_newCapacity.2.1 57 = .ok (.ishr, 1) := by decide +kernel
theorem d_ASB_newCapacity_58 : decode M_ASB_newCapacity.2.1 58 = .ok (.ireturn, 1) := by decide +kernel
abbrev y_Arrays_copyOf_aBI : MethodName := ⟨"java/util/Arrays", "copyOf", "([BI)[B"⟩
abbrev M_Arrays_copyOf_aBI : XMt := (y_Arrays_copyOf_aBI, prog_34_method_121_code, 3, (some (.array .byte)))
theorem d_Arrays_copyOf_aBI_0 : decode M_Arrays_copyOf_aBI.2.1 0 = .ok (.iload_n 1, 1) := by decide +kernel
theorem d_Arrays_copyOf_aBI_1 : decode M_Arrays_copyOf_aBI.2.1 1 = .ok (.aload_n 0, 1) := by decide +kernel
theorem d_Arrays_copyOf_aBI_2 : decode M_Arrays_copyOf_aBI.2.1 2 = .ok (.arraylength, 1) := by decide +kernel
theorem d_Arrays_copyOf_aBI_3 : decode M_Arrays_copyOf_aBI.2.1 3 = .ok (.if_icmp .ne 11, 3) := by decide +kernel
theorem d_Arrays_copyOf_aBI_14 : decode M_Arrays_copyOf_aBI.2.1 14 = .ok (.iload_n 1, 1) := by decide +kernel
theorem d_Arrays_copyOf_aBI_15 : decode M_Arrays_copyOf_aBI.2.1 15 = .ok (.newarray .byte, 2) := by decide +kernel
theorem xw_74 : (Jvm.Cond.arrayClass Jvm.ClassFile.FieldType.byte) ∈ xT := xT_at 74 (by decide +kernel) (by decide +kernel)
theorem d_Arrays_copyOf_aBI_17 : decode M_Arrays_copyOf_aBI.2.1 17 = .ok (.astore_n 2, 1) := by decide +kernel
theorem d_Arrays_copyOf_aBI_18 : decode M_Arrays_copyOf_aBI.2.1 18 = .ok (.aload_n 0, 1) := by decide +kernel
theorem d_Arrays_copyOf_aBI_19 : decode M_Arrays_copyOf_aBI.2.1 19 = .ok (.iconst 0, 1) := by decide +kernel
theorem d_Arrays_copyOf_aBI_20 : decode M_Arrays_copyOf_aBI.2.1 20 = .ok (.aload_n 2, 1) := by decide +kernel
theorem d_Arrays_copyOf_aBI_21 : decode M_Arrays_copyOf_aBI.2.1 21 = .ok (.iconst 0, 1) := by decide +kernel
theorem d_Arrays_copyOf_aBI_22 : decode M_Arrays_copyOf_aBI.2.1 22 = .ok (.aload_n 0, 1) := by decide +kernel
theorem d_Arrays_copyOf_aBI_23 : decode M_Arrays_copyOf_aBI.2.1 23 = .ok (.arraylength, 1) := by decide +kernel
theorem d_Arrays_copyOf_aBI_24 : decode M_Arrays_copyOf_aBI.2.1 24 = .ok (.iload_n 1, 1) := by decide +kernel
theorem d_Arrays_copyOf_aBI_25 : decode M_Arrays_copyOf_aBI.2.1 25 = .ok (.invokestatic 304, 3) := by decide +kernel
theorem xw_215 : (Jvm.Cond.methodLink "java/util/Arrays" (304 : Nat) ({ cls := "java/lang/Math", name := "min", desc := "(II)I" } : Jvm.MethodName)) ∈ xT := xT_at 215 (by decide +kernel) (by decide +kernel)
theorem xw_216 : (Jvm.Cond.static ({ cls := "java/lang/Math", name := "min", desc := "(II)I" } : Jvm.MethodName)) ∈ xT := xT_at 216 (by decide +kernel) (by decide +kernel)
theorem xw_217 : (Jvm.Cond.code ({ cls := "java/lang/Math", name := "min", desc := "(II)I" } : Jvm.MethodName) prog_23_method_69_code (2 : Nat) (Option.some Jvm.ClassFile.FieldType.int)) ∈ xT := xT_at 217 (by decide +kernel) (by decide +kernel)
theorem d_Arrays_copyOf_aBI_28 : decode M_Arrays_copyOf_aBI.2.1 28 = .ok (.invokestatic 150, 3) := by decide +kernel
theorem xw_218 : (Jvm.Cond.methodLink "java/util/Arrays" (150 : Nat) ({ cls := "java/lang/System", name := "arraycopy", desc := "(Ljava/lang/Object;ILjava/lang/Object;II)V" } : Jvm.MethodName)) ∈ xT := xT_at 218 (by decide +kernel) (by decide +kernel)
theorem xw_220 : (Jvm.Cond.native ({ cls := "java/lang/System", name := "arraycopy", desc := "(Ljava/lang/Object;ILjava/lang/Object;II)V" } : Jvm.MethodName)) ∈ xT := xT_at 220 (by decide +kernel) (by decide +kernel)
theorem xw_219 : (Jvm.Cond.static ({ cls := "java/lang/System", name := "arraycopy", desc := "(Ljava/lang/Object;ILjava/lang/Object;II)V" } : Jvm.MethodName)) ∈ xT := xT_at 219 (by decide +kernel) (by decide +kernel)
theorem xw_12 : (Jvm.Cond.initialized "java/lang/System") ∈ xT := xT_at 12 (by decide +kernel) (by decide +kernel)
theorem d_Arrays_copyOf_aBI_31 : decode M_Arrays_copyOf_aBI.2.1 31 = .ok (.aload_n 2, 1) := by decide +kernel
theorem d_Arrays_copyOf_aBI_32 : decode M_Arrays_copyOf_aBI.2.1 32 = .ok (.areturn, 1) := by decide +kernel
end
section SB2
variable {l : Launch} {G : XG} {h : XH} {c n d : Nat}
theorem xby_len (t : List Nat) : (xby t).length = t.length := by simp [xby]
theorem xfit1 : ∀ q, q < 128 → fits .byte (.int (nI q)) = true ∧ (nI q).toInt8.toInt32 = nI q ∧ narrow .byte (.int (nI q)) = .int (nI q) ∧ nI q &&& 255 = nI q ∧ ((nI q).toUInt32 % 65536).toInt32 = nI q := by decide +kernel
theorem xby_fit {t : List Nat} (ht : xasc t) : ∀ v ∈ xby t, fits .byte v = true := by
  intro v hv
  obtain ⟨q, hq, rfl⟩ := List.mem_map.mp hv
  exact (xfit1 q (ht q hq)).1
theorem nI_max {g p : Nat} (hg : g < 2 ^ 31) (hp : p < 2 ^ 31) : (if nI g < nI p then nI p else nI g) = nI (max g p) := by
  by_cases h : g < p
  · rw [if_pos (nI_lt h hp), Nat.max_eq_right (Nat.le_of_lt h)]
  · rw [if_neg (nI_nlt (by omega) hg), Nat.max_eq_left (by omega)]
theorem nI_min {g p : Nat} (hg : g < 2 ^ 31) (hp : p < 2 ^ 31) : (if nI p < nI g then nI p else nI g) = nI (min g p) := by
  by_cases h : p < g
  · rw [if_pos (nI_lt h hg), Nat.min_eq_right (Nat.le_of_lt h)]
  · rw [if_neg (nI_nlt (by omega) hp), Nat.min_eq_left (by omega)]
theorem c_newLength (hd : 1 ≤ d) {o g p : Nat} (ho : o < 2 ^ 20) (hg : g < 2 ^ 20) (hp : p < 2 ^ 20) (h0 : 0 < o + max g p) : XM l G d M_ArraysSupport_newLength [.int (nI o), .int (nI g), .int (nI p)] h c n (xSame (.int (nI (o + max g p))) h c n) := by
  obtain ⟨d, rfl⟩ : ∃ q, d = q + 1 := ⟨d - 1, by omega⟩
  have hm : max g p < 2 ^ 20 := by omega
  refine XM.of (by decide +kernel) (Nat.le_of_ble_eq_true rfl) ?_
  refine x_iload_n d_ArraysSupport_newLength_0 rfl ?_
  refine x_iload_n d_ArraysSupport_newLength_1 rfl ?_
  refine x_iload_n d_ArraysSupport_newLength_2 rfl ?_
  refine x_mmax xw_197 xw_198 xw_10 xw_199 (Nat.le_of_ble_eq_true rfl) d_ArraysSupport_newLength_3 ?_
  refine x_top (w := .int (nI (max g p))) (by rw [nI_max (by omega) (by omega)]) ?_
  refine x_iadd d_ArraysSupport_newLength_6 ?_
  refine x_top (w := .int (nI (o + max g p))) (by rw [nI_add]) ?_
  refine x_istore_n (L' := [_, _, _, _]) d_ArraysSupport_newLength_7 rfl rfl ?_
  refine x_iconst (v := 0) d_ArraysSupport_newLength_8 (by decide) ?_
  refine x_iload_n d_ArraysSupport_newLength_9 rfl ?_
  refine x_icmp_ge (tgt := 21) d_ArraysSupport_newLength_10 (by decide) (fun ht => absurd ht (nI_nle h0 (by omega))) (fun _ => ?_)
  refine x_iload_n d_ArraysSupport_newLength_13 rfl ?_
  refine x_ldc (v := 2147483639) xw_200 d_ArraysSupport_newLength_14 ?_
  refine x_icmp_gt (tgt := 21) d_ArraysSupport_newLength_16 (by decide) (fun ht => absurd ht (by exact nI_nlt (a := 2147483639) (b := o + max g p) (by omega) (by omega))) (fun _ => ?_)
  refine x_iload_n d_ArraysSupport_newLength_19 rfl ?_
  refine x_iret d_ArraysSupport_newLength_20 rfl ?_
  exact ⟨rfl, rfl, rfl, rfl⟩
theorem c_newCapacity (hd : 2 ≤ d) {a va m : Nat} {z k : Value} {vs : List Value} (ha : h a = some (k_StringBuilder, [.ref va, .int 0, z, k])) (hv : h va = some (k_abyte, vs)) (hm : vs.length < m) (hb : m < 2 ^ 18) : XM l G d M_ASB_newCapacity [.ref a, .int (nI m)] h c n (xSame (.int (nI (max m (2 * vs.length + 2)))) h c n) := by
  obtain ⟨d, rfl⟩ : ∃ q, d = q + 1 := ⟨d - 1, by omega⟩
  refine XM.of (by decide +kernel) (Nat.le_of_ble_eq_true rfl) ?_
  refine x_aload_n d_ASB_newCapacity_0 rfl rfl ?_
  refine x_get xf_ASB_15_SB (Or.inl ha) rfl d_ASB_newCapacity_1 ?_
  refine x_alen (k := k_abyte) rfl (Or.inl hv) (v := nI vs.length) rfl d_ASB_newCapacity_4 ?_
  refine x_istore_n (L' := [_, _, _, _, _, _]) d_ASB_newCapacity_5 rfl rfl ?_
  refine x_iload_n d_ASB_newCapacity_6 rfl ?_
  refine x_aload_n d_ASB_newCapacity_7 rfl rfl ?_
  refine x_get xf_ASB_22_SB (Or.inl ha) rfl d_ASB_newCapacity_8 ?_
  refine x_ishl d_ASB_newCapacity_11 ?_
  refine x_top (w := .int (nI m)) (by rw [sb_shl0]) ?_
  refine x_istore_n (L' := [_, _, _, _, _, _]) d_ASB_newCapacity_12 rfl rfl ?_
  refine x_iload_n d_ASB_newCapacity_13 rfl ?_
  refine x_iload_n d_ASB_newCapacity_14 rfl ?_
  refine x_isub d_ASB_newCapacity_15 ?_
  refine x_top (w := .int (nI (m - vs.length))) (by rw [pk_sub (by omega)]) ?_
  refine x_istore (L' := [_, _, _, _, _, _]) d_ASB_newCapacity_16 rfl rfl ?_
  refine x_iload_n d_ASB_newCapacity_18 rfl ?_
  refine x_iload d_ASB_newCapacity_19 rfl ?_
  refine x_iload_n d_ASB_newCapacity_21 rfl ?_
  refine x_iconst (v := 2) d_ASB_newCapacity_22 (by decide) ?_
  refine x_aload_n d_ASB_newCapacity_23 rfl rfl ?_
  refine x_get xf_ASB_22_SB (Or.inl ha) rfl d_ASB_newCapacity_24 ?_
  refine x_ishl d_ASB_newCapacity_27 ?_
  refine x_st (st' := [.int 2, .int (nI vs.length), .int (nI (m - vs.length)), .int (nI vs.length)]) (by rw [sb_shl0]) ?_
  refine x_iadd d_ASB_newCapacity_28 ?_
  refine x_top (w := .int (nI (vs.length + 2))) (by rw [show (2 : Int32) = nI 2 from rfl, nI_add]) ?_
  refine x_callS (As := [_, _, _]) xcs_ASB_114 (c_newLength (by omega) (o := vs.length) (g := m - vs.length) (p := vs.length + 2) (by omega) (by omega) (by omega) (by omega)) rfl rfl (Nat.le_of_ble_eq_true rfl) d_ASB_newCapacity_29 ?_
  rintro v h' c' n' ⟨rfl, rfl, rfl, rfl⟩
  have e : vs.length + max (m - vs.length) (vs.length + 2) = max m (2 * vs.length + 2) := by omega
  rw [e]
  have hl : max m (2 * vs.length + 2) < 2 ^ 20 := by omega
  refine x_istore (L' := [_, _, _, _, _, _]) d_ASB_newCapacity_32 rfl rfl ?_
  refine x_iload d_ASB_newCapacity_34 rfl ?_
  refine x_ldc (v := 2147483647) xw_204 d_ASB_newCapacity_36 ?_
  refine x_icmp_ne (tgt := 51) d_ASB_newCapacity_38 (by decide) (fun _ => ?_) (fun hn => absurd hn (by rw [show (2147483647 : Int32) = nI 2147483647 from rfl, nI_eq (by omega) (by omega)]; omega))
  refine x_iload d_ASB_newCapacity_51 rfl ?_
  refine x_aload_n d_ASB_newCapacity_53 rfl rfl ?_
  refine x_get xf_ASB_22_SB (Or.inl ha) rfl d_ASB_newCapacity_54 ?_
  refine x_ishr d_ASB_newCapacity_57 ?_
  refine x_top (w := .int (nI (max m (2 * vs.length + 2)))) (by rw [sb_shr0]) ?_
  refine x_iret d_ASB_newCapacity_58 rfl ?_
  exact ⟨rfl, rfl, rfl, rfl⟩
/-- an end that is a new cell -/
abbrev xMade (k : Nat) (vs : List Value) (h : XH) (c n : Nat) : Option Value → XH → Nat → Nat → Prop := fun v h' c' n' => ∃ q, v = some (.ref q) ∧ h q = none ∧ h' = xup h q (k, vs) ∧ c' = c + 1 ∧ n' = n + vs.length
theorem xcopy_grow {vs : List Value} {m : Nat} {z : Value} (hm : vs.length ≤ m) : xcopy vs (List.replicate m z) 0 0 vs.length = vs ++ List.replicate (m - vs.length) z := by
  unfold xcopy
  simp
theorem c_copyOf_aB (hd : 1 ≤ d) {a m : Nat} {vs : List Value} (ha : xr G h a k_abyte vs) (hf : ∀ v ∈ vs, fits .byte v = true) (hm : vs.length < m) (hb : m < 2 ^ 20) (hc : c + 1 ≤ xCB) (hn : n + m ≤ xSB) : XM l G d M_Arrays_copyOf_aBI [.ref a, .int (nI m)] h c n (xMade k_abyte (vs ++ List.replicate (m - vs.length) (.int 0)) h c n) := by
  obtain ⟨d, rfl⟩ : ∃ q, d = q + 1 := ⟨d - 1, by omega⟩
  refine XM.of (by decide +kernel) (Nat.le_of_ble_eq_true rfl) ?_
  refine x_iload_n d_Arrays_copyOf_aBI_0 rfl ?_
  refine x_aload_n d_Arrays_copyOf_aBI_1 rfl rfl ?_
  refine x_alen (k := k_abyte) rfl ha (v := nI vs.length) rfl d_Arrays_copyOf_aBI_2 ?_
  refine x_icmp_ne (tgt := 14) d_Arrays_copyOf_aBI_3 (by decide) (fun _ => ?_) (fun hn => absurd hn (by rw [nI_eq (by omega) (by omega)]; omega))
  refine x_iload_n d_Arrays_copyOf_aBI_14 rfl ?_
  refine x_newa (k := k_abyte) rfl rfl (fun _ hz => by cases hz) xw_74 (nI_pos (by omega)) (nI_clamp (by omega)) (by show m * 1 ≤ _; omega) hc hn d_Arrays_copyOf_aBI_15 (fun q hn_q hk_q => ?_)
  refine x_astore_n (L' := [_, _, _]) d_Arrays_copyOf_aBI_17 rfl rfl rfl ?_
  refine x_aload_n d_Arrays_copyOf_aBI_18 rfl rfl ?_
  refine x_iconst (v := 0) d_Arrays_copyOf_aBI_19 (by decide) ?_
  refine x_aload_n d_Arrays_copyOf_aBI_20 rfl rfl ?_
  refine x_iconst (v := 0) d_Arrays_copyOf_aBI_21 (by decide) ?_
  refine x_aload_n d_Arrays_copyOf_aBI_22 rfl rfl ?_
  refine x_alen (k := k_abyte) rfl (xr_up ha hn_q) (v := nI vs.length) rfl d_Arrays_copyOf_aBI_23 ?_
  refine x_iload_n d_Arrays_copyOf_aBI_24 rfl ?_
  refine x_mmin xw_215 xw_216 xw_10 xw_217 (Nat.le_of_ble_eq_true rfl) d_Arrays_copyOf_aBI_25 ?_
  refine x_top (w := .int (nI vs.length)) (by rw [nI_min (by omega) (by omega), Nat.min_eq_left (by omega)]) ?_
  refine x_copyP (k0 := k_abyte) (k := k_abyte) rfl rfl rfl xw_218 xw_220 xw_219 xw_12 (xr_up ha hn_q) xup_self (by decide) (by decide) (nI_pos (by omega)) (by rw [nI_clamp (by omega)]; exact Nat.le_of_eq (by simp)) (by rw [nI_clamp (by omega)]; simp; omega) hf (Nat.le_of_ble_eq_true rfl) d_Arrays_copyOf_aBI_28 ?_
  refine x_hp (h' := xup h q (k_abyte, vs ++ List.replicate (m - vs.length) (.int 0))) (by rw [xup_up, nI_clamp (by omega), ← xcopy_grow (by omega)]; rfl) ?_
  refine x_aload_n d_Arrays_copyOf_aBI_31 rfl rfl ?_
  refine x_aret d_Arrays_copyOf_aBI_32 rfl rfl ?_
  exact ⟨q, rfl, hn_q, rfl, rfl, by simp; omega⟩
end SB2
end
section
section
abbrev y_ASB_ensureCapacityInternal : MethodName := ⟨"java/lang/AbstractStringBuilder", "ensureCapacityInternal", "(I)V"⟩
abbrev M_ASB_ensureCapacityInternal : XMt := (y_ASB_ensureCapacityInternal, prog_15_method_9_code, 3, none)
theorem d_ASB_ensureCapacityInternal_0 : decode M_ASB_ensureCapacityInternal.2.1 0 = .ok (.aload_n 0, 1) := by decide +kernel
theorem d_ASB_ensureCapacityInternal_1 : decode M_ASB_ensureCapacityInternal.2.1 1 = .ok (.getfield 15, 3) := by decide +kernel
theorem d_ASB_ensureCapacityInternal_4 : decode M_ASB_ensureCapacityInternal.2.1 4 = .ok (.arraylength, 1) := by decide +kernel
theorem d_ASB_ensureCapacityInternal_5 : decode M_ASB_ensureCapacityInternal.2.1 5 = .ok (.aload_n 0, 1) := by decide +kernel
theorem d_ASB_ensureCapacityInternal_6 : decode M_ASB_ensureCapacityInternal.2.1 6 = .ok (.getfield 22, 3) := by decide +kernel
theorem d_ASB_ensureCapacityInternal_9 : decode M_ASB_ensureCapacityInternal.2.1 9 = .ok (.ishr, 1) := by decide +kernel
theorem d_ASB_ensureCapacityInternal_10 : decode M_ASB_ensureCapacityInternal.2.1 10 = .ok (.istore_n 2, 1) := by decide +kernel
theorem d_ASB_ensureCapacityInternal_11 : decode M_ASB_ensureCapacityInternal.2.1 11 = .ok (.iload_n 1, 1) := by decide +kernel
theorem d_ASB_ensureCapacityInternal_12 : decode M_ASB_ensureCapacityInternal.2.1 12 = .ok (.iload_n 2, 1) := by decide +kernel
theorem d_ASB_ensureCapacityInternal_13 : decode M_ASB_ensureCapacityInternal.2.1 13 = .ok (.isub, 1) := by decide +kernel
theorem d_ASB_ensureCapacityInternal_14 : decode M_ASB_ensureCapacityInternal.2.1 14 = .ok (.ifCond .le 24, 3) := by decide +kernel
theorem d_ASB_ensureCapacityInternal_38 : decode M_ASB_ensureCapacityInternal.2.1 38 = .ok (.return_, 1) := by decide +kernel
theorem d_ASB_ensureCapacityInternal_17 : decode M_ASB_ensureCapacityInternal.2.1 17 = .ok (.aload_n 0, 1) := by decide +kernel
theorem d_ASB_ensureCapacityInternal_18 : decode M_ASB_ensureCapacityInternal.2.1 18 = .ok (.aload_n 0, 1) := by decide +kernel
theorem d_ASB_ensureCapacityInternal_19 : decode M_ASB_ensureCapacityInternal.2.1 19 = .ok (.getfield 15, 3) := by decide +kernel
theorem d_ASB_ensureCapacityInternal_22 : decode M_ASB_ensureCapacityInternal.2.1 22 = .ok (.aload_n 0, 1) := by decide +kernel
theorem d_ASB_ensureCapacityInternal_23 : decode M_ASB_ensureCapacityInternal.2.1 23 = .ok (.iload_n 1, 1) := by decide +kernel
theorem d_ASB_ensureCapacityInternal_24 : decode M_ASB_ensureCapacityInternal.2.1 24 = .ok (.invokevirtual 104, 3) := by decide +kernel
theorem xw_193 : (Jvm.Cond.code ({ cls := "java/lang/AbstractStringBuilder", name := "newCapacity", desc := "(I)I" } : Jvm.MethodName) prog_15_method_10_code (6 : Nat) (Option.some Jvm.ClassFile.FieldType.int)) ∈ xT := xT_at 193 (by decide +kernel) (by decide +kernel)
theorem xcb_ASB_newCapacity : xcb M_ASB_newCapacity 1 := ⟨xw_193, xw_2, by decide, by decide, by decide, by decide +kernel⟩
theorem xw_192 : (Jvm.Cond.instanceMethod ({ cls := "java/lang/AbstractStringBuilder", name := "newCapacity", desc := "(I)I" } : Jvm.MethodName)) ∈ xT := xT_at 192 (by decide +kernel) (by decide +kernel)
theorem xw_190 : (Jvm.Cond.methodLink "java/lang/AbstractStringBuilder" (104 : Nat) ({ cls := "java/lang/AbstractStringBuilder", name := "newCapacity", desc := "(I)I" } : Jvm.MethodName)) ∈ xT := xT_at 190 (by decide +kernel) (by decide +kernel)
theorem xps_ASB_newCapacity_SB : Cond.selects "java/lang/StringBuilder" y_ASB_newCapacity y_ASB_newCapacity ∈ xT := xT_ps (by decide +kernel) (by decide +kernel)
theorem xcv_ASB_104_SB : xCV "java/lang/AbstractStringBuilder" 104 "java/lang/StringBuilder" M_ASB_newCapacity 1 := ⟨xcb_ASB_newCapacity, xw_192, Or.inl ⟨xw_190, Or.inl xps_ASB_newCapacity_SB⟩⟩
theorem d_ASB_ensureCapacityInternal_27 : decode M_ASB_ensureCapacityInternal.2.1 27 = .ok (.aload_n 0, 1) := by decide +kernel
theorem d_ASB_ensureCapacityInternal_28 : decode M_ASB_ensureCapacityInternal.2.1 28 = .ok (.getfield 22, 3) := by decide +kernel
theorem d_ASB_ensureCapacityInternal_31 : decode M_ASB_ensureCapacityInternal.2.1 31 = .ok (.ishl, 1) := by decide +kernel
theorem d_ASB_ensureCapacityInternal_32 : decode M_ASB_ensureCapacityInternal.2.1 32 = .ok (.invokestatic 108, 3) := by decide +kernel
theorem xw_207 : (Jvm.Cond.code ({ cls := "java/util/Arrays", name := "copyOf", desc := "([BI)[B" } : Jvm.MethodName) prog_34_method_121_code (3 : Nat) (Option.some (Jvm.ClassFile.FieldType.array Jvm.ClassFile.FieldType.byte))) ∈ xT := xT_at 207 (by decide +kernel) (by decide +kernel)
theorem xw_11 : (Jvm.Cond.initialized "java/util/Arrays") ∈ xT := xT_at 11 (by decide +kernel) (by decide +kernel)
theorem xcb_Arrays_copyOf_aBI : xcb M_Arrays_copyOf_aBI 2 := ⟨xw_207, xw_11, by decide, by decide, by decide, by decide +kernel⟩
theorem xw_205 : (Jvm.Cond.methodLink "java/lang/AbstractStringBuilder" (108 : Nat) ({ cls := "java/util/Arrays", name := "copyOf", desc := "([BI)[B" } : Jvm.MethodName)) ∈ xT := xT_at 205 (by decide +kernel) (by decide +kernel)
theorem xw_206 : (Jvm.Cond.static ({ cls := "java/util/Arrays", name := "copyOf", desc := "([BI)[B" } : Jvm.MethodName)) ∈ xT := xT_at 206 (by decide +kernel) (by decide +kernel)
theorem xcs_ASB_108 : xCS "java/lang/AbstractStringBuilder" 108 M_Arrays_copyOf_aBI 2 := ⟨xcb_Arrays_copyOf_aBI, xw_206, Or.inl xw_205⟩
theorem d_ASB_ensureCapacityInternal_35 : decode M_ASB_ensureCapacityInternal.2.1 35 = .ok (.putfield 15, 3) := by decide +kernel
theorem xp_SB_0 : xP k_StringBuilder 0 false (.array .byte) := ⟨_, _, _, rfl, rfl, by decide +kernel⟩
abbrev y_ASB_append_C : MethodName := ⟨"java/lang/AbstractStringBuilder", "append", "(C)Ljava/lang/AbstractStringBuilder;"⟩
abbrev M_ASB_append_C : XMt := (y_ASB_append_C, prog_15_method_31_code, 2, (some (.object "java/lang/AbstractStringBuilder")))
theorem d_ASB_append_C_10 : decode M_ASB_append_C.2.1 10 = .ok (.aload_n 0, 1) := by decide +kernel
theorem d_ASB_append_C_11 : decode M_ASB_append_C.2.1 11 = .ok (.invokevirtual 83, 3) := by decide +kernel
theorem xw_225 : (Jvm.Cond.code ({ cls := "java/lang/AbstractStringBuilder", name := "isLatin1", desc := "()Z" } : Jvm.MethodName) prog_15_method_68_code (1 : Nat) (Option.some Jvm.ClassFile.FieldType.boolean)) ∈ xT := xT_at 225 (by decide +kernel) (by decide +kernel)
theorem xcb_ASB_isLatin1 : xcb M_ASB_isLatin1 0 := ⟨xw_225, xw_2, by decide, by decide, by decide, by decide +kernel⟩
theorem xw_222 : (Jvm.Cond.instanceMethod ({ cls := "java/lang/AbstractStringBuilder", name := "isLatin1", desc := "()Z" } : Jvm.MethodName)) ∈ xT := xT_at 222 (by decide +kernel) (by decide +kernel)
theorem xw_221 : (Jvm.Cond.methodLink "java/lang/AbstractStringBuilder" (83 : Nat) ({ cls := "java/lang/AbstractStringBuilder", name := "isLatin1", desc := "()Z" } : Jvm.MethodName)) ∈ xT := xT_at 221 (by decide +kernel) (by decide +kernel)
theorem xw_224 : (Jvm.Cond.selects "java/lang/StringBuilder" ({ cls := "java/lang/AbstractStringBuilder", name := "isLatin1", desc := "()Z" } : Jvm.MethodName) ({ cls := "java/lang/AbstractStringBuilder", name := "isLatin1", desc := "()Z" } : Jvm.MethodName)) ∈ xT := xT_at 224 (by decide +kernel) (by decide +kernel)
theorem xcv_ASB_83_SB : xCV "java/lang/AbstractStringBuilder" 83 "java/lang/StringBuilder" M_ASB_isLatin1 0 := ⟨xcb_ASB_isLatin1, xw_222, Or.inl ⟨xw_221, Or.inl xw_224⟩⟩
theorem d_ASB_append_C_14 : decode M_ASB_append_C.2.1 14 = .ok (.ifCond .eq 31, 3) := by decide +kernel
theorem d_ASB_append_C_17 : decode M_ASB_append_C.2.1 17 = .ok (.iload_n 1, 1) := by decide +kernel
theorem d_ASB_append_C_18 : decode M_ASB_append_C.2.1 18 = .ok (.invokestatic 191, 3) := by decide +kernel
theorem xw_228 : (Jvm.Cond.code ({ cls := "java/lang/StringLatin1", name := "canEncode", desc := "(C)Z" } : Jvm.MethodName) prog_27_method_3_code (1 : Nat) (Option.some Jvm.ClassFile.FieldType.boolean)) ∈ xT := xT_at 228 (by decide +kernel) (by decide +kernel)
theorem xw_13 : (Jvm.Cond.initialized "java/lang/StringLatin1") ∈ xT := xT_at 13 (by decide +kernel) (by decide +kernel)
theorem xcb_SL1_canEncode_C : xcb M_SL1_canEncode_C 1 := ⟨xw_228, xw_13, by decide, by decide, by decide, by decide +kernel⟩
theorem xw_226 : (Jvm.Cond.methodLink "java/lang/AbstractStringBuilder" (191 : Nat) ({ cls := "java/lang/StringLatin1", name := "canEncode", desc := "(C)Z" } : Jvm.MethodName)) ∈ xT := xT_at 226 (by decide +kernel) (by decide +kernel)
theorem xw_227 : (Jvm.Cond.static ({ cls := "java/lang/StringLatin1", name := "canEncode", desc := "(C)Z" } : Jvm.MethodName)) ∈ xT := xT_at 227 (by decide +kernel) (by decide +kernel)
theorem xcs_ASB_191 : xCS "java/lang/AbstractStringBuilder" 191 M_SL1_canEncode_C 1 := ⟨xcb_SL1_canEncode_C, xw_227, Or.inl xw_226⟩
theorem d_ASB_append_C_21 : decode M_ASB_append_C.2.1 21 = .ok (.ifCond .eq 24, 3) := by decide +kernel
theorem d_ASB_append_C_24 : decode M_ASB_append_C.2.1 24 = .ok (.aload_n 0, 1) := by decide +kernel
theorem d_ASB_append_C_25 : decode M_ASB_append_C.2.1 25 = .ok (.getfield 15, 3) := by decide +kernel
theorem d_ASB_append_C_28 : decode M_ASB_append_C.2.1 28 = .ok (.aload_n 0, 1) := by decide +kernel
theorem d_ASB_append_C_29 : decode M_ASB_append_C.2.1 29 = .ok (.dup, 1) := by decide +kernel
theorem d_ASB_append_C_30 : decode M_ASB_append_C.2.1 30 = .ok (.getfield 79, 3) := by decide +kernel
theorem d_ASB_append_C_33 : decode M_ASB_append_C.2.1 33 = .ok (.dup_x1, 1) := by decide +kernel
theorem d_ASB_append_C_34 : decode M_ASB_append_C.2.1 34 = .ok (.iconst 1, 1) := by decide +kernel
theorem d_ASB_append_C_35 : decode M_ASB_append_C.2.1 35 = .ok (.iadd, 1) := by decide +kernel
theorem d_ASB_append_C_36 : decode M_ASB_append_C.2.1 36 = .ok (.putfield 79, 3) := by decide +kernel
theorem xp_SB_3 : xP k_StringBuilder 3 false .int := ⟨_, _, _, rfl, rfl, by decide +kernel⟩
theorem d_ASB_append_C_39 : decode M_ASB_append_C.2.1 39 = .ok (.iload_n 1, 1) := by decide +kernel
theorem d_ASB_append_C_40 : decode M_ASB_append_C.2.1 40 = .ok (.i2b, 1) := by decide +kernel
theorem d_ASB_append_C_41 : decode M_ASB_append_C.2.1 41 = .ok (.bastore, 1) := by decide +kernel
theorem d_ASB_append_C_42 : decode M_ASB_append_C.2.1 42 = .ok (.goto 33, 3) := by decide +kernel
theorem d_ASB_append_C_75 : decode M_ASB_append_C.2.1 75 = .ok (.aload_n 0, 1) := by decide +kernel
theorem d_ASB_append_C_76 : decode M_ASB_append_C.2.1 76 = .ok (.areturn, 1) := by decide +kernel
theorem d_ASB_append_C_0 : decode M_ASB_append_C.2.1 0 = .ok (.aload_n 0, 1) := by decide +kernel
theorem d_ASB_append_C_1 : decode M_ASB_append_C.2.1 1 = .ok (.aload_n 0, 1) := by decide +kernel
theorem d_ASB_append_C_2 : decode M_ASB_append_C.2.1 2 = .ok (.getfield 79, 3) := by decide +kernel
theorem d_ASB_append_C_5 : decode M_ASB_append_C.2.1 5 = .ok (.iconst 1, 1) := by decide +kernel
theorem d_ASB_append_C_6 : decode M_ASB_append_C.2.1 6 = .ok (.iadd, 1) := by decide +kernel
theorem d_ASB_append_C_7 : decode M_ASB_append_C.2.1 7 = .ok (.invokevirtual 100, 3) := by decide +kernel
theorem xw_189 : (Jvm.Cond.code ({ cls := "java/lang/AbstractStringBuilder", name := "ensureCapacityInternal", desc := "(I)V" } : Jvm.MethodName) prog_15_method_9_code (3 : Nat) (Option.none : Option Jvm.ClassFile.FieldType)) ∈ xT := xT_at 189 (by decide +kernel) (by decide +kernel)
theorem xcb_ASB_ensureCapacityInternal : xcb M_ASB_ensureCapacityInternal 1 := ⟨xw_189, xw_2, by decide, by decide, by decide, by decide +kernel⟩
theorem xw_188 : (Jvm.Cond.instanceMethod ({ cls := "java/lang/AbstractStringBuilder", name := "ensureCapacityInternal", desc := "(I)V" } : Jvm.MethodName)) ∈ xT := xT_at 188 (by decide +kernel) (by decide +kernel)
theorem xw_186 : (Jvm.Cond.methodLink "java/lang/AbstractStringBuilder" (100 : Nat) ({ cls := "java/lang/AbstractStringBuilder", name := "ensureCapacityInternal", desc := "(I)V" } : Jvm.MethodName)) ∈ xT := xT_at 186 (by decide +kernel) (by decide +kernel)
theorem xps_ASB_ensureCapacityInternal_SB : Cond.selects "java/lang/StringBuilder" y_ASB_ensureCapacityInternal y_ASB_ensureCapacityInternal ∈ xT := xT_ps (by decide +kernel) (by decide +kernel)
theorem xcv_ASB_100_SB : xCV "java/lang/AbstractStringBuilder" 100 "java/lang/StringBuilder" M_ASB_ensureCapacityInternal 1 := ⟨xcb_ASB_ensureCapacityInternal, xw_188, Or.inl ⟨xw_186, Or.inl xps_ASB_ensureCapacityInternal_SB⟩⟩
abbrev y_SB_append_C : MethodName := ⟨"java/lang/StringBuilder", "append", "(C)Ljava/lang/StringBuilder;"⟩
abbrev M_SB_append_C : XMt := (y_SB_append_C, prog_26_method_14_code, 2, (some (.object "java/lang/StringBuilder")))
theorem d_SB_append_C_0 : decode M_SB_append_C.2.1 0 = .ok (.aload_n 0, 1) := by decide +kernel
theorem d_SB_append_C_1 : decode M_SB_append_C.2.1 1 = .ok (.iload_n 1, 1) := by decide +kernel
theorem d_SB_append_C_2 : decode M_SB_append_C.2.1 2 = .ok (.invokespecial 50, 3) := by decide +kernel
theorem xw_185 : (Jvm.Cond.code ({ cls := "java/lang/AbstractStringBuilder", name := "append", desc := "(C)Ljava/lang/AbstractStringBuilder;" } : Jvm.MethodName) prog_15_method_31_code (2 : Nat) (Option.some (Jvm.ClassFile.FieldType.object "java/lang/AbstractStringBuilder"))) ∈ xT := xT_at 185 (by decide +kernel) (by decide +kernel)
theorem xcb_ASB_append_C : xcb M_ASB_append_C 1 := ⟨xw_185, xw_2, by decide, by decide, by decide, by decide +kernel⟩
theorem xw_184 : (Jvm.Cond.instanceMethod ({ cls := "java/lang/AbstractStringBuilder", name := "append", desc := "(C)Ljava/lang/AbstractStringBuilder;" } : Jvm.MethodName)) ∈ xT := xT_at 184 (by decide +kernel) (by decide +kernel)
theorem xw_183 : (Jvm.Cond.methodLink "java/lang/StringBuilder" (50 : Nat) ({ cls := "java/lang/AbstractStringBuilder", name := "append", desc := "(C)Ljava/lang/AbstractStringBuilder;" } : Jvm.MethodName)) ∈ xT := xT_at 183 (by decide +kernel) (by decide +kernel)
theorem xw_1602 : (Jvm.Cond.sameMethod "java/lang/AbstractStringBuilder" "java/lang/AbstractStringBuilder" "append" "(C)Ljava/lang/AbstractStringBuilder;") ∈ xT := xT_at 1602 (by decide +kernel) (by decide +kernel)
theorem xcu_SB_50 : xCU "java/lang/StringBuilder" 50 M_ASB_append_C 1 := ⟨xcb_ASB_append_C, by decide, xw_184, xw_183, xw_1602, xw_73⟩
theorem d_SB_append_C_5 : decode M_SB_append_C.2.1 5 = .ok (.pop, 1) := by decide +kernel
theorem d_SB_append_C_6 : decode M_SB_append_C.2.1 6 = .ok (.aload_n 0, 1) := by decide +kernel
theorem d_SB_append_C_7 : decode M_SB_append_C.2.1 7 = .ok (.areturn, 1) := by decide +kernel
end
section SB3
variable {l : Launch} {G : XG} {h : XH} {c n d : Nat}
theorem nI_sub_le {m k : Nat} (hm : m < 2 ^ 30) (hk : k < 2 ^ 30) (h : m ≤ k) : nI m - nI k ≤ 0 := by
  rw [Int32.le_iff_toInt_le, pk_sub_toInt hm hk, Int32.toInt_zero]
  omega
theorem nI_sub_gt {m k : Nat} (hm : m < 2 ^ 30) (hk : k < 2 ^ 30) (h : k < m) : ¬ nI m - nI k ≤ 0 := by
  rw [Int32.le_iff_toInt_le, pk_sub_toInt hm hk, Int32.toInt_zero]
  omega
/-- an end of a void method that changes nothing -/
abbrev xVoid (h : XH) (c n : Nat) : Option Value → XH → Nat → Nat → Prop := fun v h' c' n' => v = none ∧ h' = h ∧ c' = c ∧ n' = n
theorem c_ensure_no (hd : 0 ≤ d) {a va m : Nat} {z k : Value} {vs : List Value} (ha : h a = some (k_StringBuilder, [.ref va, .int 0, z, k])) (hv : h va = some (k_abyte, vs)) (hm : m ≤ vs.length) (hb : vs.length < 2 ^ 20) : XM l G d M_ASB_ensureCapacityInternal [.ref a, .int (nI m)] h c n (xVoid h c n) := by
  refine XM.of (by decide +kernel) (Nat.le_of_ble_eq_true rfl) ?_
  refine x_aload_n d_ASB_ensureCapacityInternal_0 rfl rfl ?_
  refine x_get xf_ASB_15_SB (Or.inl ha) rfl d_ASB_ensureCapacityInternal_1 ?_
  refine x_alen (k := k_abyte) rfl (Or.inl hv) (v := nI vs.length) rfl d_ASB_ensureCapacityInternal_4 ?_
  refine x_aload_n d_ASB_ensureCapacityInternal_5 rfl rfl ?_
  refine x_get xf_ASB_22_SB (Or.inl ha) rfl d_ASB_ensureCapacityInternal_6 ?_
  refine x_ishr d_ASB_ensureCapacityInternal_9 ?_
  refine x_top (w := .int (nI vs.length)) (by rw [sb_shr0]) ?_
  refine x_istore_n (L' := [_, _, _]) d_ASB_ensureCapacityInternal_10 rfl rfl ?_
  refine x_iload_n d_ASB_ensureCapacityInternal_11 rfl ?_
  refine x_iload_n d_ASB_ensureCapacityInternal_12 rfl ?_
  refine x_isub d_ASB_ensureCapacityInternal_13 ?_
  refine x_if_le (tgt := 38) d_ASB_ensureCapacityInternal_14 (by decide) (fun _ => ?_) (fun hn => absurd (nI_sub_le (by omega) (by omega) hm) hn)
  refine x_vret d_ASB_ensureCapacityInternal_38 rfl ?_
  exact ⟨rfl, rfl, rfl, rfl⟩
theorem c_ensure_yes (hd : 3 ≤ d) {a va m : Nat} {z k : Value} {vs : List Value} (ha : h a = some (k_StringBuilder, [.ref va, .int 0, z, k])) (hv : h va = some (k_abyte, vs)) (hf : ∀ v ∈ vs, fits .byte v = true) (hm : vs.length < m) (hb : m < 2 ^ 18) (hc : c + 1 ≤ xCB) (hn : n + max m (2 * vs.length + 2) ≤ xSB) : XM l G d M_ASB_ensureCapacityInternal [.ref a, .int (nI m)] h c n
    (fun v h' c' n' => v = none ∧ ∃ q, h q = none ∧ h' = xup (xup h q (k_abyte, vs ++ List.replicate (max m (2 * vs.length + 2) - vs.length) (.int 0))) a (k_StringBuilder, [.ref q, .int 0, z, k]) ∧ c' = c + 1 ∧ n' = n + max m (2 * vs.length + 2)) := by
  obtain ⟨d, rfl⟩ : ∃ q, d = q + 1 := ⟨d - 1, by omega⟩
  refine XM.of (by decide +kernel) (Nat.le_of_ble_eq_true rfl) ?_
  refine x_aload_n d_ASB_ensureCapacityInternal_0 rfl rfl ?_
  refine x_get xf_ASB_15_SB (Or.inl ha) rfl d_ASB_ensureCapacityInternal_1 ?_
  refine x_alen (k := k_abyte) rfl (Or.inl hv) (v := nI vs.length) rfl d_ASB_ensureCapacityInternal_4 ?_
  refine x_aload_n d_ASB_ensureCapacityInternal_5 rfl rfl ?_
  refine x_get xf_ASB_22_SB (Or.inl ha) rfl d_ASB_ensureCapacityInternal_6 ?_
  refine x_ishr d_ASB_ensureCapacityInternal_9 ?_
  refine x_top (w := .int (nI vs.length)) (by rw [sb_shr0]) ?_
  refine x_istore_n (L' := [_, _, _]) d_ASB_ensureCapacityInternal_10 rfl rfl ?_
  refine x_iload_n d_ASB_ensureCapacityInternal_11 rfl ?_
  refine x_iload_n d_ASB_ensureCapacityInternal_12 rfl ?_
  refine x_isub d_ASB_ensureCapacityInternal_13 ?_
  refine x_if_le (tgt := 38) d_ASB_ensureCapacityInternal_14 (by decide) (fun ht => absurd ht (nI_sub_gt (by omega) (by omega) hm)) (fun _ => ?_)
  refine x_aload_n d_ASB_ensureCapacityInternal_17 rfl rfl ?_
  refine x_aload_n d_ASB_ensureCapacityInternal_18 rfl rfl ?_
  refine x_get xf_ASB_15_SB (Or.inl ha) rfl d_ASB_ensureCapacityInternal_19 ?_
  refine x_aload_n d_ASB_ensureCapacityInternal_22 rfl rfl ?_
  refine x_iload_n d_ASB_ensureCapacityInternal_23 rfl ?_
  refine x_callV (As := [_]) (k := k_StringBuilder) rfl xcv_ASB_104_SB (Or.inl ha) (c_newCapacity (by omega) ha hv hm hb) rfl rfl (Nat.le_of_ble_eq_true rfl) d_ASB_ensureCapacityInternal_24 ?_
  rintro v h' c' n' ⟨rfl, rfl, rfl, rfl⟩
  refine x_aload_n d_ASB_ensureCapacityInternal_27 rfl rfl ?_
  refine x_get xf_ASB_22_SB (Or.inl ha) rfl d_ASB_ensureCapacityInternal_28 ?_
  refine x_ishl d_ASB_ensureCapacityInternal_31 ?_
  refine x_top (w := .int (nI (max m (2 * vs.length + 2)))) (by rw [sb_shl0]) ?_
  have hM : vs.length < max m (2 * vs.length + 2) := by omega
  refine x_callS (As := [_, _]) xcs_ASB_108 (c_copyOf_aB (by omega) (Or.inl hv) hf hM (by omega) hc hn) rfl rfl (Nat.le_of_ble_eq_true rfl) d_ASB_ensureCapacityInternal_32 ?_
  rintro v h' c' n' ⟨q, rfl, hq, rfl, rfl, rfl⟩
  refine x_put xf_ASB_15_SB xp_SB_0 rfl rfl (xup_old ha hq) rfl rfl d_ASB_ensureCapacityInternal_35 ?_
  refine x_vret d_ASB_ensureCapacityInternal_38 rfl ?_
  exact ⟨rfl, q, hq, rfl, rfl, by simp; omega⟩
/-- A BUILDER: at a, its bytes at va, the text t, how many it could hold -/
def isB (h : XH) (a va : Nat) (t : List Nat) (m : Nat) : Prop := ∃ (z : Int32) (bs : List Value), h a = some (k_StringBuilder, [.ref va, .int 0, .int z, .int (nI t.length)]) ∧ h va = some (k_abyte, xby t ++ bs) ∧ t.length + bs.length = m ∧ (∀ v ∈ bs, fits .byte v = true) ∧ xasc t
/-- what was there stays, but for the cells F -/
def xfr (h h' : XH) (F : List Nat) : Prop := (∀ (q : Nat) (e : Nat × List Value), h q = some e → q ∉ F → h' q = some e) ∧ ∀ q : Nat, h' q = none → h q = none
theorem xfr.rf {F : List Nat} : xfr h h F := ⟨fun _ _ hq _ => hq, fun _ hq => hq⟩
theorem xfr.mono {h' : XH} {F F' : List Nat} (hf : xfr h h' F) (hs : ∀ q ∈ F, q ∈ F') : xfr h h' F' := ⟨fun q e hq hn => hf.1 q e hq (fun z => hn (hs q z)), hf.2⟩
theorem xfr.tr {h' h'' : XH} {F F' : List Nat} (h1 : xfr h h' F) (h2 : xfr h' h'' F') (hs : ∀ q, h q ≠ none → q ∈ F' → q ∈ F) : xfr h h'' F := ⟨fun q e hq hn => h2.1 q e (h1.1 q e hq hn) (fun z => hn (hs q (by rw [hq]; exact fun y => (by cases y)) z)), fun q hq => h1.2 q (h2.2 q hq)⟩
theorem xfr.up {a : Nat} {e : Nat × List Value} {h' : XH} {F : List Nat} (hf : xfr h h' F) (ha : a ∈ F ∨ h a = none) : xfr h (xup h' a e) F := by
  refine ⟨fun q x hq hn => ?_, fun q hq => ?_⟩
  · by_cases hqa : q = a
    · subst hqa
      rcases ha with z | z
      · exact absurd z hn
      · rw [z] at hq; cases hq
    · rw [xup_ne hqa]; exact hf.1 q x hq hn
  · by_cases hqa : q = a
    · subst hqa; rw [xup_self] at hq; cases hq
    · rw [xup_ne hqa] at hq; exact hf.2 q hq
/-- append a character: what comes of the builder, and what it costs at most -/
abbrev xgr (K m m' c n c' n' : Nat) : Prop := m ≤ m' ∧ m' ≤ K ∧ c' + m ≤ c + m' ∧ n' + 2 * m ≤ n + 2 * m'
/-- what comes of a builder of which no text is longer than half of K: its array grows from m to m', and that is what it costs -/
abbrev pB (K a va : Nat) (t : List Nat) (m : Nat) (h : XH) (c n : Nat) (h' : XH) (c' n' : Nat) : Prop := ∃ va' m', isB h' a va' t m' ∧ xfr h h' [a, va] ∧ (va' = va ∨ h va' = none) ∧ xgr K m m' c n c' n'
theorem xby_app (t : List Nat) (ch : Nat) : xby (t ++ [ch]) = xby t ++ [.int (nI ch)] := by simp [xby]
theorem xput_end {t : List Nat} {b : Value} {bs : List Value} {w : Value} : (xby t ++ (b :: bs)).set t.length w = xby t ++ (w :: bs) := by
  rw [List.set_append_right _ _ (by rw [xby_len]; exact Nat.le_refl _), xby_len, Nat.sub_self]
  rfl
theorem c_ASB_append_C (hd : 4 ≤ d) {K a va ch m : Nat} {t : List Nat} (hB : isB h a va t m) (hch : ch < 128) (hK : K < 2 ^ 16) (hm : m ≤ K) (hL : 2 * t.length + 4 ≤ K) (hc : c + K ≤ xCB + m) (hn : n + 2 * K ≤ xSB + 2 * m) : XM l G d M_ASB_append_C [.ref a, .int (nI ch)] h c n (fun v h' c' n' => v = some (.ref a) ∧ pB K a va (t ++ [ch]) m h c n h' c' n') := by
  obtain ⟨d, rfl⟩ : ∃ q, d = q + 1 := ⟨d - 1, by omega⟩
  obtain ⟨z, bs, ha, hv, hl, hbf, hat⟩ := hB
  have hat' : xasc (t ++ [ch]) := by
    intro x hx
    rcases List.mem_append.mp hx with q | q
    · exact hat x q
    · rw [List.mem_singleton] at q; rw [q]; exact hch
  have hav : a ≠ va := fun e => by rw [e, hv] at ha; cases ha
  have hvl : (xby t ++ bs).length = m := by rw [List.length_append, xby_len]; exact hl
  obtain ⟨f1, f2, f3, -, -⟩ := xfit1 ch hch
  -- the part behind ensureCapacityInternal, for a builder with room
  have fin : ∀ (h1 : XH) (v1 : Nat) (b : Value) (bs1 : List Value) (c1 n1 : Nat), h1 a = some (k_StringBuilder, [.ref v1, .int 0, .int z, .int (nI t.length)]) → h1 v1 = some (k_abyte, xby t ++ (b :: bs1)) → (∀ v ∈ bs1, fits .byte v = true) → a ≠ v1 →
      pB K a va (t ++ [ch]) m h c n (xup (xup h1 a (k_StringBuilder, [.ref v1, .int 0, .int z, .int (nI (t ++ [ch]).length)])) v1 (k_abyte, xby (t ++ [ch]) ++ bs1)) c1 n1 →
      XW l G M_ASB_append_C (d + 1) 10 [some (.ref a), some (.int (nI ch))] [] h1 c1 n1 (fun v h' c' n' => v = some (.ref a) ∧ pB K a va (t ++ [ch]) m h c n h' c' n') := by
    intro h1 v1 b bs1 c1 n1 e1 e2 e3 e4 hP
    refine x_aload_n d_ASB_append_C_10 rfl rfl ?_
    refine x_callV (As := []) (k := k_StringBuilder) rfl xcv_ASB_83_SB (Or.inl e1) (c_ASB_isLatin1 e1) rfl rfl (Nat.le_of_ble_eq_true rfl) d_ASB_append_C_11 ?_
    rintro v h' c' n' ⟨rfl, rfl, rfl, rfl⟩
    refine x_if_eq (tgt := 45) d_ASB_append_C_14 (by decide) (fun ht => absurd ht (by decide)) (fun _ => ?_)
    refine x_iload_n d_ASB_append_C_17 rfl ?_
    refine x_callS (As := [_]) xcs_ASB_191 (c_SL1_canEncode_C (by omega)) rfl rfl (Nat.le_of_ble_eq_true rfl) d_ASB_append_C_18 ?_
    rintro v h' c' n' ⟨rfl, rfl, rfl, rfl⟩
    refine x_if_eq (tgt := 45) d_ASB_append_C_21 (by decide) (fun ht => absurd ht (by decide)) (fun _ => ?_)
    refine x_aload_n d_ASB_append_C_24 rfl rfl ?_
    refine x_get xf_ASB_15_SB (Or.inl e1) rfl d_ASB_append_C_25 ?_
    refine x_aload_n d_ASB_append_C_28 rfl rfl ?_
    refine x_dup d_ASB_append_C_29 rfl ?_
    refine x_get xf_ASB_79_SB (Or.inl e1) rfl d_ASB_append_C_30 ?_
    refine x_dup_x1 d_ASB_append_C_33 rfl rfl ?_
    refine x_iconst (v := 1) d_ASB_append_C_34 (by decide) ?_
    refine x_iadd d_ASB_append_C_35 ?_
    refine x_st (st' := [.int (nI (t ++ [ch]).length), .ref a, .int (nI t.length), .ref v1]) (by rw [show (1 : Int32) = nI 1 from rfl, nI_add]; simp) ?_
    have hlt : t.length < 2 ^ 31 := by omega
    refine x_put xf_ASB_79_SB xp_SB_3 rfl rfl e1 rfl rfl d_ASB_append_C_36 ?_
    refine x_iload_n d_ASB_append_C_39 rfl ?_
    refine x_i2b d_ASB_append_C_40 ?_
    refine x_top (w := .int (nI ch)) (by rw [f2]) ?_
    have e5 : (xby t ++ (b :: bs1))[(nI t.length).toNatClampNeg]? = some b := by
      rw [nI_clamp hlt, List.getElem?_append_right (by rw [xby_len]; exact Nat.le_refl _), xby_len, Nat.sub_self]
      rfl
    refine x_bast (k := k_abyte) rfl (by rw [xup_ne (Ne.symm e4)]; exact e2) (nI_pos hlt) e5 f3 d_ASB_append_C_41 ?_
    refine x_goto (tgt := 75) d_ASB_append_C_42 (by decide) ?_
    refine x_aload_n d_ASB_append_C_75 rfl rfl ?_
    refine x_aret d_ASB_append_C_76 rfl rfl ?_
    refine ⟨rfl, ?_⟩
    rw [nI_clamp hlt, xput_end]
    rw [xby_app, List.append_assoc] at hP
    exact hP
  refine XM.of (by decide +kernel) (Nat.le_of_ble_eq_true rfl) ?_
  refine x_aload_n d_ASB_append_C_0 rfl rfl ?_
  refine x_aload_n d_ASB_append_C_1 rfl rfl ?_
  refine x_get xf_ASB_79_SB (Or.inl ha) rfl d_ASB_append_C_2 ?_
  refine x_iconst (v := 1) d_ASB_append_C_5 (by decide) ?_
  refine x_iadd d_ASB_append_C_6 ?_
  refine x_top (w := .int (nI (t.length + 1))) (by rw [show (1 : Int32) = nI 1 from rfl, nI_add]) ?_
  have hmem : ∀ q, q ∈ [a, va] → True := fun _ _ => trivial
  cases hbs : bs with
  | cons b bs1 =>
    subst hbs
    have hlen : (b :: bs1).length = bs1.length + 1 := rfl
    refine x_callV (As := [_]) (k := k_StringBuilder) rfl xcv_ASB_100_SB (Or.inl ha) (c_ensure_no (Nat.zero_le _) ha hv (by rw [hvl]; omega) (by rw [hvl]; omega)) rfl rfl (Nat.le_of_ble_eq_true rfl) d_ASB_append_C_7 ?_
    rintro v h' c' n' ⟨rfl, rfl, rfl, rfl⟩
    refine fin h' va b bs1 c' n' ha hv (fun v hv => hbf v (List.mem_cons_of_mem _ hv)) hav ⟨va, m, ⟨z, bs1, by rw [xup_ne hav, xup_self], xup_self, by simp; omega, fun v hv => hbf v (List.mem_cons_of_mem _ hv), hat'⟩, ?_, Or.inl rfl, by omega⟩
    exact (xfr.rf.up (Or.inl (by simp))).up (Or.inl (by simp))
  | nil =>
    subst hbs
    have hl' : t.length = m := by simpa using hl
    have hvs : ∀ v ∈ xby t ++ [], fits .byte v = true := by rw [List.append_nil]; exact xby_fit hat
    have hmx : max (t.length + 1) (2 * (xby t ++ []).length + 2) = 2 * m + 2 := by rw [hvl]; omega
    refine x_callV (As := [_]) (k := k_StringBuilder) rfl xcv_ASB_100_SB (Or.inl ha) (c_ensure_yes (by omega) ha hv hvs (by rw [hvl]; omega) (by omega) (by omega) (by rw [hmx]; omega)) rfl rfl (Nat.le_of_ble_eq_true rfl) d_ASB_append_C_7 ?_
    rintro v h' c' n' ⟨rfl, q, hq, rfl, rfl, rfl⟩
    rw [hmx, hvl]
    obtain ⟨w, hw⟩ : ∃ w, 2 * m + 2 - m = w + 1 := ⟨m + 1, by omega⟩
    have haq : a ≠ q := fun e => by rw [e, hq] at ha; cases ha
    have hvq : va ≠ q := fun e => by rw [e, hq] at hv; cases hv
    rw [hw, List.replicate_succ]
    refine fin _ q (.int 0) (List.replicate w (.int 0)) _ _ xup_self (by rw [xup_ne (Ne.symm haq), xup_self]; simp) (fun v hv => by rw [(List.mem_replicate.mp hv).2]; rfl) haq ⟨q, 2 * m + 2, ⟨z, List.replicate w (.int 0), by rw [xup_ne haq, xup_self], xup_self, by simp; omega, fun v hv => by rw [(List.mem_replicate.mp hv).2]; rfl, hat'⟩, ?_, Or.inr hq, by omega⟩
    exact (((xfr.rf.up (Or.inr hq)).up (Or.inl (by simp))).up (Or.inl (by simp))).up (Or.inr hq)
theorem c_SB_append_C (hd : 5 ≤ d) {K a va ch m : Nat} {t : List Nat} (hB : isB h a va t m) (hch : ch < 128) (hK : K < 2 ^ 16) (hm : m ≤ K) (hL : 2 * t.length + 4 ≤ K) (hc : c + K ≤ xCB + m) (hn : n + 2 * K ≤ xSB + 2 * m) : XM l G d M_SB_append_C [.ref a, .int (nI ch)] h c n (fun v h' c' n' => v = some (.ref a) ∧ pB K a va (t ++ [ch]) m h c n h' c' n') := by
  obtain ⟨d, rfl⟩ : ∃ q, d = q + 1 := ⟨d - 1, by omega⟩
  obtain ⟨z, bs, ha, -⟩ := id hB
  refine XM.of (by decide +kernel) (Nat.le_of_ble_eq_true rfl) ?_
  refine x_aload_n d_SB_append_C_0 rfl rfl ?_
  refine x_iload_n d_SB_append_C_1 rfl ?_
  refine x_callU (As := [_]) (k := k_StringBuilder) rfl xcu_SB_50 (Or.inl ha) (c_ASB_append_C (by omega) hB hch hK hm hL hc hn) rfl rfl (Nat.le_of_ble_eq_true rfl) d_SB_append_C_2 ?_
  rintro v h' c' n' ⟨rfl, hp⟩
  refine x_pop d_SB_append_C_5 rfl ?_
  refine x_aload_n d_SB_append_C_6 rfl rfl ?_
  refine x_aret d_SB_append_C_7 rfl rfl ?_
  exact ⟨rfl, hp⟩
end SB3
end
section
section
abbrev y_String_coder : MethodName := ⟨"java/lang/String", "coder", "()B"⟩
abbrev M_String_coder : XMt := (y_String_coder, prog_25_method_152_code, 1, (some .byte))
theorem d_String_coder_0 : decode M_String_coder.2.1 0 = .ok (.getstatic 38, 3) := by decide +kernel
theorem xw_429 : (Jvm.Cond.fieldLink "java/lang/String" (38 : Nat) "java/lang/String" "COMPACT_STRINGS" "Z") ∈ xT := xT_at 429 (by decide +kernel) (by decide +kernel)
theorem d_String_coder_3 : decode M_String_coder.2.1 3 = .ok (.ifCond .eq 10, 3) := by decide +kernel
theorem d_String_coder_6 : decode M_String_coder.2.1 6 = .ok (.aload_n 0, 1) := by decide +kernel
theorem d_String_coder_7 : decode M_String_coder.2.1 7 = .ok (.getfield 15, 3) := by decide +kernel
theorem xw_634 : (Jvm.Cond.fieldLink "java/lang/String" (15 : Nat) "java/lang/String" "coder" "B") ∈ xT := xT_at 634 (by decide +kernel) (by decide +kernel)
theorem xf_String_15_String : xF "java/lang/String" 15 k_String 1 := ⟨_, _, _, "java/lang/String", rfl, by decide, Or.inl xw_634, Or.inl rfl⟩
theorem d_String_coder_10 : decode M_String_coder.2.1 10 = .ok (.goto 4, 3) := by decide +kernel
theorem d_String_coder_14 : decode M_String_coder.2.1 14 = .ok (.ireturn, 1) := by decide +kernel
abbrev y_String_isLatin1 : MethodName := ⟨"java/lang/String", "isLatin1", "()Z"⟩
abbrev M_String_isLatin1 : XMt := (y_String_isLatin1, prog_25_method_154_code, 1, (some .boolean))
theorem d_String_isLatin1_0 : decode M_String_isLatin1.2.1 0 = .ok (.getstatic 38, 3) := by decide +kernel
theorem d_String_isLatin1_3 : decode M_String_isLatin1.2.1 3 = .ok (.ifCond .eq 14, 3) := by decide +kernel
theorem d_String_isLatin1_6 : decode M_String_isLatin1.2.1 6 = .ok (.aload_n 0, 1) := by decide +kernel
theorem d_String_isLatin1_7 : decode M_String_isLatin1.2.1 7 = .ok (.getfield 15, 3) := by decide +kernel
theorem d_String_isLatin1_10 : decode M_String_isLatin1.2.1 10 = .ok (.ifCond .ne 7, 3) := by decide +kernel
theorem d_String_isLatin1_13 : decode M_String_isLatin1.2.1 13 = .ok (.iconst 1, 1) := by decide +kernel
theorem d_String_isLatin1_14 : decode M_String_isLatin1.2.1 14 = .ok (.goto 4, 3) := by decide +kernel
theorem d_String_isLatin1_18 : decode M_String_isLatin1.2.1 18 = .ok (.ireturn, 1) := by decide +kernel
abbrev y_String_length : MethodName := ⟨"java/lang/String", "length", "()I"⟩
abbrev M_String_length : XMt := (y_String_length, prog_25_method_54_code, 1, (some .int))
theorem d_String_length_0 : decode M_String_length.2.1 0 = .ok (.aload_n 0, 1) := by decide +kernel
theorem d_String_length_1 : decode M_String_length.2.1 1 = .ok (.getfield 9, 3) := by decide +kernel
theorem xw_633 : (Jvm.Cond.fieldLink "java/lang/String" (9 : Nat) "java/lang/String" "value" "[B") ∈ xT := xT_at 633 (by decide +kernel) (by decide +kernel)
theorem xf_String_9_String : xF "java/lang/String" 9 k_String 0 := ⟨_, _, _, "java/lang/String", rfl, by decide, Or.inl xw_633, Or.inl rfl⟩
theorem d_String_length_4 : decode M_String_length.2.1 4 = .ok (.arraylength, 1) := by decide +kernel
theorem d_String_length_5 : decode M_String_length.2.1 5 = .ok (.aload_n 0, 1) := by decide +kernel
theorem d_String_length_6 : decode M_String_length.2.1 6 = .ok (.invokevirtual 335, 3) := by decide +kernel
theorem xw_428 : (Jvm.Cond.code ({ cls := "java/lang/String", name := "coder", desc := "()B" } : Jvm.MethodName) prog_25_method_152_code (1 : Nat) (Option.some Jvm.ClassFile.FieldType.byte)) ∈ xT := xT_at 428 (by decide +kernel) (by decide +kernel)
theorem xw_4 : (Jvm.Cond.initialized "java/lang/String") ∈ xT := xT_at 4 (by decide +kernel) (by decide +kernel)
theorem xcb_String_coder : xcb M_String_coder 0 := ⟨xw_428, xw_4, by decide, by decide, by decide, by decide +kernel⟩
theorem xw_426 : (Jvm.Cond.instanceMethod ({ cls := "java/lang/String", name := "coder", desc := "()B" } : Jvm.MethodName)) ∈ xT := xT_at 426 (by decide +kernel) (by decide +kernel)
theorem xw_425 : (Jvm.Cond.methodLink "java/lang/String" (335 : Nat) ({ cls := "java/lang/String", name := "coder", desc := "()B" } : Jvm.MethodName)) ∈ xT := xT_at 425 (by decide +kernel) (by decide +kernel)
theorem xw_427 : (Jvm.Cond.selects "java/lang/String" ({ cls := "java/lang/String", name := "coder", desc := "()B" } : Jvm.MethodName) ({ cls := "java/lang/String", name := "coder", desc := "()B" } : Jvm.MethodName)) ∈ xT := xT_at 427 (by decide +kernel) (by decide +kernel)
theorem xcv_String_335_String : xCV "java/lang/String" 335 "java/lang/String" M_String_coder 0 := ⟨xcb_String_coder, xw_426, Or.inl ⟨xw_425, Or.inl xw_427⟩⟩
theorem d_String_length_9 : decode M_String_length.2.1 9 = .ok (.ishr, 1) := by decide +kernel
theorem d_String_length_10 : decode M_String_length.2.1 10 = .ok (.ireturn, 1) := by decide +kernel
abbrev y_String_isEmpty : MethodName := ⟨"java/lang/String", "isEmpty", "()Z"⟩
abbrev M_String_isEmpty : XMt := (y_String_isEmpty, prog_25_method_55_code, 1, (some .boolean))
theorem d_String_isEmpty_0 : decode M_String_isEmpty.2.1 0 = .ok (.aload_n 0, 1) := by decide +kernel
theorem d_String_isEmpty_1 : decode M_String_isEmpty.2.1 1 = .ok (.getfield 9, 3) := by decide +kernel
theorem d_String_isEmpty_4 : decode M_String_isEmpty.2.1 4 = .ok (.arraylength, 1) := by decide +kernel
theorem d_String_isEmpty_5 : decode M_String_isEmpty.2.1 5 = .ok (.ifCond .ne 7, 3) := by decide +kernel
theorem d_String_isEmpty_8 : decode M_String_isEmpty.2.1 8 = .ok (.iconst 1, 1) := by decide +kernel
theorem d_String_isEmpty_9 : decode M_String_isEmpty.2.1 9 = .ok (.goto 4, 3) := by decide +kernel
theorem d_String_isEmpty_13 : decode M_String_isEmpty.2.1 13 = .ok (.ireturn, 1) := by decide +kernel
theorem d_String_isEmpty_12 : decode M_String_isEmpty.2.1 12 = .ok (.iconst 0, 1) := by decide +kernel
abbrev y_Preconditions_checkIndex : MethodName := ⟨"jdk/internal/util/Preconditions", "checkIndex", "(IILjava/util/function/BiFunction;)I"⟩
abbrev M_Preconditions_checkIndex : XMt := (y_Preconditions_checkIndex, prog_41_method_11_code, 3, (some .int))
theorem d_Preconditions_checkIndex_0 : decode M_Preconditions_checkIndex.2.1 0 = .ok (.iload_n 0, 1) := by decide +kernel
theorem d_Preconditions_checkIndex_1 : decode M_Preconditions_checkIndex.2.1 1 = .ok (.ifCond .lt 8, 3) := by decide +kernel
theorem d_Preconditions_checkIndex_4 : decode M_Preconditions_checkIndex.2.1 4 = .ok (.iload_n 0, 1) := by decide +kernel
theorem d_Preconditions_checkIndex_5 : decode M_Preconditions_checkIndex.2.1 5 = .ok (.iload_n 1, 1) := by decide +kernel
theorem d_Preconditions_checkIndex_6 : decode M_Preconditions_checkIndex.2.1 6 = .ok (.if_icmp .lt 10, 3) := by decide +kernel
theorem d_Preconditions_checkIndex_16 : decode M_Preconditions_checkIndex.2.1 16 = .ok (.iload_n 0, 1) := by decide +kernel
theorem d_Preconditions_checkIndex_17 : decode M_Preconditions_checkIndex.2.1 17 = .ok (.ireturn, 1) := by decide +kernel
abbrev y_String_checkIndex : MethodName := ⟨"java/lang/String", "checkIndex", "(II)V"⟩
abbrev M_String_checkIndex : XMt := (y_String_checkIndex, prog_25_method_155_code, 2, none)
theorem d_String_checkIndex_0 : decode M_String_checkIndex.2.1 0 = .ok (.iload_n 0, 1) := by decide +kernel
theorem d_String_checkIndex_1 : decode M_String_checkIndex.2.1 1 = .ok (.iload_n 1, 1) := by decide +kernel
theorem d_String_checkIndex_2 : decode M_String_checkIndex.2.1 2 = .ok (.getstatic 1053, 3) := by decide +kernel
theorem xw_248 : (Jvm.Cond.fieldLink "java/lang/String" (1053 : Nat) "jdk/internal/util/Preconditions" "SIOOBE_FORMATTER" "Ljava/util/function/BiFunction;") ∈ xT := xT_at 248 (by decide +kernel) (by decide +kernel)
theorem d_String_checkIndex_5 : decode M_String_checkIndex.2.1 5 = .ok (.invokestatic 1059, 3) := by decide +kernel
theorem xw_273 : (Jvm.Cond.code ({ cls := "jdk/internal/util/Preconditions", name := "checkIndex", desc := "(IILjava/util/function/BiFunction;)I" } : Jvm.MethodName) prog_41_method_11_code (3 : Nat) (Option.some Jvm.ClassFile.FieldType.int)) ∈ xT := xT_at 273 (by decide +kernel) (by decide +kernel)
theorem xw_14 : (Jvm.Cond.initialized "jdk/internal/util/Preconditions") ∈ xT := xT_at 14 (by decide +kernel) (by decide +kernel)
theorem xcb_Preconditions_checkIndex : xcb M_Preconditions_checkIndex 3 := ⟨xw_273, xw_14, by decide, by decide, by decide, by decide +kernel⟩
theorem xw_271 : (Jvm.Cond.methodLink "java/lang/String" (1059 : Nat) ({ cls := "jdk/internal/util/Preconditions", name := "checkIndex", desc := "(IILjava/util/function/BiFunction;)I" } : Jvm.MethodName)) ∈ xT := xT_at 271 (by decide +kernel) (by decide +kernel)
theorem xw_272 : (Jvm.Cond.static ({ cls := "jdk/internal/util/Preconditions", name := "checkIndex", desc := "(IILjava/util/function/BiFunction;)I" } : Jvm.MethodName)) ∈ xT := xT_at 272 (by decide +kernel) (by decide +kernel)
theorem xcs_String_1059 : xCS "java/lang/String" 1059 M_Preconditions_checkIndex 3 := ⟨xcb_Preconditions_checkIndex, xw_272, Or.inl xw_271⟩
theorem d_String_checkIndex_8 : decode M_String_checkIndex.2.1 8 = .ok (.pop, 1) := by decide +kernel
theorem d_String_checkIndex_9 : decode M_String_checkIndex.2.1 9 = .ok (.return_, 1) := by decide +kernel
abbrev y_SL1_charAt : MethodName := ⟨"java/lang/StringLatin1", "charAt", "([BI)C"⟩
abbrev M_SL1_charAt : XMt := (y_SL1_charAt, prog_27_method_2_code, 2, (some .char))
theorem d_SL1_charAt_0 : decode M_SL1_charAt.2.1 0 = .ok (.iload_n 1, 1) := by decide +kernel
theorem d_SL1_charAt_1 : decode M_SL1_charAt.2.1 1 = .ok (.aload_n 0, 1) := by decide +kernel
theorem d_SL1_charAt_2 : decode M_SL1_charAt.2.1 2 = .ok (.arraylength, 1) := by decide +kernel
theorem d_SL1_charAt_3 : decode M_SL1_charAt.2.1 3 = .ok (.invokestatic 9, 3) := by decide +kernel
theorem xw_270 : (Jvm.Cond.code ({ cls := "java/lang/String", name := "checkIndex", desc := "(II)V" } : Jvm.MethodName) prog_25_method_155_code (2 : Nat) (Option.none : Option Jvm.ClassFile.FieldType)) ∈ xT := xT_at 270 (by decide +kernel) (by decide +kernel)
theorem xcb_String_checkIndex : xcb M_String_checkIndex 2 := ⟨xw_270, xw_4, by decide, by decide, by decide, by decide +kernel⟩
theorem xw_441 : (Jvm.Cond.methodLink "java/lang/StringLatin1" (9 : Nat) ({ cls := "java/lang/String", name := "checkIndex", desc := "(II)V" } : Jvm.MethodName)) ∈ xT := xT_at 441 (by decide +kernel) (by decide +kernel)
theorem xw_269 : (Jvm.Cond.static ({ cls := "java/lang/String", name := "checkIndex", desc := "(II)V" } : Jvm.MethodName)) ∈ xT := xT_at 269 (by decide +kernel) (by decide +kernel)
theorem xcs_SL1_9 : xCS "java/lang/StringLatin1" 9 M_String_checkIndex 2 := ⟨xcb_String_checkIndex, xw_269, Or.inl xw_441⟩
theorem d_SL1_charAt_6 : decode M_SL1_charAt.2.1 6 = .ok (.aload_n 0, 1) := by decide +kernel
theorem d_SL1_charAt_7 : decode M_SL1_charAt.2.1 7 = .ok (.iload_n 1, 1) := by decide +kernel
theorem d_SL1_charAt_8 : decode M_SL1_charAt.2.1 8 = .ok (.baload, 1) := by decide +kernel
theorem d_SL1_charAt_9 : decode M_SL1_charAt.2.1 9 = .ok (.sipush 255, 3) := by decide +kernel
theorem d_SL1_charAt_12 : decode M_SL1_charAt.2.1 12 = .ok (.iand, 1) := by decide +kernel
theorem d_SL1_charAt_13 : decode M_SL1_charAt.2.1 13 = .ok (.i2c, 1) := by decide +kernel
theorem d_SL1_charAt_14 : decode M_SL1_charAt.2.1 14 = .ok (.ireturn, 1) := by decide +kernel
abbrev y_String_charAt : MethodName := ⟨"java/lang/String", "charAt", "(I)C"⟩
abbrev M_String_charAt : XMt := (y_String_charAt, prog_25_method_56_code, 2, (some .char))
theorem d_String_charAt_0 : decode M_String_charAt.2.1 0 = .ok (.aload_n 0, 1) := by decide +kernel
theorem d_String_charAt_1 : decode M_String_charAt.2.1 1 = .ok (.invokevirtual 492, 3) := by decide +kernel
theorem xw_437 : (Jvm.Cond.code ({ cls := "java/lang/String", name := "isLatin1", desc := "()Z" } : Jvm.MethodName) prog_25_method_154_code (1 : Nat) (Option.some Jvm.ClassFile.FieldType.boolean)) ∈ xT := xT_at 437 (by decide +kernel) (by decide +kernel)
theorem xcb_String_isLatin1 : xcb M_String_isLatin1 0 := ⟨xw_437, xw_4, by decide, by decide, by decide, by decide +kernel⟩
theorem xw_435 : (Jvm.Cond.instanceMethod ({ cls := "java/lang/String", name := "isLatin1", desc := "()Z" } : Jvm.MethodName)) ∈ xT := xT_at 435 (by decide +kernel) (by decide +kernel)
theorem xw_434 : (Jvm.Cond.methodLink "java/lang/String" (492 : Nat) ({ cls := "java/lang/String", name := "isLatin1", desc := "()Z" } : Jvm.MethodName)) ∈ xT := xT_at 434 (by decide +kernel) (by decide +kernel)
theorem xw_436 : (Jvm.Cond.selects "java/lang/String" ({ cls := "java/lang/String", name := "isLatin1", desc := "()Z" } : Jvm.MethodName) ({ cls := "java/lang/String", name := "isLatin1", desc := "()Z" } : Jvm.MethodName)) ∈ xT := xT_at 436 (by decide +kernel) (by decide +kernel)
theorem xcv_String_492_String : xCV "java/lang/String" 492 "java/lang/String" M_String_isLatin1 0 := ⟨xcb_String_isLatin1, xw_435, Or.inl ⟨xw_434, Or.inl xw_436⟩⟩
theorem d_String_charAt_4 : decode M_String_charAt.2.1 4 = .ok (.ifCond .eq 12, 3) := by decide +kernel
theorem d_String_charAt_7 : decode M_String_charAt.2.1 7 = .ok (.aload_n 0, 1) := by decide +kernel
theorem d_String_charAt_8 : decode M_String_charAt.2.1 8 = .ok (.getfield 9, 3) := by decide +kernel
theorem d_String_charAt_11 : decode M_String_charAt.2.1 11 = .ok (.iload_n 1, 1) := by decide +kernel
theorem d_String_charAt_12 : decode M_String_charAt.2.1 12 = .ok (.invokestatic 495, 3) := by decide +kernel
theorem xw_440 : (Jvm.Cond.code ({ cls := "java/lang/StringLatin1", name := "charAt", desc := "([BI)C" } : Jvm.MethodName) prog_27_method_2_code (2 : Nat) (Option.some Jvm.ClassFile.FieldType.char)) ∈ xT := xT_at 440 (by decide +kernel) (by decide +kernel)
theorem xcb_SL1_charAt : xcb M_SL1_charAt 2 := ⟨xw_440, xw_13, by decide, by decide, by decide, by decide +kernel⟩
theorem xw_438 : (Jvm.Cond.methodLink "java/lang/String" (495 : Nat) ({ cls := "java/lang/StringLatin1", name := "charAt", desc := "([BI)C" } : Jvm.MethodName)) ∈ xT := xT_at 438 (by decide +kernel) (by decide +kernel)
theorem xw_439 : (Jvm.Cond.static ({ cls := "java/lang/StringLatin1", name := "charAt", desc := "([BI)C" } : Jvm.MethodName)) ∈ xT := xT_at 439 (by decide +kernel) (by decide +kernel)
theorem xcs_String_495 : xCS "java/lang/String" 495 M_SL1_charAt 2 := ⟨xcb_SL1_charAt, xw_439, Or.inl xw_438⟩
theorem d_String_charAt_15 : decode M_String_charAt.2.1 15 = .ok (.ireturn, 1) := by decide +kernel
end
section ST1
variable {l : Launch} {G : XG} {h : XH} {c n d : Nat}
/-- A STRING: its cell and its bytes never change -/
def isS (G : XG) (h : XH) (a : Nat) (t : List Nat) : Prop := ∃ (va : Nat) (e : List Value), xr G h a k_String (.ref va :: .int 0 :: e) ∧ xr G h va k_asbyte (xby t) ∧ xasc t
/-- what is known of the cells that stay -/
def xGk (G : XG) : Prop := (∀ j, xisr (G.2.2.2.2 j) = true) ∧ (∀ i, i < xnstr → ∃ va, G.2.2.1 (G.2.2.2.1 i) = some (k_String, [.ref va, .int 0]) ∧ G.2.2.1 va = some (k_asbyte, xby (xtx i))) ∧ G.2.2.1 (G.2.2.2.1 100) = some (k_aObject, [])
theorem xtx_asc : ∀ i, i < xnstr → ∀ ch ∈ xtx i, ch < 128 := by decide +kernel
theorem xGk.str (hG : xGk G) {i : Nat} (hi : i < xnstr) : isS G h (G.2.2.2.1 i) (xtx i) := by
  obtain ⟨va, h1, h2⟩ := hG.2.1 i hi
  exact ⟨va, [], Or.inr h1, Or.inr h2, xtx_asc i hi⟩
/-- cells of other kinds than these -/
def xno (h : XH) (F ks : List Nat) : Prop := ∀ q ∈ F, ∀ e, h q = some e → e.1 ∉ ks
theorem xr.fr {h' : XH} {F : List Nat} {a k : Nat} {vs : List Value} (ha : xr G h a k vs) (hf : xfr h h' F) (hn : xno h F [k]) : xr G h' a k vs := by
  rcases ha with ha | ha
  · exact Or.inl (hf.1 a _ ha (fun z => hn a z _ ha (by simp)))
  · exact Or.inr ha
theorem xno.sub {F ks ks' : List Nat} (hn : xno h F ks) (hs : ∀ k ∈ ks', k ∈ ks) : xno h F ks' := fun q hq e he hk => hn q hq e he (hs _ hk)
theorem isS.fr {h' : XH} {F : List Nat} {a : Nat} {t : List Nat} (hS : isS G h a t) (hf : xfr h h' F) (hn : xno h F [k_String, k_asbyte]) : isS G h' a t := by
  obtain ⟨va, e, h1, h2, h3⟩ := hS
  exact ⟨va, e, h1.fr hf (hn.sub (by simp)), h2.fr hf (hn.sub (by simp)), h3⟩
theorem isS.up {q : Nat} {e : Nat × List Value} {a : Nat} {t : List Nat} (hS : isS G h a t) (hq : h q = none) : isS G (xup h q e) a t := by
  obtain ⟨va, e', h1, h2, h3⟩ := hS
  exact ⟨va, e', xr_up h1 hq, xr_up h2 hq, h3⟩
theorem c_String_coder {a : Nat} {va : Value} {e : List Value} (ha : xr G h a k_String (va :: .int 0 :: e)) : XM l G d M_String_coder [.ref a] h c n (xSame (.int 0) h c n) := by
  refine XM.of (by decide +kernel) (Nat.le_of_ble_eq_true rfl) ?_
  refine x_gets xw_429 (List.mem_of_getElem? (i := 0) rfl) d_String_coder_0 ?_
  refine x_if_eq (tgt := 13) d_String_coder_3 (by decide) (fun ht => absurd ht (by decide)) (fun _ => ?_)
  refine x_aload_n d_String_coder_6 rfl rfl ?_
  refine x_get xf_String_15_String ha rfl d_String_coder_7 ?_
  refine x_goto (tgt := 14) d_String_coder_10 (by decide) ?_
  refine x_zret d_String_coder_14 rfl rfl ?_
  exact ⟨rfl, rfl, rfl, rfl⟩
theorem c_String_isLatin1 {a : Nat} {va : Value} {e : List Value} (ha : xr G h a k_String (va :: .int 0 :: e)) : XM l G d M_String_isLatin1 [.ref a] h c n (xSame (.int 1) h c n) := by
  refine XM.of (by decide +kernel) (Nat.le_of_ble_eq_true rfl) ?_
  refine x_gets xw_429 (List.mem_of_getElem? (i := 0) rfl) d_String_isLatin1_0 ?_
  refine x_if_eq (tgt := 17) d_String_isLatin1_3 (by decide) (fun ht => absurd ht (by decide)) (fun _ => ?_)
  refine x_aload_n d_String_isLatin1_6 rfl rfl ?_
  refine x_get xf_String_15_String ha rfl d_String_isLatin1_7 ?_
  refine x_if_ne (tgt := 17) d_String_isLatin1_10 (by decide) (fun ht => absurd (by decide) ht) (fun _ => ?_)
  refine x_iconst (v := 1) d_String_isLatin1_13 (by decide) ?_
  refine x_goto (tgt := 18) d_String_isLatin1_14 (by decide) ?_
  refine x_zret d_String_isLatin1_18 rfl rfl ?_
  exact ⟨rfl, rfl, rfl, rfl⟩
theorem c_String_length (hd : 1 ≤ d) {a : Nat} {t : List Nat} (hS : isS G h a t) : XM l G d M_String_length [.ref a] h c n (xSame (.int (nI t.length)) h c n) := by
  obtain ⟨d, rfl⟩ : ∃ q, d = q + 1 := ⟨d - 1, by omega⟩
  obtain ⟨va, e, ha, hv, hat⟩ := hS
  refine XM.of (by decide +kernel) (Nat.le_of_ble_eq_true rfl) ?_
  refine x_aload_n d_String_length_0 rfl rfl ?_
  refine x_get xf_String_9_String ha rfl d_String_length_1 ?_
  refine x_alen (k := k_asbyte) rfl hv (v := nI t.length) (by rw [xby_len]; rfl) d_String_length_4 ?_
  refine x_aload_n d_String_length_5 rfl rfl ?_
  refine x_callV (As := []) (k := k_String) rfl xcv_String_335_String ha (c_String_coder ha) rfl rfl (Nat.le_of_ble_eq_true rfl) d_String_length_6 ?_
  rintro v h' c' n' ⟨rfl, rfl, rfl, rfl⟩
  refine x_ishr d_String_length_9 ?_
  refine x_top (w := .int (nI t.length)) (by rw [sb_shr0]) ?_
  refine x_iret d_String_length_10 rfl ?_
  exact ⟨rfl, rfl, rfl, rfl⟩
theorem c_String_isEmpty {a : Nat} {t : List Nat} (hS : isS G h a t) (hl : t.length < 2 ^ 31) : XM l G d M_String_isEmpty [.ref a] h c n (xSame (.int (if t = [] then 1 else 0)) h c n) := by
  obtain ⟨va, e, ha, hv, hat⟩ := hS
  refine XM.of (by decide +kernel) (Nat.le_of_ble_eq_true rfl) ?_
  refine x_aload_n d_String_isEmpty_0 rfl rfl ?_
  refine x_get xf_String_9_String ha rfl d_String_isEmpty_1 ?_
  refine x_alen (k := k_asbyte) rfl hv (v := nI t.length) (by rw [xby_len]; rfl) d_String_isEmpty_4 ?_
  cases ht : t with
  | nil =>
    subst ht
    refine x_if_ne (tgt := 12) d_String_isEmpty_5 (by decide) (fun ht => absurd (by rfl) ht) (fun _ => ?_)
    refine x_iconst (v := 1) d_String_isEmpty_8 (by decide) ?_
    refine x_goto (tgt := 13) d_String_isEmpty_9 (by decide) ?_
    refine x_zret d_String_isEmpty_13 rfl rfl ?_
    exact ⟨rfl, rfl, rfl, rfl⟩
  | cons x xs =>
    subst ht
    refine x_if_ne (tgt := 12) d_String_isEmpty_5 (by decide) (fun _ => ?_) (fun hn => absurd hn (nI_ne0 (by simp) hl))
    refine x_iconst (v := 0) d_String_isEmpty_12 (by decide) ?_
    refine x_zret d_String_isEmpty_13 rfl rfl ?_
    exact ⟨rfl, rfl, rfl, rfl⟩
theorem c_checkIndex {i m : Nat} {w : Value} (hw : xisr w = true) (hi : i < m) (hm : m < 2 ^ 31) : XM l G d M_Preconditions_checkIndex [.int (nI i), .int (nI m), w] h c n (xSame (.int (nI i)) h c n) := by
  rcases xisr_or hw with rfl | ⟨a, rfl⟩
  · refine XM.of (by decide +kernel) (Nat.le_of_ble_eq_true rfl) ?_
    refine x_iload_n d_Preconditions_checkIndex_0 rfl ?_
    refine x_if_lt (tgt := 9) d_Preconditions_checkIndex_1 (by decide) (fun ht => absurd ht (nI_pos (by omega))) (fun _ => ?_)
    refine x_iload_n d_Preconditions_checkIndex_4 rfl ?_
    refine x_iload_n d_Preconditions_checkIndex_5 rfl ?_
    refine x_icmp_lt (tgt := 16) d_Preconditions_checkIndex_6 (by decide) (fun _ => ?_) (fun hn => absurd (nI_lt hi hm) hn)
    refine x_iload_n d_Preconditions_checkIndex_16 rfl ?_
    refine x_iret d_Preconditions_checkIndex_17 rfl ?_
    exact ⟨rfl, rfl, rfl, rfl⟩
  · refine XM.of (by decide +kernel) (Nat.le_of_ble_eq_true rfl) ?_
    refine x_iload_n d_Preconditions_checkIndex_0 rfl ?_
    refine x_if_lt (tgt := 9) d_Preconditions_checkIndex_1 (by decide) (fun ht => absurd ht (nI_pos (by omega))) (fun _ => ?_)
    refine x_iload_n d_Preconditions_checkIndex_4 rfl ?_
    refine x_iload_n d_Preconditions_checkIndex_5 rfl ?_
    refine x_icmp_lt (tgt := 16) d_Preconditions_checkIndex_6 (by decide) (fun _ => ?_) (fun hn => absurd (nI_lt hi hm) hn)
    refine x_iload_n d_Preconditions_checkIndex_16 rfl ?_
    refine x_iret d_Preconditions_checkIndex_17 rfl ?_
    exact ⟨rfl, rfl, rfl, rfl⟩
theorem c_String_checkIndex (hG : xGk G) (hd : 1 ≤ d) {i m : Nat} (hi : i < m) (hm : m < 2 ^ 31) : XM l G d M_String_checkIndex [.int (nI i), .int (nI m)] h c n (xVoid h c n) := by
  obtain ⟨d, rfl⟩ : ∃ q, d = q + 1 := ⟨d - 1, by omega⟩
  refine XM.of (by decide +kernel) (Nat.le_of_ble_eq_true rfl) ?_
  refine x_iload_n d_String_checkIndex_0 rfl ?_
  refine x_iload_n d_String_checkIndex_1 rfl ?_
  refine x_gets xw_248 (List.mem_of_getElem? (i := 5) rfl) d_String_checkIndex_2 ?_
  refine x_callS (As := [_, _, _]) xcs_String_1059 (c_checkIndex (hG.1 0) hi hm) rfl rfl (Nat.le_of_ble_eq_true rfl) d_String_checkIndex_5 ?_
  rintro v h' c' n' ⟨rfl, rfl, rfl, rfl⟩
  refine x_pop d_String_checkIndex_8 rfl ?_
  refine x_vret d_String_checkIndex_9 rfl ?_
  exact ⟨rfl, rfl, rfl, rfl⟩
theorem xby_at {t : List Nat} {i : Nat} (hi : i < t.length) : (xby t)[i]? = some (.int (nI t[i])) := by
  unfold xby
  rw [List.getElem?_map, List.getElem?_eq_getElem hi]
  rfl
theorem c_SL1_charAt (hG : xGk G) (hd : 2 ≤ d) {va i : Nat} {t : List Nat} (hv : xr G h va k_asbyte (xby t)) (hat : xasc t) (hi : i < t.length) (hl : t.length < 2 ^ 31) : XM l G d M_SL1_charAt [.ref va, .int (nI i)] h c n (xSame (.int (nI t[i])) h c n) := by
  obtain ⟨d, rfl⟩ : ∃ q, d = q + 1 := ⟨d - 1, by omega⟩
  obtain ⟨-, -, -, f4, f5⟩ := xfit1 t[i] (hat _ (List.getElem_mem hi))
  refine XM.of (by decide +kernel) (Nat.le_of_ble_eq_true rfl) ?_
  refine x_iload_n d_SL1_charAt_0 rfl ?_
  refine x_aload_n d_SL1_charAt_1 rfl rfl ?_
  refine x_alen (k := k_asbyte) rfl hv (v := nI t.length) (by rw [xby_len]; rfl) d_SL1_charAt_2 ?_
  refine x_callS (As := [_, _]) xcs_SL1_9 (c_String_checkIndex hG (by omega) hi hl) rfl rfl (Nat.le_of_ble_eq_true rfl) d_SL1_charAt_3 ?_
  rintro v h' c' n' ⟨rfl, rfl, rfl, rfl⟩
  refine x_aload_n d_SL1_charAt_6 rfl rfl ?_
  refine x_iload_n d_SL1_charAt_7 rfl ?_
  refine x_bald (k := k_asbyte) rfl hv (nI_pos (by omega)) (by rw [nI_clamp (by omega)]; exact xby_at hi) d_SL1_charAt_8 ?_
  refine x_sipush (v := 255) d_SL1_charAt_9 (by decide) ?_
  refine x_iand d_SL1_charAt_12 ?_
  refine x_top (w := .int (nI t[i])) (by rw [f4]) ?_
  refine x_i2c d_SL1_charAt_13 ?_
  refine x_top (w := .int (nI t[i])) (by rw [f5]) ?_
  refine x_zret d_SL1_charAt_14 rfl (by show Value.int _ = _; rw [← lg_i2c_nf, f5]) ?_
  exact ⟨rfl, rfl, rfl, rfl⟩
theorem c_String_charAt (hG : xGk G) (hd : 3 ≤ d) {a i : Nat} {t : List Nat} (hS : isS G h a t) (hi : i < t.length) (hl : t.length < 2 ^ 31) : XM l G d M_String_charAt [.ref a, .int (nI i)] h c n (xSame (.int (nI t[i])) h c n) := by
  obtain ⟨d, rfl⟩ : ∃ q, d = q + 1 := ⟨d - 1, by omega⟩
  obtain ⟨va, e, ha, hv, hat⟩ := hS
  obtain ⟨-, -, -, f4, f5⟩ := xfit1 t[i] (hat _ (List.getElem_mem hi))
  refine XM.of (by decide +kernel) (Nat.le_of_ble_eq_true rfl) ?_
  refine x_aload_n d_String_charAt_0 rfl rfl ?_
  refine x_callV (As := []) (k := k_String) rfl xcv_String_492_String ha (c_String_isLatin1 ha) rfl rfl (Nat.le_of_ble_eq_true rfl) d_String_charAt_1 ?_
  rintro v h' c' n' ⟨rfl, rfl, rfl, rfl⟩
  refine x_if_eq (tgt := 16) d_String_charAt_4 (by decide) (fun ht => absurd ht (by decide)) (fun _ => ?_)
  refine x_aload_n d_String_charAt_7 rfl rfl ?_
  refine x_get xf_String_9_String ha rfl d_String_charAt_8 ?_
  refine x_iload_n d_String_charAt_11 rfl ?_
  refine x_callS (As := [_, _]) xcs_String_495 (c_SL1_charAt hG (by omega) hv hat hi hl) rfl rfl (Nat.le_of_ble_eq_true rfl) d_String_charAt_12 ?_
  rintro v h' c' n' ⟨rfl, rfl, rfl, rfl⟩
  refine x_zret d_String_charAt_15 rfl (by show Value.int _ = _; rw [← lg_i2c_nf, f5]) ?_
  exact ⟨rfl, rfl, rfl, rfl⟩
end ST1
end
section
section
abbrev y_SL1_equals : MethodName := ⟨"java/lang/StringLatin1", "equals", "([B[B)Z"⟩
abbrev M_SL1_equals : XMt := (y_SL1_equals, prog_27_method_13_code, 3, (some .boolean))
theorem d_SL1_equals_9 : decode M_SL1_equals.2.1 9 = .ok (.iload_n 2, 1) := by decide +kernel
theorem d_SL1_equals_10 : decode M_SL1_equals.2.1 10 = .ok (.aload_n 0, 1) := by decide +kernel
theorem d_SL1_equals_11 : decode M_SL1_equals.2.1 11 = .ok (.arraylength, 1) := by decide +kernel
theorem d_SL1_equals_12 : decode M_SL1_equals.2.1 12 = .ok (.if_icmp .ge 20, 3) := by decide +kernel
theorem d_SL1_equals_32 : decode M_SL1_equals.2.1 32 = .ok (.iconst 1, 1) := by decide +kernel
theorem d_SL1_equals_33 : decode M_SL1_equals.2.1 33 = .ok (.ireturn, 1) := by decide +kernel
theorem d_SL1_equals_15 : decode M_SL1_equals.2.1 15 = .ok (.aload_n 0, 1) := by decide +kernel
theorem d_SL1_equals_16 : decode M_SL1_equals.2.1 16 = .ok (.iload_n 2, 1) := by decide +kernel
theorem d_SL1_equals_17 : decode M_SL1_equals.2.1 17 = .ok (.baload, 1) := by decide +kernel
theorem d_SL1_equals_18 : decode M_SL1_equals.2.1 18 = .ok (.aload_n 1, 1) := by decide +kernel
theorem d_SL1_equals_19 : decode M_SL1_equals.2.1 19 = .ok (.iload_n 2, 1) := by decide +kernel
theorem d_SL1_equals_20 : decode M_SL1_equals.2.1 20 = .ok (.baload, 1) := by decide +kernel
theorem d_SL1_equals_21 : decode M_SL1_equals.2.1 21 = .ok (.if_icmp .eq 5, 3) := by decide +kernel
theorem d_SL1_equals_26 : decode M_SL1_equals.2.1 26 = .ok (.iinc 2 1, 3) := by decide +kernel
theorem d_SL1_equals_29 : decode M_SL1_equals.2.1 29 = .ok (.goto (-20), 3) := by decide +kernel
theorem d_SL1_equals_24 : decode M_SL1_equals.2.1 24 = .ok (.iconst 0, 1) := by decide +kernel
theorem d_SL1_equals_25 : decode M_SL1_equals.2.1 25 = .ok (.ireturn, 1) := by decide +kernel
theorem d_SL1_equals_0 : decode M_SL1_equals.2.1 0 = .ok (.aload_n 0, 1) := by decide +kernel
theorem d_SL1_equals_1 : decode M_SL1_equals.2.1 1 = .ok (.arraylength, 1) := by decide +kernel
theorem d_SL1_equals_2 : decode M_SL1_equals.2.1 2 = .ok (.aload_n 1, 1) := by decide +kernel
theorem d_SL1_equals_3 : decode M_SL1_equals.2.1 3 = .ok (.arraylength, 1) := by decide +kernel
theorem d_SL1_equals_4 : decode M_SL1_equals.2.1 4 = .ok (.if_icmp .ne 30, 3) := by decide +kernel
theorem d_SL1_equals_7 : decode M_SL1_equals.2.1 7 = .ok (.iconst 0, 1) := by decide +kernel
theorem d_SL1_equals_8 : decode M_SL1_equals.2.1 8 = .ok (.istore_n 2, 1) := by decide +kernel
theorem d_SL1_equals_34 : decode M_SL1_equals.2.1 34 = .ok (.iconst 0, 1) := by decide +kernel
theorem d_SL1_equals_35 : decode M_SL1_equals.2.1 35 = .ok (.ireturn, 1) := by decide +kernel
abbrev y_String_equals : MethodName := ⟨"java/lang/String", "equals", "(Ljava/lang/Object;)Z"⟩
abbrev M_String_equals : XMt := (y_String_equals, prog_25_method_66_code, 3, (some .boolean))
theorem d_String_equals_0 : decode M_String_equals.2.1 0 = .ok (.aload_n 0, 1) := by decide +kernel
theorem d_String_equals_1 : decode M_String_equals.2.1 1 = .ok (.aload_n 1, 1) := by decide +kernel
theorem d_String_equals_2 : decode M_String_equals.2.1 2 = .ok (.if_acmp .ne 5, 3) := by decide +kernel
theorem d_String_equals_5 : decode M_String_equals.2.1 5 = .ok (.iconst 1, 1) := by decide +kernel
theorem d_String_equals_6 : decode M_String_equals.2.1 6 = .ok (.ireturn, 1) := by decide +kernel
theorem d_String_equals_7 : decode M_String_equals.2.1 7 = .ok (.aload_n 1, 1) := by decide +kernel
theorem d_String_equals_8 : decode M_String_equals.2.1 8 = .ok (.instanceof 10, 3) := by decide +kernel
theorem xw_682 : (Jvm.Cond.classLink "java/lang/String" (10 : Nat) "java/lang/String") ∈ xT := xT_at 682 (by decide +kernel) (by decide +kernel)
theorem d_String_equals_11 : decode M_String_equals.2.1 11 = .ok (.ifCond .eq 43, 3) := by decide +kernel
theorem d_String_equals_14 : decode M_String_equals.2.1 14 = .ok (.aload_n 1, 1) := by decide +kernel
theorem d_String_equals_15 : decode M_String_equals.2.1 15 = .ok (.checkcast 10, 3) := by decide +kernel
theorem d_String_equals_18 : decode M_String_equals.2.1 18 = .ok (.astore_n 2, 1) := by decide +kernel
theorem d_String_equals_19 : decode M_String_equals.2.1 19 = .ok (.getstatic 38, 3) := by decide +kernel
theorem d_String_equals_22 : decode M_String_equals.2.1 22 = .ok (.ifCond .eq 14, 3) := by decide +kernel
theorem d_String_equals_25 : decode M_String_equals.2.1 25 = .ok (.aload_n 0, 1) := by decide +kernel
theorem d_String_equals_26 : decode M_String_equals.2.1 26 = .ok (.getfield 15, 3) := by decide +kernel
theorem d_String_equals_29 : decode M_String_equals.2.1 29 = .ok (.aload_n 2, 1) := by decide +kernel
theorem d_String_equals_30 : decode M_String_equals.2.1 30 = .ok (.getfield 15, 3) := by decide +kernel
theorem d_String_equals_33 : decode M_String_equals.2.1 33 = .ok (.if_icmp .ne 21, 3) := by decide +kernel
theorem d_String_equals_36 : decode M_String_equals.2.1 36 = .ok (.aload_n 0, 1) := by decide +kernel
theorem d_String_equals_37 : decode M_String_equals.2.1 37 = .ok (.getfield 9, 3) := by decide +kernel
theorem d_String_equals_40 : decode M_String_equals.2.1 40 = .ok (.aload_n 2, 1) := by decide +kernel
theorem d_String_equals_41 : decode M_String_equals.2.1 41 = .ok (.getfield 9, 3) := by decide +kernel
theorem d_String_equals_44 : decode M_String_equals.2.1 44 = .ok (.invokestatic 541, 3) := by decide +kernel
theorem xw_685 : (Jvm.Cond.code ({ cls := "java/lang/StringLatin1", name := "equals", desc := "([B[B)Z" } : Jvm.MethodName) prog_27_method_13_code (3 : Nat) (Option.some Jvm.ClassFile.FieldType.boolean)) ∈ xT := xT_at 685 (by decide +kernel) (by decide +kernel)
theorem xcb_SL1_equals : xcb M_SL1_equals 2 := ⟨xw_685, xw_13, by decide, by decide, by decide, by decide +kernel⟩
theorem xw_683 : (Jvm.Cond.methodLink "java/lang/String" (541 : Nat) ({ cls := "java/lang/StringLatin1", name := "equals", desc := "([B[B)Z" } : Jvm.MethodName)) ∈ xT := xT_at 683 (by decide +kernel) (by decide +kernel)
theorem xw_684 : (Jvm.Cond.static ({ cls := "java/lang/StringLatin1", name := "equals", desc := "([B[B)Z" } : Jvm.MethodName)) ∈ xT := xT_at 684 (by decide +kernel) (by decide +kernel)
theorem xcs_String_541 : xCS "java/lang/String" 541 M_SL1_equals 2 := ⟨xcb_SL1_equals, xw_684, Or.inl xw_683⟩
theorem d_String_equals_47 : decode M_String_equals.2.1 47 = .ok (.ifCond .eq 7, 3) := by decide +kernel
theorem d_String_equals_50 : decode M_String_equals.2.1 50 = .ok (.iconst 1, 1) := by decide +kernel
theorem d_String_equals_51 : decode M_String_equals.2.1 51 = .ok (.goto 4, 3) := by decide +kernel
theorem d_String_equals_55 : decode M_String_equals.2.1 55 = .ok (.ireturn, 1) := by decide +kernel
theorem d_String_equals_54 : decode M_String_equals.2.1 54 = .ok (.iconst 0, 1) := by decide +kernel
end
section ST2
variable {l : Launch} {G : XG} {h : XH} {c n d : Nat}
/-- our cells and those that stay are apart -/
def xwf (G : XG) (h : XH) : Prop := ∀ a e, h a = some e → G.2.2.1 a = none
theorem x_wf {M : XMt} {pc : Nat} {L : List (Option Value)} {st : List Value} {P : Option Value → XH → Nat → Nat → Prop} (k : xwf G h → XW l G M d pc L st h c n P) : XW l G M d pc L st h c n P := by
  intro p e R s m args below meth cd H locs cells slots ls hF hR hl hL hV hS hN
  refine k (fun a x ha => ?_) p e R s m args below meth cd H locs cells slots ls hF hR hl hL hV hS hN
  cases hk : G.2.2.1 a with
  | none => rfl
  | some y =>
    obtain ⟨g1, -⟩ := hV.2.2.2.2 a y.1 y.2 hk
    obtain ⟨g2, -⟩ := hS.1 a x.1 x.2 ha
    omega
theorem xr_fun {a k k' : Nat} {vs vs' : List Value} (hw : xwf G h) (h1 : xr G h a k vs) (h2 : xr G h a k' vs') : k = k' ∧ vs = vs' := by
  rcases h1 with h1 | h1 <;> rcases h2 with h2 | h2
  · cases h1.symm.trans h2; exact ⟨rfl, rfl⟩
  · rw [hw a _ h1] at h2; cases h2
  · rw [hw a _ h2] at h1; cases h1
  · cases h1.symm.trans h2; exact ⟨rfl, rfl⟩
theorem xby_inj {t u : List Nat} (ht : xasc t) (hu : xasc u) (e : xby t = xby u) : t = u := by
  unfold xby at e
  refine List.ext_getElem? fun i => ?_
  have h1 := congrArg (fun z => z[i]?) e
  simp only [List.getElem?_map] at h1
  cases h2 : t[i]? with
  | none =>
    rw [h2] at h1
    cases h3 : u[i]? with
    | none => rfl
    | some y => rw [h3] at h1; simp at h1
  | some x =>
    rw [h2] at h1
    cases h3 : u[i]? with
    | none => rw [h3] at h1; simp at h1
    | some y =>
      rw [h3] at h1
      simp at h1
      have hx := ht x (List.mem_of_getElem? h2)
      have hy := hu y (List.mem_of_getElem? h3)
      rw [(nI_eq (by omega) (by omega)).mp h1]
theorem isS.inj {a : Nat} {t u : List Nat} (hw : xwf G h) (h1 : isS G h a t) (h2 : isS G h a u) : t = u := by
  obtain ⟨va, e, a1, a2, a3⟩ := h1
  obtain ⟨vb, e', b1, b2, b3⟩ := h2
  obtain ⟨-, q⟩ := xr_fun hw a1 b1
  cases q
  exact xby_inj a3 b3 (xr_fun hw a2 b2).2
theorem xw_iinc1 {i : Nat} : nI i + Int32.ofInt 1 = nI (i + 1) := by rw [show Int32.ofInt 1 = nI 1 from rfl, nI_add]
theorem lp_SL1_equals {va vb : Nat} {t u : List Nat} {P : Option Value → XH → Nat → Nat → Prop} (hv : xr G h va k_asbyte (xby t)) (hu : xr G h vb k_asbyte (xby u)) (ht : xasc t) (hua : xasc u) (hlen : t.length = u.length) (hl : t.length < 2 ^ 30) (hP : P (some (.int (if t = u then 1 else 0))) h c n) :
    ∀ (k i : Nat), i + k = t.length → t.take i = u.take i → XW l G M_SL1_equals d 9 [some (.ref va), some (.ref vb), some (.int (nI i))] [] h c n P := by
  intro k
  induction k with
  | zero =>
    intro i hi he
    have htu : t = u := by rw [List.take_of_length_le (by omega), List.take_of_length_le (by omega)] at he; exact he
    rw [if_pos htu] at hP
    refine x_iload_n d_SL1_equals_9 rfl ?_
    refine x_aload_n d_SL1_equals_10 rfl rfl ?_
    refine x_alen (k := k_asbyte) rfl hv (v := nI t.length) (by rw [xby_len]; rfl) d_SL1_equals_11 ?_
    refine x_icmp_ge (tgt := 32) d_SL1_equals_12 (by decide) (fun _ => ?_) (fun hn => absurd (nI_le (by omega) (by omega)) hn)
    refine x_iconst (v := 1) d_SL1_equals_32 (by decide) ?_
    refine x_zret d_SL1_equals_33 rfl rfl ?_
    exact hP
  | succ k ih =>
    intro i hi he
    have hit : i < t.length := by omega
    have hiu : i < u.length := by omega
    refine x_iload_n d_SL1_equals_9 rfl ?_
    refine x_aload_n d_SL1_equals_10 rfl rfl ?_
    refine x_alen (k := k_asbyte) rfl hv (v := nI t.length) (by rw [xby_len]; rfl) d_SL1_equals_11 ?_
    refine x_icmp_ge (tgt := 32) d_SL1_equals_12 (by decide) (fun ht => absurd ht (nI_ge hit (by omega))) (fun _ => ?_)
    refine x_aload_n d_SL1_equals_15 rfl rfl ?_
    refine x_iload_n d_SL1_equals_16 rfl ?_
    refine x_bald (k := k_asbyte) rfl hv (nI_pos (by omega)) (by rw [nI_clamp (by omega)]; exact xby_at hit) d_SL1_equals_17 ?_
    refine x_aload_n d_SL1_equals_18 rfl rfl ?_
    refine x_iload_n d_SL1_equals_19 rfl ?_
    refine x_bald (k := k_asbyte) rfl hu (nI_pos (by omega)) (by rw [nI_clamp (by omega)]; exact xby_at hiu) d_SL1_equals_20 ?_
    have e1 := ht t[i] (List.getElem_mem hit)
    have e2 := hua u[i] (List.getElem_mem hiu)
    by_cases hq : t[i] = u[i]
    · refine x_icmp_eq (tgt := 26) d_SL1_equals_21 (by decide) (fun _ => ?_) (fun hn => absurd (by rw [hq]) hn)
      refine x_iinc (v := nI (i + 1)) (L' := [_, _, _]) d_SL1_equals_26 rfl (by exact xw_iinc1) rfl rfl ?_
      refine x_goto (tgt := 9) d_SL1_equals_29 (by decide) ?_
      exact ih (i + 1) (by omega) (by rw [List.take_succ_eq_append_getElem hit, List.take_succ_eq_append_getElem hiu, he, hq])
    · rw [if_neg (fun z => hq (by subst z; rfl))] at hP
      refine x_icmp_eq (tgt := 26) d_SL1_equals_21 (by decide) (fun ht => absurd ht (by rw [nI_eq (by omega) (by omega)]; exact hq)) (fun _ => ?_)
      refine x_iconst (v := 0) d_SL1_equals_24 (by decide) ?_
      refine x_zret d_SL1_equals_25 rfl rfl ?_
      exact hP
theorem c_SL1_equals {va vb : Nat} {t u : List Nat} (hv : xr G h va k_asbyte (xby t)) (hu : xr G h vb k_asbyte (xby u)) (ht : xasc t) (hua : xasc u) (hl : t.length < 2 ^ 30) (hl2 : u.length < 2 ^ 30) : XM l G d M_SL1_equals [.ref va, .ref vb] h c n (xSame (.int (if t = u then 1 else 0)) h c n) := by
  refine XM.of (by decide +kernel) (Nat.le_of_ble_eq_true rfl) ?_
  refine x_aload_n d_SL1_equals_0 rfl rfl ?_
  refine x_alen (k := k_asbyte) rfl hv (v := nI t.length) (by rw [xby_len]; rfl) d_SL1_equals_1 ?_
  refine x_aload_n d_SL1_equals_2 rfl rfl ?_
  refine x_alen (k := k_asbyte) rfl hu (v := nI u.length) (by rw [xby_len]; rfl) d_SL1_equals_3 ?_
  by_cases hq : t.length = u.length
  · refine x_icmp_ne (tgt := 34) d_SL1_equals_4 (by decide) (fun ht => absurd (by rw [hq]) ht) (fun _ => ?_)
    refine x_iconst (v := 0) d_SL1_equals_7 (by decide) ?_
    refine x_istore_n (L' := [_, _, _]) d_SL1_equals_8 rfl rfl ?_
    exact lp_SL1_equals hv hu ht hua hq hl ⟨rfl, rfl, rfl, rfl⟩ t.length 0 (by omega) rfl
  · refine x_icmp_ne (tgt := 34) d_SL1_equals_4 (by decide) (fun _ => ?_) (fun hn => absurd hn (by rw [nI_eq (by omega) (by omega)]; exact hq))
    refine x_iconst (v := 0) d_SL1_equals_34 (by decide) ?_
    refine x_zret d_SL1_equals_35 rfl rfl ?_
    rw [if_neg (fun z => hq (by rw [z]))]
    exact ⟨rfl, rfl, rfl, rfl⟩
theorem c_String_equals (hd : 1 ≤ d) {a b : Nat} {t u : List Nat} (hS : isS G h a t) (hU : isS G h b u) (hl : t.length < 2 ^ 30) (hl2 : u.length < 2 ^ 30) : XM l G d M_String_equals [.ref a, .ref b] h c n (xSame (.int (if t = u then 1 else 0)) h c n) := by
  obtain ⟨d, rfl⟩ : ∃ q, d = q + 1 := ⟨d - 1, by omega⟩
  refine XM.of (by decide +kernel) (Nat.le_of_ble_eq_true rfl) ?_
  refine x_wf fun hw => ?_
  refine x_aload_n d_String_equals_0 rfl rfl ?_
  refine x_aload_n d_String_equals_1 rfl rfl ?_
  by_cases hab : a = b
  · subst hab
    rw [isS.inj hw hS hU, if_pos rfl]
    refine x_acmp_ne (tgt := 7) rfl rfl d_String_equals_2 (by decide) (fun ht => absurd rfl ht) (fun _ => ?_)
    refine x_iconst (v := 1) d_String_equals_5 (by decide) ?_
    refine x_zret d_String_equals_6 rfl rfl ?_
    exact ⟨rfl, rfl, rfl, rfl⟩
  · obtain ⟨va, e, ha, hv, hat⟩ := hS
    obtain ⟨vb, e', hb, hvb, hbt⟩ := hU
    refine x_acmp_ne (tgt := 7) rfl rfl d_String_equals_2 (by decide) (fun _ => ?_) (fun hn => absurd hn (by intro z; cases z; exact hab rfl))
    refine x_aload_n d_String_equals_7 rfl rfl ?_
    refine x_instY (k := k_String) rfl xw_682 (Or.inl rfl) hb d_String_equals_8 ?_
    refine x_if_eq (tgt := 54) d_String_equals_11 (by decide) (fun ht => absurd ht (by decide)) (fun _ => ?_)
    refine x_aload_n d_String_equals_14 rfl rfl ?_
    refine x_castY (k := k_String) rfl xw_682 (Or.inl rfl) hb d_String_equals_15 ?_
    refine x_astore_n (L' := [_, _, _]) d_String_equals_18 rfl rfl rfl ?_
    refine x_gets xw_429 (List.mem_of_getElem? (i := 0) rfl) d_String_equals_19 ?_
    refine x_if_eq (tgt := 36) d_String_equals_22 (by decide) (fun ht => absurd ht (by decide)) (fun _ => ?_)
    refine x_aload_n d_String_equals_25 rfl rfl ?_
    refine x_get xf_String_15_String ha rfl d_String_equals_26 ?_
    refine x_aload_n d_String_equals_29 rfl rfl ?_
    refine x_get xf_String_15_String hb rfl d_String_equals_30 ?_
    refine x_icmp_ne (tgt := 54) d_String_equals_33 (by decide) (fun ht => absurd rfl ht) (fun _ => ?_)
    refine x_aload_n d_String_equals_36 rfl rfl ?_
    refine x_get xf_String_9_String ha rfl d_String_equals_37 ?_
    refine x_aload_n d_String_equals_40 rfl rfl ?_
    refine x_get xf_String_9_String hb rfl d_String_equals_41 ?_
    refine x_callS (As := [_, _]) xcs_String_541 (c_SL1_equals hv hvb hat hbt hl hl2) rfl rfl (Nat.le_of_ble_eq_true rfl) d_String_equals_44 ?_
    rintro v h' c' n' ⟨rfl, rfl, rfl, rfl⟩
    by_cases hq : t = u
    · rw [if_pos hq]
      refine x_if_eq (tgt := 54) d_String_equals_47 (by decide) (fun ht => absurd ht (by decide)) (fun _ => ?_)
      refine x_iconst (v := 1) d_String_equals_50 (by decide) ?_
      refine x_goto (tgt := 55) d_String_equals_51 (by decide) ?_
      refine x_zret d_String_equals_55 rfl rfl ?_
      exact ⟨rfl, rfl, rfl, rfl⟩
    · rw [if_neg hq]
      refine x_if_eq (tgt := 54) d_String_equals_47 (by decide) (fun _ => ?_) (fun hn => absurd rfl hn)
      refine x_iconst (v := 0) d_String_equals_54 (by decide) ?_
      refine x_zret d_String_equals_55 rfl rfl ?_
      exact ⟨rfl, rfl, rfl, rfl⟩
end ST2
end
section
section
abbrev y_Arrays_checkLength : MethodName := ⟨"java/util/Arrays", "checkLength", "(II)V"⟩
abbrev M_Arrays_checkLength : XMt := (y_Arrays_checkLength, prog_34_method_131_code, 2, none)
theorem d_Arrays_checkLength_0 : decode M_Arrays_checkLength.2.1 0 = .ok (.iload_n 1, 1) := by decide +kernel
theorem d_Arrays_checkLength_1 : decode M_Arrays_checkLength.2.1 1 = .ok (.iload_n 0, 1) := by decide +kernel
theorem d_Arrays_checkLength_2 : decode M_Arrays_checkLength.2.1 2 = .ok (.if_icmp .ge 35, 3) := by decide +kernel
theorem d_Arrays_checkLength_37 : decode M_Arrays_checkLength.2.1 37 = .ok (.return_, 1) := by decide +kernel
abbrev y_Arrays_copyOfRangeByte : MethodName := ⟨"java/util/Arrays", "copyOfRangeByte", "([BII)[B"⟩
abbrev M_Arrays_copyOfRangeByte : XMt := (y_Arrays_copyOfRangeByte, prog_34_method_133_code, 5, (some (.array .byte)))
theorem d_Arrays_copyOfRangeByte_0 : decode M_Arrays_copyOfRangeByte.2.1 0 = .ok (.iload_n 1, 1) := by decide +kernel
theorem d_Arrays_copyOfRangeByte_1 : decode M_Arrays_copyOfRangeByte.2.1 1 = .ok (.iload_n 2, 1) := by decide +kernel
theorem d_Arrays_copyOfRangeByte_2 : decode M_Arrays_copyOfRangeByte.2.1 2 = .ok (.invokestatic 343, 3) := by decide +kernel
theorem xw_489 : (Jvm.Cond.code ({ cls := "java/util/Arrays", name := "checkLength", desc := "(II)V" } : Jvm.MethodName) prog_34_method_131_code (2 : Nat) (Option.none : Option Jvm.ClassFile.FieldType)) ∈ xT := xT_at 489 (by decide +kernel) (by decide +kernel)
theorem xcb_Arrays_checkLength : xcb M_Arrays_checkLength 2 := ⟨xw_489, xw_11, by decide, by decide, by decide, by decide +kernel⟩
theorem xw_487 : (Jvm.Cond.methodLink "java/util/Arrays" (343 : Nat) ({ cls := "java/util/Arrays", name := "checkLength", desc := "(II)V" } : Jvm.MethodName)) ∈ xT := xT_at 487 (by decide +kernel) (by decide +kernel)
theorem xw_488 : (Jvm.Cond.static ({ cls := "java/util/Arrays", name := "checkLength", desc := "(II)V" } : Jvm.MethodName)) ∈ xT := xT_at 488 (by decide +kernel) (by decide +kernel)
theorem xcs_Arrays_343 : xCS "java/util/Arrays" 343 M_Arrays_checkLength 2 := ⟨xcb_Arrays_checkLength, xw_488, Or.inl xw_487⟩
theorem d_Arrays_copyOfRangeByte_5 : decode M_Arrays_copyOfRangeByte.2.1 5 = .ok (.iload_n 2, 1) := by decide +kernel
theorem d_Arrays_copyOfRangeByte_6 : decode M_Arrays_copyOfRangeByte.2.1 6 = .ok (.iload_n 1, 1) := by decide +kernel
theorem d_Arrays_copyOfRangeByte_7 : decode M_Arrays_copyOfRangeByte.2.1 7 = .ok (.isub, 1) := by decide +kernel
theorem d_Arrays_copyOfRangeByte_8 : decode M_Arrays_copyOfRangeByte.2.1 8 = .ok (.istore_n 3, 1) := by decide +kernel
theorem d_Arrays_copyOfRangeByte_9 : decode M_Arrays_copyOfRangeByte.2.1 9 = .ok (.iload_n 3, 1) := by decide +kernel
theorem d_Arrays_copyOfRangeByte_10 : decode M_Arrays_copyOfRangeByte.2.1 10 = .ok (.newarray .byte, 2) := by decide +kernel
theorem d_Arrays_copyOfRangeByte_12 : decode M_Arrays_copyOfRangeByte.2.1 12 = .ok (.astore 4, 2) := by decide +kernel
theorem d_Arrays_copyOfRangeByte_14 : decode M_Arrays_copyOfRangeByte.2.1 14 = .ok (.aload_n 0, 1) := by decide +kernel
theorem d_Arrays_copyOfRangeByte_15 : decode M_Arrays_copyOfRangeByte.2.1 15 = .ok (.iload_n 1, 1) := by decide +kernel
theorem d_Arrays_copyOfRangeByte_16 : decode M_Arrays_copyOfRangeByte.2.1 16 = .ok (.aload 4, 2) := by decide +kernel
theorem d_Arrays_copyOfRangeByte_18 : decode M_Arrays_copyOfRangeByte.2.1 18 = .ok (.iconst 0, 1) := by decide +kernel
theorem d_Arrays_copyOfRangeByte_19 : decode M_Arrays_copyOfRangeByte.2.1 19 = .ok (.aload_n 0, 1) := by decide +kernel
theorem d_Arrays_copyOfRangeByte_20 : decode M_Arrays_copyOfRangeByte.2.1 20 = .ok (.arraylength, 1) := by decide +kernel
theorem d_Arrays_copyOfRangeByte_21 : decode M_Arrays_copyOfRangeByte.2.1 21 = .ok (.iload_n 1, 1) := by decide +kernel
theorem d_Arrays_copyOfRangeByte_22 : decode M_Arrays_copyOfRangeByte.2.1 22 = .ok (.isub, 1) := by decide +kernel
theorem d_Arrays_copyOfRangeByte_23 : decode M_Arrays_copyOfRangeByte.2.1 23 = .ok (.iload_n 3, 1) := by decide +kernel
theorem d_Arrays_copyOfRangeByte_24 : decode M_Arrays_copyOfRangeByte.2.1 24 = .ok (.invokestatic 304, 3) := by decide +kernel
theorem d_Arrays_copyOfRangeByte_27 : decode M_Arrays_copyOfRangeByte.2.1 27 = .ok (.invokestatic 150, 3) := by decide +kernel
theorem d_Arrays_copyOfRangeByte_30 : decode M_Arrays_copyOfRangeByte.2.1 30 = .ok (.aload 4, 2) := by decide +kernel
theorem d_Arrays_copyOfRangeByte_32 : decode M_Arrays_copyOfRangeByte.2.1 32 = .ok (.areturn, 1) := by decide +kernel
abbrev y_Arrays_copyOfRange : MethodName := ⟨"java/util/Arrays", "copyOfRange", "([BII)[B"⟩
abbrev M_Arrays_copyOfRange : XMt := (y_Arrays_copyOfRange, prog_34_method_132_code, 3, (some (.array .byte)))
theorem d_Arrays_copyOfRange_0 : decode M_Arrays_copyOfRange.2.1 0 = .ok (.iload_n 1, 1) := by decide +kernel
theorem d_Arrays_copyOfRange_1 : decode M_Arrays_copyOfRange.2.1 1 = .ok (.ifCond .ne 9, 3) := by decide +kernel
theorem d_Arrays_copyOfRange_4 : decode M_Arrays_copyOfRange.2.1 4 = .ok (.iload_n 2, 1) := by decide +kernel
theorem d_Arrays_copyOfRange_5 : decode M_Arrays_copyOfRange.2.1 5 = .ok (.aload_n 0, 1) := by decide +kernel
theorem d_Arrays_copyOfRange_6 : decode M_Arrays_copyOfRange.2.1 6 = .ok (.arraylength, 1) := by decide +kernel
theorem d_Arrays_copyOfRange_7 : decode M_Arrays_copyOfRange.2.1 7 = .ok (.if_icmp .eq 10, 3) := by decide +kernel
theorem d_Arrays_copyOfRange_17 : decode M_Arrays_copyOfRange.2.1 17 = .ok (.aload_n 0, 1) := by decide +kernel
theorem d_Arrays_copyOfRange_18 : decode M_Arrays_copyOfRange.2.1 18 = .ok (.invokevirtual 310, 3) := by decide +kernel
theorem xw_208 : (Jvm.Cond.methodLink "java/util/Arrays" (310 : Nat) ({ cls := "[B", name := "clone", desc := "()Ljava/lang/Object;" } : Jvm.MethodName)) ∈ xT := xT_at 208 (by decide +kernel) (by decide +kernel)
theorem xw_209 : (Jvm.Cond.sameMethod "[B" "java/lang/Object" "clone" "()Ljava/lang/Object;") ∈ xT := xT_at 209 (by decide +kernel) (by decide +kernel)
theorem xw_210 : (Jvm.Cond.native ({ cls := "java/lang/Object", name := "clone", desc := "()Ljava/lang/Object;" } : Jvm.MethodName)) ∈ xT := xT_at 210 (by decide +kernel) (by decide +kernel)
theorem xw_211 : (Jvm.Cond.instanceMethod ({ cls := "java/lang/Object", name := "clone", desc := "()Ljava/lang/Object;" } : Jvm.MethodName)) ∈ xT := xT_at 211 (by decide +kernel) (by decide +kernel)
theorem xw_212 : (Jvm.Cond.selects "[B" ({ cls := "[B", name := "clone", desc := "()Ljava/lang/Object;" } : Jvm.MethodName) ({ cls := "java/lang/Object", name := "clone", desc := "()Ljava/lang/Object;" } : Jvm.MethodName)) ∈ xT := xT_at 212 (by decide +kernel) (by decide +kernel)
theorem xw_213 : (Jvm.Cond.castable "[B" "java/lang/Cloneable") ∈ xT := xT_at 213 (by decide +kernel) (by decide +kernel)
theorem d_Arrays_copyOfRange_21 : decode M_Arrays_copyOfRange.2.1 21 = .ok (.checkcast 311, 3) := by decide +kernel
theorem xw_214 : (Jvm.Cond.classLink "java/util/Arrays" (311 : Nat) "[B") ∈ xT := xT_at 214 (by decide +kernel) (by decide +kernel)
theorem d_Arrays_copyOfRange_24 : decode M_Arrays_copyOfRange.2.1 24 = .ok (.areturn, 1) := by decide +kernel
theorem d_Arrays_copyOfRange_10 : decode M_Arrays_copyOfRange.2.1 10 = .ok (.aload_n 0, 1) := by decide +kernel
theorem d_Arrays_copyOfRange_11 : decode M_Arrays_copyOfRange.2.1 11 = .ok (.iload_n 1, 1) := by decide +kernel
theorem d_Arrays_copyOfRange_12 : decode M_Arrays_copyOfRange.2.1 12 = .ok (.iload_n 2, 1) := by decide +kernel
theorem d_Arrays_copyOfRange_13 : decode M_Arrays_copyOfRange.2.1 13 = .ok (.invokestatic 339, 3) := by decide +kernel
theorem xw_486 : (Jvm.Cond.code ({ cls := "java/util/Arrays", name := "copyOfRangeByte", desc := "([BII)[B" } : Jvm.MethodName) prog_34_method_133_code (5 : Nat) (Option.some (Jvm.ClassFile.FieldType.array Jvm.ClassFile.FieldType.byte))) ∈ xT := xT_at 486 (by decide +kernel) (by decide +kernel)
theorem xcb_Arrays_copyOfRangeByte : xcb M_Arrays_copyOfRangeByte 3 := ⟨xw_486, xw_11, by decide, by decide, by decide, by decide +kernel⟩
theorem xw_484 : (Jvm.Cond.methodLink "java/util/Arrays" (339 : Nat) ({ cls := "java/util/Arrays", name := "copyOfRangeByte", desc := "([BII)[B" } : Jvm.MethodName)) ∈ xT := xT_at 484 (by decide +kernel) (by decide +kernel)
theorem xw_485 : (Jvm.Cond.static ({ cls := "java/util/Arrays", name := "copyOfRangeByte", desc := "([BII)[B" } : Jvm.MethodName)) ∈ xT := xT_at 485 (by decide +kernel) (by decide +kernel)
theorem xcs_Arrays_339 : xCS "java/util/Arrays" 339 M_Arrays_copyOfRangeByte 3 := ⟨xcb_Arrays_copyOfRangeByte, xw_485, Or.inl xw_484⟩
theorem d_Arrays_copyOfRange_16 : decode M_Arrays_copyOfRange.2.1 16 = .ok (.areturn, 1) := by decide +kernel
abbrev y_String_init_aBB : MethodName := ⟨"java/lang/String", "<init>", "([BB)V"⟩
abbrev M_String_init_aBB : XMt := (y_String_init_aBB, prog_25_method_151_code, 3, none)
theorem d_String_init_aBB_0 : decode M_String_init_aBB.2.1 0 = .ok (.aload_n 0, 1) := by decide +kernel
theorem d_String_init_aBB_1 : decode M_String_init_aBB.2.1 1 = .ok (.invokespecial 1, 3) := by decide +kernel
theorem xw_473 : (Jvm.Cond.methodLink "java/lang/String" (1 : Nat) ({ cls := "java/lang/Object", name := "<init>", desc := "()V" } : Jvm.MethodName)) ∈ xT := xT_at 473 (by decide +kernel) (by decide +kernel)
theorem xw_40 : (Jvm.Cond.instanceMethod ({ cls := "java/lang/Object", name := "<init>", desc := "()V" } : Jvm.MethodName)) ∈ xT := xT_at 40 (by decide +kernel) (by decide +kernel)
theorem xw_41 : (Jvm.Cond.code ({ cls := "java/lang/Object", name := "<init>", desc := "()V" } : Jvm.MethodName) object_method_1_code (1 : Nat) (Option.none : Option Jvm.ClassFile.FieldType)) ∈ xT := xT_at 41 (by decide +kernel) (by decide +kernel)
theorem d_String_init_aBB_4 : decode M_String_init_aBB.2.1 4 = .ok (.aload_n 0, 1) := by decide +kernel
theorem d_String_init_aBB_5 : decode M_String_init_aBB.2.1 5 = .ok (.aload_n 1, 1) := by decide +kernel
theorem d_String_init_aBB_6 : decode M_String_init_aBB.2.1 6 = .ok (.putfield 9, 3) := by decide +kernel
theorem xp_String_0 : xP k_String 0 true (.array .byte) := ⟨_, _, _, rfl, rfl, by decide +kernel⟩
theorem d_String_init_aBB_9 : decode M_String_init_aBB.2.1 9 = .ok (.aload_n 0, 1) := by decide +kernel
theorem d_String_init_aBB_10 : decode M_String_init_aBB.2.1 10 = .ok (.iload_n 2, 1) := by decide +kernel
theorem d_String_init_aBB_11 : decode M_String_init_aBB.2.1 11 = .ok (.putfield 15, 3) := by decide +kernel
theorem xp_String_1 : xP k_String 1 true .byte := ⟨_, _, _, rfl, rfl, by decide +kernel⟩
theorem d_String_init_aBB_14 : decode M_String_init_aBB.2.1 14 = .ok (.return_, 1) := by decide +kernel
abbrev y_SL1_newString : MethodName := ⟨"java/lang/StringLatin1", "newString", "([BII)Ljava/lang/String;"⟩
abbrev M_SL1_newString : XMt := (y_SL1_newString, prog_27_method_47_code, 3, (some (.object "java/lang/String")))
theorem d_SL1_newString_0 : decode M_SL1_newString.2.1 0 = .ok (.iload_n 2, 1) := by decide +kernel
theorem d_SL1_newString_1 : decode M_SL1_newString.2.1 1 = .ok (.ifCond .ne 6, 3) := by decide +kernel
theorem d_SL1_newString_4 : decode M_SL1_newString.2.1 4 = .ok (.ldc 151, 2) := by decide +kernel
theorem d_SL1_newString_6 : decode M_SL1_newString.2.1 6 = .ok (.areturn, 1) := by decide +kernel
theorem d_SL1_newString_7 : decode M_SL1_newString.2.1 7 = .ok (.new 1, 3) := by decide +kernel
theorem xw_912 : (Jvm.Cond.classLink "java/lang/StringLatin1" (1 : Nat) "java/lang/String") ∈ xT := xT_at 912 (by decide +kernel) (by decide +kernel)
theorem xw_466 : (Jvm.Cond.instantiable "java/lang/String" (4 : Nat)) ∈ xT := xT_at 466 (by decide +kernel) (by decide +kernel)
theorem xnw_SL1_1 : xNw "java/lang/StringLatin1" 1 k_String 4 [.null, .int 0, .int 0, .int 0] := ⟨_, _, _, rfl, rfl, by decide +kernel, xw_912, xw_466, xw_4⟩
theorem d_SL1_newString_10 : decode M_SL1_newString.2.1 10 = .ok (.dup, 1) := by decide +kernel
theorem d_SL1_newString_11 : decode M_SL1_newString.2.1 11 = .ok (.aload_n 0, 1) := by decide +kernel
theorem d_SL1_newString_12 : decode M_SL1_newString.2.1 12 = .ok (.iload_n 1, 1) := by decide +kernel
theorem d_SL1_newString_13 : decode M_SL1_newString.2.1 13 = .ok (.iload_n 1, 1) := by decide +kernel
theorem d_SL1_newString_14 : decode M_SL1_newString.2.1 14 = .ok (.iload_n 2, 1) := by decide +kernel
theorem d_SL1_newString_15 : decode M_SL1_newString.2.1 15 = .ok (.iadd, 1) := by decide +kernel
theorem d_SL1_newString_16 : decode M_SL1_newString.2.1 16 = .ok (.invokestatic 232, 3) := by decide +kernel
theorem xw_483 : (Jvm.Cond.code ({ cls := "java/util/Arrays", name := "copyOfRange", desc := "([BII)[B" } : Jvm.MethodName) prog_34_method_132_code (3 : Nat) (Option.some (Jvm.ClassFile.FieldType.array Jvm.ClassFile.FieldType.byte))) ∈ xT := xT_at 483 (by decide +kernel) (by decide +kernel)
theorem xcb_Arrays_copyOfRange : xcb M_Arrays_copyOfRange 3 := ⟨xw_483, xw_11, by decide, by decide, by decide, by decide +kernel⟩
theorem xw_913 : (Jvm.Cond.methodLink "java/lang/StringLatin1" (232 : Nat) ({ cls := "java/util/Arrays", name := "copyOfRange", desc := "([BII)[B" } : Jvm.MethodName)) ∈ xT := xT_at 913 (by decide +kernel) (by decide +kernel)
theorem xw_482 : (Jvm.Cond.static ({ cls := "java/util/Arrays", name := "copyOfRange", desc := "([BII)[B" } : Jvm.MethodName)) ∈ xT := xT_at 482 (by decide +kernel) (by decide +kernel)
theorem xcs_SL1_232 : xCS "java/lang/StringLatin1" 232 M_Arrays_copyOfRange 3 := ⟨xcb_Arrays_copyOfRange, xw_482, Or.inl xw_913⟩
theorem d_SL1_newString_19 : decode M_SL1_newString.2.1 19 = .ok (.iconst 0, 1) := by decide +kernel
theorem d_SL1_newString_20 : decode M_SL1_newString.2.1 20 = .ok (.invokespecial 112, 3) := by decide +kernel
theorem xw_916 : (Jvm.Cond.code ({ cls := "java/lang/String", name := "<init>", desc := "([BB)V" } : Jvm.MethodName) prog_25_method_151_code (3 : Nat) (Option.none : Option Jvm.ClassFile.FieldType)) ∈ xT := xT_at 916 (by decide +kernel) (by decide +kernel)
theorem xcb_String_init_aBB : xcb M_String_init_aBB 2 := ⟨xw_916, xw_4, by decide, by decide, by decide, by decide +kernel⟩
theorem xw_914 : (Jvm.Cond.methodLink "java/lang/StringLatin1" (112 : Nat) ({ cls := "java/lang/String", name := "<init>", desc := "([BB)V" } : Jvm.MethodName)) ∈ xT := xT_at 914 (by decide +kernel) (by decide +kernel)
theorem xw_915 : (Jvm.Cond.instanceMethod ({ cls := "java/lang/String", name := "<init>", desc := "([BB)V" } : Jvm.MethodName)) ∈ xT := xT_at 915 (by decide +kernel) (by decide +kernel)
theorem xci_SL1_112 : xCI "java/lang/StringLatin1" 112 M_String_init_aBB 2 := ⟨xcb_String_init_aBB, rfl, rfl, xw_915, Or.inl xw_914⟩
theorem d_SL1_newString_23 : decode M_SL1_newString.2.1 23 = .ok (.areturn, 1) := by decide +kernel
abbrev y_Preconditions_checkFromToIndex : MethodName := ⟨"jdk/internal/util/Preconditions", "checkFromToIndex", "(IIILjava/util/function/BiFunction;)I"⟩
abbrev M_Preconditions_checkFromToIndex : XMt := (y_Preconditions_checkFromToIndex, prog_41_method_12_code, 4, (some .int))
theorem d_Preconditions_checkFromToIndex_0 : decode M_Preconditions_checkFromToIndex.2.1 0 = .ok (.iload_n 0, 1) := by decide +kernel
theorem d_Preconditions_checkFromToIndex_1 : decode M_Preconditions_checkFromToIndex.2.1 1 = .ok (.ifCond .lt 13, 3) := by decide +kernel
theorem d_Preconditions_checkFromToIndex_4 : decode M_Preconditions_checkFromToIndex.2.1 4 = .ok (.iload_n 0, 1) := by decide +kernel
theorem d_Preconditions_checkFromToIndex_5 : decode M_Preconditions_checkFromToIndex.2.1 5 = .ok (.iload_n 1, 1) := by decide +kernel
theorem d_Preconditions_checkFromToIndex_6 : decode M_Preconditions_checkFromToIndex.2.1 6 = .ok (.if_icmp .gt 8, 3) := by decide +kernel
theorem d_Preconditions_checkFromToIndex_9 : decode M_Preconditions_checkFromToIndex.2.1 9 = .ok (.iload_n 1, 1) := by decide +kernel
theorem d_Preconditions_checkFromToIndex_10 : decode M_Preconditions_checkFromToIndex.2.1 10 = .ok (.iload_n 2, 1) := by decide +kernel
theorem d_Preconditions_checkFromToIndex_11 : decode M_Preconditions_checkFromToIndex.2.1 11 = .ok (.if_icmp .le 11, 3) := by decide +kernel
theorem d_Preconditions_checkFromToIndex_22 : decode M_Preconditions_checkFromToIndex.2.1 22 = .ok (.iload_n 0, 1) := by decide +kernel
theorem d_Preconditions_checkFromToIndex_23 : decode M_Preconditions_checkFromToIndex.2.1 23 = .ok (.ireturn, 1) := by decide +kernel
abbrev y_String_checkBoundsBeginEnd : MethodName := ⟨"java/lang/String", "checkBoundsBeginEnd", "(III)V"⟩
abbrev M_String_checkBoundsBeginEnd : XMt := (y_String_checkBoundsBeginEnd, prog_25_method_158_code, 3, none)
theorem d_String_checkBoundsBeginEnd_0 : decode M_String_checkBoundsBeginEnd.2.1 0 = .ok (.iload_n 0, 1) := by decide +kernel
theorem d_String_checkBoundsBeginEnd_1 : decode M_String_checkBoundsBeginEnd.2.1 1 = .ok (.iload_n 1, 1) := by decide +kernel
theorem d_String_checkBoundsBeginEnd_2 : decode M_String_checkBoundsBeginEnd.2.1 2 = .ok (.iload_n 2, 1) := by decide +kernel
theorem d_String_checkBoundsBeginEnd_3 : decode M_String_checkBoundsBeginEnd.2.1 3 = .ok (.getstatic 1053, 3) := by decide +kernel
theorem d_String_checkBoundsBeginEnd_6 : decode M_String_checkBoundsBeginEnd.2.1 6 = .ok (.invokestatic 1062, 3) := by decide +kernel
theorem xw_560 : (Jvm.Cond.code ({ cls := "jdk/internal/util/Preconditions", name := "checkFromToIndex", desc := "(IIILjava/util/function/BiFunction;)I" } : Jvm.MethodName) prog_41_method_12_code (4 : Nat) (Option.some Jvm.ClassFile.FieldType.int)) ∈ xT := xT_at 560 (by decide +kernel) (by decide +kernel)
theorem xcb_Preconditions_checkFromToIndex : xcb M_Preconditions_checkFromToIndex 4 := ⟨xw_560, xw_14, by decide, by decide, by decide, by decide +kernel⟩
theorem xw_558 : (Jvm.Cond.methodLink "java/lang/String" (1062 : Nat) ({ cls := "jdk/internal/util/Preconditions", name := "checkFromToIndex", desc := "(IIILjava/util/function/BiFunction;)I" } : Jvm.MethodName)) ∈ xT := xT_at 558 (by decide +kernel) (by decide +kernel)
theorem xw_559 : (Jvm.Cond.static ({ cls := "jdk/internal/util/Preconditions", name := "checkFromToIndex", desc := "(IIILjava/util/function/BiFunction;)I" } : Jvm.MethodName)) ∈ xT := xT_at 559 (by decide +kernel) (by decide +kernel)
theorem xcs_String_1062 : xCS "java/lang/String" 1062 M_Preconditions_checkFromToIndex 4 := ⟨xcb_Preconditions_checkFromToIndex, xw_559, Or.inl xw_558⟩
theorem d_String_checkBoundsBeginEnd_9 : decode M_String_checkBoundsBeginEnd.2.1 9 = .ok (.pop, 1) := by decide +kernel
theorem d_String_checkBoundsBeginEnd_10 : decode M_String_checkBoundsBeginEnd.2.1 10 = .ok (.return_, 1) := by decide +kernel
abbrev y_String_substring : MethodName := ⟨"java/lang/String", "substring", "(II)Ljava/lang/String;"⟩
abbrev M_String_substring : XMt := (y_String_substring, prog_25_method_92_code, 5, (some (.object "java/lang/String")))
theorem d_String_substring_0 : decode M_String_substring.2.1 0 = .ok (.aload_n 0, 1) := by decide +kernel
theorem d_String_substring_1 : decode M_String_substring.2.1 1 = .ok (.invokevirtual 505, 3) := by decide +kernel
theorem xw_424 : (Jvm.Cond.code ({ cls := "java/lang/String", name := "length", desc := "()I" } : Jvm.MethodName) prog_25_method_54_code (1 : Nat) (Option.some Jvm.ClassFile.FieldType.int)) ∈ xT := xT_at 424 (by decide +kernel) (by decide +kernel)
theorem xcb_String_length : xcb M_String_length 0 := ⟨xw_424, xw_4, by decide, by decide, by decide, by decide +kernel⟩
theorem xw_422 : (Jvm.Cond.instanceMethod ({ cls := "java/lang/String", name := "length", desc := "()I" } : Jvm.MethodName)) ∈ xT := xT_at 422 (by decide +kernel) (by decide +kernel)
theorem xw_767 : (Jvm.Cond.methodLink "java/lang/String" (505 : Nat) ({ cls := "java/lang/String", name := "length", desc := "()I" } : Jvm.MethodName)) ∈ xT := xT_at 767 (by decide +kernel) (by decide +kernel)
theorem xw_423 : (Jvm.Cond.selects "java/lang/String" ({ cls := "java/lang/String", name := "length", desc := "()I" } : Jvm.MethodName) ({ cls := "java/lang/String", name := "length", desc := "()I" } : Jvm.MethodName)) ∈ xT := xT_at 423 (by decide +kernel) (by decide +kernel)
theorem xcv_String_505_String : xCV "java/lang/String" 505 "java/lang/String" M_String_length 0 := ⟨xcb_String_length, xw_422, Or.inl ⟨xw_767, Or.inl xw_423⟩⟩
theorem d_String_substring_4 : decode M_String_substring.2.1 4 = .ok (.istore_n 3, 1) := by decide +kernel
theorem d_String_substring_5 : decode M_String_substring.2.1 5 = .ok (.iload_n 1, 1) := by decide +kernel
theorem d_String_substring_6 : decode M_String_substring.2.1 6 = .ok (.iload_n 2, 1) := by decide +kernel
theorem d_String_substring_7 : decode M_String_substring.2.1 7 = .ok (.iload_n 3, 1) := by decide +kernel
theorem d_String_substring_8 : decode M_String_substring.2.1 8 = .ok (.invokestatic 521, 3) := by decide +kernel
theorem xw_557 : (Jvm.Cond.code ({ cls := "java/lang/String", name := "checkBoundsBeginEnd", desc := "(III)V" } : Jvm.MethodName) prog_25_method_158_code (3 : Nat) (Option.none : Option Jvm.ClassFile.FieldType)) ∈ xT := xT_at 557 (by decide +kernel) (by decide +kernel)
theorem xcb_String_checkBoundsBeginEnd : xcb M_String_checkBoundsBeginEnd 3 := ⟨xw_557, xw_4, by decide, by decide, by decide, by decide +kernel⟩
theorem xw_907 : (Jvm.Cond.methodLink "java/lang/String" (521 : Nat) ({ cls := "java/lang/String", name := "checkBoundsBeginEnd", desc := "(III)V" } : Jvm.MethodName)) ∈ xT := xT_at 907 (by decide +kernel) (by decide +kernel)
theorem xw_556 : (Jvm.Cond.static ({ cls := "java/lang/String", name := "checkBoundsBeginEnd", desc := "(III)V" } : Jvm.MethodName)) ∈ xT := xT_at 556 (by decide +kernel) (by decide +kernel)
theorem xcs_String_521 : xCS "java/lang/String" 521 M_String_checkBoundsBeginEnd 3 := ⟨xcb_String_checkBoundsBeginEnd, xw_556, Or.inl xw_907⟩
theorem d_String_substring_22 : decode M_String_substring.2.1 22 = .ok (.iload_n 2, 1) := by decide +kernel
theorem d_String_substring_23 : decode M_String_substring.2.1 23 = .ok (.iload_n 1, 1) := by decide +kernel
theorem d_String_substring_24 : decode M_String_substring.2.1 24 = .ok (.isub, 1) := by decide +kernel
theorem d_String_substring_25 : decode M_String_substring.2.1 25 = .ok (.istore 4, 2) := by decide +kernel
theorem d_String_substring_27 : decode M_String_substring.2.1 27 = .ok (.aload_n 0, 1) := by decide +kernel
theorem d_String_substring_28 : decode M_String_substring.2.1 28 = .ok (.invokevirtual 492, 3) := by decide +kernel
theorem d_String_substring_31 : decode M_String_substring.2.1 31 = .ok (.ifCond .eq 16, 3) := by decide +kernel
theorem d_String_substring_34 : decode M_String_substring.2.1 34 = .ok (.aload_n 0, 1) := by decide +kernel
theorem d_String_substring_35 : decode M_String_substring.2.1 35 = .ok (.getfield 9, 3) := by decide +kernel
theorem d_String_substring_38 : decode M_String_substring.2.1 38 = .ok (.iload_n 1, 1) := by decide +kernel
theorem d_String_substring_39 : decode M_String_substring.2.1 39 = .ok (.iload 4, 2) := by decide +kernel
theorem d_String_substring_41 : decode M_String_substring.2.1 41 = .ok (.invokestatic 685, 3) := by decide +kernel
theorem xw_910 : (Jvm.Cond.code ({ cls := "java/lang/StringLatin1", name := "newString", desc := "([BII)Ljava/lang/String;" } : Jvm.MethodName) prog_27_method_47_code (3 : Nat) (Option.some (Jvm.ClassFile.FieldType.object "java/lang/String"))) ∈ xT := xT_at 910 (by decide +kernel) (by decide +kernel)
theorem xcb_SL1_newString : xcb M_SL1_newString 3 := ⟨xw_910, xw_13, by decide, by decide, by decide, by decide +kernel⟩
theorem xw_908 : (Jvm.Cond.methodLink "java/lang/String" (685 : Nat) ({ cls := "java/lang/StringLatin1", name := "newString", desc := "([BII)Ljava/lang/String;" } : Jvm.MethodName)) ∈ xT := xT_at 908 (by decide +kernel) (by decide +kernel)
theorem xw_909 : (Jvm.Cond.static ({ cls := "java/lang/StringLatin1", name := "newString", desc := "([BII)Ljava/lang/String;" } : Jvm.MethodName)) ∈ xT := xT_at 909 (by decide +kernel) (by decide +kernel)
theorem xcs_String_685 : xCS "java/lang/String" 685 M_SL1_newString 3 := ⟨xcb_SL1_newString, xw_909, Or.inl xw_908⟩
theorem d_String_substring_44 : decode M_String_substring.2.1 44 = .ok (.goto 13, 3) := by decide +kernel
theorem d_String_substring_57 : decode M_String_substring.2.1 57 = .ok (.areturn, 1) := by decide +kernel
theorem d_String_substring_11 : decode M_String_substring.2.1 11 = .ok (.iload_n 1, 1) := by decide +kernel
theorem d_String_substring_12 : decode M_String_substring.2.1 12 = .ok (.ifCond .ne 10, 3) := by decide +kernel
theorem d_String_substring_15 : decode M_String_substring.2.1 15 = .ok (.iload_n 2, 1) := by decide +kernel
theorem d_String_substring_16 : decode M_String_substring.2.1 16 = .ok (.iload_n 3, 1) := by decide +kernel
theorem d_String_substring_17 : decode M_String_substring.2.1 17 = .ok (.if_icmp .ne 5, 3) := by decide +kernel
theorem d_String_substring_20 : decode M_String_substring.2.1 20 = .ok (.aload_n 0, 1) := by decide +kernel
theorem d_String_substring_21 : decode M_String_substring.2.1 21 = .ok (.areturn, 1) := by decide +kernel
end
section ST3
variable {l : Launch} {G : XG} {h : XH} {c n d : Nat}
theorem c_checkLength {b e : Nat} (hbe : b ≤ e) (he : e < 2 ^ 31) : XM l G d M_Arrays_checkLength [.int (nI b), .int (nI e)] h c n (xVoid h c n) := by
  refine XM.of (by decide +kernel) (Nat.le_of_ble_eq_true rfl) ?_
  refine x_iload_n d_Arrays_checkLength_0 rfl ?_
  refine x_iload_n d_Arrays_checkLength_1 rfl ?_
  refine x_icmp_ge (tgt := 37) d_Arrays_checkLength_2 (by decide) (fun _ => ?_) (fun hn => absurd (nI_le hbe he) hn)
  refine x_vret d_Arrays_checkLength_37 rfl ?_
  exact ⟨rfl, rfl, rfl, rfl⟩
theorem xcopy_cut {vs : List Value} {b m : Nat} {z : Value} : xcopy vs (List.replicate m z) b 0 m = (vs.drop b).take m := by
  unfold xcopy
  simp
/-- a stretch of a byte array, as a String's bytes -/
theorem c_copyOfRangeByte (hd : 1 ≤ d) {k0 a b e : Nat} {vs : List Value} (hk0 : xk[k0]? = some (.inr .byte)) (ha : xr G h a k0 vs) (hf : ∀ v ∈ vs, fits .byte v = true) (hbe : b ≤ e) (he : e ≤ vs.length) (hl : vs.length < 2 ^ 20) (hc : c + 1 ≤ xCB) (hn : n + (e - b) ≤ xSB) : XM l G d M_Arrays_copyOfRangeByte [.ref a, .int (nI b), .int (nI e)] h c n (xMade k_asbyte ((vs.drop b).take (e - b)) h c n) := by
  obtain ⟨d, rfl⟩ : ∃ q, d = q + 1 := ⟨d - 1, by omega⟩
  refine XM.of (by decide +kernel) (Nat.le_of_ble_eq_true rfl) ?_
  refine x_iload_n d_Arrays_copyOfRangeByte_0 rfl ?_
  refine x_iload_n d_Arrays_copyOfRangeByte_1 rfl ?_
  refine x_callS (As := [_, _]) xcs_Arrays_343 (c_checkLength hbe (by omega)) rfl rfl (Nat.le_of_ble_eq_true rfl) d_Arrays_copyOfRangeByte_2 ?_
  rintro v h' c' n' ⟨rfl, rfl, rfl, rfl⟩
  refine x_iload_n d_Arrays_copyOfRangeByte_5 rfl ?_
  refine x_iload_n d_Arrays_copyOfRangeByte_6 rfl ?_
  refine x_isub d_Arrays_copyOfRangeByte_7 ?_
  refine x_top (w := .int (nI (e - b))) (by rw [pk_sub hbe]) ?_
  refine x_istore_n (L' := [_, _, _, _, _]) d_Arrays_copyOfRangeByte_8 rfl rfl ?_
  refine x_iload_n d_Arrays_copyOfRangeByte_9 rfl ?_
  refine x_newa (k := k_asbyte) rfl rfl (fun _ hz => by cases hz) xw_74 (nI_pos (by omega)) (nI_clamp (by omega)) (by show (e - b) * 1 ≤ _; omega) hc hn d_Arrays_copyOfRangeByte_10 (fun q hn_q hk_q => ?_)
  refine x_astore (L' := [_, _, _, _, _]) d_Arrays_copyOfRangeByte_12 rfl rfl rfl ?_
  refine x_aload_n d_Arrays_copyOfRangeByte_14 rfl rfl ?_
  refine x_iload_n d_Arrays_copyOfRangeByte_15 rfl ?_
  refine x_aload d_Arrays_copyOfRangeByte_16 rfl rfl ?_
  refine x_iconst (v := 0) d_Arrays_copyOfRangeByte_18 (by decide) ?_
  refine x_aload_n d_Arrays_copyOfRangeByte_19 rfl rfl ?_
  refine x_alen (k := k0) hk0 (xr_up ha hn_q) (v := nI vs.length) rfl d_Arrays_copyOfRangeByte_20 ?_
  refine x_iload_n d_Arrays_copyOfRangeByte_21 rfl ?_
  refine x_isub d_Arrays_copyOfRangeByte_22 ?_
  refine x_top (w := .int (nI (vs.length - b))) (by rw [pk_sub (by omega)]) ?_
  refine x_iload_n d_Arrays_copyOfRangeByte_23 rfl ?_
  refine x_mmin xw_215 xw_216 xw_10 xw_217 (Nat.le_of_ble_eq_true rfl) d_Arrays_copyOfRangeByte_24 ?_
  refine x_top (w := .int (nI (e - b))) (by rw [nI_min (by omega) (by omega), Nat.min_eq_right (by omega)]) ?_
  refine x_copyP (k0 := k0) (k := k_asbyte) hk0 rfl rfl xw_218 xw_220 xw_219 xw_12 (xr_up ha hn_q) xup_self (nI_pos (by omega)) (by decide) (nI_pos (by omega)) (by rw [nI_clamp (by omega), nI_clamp (by omega)]; omega) (by rw [nI_clamp (by omega)]; simp) hf (Nat.le_of_ble_eq_true rfl) d_Arrays_copyOfRangeByte_27 ?_
  refine x_hp (h' := xup h' q (k_asbyte, (vs.drop b).take (e - b))) (by rw [xup_up, nI_clamp (by omega), nI_clamp (by omega)]; exact congrArg (fun z => xup h' q (k_asbyte, z)) xcopy_cut) ?_
  refine x_aload d_Arrays_copyOfRangeByte_30 rfl rfl ?_
  refine x_aret d_Arrays_copyOfRangeByte_32 rfl rfl ?_
  exact ⟨q, rfl, hn_q, rfl, rfl, by simp; omega⟩
theorem c_copyOfRange (hd : 2 ≤ d) {k0 a b e : Nat} {vs : List Value} (hk0 : xk[k0]? = some (.inr .byte)) (ha : xr G h a k0 vs) (hf : ∀ v ∈ vs, fits .byte v = true) (hbe : b ≤ e) (he : e ≤ vs.length) (hl : vs.length < 2 ^ 20) (hc : c + 1 ≤ xCB) (hn : n + (e - b) ≤ xSB) : XM l G d M_Arrays_copyOfRange [.ref a, .int (nI b), .int (nI e)] h c n (xMade k_asbyte ((vs.drop b).take (e - b)) h c n) := by
  obtain ⟨d, rfl⟩ : ∃ q, d = q + 1 := ⟨d - 1, by omega⟩
  refine XM.of (by decide +kernel) (Nat.le_of_ble_eq_true rfl) ?_
  refine x_iload_n d_Arrays_copyOfRange_0 rfl ?_
  by_cases hb : b = 0
  · subst hb
    refine x_if_ne (tgt := 10) d_Arrays_copyOfRange_1 (by decide) (fun ht => absurd rfl ht) (fun _ => ?_)
    refine x_iload_n d_Arrays_copyOfRange_4 rfl ?_
    refine x_aload_n d_Arrays_copyOfRange_5 rfl rfl ?_
    refine x_alen (k := k0) hk0 ha (v := nI vs.length) rfl d_Arrays_copyOfRange_6 ?_
    by_cases hq : e = vs.length
    · refine x_icmp_eq (tgt := 17) d_Arrays_copyOfRange_7 (by decide) (fun _ => ?_) (fun hn => absurd (by rw [hq]) hn)
      refine x_aload_n d_Arrays_copyOfRange_17 rfl rfl ?_
      refine x_clone (k := k0) (k1 := k_asbyte) (ad := "[B") hk0 rfl (fun _ hz => by cases hz) (by decide +kernel) xw_208 xw_209 xw_210 xw_211 xw_212 xw_213 ha hf hc (by omega) (Nat.le_of_ble_eq_true rfl) d_Arrays_copyOfRange_18 (fun q hn_q hk_q => ?_)
      refine x_castA (k := k_asbyte) (nm := "[B") rfl (fun _ hz => by cases hz) (by decide +kernel) xw_214 (Or.inl xup_self) d_Arrays_copyOfRange_21 ?_
      refine x_aret d_Arrays_copyOfRange_24 rfl rfl ?_
      refine ⟨q, rfl, hn_q, ?_, rfl, by simp; omega⟩
      rw [hq]
      simp
    · refine x_icmp_eq (tgt := 17) d_Arrays_copyOfRange_7 (by decide) (fun ht => absurd ht (by rw [nI_eq (by omega) (by omega)]; exact hq)) (fun _ => ?_)
      refine x_aload_n d_Arrays_copyOfRange_10 rfl rfl ?_
      refine x_iload_n d_Arrays_copyOfRange_11 rfl ?_
      refine x_iload_n d_Arrays_copyOfRange_12 rfl ?_
      refine x_callS (As := [_, _, _]) xcs_Arrays_339 (c_copyOfRangeByte (by omega) hk0 ha hf hbe he hl hc hn) rfl rfl (Nat.le_of_ble_eq_true rfl) d_Arrays_copyOfRange_13 ?_
      rintro v h' c' n' ⟨q, rfl, hq, rfl, rfl, rfl⟩
      refine x_aret d_Arrays_copyOfRange_16 rfl rfl ?_
      exact ⟨q, rfl, hq, rfl, rfl, rfl⟩
  · refine x_if_ne (tgt := 10) d_Arrays_copyOfRange_1 (by decide) (fun _ => ?_) (fun hn => absurd hn (nI_ne0 (by omega) (by omega)))
    refine x_aload_n d_Arrays_copyOfRange_10 rfl rfl ?_
    refine x_iload_n d_Arrays_copyOfRange_11 rfl ?_
    refine x_iload_n d_Arrays_copyOfRange_12 rfl ?_
    refine x_callS (As := [_, _, _]) xcs_Arrays_339 (c_copyOfRangeByte (by omega) hk0 ha hf hbe he hl hc hn) rfl rfl (Nat.le_of_ble_eq_true rfl) d_Arrays_copyOfRange_13 ?_
    rintro v h' c' n' ⟨q, rfl, hq, rfl, rfl, rfl⟩
    refine x_aret d_Arrays_copyOfRange_16 rfl rfl ?_
    exact ⟨q, rfl, hq, rfl, rfl, rfl⟩
/-- a String's birth -/
theorem c_String_init_aBB (hd : 1 ≤ d) {a q : Nat} {y z : Value} (ha : h a = some (k_String, [.null, .int 0, y, z])) : XM l G d M_String_init_aBB [.ref a, .ref q, .int 0] h c n (fun v h' c' n' => v = none ∧ h' = xup h a (k_String, [.ref q, .int 0, y, z]) ∧ c' = c ∧ n' = n) := by
  obtain ⟨d, rfl⟩ : ∃ q, d = q + 1 := ⟨d - 1, by omega⟩
  refine XM.of (by decide +kernel) (Nat.le_of_ble_eq_true rfl) ?_
  refine x_aload_n d_String_init_aBB_0 rfl rfl ?_
  refine x_objInit xw_473 xw_40 xw_41 (Nat.le_of_ble_eq_true rfl) d_String_init_aBB_1 ?_
  refine x_aload_n d_String_init_aBB_4 rfl rfl ?_
  refine x_aload_n d_String_init_aBB_5 rfl rfl ?_
  refine x_putF xf_String_9_String xp_String_0 ⟨_, _, _, rfl, rfl, xw_633⟩ rfl rfl rfl ha rfl rfl d_String_init_aBB_6 ?_
  refine x_aload_n d_String_init_aBB_9 rfl rfl ?_
  refine x_iload_n d_String_init_aBB_10 rfl ?_
  refine x_putF xf_String_15_String xp_String_1 ⟨_, _, _, rfl, rfl, xw_634⟩ rfl rfl rfl xup_self rfl rfl d_String_init_aBB_11 ?_
  refine x_vret d_String_init_aBB_14 rfl ?_
  exact ⟨rfl, by rw [xup_up]; rfl, rfl, rfl⟩
theorem xby_cut {t : List Nat} {b m : Nat} : ((xby t).drop b).take m = xby ((t.drop b).take m) := by
  unfold xby
  rw [List.map_take, List.map_drop]
theorem xasc_cut {t : List Nat} {b m : Nat} (ht : xasc t) : xasc ((t.drop b).take m) := fun ch hch => ht ch (List.mem_of_mem_drop (List.mem_of_mem_take hch))
/-- an end that is a String of its own, or one that was there -/
abbrev pS (G : XG) (t : List Nat) (h : XH) (c n : Nat) : Option Value → XH → Nat → Nat → Prop := fun v h' c' n' => ∃ q, v = some (.ref q) ∧ isS G h' q t ∧ xfr h h' [] ∧ c' ≤ c + 2 ∧ n' ≤ n + t.length + 4
theorem c_SL1_newString (hG : xGk G) (hd : 3 ≤ d) {a b m : Nat} {t : List Nat} (ha : xr G h a k_asbyte (xby t)) (ht : xasc t) (hm : b + m ≤ t.length) (hl : t.length < 2 ^ 20) (hc : c + 2 ≤ xCB) (hn : n + m + 4 ≤ xSB) : XM l G d M_SL1_newString [.ref a, .int (nI b), .int (nI m)] h c n (pS G ((t.drop b).take m) h c n) := by
  obtain ⟨d, rfl⟩ : ∃ q, d = q + 1 := ⟨d - 1, by omega⟩
  refine XM.of (by decide +kernel) (Nat.le_of_ble_eq_true rfl) ?_
  refine x_iload_n d_SL1_newString_0 rfl ?_
  have hlen : ((t.drop b).take m).length = m := by simp; omega
  by_cases hm0 : m = 0
  · subst hm0
    refine x_if_ne (tgt := 7) d_SL1_newString_1 (by decide) (fun ht => absurd rfl ht) (fun _ => ?_)
    refine x_ldcS (i := 17) (tx := "") (by decide +kernel) d_SL1_newString_4 ?_
    refine x_aret d_SL1_newString_6 rfl rfl ?_
    exact ⟨_, rfl, by rw [List.take_zero]; exact hG.str (i := 17) (by decide), xfr.rf, by omega, by omega⟩
  · refine x_if_ne (tgt := 7) d_SL1_newString_1 (by decide) (fun _ => ?_) (fun hn => absurd hn (nI_ne0 (by omega) (by omega)))
    refine x_new xnw_SL1_1 (by omega) (by omega) d_SL1_newString_7 (fun p hn_p hk_p => ?_)
    refine x_dup d_SL1_newString_10 rfl ?_
    refine x_aload_n d_SL1_newString_11 rfl rfl ?_
    refine x_iload_n d_SL1_newString_12 rfl ?_
    refine x_iload_n d_SL1_newString_13 rfl ?_
    refine x_iload_n d_SL1_newString_14 rfl ?_
    refine x_iadd d_SL1_newString_15 ?_
    refine x_top (w := .int (nI (b + m))) (by rw [nI_add]) ?_
    refine x_callS (As := [_, _, _]) xcs_SL1_232 (c_copyOfRange (by omega) (k0 := k_asbyte) rfl (xr_up ha hn_p) (xby_fit ht) (Nat.le_add_right b m) (by rw [xby_len]; omega) (by rw [xby_len]; omega) (by omega) (by omega)) rfl rfl (Nat.le_of_ble_eq_true rfl) d_SL1_newString_16 ?_
    rintro v h' c' n' ⟨q, rfl, hq, rfl, rfl, rfl⟩
    have hpq : p ≠ q := fun z => by rw [← z, xup_self] at hq; cases hq
    have hq0 : h q = none := by rw [xup_ne (Ne.symm hpq)] at hq; exact hq
    refine x_iconst (v := 0) d_SL1_newString_19 (by decide) ?_
    refine x_callI (As := [_, _]) xci_SL1_112 (c_String_init_aBB (by omega) (by rw [xup_ne hpq]; exact xup_self)) rfl rfl (Nat.le_of_ble_eq_true rfl) d_SL1_newString_20 ?_
    rintro v h' c' n' ⟨rfl, rfl, rfl, rfl⟩
    refine x_aret d_SL1_newString_23 rfl rfl ?_
    refine ⟨p, rfl, ⟨q, _, Or.inl xup_self, Or.inl (by rw [xup_ne (Ne.symm hpq), xup_self, Nat.add_sub_cancel_left, xby_cut]), xasc_cut ht⟩, ((xfr.rf.up (Or.inr hn_p)).up (Or.inr hq0)).up (Or.inr hn_p), by omega, ?_⟩
    simp
    omega
theorem c_checkFromTo {b e m : Nat} {w : Value} (hw : xisr w = true) (hbe : b ≤ e) (he : e ≤ m) (hm : m < 2 ^ 31) : XM l G d M_Preconditions_checkFromToIndex [.int (nI b), .int (nI e), .int (nI m), w] h c n (xSame (.int (nI b)) h c n) := by
  rcases xisr_or hw with rfl | ⟨a, rfl⟩
  · refine XM.of (by decide +kernel) (Nat.le_of_ble_eq_true rfl) ?_
    refine x_iload_n d_Preconditions_checkFromToIndex_0 rfl ?_
    refine x_if_lt (tgt := 14) d_Preconditions_checkFromToIndex_1 (by decide) (fun ht => absurd ht (nI_pos (by omega))) (fun _ => ?_)
    refine x_iload_n d_Preconditions_checkFromToIndex_4 rfl ?_
    refine x_iload_n d_Preconditions_checkFromToIndex_5 rfl ?_
    refine x_icmp_gt (tgt := 14) d_Preconditions_checkFromToIndex_6 (by decide) (fun ht => absurd ht (nI_nlt hbe (by omega))) (fun _ => ?_)
    refine x_iload_n d_Preconditions_checkFromToIndex_9 rfl ?_
    refine x_iload_n d_Preconditions_checkFromToIndex_10 rfl ?_
    refine x_icmp_le (tgt := 22) d_Preconditions_checkFromToIndex_11 (by decide) (fun _ => ?_) (fun hn => absurd (nI_le he hm) hn)
    refine x_iload_n d_Preconditions_checkFromToIndex_22 rfl ?_
    refine x_iret d_Preconditions_checkFromToIndex_23 rfl ?_
    exact ⟨rfl, rfl, rfl, rfl⟩
  · refine XM.of (by decide +kernel) (Nat.le_of_ble_eq_true rfl) ?_
    refine x_iload_n d_Preconditions_checkFromToIndex_0 rfl ?_
    refine x_if_lt (tgt := 14) d_Preconditions_checkFromToIndex_1 (by decide) (fun ht => absurd ht (nI_pos (by omega))) (fun _ => ?_)
    refine x_iload_n d_Preconditions_checkFromToIndex_4 rfl ?_
    refine x_iload_n d_Preconditions_checkFromToIndex_5 rfl ?_
    refine x_icmp_gt (tgt := 14) d_Preconditions_checkFromToIndex_6 (by decide) (fun ht => absurd ht (nI_nlt hbe (by omega))) (fun _ => ?_)
    refine x_iload_n d_Preconditions_checkFromToIndex_9 rfl ?_
    refine x_iload_n d_Preconditions_checkFromToIndex_10 rfl ?_
    refine x_icmp_le (tgt := 22) d_Preconditions_checkFromToIndex_11 (by decide) (fun _ => ?_) (fun hn => absurd (nI_le he hm) hn)
    refine x_iload_n d_Preconditions_checkFromToIndex_22 rfl ?_
    refine x_iret d_Preconditions_checkFromToIndex_23 rfl ?_
    exact ⟨rfl, rfl, rfl, rfl⟩
theorem c_checkBounds (hG : xGk G) (hd : 1 ≤ d) {b e m : Nat} (hbe : b ≤ e) (he : e ≤ m) (hm : m < 2 ^ 31) : XM l G d M_String_checkBoundsBeginEnd [.int (nI b), .int (nI e), .int (nI m)] h c n (xVoid h c n) := by
  obtain ⟨d, rfl⟩ : ∃ q, d = q + 1 := ⟨d - 1, by omega⟩
  refine XM.of (by decide +kernel) (Nat.le_of_ble_eq_true rfl) ?_
  refine x_iload_n d_String_checkBoundsBeginEnd_0 rfl ?_
  refine x_iload_n d_String_checkBoundsBeginEnd_1 rfl ?_
  refine x_iload_n d_String_checkBoundsBeginEnd_2 rfl ?_
  refine x_gets xw_248 (List.mem_of_getElem? (i := 5) rfl) d_String_checkBoundsBeginEnd_3 ?_
  refine x_callS (As := [_, _, _, _]) xcs_String_1062 (c_checkFromTo (hG.1 0) hbe he hm) rfl rfl (Nat.le_of_ble_eq_true rfl) d_String_checkBoundsBeginEnd_6 ?_
  rintro v h' c' n' ⟨rfl, rfl, rfl, rfl⟩
  refine x_pop d_String_checkBoundsBeginEnd_9 rfl ?_
  refine x_vret d_String_checkBoundsBeginEnd_10 rfl ?_
  exact ⟨rfl, rfl, rfl, rfl⟩
theorem c_substring (hG : xGk G) (hd : 4 ≤ d) {a b e : Nat} {t : List Nat} (hS : isS G h a t) (hbe : b ≤ e) (he : e ≤ t.length) (hl : t.length < 2 ^ 20) (hc : c + 2 ≤ xCB) (hn : n + (e - b) + 4 ≤ xSB) : XM l G d M_String_substring [.ref a, .int (nI b), .int (nI e)] h c n (pS G ((t.drop b).take (e - b)) h c n) := by
  obtain ⟨d, rfl⟩ : ∃ q, d = q + 1 := ⟨d - 1, by omega⟩
  refine XM.of (by decide +kernel) (Nat.le_of_ble_eq_true rfl) ?_
  obtain ⟨va, x, ha, hv, hat⟩ := id hS
  refine x_aload_n d_String_substring_0 rfl rfl ?_
  refine x_callV (As := []) (k := k_String) rfl xcv_String_505_String ha (c_String_length (by omega) hS) rfl rfl (Nat.le_of_ble_eq_true rfl) d_String_substring_1 ?_
  rintro v h' c' n' ⟨rfl, rfl, rfl, rfl⟩
  refine x_istore_n (L' := [_, _, _, _, _]) d_String_substring_4 rfl rfl ?_
  refine x_iload_n d_String_substring_5 rfl ?_
  refine x_iload_n d_String_substring_6 rfl ?_
  refine x_iload_n d_String_substring_7 rfl ?_
  refine x_callS (As := [_, _, _]) xcs_String_521 (c_checkBounds hG (by omega) hbe he (by omega)) rfl rfl (Nat.le_of_ble_eq_true rfl) d_String_substring_8 ?_
  rintro v h' c' n' ⟨rfl, rfl, rfl, rfl⟩
  have go : XW l G M_String_substring (d + 1) 22 [some (.ref a), some (.int (nI b)), some (.int (nI e)), some (.int (nI t.length)), none] [] h' c' n' (pS G ((t.drop b).take (e - b)) h' c' n') := by
    refine x_iload_n d_String_substring_22 rfl ?_
    refine x_iload_n d_String_substring_23 rfl ?_
    refine x_isub d_String_substring_24 ?_
    refine x_top (w := .int (nI (e - b))) (by rw [pk_sub hbe]) ?_
    refine x_istore (L' := [_, _, _, _, _]) d_String_substring_25 rfl rfl ?_
    refine x_aload_n d_String_substring_27 rfl rfl ?_
    refine x_callV (As := []) (k := k_String) rfl xcv_String_492_String ha (c_String_isLatin1 ha) rfl rfl (Nat.le_of_ble_eq_true rfl) d_String_substring_28 ?_
    rintro v h' c' n' ⟨rfl, rfl, rfl, rfl⟩
    refine x_if_eq (tgt := 47) d_String_substring_31 (by decide) (fun ht => absurd ht (by decide)) (fun _ => ?_)
    refine x_aload_n d_String_substring_34 rfl rfl ?_
    refine x_get xf_String_9_String ha rfl d_String_substring_35 ?_
    refine x_iload_n d_String_substring_38 rfl ?_
    refine x_iload d_String_substring_39 rfl ?_
    refine x_callS (As := [_, _, _]) xcs_String_685 (c_SL1_newString hG (by omega) hv hat (b := b) (m := e - b) (by omega) hl hc hn) rfl rfl (Nat.le_of_ble_eq_true rfl) d_String_substring_41 ?_
    rintro v h' c' n' ⟨q, rfl, h1, h2, h3, h4⟩
    refine x_goto (tgt := 57) d_String_substring_44 (by decide) ?_
    refine x_aret d_String_substring_57 rfl rfl ?_
    exact ⟨q, rfl, h1, h2, h3, h4⟩
  refine x_iload_n d_String_substring_11 rfl ?_
  by_cases hb : b = 0
  · subst hb
    refine x_if_ne (tgt := 22) d_String_substring_12 (by decide) (fun ht => absurd rfl ht) (fun _ => ?_)
    refine x_iload_n d_String_substring_15 rfl ?_
    refine x_iload_n d_String_substring_16 rfl ?_
    by_cases hq : e = t.length
    · refine x_icmp_ne (tgt := 22) d_String_substring_17 (by decide) (fun ht => absurd (by rw [hq]) ht) (fun _ => ?_)
      refine x_aload_n d_String_substring_20 rfl rfl ?_
      refine x_aret d_String_substring_21 rfl rfl ?_
      exact ⟨a, rfl, by rw [hq]; simpa using hS, xfr.rf, by omega, by omega⟩
    · refine x_icmp_ne (tgt := 22) d_String_substring_17 (by decide) (fun _ => ?_) (fun hn => absurd hn (by rw [nI_eq (by omega) (by omega)]; exact hq))
      exact go
  · refine x_if_ne (tgt := 22) d_String_substring_12 (by decide) (fun _ => ?_) (fun hn => absurd hn (nI_ne0 (by omega) (by omega)))
    exact go
end ST3
end
section
section
abbrev y_ASB_init : MethodName := ⟨"java/lang/AbstractStringBuilder", "<init>", "(I)V"⟩
abbrev M_ASB_init : XMt := (y_ASB_init, prog_15_method_2_code, 2, none)
theorem d_ASB_init_0 : decode M_ASB_init.2.1 0 = .ok (.aload_n 0, 1) := by decide +kernel
theorem d_ASB_init_1 : decode M_ASB_init.2.1 1 = .ok (.invokespecial 3, 3) := by decide +kernel
theorem xw_50 : (Jvm.Cond.methodLink "java/lang/AbstractStringBuilder" (3 : Nat) ({ cls := "java/lang/Object", name := "<init>", desc := "()V" } : Jvm.MethodName)) ∈ xT := xT_at 50 (by decide +kernel) (by decide +kernel)
theorem d_ASB_init_4 : decode M_ASB_init.2.1 4 = .ok (.getstatic 18, 3) := by decide +kernel
theorem d_ASB_init_7 : decode M_ASB_init.2.1 7 = .ok (.ifCond .eq 18, 3) := by decide +kernel
theorem d_ASB_init_10 : decode M_ASB_init.2.1 10 = .ok (.aload_n 0, 1) := by decide +kernel
theorem d_ASB_init_11 : decode M_ASB_init.2.1 11 = .ok (.iload_n 1, 1) := by decide +kernel
theorem d_ASB_init_12 : decode M_ASB_init.2.1 12 = .ok (.newarray .byte, 2) := by decide +kernel
theorem d_ASB_init_14 : decode M_ASB_init.2.1 14 = .ok (.putfield 15, 3) := by decide +kernel
theorem d_ASB_init_17 : decode M_ASB_init.2.1 17 = .ok (.aload_n 0, 1) := by decide +kernel
theorem d_ASB_init_18 : decode M_ASB_init.2.1 18 = .ok (.iconst 0, 1) := by decide +kernel
theorem d_ASB_init_19 : decode M_ASB_init.2.1 19 = .ok (.putfield 22, 3) := by decide +kernel
theorem xp_SB_1 : xP k_StringBuilder 1 false .byte := ⟨_, _, _, rfl, rfl, by decide +kernel⟩
theorem d_ASB_init_22 : decode M_ASB_init.2.1 22 = .ok (.goto 16, 3) := by decide +kernel
theorem d_ASB_init_38 : decode M_ASB_init.2.1 38 = .ok (.return_, 1) := by decide +kernel
abbrev y_SB_init : MethodName := ⟨"java/lang/StringBuilder", "<init>", "()V"⟩
abbrev M_SB_init : XMt := (y_SB_init, prog_26_method_1_code, 1, none)
theorem d_SB_init_0 : decode M_SB_init.2.1 0 = .ok (.aload_n 0, 1) := by decide +kernel
theorem d_SB_init_1 : decode M_SB_init.2.1 1 = .ok (.bipush 16, 2) := by decide +kernel
theorem d_SB_init_3 : decode M_SB_init.2.1 3 = .ok (.invokespecial 1, 3) := by decide +kernel
theorem xw_49 : (Jvm.Cond.code ({ cls := "java/lang/AbstractStringBuilder", name := "<init>", desc := "(I)V" } : Jvm.MethodName) prog_15_method_2_code (2 : Nat) (Option.none : Option Jvm.ClassFile.FieldType)) ∈ xT := xT_at 49 (by decide +kernel) (by decide +kernel)
theorem xcb_ASB_init : xcb M_ASB_init 1 := ⟨xw_49, xw_2, by decide, by decide, by decide, by decide +kernel⟩
theorem xw_47 : (Jvm.Cond.methodLink "java/lang/StringBuilder" (1 : Nat) ({ cls := "java/lang/AbstractStringBuilder", name := "<init>", desc := "(I)V" } : Jvm.MethodName)) ∈ xT := xT_at 47 (by decide +kernel) (by decide +kernel)
theorem xw_48 : (Jvm.Cond.instanceMethod ({ cls := "java/lang/AbstractStringBuilder", name := "<init>", desc := "(I)V" } : Jvm.MethodName)) ∈ xT := xT_at 48 (by decide +kernel) (by decide +kernel)
theorem xci_SB_1 : xCI "java/lang/StringBuilder" 1 M_ASB_init 1 := ⟨xcb_ASB_init, rfl, rfl, xw_48, Or.inl xw_47⟩
theorem d_SB_init_6 : decode M_SB_init.2.1 6 = .ok (.return_, 1) := by decide +kernel
abbrev y_ASB_getValue : MethodName := ⟨"java/lang/AbstractStringBuilder", "getValue", "()[B"⟩
abbrev M_ASB_getValue : XMt := (y_ASB_getValue, prog_15_method_64_code, 1, (some (.array .byte)))
theorem d_ASB_getValue_0 : decode M_ASB_getValue.2.1 0 = .ok (.aload_n 0, 1) := by decide +kernel
theorem d_ASB_getValue_1 : decode M_ASB_getValue.2.1 1 = .ok (.getfield 15, 3) := by decide +kernel
theorem d_ASB_getValue_4 : decode M_ASB_getValue.2.1 4 = .ok (.areturn, 1) := by decide +kernel
abbrev y_String_init_AbstractStringBuilderVoid : MethodName := ⟨"java/lang/String", "<init>", "(Ljava/lang/AbstractStringBuilder;Ljava/lang/Void;)V"⟩
abbrev M_String_init_AbstractStringBuilderVoid : XMt := (y_String_init_AbstractStringBuilderVoid, prog_25_method_150_code, 5, none)
theorem d_String_init_AbstractStringBuilderVoid_0 : decode M_String_init_AbstractStringBuilderVoid.2.1 0 = .ok (.aload_n 0, 1) := by decide +kernel
theorem d_String_init_AbstractStringBuilderVoid_1 : decode M_String_init_AbstractStringBuilderVoid.2.1 1 = .ok (.invokespecial 1, 3) := by decide +kernel
theorem d_String_init_AbstractStringBuilderVoid_4 : decode M_String_init_AbstractStringBuilderVoid.2.1 4 = .ok (.aload_n 1, 1) := by decide +kernel
theorem d_String_init_AbstractStringBuilderVoid_5 : decode M_String_init_AbstractStringBuilderVoid.2.1 5 = .ok (.invokevirtual 552, 3) := by decide +kernel
theorem xw_478 : (Jvm.Cond.code ({ cls := "java/lang/AbstractStringBuilder", name := "getValue", desc := "()[B" } : Jvm.MethodName) prog_15_method_64_code (1 : Nat) (Option.some (Jvm.ClassFile.FieldType.array Jvm.ClassFile.FieldType.byte))) ∈ xT := xT_at 478 (by decide +kernel) (by decide +kernel)
theorem xcb_ASB_getValue : xcb M_ASB_getValue 0 := ⟨xw_478, xw_2, by decide, by decide, by decide, by decide +kernel⟩
theorem xw_475 : (Jvm.Cond.instanceMethod ({ cls := "java/lang/AbstractStringBuilder", name := "getValue", desc := "()[B" } : Jvm.MethodName)) ∈ xT := xT_at 475 (by decide +kernel) (by decide +kernel)
theorem xw_474 : (Jvm.Cond.methodLink "java/lang/String" (552 : Nat) ({ cls := "java/lang/AbstractStringBuilder", name := "getValue", desc := "()[B" } : Jvm.MethodName)) ∈ xT := xT_at 474 (by decide +kernel) (by decide +kernel)
theorem xw_477 : (Jvm.Cond.selects "java/lang/StringBuilder" ({ cls := "java/lang/AbstractStringBuilder", name := "getValue", desc := "()[B" } : Jvm.MethodName) ({ cls := "java/lang/AbstractStringBuilder", name := "getValue", desc := "()[B" } : Jvm.MethodName)) ∈ xT := xT_at 477 (by decide +kernel) (by decide +kernel)
theorem xcv_String_552_SB : xCV "java/lang/String" 552 "java/lang/StringBuilder" M_ASB_getValue 0 := ⟨xcb_ASB_getValue, xw_475, Or.inl ⟨xw_474, Or.inl xw_477⟩⟩
theorem d_String_init_AbstractStringBuilderVoid_8 : decode M_String_init_AbstractStringBuilderVoid.2.1 8 = .ok (.astore_n 3, 1) := by decide +kernel
theorem d_String_init_AbstractStringBuilderVoid_9 : decode M_String_init_AbstractStringBuilderVoid.2.1 9 = .ok (.aload_n 1, 1) := by decide +kernel
theorem d_String_init_AbstractStringBuilderVoid_10 : decode M_String_init_AbstractStringBuilderVoid.2.1 10 = .ok (.invokevirtual 549, 3) := by decide +kernel
theorem xw_175 : (Jvm.Cond.code ({ cls := "java/lang/StringBuilder", name := "length", desc := "()I" } : Jvm.MethodName) prog_26_method_93_code (1 : Nat) (Option.some Jvm.ClassFile.FieldType.int)) ∈ xT := xT_at 175 (by decide +kernel) (by decide +kernel)
theorem xw_3 : (Jvm.Cond.initialized "java/lang/StringBuilder") ∈ xT := xT_at 3 (by decide +kernel) (by decide +kernel)
theorem xcb_SB_length : xcb M_SB_length 0 := ⟨xw_175, xw_3, by decide, by decide, by decide, by decide +kernel⟩
theorem xw_173 : (Jvm.Cond.instanceMethod ({ cls := "java/lang/StringBuilder", name := "length", desc := "()I" } : Jvm.MethodName)) ∈ xT := xT_at 173 (by decide +kernel) (by decide +kernel)
theorem xw_479 : (Jvm.Cond.methodLink "java/lang/String" (549 : Nat) ({ cls := "java/lang/AbstractStringBuilder", name := "length", desc := "()I" } : Jvm.MethodName)) ∈ xT := xT_at 479 (by decide +kernel) (by decide +kernel)
theorem xw_1606 : (Jvm.Cond.selects "java/lang/StringBuilder" ({ cls := "java/lang/AbstractStringBuilder", name := "length", desc := "()I" } : Jvm.MethodName) ({ cls := "java/lang/StringBuilder", name := "length", desc := "()I" } : Jvm.MethodName)) ∈ xT := xT_at 1606 (by decide +kernel) (by decide +kernel)
theorem xcv_String_549_SB : xCV "java/lang/String" 549 "java/lang/StringBuilder" M_SB_length 0 := ⟨xcb_SB_length, xw_173, Or.inr (Or.inr ⟨⟨"java/lang/AbstractStringBuilder", "length", "()I"⟩, "java/lang/AbstractStringBuilder", xw_479, xw_1601, xw_1606, rfl, ⟨by decide, by decide⟩, Or.inr ⟨xw_177, _, _, _, xw_178⟩⟩)⟩
theorem d_String_init_AbstractStringBuilderVoid_13 : decode M_String_init_AbstractStringBuilderVoid.2.1 13 = .ok (.istore 4, 2) := by decide +kernel
theorem d_String_init_AbstractStringBuilderVoid_15 : decode M_String_init_AbstractStringBuilderVoid.2.1 15 = .ok (.aload_n 1, 1) := by decide +kernel
theorem d_String_init_AbstractStringBuilderVoid_16 : decode M_String_init_AbstractStringBuilderVoid.2.1 16 = .ok (.invokevirtual 1047, 3) := by decide +kernel
theorem xw_480 : (Jvm.Cond.methodLink "java/lang/String" (1047 : Nat) ({ cls := "java/lang/AbstractStringBuilder", name := "isLatin1", desc := "()Z" } : Jvm.MethodName)) ∈ xT := xT_at 480 (by decide +kernel) (by decide +kernel)
theorem xcv_String_1047_SB : xCV "java/lang/String" 1047 "java/lang/StringBuilder" M_ASB_isLatin1 0 := ⟨xcb_ASB_isLatin1, xw_222, Or.inl ⟨xw_480, Or.inl xw_224⟩⟩
theorem d_String_init_AbstractStringBuilderVoid_19 : decode M_String_init_AbstractStringBuilderVoid.2.1 19 = .ok (.ifCond .eq 22, 3) := by decide +kernel
theorem d_String_init_AbstractStringBuilderVoid_22 : decode M_String_init_AbstractStringBuilderVoid.2.1 22 = .ok (.aload_n 0, 1) := by decide +kernel
theorem d_String_init_AbstractStringBuilderVoid_23 : decode M_String_init_AbstractStringBuilderVoid.2.1 23 = .ok (.iconst 0, 1) := by decide +kernel
theorem d_String_init_AbstractStringBuilderVoid_24 : decode M_String_init_AbstractStringBuilderVoid.2.1 24 = .ok (.putfield 15, 3) := by decide +kernel
theorem d_String_init_AbstractStringBuilderVoid_27 : decode M_String_init_AbstractStringBuilderVoid.2.1 27 = .ok (.aload_n 0, 1) := by decide +kernel
theorem d_String_init_AbstractStringBuilderVoid_28 : decode M_String_init_AbstractStringBuilderVoid.2.1 28 = .ok (.aload_n 3, 1) := by decide +kernel
theorem d_String_init_AbstractStringBuilderVoid_29 : decode M_String_init_AbstractStringBuilderVoid.2.1 29 = .ok (.iconst 0, 1) := by decide +kernel
theorem d_String_init_AbstractStringBuilderVoid_30 : decode M_String_init_AbstractStringBuilderVoid.2.1 30 = .ok (.iload 4, 2) := by decide +kernel
theorem d_String_init_AbstractStringBuilderVoid_32 : decode M_String_init_AbstractStringBuilderVoid.2.1 32 = .ok (.invokestatic 54, 3) := by decide +kernel
theorem xw_481 : (Jvm.Cond.methodLink "java/lang/String" (54 : Nat) ({ cls := "java/util/Arrays", name := "copyOfRange", desc := "([BII)[B" } : Jvm.MethodName)) ∈ xT := xT_at 481 (by decide +kernel) (by decide +kernel)
theorem xcs_String_54 : xCS "java/lang/String" 54 M_Arrays_copyOfRange 3 := ⟨xcb_Arrays_copyOfRange, xw_482, Or.inl xw_481⟩
theorem d_String_init_AbstractStringBuilderVoid_35 : decode M_String_init_AbstractStringBuilderVoid.2.1 35 = .ok (.putfield 9, 3) := by decide +kernel
theorem d_String_init_AbstractStringBuilderVoid_38 : decode M_String_init_AbstractStringBuilderVoid.2.1 38 = .ok (.goto 59, 3) := by decide +kernel
theorem d_String_init_AbstractStringBuilderVoid_97 : decode M_String_init_AbstractStringBuilderVoid.2.1 97 = .ok (.return_, 1) := by decide +kernel
abbrev y_String_init_StringBuilder : MethodName := ⟨"java/lang/String", "<init>", "(Ljava/lang/StringBuilder;)V"⟩
abbrev M_String_init_StringBuilder : XMt := (y_String_init_StringBuilder, prog_25_method_53_code, 2, none)
theorem d_String_init_StringBuilder_0 : decode M_String_init_StringBuilder.2.1 0 = .ok (.aload_n 0, 1) := by decide +kernel
theorem d_String_init_StringBuilder_1 : decode M_String_init_StringBuilder.2.1 1 = .ok (.aload_n 1, 1) := by decide +kernel
theorem d_String_init_StringBuilder_2 : decode M_String_init_StringBuilder.2.1 2 = .ok (.aconst_null, 1) := by decide +kernel
theorem d_String_init_StringBuilder_3 : decode M_String_init_StringBuilder.2.1 3 = .ok (.invokespecial 489, 3) := by decide +kernel
theorem xw_472 : (Jvm.Cond.code ({ cls := "java/lang/String", name := "<init>", desc := "(Ljava/lang/AbstractStringBuilder;Ljava/lang/Void;)V" } : Jvm.MethodName) prog_25_method_150_code (5 : Nat) (Option.none : Option Jvm.ClassFile.FieldType)) ∈ xT := xT_at 472 (by decide +kernel) (by decide +kernel)
theorem xcb_String_init_AbstractStringBuilderVoid : xcb M_String_init_AbstractStringBuilderVoid 2 := ⟨xw_472, xw_4, by decide, by decide, by decide, by decide +kernel⟩
theorem xw_470 : (Jvm.Cond.methodLink "java/lang/String" (489 : Nat) ({ cls := "java/lang/String", name := "<init>", desc := "(Ljava/lang/AbstractStringBuilder;Ljava/lang/Void;)V" } : Jvm.MethodName)) ∈ xT := xT_at 470 (by decide +kernel) (by decide +kernel)
theorem xw_471 : (Jvm.Cond.instanceMethod ({ cls := "java/lang/String", name := "<init>", desc := "(Ljava/lang/AbstractStringBuilder;Ljava/lang/Void;)V" } : Jvm.MethodName)) ∈ xT := xT_at 471 (by decide +kernel) (by decide +kernel)
theorem xci_String_489 : xCI "java/lang/String" 489 M_String_init_AbstractStringBuilderVoid 2 := ⟨xcb_String_init_AbstractStringBuilderVoid, rfl, rfl, xw_471, Or.inl xw_470⟩
theorem d_String_init_StringBuilder_6 : decode M_String_init_StringBuilder.2.1 6 = .ok (.return_, 1) := by decide +kernel
abbrev y_SB_toString : MethodName := ⟨"java/lang/StringBuilder", "toString", "()Ljava/lang/String;"⟩
abbrev M_SB_toString : XMt := (y_SB_toString, prog_26_method_42_code, 1, (some (.object "java/lang/String")))
theorem d_SB_toString_0 : decode M_SB_toString.2.1 0 = .ok (.new 18, 3) := by decide +kernel
theorem xw_465 : (Jvm.Cond.classLink "java/lang/StringBuilder" (18 : Nat) "java/lang/String") ∈ xT := xT_at 465 (by decide +kernel) (by decide +kernel)
theorem xnw_SB_18 : xNw "java/lang/StringBuilder" 18 k_String 4 [.null, .int 0, .int 0, .int 0] := ⟨_, _, _, rfl, rfl, by decide +kernel, xw_465, xw_466, xw_4⟩
theorem d_SB_toString_3 : decode M_SB_toString.2.1 3 = .ok (.dup, 1) := by decide +kernel
theorem d_SB_toString_4 : decode M_SB_toString.2.1 4 = .ok (.aload_n 0, 1) := by decide +kernel
theorem d_SB_toString_5 : decode M_SB_toString.2.1 5 = .ok (.invokespecial 137, 3) := by decide +kernel
theorem xw_469 : (Jvm.Cond.code ({ cls := "java/lang/String", name := "<init>", desc := "(Ljava/lang/StringBuilder;)V" } : Jvm.MethodName) prog_25_method_53_code (2 : Nat) (Option.none : Option Jvm.ClassFile.FieldType)) ∈ xT := xT_at 469 (by decide +kernel) (by decide +kernel)
theorem xcb_String_init_StringBuilder : xcb M_String_init_StringBuilder 1 := ⟨xw_469, xw_4, by decide, by decide, by decide, by decide +kernel⟩
theorem xw_467 : (Jvm.Cond.methodLink "java/lang/StringBuilder" (137 : Nat) ({ cls := "java/lang/String", name := "<init>", desc := "(Ljava/lang/StringBuilder;)V" } : Jvm.MethodName)) ∈ xT := xT_at 467 (by decide +kernel) (by decide +kernel)
theorem xw_468 : (Jvm.Cond.instanceMethod ({ cls := "java/lang/String", name := "<init>", desc := "(Ljava/lang/StringBuilder;)V" } : Jvm.MethodName)) ∈ xT := xT_at 468 (by decide +kernel) (by decide +kernel)
theorem xci_SB_137 : xCI "java/lang/StringBuilder" 137 M_String_init_StringBuilder 1 := ⟨xcb_String_init_StringBuilder, rfl, rfl, xw_468, Or.inl xw_467⟩
theorem d_SB_toString_8 : decode M_SB_toString.2.1 8 = .ok (.areturn, 1) := by decide +kernel
abbrev y_ASB_setLength : MethodName := ⟨"java/lang/AbstractStringBuilder", "setLength", "(I)V"⟩
abbrev M_ASB_setLength : XMt := (y_ASB_setLength, prog_15_method_13_code, 2, none)
theorem d_ASB_setLength_0 : decode M_ASB_setLength.2.1 0 = .ok (.iload_n 1, 1) := by decide +kernel
theorem d_ASB_setLength_1 : decode M_ASB_setLength.2.1 1 = .ok (.ifCond .ge 12, 3) := by decide +kernel
theorem d_ASB_setLength_13 : decode M_ASB_setLength.2.1 13 = .ok (.aload_n 0, 1) := by decide +kernel
theorem d_ASB_setLength_14 : decode M_ASB_setLength.2.1 14 = .ok (.iload_n 1, 1) := by decide +kernel
theorem d_ASB_setLength_15 : decode M_ASB_setLength.2.1 15 = .ok (.invokevirtual 100, 3) := by decide +kernel
theorem d_ASB_setLength_18 : decode M_ASB_setLength.2.1 18 = .ok (.aload_n 0, 1) := by decide +kernel
theorem d_ASB_setLength_19 : decode M_ASB_setLength.2.1 19 = .ok (.getfield 79, 3) := by decide +kernel
theorem d_ASB_setLength_22 : decode M_ASB_setLength.2.1 22 = .ok (.iload_n 1, 1) := by decide +kernel
theorem d_ASB_setLength_23 : decode M_ASB_setLength.2.1 23 = .ok (.if_icmp .ge 40, 3) := by decide +kernel
theorem d_ASB_setLength_63 : decode M_ASB_setLength.2.1 63 = .ok (.aload_n 0, 1) := by decide +kernel
theorem d_ASB_setLength_64 : decode M_ASB_setLength.2.1 64 = .ok (.getfield 79, 3) := by decide +kernel
theorem d_ASB_setLength_67 : decode M_ASB_setLength.2.1 67 = .ok (.iload_n 1, 1) := by decide +kernel
theorem d_ASB_setLength_68 : decode M_ASB_setLength.2.1 68 = .ok (.if_icmp .le 8, 3) := by decide +kernel
theorem d_ASB_setLength_76 : decode M_ASB_setLength.2.1 76 = .ok (.aload_n 0, 1) := by decide +kernel
theorem d_ASB_setLength_77 : decode M_ASB_setLength.2.1 77 = .ok (.iload_n 1, 1) := by decide +kernel
theorem d_ASB_setLength_78 : decode M_ASB_setLength.2.1 78 = .ok (.putfield 79, 3) := by decide +kernel
theorem d_ASB_setLength_81 : decode M_ASB_setLength.2.1 81 = .ok (.return_, 1) := by decide +kernel
theorem d_ASB_setLength_71 : decode M_ASB_setLength.2.1 71 = .ok (.aload_n 0, 1) := by decide +kernel
theorem d_ASB_setLength_72 : decode M_ASB_setLength.2.1 72 = .ok (.iconst 1, 1) := by decide +kernel
theorem d_ASB_setLength_73 : decode M_ASB_setLength.2.1 73 = .ok (.putfield 73, 3) := by decide +kernel
theorem xw_62 : (Jvm.Cond.fieldLink "java/lang/AbstractStringBuilder" (73 : Nat) "java/lang/AbstractStringBuilder" "maybeLatin1" "Z") ∈ xT := xT_at 62 (by decide +kernel) (by decide +kernel)
theorem xf_ASB_73_SB : xF "java/lang/AbstractStringBuilder" 73 k_StringBuilder 2 := ⟨_, _, _, "java/lang/AbstractStringBuilder", rfl, by decide, Or.inl xw_62, Or.inl rfl⟩
theorem xp_SB_2 : xP k_StringBuilder 2 false .boolean := ⟨_, _, _, rfl, rfl, by decide +kernel⟩
abbrev y_SB_setLength : MethodName := ⟨"java/lang/StringBuilder", "setLength", "(I)V"⟩
abbrev M_SB_setLength : XMt := (y_SB_setLength, prog_26_method_89_code, 2, none)
theorem d_SB_setLength_0 : decode M_SB_setLength.2.1 0 = .ok (.aload_n 0, 1) := by decide +kernel
theorem d_SB_setLength_1 : decode M_SB_setLength.2.1 1 = .ok (.iload_n 1, 1) := by decide +kernel
theorem d_SB_setLength_2 : decode M_SB_setLength.2.1 2 = .ok (.invokespecial 333, 3) := by decide +kernel
theorem xw_650 : (Jvm.Cond.code ({ cls := "java/lang/AbstractStringBuilder", name := "setLength", desc := "(I)V" } : Jvm.MethodName) prog_15_method_13_code (2 : Nat) (Option.none : Option Jvm.ClassFile.FieldType)) ∈ xT := xT_at 650 (by decide +kernel) (by decide +kernel)
theorem xcb_ASB_setLength : xcb M_ASB_setLength 1 := ⟨xw_650, xw_2, by decide, by decide, by decide, by decide +kernel⟩
theorem xw_649 : (Jvm.Cond.instanceMethod ({ cls := "java/lang/AbstractStringBuilder", name := "setLength", desc := "(I)V" } : Jvm.MethodName)) ∈ xT := xT_at 649 (by decide +kernel) (by decide +kernel)
theorem xw_648 : (Jvm.Cond.methodLink "java/lang/StringBuilder" (333 : Nat) ({ cls := "java/lang/AbstractStringBuilder", name := "setLength", desc := "(I)V" } : Jvm.MethodName)) ∈ xT := xT_at 648 (by decide +kernel) (by decide +kernel)
theorem xw_1613 : (Jvm.Cond.sameMethod "java/lang/AbstractStringBuilder" "java/lang/AbstractStringBuilder" "setLength" "(I)V") ∈ xT := xT_at 1613 (by decide +kernel) (by decide +kernel)
theorem xcu_SB_333 : xCU "java/lang/StringBuilder" 333 M_ASB_setLength 1 := ⟨xcb_ASB_setLength, by decide, xw_649, xw_648, xw_1613, xw_73⟩
theorem d_SB_setLength_5 : decode M_SB_setLength.2.1 5 = .ok (.return_, 1) := by decide +kernel
end
section SB4
variable {l : Launch} {G : XG} {h : XH} {c n d : Nat}
theorem c_ASB_init (hd : 1 ≤ d) {a m : Nat} {k : Value} {z : Int32} (ha : h a = some (k_StringBuilder, [.null, .int 0, .int z, k])) (hm : m < 2 ^ 20) (hc : c + 1 ≤ xCB) (hn : n + m ≤ xSB) : XM l G d M_ASB_init [.ref a, .int (nI m)] h c n (fun v h' c' n' => v = none ∧ ∃ q, h q = none ∧ h' = xup (xup h q (k_abyte, List.replicate m (.int 0))) a (k_StringBuilder, [.ref q, .int 0, .int z, k]) ∧ c' = c + 1 ∧ n' = n + m) := by
  obtain ⟨d, rfl⟩ : ∃ q, d = q + 1 := ⟨d - 1, by omega⟩
  refine XM.of (by decide +kernel) (Nat.le_of_ble_eq_true rfl) ?_
  refine x_aload_n d_ASB_init_0 rfl rfl ?_
  refine x_objInit xw_50 xw_40 xw_41 (Nat.le_of_ble_eq_true rfl) d_ASB_init_1 ?_
  refine x_gets xw_51 (List.mem_of_getElem? (i := 0) rfl) d_ASB_init_4 ?_
  refine x_if_eq (tgt := 25) d_ASB_init_7 (by decide) (fun ht => absurd ht (by decide)) (fun _ => ?_)
  refine x_aload_n d_ASB_init_10 rfl rfl ?_
  refine x_iload_n d_ASB_init_11 rfl ?_
  refine x_newa (k := k_abyte) rfl rfl (fun _ hz => by cases hz) xw_74 (nI_pos (by omega)) (nI_clamp (by omega)) (by show m * 1 ≤ _; omega) hc hn d_ASB_init_12 (fun q hn_q hk_q => ?_)
  refine x_put xf_ASB_15_SB xp_SB_0 rfl rfl (xup_old ha hn_q) rfl rfl d_ASB_init_14 ?_
  refine x_aload_n d_ASB_init_17 rfl rfl ?_
  refine x_iconst (v := 0) d_ASB_init_18 (by decide) ?_
  refine x_put xf_ASB_22_SB xp_SB_1 rfl rfl xup_self rfl rfl d_ASB_init_19 ?_
  refine x_goto (tgt := 38) d_ASB_init_22 (by decide) ?_
  refine x_vret d_ASB_init_38 rfl ?_
  exact ⟨rfl, q, hn_q, by rw [xup_up]; rfl, rfl, rfl⟩
/-- a new builder -/
theorem c_SB_init (hd : 2 ≤ d) {a : Nat} (ha : h a = some (k_StringBuilder, [.null, .int 0, .int 0, .int 0])) (hc : c + 1 ≤ xCB) (hn : n + 16 ≤ xSB) : XM l G d M_SB_init [.ref a] h c n (fun v h' c' n' => v = none ∧ ∃ q, h q = none ∧ isB h' a q [] 16 ∧ xfr h h' [a] ∧ c' = c + 1 ∧ n' = n + 16) := by
  obtain ⟨d, rfl⟩ : ∃ q, d = q + 1 := ⟨d - 1, by omega⟩
  refine XM.of (by decide +kernel) (Nat.le_of_ble_eq_true rfl) ?_
  refine x_aload_n d_SB_init_0 rfl rfl ?_
  refine x_bipush (v := 16) d_SB_init_1 (by decide) ?_
  refine x_callI (As := [_]) xci_SB_1 (c_ASB_init (by omega) (m := 16) ha (by omega) hc hn) rfl rfl (Nat.le_of_ble_eq_true rfl) d_SB_init_3 ?_
  rintro v h' c' n' ⟨rfl, q, hq, rfl, rfl, rfl⟩
  have haq : a ≠ q := fun e => by rw [e, hq] at ha; cases ha
  refine x_vret d_SB_init_6 rfl ?_
  refine ⟨rfl, q, hq, ⟨0, List.replicate 16 (.int 0), xup_self, by rw [xup_ne (Ne.symm haq), xup_self]; rfl, rfl, fun v hv => by rw [(List.mem_replicate.mp hv).2]; rfl, fun ch hc => by cases hc⟩, ?_, rfl, rfl⟩
  exact (xfr.rf.up (Or.inr hq)).up (Or.inl (by simp))
theorem c_ASB_getValue {a : Nat} {va : Nat} {z k w : Value} (ha : h a = some (k_StringBuilder, [.ref va, w, z, k])) : XM l G d M_ASB_getValue [.ref a] h c n (xSame (.ref va) h c n) := by
  refine XM.of (by decide +kernel) (Nat.le_of_ble_eq_true rfl) ?_
  refine x_aload_n d_ASB_getValue_0 rfl rfl ?_
  refine x_get xf_ASB_15_SB (Or.inl ha) rfl d_ASB_getValue_1 ?_
  refine x_aret d_ASB_getValue_4 rfl rfl ?_
  exact ⟨rfl, rfl, rfl, rfl⟩
theorem c_String_init_ASB (hd : 3 ≤ d) {s a va m : Nat} {y z : Value} {t : List Nat} (hs : h s = some (k_String, [.null, .int 0, y, z])) (hB : isB h a va t m) (hm : m < 2 ^ 18) (hc : c + 1 ≤ xCB) (hn : n + t.length ≤ xSB) : XM l G d M_String_init_AbstractStringBuilderVoid [.ref s, .ref a, .null] h c n (fun v h' c' n' => v = none ∧ ∃ q, h q = none ∧ h' = xup (xup h q (k_asbyte, xby t)) s (k_String, [.ref q, .int 0, y, z]) ∧ c' = c + 1 ∧ n' = n + t.length) := by
  obtain ⟨d, rfl⟩ : ∃ q, d = q + 1 := ⟨d - 1, by omega⟩
  obtain ⟨w, bs, ha, hv, hl, hbf, hat⟩ := hB
  have hsa : s ≠ a := fun e => by rw [e, ha] at hs; cases hs
  have hsv : s ≠ va := fun e => by rw [e, hv] at hs; cases hs
  have hvl : (xby t ++ bs).length = m := by rw [List.length_append, xby_len]; exact hl
  refine XM.of (by decide +kernel) (Nat.le_of_ble_eq_true rfl) ?_
  refine x_aload_n d_String_init_AbstractStringBuilderVoid_0 rfl rfl ?_
  refine x_objInit xw_473 xw_40 xw_41 (Nat.le_of_ble_eq_true rfl) d_String_init_AbstractStringBuilderVoid_1 ?_
  refine x_aload_n d_String_init_AbstractStringBuilderVoid_4 rfl rfl ?_
  refine x_callV (As := []) (k := k_StringBuilder) rfl xcv_String_552_SB (Or.inl ha) (c_ASB_getValue ha) rfl rfl (Nat.le_of_ble_eq_true rfl) d_String_init_AbstractStringBuilderVoid_5 ?_
  rintro v h' c' n' ⟨rfl, rfl, rfl, rfl⟩
  refine x_astore_n (L' := [_, _, _, _, _]) d_String_init_AbstractStringBuilderVoid_8 rfl rfl rfl ?_
  refine x_aload_n d_String_init_AbstractStringBuilderVoid_9 rfl rfl ?_
  refine x_callV (As := []) (k := k_StringBuilder) rfl xcv_String_549_SB (Or.inl ha) (c_SB_length (by omega) ha) rfl rfl (Nat.le_of_ble_eq_true rfl) d_String_init_AbstractStringBuilderVoid_10 ?_
  rintro v h' c' n' ⟨rfl, rfl, rfl, rfl⟩
  refine x_istore (L' := [_, _, _, _, _]) d_String_init_AbstractStringBuilderVoid_13 rfl rfl ?_
  refine x_aload_n d_String_init_AbstractStringBuilderVoid_15 rfl rfl ?_
  refine x_callV (As := []) (k := k_StringBuilder) rfl xcv_String_1047_SB (Or.inl ha) (c_ASB_isLatin1 ha) rfl rfl (Nat.le_of_ble_eq_true rfl) d_String_init_AbstractStringBuilderVoid_16 ?_
  rintro v h' c' n' ⟨rfl, rfl, rfl, rfl⟩
  have hfit : ∀ v ∈ xby t ++ bs, fits .byte v = true := fun v hv => (List.mem_append.mp hv).elim (xby_fit hat v) (hbf v)
  refine x_if_eq (tgt := 41) d_String_init_AbstractStringBuilderVoid_19 (by decide) (fun ht => absurd ht (by decide)) (fun _ => ?_)
  refine x_aload_n d_String_init_AbstractStringBuilderVoid_22 rfl rfl ?_
  refine x_iconst (v := 0) d_String_init_AbstractStringBuilderVoid_23 (by decide) ?_
  refine x_putF xf_String_15_String xp_String_1 ⟨_, _, _, rfl, rfl, xw_634⟩ rfl rfl rfl hs rfl rfl d_String_init_AbstractStringBuilderVoid_24 ?_
  refine x_aload_n d_String_init_AbstractStringBuilderVoid_27 rfl rfl ?_
  refine x_aload_n d_String_init_AbstractStringBuilderVoid_28 rfl rfl ?_
  refine x_iconst (v := 0) d_String_init_AbstractStringBuilderVoid_29 (by decide) ?_
  refine x_iload d_String_init_AbstractStringBuilderVoid_30 rfl ?_
  refine x_callS (As := [_, _, _]) xcs_String_54 (c_copyOfRange (by omega) (k0 := k_abyte) (b := 0) (e := t.length) rfl (Or.inl (by rw [xup_ne (Ne.symm hsv)]; exact hv)) hfit (Nat.zero_le _) (by rw [hvl]; omega) (by rw [hvl]; omega) hc hn) rfl rfl (Nat.le_of_ble_eq_true rfl) d_String_init_AbstractStringBuilderVoid_32 ?_
  rintro v h' c' n' ⟨q, rfl, hq, rfl, rfl, rfl⟩
  have hsq : s ≠ q := fun e => by rw [← e, xup_self] at hq; cases hq
  have hq0 : h' q = none := by rw [xup_ne (Ne.symm hsq)] at hq; exact hq
  have hcut : ((xby t ++ bs).drop 0).take (t.length - 0) = xby t := by
    rw [List.drop_zero, Nat.sub_zero, List.take_append_of_le_length (by rw [xby_len]; exact Nat.le_refl _), List.take_of_length_le (by rw [xby_len]; exact Nat.le_refl _)]
  rw [hcut]
  refine x_putF xf_String_9_String xp_String_0 ⟨_, _, _, rfl, rfl, xw_633⟩ rfl rfl rfl (by rw [xup_ne hsq]; exact xup_self) rfl rfl d_String_init_AbstractStringBuilderVoid_35 ?_
  refine x_goto (tgt := 97) d_String_init_AbstractStringBuilderVoid_38 (by decide) ?_
  refine x_vret d_String_init_AbstractStringBuilderVoid_97 rfl ?_
  refine ⟨rfl, q, hq0, ?_, rfl, by rw [xby_len]⟩
  rw [xup_cm (h := h') hsq, xup_up]
  rfl
theorem c_String_init_SB (hd : 4 ≤ d) {s a va m : Nat} {y z : Value} {t : List Nat} (hs : h s = some (k_String, [.null, .int 0, y, z])) (hB : isB h a va t m) (hm : m < 2 ^ 18) (hc : c + 1 ≤ xCB) (hn : n + t.length ≤ xSB) : XM l G d M_String_init_StringBuilder [.ref s, .ref a] h c n (fun v h' c' n' => v = none ∧ ∃ q, h q = none ∧ h' = xup (xup h q (k_asbyte, xby t)) s (k_String, [.ref q, .int 0, y, z]) ∧ c' = c + 1 ∧ n' = n + t.length) := by
  obtain ⟨d, rfl⟩ : ∃ q, d = q + 1 := ⟨d - 1, by omega⟩
  refine XM.of (by decide +kernel) (Nat.le_of_ble_eq_true rfl) ?_
  refine x_aload_n d_String_init_StringBuilder_0 rfl rfl ?_
  refine x_aload_n d_String_init_StringBuilder_1 rfl rfl ?_
  refine x_null d_String_init_StringBuilder_2 ?_
  refine x_callI (As := [_, _]) xci_String_489 (c_String_init_ASB (by omega) hs hB hm hc hn) rfl rfl (Nat.le_of_ble_eq_true rfl) d_String_init_StringBuilder_3 ?_
  rintro v h' c' n' ⟨rfl, hp⟩
  refine x_vret d_String_init_StringBuilder_6 rfl ?_
  exact ⟨rfl, hp⟩
theorem isB.up {q : Nat} {e : Nat × List Value} {a va m : Nat} {t : List Nat} (hB : isB h a va t m) (hq : h q = none) : isB (xup h q e) a va t m := by
  obtain ⟨w, bs, ha, hv, hr⟩ := hB
  exact ⟨w, bs, xup_old ha hq, xup_old hv hq, hr⟩
theorem isB.fr {h' : XH} {F : List Nat} {a va m : Nat} {t : List Nat} (hB : isB h a va t m) (hf : xfr h h' F) (h1 : a ∉ F) (h2 : va ∉ F) : isB h' a va t m := by
  obtain ⟨w, bs, ha, hv, hr⟩ := hB
  exact ⟨w, bs, hf.1 _ _ ha h1, hf.1 _ _ hv h2, hr⟩
/-- StringBuilder.toString -/
theorem c_SB_toString (hd : 5 ≤ d) {a va m : Nat} {t : List Nat} (hB : isB h a va t m) (hm : m < 2 ^ 18) (hc : c + 2 ≤ xCB) (hn : n + t.length + 4 ≤ xSB) : XM l G d M_SB_toString [.ref a] h c n (pS G t h c n) := by
  obtain ⟨d, rfl⟩ : ∃ q, d = q + 1 := ⟨d - 1, by omega⟩
  refine XM.of (by decide +kernel) (Nat.le_of_ble_eq_true rfl) ?_
  obtain ⟨w, bs, ha, hv, hl, hbf, hat⟩ := id hB
  refine x_new xnw_SB_18 (by omega) (by omega) d_SB_toString_0 (fun p hn_p hk_p => ?_)
  refine x_dup d_SB_toString_3 rfl ?_
  refine x_aload_n d_SB_toString_4 rfl rfl ?_
  refine x_callI (As := [_]) xci_SB_137 (c_String_init_SB (by omega) xup_self (hB.up hn_p) hm (by omega) (by omega)) rfl rfl (Nat.le_of_ble_eq_true rfl) d_SB_toString_5 ?_
  rintro v h' c' n' ⟨rfl, q, hq, rfl, rfl, rfl⟩
  have hpq : p ≠ q := fun z => by rw [← z, xup_self] at hq; cases hq
  have hq0 : h q = none := by rw [xup_ne (Ne.symm hpq)] at hq; exact hq
  refine x_aret d_SB_toString_8 rfl rfl ?_
  exact ⟨p, rfl, ⟨q, _, Or.inl xup_self, Or.inl (by rw [xup_ne (Ne.symm hpq), xup_self]), hat⟩, ((xfr.rf.up (Or.inr hn_p)).up (Or.inr hq0)).up (Or.inr hn_p), by omega, by omega⟩
/-- setLength(0) -/
theorem c_ASB_setLength0 (hd : 1 ≤ d) {a va m : Nat} {t : List Nat} (hB : isB h a va t m) (hm : m < 2 ^ 18) : XM l G d M_ASB_setLength [.ref a, .int 0] h c n (fun v h' c' n' => v = none ∧ isB h' a va [] m ∧ xfr h h' [a] ∧ c' = c ∧ n' = n) := by
  obtain ⟨d, rfl⟩ : ∃ q, d = q + 1 := ⟨d - 1, by omega⟩
  obtain ⟨w, bs, ha, hv, hl, hbf, hat⟩ := hB
  have hav : a ≠ va := fun e => by rw [e, hv] at ha; cases ha
  have hvl : (xby t ++ bs).length = m := by rw [List.length_append, xby_len]; exact hl
  refine XM.of (by decide +kernel) (Nat.le_of_ble_eq_true rfl) ?_
  refine x_iload_n d_ASB_setLength_0 rfl ?_
  refine x_if_ge (tgt := 13) d_ASB_setLength_1 (by decide) (fun _ => ?_) (fun hn => absurd (by decide) hn)
  refine x_aload_n d_ASB_setLength_13 rfl rfl ?_
  refine x_iload_n d_ASB_setLength_14 rfl ?_
  refine x_callV (As := [_]) (k := k_StringBuilder) rfl xcv_ASB_100_SB (Or.inl ha) (c_ensure_no (m := 0) (Nat.zero_le _) ha hv (Nat.zero_le _) (by rw [hvl]; omega)) rfl rfl (Nat.le_of_ble_eq_true rfl) d_ASB_setLength_15 ?_
  rintro v h' c' n' ⟨rfl, rfl, rfl, rfl⟩
  refine x_aload_n d_ASB_setLength_18 rfl rfl ?_
  refine x_get xf_ASB_79_SB (Or.inl ha) rfl d_ASB_setLength_19 ?_
  refine x_iload_n d_ASB_setLength_22 rfl ?_
  refine x_icmp_ge (tgt := 63) d_ASB_setLength_23 (by decide) (fun _ => ?_) (fun hn => absurd (nI_pos' (by omega)) hn)
  refine x_aload_n d_ASB_setLength_63 rfl rfl ?_
  refine x_get xf_ASB_79_SB (Or.inl ha) rfl d_ASB_setLength_64 ?_
  refine x_iload_n d_ASB_setLength_67 rfl ?_
  have hE : ∀ w1 : Int32, isB (xup h' a (k_StringBuilder, [.ref va, .int 0, .int w1, .int 0])) a va [] m := fun w1 => ⟨w1, xby t ++ bs, xup_self, by rw [xup_ne (Ne.symm hav)]; exact hv, by rw [hvl]; simp, fun v hv => (List.mem_append.mp hv).elim (xby_fit hat v) (hbf v), fun ch hc => by cases hc⟩
  by_cases ht : t.length = 0
  · refine x_icmp_le (tgt := 76) d_ASB_setLength_68 (by decide) (fun _ => ?_) (fun hn => absurd (by rw [ht]; decide) hn)
    refine x_aload_n d_ASB_setLength_76 rfl rfl ?_
    refine x_iload_n d_ASB_setLength_77 rfl ?_
    refine x_put xf_ASB_79_SB xp_SB_3 rfl rfl ha rfl rfl d_ASB_setLength_78 ?_
    refine x_vret d_ASB_setLength_81 rfl ?_
    exact ⟨rfl, hE w, xfr.rf.up (Or.inl (by simp)), rfl, rfl⟩
  · refine x_icmp_le (tgt := 76) d_ASB_setLength_68 (by decide) (fun ht => absurd ht (nI_nle (by omega) (by omega))) (fun _ => ?_)
    refine x_aload_n d_ASB_setLength_71 rfl rfl ?_
    refine x_iconst (v := 1) d_ASB_setLength_72 (by decide) ?_
    refine x_put xf_ASB_73_SB xp_SB_2 rfl rfl ha rfl rfl d_ASB_setLength_73 ?_
    refine x_aload_n d_ASB_setLength_76 rfl rfl ?_
    refine x_iload_n d_ASB_setLength_77 rfl ?_
    refine x_put xf_ASB_79_SB xp_SB_3 rfl rfl xup_self rfl rfl d_ASB_setLength_78 ?_
    refine x_vret d_ASB_setLength_81 rfl ?_
    refine ⟨rfl, ?_, (xfr.rf.up (Or.inl (by simp))).up (Or.inl (by simp)), rfl, rfl⟩
    rw [xup_up]
    exact hE 1
theorem c_SB_setLength0 (hd : 2 ≤ d) {a va m : Nat} {t : List Nat} (hB : isB h a va t m) (hm : m < 2 ^ 18) : XM l G d M_SB_setLength [.ref a, .int 0] h c n (fun v h' c' n' => v = none ∧ isB h' a va [] m ∧ xfr h h' [a] ∧ c' = c ∧ n' = n) := by
  obtain ⟨d, rfl⟩ : ∃ q, d = q + 1 := ⟨d - 1, by omega⟩
  obtain ⟨z, bs, ha, -⟩ := id hB
  refine XM.of (by decide +kernel) (Nat.le_of_ble_eq_true rfl) ?_
  refine x_aload_n d_SB_setLength_0 rfl rfl ?_
  refine x_iload_n d_SB_setLength_1 rfl ?_
  refine x_callU (As := [_]) (k := k_StringBuilder) rfl xcu_SB_333 (Or.inl ha) (c_ASB_setLength0 (by omega) hB hm) rfl rfl (Nat.le_of_ble_eq_true rfl) d_SB_setLength_2 ?_
  rintro v h' c' n' ⟨rfl, hp⟩
  refine x_vret d_SB_setLength_5 rfl ?_
  exact ⟨rfl, hp⟩
end SB4
end
section
section
abbrev y_String_getBytes : MethodName := ⟨"java/lang/String", "getBytes", "([BIB)V"⟩
abbrev M_String_getBytes : XMt := (y_String_getBytes, prog_25_method_147_code, 4, none)
theorem d_String_getBytes_0 : decode M_String_getBytes.2.1 0 = .ok (.aload_n 0, 1) := by decide +kernel
theorem d_String_getBytes_1 : decode M_String_getBytes.2.1 1 = .ok (.invokevirtual 335, 3) := by decide +kernel
theorem d_String_getBytes_4 : decode M_String_getBytes.2.1 4 = .ok (.iload_n 3, 1) := by decide +kernel
theorem d_String_getBytes_5 : decode M_String_getBytes.2.1 5 = .ok (.if_icmp .ne 23, 3) := by decide +kernel
theorem d_String_getBytes_8 : decode M_String_getBytes.2.1 8 = .ok (.aload_n 0, 1) := by decide +kernel
theorem d_String_getBytes_9 : decode M_String_getBytes.2.1 9 = .ok (.getfield 9, 3) := by decide +kernel
theorem d_String_getBytes_12 : decode M_String_getBytes.2.1 12 = .ok (.iconst 0, 1) := by decide +kernel
theorem d_String_getBytes_13 : decode M_String_getBytes.2.1 13 = .ok (.aload_n 1, 1) := by decide +kernel
theorem d_String_getBytes_14 : decode M_String_getBytes.2.1 14 = .ok (.iload_n 2, 1) := by decide +kernel
theorem d_String_getBytes_15 : decode M_String_getBytes.2.1 15 = .ok (.iload_n 3, 1) := by decide +kernel
theorem d_String_getBytes_16 : decode M_String_getBytes.2.1 16 = .ok (.ishl, 1) := by decide +kernel
theorem d_String_getBytes_17 : decode M_String_getBytes.2.1 17 = .ok (.aload_n 0, 1) := by decide +kernel
theorem d_String_getBytes_18 : decode M_String_getBytes.2.1 18 = .ok (.getfield 9, 3) := by decide +kernel
theorem d_String_getBytes_21 : decode M_String_getBytes.2.1 21 = .ok (.arraylength, 1) := by decide +kernel
theorem d_String_getBytes_22 : decode M_String_getBytes.2.1 22 = .ok (.invokestatic 212, 3) := by decide +kernel
theorem xw_595 : (Jvm.Cond.methodLink "java/lang/String" (212 : Nat) ({ cls := "java/lang/System", name := "arraycopy", desc := "(Ljava/lang/Object;ILjava/lang/Object;II)V" } : Jvm.MethodName)) ∈ xT := xT_at 595 (by decide +kernel) (by decide +kernel)
theorem d_String_getBytes_25 : decode M_String_getBytes.2.1 25 = .ok (.goto 18, 3) := by decide +kernel
theorem d_String_getBytes_43 : decode M_String_getBytes.2.1 43 = .ok (.return_, 1) := by decide +kernel
abbrev y_ASB_inflateIfNeededFor : MethodName := ⟨"java/lang/AbstractStringBuilder", "inflateIfNeededFor", "(Ljava/lang/String;)V"⟩
abbrev M_ASB_inflateIfNeededFor : XMt := (y_ASB_inflateIfNeededFor, prog_15_method_71_code, 2, none)
theorem d_ASB_inflateIfNeededFor_0 : decode M_ASB_inflateIfNeededFor.2.1 0 = .ok (.getstatic 18, 3) := by decide +kernel
theorem d_ASB_inflateIfNeededFor_3 : decode M_ASB_inflateIfNeededFor.2.1 3 = .ok (.ifCond .eq 18, 3) := by decide +kernel
theorem d_ASB_inflateIfNeededFor_6 : decode M_ASB_inflateIfNeededFor.2.1 6 = .ok (.aload_n 0, 1) := by decide +kernel
theorem d_ASB_inflateIfNeededFor_7 : decode M_ASB_inflateIfNeededFor.2.1 7 = .ok (.getfield 22, 3) := by decide +kernel
theorem d_ASB_inflateIfNeededFor_10 : decode M_ASB_inflateIfNeededFor.2.1 10 = .ok (.aload_n 1, 1) := by decide +kernel
theorem d_ASB_inflateIfNeededFor_11 : decode M_ASB_inflateIfNeededFor.2.1 11 = .ok (.invokevirtual 40, 3) := by decide +kernel
theorem xw_590 : (Jvm.Cond.methodLink "java/lang/AbstractStringBuilder" (40 : Nat) ({ cls := "java/lang/String", name := "coder", desc := "()B" } : Jvm.MethodName)) ∈ xT := xT_at 590 (by decide +kernel) (by decide +kernel)
theorem xcv_ASB_40_String : xCV "java/lang/AbstractStringBuilder" 40 "java/lang/String" M_String_coder 0 := ⟨xcb_String_coder, xw_426, Or.inl ⟨xw_590, Or.inl xw_427⟩⟩
theorem d_ASB_inflateIfNeededFor_14 : decode M_ASB_inflateIfNeededFor.2.1 14 = .ok (.if_icmp .eq 7, 3) := by decide +kernel
theorem d_ASB_inflateIfNeededFor_21 : decode M_ASB_inflateIfNeededFor.2.1 21 = .ok (.return_, 1) := by decide +kernel
abbrev y_ASB_putStringAt : MethodName := ⟨"java/lang/AbstractStringBuilder", "putStringAt", "(ILjava/lang/String;)V"⟩
abbrev M_ASB_putStringAt : XMt := (y_ASB_putStringAt, prog_15_method_73_code, 3, none)
theorem d_ASB_putStringAt_0 : decode M_ASB_putStringAt.2.1 0 = .ok (.aload_n 0, 1) := by decide +kernel
theorem d_ASB_putStringAt_1 : decode M_ASB_putStringAt.2.1 1 = .ok (.aload_n 2, 1) := by decide +kernel
theorem d_ASB_putStringAt_2 : decode M_ASB_putStringAt.2.1 2 = .ok (.invokevirtual 397, 3) := by decide +kernel
theorem xw_589 : (Jvm.Cond.code ({ cls := "java/lang/AbstractStringBuilder", name := "inflateIfNeededFor", desc := "(Ljava/lang/String;)V" } : Jvm.MethodName) prog_15_method_71_code (2 : Nat) (Option.none : Option Jvm.ClassFile.FieldType)) ∈ xT := xT_at 589 (by decide +kernel) (by decide +kernel)
theorem xcb_ASB_inflateIfNeededFor : xcb M_ASB_inflateIfNeededFor 1 := ⟨xw_589, xw_2, by decide, by decide, by decide, by decide +kernel⟩
theorem xw_588 : (Jvm.Cond.instanceMethod ({ cls := "java/lang/AbstractStringBuilder", name := "inflateIfNeededFor", desc := "(Ljava/lang/String;)V" } : Jvm.MethodName)) ∈ xT := xT_at 588 (by decide +kernel) (by decide +kernel)
theorem xw_586 : (Jvm.Cond.methodLink "java/lang/AbstractStringBuilder" (397 : Nat) ({ cls := "java/lang/AbstractStringBuilder", name := "inflateIfNeededFor", desc := "(Ljava/lang/String;)V" } : Jvm.MethodName)) ∈ xT := xT_at 586 (by decide +kernel) (by decide +kernel)
theorem xps_ASB_inflateIfNeededFor_SB : Cond.selects "java/lang/StringBuilder" y_ASB_inflateIfNeededFor y_ASB_inflateIfNeededFor ∈ xT := xT_ps (by decide +kernel) (by decide +kernel)
theorem xcv_ASB_397_SB : xCV "java/lang/AbstractStringBuilder" 397 "java/lang/StringBuilder" M_ASB_inflateIfNeededFor 1 := ⟨xcb_ASB_inflateIfNeededFor, xw_588, Or.inl ⟨xw_586, Or.inl xps_ASB_inflateIfNeededFor_SB⟩⟩
theorem d_ASB_putStringAt_5 : decode M_ASB_putStringAt.2.1 5 = .ok (.aload_n 2, 1) := by decide +kernel
theorem d_ASB_putStringAt_6 : decode M_ASB_putStringAt.2.1 6 = .ok (.aload_n 0, 1) := by decide +kernel
theorem d_ASB_putStringAt_7 : decode M_ASB_putStringAt.2.1 7 = .ok (.getfield 15, 3) := by decide +kernel
theorem d_ASB_putStringAt_10 : decode M_ASB_putStringAt.2.1 10 = .ok (.iload_n 1, 1) := by decide +kernel
theorem d_ASB_putStringAt_11 : decode M_ASB_putStringAt.2.1 11 = .ok (.aload_n 0, 1) := by decide +kernel
theorem d_ASB_putStringAt_12 : decode M_ASB_putStringAt.2.1 12 = .ok (.getfield 22, 3) := by decide +kernel
theorem d_ASB_putStringAt_15 : decode M_ASB_putStringAt.2.1 15 = .ok (.invokevirtual 399, 3) := by decide +kernel
theorem xw_594 : (Jvm.Cond.code ({ cls := "java/lang/String", name := "getBytes", desc := "([BIB)V" } : Jvm.MethodName) prog_25_method_147_code (4 : Nat) (Option.none : Option Jvm.ClassFile.FieldType)) ∈ xT := xT_at 594 (by decide +kernel) (by decide +kernel)
theorem xcb_String_getBytes : xcb M_String_getBytes 3 := ⟨xw_594, xw_4, by decide, by decide, by decide, by decide +kernel⟩
theorem xw_592 : (Jvm.Cond.instanceMethod ({ cls := "java/lang/String", name := "getBytes", desc := "([BIB)V" } : Jvm.MethodName)) ∈ xT := xT_at 592 (by decide +kernel) (by decide +kernel)
theorem xw_591 : (Jvm.Cond.methodLink "java/lang/AbstractStringBuilder" (399 : Nat) ({ cls := "java/lang/String", name := "getBytes", desc := "([BIB)V" } : Jvm.MethodName)) ∈ xT := xT_at 591 (by decide +kernel) (by decide +kernel)
theorem xw_593 : (Jvm.Cond.selects "java/lang/String" ({ cls := "java/lang/String", name := "getBytes", desc := "([BIB)V" } : Jvm.MethodName) ({ cls := "java/lang/String", name := "getBytes", desc := "([BIB)V" } : Jvm.MethodName)) ∈ xT := xT_at 593 (by decide +kernel) (by decide +kernel)
theorem xcv_ASB_399_String : xCV "java/lang/AbstractStringBuilder" 399 "java/lang/String" M_String_getBytes 3 := ⟨xcb_String_getBytes, xw_592, Or.inl ⟨xw_591, Or.inl xw_593⟩⟩
theorem d_ASB_putStringAt_18 : decode M_ASB_putStringAt.2.1 18 = .ok (.return_, 1) := by decide +kernel
abbrev y_ASB_append_String : MethodName := ⟨"java/lang/AbstractStringBuilder", "append", "(Ljava/lang/String;)Ljava/lang/AbstractStringBuilder;"⟩
abbrev M_ASB_append_String : XMt := (y_ASB_append_String, prog_15_method_22_code, 3, (some (.object "java/lang/AbstractStringBuilder")))
theorem d_ASB_append_String_24 : decode M_ASB_append_String.2.1 24 = .ok (.aload_n 0, 1) := by decide +kernel
theorem d_ASB_append_String_25 : decode M_ASB_append_String.2.1 25 = .ok (.aload_n 0, 1) := by decide +kernel
theorem d_ASB_append_String_26 : decode M_ASB_append_String.2.1 26 = .ok (.getfield 79, 3) := by decide +kernel
theorem d_ASB_append_String_29 : decode M_ASB_append_String.2.1 29 = .ok (.aload_n 1, 1) := by decide +kernel
theorem d_ASB_append_String_30 : decode M_ASB_append_String.2.1 30 = .ok (.invokevirtual 208, 3) := by decide +kernel
theorem xw_585 : (Jvm.Cond.code ({ cls := "java/lang/AbstractStringBuilder", name := "putStringAt", desc := "(ILjava/lang/String;)V" } : Jvm.MethodName) prog_15_method_73_code (3 : Nat) (Option.none : Option Jvm.ClassFile.FieldType)) ∈ xT := xT_at 585 (by decide +kernel) (by decide +kernel)
theorem xcb_ASB_putStringAt : xcb M_ASB_putStringAt 2 := ⟨xw_585, xw_2, by decide, by decide, by decide, by decide +kernel⟩
theorem xw_584 : (Jvm.Cond.instanceMethod ({ cls := "java/lang/AbstractStringBuilder", name := "putStringAt", desc := "(ILjava/lang/String;)V" } : Jvm.MethodName)) ∈ xT := xT_at 584 (by decide +kernel) (by decide +kernel)
theorem xw_582 : (Jvm.Cond.methodLink "java/lang/AbstractStringBuilder" (208 : Nat) ({ cls := "java/lang/AbstractStringBuilder", name := "putStringAt", desc := "(ILjava/lang/String;)V" } : Jvm.MethodName)) ∈ xT := xT_at 582 (by decide +kernel) (by decide +kernel)
theorem xps_ASB_putStringAt_SB : Cond.selects "java/lang/StringBuilder" y_ASB_putStringAt y_ASB_putStringAt ∈ xT := xT_ps (by decide +kernel) (by decide +kernel)
theorem xcv_ASB_208_SB : xCV "java/lang/AbstractStringBuilder" 208 "java/lang/StringBuilder" M_ASB_putStringAt 2 := ⟨xcb_ASB_putStringAt, xw_584, Or.inl ⟨xw_582, Or.inl xps_ASB_putStringAt_SB⟩⟩
theorem d_ASB_append_String_33 : decode M_ASB_append_String.2.1 33 = .ok (.aload_n 0, 1) := by decide +kernel
theorem d_ASB_append_String_34 : decode M_ASB_append_String.2.1 34 = .ok (.dup, 1) := by decide +kernel
theorem d_ASB_append_String_35 : decode M_ASB_append_String.2.1 35 = .ok (.getfield 79, 3) := by decide +kernel
theorem d_ASB_append_String_38 : decode M_ASB_append_String.2.1 38 = .ok (.iload_n 2, 1) := by decide +kernel
theorem d_ASB_append_String_39 : decode M_ASB_append_String.2.1 39 = .ok (.iadd, 1) := by decide +kernel
theorem d_ASB_append_String_40 : decode M_ASB_append_String.2.1 40 = .ok (.putfield 79, 3) := by decide +kernel
theorem d_ASB_append_String_43 : decode M_ASB_append_String.2.1 43 = .ok (.aload_n 0, 1) := by decide +kernel
theorem d_ASB_append_String_44 : decode M_ASB_append_String.2.1 44 = .ok (.areturn, 1) := by decide +kernel
theorem d_ASB_append_String_0 : decode M_ASB_append_String.2.1 0 = .ok (.aload_n 1, 1) := by decide +kernel
theorem d_ASB_append_String_1 : decode M_ASB_append_String.2.1 1 = .ok (.ifnonnull 8, 3) := by decide +kernel
theorem d_ASB_append_String_9 : decode M_ASB_append_String.2.1 9 = .ok (.aload_n 1, 1) := by decide +kernel
theorem d_ASB_append_String_10 : decode M_ASB_append_String.2.1 10 = .ok (.invokevirtual 32, 3) := by decide +kernel
theorem xw_581 : (Jvm.Cond.methodLink "java/lang/AbstractStringBuilder" (32 : Nat) ({ cls := "java/lang/String", name := "length", desc := "()I" } : Jvm.MethodName)) ∈ xT := xT_at 581 (by decide +kernel) (by decide +kernel)
theorem xcv_ASB_32_String : xCV "java/lang/AbstractStringBuilder" 32 "java/lang/String" M_String_length 0 := ⟨xcb_String_length, xw_422, Or.inl ⟨xw_581, Or.inl xw_423⟩⟩
theorem d_ASB_append_String_13 : decode M_ASB_append_String.2.1 13 = .ok (.istore_n 2, 1) := by decide +kernel
theorem d_ASB_append_String_14 : decode M_ASB_append_String.2.1 14 = .ok (.aload_n 0, 1) := by decide +kernel
theorem d_ASB_append_String_15 : decode M_ASB_append_String.2.1 15 = .ok (.aload_n 0, 1) := by decide +kernel
theorem d_ASB_append_String_16 : decode M_ASB_append_String.2.1 16 = .ok (.getfield 79, 3) := by decide +kernel
theorem d_ASB_append_String_19 : decode M_ASB_append_String.2.1 19 = .ok (.iload_n 2, 1) := by decide +kernel
theorem d_ASB_append_String_20 : decode M_ASB_append_String.2.1 20 = .ok (.iadd, 1) := by decide +kernel
theorem d_ASB_append_String_21 : decode M_ASB_append_String.2.1 21 = .ok (.invokevirtual 100, 3) := by decide +kernel
abbrev y_SB_append_String : MethodName := ⟨"java/lang/StringBuilder", "append", "(Ljava/lang/String;)Ljava/lang/StringBuilder;"⟩
abbrev M_SB_append_String : XMt := (y_SB_append_String, prog_26_method_7_code, 2, (some (.object "java/lang/StringBuilder")))
theorem d_SB_append_String_0 : decode M_SB_append_String.2.1 0 = .ok (.aload_n 0, 1) := by decide +kernel
theorem d_SB_append_String_1 : decode M_SB_append_String.2.1 1 = .ok (.aload_n 1, 1) := by decide +kernel
theorem d_SB_append_String_2 : decode M_SB_append_String.2.1 2 = .ok (.invokespecial 29, 3) := by decide +kernel
theorem xw_573 : (Jvm.Cond.code ({ cls := "java/lang/AbstractStringBuilder", name := "append", desc := "(Ljava/lang/String;)Ljava/lang/AbstractStringBuilder;" } : Jvm.MethodName) prog_15_method_22_code (3 : Nat) (Option.some (Jvm.ClassFile.FieldType.object "java/lang/AbstractStringBuilder"))) ∈ xT := xT_at 573 (by decide +kernel) (by decide +kernel)
theorem xcb_ASB_append_String : xcb M_ASB_append_String 1 := ⟨xw_573, xw_2, by decide, by decide, by decide, by decide +kernel⟩
theorem xw_572 : (Jvm.Cond.instanceMethod ({ cls := "java/lang/AbstractStringBuilder", name := "append", desc := "(Ljava/lang/String;)Ljava/lang/AbstractStringBuilder;" } : Jvm.MethodName)) ∈ xT := xT_at 572 (by decide +kernel) (by decide +kernel)
theorem xw_571 : (Jvm.Cond.methodLink "java/lang/StringBuilder" (29 : Nat) ({ cls := "java/lang/AbstractStringBuilder", name := "append", desc := "(Ljava/lang/String;)Ljava/lang/AbstractStringBuilder;" } : Jvm.MethodName)) ∈ xT := xT_at 571 (by decide +kernel) (by decide +kernel)
theorem xw_1609 : (Jvm.Cond.sameMethod "java/lang/AbstractStringBuilder" "java/lang/AbstractStringBuilder" "append" "(Ljava/lang/String;)Ljava/lang/AbstractStringBuilder;") ∈ xT := xT_at 1609 (by decide +kernel) (by decide +kernel)
theorem xcu_SB_29 : xCU "java/lang/StringBuilder" 29 M_ASB_append_String 1 := ⟨xcb_ASB_append_String, by decide, xw_572, xw_571, xw_1609, xw_73⟩
theorem d_SB_append_String_5 : decode M_SB_append_String.2.1 5 = .ok (.pop, 1) := by decide +kernel
theorem d_SB_append_String_6 : decode M_SB_append_String.2.1 6 = .ok (.aload_n 0, 1) := by decide +kernel
theorem d_SB_append_String_7 : decode M_SB_append_String.2.1 7 = .ok (.areturn, 1) := by decide +kernel
abbrev y_SL1_indexOfChar : MethodName := ⟨"java/lang/StringLatin1", "indexOfChar", "([BIII)I"⟩
abbrev M_SL1_indexOfChar : XMt := (y_SL1_indexOfChar, prog_27_method_23_code, 6, (some .int))
theorem d_SL1_indexOfChar_7 : decode M_SL1_indexOfChar.2.1 7 = .ok (.iload 5, 2) := by decide +kernel
theorem d_SL1_indexOfChar_9 : decode M_SL1_indexOfChar.2.1 9 = .ok (.iload_n 3, 1) := by decide +kernel
theorem d_SL1_indexOfChar_10 : decode M_SL1_indexOfChar.2.1 10 = .ok (.if_icmp .ge 21, 3) := by decide +kernel
theorem d_SL1_indexOfChar_31 : decode M_SL1_indexOfChar.2.1 31 = .ok (.iconst (-1), 1) := by decide +kernel
theorem d_SL1_indexOfChar_32 : decode M_SL1_indexOfChar.2.1 32 = .ok (.ireturn, 1) := by decide +kernel
theorem d_SL1_indexOfChar_13 : decode M_SL1_indexOfChar.2.1 13 = .ok (.aload_n 0, 1) := by decide +kernel
theorem d_SL1_indexOfChar_14 : decode M_SL1_indexOfChar.2.1 14 = .ok (.iload 5, 2) := by decide +kernel
theorem d_SL1_indexOfChar_16 : decode M_SL1_indexOfChar.2.1 16 = .ok (.baload, 1) := by decide +kernel
theorem d_SL1_indexOfChar_17 : decode M_SL1_indexOfChar.2.1 17 = .ok (.iload 4, 2) := by decide +kernel
theorem d_SL1_indexOfChar_19 : decode M_SL1_indexOfChar.2.1 19 = .ok (.if_icmp .ne 6, 3) := by decide +kernel
theorem d_SL1_indexOfChar_22 : decode M_SL1_indexOfChar.2.1 22 = .ok (.iload 5, 2) := by decide +kernel
theorem d_SL1_indexOfChar_24 : decode M_SL1_indexOfChar.2.1 24 = .ok (.ireturn, 1) := by decide +kernel
theorem d_SL1_indexOfChar_25 : decode M_SL1_indexOfChar.2.1 25 = .ok (.iinc 5 1, 3) := by decide +kernel
theorem d_SL1_indexOfChar_28 : decode M_SL1_indexOfChar.2.1 28 = .ok (.goto (-21), 3) := by decide +kernel
abbrev y_SL1_canEncode_I : MethodName := ⟨"java/lang/StringLatin1", "canEncode", "(I)Z"⟩
abbrev M_SL1_canEncode_I : XMt := (y_SL1_canEncode_I, prog_27_method_4_code, 1, (some .boolean))
theorem d_SL1_canEncode_I_0 : decode M_SL1_canEncode_I.2.1 0 = .ok (.iload_n 0, 1) := by decide +kernel
theorem d_SL1_canEncode_I_1 : decode M_SL1_canEncode_I.2.1 1 = .ok (.ifCond .lt 14, 3) := by decide +kernel
theorem d_SL1_canEncode_I_4 : decode M_SL1_canEncode_I.2.1 4 = .ok (.iload_n 0, 1) := by decide +kernel
theorem d_SL1_canEncode_I_5 : decode M_SL1_canEncode_I.2.1 5 = .ok (.sipush 255, 3) := by decide +kernel
theorem d_SL1_canEncode_I_8 : decode M_SL1_canEncode_I.2.1 8 = .ok (.if_icmp .gt 7, 3) := by decide +kernel
theorem d_SL1_canEncode_I_11 : decode M_SL1_canEncode_I.2.1 11 = .ok (.iconst 1, 1) := by decide +kernel
theorem d_SL1_canEncode_I_12 : decode M_SL1_canEncode_I.2.1 12 = .ok (.goto 4, 3) := by decide +kernel
theorem d_SL1_canEncode_I_16 : decode M_SL1_canEncode_I.2.1 16 = .ok (.ireturn, 1) := by decide +kernel
theorem d_SL1_indexOfChar_0 : decode M_SL1_indexOfChar.2.1 0 = .ok (.iload_n 1, 1) := by decide +kernel
theorem d_SL1_indexOfChar_1 : decode M_SL1_indexOfChar.2.1 1 = .ok (.i2b, 1) := by decide +kernel
theorem d_SL1_indexOfChar_2 : decode M_SL1_indexOfChar.2.1 2 = .ok (.istore 4, 2) := by decide +kernel
theorem d_SL1_indexOfChar_4 : decode M_SL1_indexOfChar.2.1 4 = .ok (.iload_n 2, 1) := by decide +kernel
theorem d_SL1_indexOfChar_5 : decode M_SL1_indexOfChar.2.1 5 = .ok (.istore 5, 2) := by decide +kernel
abbrev y_SL1_indexOf : MethodName := ⟨"java/lang/StringLatin1", "indexOf", "([BIII)I"⟩
abbrev M_SL1_indexOf : XMt := (y_SL1_indexOf, prog_27_method_22_code, 4, (some .int))
theorem d_SL1_indexOf_0 : decode M_SL1_indexOf.2.1 0 = .ok (.iload_n 1, 1) := by decide +kernel
theorem d_SL1_indexOf_1 : decode M_SL1_indexOf.2.1 1 = .ok (.invokestatic 88, 3) := by decide +kernel
theorem xw_773 : (Jvm.Cond.code ({ cls := "java/lang/StringLatin1", name := "canEncode", desc := "(I)Z" } : Jvm.MethodName) prog_27_method_4_code (1 : Nat) (Option.some Jvm.ClassFile.FieldType.boolean)) ∈ xT := xT_at 773 (by decide +kernel) (by decide +kernel)
theorem xcb_SL1_canEncode_I : xcb M_SL1_canEncode_I 1 := ⟨xw_773, xw_13, by decide, by decide, by decide, by decide +kernel⟩
theorem xw_771 : (Jvm.Cond.methodLink "java/lang/StringLatin1" (88 : Nat) ({ cls := "java/lang/StringLatin1", name := "canEncode", desc := "(I)Z" } : Jvm.MethodName)) ∈ xT := xT_at 771 (by decide +kernel) (by decide +kernel)
theorem xw_772 : (Jvm.Cond.static ({ cls := "java/lang/StringLatin1", name := "canEncode", desc := "(I)Z" } : Jvm.MethodName)) ∈ xT := xT_at 772 (by decide +kernel) (by decide +kernel)
theorem xcs_SL1_88 : xCS "java/lang/StringLatin1" 88 M_SL1_canEncode_I 1 := ⟨xcb_SL1_canEncode_I, xw_772, Or.inl xw_771⟩
theorem d_SL1_indexOf_4 : decode M_SL1_indexOf.2.1 4 = .ok (.ifCond .ne 5, 3) := by decide +kernel
theorem d_SL1_indexOf_9 : decode M_SL1_indexOf.2.1 9 = .ok (.iload_n 2, 1) := by decide +kernel
theorem d_SL1_indexOf_10 : decode M_SL1_indexOf.2.1 10 = .ok (.iconst 0, 1) := by decide +kernel
theorem d_SL1_indexOf_11 : decode M_SL1_indexOf.2.1 11 = .ok (.invokestatic 92, 3) := by decide +kernel
theorem xw_774 : (Jvm.Cond.methodLink "java/lang/StringLatin1" (92 : Nat) ({ cls := "java/lang/Math", name := "max", desc := "(II)I" } : Jvm.MethodName)) ∈ xT := xT_at 774 (by decide +kernel) (by decide +kernel)
theorem d_SL1_indexOf_14 : decode M_SL1_indexOf.2.1 14 = .ok (.istore_n 2, 1) := by decide +kernel
theorem d_SL1_indexOf_15 : decode M_SL1_indexOf.2.1 15 = .ok (.iload_n 3, 1) := by decide +kernel
theorem d_SL1_indexOf_16 : decode M_SL1_indexOf.2.1 16 = .ok (.aload_n 0, 1) := by decide +kernel
theorem d_SL1_indexOf_17 : decode M_SL1_indexOf.2.1 17 = .ok (.arraylength, 1) := by decide +kernel
theorem d_SL1_indexOf_18 : decode M_SL1_indexOf.2.1 18 = .ok (.invokestatic 38, 3) := by decide +kernel
theorem xw_775 : (Jvm.Cond.methodLink "java/lang/StringLatin1" (38 : Nat) ({ cls := "java/lang/Math", name := "min", desc := "(II)I" } : Jvm.MethodName)) ∈ xT := xT_at 775 (by decide +kernel) (by decide +kernel)
theorem d_SL1_indexOf_21 : decode M_SL1_indexOf.2.1 21 = .ok (.istore_n 3, 1) := by decide +kernel
theorem d_SL1_indexOf_22 : decode M_SL1_indexOf.2.1 22 = .ok (.iload_n 2, 1) := by decide +kernel
theorem d_SL1_indexOf_23 : decode M_SL1_indexOf.2.1 23 = .ok (.iload_n 3, 1) := by decide +kernel
theorem d_SL1_indexOf_24 : decode M_SL1_indexOf.2.1 24 = .ok (.if_icmp .lt 5, 3) := by decide +kernel
theorem d_SL1_indexOf_27 : decode M_SL1_indexOf.2.1 27 = .ok (.iconst (-1), 1) := by decide +kernel
theorem d_SL1_indexOf_28 : decode M_SL1_indexOf.2.1 28 = .ok (.ireturn, 1) := by decide +kernel
theorem d_SL1_indexOf_29 : decode M_SL1_indexOf.2.1 29 = .ok (.aload_n 0, 1) := by decide +kernel
theorem d_SL1_indexOf_30 : decode M_SL1_indexOf.2.1 30 = .ok (.iload_n 1, 1) := by decide +kernel
theorem d_SL1_indexOf_31 : decode M_SL1_indexOf.2.1 31 = .ok (.iload_n 2, 1) := by decide +kernel
theorem d_SL1_indexOf_32 : decode M_SL1_indexOf.2.1 32 = .ok (.iload_n 3, 1) := by decide +kernel
theorem d_SL1_indexOf_33 : decode M_SL1_indexOf.2.1 33 = .ok (.invokestatic 95, 3) := by decide +kernel
theorem xw_778 : (Jvm.Cond.code ({ cls := "java/lang/StringLatin1", name := "indexOfChar", desc := "([BIII)I" } : Jvm.MethodName) prog_27_method_23_code (6 : Nat) (Option.some Jvm.ClassFile.FieldType.int)) ∈ xT := xT_at 778 (by decide +kernel) (by decide +kernel)
theorem xcb_SL1_indexOfChar : xcb M_SL1_indexOfChar 4 := ⟨xw_778, xw_13, by decide, by decide, by decide, by decide +kernel⟩
theorem xw_776 : (Jvm.Cond.methodLink "java/lang/StringLatin1" (95 : Nat) ({ cls := "java/lang/StringLatin1", name := "indexOfChar", desc := "([BIII)I" } : Jvm.MethodName)) ∈ xT := xT_at 776 (by decide +kernel) (by decide +kernel)
theorem xw_777 : (Jvm.Cond.static ({ cls := "java/lang/StringLatin1", name := "indexOfChar", desc := "([BIII)I" } : Jvm.MethodName)) ∈ xT := xT_at 777 (by decide +kernel) (by decide +kernel)
theorem xcs_SL1_95 : xCS "java/lang/StringLatin1" 95 M_SL1_indexOfChar 4 := ⟨xcb_SL1_indexOfChar, xw_777, Or.inl xw_776⟩
theorem d_SL1_indexOf_36 : decode M_SL1_indexOf.2.1 36 = .ok (.ireturn, 1) := by decide +kernel
abbrev y_String_indexOf_II : MethodName := ⟨"java/lang/String", "indexOf", "(II)I"⟩
abbrev M_String_indexOf_II : XMt := (y_String_indexOf_II, prog_25_method_80_code, 3, (some .int))
theorem d_String_indexOf_II_0 : decode M_String_indexOf_II.2.1 0 = .ok (.aload_n 0, 1) := by decide +kernel
theorem d_String_indexOf_II_1 : decode M_String_indexOf_II.2.1 1 = .ok (.invokevirtual 492, 3) := by decide +kernel
theorem d_String_indexOf_II_4 : decode M_String_indexOf_II.2.1 4 = .ok (.ifCond .eq 19, 3) := by decide +kernel
theorem d_String_indexOf_II_7 : decode M_String_indexOf_II.2.1 7 = .ok (.aload_n 0, 1) := by decide +kernel
theorem d_String_indexOf_II_8 : decode M_String_indexOf_II.2.1 8 = .ok (.getfield 9, 3) := by decide +kernel
theorem d_String_indexOf_II_11 : decode M_String_indexOf_II.2.1 11 = .ok (.iload_n 1, 1) := by decide +kernel
theorem d_String_indexOf_II_12 : decode M_String_indexOf_II.2.1 12 = .ok (.iload_n 2, 1) := by decide +kernel
theorem d_String_indexOf_II_13 : decode M_String_indexOf_II.2.1 13 = .ok (.aload_n 0, 1) := by decide +kernel
theorem d_String_indexOf_II_14 : decode M_String_indexOf_II.2.1 14 = .ok (.invokevirtual 505, 3) := by decide +kernel
theorem d_String_indexOf_II_17 : decode M_String_indexOf_II.2.1 17 = .ok (.invokestatic 637, 3) := by decide +kernel
theorem xw_770 : (Jvm.Cond.code ({ cls := "java/lang/StringLatin1", name := "indexOf", desc := "([BIII)I" } : Jvm.MethodName) prog_27_method_22_code (4 : Nat) (Option.some Jvm.ClassFile.FieldType.int)) ∈ xT := xT_at 770 (by decide +kernel) (by decide +kernel)
theorem xcb_SL1_indexOf : xcb M_SL1_indexOf 4 := ⟨xw_770, xw_13, by decide, by decide, by decide, by decide +kernel⟩
theorem xw_768 : (Jvm.Cond.methodLink "java/lang/String" (637 : Nat) ({ cls := "java/lang/StringLatin1", name := "indexOf", desc := "([BIII)I" } : Jvm.MethodName)) ∈ xT := xT_at 768 (by decide +kernel) (by decide +kernel)
theorem xw_769 : (Jvm.Cond.static ({ cls := "java/lang/StringLatin1", name := "indexOf", desc := "([BIII)I" } : Jvm.MethodName)) ∈ xT := xT_at 769 (by decide +kernel) (by decide +kernel)
theorem xcs_String_637 : xCS "java/lang/String" 637 M_SL1_indexOf 4 := ⟨xcb_SL1_indexOf, xw_769, Or.inl xw_768⟩
theorem d_String_indexOf_II_20 : decode M_String_indexOf_II.2.1 20 = .ok (.goto 16, 3) := by decide +kernel
theorem d_String_indexOf_II_36 : decode M_String_indexOf_II.2.1 36 = .ok (.ireturn, 1) := by decide +kernel
abbrev y_String_indexOf_I : MethodName := ⟨"java/lang/String", "indexOf", "(I)I"⟩
abbrev M_String_indexOf_I : XMt := (y_String_indexOf_I, prog_25_method_79_code, 2, (some .int))
theorem d_String_indexOf_I_0 : decode M_String_indexOf_I.2.1 0 = .ok (.aload_n 0, 1) := by decide +kernel
theorem d_String_indexOf_I_1 : decode M_String_indexOf_I.2.1 1 = .ok (.iload_n 1, 1) := by decide +kernel
theorem d_String_indexOf_I_2 : decode M_String_indexOf_I.2.1 2 = .ok (.iconst 0, 1) := by decide +kernel
theorem d_String_indexOf_I_3 : decode M_String_indexOf_I.2.1 3 = .ok (.invokevirtual 633, 3) := by decide +kernel
theorem xw_766 : (Jvm.Cond.code ({ cls := "java/lang/String", name := "indexOf", desc := "(II)I" } : Jvm.MethodName) prog_25_method_80_code (3 : Nat) (Option.some Jvm.ClassFile.FieldType.int)) ∈ xT := xT_at 766 (by decide +kernel) (by decide +kernel)
theorem xcb_String_indexOf_II : xcb M_String_indexOf_II 2 := ⟨xw_766, xw_4, by decide, by decide, by decide, by decide +kernel⟩
theorem xw_764 : (Jvm.Cond.instanceMethod ({ cls := "java/lang/String", name := "indexOf", desc := "(II)I" } : Jvm.MethodName)) ∈ xT := xT_at 764 (by decide +kernel) (by decide +kernel)
theorem xw_763 : (Jvm.Cond.methodLink "java/lang/String" (633 : Nat) ({ cls := "java/lang/String", name := "indexOf", desc := "(II)I" } : Jvm.MethodName)) ∈ xT := xT_at 763 (by decide +kernel) (by decide +kernel)
theorem xw_765 : (Jvm.Cond.selects "java/lang/String" ({ cls := "java/lang/String", name := "indexOf", desc := "(II)I" } : Jvm.MethodName) ({ cls := "java/lang/String", name := "indexOf", desc := "(II)I" } : Jvm.MethodName)) ∈ xT := xT_at 765 (by decide +kernel) (by decide +kernel)
theorem xcv_String_633_String : xCV "java/lang/String" 633 "java/lang/String" M_String_indexOf_II 2 := ⟨xcb_String_indexOf_II, xw_764, Or.inl ⟨xw_763, Or.inl xw_765⟩⟩
theorem d_String_indexOf_I_6 : decode M_String_indexOf_I.2.1 6 = .ok (.ireturn, 1) := by decide +kernel
end
section SB5
variable {l : Launch} {G : XG} {h : XH} {c n d : Nat}
theorem c_getBytes (hd : 1 ≤ d) {b va p : Nat} {u : List Nat} {vs : List Value} (hS : isS G h b u) (hv : h va = some (k_abyte, vs)) (hp : p + u.length ≤ vs.length) (hl : vs.length < 2 ^ 20) : XM l G d M_String_getBytes [.ref b, .ref va, .int (nI p), .int 0] h c n (fun v h' c' n' => v = none ∧ h' = xup h va (k_abyte, xcopy (xby u) vs 0 p u.length) ∧ c' = c ∧ n' = n) := by
  obtain ⟨d, rfl⟩ : ∃ q, d = q + 1 := ⟨d - 1, by omega⟩
  obtain ⟨vb, e, hb, hvb, hat⟩ := hS
  refine XM.of (by decide +kernel) (Nat.le_of_ble_eq_true rfl) ?_
  refine x_aload_n d_String_getBytes_0 rfl rfl ?_
  refine x_callV (As := []) (k := k_String) rfl xcv_String_335_String hb (c_String_coder hb) rfl rfl (Nat.le_of_ble_eq_true rfl) d_String_getBytes_1 ?_
  rintro v h' c' n' ⟨rfl, rfl, rfl, rfl⟩
  refine x_iload_n d_String_getBytes_4 rfl ?_
  refine x_icmp_ne (tgt := 28) d_String_getBytes_5 (by decide) (fun ht => absurd rfl ht) (fun _ => ?_)
  refine x_aload_n d_String_getBytes_8 rfl rfl ?_
  refine x_get xf_String_9_String hb rfl d_String_getBytes_9 ?_
  refine x_iconst (v := 0) d_String_getBytes_12 (by decide) ?_
  refine x_aload_n d_String_getBytes_13 rfl rfl ?_
  refine x_iload_n d_String_getBytes_14 rfl ?_
  refine x_iload_n d_String_getBytes_15 rfl ?_
  refine x_ishl d_String_getBytes_16 ?_
  refine x_top (w := .int (nI p)) (by rw [sb_shl0]) ?_
  refine x_aload_n d_String_getBytes_17 rfl rfl ?_
  refine x_get xf_String_9_String hb rfl d_String_getBytes_18 ?_
  refine x_alen (k := k_asbyte) rfl hvb (v := nI u.length) (by rw [xby_len]; rfl) d_String_getBytes_21 ?_
  refine x_copyP (k0 := k_asbyte) (k := k_abyte) rfl rfl rfl xw_595 xw_220 xw_219 xw_12 hvb hv (by decide) (nI_pos (by omega)) (nI_pos (by omega)) (by rw [nI_clamp (by omega), xby_len]; exact Nat.le_of_eq (by simp)) (by rw [nI_clamp (by omega), nI_clamp (by omega)]; exact hp) (xby_fit hat) (Nat.le_of_ble_eq_true rfl) d_String_getBytes_22 ?_
  refine x_goto (tgt := 43) d_String_getBytes_25 (by decide) ?_
  refine x_vret d_String_getBytes_43 rfl ?_
  exact ⟨rfl, by rw [nI_clamp (by omega), nI_clamp (by omega)]; rfl, rfl, rfl⟩
theorem c_inflateIf (hd : 1 ≤ d) {a va b : Nat} {z k : Value} {u : List Nat} (ha : h a = some (k_StringBuilder, [.ref va, .int 0, z, k])) (hS : isS G h b u) : XM l G d M_ASB_inflateIfNeededFor [.ref a, .ref b] h c n (xVoid h c n) := by
  obtain ⟨d, rfl⟩ : ∃ q, d = q + 1 := ⟨d - 1, by omega⟩
  obtain ⟨vb, e, hb, hvb, hat⟩ := hS
  refine XM.of (by decide +kernel) (Nat.le_of_ble_eq_true rfl) ?_
  refine x_gets xw_51 (List.mem_of_getElem? (i := 0) rfl) d_ASB_inflateIfNeededFor_0 ?_
  refine x_if_eq (tgt := 21) d_ASB_inflateIfNeededFor_3 (by decide) (fun ht => absurd ht (by decide)) (fun _ => ?_)
  refine x_aload_n d_ASB_inflateIfNeededFor_6 rfl rfl ?_
  refine x_get xf_ASB_22_SB (Or.inl ha) rfl d_ASB_inflateIfNeededFor_7 ?_
  refine x_aload_n d_ASB_inflateIfNeededFor_10 rfl rfl ?_
  refine x_callV (As := []) (k := k_String) rfl xcv_ASB_40_String hb (c_String_coder hb) rfl rfl (Nat.le_of_ble_eq_true rfl) d_ASB_inflateIfNeededFor_11 ?_
  rintro v h' c' n' ⟨rfl, rfl, rfl, rfl⟩
  refine x_icmp_eq (tgt := 21) d_ASB_inflateIfNeededFor_14 (by decide) (fun _ => ?_) (fun hn => absurd rfl hn)
  refine x_vret d_ASB_inflateIfNeededFor_21 rfl ?_
  exact ⟨rfl, rfl, rfl, rfl⟩
theorem c_putStringAt (hd : 2 ≤ d) {a va b p : Nat} {z k : Value} {u : List Nat} {vs : List Value} (ha : h a = some (k_StringBuilder, [.ref va, .int 0, z, k])) (hS : isS G h b u) (hv : h va = some (k_abyte, vs)) (hp : p + u.length ≤ vs.length) (hl : vs.length < 2 ^ 20) : XM l G d M_ASB_putStringAt [.ref a, .int (nI p), .ref b] h c n (fun v h' c' n' => v = none ∧ h' = xup h va (k_abyte, xcopy (xby u) vs 0 p u.length) ∧ c' = c ∧ n' = n) := by
  obtain ⟨d, rfl⟩ : ∃ q, d = q + 1 := ⟨d - 1, by omega⟩
  obtain ⟨vb, e, hb, hvb, hat⟩ := id hS
  refine XM.of (by decide +kernel) (Nat.le_of_ble_eq_true rfl) ?_
  refine x_aload_n d_ASB_putStringAt_0 rfl rfl ?_
  refine x_aload_n d_ASB_putStringAt_1 rfl rfl ?_
  refine x_callV (As := [_]) (k := k_StringBuilder) rfl xcv_ASB_397_SB (Or.inl ha) (c_inflateIf (by omega) ha hS) rfl rfl (Nat.le_of_ble_eq_true rfl) d_ASB_putStringAt_2 ?_
  rintro v h' c' n' ⟨rfl, rfl, rfl, rfl⟩
  refine x_aload_n d_ASB_putStringAt_5 rfl rfl ?_
  refine x_aload_n d_ASB_putStringAt_6 rfl rfl ?_
  refine x_get xf_ASB_15_SB (Or.inl ha) rfl d_ASB_putStringAt_7 ?_
  refine x_iload_n d_ASB_putStringAt_10 rfl ?_
  refine x_aload_n d_ASB_putStringAt_11 rfl rfl ?_
  refine x_get xf_ASB_22_SB (Or.inl ha) rfl d_ASB_putStringAt_12 ?_
  refine x_callV (As := [_, _, _]) (k := k_String) rfl xcv_ASB_399_String hb (c_getBytes (by omega) hS hv hp hl) rfl rfl (Nat.le_of_ble_eq_true rfl) d_ASB_putStringAt_15 ?_
  rintro v h' c' n' ⟨rfl, rfl, rfl, rfl⟩
  refine x_vret d_ASB_putStringAt_18 rfl ?_
  exact ⟨rfl, rfl, rfl, rfl⟩
theorem xcopy_end {t u : List Nat} {bs : List Value} (hb : u.length ≤ bs.length) : xcopy (xby u) (xby t ++ bs) 0 t.length u.length = xby (t ++ u) ++ bs.drop u.length := by
  unfold xcopy
  rw [List.take_append_of_le_length (by rw [xby_len]; exact Nat.le_refl _), List.take_of_length_le (by rw [xby_len]; exact Nat.le_refl _), List.drop_zero, List.take_of_length_le (by rw [xby_len]; exact Nat.le_refl _)]
  rw [← xby_len t, List.drop_append, xby_len]
  simp [xby]
theorem c_ASB_append_S (hd : 4 ≤ d) {K a va b m : Nat} {t u : List Nat} (hB : isB h a va t m) (hS : isS G h b u) (hK : K < 2 ^ 16) (hm : m ≤ K) (hL : 2 * (t.length + u.length) + 2 ≤ K) (hc : c + K ≤ xCB + m) (hn : n + 2 * K ≤ xSB + 2 * m) : XM l G d M_ASB_append_String [.ref a, .ref b] h c n (fun v h' c' n' => v = some (.ref a) ∧ pB K a va (t ++ u) m h c n h' c' n') := by
  obtain ⟨d, rfl⟩ : ∃ q, d = q + 1 := ⟨d - 1, by omega⟩
  obtain ⟨z, bs, ha, hv, hl, hbf, hat⟩ := hB
  obtain ⟨vb, e, hb, hvb, hbt⟩ := id hS
  have hat' : xasc (t ++ u) := fun x hx => (List.mem_append.mp hx).elim (hat x) (hbt x)
  have hav : a ≠ va := fun e => by rw [e, hv] at ha; cases ha
  have hvl : (xby t ++ bs).length = m := by rw [List.length_append, xby_len]; exact hl
  have fin : ∀ (h1 : XH) (v1 : Nat) (bs1 : List Value) (c1 n1 : Nat), isS G h1 b u → h1 a = some (k_StringBuilder, [.ref v1, .int 0, .int z, .int (nI t.length)]) → h1 v1 = some (k_abyte, xby t ++ bs1) → u.length ≤ bs1.length → bs1.length < 2 ^ 18 → a ≠ v1 →
      pB K a va (t ++ u) m h c n (xup (xup h1 v1 (k_abyte, xby (t ++ u) ++ bs1.drop u.length)) a (k_StringBuilder, [.ref v1, .int 0, .int z, .int (nI (t ++ u).length)])) c1 n1 →
      XW l G M_ASB_append_String (d + 1) 24 [some (.ref a), some (.ref b), some (.int (nI u.length))] [] h1 c1 n1 (fun v h' c' n' => v = some (.ref a) ∧ pB K a va (t ++ u) m h c n h' c' n') := by
    intro h1 v1 bs1 c1 n1 hS1 e1 e2 e3 e3' e4 hP
    obtain ⟨vb1, x1, hb1, -⟩ := id hS1
    refine x_aload_n d_ASB_append_String_24 rfl rfl ?_
    refine x_aload_n d_ASB_append_String_25 rfl rfl ?_
    refine x_get xf_ASB_79_SB (Or.inl e1) rfl d_ASB_append_String_26 ?_
    refine x_aload_n d_ASB_append_String_29 rfl rfl ?_
    refine x_callV (As := [_, _]) (k := k_StringBuilder) rfl xcv_ASB_208_SB (Or.inl e1) (c_putStringAt (by omega) e1 hS1 e2 (p := t.length) (by rw [List.length_append, xby_len]; omega) (by rw [List.length_append, xby_len]; omega)) rfl rfl (Nat.le_of_ble_eq_true rfl) d_ASB_append_String_30 ?_
    rintro v h' c' n' ⟨rfl, rfl, rfl, rfl⟩
    rw [xcopy_end e3]
    refine x_aload_n d_ASB_append_String_33 rfl rfl ?_
    refine x_dup d_ASB_append_String_34 rfl ?_
    refine x_get xf_ASB_79_SB (Or.inl (by rw [xup_ne e4]; exact e1)) rfl d_ASB_append_String_35 ?_
    refine x_iload_n d_ASB_append_String_38 rfl ?_
    refine x_iadd d_ASB_append_String_39 ?_
    refine x_top (w := .int (nI (t ++ u).length)) (by rw [nI_add, List.length_append]) ?_
    refine x_put xf_ASB_79_SB xp_SB_3 rfl rfl (by rw [xup_ne e4]; exact e1) rfl rfl d_ASB_append_String_40 ?_
    refine x_aload_n d_ASB_append_String_43 rfl rfl ?_
    refine x_aret d_ASB_append_String_44 rfl rfl ?_
    exact ⟨rfl, hP⟩
  refine XM.of (by decide +kernel) (Nat.le_of_ble_eq_true rfl) ?_
  refine x_aload_n d_ASB_append_String_0 rfl rfl ?_
  refine x_ifnonnull (tgt := 9) d_ASB_append_String_1 (by decide) ?_
  refine x_aload_n d_ASB_append_String_9 rfl rfl ?_
  refine x_callV (As := []) (k := k_String) rfl xcv_ASB_32_String hb (c_String_length (by omega) hS) rfl rfl (Nat.le_of_ble_eq_true rfl) d_ASB_append_String_10 ?_
  rintro v h' c' n' ⟨rfl, rfl, rfl, rfl⟩
  refine x_istore_n (L' := [_, _, _]) d_ASB_append_String_13 rfl rfl ?_
  refine x_aload_n d_ASB_append_String_14 rfl rfl ?_
  refine x_aload_n d_ASB_append_String_15 rfl rfl ?_
  refine x_get xf_ASB_79_SB (Or.inl ha) rfl d_ASB_append_String_16 ?_
  refine x_iload_n d_ASB_append_String_19 rfl ?_
  refine x_iadd d_ASB_append_String_20 ?_
  refine x_top (w := .int (nI (t.length + u.length))) (by rw [nI_add]) ?_
  by_cases hbs : u.length ≤ bs.length
  · refine x_callV (As := [_]) (k := k_StringBuilder) rfl xcv_ASB_100_SB (Or.inl ha) (c_ensure_no (Nat.zero_le _) ha hv (by rw [hvl]; omega) (by rw [hvl]; omega)) rfl rfl (Nat.le_of_ble_eq_true rfl) d_ASB_append_String_21 ?_
    rintro v h' c' n' ⟨rfl, rfl, rfl, rfl⟩
    refine fin h' va bs c' n' hS ha hv hbs (by omega) hav ⟨va, m, ⟨z, bs.drop u.length, xup_self, by rw [xup_ne (Ne.symm hav), xup_self], by simp; omega, fun v hv => hbf v (List.mem_of_mem_drop hv), hat'⟩, ?_, Or.inl rfl, by omega⟩
    exact (xfr.rf.up (Or.inl (by simp))).up (Or.inl (by simp))
  · have hvs : ∀ v ∈ xby t ++ bs, fits .byte v = true := fun v hv => (List.mem_append.mp hv).elim (xby_fit hat v) (hbf v)
    have hmx : max (t.length + u.length) (2 * (xby t ++ bs).length + 2) = max (t.length + u.length) (2 * m + 2) := by rw [hvl]
    refine x_callV (As := [_]) (k := k_StringBuilder) rfl xcv_ASB_100_SB (Or.inl ha) (c_ensure_yes (by omega) ha hv hvs (by rw [hvl]; omega) (by omega) (by omega) (by rw [hmx]; omega)) rfl rfl (Nat.le_of_ble_eq_true rfl) d_ASB_append_String_21 ?_
    rintro v h' c' n' ⟨rfl, q, hq, rfl, rfl, rfl⟩
    rw [hmx, hvl]
    have haq : a ≠ q := fun e => by rw [e, hq] at ha; cases ha
    refine fin _ q (bs ++ List.replicate (max (t.length + u.length) (2 * m + 2) - m) (.int 0)) _ _ ?_ xup_self (by rw [xup_ne (Ne.symm haq), xup_self]; simp) (by simp; omega) (by simp; omega) haq ⟨q, max (t.length + u.length) (2 * m + 2), ⟨z, (bs ++ List.replicate (max (t.length + u.length) (2 * m + 2) - m) (Value.int 0)).drop u.length, xup_self, by rw [xup_ne (Ne.symm haq), xup_self], by simp; omega, fun v hv => ?_, hat'⟩, ?_, Or.inr hq, by omega⟩
    · refine (hS.up hq).fr (F := [a]) (xfr.rf.up (Or.inl (by simp))) (fun q' hq' e' he' => ?_)
      rw [List.mem_singleton] at hq'
      subst hq'
      rw [xup_ne haq, ha] at he'
      cases he'
      show ¬ k_StringBuilder ∈ [k_String, k_asbyte]
      decide
    · rcases List.mem_append.mp (List.mem_of_mem_drop hv) with q1 | q1
      · exact hbf v q1
      · rw [(List.mem_replicate.mp q1).2]; rfl
    · exact (((xfr.rf.up (Or.inr hq)).up (Or.inl (by simp))).up (Or.inr hq)).up (Or.inl (by simp))
theorem c_SB_append_S (hd : 5 ≤ d) {K a va b m : Nat} {t u : List Nat} (hB : isB h a va t m) (hS : isS G h b u) (hK : K < 2 ^ 16) (hm : m ≤ K) (hL : 2 * (t.length + u.length) + 2 ≤ K) (hc : c + K ≤ xCB + m) (hn : n + 2 * K ≤ xSB + 2 * m) : XM l G d M_SB_append_String [.ref a, .ref b] h c n (fun v h' c' n' => v = some (.ref a) ∧ pB K a va (t ++ u) m h c n h' c' n') := by
  obtain ⟨d, rfl⟩ : ∃ q, d = q + 1 := ⟨d - 1, by omega⟩
  obtain ⟨z, bs, ha, -⟩ := id hB
  refine XM.of (by decide +kernel) (Nat.le_of_ble_eq_true rfl) ?_
  refine x_aload_n d_SB_append_String_0 rfl rfl ?_
  refine x_aload_n d_SB_append_String_1 rfl rfl ?_
  refine x_callU (As := [_]) (k := k_StringBuilder) rfl xcu_SB_29 (Or.inl ha) (c_ASB_append_S (by omega) hB hS hK hm hL hc hn) rfl rfl (Nat.le_of_ble_eq_true rfl) d_SB_append_String_2 ?_
  rintro v h' c' n' ⟨rfl, hp⟩
  refine x_pop d_SB_append_String_5 rfl ?_
  refine x_aload_n d_SB_append_String_6 rfl rfl ?_
  refine x_aret d_SB_append_String_7 rfl rfl ?_
  exact ⟨rfl, hp⟩
/-! indexOf -/
/-- the first place of a character, or -1 -/
def xix (t : List Nat) (ch : Nat) : Int32 := if ch ∈ t then nI (t.idxOf ch) else -1
theorem lp_indexOfChar {va ch : Nat} {t : List Nat} {P : Option Value → XH → Nat → Nat → Prop} (hv : xr G h va k_asbyte (xby t)) (ht : xasc t) (hch : ch < 128) (hl : t.length < 2 ^ 30) (hP : P (some (.int (xix t ch))) h c n) :
    ∀ (k i : Nat), i + k = t.length → ch ∉ t.take i → XW l G M_SL1_indexOfChar d 7 [some (.ref va), some (.int (nI ch)), some (.int (nI 0)), some (.int (nI t.length)), some (.int (nI ch)), some (.int (nI i))] [] h c n P := by
  intro k
  induction k with
  | zero =>
    intro i hi he
    rw [List.take_of_length_le (by omega)] at he
    unfold xix at hP
    rw [if_neg he] at hP
    refine x_iload d_SL1_indexOfChar_7 rfl ?_
    refine x_iload_n d_SL1_indexOfChar_9 rfl ?_
    refine x_icmp_ge (tgt := 31) d_SL1_indexOfChar_10 (by decide) (fun _ => ?_) (fun hn => absurd (nI_le (by omega) (by omega)) hn)
    refine x_iconst (v := (-1)) d_SL1_indexOfChar_31 (by decide) ?_
    refine x_iret d_SL1_indexOfChar_32 rfl ?_
    exact hP
  | succ k ih =>
    intro i hi he
    have hit : i < t.length := by omega
    have e1 := ht t[i] (List.getElem_mem hit)
    refine x_iload d_SL1_indexOfChar_7 rfl ?_
    refine x_iload_n d_SL1_indexOfChar_9 rfl ?_
    refine x_icmp_ge (tgt := 31) d_SL1_indexOfChar_10 (by decide) (fun ht => absurd ht (nI_ge hit (by omega))) (fun _ => ?_)
    refine x_aload_n d_SL1_indexOfChar_13 rfl rfl ?_
    refine x_iload d_SL1_indexOfChar_14 rfl ?_
    refine x_bald (k := k_asbyte) rfl hv (nI_pos (by omega)) (by rw [nI_clamp (by omega)]; exact xby_at hit) d_SL1_indexOfChar_16 ?_
    refine x_iload d_SL1_indexOfChar_17 rfl ?_
    by_cases hq : t[i] = ch
    · have hm : ch ∈ t := by rw [← hq]; exact List.getElem_mem hit
      have hx : t.idxOf ch = i := by
        have h1 : t = t.take i ++ (ch :: t.drop (i + 1)) := by rw [← hq, ← List.drop_eq_getElem_cons hit, List.take_append_drop]
        have hli : (t.take i).length = i := by rw [List.length_take]; omega
        rw [h1, List.idxOf_append, if_neg he, List.idxOf_cons_self, hli, Nat.zero_add]
      unfold xix at hP
      rw [if_pos hm, hx] at hP
      refine x_icmp_ne (tgt := 25) d_SL1_indexOfChar_19 (by decide) (fun ht => absurd (by rw [hq]) ht) (fun _ => ?_)
      refine x_iload d_SL1_indexOfChar_22 rfl ?_
      refine x_iret d_SL1_indexOfChar_24 rfl ?_
      exact hP
    · refine x_icmp_ne (tgt := 25) d_SL1_indexOfChar_19 (by decide) (fun _ => ?_) (fun hn => absurd hn (by rw [nI_eq (by omega) (by omega)]; exact hq))
      refine x_iinc (v := nI (i + 1)) (L' := [_, _, _, _, _, _]) d_SL1_indexOfChar_25 rfl (by exact xw_iinc1) rfl rfl ?_
      refine x_goto (tgt := 7) d_SL1_indexOfChar_28 (by decide) ?_
      refine ih (i + 1) (by omega) ?_
      rw [List.take_succ_eq_append_getElem hit, List.mem_append, List.mem_singleton]
      rintro (q | q)
      · exact he q
      · exact hq q.symm
theorem c_SL1_canEncode_I {q : Nat} (hq : q < 256) : XM l G d M_SL1_canEncode_I [.int (nI q)] h c n (xSame (.int 1) h c n) := by
  refine XM.of (by decide +kernel) (Nat.le_of_ble_eq_true rfl) ?_
  refine x_iload_n d_SL1_canEncode_I_0 rfl ?_
  refine x_if_lt (tgt := 15) d_SL1_canEncode_I_1 (by decide) (fun ht => absurd ht (nI_pos (by omega))) (fun _ => ?_)
  refine x_iload_n d_SL1_canEncode_I_4 rfl ?_
  refine x_sipush (v := 255) d_SL1_canEncode_I_5 (by decide) ?_
  refine x_icmp_gt (tgt := 15) d_SL1_canEncode_I_8 (by decide) (fun ht => absurd ht (by exact nI_nlt (a := 255) (b := q) (by omega) (by omega))) (fun _ => ?_)
  refine x_iconst (v := 1) d_SL1_canEncode_I_11 (by decide) ?_
  refine x_goto (tgt := 16) d_SL1_canEncode_I_12 (by decide) ?_
  refine x_zret d_SL1_canEncode_I_16 rfl rfl ?_
  exact ⟨rfl, rfl, rfl, rfl⟩
theorem c_indexOfChar {va ch : Nat} {t : List Nat} (hv : xr G h va k_asbyte (xby t)) (ht : xasc t) (hch : ch < 128) (hl : t.length < 2 ^ 30) : XM l G d M_SL1_indexOfChar [.ref va, .int (nI ch), .int (nI 0), .int (nI t.length)] h c n (xSame (.int (xix t ch)) h c n) := by
  obtain ⟨-, f2, -⟩ := xfit1 ch hch
  refine XM.of (by decide +kernel) (Nat.le_of_ble_eq_true rfl) ?_
  refine x_iload_n d_SL1_indexOfChar_0 rfl ?_
  refine x_i2b d_SL1_indexOfChar_1 ?_
  refine x_top (w := .int (nI ch)) (by rw [f2]) ?_
  refine x_istore (L' := [_, _, _, _, _, _]) d_SL1_indexOfChar_2 rfl rfl ?_
  refine x_iload_n d_SL1_indexOfChar_4 rfl ?_
  refine x_istore (L' := [_, _, _, _, _, _]) d_SL1_indexOfChar_5 rfl rfl ?_
  exact lp_indexOfChar hv ht hch hl ⟨rfl, rfl, rfl, rfl⟩ t.length 0 (by omega) (by simp)
theorem c_SL1_indexOf (hd : 1 ≤ d) {va ch : Nat} {t : List Nat} (hv : xr G h va k_asbyte (xby t)) (ht : xasc t) (hch : ch < 128) (hl : t.length < 2 ^ 30) : XM l G d M_SL1_indexOf [.ref va, .int (nI ch), .int (nI 0), .int (nI t.length)] h c n (xSame (.int (xix t ch)) h c n) := by
  obtain ⟨d, rfl⟩ : ∃ q, d = q + 1 := ⟨d - 1, by omega⟩
  refine XM.of (by decide +kernel) (Nat.le_of_ble_eq_true rfl) ?_
  refine x_iload_n d_SL1_indexOf_0 rfl ?_
  refine x_callS (As := [_]) xcs_SL1_88 (c_SL1_canEncode_I (by omega)) rfl rfl (Nat.le_of_ble_eq_true rfl) d_SL1_indexOf_1 ?_
  rintro v h' c' n' ⟨rfl, rfl, rfl, rfl⟩
  refine x_if_ne (tgt := 9) d_SL1_indexOf_4 (by decide) (fun _ => ?_) (fun hn => absurd hn (by decide))
  refine x_iload_n d_SL1_indexOf_9 rfl ?_
  refine x_iconst (v := 0) d_SL1_indexOf_10 (by decide) ?_
  refine x_mmax xw_774 xw_198 xw_10 xw_199 (Nat.le_of_ble_eq_true rfl) d_SL1_indexOf_11 ?_
  refine x_top (w := .int (nI 0)) (by rfl) ?_
  refine x_istore_n (L' := [_, _, _, _]) d_SL1_indexOf_14 rfl rfl ?_
  refine x_iload_n d_SL1_indexOf_15 rfl ?_
  refine x_aload_n d_SL1_indexOf_16 rfl rfl ?_
  refine x_alen (k := k_asbyte) rfl hv (v := nI t.length) (by rw [xby_len]; rfl) d_SL1_indexOf_17 ?_
  refine x_mmin xw_775 xw_216 xw_10 xw_217 (Nat.le_of_ble_eq_true rfl) d_SL1_indexOf_18 ?_
  refine x_top (w := .int (nI t.length)) (by rw [nI_min (by omega) (by omega), Nat.min_self]) ?_
  refine x_istore_n (L' := [_, _, _, _]) d_SL1_indexOf_21 rfl rfl ?_
  refine x_iload_n d_SL1_indexOf_22 rfl ?_
  refine x_iload_n d_SL1_indexOf_23 rfl ?_
  by_cases h0 : t.length = 0
  · have e : t = [] := List.eq_nil_of_length_eq_zero h0
    subst e
    refine x_icmp_lt (tgt := 29) d_SL1_indexOf_24 (by decide) (fun ht => absurd ht (by decide)) (fun _ => ?_)
    refine x_iconst (v := (-1)) d_SL1_indexOf_27 (by decide) ?_
    refine x_iret d_SL1_indexOf_28 rfl ?_
    exact ⟨rfl, rfl, rfl, rfl⟩
  · refine x_icmp_lt (tgt := 29) d_SL1_indexOf_24 (by decide) (fun _ => ?_) (fun hn => absurd (nI_lt (by omega) (by omega)) hn)
    refine x_aload_n d_SL1_indexOf_29 rfl rfl ?_
    refine x_iload_n d_SL1_indexOf_30 rfl ?_
    refine x_iload_n d_SL1_indexOf_31 rfl ?_
    refine x_iload_n d_SL1_indexOf_32 rfl ?_
    refine x_callS (As := [_, _, _, _]) xcs_SL1_95 (c_indexOfChar hv ht hch hl) rfl rfl (Nat.le_of_ble_eq_true rfl) d_SL1_indexOf_33 ?_
    rintro v h' c' n' ⟨rfl, rfl, rfl, rfl⟩
    refine x_iret d_SL1_indexOf_36 rfl ?_
    exact ⟨rfl, rfl, rfl, rfl⟩
theorem c_String_indexOf_II (hd : 2 ≤ d) {a ch : Nat} {t : List Nat} (hS : isS G h a t) (hch : ch < 128) (hl : t.length < 2 ^ 30) : XM l G d M_String_indexOf_II [.ref a, .int (nI ch), .int (nI 0)] h c n (xSame (.int (xix t ch)) h c n) := by
  obtain ⟨d, rfl⟩ : ∃ q, d = q + 1 := ⟨d - 1, by omega⟩
  obtain ⟨va, e, ha, hv, hat⟩ := id hS
  refine XM.of (by decide +kernel) (Nat.le_of_ble_eq_true rfl) ?_
  refine x_aload_n d_String_indexOf_II_0 rfl rfl ?_
  refine x_callV (As := []) (k := k_String) rfl xcv_String_492_String ha (c_String_isLatin1 ha) rfl rfl (Nat.le_of_ble_eq_true rfl) d_String_indexOf_II_1 ?_
  rintro v h' c' n' ⟨rfl, rfl, rfl, rfl⟩
  refine x_if_eq (tgt := 23) d_String_indexOf_II_4 (by decide) (fun ht => absurd ht (by decide)) (fun _ => ?_)
  refine x_aload_n d_String_indexOf_II_7 rfl rfl ?_
  refine x_get xf_String_9_String ha rfl d_String_indexOf_II_8 ?_
  refine x_iload_n d_String_indexOf_II_11 rfl ?_
  refine x_iload_n d_String_indexOf_II_12 rfl ?_
  refine x_aload_n d_String_indexOf_II_13 rfl rfl ?_
  refine x_callV (As := []) (k := k_String) rfl xcv_String_505_String ha (c_String_length (by omega) hS) rfl rfl (Nat.le_of_ble_eq_true rfl) d_String_indexOf_II_14 ?_
  rintro v h' c' n' ⟨rfl, rfl, rfl, rfl⟩
  refine x_callS (As := [_, _, _, _]) xcs_String_637 (c_SL1_indexOf (by omega) hv hat hch hl) rfl rfl (Nat.le_of_ble_eq_true rfl) d_String_indexOf_II_17 ?_
  rintro v h' c' n' ⟨rfl, rfl, rfl, rfl⟩
  refine x_goto (tgt := 36) d_String_indexOf_II_20 (by decide) ?_
  refine x_iret d_String_indexOf_II_36 rfl ?_
  exact ⟨rfl, rfl, rfl, rfl⟩
theorem c_String_indexOf (hd : 3 ≤ d) {a ch : Nat} {t : List Nat} (hS : isS G h a t) (hch : ch < 128) (hl : t.length < 2 ^ 30) : XM l G d M_String_indexOf_I [.ref a, .int (nI ch)] h c n (xSame (.int (xix t ch)) h c n) := by
  obtain ⟨d, rfl⟩ : ∃ q, d = q + 1 := ⟨d - 1, by omega⟩
  obtain ⟨va, e, ha, hv, hat⟩ := id hS
  refine XM.of (by decide +kernel) (Nat.le_of_ble_eq_true rfl) ?_
  refine x_aload_n d_String_indexOf_I_0 rfl rfl ?_
  refine x_iload_n d_String_indexOf_I_1 rfl ?_
  refine x_iconst (v := 0) d_String_indexOf_I_2 (by decide) ?_
  refine x_callV (As := [_, _]) (k := k_String) rfl xcv_String_633_String ha (c_String_indexOf_II (by omega) hS hch hl) rfl rfl (Nat.le_of_ble_eq_true rfl) d_String_indexOf_I_3 ?_
  rintro v h' c' n' ⟨rfl, rfl, rfl, rfl⟩
  refine x_iret d_String_indexOf_I_6 rfl ?_
  exact ⟨rfl, rfl, rfl, rfl⟩
end SB5
end
section
section
abbrev y_AbC_init : MethodName := ⟨"java/util/AbstractCollection", "<init>", "()V"⟩
abbrev M_AbC_init : XMt := (y_AbC_init, prog_31_method_1_code, 1, none)
theorem d_AbC_init_0 : decode M_AbC_init.2.1 0 = .ok (.aload_n 0, 1) := by decide +kernel
theorem d_AbC_init_1 : decode M_AbC_init.2.1 1 = .ok (.invokespecial 1, 3) := by decide +kernel
theorem xw_840 : (Jvm.Cond.methodLink "java/util/AbstractCollection" (1 : Nat) ({ cls := "java/lang/Object", name := "<init>", desc := "()V" } : Jvm.MethodName)) ∈ xT := xT_at 840 (by decide +kernel) (by decide +kernel)
theorem d_AbC_init_4 : decode M_AbC_init.2.1 4 = .ok (.return_, 1) := by decide +kernel
abbrev y_AbL_init : MethodName := ⟨"java/util/AbstractList", "<init>", "()V"⟩
abbrev M_AbL_init : XMt := (y_AbL_init, prog_32_method_1_code, 1, none)
theorem d_AbL_init_0 : decode M_AbL_init.2.1 0 = .ok (.aload_n 0, 1) := by decide +kernel
theorem d_AbL_init_1 : decode M_AbL_init.2.1 1 = .ok (.invokespecial 1, 3) := by decide +kernel
theorem xw_839 : (Jvm.Cond.code ({ cls := "java/util/AbstractCollection", name := "<init>", desc := "()V" } : Jvm.MethodName) prog_31_method_1_code (1 : Nat) (Option.none : Option Jvm.ClassFile.FieldType)) ∈ xT := xT_at 839 (by decide +kernel) (by decide +kernel)
theorem xw_24 : (Jvm.Cond.initialized "java/util/AbstractCollection") ∈ xT := xT_at 24 (by decide +kernel) (by decide +kernel)
theorem xcb_AbC_init : xcb M_AbC_init 0 := ⟨xw_839, xw_24, by decide, by decide, by decide, by decide +kernel⟩
theorem xw_837 : (Jvm.Cond.methodLink "java/util/AbstractList" (1 : Nat) ({ cls := "java/util/AbstractCollection", name := "<init>", desc := "()V" } : Jvm.MethodName)) ∈ xT := xT_at 837 (by decide +kernel) (by decide +kernel)
theorem xw_838 : (Jvm.Cond.instanceMethod ({ cls := "java/util/AbstractCollection", name := "<init>", desc := "()V" } : Jvm.MethodName)) ∈ xT := xT_at 838 (by decide +kernel) (by decide +kernel)
theorem xci_AbL_1 : xCI "java/util/AbstractList" 1 M_AbC_init 0 := ⟨xcb_AbC_init, rfl, rfl, xw_838, Or.inl xw_837⟩
theorem d_AbL_init_4 : decode M_AbL_init.2.1 4 = .ok (.aload_n 0, 1) := by decide +kernel
theorem d_AbL_init_5 : decode M_AbL_init.2.1 5 = .ok (.iconst 0, 1) := by decide +kernel
theorem d_AbL_init_6 : decode M_AbL_init.2.1 6 = .ok (.putfield 7, 3) := by decide +kernel
theorem xw_845 : (Jvm.Cond.fieldLink "java/util/AbstractList" (7 : Nat) "java/util/AbstractList" "modCount" "I") ∈ xT := xT_at 845 (by decide +kernel) (by decide +kernel)
theorem xf_AbL_7_AL : xF "java/util/AbstractList" 7 k_ArrayList 2 := ⟨_, _, _, "java/util/AbstractList", rfl, by decide, Or.inl xw_845, Or.inl rfl⟩
theorem xp_AL_2 : xP k_ArrayList 2 false .int := ⟨_, _, _, rfl, rfl, by decide +kernel⟩
theorem d_AbL_init_9 : decode M_AbL_init.2.1 9 = .ok (.return_, 1) := by decide +kernel
abbrev y_AL_init : MethodName := ⟨"java/util/ArrayList", "<init>", "()V"⟩
abbrev M_AL_init : XMt := (y_AL_init, prog_33_method_2_code, 1, none)
theorem d_AL_init_0 : decode M_AL_init.2.1 0 = .ok (.aload_n 0, 1) := by decide +kernel
theorem d_AL_init_1 : decode M_AL_init.2.1 1 = .ok (.invokespecial 1, 3) := by decide +kernel
theorem xw_836 : (Jvm.Cond.code ({ cls := "java/util/AbstractList", name := "<init>", desc := "()V" } : Jvm.MethodName) prog_32_method_1_code (1 : Nat) (Option.none : Option Jvm.ClassFile.FieldType)) ∈ xT := xT_at 836 (by decide +kernel) (by decide +kernel)
theorem xw_25 : (Jvm.Cond.initialized "java/util/AbstractList") ∈ xT := xT_at 25 (by decide +kernel) (by decide +kernel)
theorem xcb_AbL_init : xcb M_AbL_init 0 := ⟨xw_836, xw_25, by decide, by decide, by decide, by decide +kernel⟩
theorem xw_834 : (Jvm.Cond.methodLink "java/util/ArrayList" (1 : Nat) ({ cls := "java/util/AbstractList", name := "<init>", desc := "()V" } : Jvm.MethodName)) ∈ xT := xT_at 834 (by decide +kernel) (by decide +kernel)
theorem xw_835 : (Jvm.Cond.instanceMethod ({ cls := "java/util/AbstractList", name := "<init>", desc := "()V" } : Jvm.MethodName)) ∈ xT := xT_at 835 (by decide +kernel) (by decide +kernel)
theorem xci_AL_1 : xCI "java/util/ArrayList" 1 M_AbL_init 0 := ⟨xcb_AbL_init, rfl, rfl, xw_835, Or.inl xw_834⟩
theorem d_AL_init_4 : decode M_AL_init.2.1 4 = .ok (.aload_n 0, 1) := by decide +kernel
theorem d_AL_init_5 : decode M_AL_init.2.1 5 = .ok (.getstatic 39, 3) := by decide +kernel
theorem xw_841 : (Jvm.Cond.fieldLink "java/util/ArrayList" (39 : Nat) "java/util/ArrayList" "DEFAULTCAPACITY_EMPTY_ELEMENTDATA" "[Ljava/lang/Object;") ∈ xT := xT_at 841 (by decide +kernel) (by decide +kernel)
theorem d_AL_init_8 : decode M_AL_init.2.1 8 = .ok (.putfield 9, 3) := by decide +kernel
theorem xw_843 : (Jvm.Cond.fieldLink "java/util/ArrayList" (9 : Nat) "java/util/ArrayList" "elementData" "[Ljava/lang/Object;") ∈ xT := xT_at 843 (by decide +kernel) (by decide +kernel)
theorem xf_AL_9_AL : xF "java/util/ArrayList" 9 k_ArrayList 0 := ⟨_, _, _, "java/util/ArrayList", rfl, by decide, Or.inl xw_843, Or.inl rfl⟩
theorem xp_AL_0 : xP k_ArrayList 0 false (.array (.object "java/lang/Object")) := ⟨_, _, _, rfl, rfl, by decide +kernel⟩
theorem d_AL_init_11 : decode M_AL_init.2.1 11 = .ok (.return_, 1) := by decide +kernel
abbrev y_AL_size : MethodName := ⟨"java/util/ArrayList", "size", "()I"⟩
abbrev M_AL_size : XMt := (y_AL_size, prog_33_method_8_code, 1, (some .int))
theorem d_AL_size_0 : decode M_AL_size.2.1 0 = .ok (.aload_n 0, 1) := by decide +kernel
theorem d_AL_size_1 : decode M_AL_size.2.1 1 = .ok (.getfield 48, 3) := by decide +kernel
theorem xw_844 : (Jvm.Cond.fieldLink "java/util/ArrayList" (48 : Nat) "java/util/ArrayList" "size" "I") ∈ xT := xT_at 844 (by decide +kernel) (by decide +kernel)
theorem xf_AL_48_AL : xF "java/util/ArrayList" 48 k_ArrayList 1 := ⟨_, _, _, "java/util/ArrayList", rfl, by decide, Or.inl xw_844, Or.inl rfl⟩
theorem d_AL_size_4 : decode M_AL_size.2.1 4 = .ok (.ireturn, 1) := by decide +kernel
abbrev y_Objects_checkIndex : MethodName := ⟨"java/util/Objects", "checkIndex", "(II)I"⟩
abbrev M_Objects_checkIndex : XMt := (y_Objects_checkIndex, prog_37_method_17_code, 2, (some .int))
theorem d_Objects_checkIndex_0 : decode M_Objects_checkIndex.2.1 0 = .ok (.iload_n 0, 1) := by decide +kernel
theorem d_Objects_checkIndex_1 : decode M_Objects_checkIndex.2.1 1 = .ok (.iload_n 1, 1) := by decide +kernel
theorem d_Objects_checkIndex_2 : decode M_Objects_checkIndex.2.1 2 = .ok (.aconst_null, 1) := by decide +kernel
theorem d_Objects_checkIndex_3 : decode M_Objects_checkIndex.2.1 3 = .ok (.invokestatic 105, 3) := by decide +kernel
theorem xw_333 : (Jvm.Cond.methodLink "java/util/Objects" (105 : Nat) ({ cls := "jdk/internal/util/Preconditions", name := "checkIndex", desc := "(IILjava/util/function/BiFunction;)I" } : Jvm.MethodName)) ∈ xT := xT_at 333 (by decide +kernel) (by decide +kernel)
theorem xcs_Objects_105 : xCS "java/util/Objects" 105 M_Preconditions_checkIndex 3 := ⟨xcb_Preconditions_checkIndex, xw_272, Or.inl xw_333⟩
theorem d_Objects_checkIndex_6 : decode M_Objects_checkIndex.2.1 6 = .ok (.ireturn, 1) := by decide +kernel
abbrev y_AL_elementData : MethodName := ⟨"java/util/ArrayList", "elementData", "(I)Ljava/lang/Object;"⟩
abbrev M_AL_elementData : XMt := (y_AL_elementData, prog_33_method_18_code, 2, (some (.object "java/lang/Object")))
theorem d_AL_elementData_0 : decode M_AL_elementData.2.1 0 = .ok (.aload_n 0, 1) := by decide +kernel
theorem d_AL_elementData_1 : decode M_AL_elementData.2.1 1 = .ok (.getfield 9, 3) := by decide +kernel
theorem d_AL_elementData_4 : decode M_AL_elementData.2.1 4 = .ok (.iload_n 1, 1) := by decide +kernel
theorem d_AL_elementData_5 : decode M_AL_elementData.2.1 5 = .ok (.aaload, 1) := by decide +kernel
theorem d_AL_elementData_6 : decode M_AL_elementData.2.1 6 = .ok (.areturn, 1) := by decide +kernel
abbrev y_AL_get : MethodName := ⟨"java/util/ArrayList", "get", "(I)Ljava/lang/Object;"⟩
abbrev M_AL_get : XMt := (y_AL_get, prog_33_method_20_code, 2, (some (.object "java/lang/Object")))
theorem d_AL_get_0 : decode M_AL_get.2.1 0 = .ok (.iload_n 1, 1) := by decide +kernel
theorem d_AL_get_1 : decode M_AL_get.2.1 1 = .ok (.aload_n 0, 1) := by decide +kernel
theorem d_AL_get_2 : decode M_AL_get.2.1 2 = .ok (.getfield 48, 3) := by decide +kernel
theorem d_AL_get_5 : decode M_AL_get.2.1 5 = .ok (.invokestatic 118, 3) := by decide +kernel
theorem xw_332 : (Jvm.Cond.code ({ cls := "java/util/Objects", name := "checkIndex", desc := "(II)I" } : Jvm.MethodName) prog_37_method_17_code (2 : Nat) (Option.some Jvm.ClassFile.FieldType.int)) ∈ xT := xT_at 332 (by decide +kernel) (by decide +kernel)
theorem xw_33 : (Jvm.Cond.initialized "java/util/Objects") ∈ xT := xT_at 33 (by decide +kernel) (by decide +kernel)
theorem xcb_Objects_checkIndex : xcb M_Objects_checkIndex 2 := ⟨xw_332, xw_33, by decide, by decide, by decide, by decide +kernel⟩
theorem xw_330 : (Jvm.Cond.methodLink "java/util/ArrayList" (118 : Nat) ({ cls := "java/util/Objects", name := "checkIndex", desc := "(II)I" } : Jvm.MethodName)) ∈ xT := xT_at 330 (by decide +kernel) (by decide +kernel)
theorem xw_331 : (Jvm.Cond.static ({ cls := "java/util/Objects", name := "checkIndex", desc := "(II)I" } : Jvm.MethodName)) ∈ xT := xT_at 331 (by decide +kernel) (by decide +kernel)
theorem xcs_AL_118 : xCS "java/util/ArrayList" 118 M_Objects_checkIndex 2 := ⟨xcb_Objects_checkIndex, xw_331, Or.inl xw_330⟩
theorem d_AL_get_8 : decode M_AL_get.2.1 8 = .ok (.pop, 1) := by decide +kernel
theorem d_AL_get_9 : decode M_AL_get.2.1 9 = .ok (.aload_n 0, 1) := by decide +kernel
theorem d_AL_get_10 : decode M_AL_get.2.1 10 = .ok (.iload_n 1, 1) := by decide +kernel
theorem d_AL_get_11 : decode M_AL_get.2.1 11 = .ok (.invokevirtual 123, 3) := by decide +kernel
theorem xw_337 : (Jvm.Cond.code ({ cls := "java/util/ArrayList", name := "elementData", desc := "(I)Ljava/lang/Object;" } : Jvm.MethodName) prog_33_method_18_code (2 : Nat) (Option.some (Jvm.ClassFile.FieldType.object "java/lang/Object"))) ∈ xT := xT_at 337 (by decide +kernel) (by decide +kernel)
theorem xw_26 : (Jvm.Cond.initialized "java/util/ArrayList") ∈ xT := xT_at 26 (by decide +kernel) (by decide +kernel)
theorem xcb_AL_elementData : xcb M_AL_elementData 1 := ⟨xw_337, xw_26, by decide, by decide, by decide, by decide +kernel⟩
theorem xw_335 : (Jvm.Cond.instanceMethod ({ cls := "java/util/ArrayList", name := "elementData", desc := "(I)Ljava/lang/Object;" } : Jvm.MethodName)) ∈ xT := xT_at 335 (by decide +kernel) (by decide +kernel)
theorem xw_334 : (Jvm.Cond.methodLink "java/util/ArrayList" (123 : Nat) ({ cls := "java/util/ArrayList", name := "elementData", desc := "(I)Ljava/lang/Object;" } : Jvm.MethodName)) ∈ xT := xT_at 334 (by decide +kernel) (by decide +kernel)
theorem xw_336 : (Jvm.Cond.selects "java/util/ArrayList" ({ cls := "java/util/ArrayList", name := "elementData", desc := "(I)Ljava/lang/Object;" } : Jvm.MethodName) ({ cls := "java/util/ArrayList", name := "elementData", desc := "(I)Ljava/lang/Object;" } : Jvm.MethodName)) ∈ xT := xT_at 336 (by decide +kernel) (by decide +kernel)
theorem xcv_AL_123_AL : xCV "java/util/ArrayList" 123 "java/util/ArrayList" M_AL_elementData 1 := ⟨xcb_AL_elementData, xw_335, Or.inl ⟨xw_334, Or.inl xw_336⟩⟩
theorem d_AL_get_14 : decode M_AL_get.2.1 14 = .ok (.areturn, 1) := by decide +kernel
abbrev y_Arrays_copyOf_aObjectIClass : MethodName := ⟨"java/util/Arrays", "copyOf", "([Ljava/lang/Object;ILjava/lang/Class;)[Ljava/lang/Object;"⟩
abbrev M_Arrays_copyOf_aObjectIClass : XMt := (y_Arrays_copyOf_aObjectIClass, prog_34_method_120_code, 4, (some (.array (.object "java/lang/Object"))))
theorem d_Arrays_copyOf_aObjectIClass_0 : decode M_Arrays_copyOf_aObjectIClass.2.1 0 = .ok (.aload_n 2, 1) := by decide +kernel
theorem d_Arrays_copyOf_aObjectIClass_1 : decode M_Arrays_copyOf_aObjectIClass.2.1 1 = .ok (.ldc 110, 2) := by decide +kernel
theorem xw_1078 : (Jvm.Cond.classLink "java/util/Arrays" (110 : Nat) "[Ljava/lang/Object;") ∈ xT := xT_at 1078 (by decide +kernel) (by decide +kernel)
theorem d_Arrays_copyOf_aObjectIClass_3 : decode M_Arrays_copyOf_aObjectIClass.2.1 3 = .ok (.if_acmp .ne 10, 3) := by decide +kernel
theorem d_Arrays_copyOf_aObjectIClass_6 : decode M_Arrays_copyOf_aObjectIClass.2.1 6 = .ok (.iload_n 1, 1) := by decide +kernel
theorem d_Arrays_copyOf_aObjectIClass_7 : decode M_Arrays_copyOf_aObjectIClass.2.1 7 = .ok (.anewarray 2, 3) := by decide +kernel
theorem xw_1080 : (Jvm.Cond.classLink "java/util/Arrays" (2 : Nat) "java/lang/Object") ∈ xT := xT_at 1080 (by decide +kernel) (by decide +kernel)
theorem xw_1079 : (Jvm.Cond.arrayOver (Jvm.ClassFile.FieldType.object "java/lang/Object")) ∈ xT := xT_at 1079 (by decide +kernel) (by decide +kernel)
theorem d_Arrays_copyOf_aObjectIClass_10 : decode M_Arrays_copyOf_aObjectIClass.2.1 10 = .ok (.goto 14, 3) := by decide +kernel
theorem d_Arrays_copyOf_aObjectIClass_24 : decode M_Arrays_copyOf_aObjectIClass.2.1 24 = .ok (.astore_n 3, 1) := by decide +kernel
theorem d_Arrays_copyOf_aObjectIClass_25 : decode M_Arrays_copyOf_aObjectIClass.2.1 25 = .ok (.aload_n 0, 1) := by decide +kernel
theorem d_Arrays_copyOf_aObjectIClass_26 : decode M_Arrays_copyOf_aObjectIClass.2.1 26 = .ok (.iconst 0, 1) := by decide +kernel
theorem d_Arrays_copyOf_aObjectIClass_27 : decode M_Arrays_copyOf_aObjectIClass.2.1 27 = .ok (.aload_n 3, 1) := by decide +kernel
theorem d_Arrays_copyOf_aObjectIClass_28 : decode M_Arrays_copyOf_aObjectIClass.2.1 28 = .ok (.iconst 0, 1) := by decide +kernel
theorem d_Arrays_copyOf_aObjectIClass_29 : decode M_Arrays_copyOf_aObjectIClass.2.1 29 = .ok (.aload_n 0, 1) := by decide +kernel
theorem d_Arrays_copyOf_aObjectIClass_30 : decode M_Arrays_copyOf_aObjectIClass.2.1 30 = .ok (.arraylength, 1) := by decide +kernel
theorem d_Arrays_copyOf_aObjectIClass_31 : decode M_Arrays_copyOf_aObjectIClass.2.1 31 = .ok (.iload_n 1, 1) := by decide +kernel
theorem d_Arrays_copyOf_aObjectIClass_32 : decode M_Arrays_copyOf_aObjectIClass.2.1 32 = .ok (.invokestatic 304, 3) := by decide +kernel
theorem d_Arrays_copyOf_aObjectIClass_35 : decode M_Arrays_copyOf_aObjectIClass.2.1 35 = .ok (.invokestatic 150, 3) := by decide +kernel
theorem d_Arrays_copyOf_aObjectIClass_38 : decode M_Arrays_copyOf_aObjectIClass.2.1 38 = .ok (.aload_n 3, 1) := by decide +kernel
theorem d_Arrays_copyOf_aObjectIClass_39 : decode M_Arrays_copyOf_aObjectIClass.2.1 39 = .ok (.areturn, 1) := by decide +kernel
abbrev y_Arrays_copyOf_aObjectI : MethodName := ⟨"java/util/Arrays", "copyOf", "([Ljava/lang/Object;I)[Ljava/lang/Object;"⟩
abbrev M_Arrays_copyOf_aObjectI : XMt := (y_Arrays_copyOf_aObjectI, prog_34_method_119_code, 2, (some (.array (.object "java/lang/Object"))))
theorem d_Arrays_copyOf_aObjectI_0 : decode M_Arrays_copyOf_aObjectI.2.1 0 = .ok (.aload_n 0, 1) := by decide +kernel
theorem d_Arrays_copyOf_aObjectI_1 : decode M_Arrays_copyOf_aObjectI.2.1 1 = .ok (.iload_n 1, 1) := by decide +kernel
theorem d_Arrays_copyOf_aObjectI_2 : decode M_Arrays_copyOf_aObjectI.2.1 2 = .ok (.aload_n 0, 1) := by decide +kernel
theorem d_Arrays_copyOf_aObjectI_3 : decode M_Arrays_copyOf_aObjectI.2.1 3 = .ok (.invokevirtual 86, 3) := by decide +kernel
theorem xw_1055 : (Jvm.Cond.methodLink "java/util/Arrays" (86 : Nat) ({ cls := "java/lang/Object", name := "getClass", desc := "()Ljava/lang/Class;" } : Jvm.MethodName)) ∈ xT := xT_at 1055 (by decide +kernel) (by decide +kernel)
theorem xw_1617 : (Jvm.Cond.declares ({ cls := "java/lang/Object", name := "getClass", desc := "()Ljava/lang/Class;" } : Jvm.MethodName)) ∈ xT := xT_at 1617 (by decide +kernel) (by decide +kernel)
theorem xw_1616 : (Jvm.Cond.selects "[Ljava/lang/Object;" ({ cls := "java/lang/Object", name := "getClass", desc := "()Ljava/lang/Class;" } : Jvm.MethodName) ({ cls := "java/lang/Object", name := "getClass", desc := "()Ljava/lang/Class;" } : Jvm.MethodName)) ∈ xT := xT_at 1616 (by decide +kernel) (by decide +kernel)
theorem xw_1056 : (Jvm.Cond.instanceMethod ({ cls := "java/lang/Object", name := "getClass", desc := "()Ljava/lang/Class;" } : Jvm.MethodName)) ∈ xT := xT_at 1056 (by decide +kernel) (by decide +kernel)
theorem xw_1074 : (Jvm.Cond.native ({ cls := "java/lang/Object", name := "getClass", desc := "()Ljava/lang/Class;" } : Jvm.MethodName)) ∈ xT := xT_at 1074 (by decide +kernel) (by decide +kernel)
theorem d_Arrays_copyOf_aObjectI_6 : decode M_Arrays_copyOf_aObjectI.2.1 6 = .ok (.invokestatic 300, 3) := by decide +kernel
theorem xw_1077 : (Jvm.Cond.code ({ cls := "java/util/Arrays", name := "copyOf", desc := "([Ljava/lang/Object;ILjava/lang/Class;)[Ljava/lang/Object;" } : Jvm.MethodName) prog_34_method_120_code (4 : Nat) (Option.some (Jvm.ClassFile.FieldType.array (Jvm.ClassFile.FieldType.object "java/lang/Object")))) ∈ xT := xT_at 1077 (by decide +kernel) (by decide +kernel)
theorem xcb_Arrays_copyOf_aObjectIClass : xcb M_Arrays_copyOf_aObjectIClass 3 := ⟨xw_1077, xw_11, by decide, by decide, by decide, by decide +kernel⟩
theorem xw_1075 : (Jvm.Cond.methodLink "java/util/Arrays" (300 : Nat) ({ cls := "java/util/Arrays", name := "copyOf", desc := "([Ljava/lang/Object;ILjava/lang/Class;)[Ljava/lang/Object;" } : Jvm.MethodName)) ∈ xT := xT_at 1075 (by decide +kernel) (by decide +kernel)
theorem xw_1076 : (Jvm.Cond.static ({ cls := "java/util/Arrays", name := "copyOf", desc := "([Ljava/lang/Object;ILjava/lang/Class;)[Ljava/lang/Object;" } : Jvm.MethodName)) ∈ xT := xT_at 1076 (by decide +kernel) (by decide +kernel)
theorem xcs_Arrays_300 : xCS "java/util/Arrays" 300 M_Arrays_copyOf_aObjectIClass 3 := ⟨xcb_Arrays_copyOf_aObjectIClass, xw_1076, Or.inl xw_1075⟩
theorem d_Arrays_copyOf_aObjectI_9 : decode M_Arrays_copyOf_aObjectI.2.1 9 = .ok (.areturn, 1) := by decide +kernel
abbrev y_AL_grow_I : MethodName := ⟨"java/util/ArrayList", "grow", "(I)[Ljava/lang/Object;"⟩
abbrev M_AL_grow_I : XMt := (y_AL_grow_I, prog_33_method_6_code, 4, (some (.array (.object "java/lang/Object"))))
theorem d_AL_grow_I_0 : decode M_AL_grow_I.2.1 0 = .ok (.aload_n 0, 1) := by decide +kernel
theorem d_AL_grow_I_1 : decode M_AL_grow_I.2.1 1 = .ok (.getfield 9, 3) := by decide +kernel
theorem d_AL_grow_I_4 : decode M_AL_grow_I.2.1 4 = .ok (.arraylength, 1) := by decide +kernel
theorem d_AL_grow_I_5 : decode M_AL_grow_I.2.1 5 = .ok (.istore_n 2, 1) := by decide +kernel
theorem d_AL_grow_I_6 : decode M_AL_grow_I.2.1 6 = .ok (.iload_n 2, 1) := by decide +kernel
theorem d_AL_grow_I_7 : decode M_AL_grow_I.2.1 7 = .ok (.ifCond .gt 13, 3) := by decide +kernel
theorem d_AL_grow_I_10 : decode M_AL_grow_I.2.1 10 = .ok (.aload_n 0, 1) := by decide +kernel
theorem d_AL_grow_I_11 : decode M_AL_grow_I.2.1 11 = .ok (.getfield 9, 3) := by decide +kernel
theorem d_AL_grow_I_14 : decode M_AL_grow_I.2.1 14 = .ok (.getstatic 39, 3) := by decide +kernel
theorem d_AL_grow_I_17 : decode M_AL_grow_I.2.1 17 = .ok (.if_acmp .eq 28, 3) := by decide +kernel
theorem d_AL_grow_I_45 : decode M_AL_grow_I.2.1 45 = .ok (.aload_n 0, 1) := by decide +kernel
theorem d_AL_grow_I_46 : decode M_AL_grow_I.2.1 46 = .ok (.bipush 10, 2) := by decide +kernel
theorem d_AL_grow_I_48 : decode M_AL_grow_I.2.1 48 = .ok (.iload_n 1, 1) := by decide +kernel
theorem d_AL_grow_I_49 : decode M_AL_grow_I.2.1 49 = .ok (.invokestatic 79, 3) := by decide +kernel
theorem xw_1081 : (Jvm.Cond.methodLink "java/util/ArrayList" (79 : Nat) ({ cls := "java/lang/Math", name := "max", desc := "(II)I" } : Jvm.MethodName)) ∈ xT := xT_at 1081 (by decide +kernel) (by decide +kernel)
theorem d_AL_grow_I_52 : decode M_AL_grow_I.2.1 52 = .ok (.anewarray 7, 3) := by decide +kernel
theorem xw_1082 : (Jvm.Cond.classLink "java/util/ArrayList" (7 : Nat) "java/lang/Object") ∈ xT := xT_at 1082 (by decide +kernel) (by decide +kernel)
theorem d_AL_grow_I_55 : decode M_AL_grow_I.2.1 55 = .ok (.dup_x1, 1) := by decide +kernel
theorem d_AL_grow_I_56 : decode M_AL_grow_I.2.1 56 = .ok (.putfield 9, 3) := by decide +kernel
theorem d_AL_grow_I_59 : decode M_AL_grow_I.2.1 59 = .ok (.areturn, 1) := by decide +kernel
theorem d_AL_grow_I_20 : decode M_AL_grow_I.2.1 20 = .ok (.iload_n 2, 1) := by decide +kernel
theorem d_AL_grow_I_21 : decode M_AL_grow_I.2.1 21 = .ok (.iload_n 1, 1) := by decide +kernel
theorem d_AL_grow_I_22 : decode M_AL_grow_I.2.1 22 = .ok (.iload_n 2, 1) := by decide +kernel
theorem d_AL_grow_I_23 : decode M_AL_grow_I.2.1 23 = .ok (.isub, 1) := by decide +kernel
theorem d_AL_grow_I_24 : decode M_AL_grow_I.2.1 24 = .ok (.iload_n 2, 1) := by decide +kernel
theorem d_AL_grow_I_25 : decode M_AL_grow_I.2.1 25 = .ok (.iconst 1, 1) := by decide +kernel
theorem d_AL_grow_I_26 : decode M_AL_grow_I.2.1 26 = .ok (.ishr, 1) := by decide +kernel
theorem d_AL_grow_I_27 : decode M_AL_grow_I.2.1 27 = .ok (.invokestatic 73, 3) := by decide +kernel
theorem xw_1051 : (Jvm.Cond.methodLink "java/util/ArrayList" (73 : Nat) ({ cls := "jdk/internal/util/ArraysSupport", name := "newLength", desc := "(III)I" } : Jvm.MethodName)) ∈ xT := xT_at 1051 (by decide +kernel) (by decide +kernel)
theorem xcs_AL_73 : xCS "java/util/ArrayList" 73 M_ArraysSupport_newLength 3 := ⟨xcb_ArraysSupport_newLength, xw_195, Or.inl xw_1051⟩
theorem d_AL_grow_I_30 : decode M_AL_grow_I.2.1 30 = .ok (.istore_n 3, 1) := by decide +kernel
theorem d_AL_grow_I_31 : decode M_AL_grow_I.2.1 31 = .ok (.aload_n 0, 1) := by decide +kernel
theorem d_AL_grow_I_32 : decode M_AL_grow_I.2.1 32 = .ok (.aload_n 0, 1) := by decide +kernel
theorem d_AL_grow_I_33 : decode M_AL_grow_I.2.1 33 = .ok (.getfield 9, 3) := by decide +kernel
theorem d_AL_grow_I_36 : decode M_AL_grow_I.2.1 36 = .ok (.iload_n 3, 1) := by decide +kernel
theorem d_AL_grow_I_37 : decode M_AL_grow_I.2.1 37 = .ok (.invokestatic 66, 3) := by decide +kernel
theorem xw_1054 : (Jvm.Cond.code ({ cls := "java/util/Arrays", name := "copyOf", desc := "([Ljava/lang/Object;I)[Ljava/lang/Object;" } : Jvm.MethodName) prog_34_method_119_code (2 : Nat) (Option.some (Jvm.ClassFile.FieldType.array (Jvm.ClassFile.FieldType.object "java/lang/Object")))) ∈ xT := xT_at 1054 (by decide +kernel) (by decide +kernel)
theorem xcb_Arrays_copyOf_aObjectI : xcb M_Arrays_copyOf_aObjectI 2 := ⟨xw_1054, xw_11, by decide, by decide, by decide, by decide +kernel⟩
theorem xw_1052 : (Jvm.Cond.methodLink "java/util/ArrayList" (66 : Nat) ({ cls := "java/util/Arrays", name := "copyOf", desc := "([Ljava/lang/Object;I)[Ljava/lang/Object;" } : Jvm.MethodName)) ∈ xT := xT_at 1052 (by decide +kernel) (by decide +kernel)
theorem xw_1053 : (Jvm.Cond.static ({ cls := "java/util/Arrays", name := "copyOf", desc := "([Ljava/lang/Object;I)[Ljava/lang/Object;" } : Jvm.MethodName)) ∈ xT := xT_at 1053 (by decide +kernel) (by decide +kernel)
theorem xcs_AL_66 : xCS "java/util/ArrayList" 66 M_Arrays_copyOf_aObjectI 2 := ⟨xcb_Arrays_copyOf_aObjectI, xw_1053, Or.inl xw_1052⟩
theorem d_AL_grow_I_40 : decode M_AL_grow_I.2.1 40 = .ok (.dup_x1, 1) := by decide +kernel
theorem d_AL_grow_I_41 : decode M_AL_grow_I.2.1 41 = .ok (.putfield 9, 3) := by decide +kernel
theorem d_AL_grow_I_44 : decode M_AL_grow_I.2.1 44 = .ok (.areturn, 1) := by decide +kernel
abbrev y_AL_grow_ : MethodName := ⟨"java/util/ArrayList", "grow", "()[Ljava/lang/Object;"⟩
abbrev M_AL_grow_ : XMt := (y_AL_grow_, prog_33_method_7_code, 1, (some (.array (.object "java/lang/Object"))))
theorem d_AL_grow__0 : decode M_AL_grow_.2.1 0 = .ok (.aload_n 0, 1) := by decide +kernel
theorem d_AL_grow__1 : decode M_AL_grow_.2.1 1 = .ok (.aload_n 0, 1) := by decide +kernel
theorem d_AL_grow__2 : decode M_AL_grow_.2.1 2 = .ok (.getfield 48, 3) := by decide +kernel
theorem d_AL_grow__5 : decode M_AL_grow_.2.1 5 = .ok (.iconst 1, 1) := by decide +kernel
theorem d_AL_grow__6 : decode M_AL_grow_.2.1 6 = .ok (.iadd, 1) := by decide +kernel
theorem d_AL_grow__7 : decode M_AL_grow_.2.1 7 = .ok (.invokevirtual 69, 3) := by decide +kernel
theorem xw_1050 : (Jvm.Cond.code ({ cls := "java/util/ArrayList", name := "grow", desc := "(I)[Ljava/lang/Object;" } : Jvm.MethodName) prog_33_method_6_code (4 : Nat) (Option.some (Jvm.ClassFile.FieldType.array (Jvm.ClassFile.FieldType.object "java/lang/Object")))) ∈ xT := xT_at 1050 (by decide +kernel) (by decide +kernel)
theorem xcb_AL_grow_I : xcb M_AL_grow_I 1 := ⟨xw_1050, xw_26, by decide, by decide, by decide, by decide +kernel⟩
theorem xw_1049 : (Jvm.Cond.instanceMethod ({ cls := "java/util/ArrayList", name := "grow", desc := "(I)[Ljava/lang/Object;" } : Jvm.MethodName)) ∈ xT := xT_at 1049 (by decide +kernel) (by decide +kernel)
theorem xw_1047 : (Jvm.Cond.methodLink "java/util/ArrayList" (69 : Nat) ({ cls := "java/util/ArrayList", name := "grow", desc := "(I)[Ljava/lang/Object;" } : Jvm.MethodName)) ∈ xT := xT_at 1047 (by decide +kernel) (by decide +kernel)
theorem xsel_AL_grow_I : Cond.selects "java/util/ArrayList" y_AL_grow_I y_AL_grow_I ∈ xT := xT_sel (q := (y_AL_grow_I, 3)) (by decide +kernel) (by decide +kernel)
theorem xcv_AL_69_AL : xCV "java/util/ArrayList" 69 "java/util/ArrayList" M_AL_grow_I 1 := ⟨xcb_AL_grow_I, xw_1049, Or.inl ⟨xw_1047, Or.inl xsel_AL_grow_I⟩⟩
theorem d_AL_grow__10 : decode M_AL_grow_.2.1 10 = .ok (.areturn, 1) := by decide +kernel
end
section ALS
variable {l : Launch} {G : XG} {h : XH} {c n d : Nat}
theorem c_AbC_init (hd : 1 ≤ d) {a : Nat} : XM l G d M_AbC_init [.ref a] h c n (xVoid h c n) := by
  obtain ⟨d, rfl⟩ : ∃ q, d = q + 1 := ⟨d - 1, by omega⟩
  refine XM.of (by decide +kernel) (Nat.le_of_ble_eq_true rfl) ?_
  refine x_aload_n d_AbC_init_0 rfl rfl ?_
  refine x_objInit xw_840 xw_40 xw_41 (Nat.le_of_ble_eq_true rfl) d_AbC_init_1 ?_
  refine x_vret d_AbC_init_4 rfl ?_
  exact ⟨rfl, rfl, rfl, rfl⟩
theorem c_AbL_init (hd : 2 ≤ d) {a : Nat} {x y z : Value} (ha : h a = some (k_ArrayList, [x, y, z])) : XM l G d M_AbL_init [.ref a] h c n (fun v h' c' n' => v = none ∧ h' = xup h a (k_ArrayList, [x, y, .int 0]) ∧ c' = c ∧ n' = n) := by
  obtain ⟨d, rfl⟩ : ∃ q, d = q + 1 := ⟨d - 1, by omega⟩
  refine XM.of (by decide +kernel) (Nat.le_of_ble_eq_true rfl) ?_
  refine x_aload_n d_AbL_init_0 rfl rfl ?_
  refine x_callI (As := []) xci_AbL_1 (c_AbC_init (by omega)) rfl rfl (Nat.le_of_ble_eq_true rfl) d_AbL_init_1 ?_
  rintro v h' c' n' ⟨rfl, rfl, rfl, rfl⟩
  refine x_aload_n d_AbL_init_4 rfl rfl ?_
  refine x_iconst (v := 0) d_AbL_init_5 (by decide) ?_
  refine x_put xf_AbL_7_AL xp_AL_2 rfl rfl ha rfl rfl d_AbL_init_6 ?_
  refine x_vret d_AbL_init_9 rfl ?_
  exact ⟨rfl, rfl, rfl, rfl⟩
/-- A LIST of objects of one kind: at a, its array ea, the objects' places es -/
def isL (G : XG) (h : XH) (a ea : Nat) (es : List Nat) : Prop := ∃ (mc : Int32), h a = some (k_ArrayList, [.ref ea, .int (nI es.length), .int mc]) ∧ ((es = [] ∧ ea = G.2.2.2.1 100) ∨ ∃ k, h ea = some (k_aObject, es.map (.ref ·) ++ List.replicate k .null) ∧ 10 ≤ es.length + k ∧ es.length + k ≤ 100)
theorem c_AL_init (hd : 3 ≤ d) {a : Nat} {z : Value} (ha : h a = some (k_ArrayList, [.null, .int 0, z])) : XM l G d M_AL_init [.ref a] h c n (fun v h' c' n' => v = none ∧ isL G h' a (G.2.2.2.1 100) [] ∧ xfr h h' [a] ∧ c' = c ∧ n' = n) := by
  obtain ⟨d, rfl⟩ : ∃ q, d = q + 1 := ⟨d - 1, by omega⟩
  refine XM.of (by decide +kernel) (Nat.le_of_ble_eq_true rfl) ?_
  refine x_aload_n d_AL_init_0 rfl rfl ?_
  refine x_callI (As := []) xci_AL_1 (c_AbL_init (by omega) ha) rfl rfl (Nat.le_of_ble_eq_true rfl) d_AL_init_1 ?_
  rintro v h' c' n' ⟨rfl, rfl, rfl, rfl⟩
  refine x_aload_n d_AL_init_4 rfl rfl ?_
  refine x_gets xw_841 (List.mem_of_getElem? (i := 4) rfl) d_AL_init_5 ?_
  refine x_put xf_AL_9_AL xp_AL_0 rfl rfl xup_self rfl rfl d_AL_init_8 ?_
  refine x_vret d_AL_init_11 rfl ?_
  exact ⟨rfl, ⟨0, xup_self, Or.inl ⟨rfl, rfl⟩⟩, (xfr.rf.up (Or.inl (by simp))).up (Or.inl (by simp)), rfl, rfl⟩
theorem c_AL_size {a ea : Nat} {es : List Nat} (hL : isL G h a ea es) : XM l G d M_AL_size [.ref a] h c n (xSame (.int (nI es.length)) h c n) := by
  obtain ⟨mc, ha, -⟩ := hL
  refine XM.of (by decide +kernel) (Nat.le_of_ble_eq_true rfl) ?_
  refine x_aload_n d_AL_size_0 rfl rfl ?_
  refine x_get xf_AL_48_AL (Or.inl ha) rfl d_AL_size_1 ?_
  refine x_iret d_AL_size_4 rfl ?_
  exact ⟨rfl, rfl, rfl, rfl⟩
theorem c_Objects_checkIndex (hd : 1 ≤ d) {i m : Nat} (hi : i < m) (hm : m < 2 ^ 31) : XM l G d M_Objects_checkIndex [.int (nI i), .int (nI m)] h c n (xSame (.int (nI i)) h c n) := by
  obtain ⟨d, rfl⟩ : ∃ q, d = q + 1 := ⟨d - 1, by omega⟩
  refine XM.of (by decide +kernel) (Nat.le_of_ble_eq_true rfl) ?_
  refine x_iload_n d_Objects_checkIndex_0 rfl ?_
  refine x_iload_n d_Objects_checkIndex_1 rfl ?_
  refine x_null d_Objects_checkIndex_2 ?_
  refine x_callS (As := [_, _, _]) xcs_Objects_105 (c_checkIndex rfl hi hm) rfl rfl (Nat.le_of_ble_eq_true rfl) d_Objects_checkIndex_3 ?_
  rintro v h' c' n' ⟨rfl, rfl, rfl, rfl⟩
  refine x_iret d_Objects_checkIndex_6 rfl ?_
  exact ⟨rfl, rfl, rfl, rfl⟩
theorem c_AL_get (hd : 2 ≤ d) {a ea i : Nat} {es : List Nat} (hL : isL G h a ea es) (hi : i < es.length) (hl : es.length < 2 ^ 30) : XM l G d M_AL_get [.ref a, .int (nI i)] h c n (xSame (.ref es[i]) h c n) := by
  obtain ⟨d, rfl⟩ : ∃ q, d = q + 1 := ⟨d - 1, by omega⟩
  obtain ⟨mc, ha, hr⟩ := hL
  obtain ⟨k, he, -⟩ : ∃ k, h ea = some (k_aObject, es.map (.ref ·) ++ List.replicate k .null) ∧ True := by
    rcases hr with ⟨q, -⟩ | ⟨k, q, -⟩
    · rw [q] at hi; cases hi
    · exact ⟨k, q, trivial⟩
  have hat : (es.map (Value.ref ·) ++ List.replicate k .null)[i]? = some (.ref es[i]) := by
    rw [List.getElem?_append_left (by simpa using hi), List.getElem?_map, List.getElem?_eq_getElem hi]
    rfl
  have hed : ∀ d, XM l G d M_AL_elementData [.ref a, .int (nI i)] h c n (xSame (.ref es[i]) h c n) := by
    intro d
    refine XM.of (by decide +kernel) (Nat.le_of_ble_eq_true rfl) ?_
    refine x_aload_n d_AL_elementData_0 rfl rfl ?_
    refine x_get xf_AL_9_AL (Or.inl ha) rfl d_AL_elementData_1 ?_
    refine x_iload_n d_AL_elementData_4 rfl ?_
    refine x_aald (k := k_aObject) rfl rfl (Or.inl he) (nI_pos (by omega)) (by rw [nI_clamp (by omega)]; exact hat) d_AL_elementData_5 ?_
    refine x_aret d_AL_elementData_6 rfl rfl ?_
    exact ⟨rfl, rfl, rfl, rfl⟩
  refine XM.of (by decide +kernel) (Nat.le_of_ble_eq_true rfl) ?_
  refine x_iload_n d_AL_get_0 rfl ?_
  refine x_aload_n d_AL_get_1 rfl rfl ?_
  refine x_get xf_AL_48_AL (Or.inl ha) rfl d_AL_get_2 ?_
  refine x_callS (As := [_, _]) xcs_AL_118 (c_Objects_checkIndex (by omega) hi (by omega)) rfl rfl (Nat.le_of_ble_eq_true rfl) d_AL_get_5 ?_
  rintro v h' c' n' ⟨rfl, rfl, rfl, rfl⟩
  refine x_pop d_AL_get_8 rfl ?_
  refine x_aload_n d_AL_get_9 rfl rfl ?_
  refine x_iload_n d_AL_get_10 rfl ?_
  refine x_callV (As := [_]) (k := k_ArrayList) rfl xcv_AL_123_AL (Or.inl ha) (hed _) rfl rfl (Nat.le_of_ble_eq_true rfl) d_AL_get_11 ?_
  rintro v h' c' n' ⟨rfl, rfl, rfl, rfl⟩
  refine x_aret d_AL_get_14 rfl rfl ?_
  exact ⟨rfl, rfl, rfl, rfl⟩
theorem c_copyOf_aOC (hd : 1 ≤ d) {a m : Nat} {vs : List Value} (ha : xr G h a k_aObject vs) (hel : ∀ v ∈ vs, xel G h "java/lang/Object" v) (hm : vs.length < m) (hb : m < 2 ^ 20) (hc : c + 1 ≤ xCB) (hn : n + m ≤ xSB) : XM l G d M_Arrays_copyOf_aObjectIClass [.ref a, .int (nI m), .ref (G.2.2.2.1 101)] h c n (xMade k_aObject (vs ++ List.replicate (m - vs.length) .null) h c n) := by
  obtain ⟨d, rfl⟩ : ∃ q, d = q + 1 := ⟨d - 1, by omega⟩
  have hel' : ∀ q, h q = none → ∀ e, ∀ v ∈ vs, xel G (xup h q e) "java/lang/Object" v := by
    intro q hq e v hv
    rcases hel v hv with z | ⟨a', k', N, vs', C, T, z1, z2, z3, z4⟩
    · exact Or.inl z
    · exact Or.inr ⟨a', k', N, vs', C, T, z1, xr_up z2 hq, z3, z4⟩
  refine XM.of (by decide +kernel) (Nat.le_of_ble_eq_true rfl) ?_
  refine x_aload_n d_Arrays_copyOf_aObjectIClass_0 rfl rfl ?_
  refine x_ldcM xw_1078 d_Arrays_copyOf_aObjectIClass_1 ?_
  refine x_acmp_ne (tgt := 13) rfl rfl d_Arrays_copyOf_aObjectIClass_3 (by decide) (fun ht => absurd rfl ht) (fun _ => ?_)
  refine x_iload_n d_Arrays_copyOf_aObjectIClass_6 rfl ?_
  refine x_anew (k := k_aObject) rfl xw_1080 xw_1079 (nI_pos (by omega)) (nI_clamp (by omega)) (by omega) hc hn d_Arrays_copyOf_aObjectIClass_7 (fun q hn_q hk_q => ?_)
  refine x_goto (tgt := 24) d_Arrays_copyOf_aObjectIClass_10 (by decide) ?_
  refine x_astore_n (L' := [_, _, _, _]) d_Arrays_copyOf_aObjectIClass_24 rfl rfl rfl ?_
  refine x_aload_n d_Arrays_copyOf_aObjectIClass_25 rfl rfl ?_
  refine x_iconst (v := 0) d_Arrays_copyOf_aObjectIClass_26 (by decide) ?_
  refine x_aload_n d_Arrays_copyOf_aObjectIClass_27 rfl rfl ?_
  refine x_iconst (v := 0) d_Arrays_copyOf_aObjectIClass_28 (by decide) ?_
  refine x_aload_n d_Arrays_copyOf_aObjectIClass_29 rfl rfl ?_
  refine x_alen (k := k_aObject) rfl (xr_up ha hn_q) (v := nI vs.length) rfl d_Arrays_copyOf_aObjectIClass_30 ?_
  refine x_iload_n d_Arrays_copyOf_aObjectIClass_31 rfl ?_
  refine x_mmin xw_215 xw_216 xw_10 xw_217 (Nat.le_of_ble_eq_true rfl) d_Arrays_copyOf_aObjectIClass_32 ?_
  refine x_top (w := .int (nI vs.length)) (by rw [nI_min (by omega) (by omega), Nat.min_eq_left (by omega)]) ?_
  refine x_copyR (k := k_aObject) rfl xw_218 xw_220 xw_219 xw_12 (xr_up ha hn_q) xup_self (by decide) (by decide) (nI_pos (by omega)) (by rw [nI_clamp (by omega)]; exact Nat.le_of_eq (by simp)) (by rw [nI_clamp (by omega)]; simp; omega) (hel' q hn_q _) (Nat.le_of_ble_eq_true rfl) d_Arrays_copyOf_aObjectIClass_35 ?_
  refine x_hp (h' := xup h q (k_aObject, vs ++ List.replicate (m - vs.length) .null)) (by rw [xup_up, nI_clamp (by omega), ← xcopy_grow (by omega)]; rfl) ?_
  refine x_aload_n d_Arrays_copyOf_aObjectIClass_38 rfl rfl ?_
  refine x_aret d_Arrays_copyOf_aObjectIClass_39 rfl rfl ?_
  exact ⟨q, rfl, hn_q, rfl, rfl, by simp; omega⟩
theorem c_copyOf_aO (hd : 2 ≤ d) {a m : Nat} {vs : List Value} (ha : xr G h a k_aObject vs) (hel : ∀ v ∈ vs, xel G h "java/lang/Object" v) (hm : vs.length < m) (hb : m < 2 ^ 20) (hc : c + 1 ≤ xCB) (hn : n + m ≤ xSB) : XM l G d M_Arrays_copyOf_aObjectI [.ref a, .int (nI m)] h c n (xMade k_aObject (vs ++ List.replicate (m - vs.length) .null) h c n) := by
  obtain ⟨d, rfl⟩ : ∃ q, d = q + 1 := ⟨d - 1, by omega⟩
  refine XM.of (by decide +kernel) (Nat.le_of_ble_eq_true rfl) ?_
  refine x_aload_n d_Arrays_copyOf_aObjectI_0 rfl rfl ?_
  refine x_iload_n d_Arrays_copyOf_aObjectI_1 rfl ?_
  refine x_aload_n d_Arrays_copyOf_aObjectI_2 rfl rfl ?_
  refine x_getC (k := k_aObject) rfl xw_1055 xw_1617 xw_1616 xw_1056 xw_1074 ha (Nat.le_of_ble_eq_true rfl) d_Arrays_copyOf_aObjectI_3 ?_
  refine x_callS (As := [_, _, _]) xcs_Arrays_300 (c_copyOf_aOC (by omega) ha hel hm hb hc hn) rfl rfl (Nat.le_of_ble_eq_true rfl) d_Arrays_copyOf_aObjectI_6 ?_
  rintro v h' c' n' ⟨q, rfl, hq, rfl, rfl, rfl⟩
  refine x_aret d_Arrays_copyOf_aObjectI_9 rfl rfl ?_
  exact ⟨q, rfl, hq, rfl, rfl, rfl⟩
/-- the growth of a full list -/
theorem c_AL_growI (hG : xGk G) (hd : 3 ≤ d) {a ea : Nat} {es : List Nat} {mc : Int32} (ha : h a = some (k_ArrayList, [.ref ea, .int (nI es.length), .int mc])) (he : (es = [] ∧ ea = G.2.2.2.1 100) ∨ (h ea = some (k_aObject, es.map (.ref ·)) ∧ 10 ≤ es.length ∧ es.length ≤ 60)) (hel : ∀ x ∈ es, xel G h "java/lang/Object" (.ref x)) (hc : c + 1 ≤ xCB) (hn : n + 100 ≤ xSB) :
    XM l G d M_AL_grow_I [.ref a, .int (nI (es.length + 1))] h c n (fun v h' c' n' => ∃ q k, v = some (.ref q) ∧ h q = none ∧ h' = xup (xup h q (k_aObject, es.map (.ref ·) ++ List.replicate (k + 1) .null)) a (k_ArrayList, [.ref q, .int (nI es.length), .int mc]) ∧ 10 ≤ es.length + (k + 1) ∧ es.length + (k + 1) ≤ 100 ∧ c' = c + 1 ∧ n' ≤ n + 100) := by
  obtain ⟨d, rfl⟩ : ∃ q, d = q + 1 := ⟨d - 1, by omega⟩
  refine XM.of (by decide +kernel) (Nat.le_of_ble_eq_true rfl) ?_
  rcases he with ⟨rfl, rfl⟩ | ⟨he, h10, h60⟩
  · refine x_aload_n d_AL_grow_I_0 rfl rfl ?_
    refine x_get xf_AL_9_AL (Or.inl ha) rfl d_AL_grow_I_1 ?_
    refine x_alen (k := k_aObject) rfl (Or.inr hG.2.2) (v := nI 0) rfl d_AL_grow_I_4 ?_
    refine x_istore_n (L' := [_, _, _, _]) d_AL_grow_I_5 rfl rfl ?_
    refine x_iload_n d_AL_grow_I_6 rfl ?_
    refine x_if_gt (tgt := 20) d_AL_grow_I_7 (by decide) (fun ht => absurd ht (by decide)) (fun _ => ?_)
    refine x_aload_n d_AL_grow_I_10 rfl rfl ?_
    refine x_get xf_AL_9_AL (Or.inl ha) rfl d_AL_grow_I_11 ?_
    refine x_gets xw_841 (List.mem_of_getElem? (i := 4) rfl) d_AL_grow_I_14 ?_
    refine x_acmp_eq (tgt := 45) rfl rfl d_AL_grow_I_17 (by decide) (fun _ => ?_) (fun hn => absurd rfl hn)
    refine x_aload_n d_AL_grow_I_45 rfl rfl ?_
    refine x_bipush (v := 10) d_AL_grow_I_46 (by decide) ?_
    refine x_iload_n d_AL_grow_I_48 rfl ?_
    refine x_mmax xw_1081 xw_198 xw_10 xw_199 (Nat.le_of_ble_eq_true rfl) d_AL_grow_I_49 ?_
    refine x_top (w := .int (nI 10)) (by rfl) ?_
    refine x_anew (k := k_aObject) rfl xw_1082 xw_1079 (by decide) (z := 10) (by decide) (by decide) hc (by omega) d_AL_grow_I_52 (fun q hn_q hk_q => ?_)
    refine x_dup_x1 d_AL_grow_I_55 rfl rfl ?_
    refine x_put xf_AL_9_AL xp_AL_0 rfl rfl (xup_old ha hn_q) rfl rfl d_AL_grow_I_56 ?_
    refine x_aret d_AL_grow_I_59 rfl rfl ?_
    exact ⟨q, 9, rfl, hn_q, rfl, by simp, by simp, rfl, by omega⟩
  · have hml : (es.map (Value.ref ·)).length = es.length := by simp
    refine x_aload_n d_AL_grow_I_0 rfl rfl ?_
    refine x_get xf_AL_9_AL (Or.inl ha) rfl d_AL_grow_I_1 ?_
    refine x_alen (k := k_aObject) rfl (Or.inl he) (v := nI es.length) (by rw [hml]; rfl) d_AL_grow_I_4 ?_
    refine x_istore_n (L' := [_, _, _, _]) d_AL_grow_I_5 rfl rfl ?_
    refine x_iload_n d_AL_grow_I_6 rfl ?_
    refine x_if_gt (tgt := 20) d_AL_grow_I_7 (by decide) (fun _ => ?_) (fun hn => absurd (by show (0 : Int32) < _; exact nI_lt (a := 0) (by omega) (by omega)) hn)
    refine x_iload_n d_AL_grow_I_20 rfl ?_
    refine x_iload_n d_AL_grow_I_21 rfl ?_
    refine x_iload_n d_AL_grow_I_22 rfl ?_
    refine x_isub d_AL_grow_I_23 ?_
    refine x_top (w := .int (nI 1)) (by rw [pk_sub (by omega)]; congr 1; exact congrArg nI (by omega)) ?_
    refine x_iload_n d_AL_grow_I_24 rfl ?_
    refine x_iconst (v := 1) d_AL_grow_I_25 (by decide) ?_
    refine x_ishr d_AL_grow_I_26 ?_
    refine x_top (w := .int (nI (es.length / 2))) (by rw [pk_shrN (by omega) _ 1 (by decide +kernel)]) ?_
    refine x_callS (As := [_, _, _]) xcs_AL_73 (c_newLength (by omega) (o := es.length) (g := 1) (p := es.length / 2) (by omega) (by omega) (by omega) (by omega)) rfl rfl (Nat.le_of_ble_eq_true rfl) d_AL_grow_I_27 ?_
    rintro v h' c' n' ⟨rfl, rfl, rfl, rfl⟩
    have hM : es.length + max 1 (es.length / 2) = es.length + es.length / 2 := by omega
    rw [hM]
    have hel' : ∀ v ∈ es.map (Value.ref ·), xel G h' "java/lang/Object" v := by
      intro v hv
      obtain ⟨x, hx, rfl⟩ := List.mem_map.mp hv
      exact hel x hx
    refine x_istore_n (L' := [_, _, _, _]) d_AL_grow_I_30 rfl rfl ?_
    refine x_aload_n d_AL_grow_I_31 rfl rfl ?_
    refine x_aload_n d_AL_grow_I_32 rfl rfl ?_
    refine x_get xf_AL_9_AL (Or.inl ha) rfl d_AL_grow_I_33 ?_
    refine x_iload_n d_AL_grow_I_36 rfl ?_
    refine x_callS (As := [_, _]) xcs_AL_66 (c_copyOf_aO (by omega) (Or.inl he) hel' (by rw [hml]; omega) (by omega) hc (by omega)) rfl rfl (Nat.le_of_ble_eq_true rfl) d_AL_grow_I_37 ?_
    rintro v h' c' n' ⟨q, rfl, hq, rfl, rfl, rfl⟩
    refine x_dup_x1 d_AL_grow_I_40 rfl rfl ?_
    refine x_put xf_AL_9_AL xp_AL_0 rfl rfl (xup_old ha hq) rfl rfl d_AL_grow_I_41 ?_
    refine x_aret d_AL_grow_I_44 rfl rfl ?_
    obtain ⟨k, hk⟩ : ∃ k, es.length + es.length / 2 - (es.map (Value.ref ·)).length = k + 1 := ⟨es.length / 2 - 1, by rw [hml]; omega⟩
    rw [hk]
    refine ⟨q, k, rfl, hq, rfl, by rw [hml] at hk; omega, by rw [hml] at hk; omega, rfl, ?_⟩
    simp
    rw [hml] at hk
    omega
theorem c_AL_grow (hG : xGk G) (hd : 4 ≤ d) {a ea : Nat} {es : List Nat} {mc : Int32} (ha : h a = some (k_ArrayList, [.ref ea, .int (nI es.length), .int mc])) (he : (es = [] ∧ ea = G.2.2.2.1 100) ∨ (h ea = some (k_aObject, es.map (.ref ·)) ∧ 10 ≤ es.length ∧ es.length ≤ 60)) (hel : ∀ x ∈ es, xel G h "java/lang/Object" (.ref x)) (hc : c + 1 ≤ xCB) (hn : n + 100 ≤ xSB) :
    XM l G d M_AL_grow_ [.ref a] h c n (fun v h' c' n' => ∃ q k, v = some (.ref q) ∧ h q = none ∧ h' = xup (xup h q (k_aObject, es.map (.ref ·) ++ List.replicate (k + 1) .null)) a (k_ArrayList, [.ref q, .int (nI es.length), .int mc]) ∧ 10 ≤ es.length + (k + 1) ∧ es.length + (k + 1) ≤ 100 ∧ c' = c + 1 ∧ n' ≤ n + 100) := by
  obtain ⟨d, rfl⟩ : ∃ q, d = q + 1 := ⟨d - 1, by omega⟩
  refine XM.of (by decide +kernel) (Nat.le_of_ble_eq_true rfl) ?_
  refine x_aload_n d_AL_grow__0 rfl rfl ?_
  refine x_aload_n d_AL_grow__1 rfl rfl ?_
  refine x_get xf_AL_48_AL (Or.inl ha) rfl d_AL_grow__2 ?_
  refine x_iconst (v := 1) d_AL_grow__5 (by decide) ?_
  refine x_iadd d_AL_grow__6 ?_
  refine x_top (w := .int (nI (es.length + 1))) (by rw [show (1 : Int32) = nI 1 from rfl, nI_add]) ?_
  refine x_callV (As := [_]) (k := k_ArrayList) rfl xcv_AL_69_AL (Or.inl ha) (c_AL_growI hG (by omega) ha he hel hc hn) rfl rfl (Nat.le_of_ble_eq_true rfl) d_AL_grow__7 ?_
  rintro v h' c' n' ⟨q, k, rfl, hq⟩
  refine x_aret d_AL_grow__10 rfl rfl ?_
  exact ⟨q, k, rfl, hq⟩
end ALS
end
section
section
abbrev y_AL_add_ObjectaObjectI : MethodName := ⟨"java/util/ArrayList", "add", "(Ljava/lang/Object;[Ljava/lang/Object;I)V"⟩
abbrev M_AL_add_ObjectaObjectI : XMt := (y_AL_add_ObjectaObjectI, prog_33_method_24_code, 4, none)
theorem d_AL_add_ObjectaObjectI_11 : decode M_AL_add_ObjectaObjectI.2.1 11 = .ok (.aload_n 2, 1) := by decide +kernel
theorem d_AL_add_ObjectaObjectI_12 : decode M_AL_add_ObjectaObjectI.2.1 12 = .ok (.iload_n 3, 1) := by decide +kernel
theorem d_AL_add_ObjectaObjectI_13 : decode M_AL_add_ObjectaObjectI.2.1 13 = .ok (.aload_n 1, 1) := by decide +kernel
theorem d_AL_add_ObjectaObjectI_14 : decode M_AL_add_ObjectaObjectI.2.1 14 = .ok (.aastore, 1) := by decide +kernel
theorem xw_1627 : (Jvm.Cond.castable "MarkerText$Test" "java/lang/Object") ∈ xT := xT_at 1627 (by decide +kernel) (by decide +kernel)
theorem d_AL_add_ObjectaObjectI_15 : decode M_AL_add_ObjectaObjectI.2.1 15 = .ok (.aload_n 0, 1) := by decide +kernel
theorem d_AL_add_ObjectaObjectI_16 : decode M_AL_add_ObjectaObjectI.2.1 16 = .ok (.iload_n 3, 1) := by decide +kernel
theorem d_AL_add_ObjectaObjectI_17 : decode M_AL_add_ObjectaObjectI.2.1 17 = .ok (.iconst 1, 1) := by decide +kernel
theorem d_AL_add_ObjectaObjectI_18 : decode M_AL_add_ObjectaObjectI.2.1 18 = .ok (.iadd, 1) := by decide +kernel
theorem d_AL_add_ObjectaObjectI_19 : decode M_AL_add_ObjectaObjectI.2.1 19 = .ok (.putfield 48, 3) := by decide +kernel
theorem xp_AL_1 : xP k_ArrayList 1 false .int := ⟨_, _, _, rfl, rfl, by decide +kernel⟩
theorem d_AL_add_ObjectaObjectI_22 : decode M_AL_add_ObjectaObjectI.2.1 22 = .ok (.return_, 1) := by decide +kernel
theorem d_AL_add_ObjectaObjectI_6 : decode M_AL_add_ObjectaObjectI.2.1 6 = .ok (.aload_n 0, 1) := by decide +kernel
theorem d_AL_add_ObjectaObjectI_7 : decode M_AL_add_ObjectaObjectI.2.1 7 = .ok (.invokevirtual 129, 3) := by decide +kernel
theorem xw_1046 : (Jvm.Cond.code ({ cls := "java/util/ArrayList", name := "grow", desc := "()[Ljava/lang/Object;" } : Jvm.MethodName) prog_33_method_7_code (1 : Nat) (Option.some (Jvm.ClassFile.FieldType.array (Jvm.ClassFile.FieldType.object "java/lang/Object")))) ∈ xT := xT_at 1046 (by decide +kernel) (by decide +kernel)
theorem xcb_AL_grow_ : xcb M_AL_grow_ 0 := ⟨xw_1046, xw_26, by decide, by decide, by decide, by decide +kernel⟩
theorem xw_1045 : (Jvm.Cond.instanceMethod ({ cls := "java/util/ArrayList", name := "grow", desc := "()[Ljava/lang/Object;" } : Jvm.MethodName)) ∈ xT := xT_at 1045 (by decide +kernel) (by decide +kernel)
theorem xw_1043 : (Jvm.Cond.methodLink "java/util/ArrayList" (129 : Nat) ({ cls := "java/util/ArrayList", name := "grow", desc := "()[Ljava/lang/Object;" } : Jvm.MethodName)) ∈ xT := xT_at 1043 (by decide +kernel) (by decide +kernel)
theorem xsel_AL_grow_ : Cond.selects "java/util/ArrayList" y_AL_grow_ y_AL_grow_ ∈ xT := xT_sel (q := (y_AL_grow_, 3)) (by decide +kernel) (by decide +kernel)
theorem xcv_AL_129_AL : xCV "java/util/ArrayList" 129 "java/util/ArrayList" M_AL_grow_ 0 := ⟨xcb_AL_grow_, xw_1045, Or.inl ⟨xw_1043, Or.inl xsel_AL_grow_⟩⟩
theorem d_AL_add_ObjectaObjectI_10 : decode M_AL_add_ObjectaObjectI.2.1 10 = .ok (.astore_n 2, 1) := by decide +kernel
theorem d_AL_add_ObjectaObjectI_0 : decode M_AL_add_ObjectaObjectI.2.1 0 = .ok (.iload_n 3, 1) := by decide +kernel
theorem d_AL_add_ObjectaObjectI_1 : decode M_AL_add_ObjectaObjectI.2.1 1 = .ok (.aload_n 2, 1) := by decide +kernel
theorem d_AL_add_ObjectaObjectI_2 : decode M_AL_add_ObjectaObjectI.2.1 2 = .ok (.arraylength, 1) := by decide +kernel
theorem d_AL_add_ObjectaObjectI_3 : decode M_AL_add_ObjectaObjectI.2.1 3 = .ok (.if_icmp .ne 8, 3) := by decide +kernel
abbrev y_AL_add_Object : MethodName := ⟨"java/util/ArrayList", "add", "(Ljava/lang/Object;)Z"⟩
abbrev M_AL_add_Object : XMt := (y_AL_add_Object, prog_33_method_25_code, 2, (some .boolean))
theorem d_AL_add_Object_0 : decode M_AL_add_Object.2.1 0 = .ok (.aload_n 0, 1) := by decide +kernel
theorem d_AL_add_Object_1 : decode M_AL_add_Object.2.1 1 = .ok (.dup, 1) := by decide +kernel
theorem d_AL_add_Object_2 : decode M_AL_add_Object.2.1 2 = .ok (.getfield 63, 3) := by decide +kernel
theorem xw_847 : (Jvm.Cond.sameField "java/util/ArrayList" "java/util/AbstractList" "modCount" "I") ∈ xT := xT_at 847 (by decide +kernel) (by decide +kernel)
theorem xw_846 : (Jvm.Cond.fieldLink "java/util/ArrayList" (63 : Nat) "java/util/ArrayList" "modCount" "I") ∈ xT := xT_at 846 (by decide +kernel) (by decide +kernel)
theorem xf_AL_63_AL : xF "java/util/ArrayList" 63 k_ArrayList 2 := ⟨_, _, _, "java/util/ArrayList", rfl, by decide, Or.inl xw_846, Or.inr xw_847⟩
theorem d_AL_add_Object_5 : decode M_AL_add_Object.2.1 5 = .ok (.iconst 1, 1) := by decide +kernel
theorem d_AL_add_Object_6 : decode M_AL_add_Object.2.1 6 = .ok (.iadd, 1) := by decide +kernel
theorem d_AL_add_Object_7 : decode M_AL_add_Object.2.1 7 = .ok (.putfield 63, 3) := by decide +kernel
theorem d_AL_add_Object_10 : decode M_AL_add_Object.2.1 10 = .ok (.aload_n 0, 1) := by decide +kernel
theorem d_AL_add_Object_11 : decode M_AL_add_Object.2.1 11 = .ok (.aload_n 1, 1) := by decide +kernel
theorem d_AL_add_Object_12 : decode M_AL_add_Object.2.1 12 = .ok (.aload_n 0, 1) := by decide +kernel
theorem d_AL_add_Object_13 : decode M_AL_add_Object.2.1 13 = .ok (.getfield 9, 3) := by decide +kernel
theorem d_AL_add_Object_16 : decode M_AL_add_Object.2.1 16 = .ok (.aload_n 0, 1) := by decide +kernel
theorem d_AL_add_Object_17 : decode M_AL_add_Object.2.1 17 = .ok (.getfield 48, 3) := by decide +kernel
theorem d_AL_add_Object_20 : decode M_AL_add_Object.2.1 20 = .ok (.invokevirtual 131, 3) := by decide +kernel
theorem xw_1042 : (Jvm.Cond.code ({ cls := "java/util/ArrayList", name := "add", desc := "(Ljava/lang/Object;[Ljava/lang/Object;I)V" } : Jvm.MethodName) prog_33_method_24_code (4 : Nat) (Option.none : Option Jvm.ClassFile.FieldType)) ∈ xT := xT_at 1042 (by decide +kernel) (by decide +kernel)
theorem xcb_AL_add_ObjectaObjectI : xcb M_AL_add_ObjectaObjectI 3 := ⟨xw_1042, xw_26, by decide, by decide, by decide, by decide +kernel⟩
theorem xw_1041 : (Jvm.Cond.instanceMethod ({ cls := "java/util/ArrayList", name := "add", desc := "(Ljava/lang/Object;[Ljava/lang/Object;I)V" } : Jvm.MethodName)) ∈ xT := xT_at 1041 (by decide +kernel) (by decide +kernel)
theorem xw_1039 : (Jvm.Cond.methodLink "java/util/ArrayList" (131 : Nat) ({ cls := "java/util/ArrayList", name := "add", desc := "(Ljava/lang/Object;[Ljava/lang/Object;I)V" } : Jvm.MethodName)) ∈ xT := xT_at 1039 (by decide +kernel) (by decide +kernel)
theorem xsel_AL_add_ObjectaObjectI : Cond.selects "java/util/ArrayList" y_AL_add_ObjectaObjectI y_AL_add_ObjectaObjectI ∈ xT := xT_sel (q := (y_AL_add_ObjectaObjectI, 3)) (by decide +kernel) (by decide +kernel)
theorem xcv_AL_131_AL : xCV "java/util/ArrayList" 131 "java/util/ArrayList" M_AL_add_ObjectaObjectI 3 := ⟨xcb_AL_add_ObjectaObjectI, xw_1041, Or.inl ⟨xw_1039, Or.inl xsel_AL_add_ObjectaObjectI⟩⟩
theorem d_AL_add_Object_23 : decode M_AL_add_Object.2.1 23 = .ok (.iconst 1, 1) := by decide +kernel
theorem d_AL_add_Object_24 : decode M_AL_add_Object.2.1 24 = .ok (.ireturn, 1) := by decide +kernel
end
section AL2
variable {l : Launch} {G : XG} {h : XH} {c n d : Nat}
theorem c_AL_add3 (hG : xGk G) (hd : 5 ≤ d) {a ea x : Nat} {es : List Nat} {vx : List Value} (hL : isL G h a ea es) (hx : xr G h x k_Test vx) (hel : ∀ y ∈ es, xel G h "java/lang/Object" (.ref y)) (h60 : es.length ≤ 60) (hc : c + 1 ≤ xCB) (hn : n + 100 ≤ xSB) :
    XM l G d M_AL_add_ObjectaObjectI [.ref a, .ref x, .ref ea, .int (nI es.length)] h c n (fun v h' c' n' => v = none ∧ ∃ ea', isL G h' a ea' (es ++ [x]) ∧ xfr h h' [a, ea] ∧ (ea' = ea ∨ h ea' = none) ∧ c' ≤ c + 1 ∧ n' ≤ n + 100) := by
  obtain ⟨d, rfl⟩ : ∃ q, d = q + 1 := ⟨d - 1, by omega⟩
  obtain ⟨mc, ha, he⟩ := hL
  have fin : ∀ (h1 : XH) (q k c1 n1 : Nat), h1 a = some (k_ArrayList, [.ref q, .int (nI es.length), .int mc]) → h1 q = some (k_aObject, es.map (.ref ·) ++ List.replicate (k + 1) .null) → 10 ≤ es.length + (k + 1) → es.length + (k + 1) ≤ 100 → xr G h1 x k_Test vx → a ≠ q → xfr h h1 [a, ea] → (q = ea ∨ h q = none) → c1 ≤ c + 1 → n1 ≤ n + 100 →
      XW l G M_AL_add_ObjectaObjectI (d + 1) 11 [some (.ref a), some (.ref x), some (.ref q), some (.int (nI es.length))] [] h1 c1 n1 (fun v h' c' n' => v = none ∧ ∃ ea', isL G h' a ea' (es ++ [x]) ∧ xfr h h' [a, ea] ∧ (ea' = ea ∨ h ea' = none) ∧ c' ≤ c + 1 ∧ n' ≤ n + 100) := by
    intro h1 q k c1 n1 e1 e2 e3 e3' e4 e5 e6 e7 e8 e9
    have hat : (es.map (Value.ref ·) ++ List.replicate (k + 1) .null)[(nI es.length).toNatClampNeg]? = some .null := by
      rw [nI_clamp (by omega), List.getElem?_append_right (by simp)]
      simp
    refine x_aload_n d_AL_add_ObjectaObjectI_11 rfl rfl ?_
    refine x_iload_n d_AL_add_ObjectaObjectI_12 rfl ?_
    refine x_aload_n d_AL_add_ObjectaObjectI_13 rfl rfl ?_
    refine x_aast (k := k_aObject) (kb := k_Test) rfl rfl (Or.inr xw_1627) e2 e4 (nI_pos (by omega)) hat d_AL_add_ObjectaObjectI_14 ?_
    refine x_aload_n d_AL_add_ObjectaObjectI_15 rfl rfl ?_
    refine x_iload_n d_AL_add_ObjectaObjectI_16 rfl ?_
    refine x_iconst (v := 1) d_AL_add_ObjectaObjectI_17 (by decide) ?_
    refine x_iadd d_AL_add_ObjectaObjectI_18 ?_
    refine x_top (w := .int (nI (es ++ [x]).length)) (by rw [show (1 : Int32) = nI 1 from rfl, nI_add]; simp) ?_
    refine x_put xf_AL_48_AL xp_AL_1 rfl rfl (by rw [xup_ne e5]; exact e1) rfl rfl d_AL_add_ObjectaObjectI_19 ?_
    refine x_vret d_AL_add_ObjectaObjectI_22 rfl ?_
    refine ⟨rfl, q, ⟨mc, xup_self, Or.inr ⟨k, ?_, by simp; omega, by simp; omega⟩⟩, (e6.up ?_).up (Or.inl (by simp)), e7, e8, e9⟩
    · rw [xup_ne (Ne.symm e5), xup_self, nI_clamp (by omega), List.set_append_right _ _ (by simp)]
      simp [List.replicate_succ]
    · rcases e7 with rfl | z
      · exact Or.inl (by simp)
      · exact Or.inr z
  refine XM.of (by decide +kernel) (Nat.le_of_ble_eq_true rfl) ?_
  have grow : ∀ (_ : (es = [] ∧ ea = G.2.2.2.1 100) ∨ (h ea = some (k_aObject, es.map (.ref ·)) ∧ 10 ≤ es.length ∧ es.length ≤ 60)), XW l G M_AL_add_ObjectaObjectI (d + 1) 6 [some (.ref a), some (.ref x), some (.ref ea), some (.int (nI es.length))] [] h c n (fun v h' c' n' => v = none ∧ ∃ ea', isL G h' a ea' (es ++ [x]) ∧ xfr h h' [a, ea] ∧ (ea' = ea ∨ h ea' = none) ∧ c' ≤ c + 1 ∧ n' ≤ n + 100) := by
    intro hh
    refine x_aload_n d_AL_add_ObjectaObjectI_6 rfl rfl ?_
    refine x_callV (As := []) (k := k_ArrayList) rfl xcv_AL_129_AL (Or.inl ha) (c_AL_grow hG (by omega) ha hh hel hc hn) rfl rfl (Nat.le_of_ble_eq_true rfl) d_AL_add_ObjectaObjectI_7 ?_
    rintro v h' c' n' ⟨q, k, rfl, hq, rfl, g1, g2, rfl, g3⟩
    have haq : a ≠ q := fun e => by rw [e, hq] at ha; cases ha
    refine x_astore_n (L' := [_, _, _, _]) d_AL_add_ObjectaObjectI_10 rfl rfl rfl ?_
    refine fin _ q k _ _ xup_self (by rw [xup_ne (Ne.symm haq), xup_self]) g1 g2 ?_ haq ((xfr.rf.up (Or.inr hq)).up (Or.inl (by simp))) (Or.inr hq) (by omega) g3
    refine (xr_up hx hq).fr (F := [a]) (xfr.rf.up (Or.inl (by simp))) (fun q' hq' e' he' => ?_)
    rw [List.mem_singleton] at hq'
    subst hq'
    rw [xup_ne haq, ha] at he'
    cases he'
    show ¬ k_ArrayList ∈ [k_Test]
    decide
  rcases he with ⟨h1, h2⟩ | ⟨k, h1, h2, h3⟩
  · subst h1; subst h2
    refine x_iload_n d_AL_add_ObjectaObjectI_0 rfl ?_
    refine x_aload_n d_AL_add_ObjectaObjectI_1 rfl rfl ?_
    refine x_alen (k := k_aObject) rfl (Or.inr hG.2.2) (v := nI 0) rfl d_AL_add_ObjectaObjectI_2 ?_
    refine x_icmp_ne (tgt := 11) d_AL_add_ObjectaObjectI_3 (by decide) (fun ht => absurd rfl ht) (fun _ => ?_)
    exact grow (Or.inl ⟨rfl, rfl⟩)
  · cases k with
    | zero =>
      have h1' : h ea = some (k_aObject, es.map (.ref ·)) := by simpa using h1
      refine x_iload_n d_AL_add_ObjectaObjectI_0 rfl ?_
      refine x_aload_n d_AL_add_ObjectaObjectI_1 rfl rfl ?_
      refine x_alen (k := k_aObject) rfl (Or.inl h1') (v := nI es.length) (by simp [nI]) d_AL_add_ObjectaObjectI_2 ?_
      refine x_icmp_ne (tgt := 11) d_AL_add_ObjectaObjectI_3 (by decide) (fun ht => absurd rfl ht) (fun _ => ?_)
      exact grow (Or.inr ⟨h1', by omega, h60⟩)
    | succ k =>
      have hae : a ≠ ea := fun e => by rw [e, h1] at ha; cases ha
      refine x_iload_n d_AL_add_ObjectaObjectI_0 rfl ?_
      refine x_aload_n d_AL_add_ObjectaObjectI_1 rfl rfl ?_
      refine x_alen (k := k_aObject) rfl (Or.inl h1) (v := nI (es.length + (k + 1))) (by simp [nI]) d_AL_add_ObjectaObjectI_2 ?_
      refine x_icmp_ne (tgt := 11) d_AL_add_ObjectaObjectI_3 (by decide) (fun _ => ?_) (fun hn => absurd hn (by rw [nI_eq (by omega) (by omega)]; omega))
      exact fin h ea k c n ha h1 h2 h3 hx hae xfr.rf (Or.inl rfl) (by omega) (by omega)
/-- ArrayList.add of a Test -/
theorem c_AL_add (hG : xGk G) (hd : 6 ≤ d) {a ea x : Nat} {es : List Nat} {vx : List Value} (hL : isL G h a ea es) (hx : xr G h x k_Test vx) (hel : ∀ y ∈ es, xel G h "java/lang/Object" (.ref y)) (h60 : es.length ≤ 60) (hc : c + 1 ≤ xCB) (hn : n + 100 ≤ xSB) :
    XM l G d M_AL_add_Object [.ref a, .ref x] h c n (fun v h' c' n' => v = some (.int 1) ∧ ∃ ea', isL G h' a ea' (es ++ [x]) ∧ xfr h h' [a, ea] ∧ (ea' = ea ∨ h ea' = none) ∧ c' ≤ c + 1 ∧ n' ≤ n + 100) := by
  obtain ⟨d, rfl⟩ : ∃ q, d = q + 1 := ⟨d - 1, by omega⟩
  obtain ⟨mc, ha, he⟩ := id hL
  have hfa : xno h [a] [k_Test, k_aObject] := by
    intro q hq e he'
    rw [List.mem_singleton] at hq
    subst hq
    rw [ha] at he'
    cases he'
    show ¬ k_ArrayList ∈ [k_Test, k_aObject]
    decide
  refine XM.of (by decide +kernel) (Nat.le_of_ble_eq_true rfl) ?_
  refine x_aload_n d_AL_add_Object_0 rfl rfl ?_
  refine x_dup d_AL_add_Object_1 rfl ?_
  refine x_get xf_AL_63_AL (Or.inl ha) rfl d_AL_add_Object_2 ?_
  refine x_iconst (v := 1) d_AL_add_Object_5 (by decide) ?_
  refine x_iadd d_AL_add_Object_6 ?_
  refine x_put xf_AL_63_AL xp_AL_2 rfl rfl ha rfl rfl d_AL_add_Object_7 ?_
  have hf : xfr h (xup h a (k_ArrayList, [.ref ea, .int (nI es.length), .int (mc + 1)])) [a] := xfr.rf.up (Or.inl (by simp))
  have hL' : isL G (xup h a (k_ArrayList, [.ref ea, .int (nI es.length), .int (mc + 1)])) a ea es := by
    refine ⟨mc + 1, xup_self, he.imp id (fun ⟨k, h1, h2⟩ => ⟨k, hf.1 _ _ h1 (fun z => hfa ea z _ h1 (show k_aObject ∈ [k_Test, k_aObject] by decide)), h2⟩)⟩
  have hel' : ∀ y ∈ es, xel G (xup h a (k_ArrayList, [.ref ea, .int (nI es.length), .int (mc + 1)])) "java/lang/Object" (.ref y) := by
    intro y hy
    rcases hel y hy with z | ⟨a', k', N, vs', C, T, z1, z2, z3, z4⟩
    · cases z
    · cases z1
      refine Or.inr ⟨y, ?_⟩
      by_cases hya : y = a
      · subst hya
        rcases z2 with z2 | z2
        · rw [ha] at z2
          cases z2
          exact ⟨_, _, _, _, _, rfl, Or.inl xup_self, z3, z4⟩
        · exact ⟨_, _, _, _, _, rfl, Or.inr z2, z3, z4⟩
      · refine ⟨_, _, _, _, _, rfl, z2.imp (fun q => ?_) id, z3, z4⟩
        rw [xup_ne hya]
        exact q
  refine x_aload_n d_AL_add_Object_10 rfl rfl ?_
  refine x_aload_n d_AL_add_Object_11 rfl rfl ?_
  refine x_aload_n d_AL_add_Object_12 rfl rfl ?_
  refine x_get xf_AL_9_AL (Or.inl xup_self) rfl d_AL_add_Object_13 ?_
  refine x_aload_n d_AL_add_Object_16 rfl rfl ?_
  refine x_get xf_AL_48_AL (Or.inl xup_self) rfl d_AL_add_Object_17 ?_
  refine x_callV (As := [_, _, _]) (k := k_ArrayList) rfl xcv_AL_131_AL (Or.inl xup_self) (c_AL_add3 hG (by omega) hL' (hx.fr hf (hfa.sub (by simp))) hel' h60 hc hn) rfl rfl (Nat.le_of_ble_eq_true rfl) d_AL_add_Object_20 ?_
  rintro v h' c' n' ⟨rfl, ea', g1, g2, g3, g4, g5⟩
  refine x_iconst (v := 1) d_AL_add_Object_23 (by decide) ?_
  refine x_zret d_AL_add_Object_24 rfl rfl ?_
  refine ⟨rfl, ea', g1, (hf.mono (by simp)).tr g2 (fun _ _ z => z), g3.imp id (fun z => ?_), g4, g5⟩
  by_cases hz : ea' = a
  · subst hz; rw [xup_self] at z; cases z
  · rw [xup_ne hz] at z; exact z
end AL2
end
section
section
abbrev y_Name_textLevel : MethodName := ⟨"MarkerText$Name", "textLevel", "(Ljava/lang/String;II)J"⟩
abbrev M_Name_textLevel : XMt := (y_Name_textLevel, prog_6_method_5_code, 8, (some .long))
theorem d_Name_textLevel_20 : decode M_Name_textLevel.2.1 20 = .ok (.iload 5, 2) := by decide +kernel
theorem d_Name_textLevel_22 : decode M_Name_textLevel.2.1 22 = .ok (.bipush 8, 2) := by decide +kernel
theorem d_Name_textLevel_24 : decode M_Name_textLevel.2.1 24 = .ok (.if_icmp .ge 72, 3) := by decide +kernel
theorem d_Name_textLevel_96 : decode M_Name_textLevel.2.1 96 = .ok (.ldc2_w 47, 3) := by decide +kernel
theorem xw_754 : (Jvm.Cond.constantLong "MarkerText$Name" (47 : Nat) (2 : Int64)) ∈ xT := xT_at 754 (by decide +kernel) (by decide +kernel)
theorem d_Name_textLevel_99 : decode M_Name_textLevel.2.1 99 = .ok (.lload_n 3, 1) := by decide +kernel
theorem d_Name_textLevel_100 : decode M_Name_textLevel.2.1 100 = .ok (.lmul, 1) := by decide +kernel
theorem d_Name_textLevel_101 : decode M_Name_textLevel.2.1 101 = .ok (.ldc2_w 47, 3) := by decide +kernel
theorem d_Name_textLevel_104 : decode M_Name_textLevel.2.1 104 = .ok (.ladd, 1) := by decide +kernel
theorem d_Name_textLevel_105 : decode M_Name_textLevel.2.1 105 = .ok (.lreturn, 1) := by decide +kernel
theorem d_Name_textLevel_27 : decode M_Name_textLevel.2.1 27 = .ok (.iload_n 1, 1) := by decide +kernel
theorem d_Name_textLevel_28 : decode M_Name_textLevel.2.1 28 = .ok (.iload 5, 2) := by decide +kernel
theorem d_Name_textLevel_30 : decode M_Name_textLevel.2.1 30 = .ok (.iadd, 1) := by decide +kernel
theorem d_Name_textLevel_31 : decode M_Name_textLevel.2.1 31 = .ok (.iload_n 2, 1) := by decide +kernel
theorem d_Name_textLevel_32 : decode M_Name_textLevel.2.1 32 = .ok (.if_icmp .lt 7, 3) := by decide +kernel
theorem d_Name_textLevel_39 : decode M_Name_textLevel.2.1 39 = .ok (.iconst 0, 1) := by decide +kernel
theorem d_Name_textLevel_40 : decode M_Name_textLevel.2.1 40 = .ok (.istore 6, 2) := by decide +kernel
theorem d_Name_textLevel_42 : decode M_Name_textLevel.2.1 42 = .ok (.iload 6, 2) := by decide +kernel
theorem d_Name_textLevel_44 : decode M_Name_textLevel.2.1 44 = .ok (.ifCond .eq 7, 3) := by decide +kernel
theorem d_Name_textLevel_51 : decode M_Name_textLevel.2.1 51 = .ok (.ldc 33, 2) := by decide +kernel
theorem d_Name_textLevel_53 : decode M_Name_textLevel.2.1 53 = .ok (.aload_n 0, 1) := by decide +kernel
theorem d_Name_textLevel_54 : decode M_Name_textLevel.2.1 54 = .ok (.iload_n 1, 1) := by decide +kernel
theorem d_Name_textLevel_55 : decode M_Name_textLevel.2.1 55 = .ok (.iload 5, 2) := by decide +kernel
theorem d_Name_textLevel_57 : decode M_Name_textLevel.2.1 57 = .ok (.iadd, 1) := by decide +kernel
theorem d_Name_textLevel_58 : decode M_Name_textLevel.2.1 58 = .ok (.invokevirtual 35, 3) := by decide +kernel
theorem xw_433 : (Jvm.Cond.code ({ cls := "java/lang/String", name := "charAt", desc := "(I)C" } : Jvm.MethodName) prog_25_method_56_code (2 : Nat) (Option.some Jvm.ClassFile.FieldType.char)) ∈ xT := xT_at 433 (by decide +kernel) (by decide +kernel)
theorem xcb_String_charAt : xcb M_String_charAt 1 := ⟨xw_433, xw_4, by decide, by decide, by decide, by decide +kernel⟩
theorem xw_431 : (Jvm.Cond.instanceMethod ({ cls := "java/lang/String", name := "charAt", desc := "(I)C" } : Jvm.MethodName)) ∈ xT := xT_at 431 (by decide +kernel) (by decide +kernel)
theorem xw_752 : (Jvm.Cond.methodLink "MarkerText$Name" (35 : Nat) ({ cls := "java/lang/String", name := "charAt", desc := "(I)C" } : Jvm.MethodName)) ∈ xT := xT_at 752 (by decide +kernel) (by decide +kernel)
theorem xw_432 : (Jvm.Cond.selects "java/lang/String" ({ cls := "java/lang/String", name := "charAt", desc := "(I)C" } : Jvm.MethodName) ({ cls := "java/lang/String", name := "charAt", desc := "(I)C" } : Jvm.MethodName)) ∈ xT := xT_at 432 (by decide +kernel) (by decide +kernel)
theorem xcv_Name_35_String : xCV "MarkerText$Name" 35 "java/lang/String" M_String_charAt 1 := ⟨xcb_String_charAt, xw_431, Or.inl ⟨xw_752, Or.inl xw_432⟩⟩
theorem d_Name_textLevel_61 : decode M_Name_textLevel.2.1 61 = .ok (.invokevirtual 41, 3) := by decide +kernel
theorem xw_762 : (Jvm.Cond.code ({ cls := "java/lang/String", name := "indexOf", desc := "(I)I" } : Jvm.MethodName) prog_25_method_79_code (2 : Nat) (Option.some Jvm.ClassFile.FieldType.int)) ∈ xT := xT_at 762 (by decide +kernel) (by decide +kernel)
theorem xcb_String_indexOf_I : xcb M_String_indexOf_I 1 := ⟨xw_762, xw_4, by decide, by decide, by decide, by decide +kernel⟩
theorem xw_760 : (Jvm.Cond.instanceMethod ({ cls := "java/lang/String", name := "indexOf", desc := "(I)I" } : Jvm.MethodName)) ∈ xT := xT_at 760 (by decide +kernel) (by decide +kernel)
theorem xw_759 : (Jvm.Cond.methodLink "MarkerText$Name" (41 : Nat) ({ cls := "java/lang/String", name := "indexOf", desc := "(I)I" } : Jvm.MethodName)) ∈ xT := xT_at 759 (by decide +kernel) (by decide +kernel)
theorem xw_761 : (Jvm.Cond.selects "java/lang/String" ({ cls := "java/lang/String", name := "indexOf", desc := "(I)I" } : Jvm.MethodName) ({ cls := "java/lang/String", name := "indexOf", desc := "(I)I" } : Jvm.MethodName)) ∈ xT := xT_at 761 (by decide +kernel) (by decide +kernel)
theorem xcv_Name_41_String : xCV "MarkerText$Name" 41 "java/lang/String" M_String_indexOf_I 1 := ⟨xcb_String_indexOf_I, xw_760, Or.inl ⟨xw_759, Or.inl xw_761⟩⟩
theorem d_Name_textLevel_64 : decode M_Name_textLevel.2.1 64 = .ok (.iconst 1, 1) := by decide +kernel
theorem d_Name_textLevel_65 : decode M_Name_textLevel.2.1 65 = .ok (.iadd, 1) := by decide +kernel
theorem d_Name_textLevel_66 : decode M_Name_textLevel.2.1 66 = .ok (.istore 7, 2) := by decide +kernel
theorem d_Name_textLevel_68 : decode M_Name_textLevel.2.1 68 = .ok (.iload 7, 2) := by decide +kernel
theorem d_Name_textLevel_70 : decode M_Name_textLevel.2.1 70 = .ok (.ifCond .ne 10, 3) := by decide +kernel
theorem d_Name_textLevel_73 : decode M_Name_textLevel.2.1 73 = .ok (.iload 6, 2) := by decide +kernel
theorem d_Name_textLevel_75 : decode M_Name_textLevel.2.1 75 = .ok (.ifCond .ne 5, 3) := by decide +kernel
theorem d_Name_textLevel_78 : decode M_Name_textLevel.2.1 78 = .ok (.lconst 0, 1) := by decide +kernel
theorem d_Name_textLevel_79 : decode M_Name_textLevel.2.1 79 = .ok (.lreturn, 1) := by decide +kernel
theorem d_Name_textLevel_80 : decode M_Name_textLevel.2.1 80 = .ok (.lload_n 3, 1) := by decide +kernel
theorem d_Name_textLevel_81 : decode M_Name_textLevel.2.1 81 = .ok (.ldc2_w 45, 3) := by decide +kernel
theorem xw_805 : (Jvm.Cond.constantLong "MarkerText$Name" (45 : Nat) (38 : Int64)) ∈ xT := xT_at 805 (by decide +kernel) (by decide +kernel)
theorem d_Name_textLevel_84 : decode M_Name_textLevel.2.1 84 = .ok (.lmul, 1) := by decide +kernel
theorem d_Name_textLevel_85 : decode M_Name_textLevel.2.1 85 = .ok (.iload 7, 2) := by decide +kernel
theorem d_Name_textLevel_87 : decode M_Name_textLevel.2.1 87 = .ok (.i2l, 1) := by decide +kernel
theorem d_Name_textLevel_88 : decode M_Name_textLevel.2.1 88 = .ok (.ladd, 1) := by decide +kernel
theorem d_Name_textLevel_89 : decode M_Name_textLevel.2.1 89 = .ok (.lstore_n 3, 1) := by decide +kernel
theorem d_Name_textLevel_90 : decode M_Name_textLevel.2.1 90 = .ok (.iinc 5 1, 3) := by decide +kernel
theorem d_Name_textLevel_93 : decode M_Name_textLevel.2.1 93 = .ok (.goto (-73), 3) := by decide +kernel
theorem d_Name_textLevel_35 : decode M_Name_textLevel.2.1 35 = .ok (.iconst 1, 1) := by decide +kernel
theorem d_Name_textLevel_36 : decode M_Name_textLevel.2.1 36 = .ok (.goto 4, 3) := by decide +kernel
theorem d_Name_textLevel_47 : decode M_Name_textLevel.2.1 47 = .ok (.iconst 0, 1) := by decide +kernel
theorem d_Name_textLevel_48 : decode M_Name_textLevel.2.1 48 = .ok (.goto 18, 3) := by decide +kernel
theorem d_Name_textLevel_0 : decode M_Name_textLevel.2.1 0 = .ok (.iload_n 2, 1) := by decide +kernel
theorem d_Name_textLevel_1 : decode M_Name_textLevel.2.1 1 = .ok (.iload_n 1, 1) := by decide +kernel
theorem d_Name_textLevel_2 : decode M_Name_textLevel.2.1 2 = .ok (.if_icmp .le 11, 3) := by decide +kernel
theorem d_Name_textLevel_13 : decode M_Name_textLevel.2.1 13 = .ok (.lconst 0, 1) := by decide +kernel
theorem d_Name_textLevel_14 : decode M_Name_textLevel.2.1 14 = .ok (.lreturn, 1) := by decide +kernel
theorem d_Name_textLevel_5 : decode M_Name_textLevel.2.1 5 = .ok (.iload_n 2, 1) := by decide +kernel
theorem d_Name_textLevel_6 : decode M_Name_textLevel.2.1 6 = .ok (.iload_n 1, 1) := by decide +kernel
theorem d_Name_textLevel_7 : decode M_Name_textLevel.2.1 7 = .ok (.isub, 1) := by decide +kernel
theorem d_Name_textLevel_8 : decode M_Name_textLevel.2.1 8 = .ok (.bipush 8, 2) := by decide +kernel
theorem d_Name_textLevel_10 : decode M_Name_textLevel.2.1 10 = .ok (.if_icmp .le 5, 3) := by decide +kernel
theorem d_Name_textLevel_15 : decode M_Name_textLevel.2.1 15 = .ok (.lconst 0, 1) := by decide +kernel
theorem d_Name_textLevel_16 : decode M_Name_textLevel.2.1 16 = .ok (.lstore_n 3, 1) := by decide +kernel
theorem d_Name_textLevel_17 : decode M_Name_textLevel.2.1 17 = .ok (.iconst 0, 1) := by decide +kernel
theorem d_Name_textLevel_18 : decode M_Name_textLevel.2.1 18 = .ok (.istore 5, 2) := by decide +kernel
end
section NM1
variable {l : Launch} {G : XG} {h : XH} {c n d : Nat}
/-! NAMES and their VALUES as levels -/
/-- how a character of a text VALUE counts; 0: it's none -/
def rk (ch : Nat) : Nat := if ch = 46 then 1 else if 48 ≤ ch ∧ ch ≤ 57 then ch - 46 else if 97 ≤ ch ∧ ch ≤ 122 then ch - 85 else 0
theorem rk_ix : ∀ ch, ch < 128 → xix (xtx 14) ch + 1 = nI (rk ch) := by decide +kernel
theorem rk_lt : ∀ ch, ch < 128 → rk ch < 38 := by decide +kernel
def tkey (u : List Nat) : Nat → Nat
  | 0 => 0
  | i + 1 => tkey u i * 38 + rk (u.getD i 0)
/-- the level of a text VALUE; 0 if it is none -/
def txl (u : List Nat) : Nat := if u ≠ [] ∧ u.length ≤ 8 ∧ ∀ ch ∈ u, rk ch ≠ 0 then 2 * tkey u 8 + 2 else 0
theorem tkey_lt {u : List Nat} (hu : xasc u) : ∀ i, tkey u i < 38 ^ i
  | 0 => by simp [tkey]
  | i + 1 => by
    have h1 := tkey_lt hu i
    have h2 : rk (u.getD i 0) < 38 := by
      rw [List.getD_eq_getElem?_getD]
      cases hq : u[i]? with
      | none => simp [rk]
      | some x => exact rk_lt x (hu x (List.mem_of_getElem? hq))
    simp only [tkey]
    rw [Nat.pow_succ]
    omega
theorem xcut_at {t : List Nat} {f m i : Nat} (hi : i < m) (hm : f + m ≤ t.length) : ((t.drop f).take m).getD i 0 = t[f + i]'(by omega) := by
  rw [List.getD_eq_getElem?_getD, List.getElem?_take, if_pos hi, List.getElem?_drop, List.getElem?_eq_getElem (by omega)]
  rfl
theorem lp_textLevel (hG : xGk G) (hd : 4 ≤ d) {a f m : Nat} {t : List Nat} {P : Option Value → XH → Nat → Nat → Prop} (hS : isS G h a t) (hm : f + m ≤ t.length) (h1 : 1 ≤ m) (h8 : m ≤ 8) (hl : t.length < 2 ^ 20) (hP : P (some (.long (lN (txl ((t.drop f).take m))))) h c n) :
    ∀ (k i : Nat) (e6 e7 : Option Value), i + k = 8 → (∀ j, j < i → j < m → rk (((t.drop f).take m).getD j 0) ≠ 0) → XW l G M_Name_textLevel d 20 [some (.ref a), some (.int (nI f)), some (.int (nI (f + m))), some (.long (lN (tkey ((t.drop f).take m) i))), none, some (.int (nI i)), e6, e7] [] h c n P := by
  obtain ⟨d, rfl⟩ : ∃ q, d = q + 1 := ⟨d - 1, by omega⟩
  obtain ⟨va, ee, ha, -, hat⟩ := id hS
  have hlen : ((t.drop f).take m).length = m := by simp; omega
  have hne : (t.drop f).take m ≠ [] := fun z => by rw [z] at hlen; simp at hlen; omega
  have hua : xasc ((t.drop f).take m) := xasc_cut hat
  intro k
  induction k with
  | zero =>
    intro i e6 e7 hi hj
    have hi8 : i = 8 := by omega
    subst hi8
    have hall : ∀ ch ∈ (t.drop f).take m, rk ch ≠ 0 := by
      intro ch hch
      obtain ⟨j, hj1, hj2⟩ := List.getElem_of_mem hch
      have := hj j (by omega) (by omega)
      rwa [List.getD_eq_getElem?_getD, List.getElem?_eq_getElem hj1, Option.getD_some, hj2] at this
    unfold txl at hP
    rw [if_pos ⟨hne, by omega, hall⟩] at hP
    refine x_iload d_Name_textLevel_20 rfl ?_
    refine x_bipush (v := 8) d_Name_textLevel_22 (by decide) ?_
    refine x_icmp_ge (tgt := 96) d_Name_textLevel_24 (by decide) (fun _ => ?_) (fun hn => absurd (by decide) hn)
    refine x_ldc2 (v := 2) xw_754 d_Name_textLevel_96 ?_
    refine x_lload_n d_Name_textLevel_99 rfl ?_
    refine x_lmul d_Name_textLevel_100 ?_
    refine x_ldc2 (v := 2) xw_754 d_Name_textLevel_101 ?_
    refine x_ladd d_Name_textLevel_104 ?_
    refine x_top (w := .long (lN (2 * tkey ((t.drop f).take m) 8 + 2))) (by rw [show (2 : Int64) = lN 2 from rfl, lN_mul, lN_add]) ?_
    refine x_lret d_Name_textLevel_105 rfl ?_
    exact hP
  | succ k ih =>
    intro i e6 e7 hi hj
    refine x_iload d_Name_textLevel_20 rfl ?_
    refine x_bipush (v := 8) d_Name_textLevel_22 (by decide) ?_
    refine x_icmp_ge (tgt := 96) d_Name_textLevel_24 (by decide) (fun ht => absurd ht (nI_ge (a := i) (b := 8) (by omega) (by omega))) (fun _ => ?_)
    refine x_iload_n d_Name_textLevel_27 rfl ?_
    refine x_iload d_Name_textLevel_28 rfl ?_
    refine x_iadd d_Name_textLevel_30 ?_
    refine x_top (w := .int (nI (f + i))) (by rw [nI_add]) ?_
    refine x_iload_n d_Name_textLevel_31 rfl ?_
    by_cases him : i < m
    · have hfi : f + i < t.length := by omega
      have hch := hat t[f + i] (List.getElem_mem hfi)
      have hgd := xcut_at (t := t) (f := f) him hm
      refine x_icmp_lt (tgt := 39) d_Name_textLevel_32 (by decide) (fun _ => ?_) (fun hn => absurd (nI_lt (by omega) (by omega)) hn)
      refine x_iconst (v := 0) d_Name_textLevel_39 (by decide) ?_
      refine x_istore (L' := [_, _, _, _, _, _, _, _]) d_Name_textLevel_40 rfl rfl ?_
      refine x_iload d_Name_textLevel_42 rfl ?_
      refine x_if_eq (tgt := 51) d_Name_textLevel_44 (by decide) (fun _ => ?_) (fun hn => absurd rfl hn)
      refine x_ldcS (i := 14) (tx := ".0123456789abcdefghijklmnopqrstuvwxyz") (by decide +kernel) d_Name_textLevel_51 ?_
      refine x_aload_n d_Name_textLevel_53 rfl rfl ?_
      refine x_iload_n d_Name_textLevel_54 rfl ?_
      refine x_iload d_Name_textLevel_55 rfl ?_
      refine x_iadd d_Name_textLevel_57 ?_
      refine x_top (w := .int (nI (f + i))) (by rw [nI_add]) ?_
      refine x_callV (As := [_]) (k := k_String) rfl xcv_Name_35_String ha (c_String_charAt hG (by omega) hS hfi (by omega)) rfl rfl (Nat.le_of_ble_eq_true rfl) d_Name_textLevel_58 ?_
      rintro v h' c' n' ⟨rfl, rfl, rfl, rfl⟩
      obtain ⟨vk, ek, hka, -⟩ := id (hG.str (h := h') (i := 14) (by decide))
      refine x_callV (As := [_]) (k := k_String) rfl xcv_Name_41_String hka (c_String_indexOf (by omega) (hG.str (by decide)) hch (by decide)) rfl rfl (Nat.le_of_ble_eq_true rfl) d_Name_textLevel_61 ?_
      rintro v h' c' n' ⟨rfl, rfl, rfl, rfl⟩
      refine x_iconst (v := 1) d_Name_textLevel_64 (by decide) ?_
      refine x_iadd d_Name_textLevel_65 ?_
      refine x_top (w := .int (nI (rk t[f + i]))) (by rw [rk_ix _ hch]) ?_
      refine x_istore (L' := [_, _, _, _, _, _, _, _]) d_Name_textLevel_66 rfl rfl ?_
      refine x_iload d_Name_textLevel_68 rfl ?_
      have hrk := rk_lt _ hch
      by_cases hr : rk t[f + i] = 0
      · have hbad : ¬ ∀ ch ∈ (t.drop f).take m, rk ch ≠ 0 := by
          intro hz
          refine hz t[f + i] ?_ hr
          rw [← hgd, List.getD_eq_getElem?_getD, List.getElem?_eq_getElem (by omega)]
          exact List.getElem_mem _
        unfold txl at hP
        rw [if_neg (fun z => hbad z.2.2)] at hP
        refine x_if_ne (tgt := 80) d_Name_textLevel_70 (by decide) (fun ht => absurd (by rw [hr]; rfl) ht) (fun _ => ?_)
        refine x_iload d_Name_textLevel_73 rfl ?_
        refine x_if_ne (tgt := 80) d_Name_textLevel_75 (by decide) (fun ht => absurd rfl ht) (fun _ => ?_)
        refine x_lconst (v := 0) d_Name_textLevel_78 (by decide) ?_
        refine x_lret d_Name_textLevel_79 rfl ?_
        exact hP
      · refine x_if_ne (tgt := 80) d_Name_textLevel_70 (by decide) (fun _ => ?_) (fun hn => absurd hn (nI_ne0 (by omega) (by omega)))
        refine x_lload_n d_Name_textLevel_80 rfl ?_
        refine x_ldc2 (v := 38) xw_805 d_Name_textLevel_81 ?_
        refine x_lmul d_Name_textLevel_84 ?_
        refine x_iload d_Name_textLevel_85 rfl ?_
        refine x_st (st' := [.int (nI (rk t[f + i])), .long (lN (tkey ((t.drop f).take m) i * 38))]) (by rw [show (38 : Int64) = lN 38 from rfl, lN_mul]; rfl) ?_
        refine x_i2l d_Name_textLevel_87 ?_
        refine x_ladd d_Name_textLevel_88 ?_
        refine x_top (w := .long (lN (tkey ((t.drop f).take m) (i + 1)))) (by rw [nI_l (by omega), lN_add, ← hgd]; rfl) ?_
        refine x_lstore_n (L' := [_, _, _, _, _, _, _, _]) d_Name_textLevel_89 rfl rfl ?_
        refine x_iinc (v := nI (i + 1)) (L' := [_, _, _, _, _, _, _, _]) d_Name_textLevel_90 rfl (by exact xw_iinc1) rfl rfl ?_
        refine x_goto (tgt := 20) d_Name_textLevel_93 (by decide) ?_
        refine ih (i + 1) _ _ (by omega) (fun j hj1 hj2 => ?_)
        by_cases hji : j = i
        · subst hji; rw [hgd]; exact hr
        · exact hj j (by omega) hj2
    · have hgd : ((t.drop f).take m).getD i 0 = 0 := by
        rw [List.getD_eq_getElem?_getD, List.getElem?_eq_none (by omega)]
        rfl
      refine x_icmp_lt (tgt := 39) d_Name_textLevel_32 (by decide) (fun ht => absurd ht (nI_nlt (by omega) (by omega))) (fun _ => ?_)
      refine x_iconst (v := 1) d_Name_textLevel_35 (by decide) ?_
      refine x_goto (tgt := 40) d_Name_textLevel_36 (by decide) ?_
      refine x_istore (L' := [_, _, _, _, _, _, _, _]) d_Name_textLevel_40 rfl rfl ?_
      refine x_iload d_Name_textLevel_42 rfl ?_
      refine x_if_eq (tgt := 51) d_Name_textLevel_44 (by decide) (fun ht => absurd ht (by decide)) (fun _ => ?_)
      refine x_iconst (v := 0) d_Name_textLevel_47 (by decide) ?_
      refine x_goto (tgt := 66) d_Name_textLevel_48 (by decide) ?_
      refine x_istore (L' := [_, _, _, _, _, _, _, _]) d_Name_textLevel_66 rfl rfl ?_
      refine x_iload d_Name_textLevel_68 rfl ?_
      refine x_if_ne (tgt := 80) d_Name_textLevel_70 (by decide) (fun ht => absurd rfl ht) (fun _ => ?_)
      refine x_iload d_Name_textLevel_73 rfl ?_
      refine x_if_ne (tgt := 80) d_Name_textLevel_75 (by decide) (fun _ => ?_) (fun hn => absurd hn (by decide))
      refine x_lload_n d_Name_textLevel_80 rfl ?_
      refine x_ldc2 (v := 38) xw_805 d_Name_textLevel_81 ?_
      refine x_lmul d_Name_textLevel_84 ?_
      refine x_iload d_Name_textLevel_85 rfl ?_
      refine x_st (st' := [.int (nI 0), .long (lN (tkey ((t.drop f).take m) i * 38))]) (by rw [show (38 : Int64) = lN 38 from rfl, lN_mul]; rfl) ?_
      refine x_i2l d_Name_textLevel_87 ?_
      refine x_ladd d_Name_textLevel_88 ?_
      refine x_top (w := .long (lN (tkey ((t.drop f).take m) (i + 1)))) (by rw [nI_l (by omega), lN_add]; simp only [tkey]; rw [hgd]; rfl) ?_
      refine x_lstore_n (L' := [_, _, _, _, _, _, _, _]) d_Name_textLevel_89 rfl rfl ?_
      refine x_iinc (v := nI (i + 1)) (L' := [_, _, _, _, _, _, _, _]) d_Name_textLevel_90 rfl (by exact xw_iinc1) rfl rfl ?_
      refine x_goto (tgt := 20) d_Name_textLevel_93 (by decide) ?_
      exact ih (i + 1) _ _ (by omega) (fun j hj1 hj2 => hj j (by omega) hj2)
theorem c_textLevel (hG : xGk G) (hd : 4 ≤ d) {a f m : Nat} {t : List Nat} (hS : isS G h a t) (hm : f + m ≤ t.length) (hl : t.length < 2 ^ 20) : XM l G d M_Name_textLevel [.ref a, .int (nI f), .int (nI (f + m))] h c n (xSame (.long (lN (txl ((t.drop f).take m)))) h c n) := by
  have hlen : ((t.drop f).take m).length = m := by simp; omega
  refine XM.of (by decide +kernel) (Nat.le_of_ble_eq_true rfl) ?_
  refine x_iload_n d_Name_textLevel_0 rfl ?_
  refine x_iload_n d_Name_textLevel_1 rfl ?_
  by_cases h0 : m = 0
  · subst h0
    refine x_icmp_le (tgt := 13) d_Name_textLevel_2 (by decide) (fun _ => ?_) (fun hn => absurd (nI_le (by omega) (by omega)) hn)
    refine x_lconst (v := 0) d_Name_textLevel_13 (by decide) ?_
    refine x_lret d_Name_textLevel_14 rfl ?_
    refine ⟨?_, rfl, rfl, rfl⟩
    simp [txl, lN]
  · refine x_icmp_le (tgt := 13) d_Name_textLevel_2 (by decide) (fun ht => absurd ht (nI_ge (by omega) (by omega))) (fun _ => ?_)
    refine x_iload_n d_Name_textLevel_5 rfl ?_
    refine x_iload_n d_Name_textLevel_6 rfl ?_
    refine x_isub d_Name_textLevel_7 ?_
    refine x_top (w := .int (nI m)) (by rw [pk_sub (by omega)]; congr 1; exact congrArg nI (by omega)) ?_
    refine x_bipush (v := 8) d_Name_textLevel_8 (by decide) ?_
    by_cases h8 : m ≤ 8
    · refine x_icmp_le (tgt := 15) d_Name_textLevel_10 (by decide) (fun _ => ?_) (fun hn => absurd (nI_le h8 (by omega)) hn)
      refine x_lconst (v := 0) d_Name_textLevel_15 (by decide) ?_
      refine x_lstore_n (L' := [_, _, _, _, _, _, _, _]) d_Name_textLevel_16 rfl rfl ?_
      refine x_iconst (v := 0) d_Name_textLevel_17 (by decide) ?_
      refine x_istore (L' := [_, _, _, _, _, _, _, _]) d_Name_textLevel_18 rfl rfl ?_
      exact lp_textLevel hG hd hS hm (by omega) h8 hl ⟨rfl, rfl, rfl, rfl⟩ 8 0 _ _ (by omega) (fun j hj => by omega)
    · refine x_icmp_le (tgt := 15) d_Name_textLevel_10 (by decide) (fun ht => absurd ht (nI_ge (a := 8) (b := m) (by omega) (by omega))) (fun _ => ?_)
      refine x_lconst (v := 0) d_Name_textLevel_13 (by decide) ?_
      refine x_lret d_Name_textLevel_14 rfl ?_
      refine ⟨?_, rfl, rfl, rfl⟩
      unfold txl
      rw [if_neg (fun z => by omega)]
      rfl
end NM1
end
section
section
abbrev y_Name_versionLevel : MethodName := ⟨"MarkerText$Name", "versionLevel", "(Ljava/lang/String;II)J"⟩
abbrev M_Name_versionLevel : XMt := (y_Name_versionLevel, prog_6_method_6_code, 10, (some .long))
theorem d_Name_versionLevel_146 : decode M_Name_versionLevel.2.1 146 = .ok (.iload 8, 2) := by decide +kernel
theorem d_Name_versionLevel_148 : decode M_Name_versionLevel.2.1 148 = .ok (.iconst 3, 1) := by decide +kernel
theorem d_Name_versionLevel_149 : decode M_Name_versionLevel.2.1 149 = .ok (.if_icmp .ge 15, 3) := by decide +kernel
theorem d_Name_versionLevel_164 : decode M_Name_versionLevel.2.1 164 = .ok (.ldc2_w 47, 3) := by decide +kernel
theorem d_Name_versionLevel_167 : decode M_Name_versionLevel.2.1 167 = .ok (.lload_n 3, 1) := by decide +kernel
theorem d_Name_versionLevel_168 : decode M_Name_versionLevel.2.1 168 = .ok (.lmul, 1) := by decide +kernel
theorem d_Name_versionLevel_169 : decode M_Name_versionLevel.2.1 169 = .ok (.ldc2_w 47, 3) := by decide +kernel
theorem d_Name_versionLevel_172 : decode M_Name_versionLevel.2.1 172 = .ok (.ladd, 1) := by decide +kernel
theorem d_Name_versionLevel_173 : decode M_Name_versionLevel.2.1 173 = .ok (.lreturn, 1) := by decide +kernel
theorem d_Name_versionLevel_152 : decode M_Name_versionLevel.2.1 152 = .ok (.lload_n 3, 1) := by decide +kernel
theorem d_Name_versionLevel_153 : decode M_Name_versionLevel.2.1 153 = .ok (.ldc2_w 49, 3) := by decide +kernel
theorem xw_753 : (Jvm.Cond.constantLong "MarkerText$Name" (49 : Nat) (1000 : Int64)) ∈ xT := xT_at 753 (by decide +kernel) (by decide +kernel)
theorem d_Name_versionLevel_156 : decode M_Name_versionLevel.2.1 156 = .ok (.lmul, 1) := by decide +kernel
theorem d_Name_versionLevel_157 : decode M_Name_versionLevel.2.1 157 = .ok (.lstore_n 3, 1) := by decide +kernel
theorem d_Name_versionLevel_158 : decode M_Name_versionLevel.2.1 158 = .ok (.iinc 8 1, 3) := by decide +kernel
theorem d_Name_versionLevel_161 : decode M_Name_versionLevel.2.1 161 = .ok (.goto (-15), 3) := by decide +kernel
theorem d_Name_versionLevel_14 : decode M_Name_versionLevel.2.1 14 = .ok (.iload 8, 2) := by decide +kernel
theorem d_Name_versionLevel_16 : decode M_Name_versionLevel.2.1 16 = .ok (.iload_n 2, 1) := by decide +kernel
theorem d_Name_versionLevel_17 : decode M_Name_versionLevel.2.1 17 = .ok (.if_icmp .ge 108, 3) := by decide +kernel
theorem d_Name_versionLevel_125 : decode M_Name_versionLevel.2.1 125 = .ok (.iload 6, 2) := by decide +kernel
theorem d_Name_versionLevel_127 : decode M_Name_versionLevel.2.1 127 = .ok (.ifCond .ne 5, 3) := by decide +kernel
theorem d_Name_versionLevel_130 : decode M_Name_versionLevel.2.1 130 = .ok (.lconst 0, 1) := by decide +kernel
theorem d_Name_versionLevel_131 : decode M_Name_versionLevel.2.1 131 = .ok (.lreturn, 1) := by decide +kernel
theorem d_Name_versionLevel_132 : decode M_Name_versionLevel.2.1 132 = .ok (.lload_n 3, 1) := by decide +kernel
theorem d_Name_versionLevel_133 : decode M_Name_versionLevel.2.1 133 = .ok (.ldc2_w 49, 3) := by decide +kernel
theorem d_Name_versionLevel_136 : decode M_Name_versionLevel.2.1 136 = .ok (.lmul, 1) := by decide +kernel
theorem d_Name_versionLevel_137 : decode M_Name_versionLevel.2.1 137 = .ok (.iload 5, 2) := by decide +kernel
theorem d_Name_versionLevel_139 : decode M_Name_versionLevel.2.1 139 = .ok (.i2l, 1) := by decide +kernel
theorem d_Name_versionLevel_140 : decode M_Name_versionLevel.2.1 140 = .ok (.ladd, 1) := by decide +kernel
theorem d_Name_versionLevel_141 : decode M_Name_versionLevel.2.1 141 = .ok (.lstore_n 3, 1) := by decide +kernel
theorem d_Name_versionLevel_142 : decode M_Name_versionLevel.2.1 142 = .ok (.iload 7, 2) := by decide +kernel
theorem d_Name_versionLevel_144 : decode M_Name_versionLevel.2.1 144 = .ok (.istore 8, 2) := by decide +kernel
theorem d_Name_versionLevel_20 : decode M_Name_versionLevel.2.1 20 = .ok (.aload_n 0, 1) := by decide +kernel
theorem d_Name_versionLevel_21 : decode M_Name_versionLevel.2.1 21 = .ok (.iload 8, 2) := by decide +kernel
theorem d_Name_versionLevel_23 : decode M_Name_versionLevel.2.1 23 = .ok (.invokevirtual 35, 3) := by decide +kernel
theorem d_Name_versionLevel_26 : decode M_Name_versionLevel.2.1 26 = .ok (.istore 9, 2) := by decide +kernel
theorem d_Name_versionLevel_28 : decode M_Name_versionLevel.2.1 28 = .ok (.iload 9, 2) := by decide +kernel
theorem d_Name_versionLevel_30 : decode M_Name_versionLevel.2.1 30 = .ok (.bipush 46, 2) := by decide +kernel
theorem d_Name_versionLevel_32 : decode M_Name_versionLevel.2.1 32 = .ok (.if_icmp .ne 36, 3) := by decide +kernel
theorem d_Name_versionLevel_35 : decode M_Name_versionLevel.2.1 35 = .ok (.iload 6, 2) := by decide +kernel
theorem d_Name_versionLevel_37 : decode M_Name_versionLevel.2.1 37 = .ok (.ifCond .le 31, 3) := by decide +kernel
theorem d_Name_versionLevel_40 : decode M_Name_versionLevel.2.1 40 = .ok (.iload 7, 2) := by decide +kernel
theorem d_Name_versionLevel_42 : decode M_Name_versionLevel.2.1 42 = .ok (.iconst 3, 1) := by decide +kernel
theorem d_Name_versionLevel_43 : decode M_Name_versionLevel.2.1 43 = .ok (.if_icmp .ge 25, 3) := by decide +kernel
theorem d_Name_versionLevel_46 : decode M_Name_versionLevel.2.1 46 = .ok (.lload_n 3, 1) := by decide +kernel
theorem d_Name_versionLevel_47 : decode M_Name_versionLevel.2.1 47 = .ok (.ldc2_w 49, 3) := by decide +kernel
theorem d_Name_versionLevel_50 : decode M_Name_versionLevel.2.1 50 = .ok (.lmul, 1) := by decide +kernel
theorem d_Name_versionLevel_51 : decode M_Name_versionLevel.2.1 51 = .ok (.iload 5, 2) := by decide +kernel
theorem d_Name_versionLevel_53 : decode M_Name_versionLevel.2.1 53 = .ok (.i2l, 1) := by decide +kernel
theorem d_Name_versionLevel_54 : decode M_Name_versionLevel.2.1 54 = .ok (.ladd, 1) := by decide +kernel
theorem d_Name_versionLevel_55 : decode M_Name_versionLevel.2.1 55 = .ok (.lstore_n 3, 1) := by decide +kernel
theorem d_Name_versionLevel_56 : decode M_Name_versionLevel.2.1 56 = .ok (.iconst 0, 1) := by decide +kernel
theorem d_Name_versionLevel_57 : decode M_Name_versionLevel.2.1 57 = .ok (.istore 5, 2) := by decide +kernel
theorem d_Name_versionLevel_59 : decode M_Name_versionLevel.2.1 59 = .ok (.iconst 0, 1) := by decide +kernel
theorem d_Name_versionLevel_60 : decode M_Name_versionLevel.2.1 60 = .ok (.istore 6, 2) := by decide +kernel
theorem d_Name_versionLevel_62 : decode M_Name_versionLevel.2.1 62 = .ok (.iinc 7 1, 3) := by decide +kernel
theorem d_Name_versionLevel_65 : decode M_Name_versionLevel.2.1 65 = .ok (.goto 54, 3) := by decide +kernel
theorem d_Name_versionLevel_119 : decode M_Name_versionLevel.2.1 119 = .ok (.iinc 8 1, 3) := by decide +kernel
theorem d_Name_versionLevel_122 : decode M_Name_versionLevel.2.1 122 = .ok (.goto (-108), 3) := by decide +kernel
theorem d_Name_versionLevel_117 : decode M_Name_versionLevel.2.1 117 = .ok (.lconst 0, 1) := by decide +kernel
theorem d_Name_versionLevel_118 : decode M_Name_versionLevel.2.1 118 = .ok (.lreturn, 1) := by decide +kernel
theorem d_Name_versionLevel_98 : decode M_Name_versionLevel.2.1 98 = .ok (.iload 5, 2) := by decide +kernel
theorem d_Name_versionLevel_100 : decode M_Name_versionLevel.2.1 100 = .ok (.bipush 10, 2) := by decide +kernel
theorem d_Name_versionLevel_102 : decode M_Name_versionLevel.2.1 102 = .ok (.imul, 1) := by decide +kernel
theorem d_Name_versionLevel_103 : decode M_Name_versionLevel.2.1 103 = .ok (.iload 9, 2) := by decide +kernel
theorem d_Name_versionLevel_105 : decode M_Name_versionLevel.2.1 105 = .ok (.bipush 48, 2) := by decide +kernel
theorem d_Name_versionLevel_107 : decode M_Name_versionLevel.2.1 107 = .ok (.isub, 1) := by decide +kernel
theorem d_Name_versionLevel_108 : decode M_Name_versionLevel.2.1 108 = .ok (.iadd, 1) := by decide +kernel
theorem d_Name_versionLevel_109 : decode M_Name_versionLevel.2.1 109 = .ok (.istore 5, 2) := by decide +kernel
theorem d_Name_versionLevel_111 : decode M_Name_versionLevel.2.1 111 = .ok (.iinc 6 1, 3) := by decide +kernel
theorem d_Name_versionLevel_114 : decode M_Name_versionLevel.2.1 114 = .ok (.goto 5, 3) := by decide +kernel
theorem d_Name_versionLevel_68 : decode M_Name_versionLevel.2.1 68 = .ok (.iload 9, 2) := by decide +kernel
theorem d_Name_versionLevel_70 : decode M_Name_versionLevel.2.1 70 = .ok (.bipush 48, 2) := by decide +kernel
theorem d_Name_versionLevel_72 : decode M_Name_versionLevel.2.1 72 = .ok (.if_icmp .lt 45, 3) := by decide +kernel
theorem d_Name_versionLevel_75 : decode M_Name_versionLevel.2.1 75 = .ok (.iload 9, 2) := by decide +kernel
theorem d_Name_versionLevel_77 : decode M_Name_versionLevel.2.1 77 = .ok (.bipush 57, 2) := by decide +kernel
theorem d_Name_versionLevel_79 : decode M_Name_versionLevel.2.1 79 = .ok (.if_icmp .gt 38, 3) := by decide +kernel
theorem d_Name_versionLevel_82 : decode M_Name_versionLevel.2.1 82 = .ok (.iload 6, 2) := by decide +kernel
theorem d_Name_versionLevel_84 : decode M_Name_versionLevel.2.1 84 = .ok (.iconst 3, 1) := by decide +kernel
theorem d_Name_versionLevel_85 : decode M_Name_versionLevel.2.1 85 = .ok (.if_icmp .ge 32, 3) := by decide +kernel
theorem d_Name_versionLevel_88 : decode M_Name_versionLevel.2.1 88 = .ok (.iload 6, 2) := by decide +kernel
theorem d_Name_versionLevel_90 : decode M_Name_versionLevel.2.1 90 = .ok (.ifCond .eq 8, 3) := by decide +kernel
theorem d_Name_versionLevel_93 : decode M_Name_versionLevel.2.1 93 = .ok (.iload 5, 2) := by decide +kernel
theorem d_Name_versionLevel_95 : decode M_Name_versionLevel.2.1 95 = .ok (.ifCond .le 22, 3) := by decide +kernel
theorem d_Name_versionLevel_0 : decode M_Name_versionLevel.2.1 0 = .ok (.lconst 0, 1) := by decide +kernel
theorem d_Name_versionLevel_1 : decode M_Name_versionLevel.2.1 1 = .ok (.lstore_n 3, 1) := by decide +kernel
theorem d_Name_versionLevel_2 : decode M_Name_versionLevel.2.1 2 = .ok (.iconst 0, 1) := by decide +kernel
theorem d_Name_versionLevel_3 : decode M_Name_versionLevel.2.1 3 = .ok (.istore 5, 2) := by decide +kernel
theorem d_Name_versionLevel_5 : decode M_Name_versionLevel.2.1 5 = .ok (.iconst 0, 1) := by decide +kernel
theorem d_Name_versionLevel_6 : decode M_Name_versionLevel.2.1 6 = .ok (.istore 6, 2) := by decide +kernel
theorem d_Name_versionLevel_8 : decode M_Name_versionLevel.2.1 8 = .ok (.iconst 1, 1) := by decide +kernel
theorem d_Name_versionLevel_9 : decode M_Name_versionLevel.2.1 9 = .ok (.istore 7, 2) := by decide +kernel
theorem d_Name_versionLevel_11 : decode M_Name_versionLevel.2.1 11 = .ok (.iload_n 1, 1) := by decide +kernel
theorem d_Name_versionLevel_12 : decode M_Name_versionLevel.2.1 12 = .ok (.istore 8, 2) := by decide +kernel
end
section NM2
variable {l : Launch} {G : XG} {h : XH} {c n d : Nat}
/-- a version as it is read: the numbers read whole as one key, the number that is read, its digits, how many numbers -/
def vst (s : Nat × Nat × Nat × Nat) (ch : Nat) : Option (Nat × Nat × Nat × Nat) :=
  if ch = 46 ∧ 0 < s.2.2.1 ∧ s.2.2.2 < 3 then some (s.1 * 1000 + s.2.1, 0, 0, s.2.2.2 + 1)
  else if (48 ≤ ch ∧ ch ≤ 57) ∧ s.2.2.1 < 3 ∧ (s.2.2.1 = 0 ∨ 0 < s.2.1) then some (s.1, s.2.1 * 10 + (ch - 48), s.2.2.1 + 1, s.2.2.2)
  else none
def vrun : List Nat → Nat × Nat × Nat × Nat → Option (Nat × Nat × Nat × Nat)
  | [], s => some s
  | ch :: u, s => match vst s ch with
    | none => none
    | some s' => vrun u s'
def vfin : Option (Nat × Nat × Nat × Nat) → Nat
  | none => 0
  | some s => if s.2.2.1 = 0 then 0 else 2 * ((s.1 * 1000 + s.2.1) * 1000 ^ (3 - s.2.2.2)) + 2
/-- the level of a version VALUE; 0 if it is none -/
def vsl (u : List Nat) : Nat := vfin (vrun u (0, 0, 0, 1))
theorem lp_ver2 {x2 x7 : Int32} {e0 e1 e5 e6 e9 : Option Value} {P : Option Value → XH → Nat → Nat → Prop} : ∀ (k i key : Nat), i + k = 3 → P (some (.long (lN (2 * (key * 1000 ^ k) + 2)))) h c n → XW l G M_Name_versionLevel d 146 [e0, e1, some (.int x2), some (.long (lN key)), none, e5, e6, some (.int x7), some (.int (nI i)), e9] [] h c n P := by
  intro k
  induction k with
  | zero =>
    intro i key hi hP
    have hi3 : i = 3 := by omega
    subst hi3
    refine x_iload d_Name_versionLevel_146 rfl ?_
    refine x_iconst (v := 3) d_Name_versionLevel_148 (by decide) ?_
    refine x_icmp_ge (tgt := 164) d_Name_versionLevel_149 (by decide) (fun _ => ?_) (fun hn => absurd (by decide) hn)
    refine x_ldc2 (v := 2) xw_754 d_Name_versionLevel_164 ?_
    refine x_lload_n d_Name_versionLevel_167 rfl ?_
    refine x_lmul d_Name_versionLevel_168 ?_
    refine x_ldc2 (v := 2) xw_754 d_Name_versionLevel_169 ?_
    refine x_ladd d_Name_versionLevel_172 ?_
    refine x_top (w := .long (lN (2 * (key * 1000 ^ 0) + 2))) (by rw [show (2 : Int64) = lN 2 from rfl, lN_mul, lN_add, Nat.pow_zero, Nat.mul_one]) ?_
    refine x_lret d_Name_versionLevel_173 rfl ?_
    exact hP
  | succ k ih =>
    intro i key hi hP
    refine x_iload d_Name_versionLevel_146 rfl ?_
    refine x_iconst (v := 3) d_Name_versionLevel_148 (by decide) ?_
    refine x_icmp_ge (tgt := 164) d_Name_versionLevel_149 (by decide) (fun ht => absurd ht (nI_ge (a := i) (b := 3) (by omega) (by omega))) (fun _ => ?_)
    refine x_lload_n d_Name_versionLevel_152 rfl ?_
    refine x_ldc2 (v := 1000) xw_753 d_Name_versionLevel_153 ?_
    refine x_lmul d_Name_versionLevel_156 ?_
    refine x_top (w := .long (lN (key * 1000))) (by rw [show (1000 : Int64) = lN 1000 from rfl, lN_mul]) ?_
    refine x_lstore_n (L' := [_, _, _, _, _, _, _, _, _, _]) d_Name_versionLevel_157 rfl rfl ?_
    refine x_iinc (v := nI (i + 1)) (L' := [_, _, _, _, _, _, _, _, _, _]) d_Name_versionLevel_158 rfl (by exact xw_iinc1) rfl rfl ?_
    refine x_goto (tgt := 146) d_Name_versionLevel_161 (by decide) ?_
    refine ih (i + 1) (key * 1000) (by omega) ?_
    rw [Nat.mul_assoc, show 1000 * 1000 ^ k = 1000 ^ (k + 1) by rw [Nat.pow_succ, Nat.mul_comm]]
    exact hP
theorem lp_ver1 (hG : xGk G) (hd : 4 ≤ d) {a f b : Nat} {t : List Nat} {P : Option Value → XH → Nat → Nat → Prop} (hS : isS G h a t) (hb : b ≤ t.length) (hl : t.length < 2 ^ 20) :
    ∀ (k i key num dg nb : Nat) (e9 : Option Value), i + k = b → num < 10 ^ dg → dg ≤ 3 → 1 ≤ nb → nb ≤ 3 → P (some (.long (lN (vfin (vrun ((t.drop i).take k) (key, num, dg, nb)))))) h c n → XW l G M_Name_versionLevel d 14 [some (.ref a), some (.int (nI f)), some (.int (nI b)), some (.long (lN key)), none, some (.int (nI num)), some (.int (nI dg)), some (.int (nI nb)), some (.int (nI i)), e9] [] h c n P := by
  obtain ⟨d, rfl⟩ : ∃ q, d = q + 1 := ⟨d - 1, by omega⟩
  obtain ⟨va, ee, ha, -, hat⟩ := id hS
  have hbig : ∀ {num dg : Nat}, num < 10 ^ dg → dg ≤ 3 → num < 1000 := fun {num dg} h1 h2 => Nat.lt_of_lt_of_le h1 (Nat.pow_le_pow_right (by omega) h2)
  intro k
  induction k with
  | zero =>
    intro i key num dg nb e9 hi hn hdg hb1 hb3 hP
    have := hbig hn hdg
    refine x_iload d_Name_versionLevel_14 rfl ?_
    refine x_iload_n d_Name_versionLevel_16 rfl ?_
    refine x_icmp_ge (tgt := 125) d_Name_versionLevel_17 (by decide) (fun _ => ?_) (fun hn => absurd (nI_le (by omega) (by omega)) hn)
    refine x_iload d_Name_versionLevel_125 rfl ?_
    simp only [List.take_zero, vrun, vfin] at hP
    by_cases h0 : dg = 0
    · subst h0
      rw [if_pos rfl] at hP
      refine x_if_ne (tgt := 132) d_Name_versionLevel_127 (by decide) (fun ht => absurd rfl ht) (fun _ => ?_)
      refine x_lconst (v := 0) d_Name_versionLevel_130 (by decide) ?_
      refine x_lret d_Name_versionLevel_131 rfl ?_
      exact hP
    · rw [if_neg h0] at hP
      refine x_if_ne (tgt := 132) d_Name_versionLevel_127 (by decide) (fun _ => ?_) (fun hn => absurd hn (nI_ne0 (by omega) (by omega)))
      refine x_lload_n d_Name_versionLevel_132 rfl ?_
      refine x_ldc2 (v := 1000) xw_753 d_Name_versionLevel_133 ?_
      refine x_lmul d_Name_versionLevel_136 ?_
      refine x_iload d_Name_versionLevel_137 rfl ?_
      refine x_i2l d_Name_versionLevel_139 ?_
      refine x_ladd d_Name_versionLevel_140 ?_
      refine x_top (w := .long (lN (key * 1000 + num))) (by rw [nI_l (by omega), show (1000 : Int64) = lN 1000 from rfl, lN_mul, lN_add]) ?_
      refine x_lstore_n (L' := [_, _, _, _, _, _, _, _, _, _]) d_Name_versionLevel_141 rfl rfl ?_
      refine x_iload d_Name_versionLevel_142 rfl ?_
      refine x_istore (L' := [_, _, _, _, _, _, _, _, _, _]) d_Name_versionLevel_144 rfl rfl ?_
      exact lp_ver2 (3 - nb) nb (key * 1000 + num) (by omega) hP
  | succ k ih =>
    intro i key num dg nb e9 hi hn hdg hb1 hb3 hP
    have hil : i < t.length := by omega
    have hch := hat t[i] (List.getElem_mem hil)
    have hnb := hbig hn hdg
    rw [List.drop_eq_getElem_cons hil, List.take_succ_cons] at hP
    refine x_iload d_Name_versionLevel_14 rfl ?_
    refine x_iload_n d_Name_versionLevel_16 rfl ?_
    refine x_icmp_ge (tgt := 125) d_Name_versionLevel_17 (by decide) (fun ht => absurd ht (nI_ge (by omega) (by omega))) (fun _ => ?_)
    refine x_aload_n d_Name_versionLevel_20 rfl rfl ?_
    refine x_iload d_Name_versionLevel_21 rfl ?_
    refine x_callV (As := [_]) (k := k_String) rfl xcv_Name_35_String ha (c_String_charAt hG (by omega) hS hil (by omega)) rfl rfl (Nat.le_of_ble_eq_true rfl) d_Name_versionLevel_23 ?_
    rintro v h' c' n' ⟨rfl, rfl, rfl, rfl⟩
    refine x_istore (L' := [_, _, _, _, _, _, _, _, _, _]) d_Name_versionLevel_26 rfl rfl ?_
    refine x_iload d_Name_versionLevel_28 rfl ?_
    refine x_bipush (v := 46) d_Name_versionLevel_30 (by decide) ?_
    generalize hce : t[i] = ch at *
    simp only [vrun, vst] at hP
    by_cases hA : ch = 46 ∧ 0 < dg ∧ nb < 3
    · rw [if_pos hA] at hP
      refine x_icmp_ne (tgt := 68) d_Name_versionLevel_32 (by decide) (fun ht => absurd (by rw [hA.1]; rfl) ht) (fun _ => ?_)
      refine x_iload d_Name_versionLevel_35 rfl ?_
      refine x_if_le (tgt := 68) d_Name_versionLevel_37 (by decide) (fun ht => absurd ht (nI_nle hA.2.1 (by omega))) (fun _ => ?_)
      refine x_iload d_Name_versionLevel_40 rfl ?_
      refine x_iconst (v := 3) d_Name_versionLevel_42 (by decide) ?_
      refine x_icmp_ge (tgt := 68) d_Name_versionLevel_43 (by decide) (fun ht => absurd ht (nI_ge (a := nb) (b := 3) hA.2.2 (by omega))) (fun _ => ?_)
      refine x_lload_n d_Name_versionLevel_46 rfl ?_
      refine x_ldc2 (v := 1000) xw_753 d_Name_versionLevel_47 ?_
      refine x_lmul d_Name_versionLevel_50 ?_
      refine x_iload d_Name_versionLevel_51 rfl ?_
      refine x_i2l d_Name_versionLevel_53 ?_
      refine x_ladd d_Name_versionLevel_54 ?_
      refine x_top (w := .long (lN (key * 1000 + num))) (by rw [nI_l (by omega), show (1000 : Int64) = lN 1000 from rfl, lN_mul, lN_add]) ?_
      refine x_lstore_n (L' := [_, _, _, _, _, _, _, _, _, _]) d_Name_versionLevel_55 rfl rfl ?_
      refine x_iconst (v := 0) d_Name_versionLevel_56 (by decide) ?_
      refine x_istore (L' := [_, _, _, _, _, _, _, _, _, _]) d_Name_versionLevel_57 rfl rfl ?_
      refine x_iconst (v := 0) d_Name_versionLevel_59 (by decide) ?_
      refine x_istore (L' := [_, _, _, _, _, _, _, _, _, _]) d_Name_versionLevel_60 rfl rfl ?_
      refine x_iinc (v := nI (nb + 1)) (L' := [_, _, _, _, _, _, _, _, _, _]) d_Name_versionLevel_62 rfl (by exact xw_iinc1) rfl rfl ?_
      refine x_goto (tgt := 119) d_Name_versionLevel_65 (by decide) ?_
      refine x_iinc (v := nI (i + 1)) (L' := [_, _, _, _, _, _, _, _, _, _]) d_Name_versionLevel_119 rfl (by exact xw_iinc1) rfl rfl ?_
      refine x_goto (tgt := 14) d_Name_versionLevel_122 (by decide) ?_
      exact ih (i + 1) _ 0 0 (nb + 1) _ (by omega) (by decide) (by omega) (by omega) (by omega) hP
    · rw [if_neg hA] at hP
      have at117 : ¬ ((48 ≤ ch ∧ ch ≤ 57) ∧ dg < 3 ∧ (dg = 0 ∨ 0 < num)) → XW l G M_Name_versionLevel (d + 1) 117 [some (.ref a), some (.int (nI f)), some (.int (nI b)), some (.long (lN key)), none, some (.int (nI num)), some (.int (nI dg)), some (.int (nI nb)), some (.int (nI i)), some (.int (nI ch))] [] h' c' n' P := by
        intro hB
        rw [if_neg hB] at hP
        refine x_lconst (v := 0) d_Name_versionLevel_117 (by decide) ?_
        refine x_lret d_Name_versionLevel_118 rfl ?_
        exact hP
      have at98 : (48 ≤ ch ∧ ch ≤ 57) ∧ dg < 3 ∧ (dg = 0 ∨ 0 < num) → XW l G M_Name_versionLevel (d + 1) 98 [some (.ref a), some (.int (nI f)), some (.int (nI b)), some (.long (lN key)), none, some (.int (nI num)), some (.int (nI dg)), some (.int (nI nb)), some (.int (nI i)), some (.int (nI ch))] [] h' c' n' P := by
        intro hB
        rw [if_pos hB] at hP
        refine x_iload d_Name_versionLevel_98 rfl ?_
        refine x_bipush (v := 10) d_Name_versionLevel_100 (by decide) ?_
        refine x_imul d_Name_versionLevel_102 ?_
        refine x_iload d_Name_versionLevel_103 rfl ?_
        refine x_bipush (v := 48) d_Name_versionLevel_105 (by decide) ?_
        refine x_isub d_Name_versionLevel_107 ?_
        refine x_iadd d_Name_versionLevel_108 ?_
        refine x_top (w := .int (nI (num * 10 + (ch - 48)))) (by rw [show (48 : Int32) = nI 48 from rfl, show (10 : Int32) = nI 10 from rfl, pk_sub hB.1.1, pk_mul, nI_add]) ?_
        refine x_istore (L' := [_, _, _, _, _, _, _, _, _, _]) d_Name_versionLevel_109 rfl rfl ?_
        refine x_iinc (v := nI (dg + 1)) (L' := [_, _, _, _, _, _, _, _, _, _]) d_Name_versionLevel_111 rfl (by exact xw_iinc1) rfl rfl ?_
        refine x_goto (tgt := 119) d_Name_versionLevel_114 (by decide) ?_
        refine x_iinc (v := nI (i + 1)) (L' := [_, _, _, _, _, _, _, _, _, _]) d_Name_versionLevel_119 rfl (by exact xw_iinc1) rfl rfl ?_
        refine x_goto (tgt := 14) d_Name_versionLevel_122 (by decide) ?_
        exact ih (i + 1) _ _ (dg + 1) nb _ (by omega) (by rw [Nat.pow_succ]; omega) (by omega) hb1 hb3 hP
      have at68 : XW l G M_Name_versionLevel (d + 1) 68 [some (.ref a), some (.int (nI f)), some (.int (nI b)), some (.long (lN key)), none, some (.int (nI num)), some (.int (nI dg)), some (.int (nI nb)), some (.int (nI i)), some (.int (nI ch))] [] h' c' n' P := by
        by_cases g1 : 48 ≤ ch
        · by_cases g2 : ch ≤ 57
          · by_cases g3 : dg < 3
            · refine x_iload d_Name_versionLevel_68 rfl ?_
              refine x_bipush (v := 48) d_Name_versionLevel_70 (by decide) ?_
              refine x_icmp_lt (tgt := 117) d_Name_versionLevel_72 (by decide) (fun ht => absurd ht (nI_nlt (b := 48) g1 (by omega))) (fun _ => ?_)
              refine x_iload d_Name_versionLevel_75 rfl ?_
              refine x_bipush (v := 57) d_Name_versionLevel_77 (by decide) ?_
              refine x_icmp_gt (tgt := 117) d_Name_versionLevel_79 (by decide) (fun ht => absurd ht (nI_nlt (a := 57) g2 (by omega))) (fun _ => ?_)
              refine x_iload d_Name_versionLevel_82 rfl ?_
              refine x_iconst (v := 3) d_Name_versionLevel_84 (by decide) ?_
              refine x_icmp_ge (tgt := 117) d_Name_versionLevel_85 (by decide) (fun ht => absurd ht (nI_ge (b := 3) g3 (by omega))) (fun _ => ?_)
              refine x_iload d_Name_versionLevel_88 rfl ?_
              by_cases g4 : dg = 0
              · subst g4
                refine x_if_eq (tgt := 98) d_Name_versionLevel_90 (by decide) (fun _ => ?_) (fun hn => absurd rfl hn)
                exact at98 ⟨⟨g1, g2⟩, g3, Or.inl rfl⟩
              · refine x_if_eq (tgt := 98) d_Name_versionLevel_90 (by decide) (fun ht => absurd ht (nI_ne0 (by omega) (by omega))) (fun _ => ?_)
                refine x_iload d_Name_versionLevel_93 rfl ?_
                by_cases g5 : num = 0
                · subst g5
                  refine x_if_le (tgt := 117) d_Name_versionLevel_95 (by decide) (fun _ => ?_) (fun hn => absurd (by decide) hn)
                  exact at117 (fun z => by omega)
                · refine x_if_le (tgt := 117) d_Name_versionLevel_95 (by decide) (fun ht => absurd ht (nI_nle (by omega) (by omega))) (fun _ => ?_)
                  exact at98 ⟨⟨g1, g2⟩, g3, Or.inr (by omega)⟩
            · refine x_iload d_Name_versionLevel_68 rfl ?_
              refine x_bipush (v := 48) d_Name_versionLevel_70 (by decide) ?_
              refine x_icmp_lt (tgt := 117) d_Name_versionLevel_72 (by decide) (fun ht => absurd ht (nI_nlt (b := 48) g1 (by omega))) (fun _ => ?_)
              refine x_iload d_Name_versionLevel_75 rfl ?_
              refine x_bipush (v := 57) d_Name_versionLevel_77 (by decide) ?_
              refine x_icmp_gt (tgt := 117) d_Name_versionLevel_79 (by decide) (fun ht => absurd ht (nI_nlt (a := 57) g2 (by omega))) (fun _ => ?_)
              refine x_iload d_Name_versionLevel_82 rfl ?_
              refine x_iconst (v := 3) d_Name_versionLevel_84 (by decide) ?_
              refine x_icmp_ge (tgt := 117) d_Name_versionLevel_85 (by decide) (fun _ => ?_) (fun hn => absurd (nI_le (a := 3) (by omega) (by omega)) hn)
              exact at117 (fun z => g3 z.2.1)
          · refine x_iload d_Name_versionLevel_68 rfl ?_
            refine x_bipush (v := 48) d_Name_versionLevel_70 (by decide) ?_
            refine x_icmp_lt (tgt := 117) d_Name_versionLevel_72 (by decide) (fun ht => absurd ht (nI_nlt (b := 48) g1 (by omega))) (fun _ => ?_)
            refine x_iload d_Name_versionLevel_75 rfl ?_
            refine x_bipush (v := 57) d_Name_versionLevel_77 (by decide) ?_
            refine x_icmp_gt (tgt := 117) d_Name_versionLevel_79 (by decide) (fun _ => ?_) (fun hn => absurd (nI_lt (a := 57) (by omega) (by omega)) hn)
            exact at117 (fun z => g2 z.1.2)
        · refine x_iload d_Name_versionLevel_68 rfl ?_
          refine x_bipush (v := 48) d_Name_versionLevel_70 (by decide) ?_
          refine x_icmp_lt (tgt := 117) d_Name_versionLevel_72 (by decide) (fun _ => ?_) (fun hn => absurd (nI_lt (b := 48) (by omega) (by omega)) hn)
          exact at117 (fun z => g1 z.1.1)
      by_cases g1 : ch = 46
      · by_cases g2 : dg = 0
        · subst g2
          refine x_icmp_ne (tgt := 68) d_Name_versionLevel_32 (by decide) (fun ht => absurd (by rw [g1]; rfl) ht) (fun _ => ?_)
          refine x_iload d_Name_versionLevel_35 rfl ?_
          refine x_if_le (tgt := 68) d_Name_versionLevel_37 (by decide) (fun _ => ?_) (fun hn => absurd (by decide) hn)
          exact at68
        · refine x_icmp_ne (tgt := 68) d_Name_versionLevel_32 (by decide) (fun ht => absurd (by rw [g1]; rfl) ht) (fun _ => ?_)
          refine x_iload d_Name_versionLevel_35 rfl ?_
          refine x_if_le (tgt := 68) d_Name_versionLevel_37 (by decide) (fun ht => absurd ht (nI_nle (by omega) (by omega))) (fun _ => ?_)
          refine x_iload d_Name_versionLevel_40 rfl ?_
          refine x_iconst (v := 3) d_Name_versionLevel_42 (by decide) ?_
          refine x_icmp_ge (tgt := 68) d_Name_versionLevel_43 (by decide) (fun _ => ?_) (fun hn => absurd (nI_le (a := 3) (by omega) (by omega)) hn)
          exact at68
      · refine x_icmp_ne (tgt := 68) d_Name_versionLevel_32 (by decide) (fun _ => ?_) (fun hn => absurd hn (fun z => g1 ((nI_eq (b := 46) (by omega) (by omega)).mp z)))
        exact at68
theorem c_versionLevel (hG : xGk G) (hd : 4 ≤ d) {a f m : Nat} {t : List Nat} (hS : isS G h a t) (hm : f + m ≤ t.length) (hl : t.length < 2 ^ 20) : XM l G d M_Name_versionLevel [.ref a, .int (nI f), .int (nI (f + m))] h c n (xSame (.long (lN (vsl ((t.drop f).take m)))) h c n) := by
  refine XM.of (by decide +kernel) (Nat.le_of_ble_eq_true rfl) ?_
  refine x_lconst (v := 0) d_Name_versionLevel_0 (by decide) ?_
  refine x_lstore_n (L' := [_, _, _, _, _, _, _, _, _, _]) d_Name_versionLevel_1 rfl rfl ?_
  refine x_iconst (v := 0) d_Name_versionLevel_2 (by decide) ?_
  refine x_istore (L' := [_, _, _, _, _, _, _, _, _, _]) d_Name_versionLevel_3 rfl rfl ?_
  refine x_iconst (v := 0) d_Name_versionLevel_5 (by decide) ?_
  refine x_istore (L' := [_, _, _, _, _, _, _, _, _, _]) d_Name_versionLevel_6 rfl rfl ?_
  refine x_iconst (v := 1) d_Name_versionLevel_8 (by decide) ?_
  refine x_istore (L' := [_, _, _, _, _, _, _, _, _, _]) d_Name_versionLevel_9 rfl rfl ?_
  refine x_iload_n d_Name_versionLevel_11 rfl ?_
  refine x_istore (L' := [_, _, _, _, _, _, _, _, _, _]) d_Name_versionLevel_12 rfl rfl ?_
  exact lp_ver1 hG hd hS hm hl m f 0 0 0 1 none rfl (by decide) (by omega) (by omega) (by omega) ⟨rfl, rfl, rfl, rfl⟩
end NM2
end
section
section
abbrev y_Name_levelOf : MethodName := ⟨"MarkerText$Name", "levelOf", "(Ljava/lang/String;II)J"⟩
abbrev M_Name_levelOf : XMt := (y_Name_levelOf, prog_6_method_4_code, 4, (some .long))
theorem d_Name_levelOf_0 : decode M_Name_levelOf.2.1 0 = .ok (.aload_n 0, 1) := by decide +kernel
theorem d_Name_levelOf_1 : decode M_Name_levelOf.2.1 1 = .ok (.getfield 23, 3) := by decide +kernel
theorem xw_722 : (Jvm.Cond.fieldLink "MarkerText$Name" (23 : Nat) "MarkerText$Name" "kind" "I") ∈ xT := xT_at 722 (by decide +kernel) (by decide +kernel)
theorem xf_Name_23_Name : xF "MarkerText$Name" 23 k_Name 1 := ⟨_, _, _, "MarkerText$Name", rfl, by decide, Or.inl xw_722, Or.inl rfl⟩
theorem d_Name_levelOf_4 : decode M_Name_levelOf.2.1 4 = .ok (.iconst 1, 1) := by decide +kernel
theorem d_Name_levelOf_5 : decode M_Name_levelOf.2.1 5 = .ok (.if_icmp .ne 12, 3) := by decide +kernel
theorem d_Name_levelOf_8 : decode M_Name_levelOf.2.1 8 = .ok (.aload_n 1, 1) := by decide +kernel
theorem d_Name_levelOf_9 : decode M_Name_levelOf.2.1 9 = .ok (.iload_n 2, 1) := by decide +kernel
theorem d_Name_levelOf_10 : decode M_Name_levelOf.2.1 10 = .ok (.iload_n 3, 1) := by decide +kernel
theorem d_Name_levelOf_11 : decode M_Name_levelOf.2.1 11 = .ok (.invokestatic 26, 3) := by decide +kernel
theorem xw_751 : (Jvm.Cond.code ({ cls := "MarkerText$Name", name := "versionLevel", desc := "(Ljava/lang/String;II)J" } : Jvm.MethodName) prog_6_method_6_code (10 : Nat) (Option.some Jvm.ClassFile.FieldType.long)) ∈ xT := xT_at 751 (by decide +kernel) (by decide +kernel)
theorem xw_21 : (Jvm.Cond.initialized "MarkerText$Name") ∈ xT := xT_at 21 (by decide +kernel) (by decide +kernel)
theorem xcb_Name_versionLevel : xcb M_Name_versionLevel 3 := ⟨xw_751, xw_21, by decide, by decide, by decide, by decide +kernel⟩
theorem xw_749 : (Jvm.Cond.methodLink "MarkerText$Name" (26 : Nat) ({ cls := "MarkerText$Name", name := "versionLevel", desc := "(Ljava/lang/String;II)J" } : Jvm.MethodName)) ∈ xT := xT_at 749 (by decide +kernel) (by decide +kernel)
theorem xw_750 : (Jvm.Cond.static ({ cls := "MarkerText$Name", name := "versionLevel", desc := "(Ljava/lang/String;II)J" } : Jvm.MethodName)) ∈ xT := xT_at 750 (by decide +kernel) (by decide +kernel)
theorem xcs_Name_26 : xCS "MarkerText$Name" 26 M_Name_versionLevel 3 := ⟨xcb_Name_versionLevel, xw_750, Or.inl xw_749⟩
theorem d_Name_levelOf_14 : decode M_Name_levelOf.2.1 14 = .ok (.goto 9, 3) := by decide +kernel
theorem d_Name_levelOf_23 : decode M_Name_levelOf.2.1 23 = .ok (.lreturn, 1) := by decide +kernel
theorem d_Name_levelOf_17 : decode M_Name_levelOf.2.1 17 = .ok (.aload_n 1, 1) := by decide +kernel
theorem d_Name_levelOf_18 : decode M_Name_levelOf.2.1 18 = .ok (.iload_n 2, 1) := by decide +kernel
theorem d_Name_levelOf_19 : decode M_Name_levelOf.2.1 19 = .ok (.iload_n 3, 1) := by decide +kernel
theorem d_Name_levelOf_20 : decode M_Name_levelOf.2.1 20 = .ok (.invokestatic 30, 3) := by decide +kernel
theorem xw_757 : (Jvm.Cond.code ({ cls := "MarkerText$Name", name := "textLevel", desc := "(Ljava/lang/String;II)J" } : Jvm.MethodName) prog_6_method_5_code (8 : Nat) (Option.some Jvm.ClassFile.FieldType.long)) ∈ xT := xT_at 757 (by decide +kernel) (by decide +kernel)
theorem xcb_Name_textLevel : xcb M_Name_textLevel 3 := ⟨xw_757, xw_21, by decide, by decide, by decide, by decide +kernel⟩
theorem xw_755 : (Jvm.Cond.methodLink "MarkerText$Name" (30 : Nat) ({ cls := "MarkerText$Name", name := "textLevel", desc := "(Ljava/lang/String;II)J" } : Jvm.MethodName)) ∈ xT := xT_at 755 (by decide +kernel) (by decide +kernel)
theorem xw_756 : (Jvm.Cond.static ({ cls := "MarkerText$Name", name := "textLevel", desc := "(Ljava/lang/String;II)J" } : Jvm.MethodName)) ∈ xT := xT_at 756 (by decide +kernel) (by decide +kernel)
theorem xcs_Name_30 : xCS "MarkerText$Name" 30 M_Name_textLevel 3 := ⟨xcb_Name_textLevel, xw_756, Or.inl xw_755⟩
abbrev y_Name_knows : MethodName := ⟨"MarkerText$Name", "knows", "(J)Z"⟩
abbrev M_Name_knows : XMt := (y_Name_knows, prog_6_method_2_code, 4, (some .boolean))
theorem d_Name_knows_2 : decode M_Name_knows.2.1 2 = .ok (.iload_n 3, 1) := by decide +kernel
theorem d_Name_knows_3 : decode M_Name_knows.2.1 3 = .ok (.aload_n 0, 1) := by decide +kernel
theorem d_Name_knows_4 : decode M_Name_knows.2.1 4 = .ok (.getfield 15, 3) := by decide +kernel
theorem xw_725 : (Jvm.Cond.fieldLink "MarkerText$Name" (15 : Nat) "MarkerText$Name" "knownCount" "I") ∈ xT := xT_at 725 (by decide +kernel) (by decide +kernel)
theorem xf_Name_15_Name : xF "MarkerText$Name" 15 k_Name 3 := ⟨_, _, _, "MarkerText$Name", rfl, by decide, Or.inl xw_725, Or.inl rfl⟩
theorem d_Name_knows_7 : decode M_Name_knows.2.1 7 = .ok (.if_icmp .ge 22, 3) := by decide +kernel
theorem d_Name_knows_29 : decode M_Name_knows.2.1 29 = .ok (.iconst 0, 1) := by decide +kernel
theorem d_Name_knows_30 : decode M_Name_knows.2.1 30 = .ok (.ireturn, 1) := by decide +kernel
theorem d_Name_knows_10 : decode M_Name_knows.2.1 10 = .ok (.aload_n 0, 1) := by decide +kernel
theorem d_Name_knows_11 : decode M_Name_knows.2.1 11 = .ok (.getfield 9, 3) := by decide +kernel
theorem xw_723 : (Jvm.Cond.fieldLink "MarkerText$Name" (9 : Nat) "MarkerText$Name" "known" "[J") ∈ xT := xT_at 723 (by decide +kernel) (by decide +kernel)
theorem xf_Name_9_Name : xF "MarkerText$Name" 9 k_Name 2 := ⟨_, _, _, "MarkerText$Name", rfl, by decide, Or.inl xw_723, Or.inl rfl⟩
theorem d_Name_knows_14 : decode M_Name_knows.2.1 14 = .ok (.iload_n 3, 1) := by decide +kernel
theorem d_Name_knows_15 : decode M_Name_knows.2.1 15 = .ok (.laload, 1) := by decide +kernel
theorem d_Name_knows_16 : decode M_Name_knows.2.1 16 = .ok (.lload_n 1, 1) := by decide +kernel
theorem d_Name_knows_17 : decode M_Name_knows.2.1 17 = .ok (.lcmp, 1) := by decide +kernel
theorem d_Name_knows_18 : decode M_Name_knows.2.1 18 = .ok (.ifCond .ne 5, 3) := by decide +kernel
theorem d_Name_knows_21 : decode M_Name_knows.2.1 21 = .ok (.iconst 1, 1) := by decide +kernel
theorem d_Name_knows_22 : decode M_Name_knows.2.1 22 = .ok (.ireturn, 1) := by decide +kernel
theorem d_Name_knows_23 : decode M_Name_knows.2.1 23 = .ok (.iinc 3 1, 3) := by decide +kernel
theorem d_Name_knows_26 : decode M_Name_knows.2.1 26 = .ok (.goto (-24), 3) := by decide +kernel
theorem d_Name_knows_0 : decode M_Name_knows.2.1 0 = .ok (.iconst 0, 1) := by decide +kernel
theorem d_Name_knows_1 : decode M_Name_knows.2.1 1 = .ok (.istore_n 3, 1) := by decide +kernel
abbrev y_Name_learn : MethodName := ⟨"MarkerText$Name", "learn", "(J)V"⟩
abbrev M_Name_learn : XMt := (y_Name_learn, prog_6_method_3_code, 3, none)
theorem d_Name_learn_0 : decode M_Name_learn.2.1 0 = .ok (.aload_n 0, 1) := by decide +kernel
theorem d_Name_learn_1 : decode M_Name_learn.2.1 1 = .ok (.getfield 15, 3) := by decide +kernel
theorem d_Name_learn_4 : decode M_Name_learn.2.1 4 = .ok (.bipush 6, 2) := by decide +kernel
theorem d_Name_learn_6 : decode M_Name_learn.2.1 6 = .ok (.if_icmp .ge 23, 3) := by decide +kernel
theorem d_Name_learn_9 : decode M_Name_learn.2.1 9 = .ok (.aload_n 0, 1) := by decide +kernel
theorem d_Name_learn_10 : decode M_Name_learn.2.1 10 = .ok (.getfield 9, 3) := by decide +kernel
theorem d_Name_learn_13 : decode M_Name_learn.2.1 13 = .ok (.aload_n 0, 1) := by decide +kernel
theorem d_Name_learn_14 : decode M_Name_learn.2.1 14 = .ok (.getfield 15, 3) := by decide +kernel
theorem d_Name_learn_17 : decode M_Name_learn.2.1 17 = .ok (.lload_n 1, 1) := by decide +kernel
theorem d_Name_learn_18 : decode M_Name_learn.2.1 18 = .ok (.lastore, 1) := by decide +kernel
theorem d_Name_learn_19 : decode M_Name_learn.2.1 19 = .ok (.aload_n 0, 1) := by decide +kernel
theorem d_Name_learn_20 : decode M_Name_learn.2.1 20 = .ok (.dup, 1) := by decide +kernel
theorem d_Name_learn_21 : decode M_Name_learn.2.1 21 = .ok (.getfield 15, 3) := by decide +kernel
theorem d_Name_learn_24 : decode M_Name_learn.2.1 24 = .ok (.iconst 1, 1) := by decide +kernel
theorem d_Name_learn_25 : decode M_Name_learn.2.1 25 = .ok (.iadd, 1) := by decide +kernel
theorem d_Name_learn_26 : decode M_Name_learn.2.1 26 = .ok (.putfield 15, 3) := by decide +kernel
theorem xp_Name_3 : xP k_Name 3 false .int := ⟨_, _, _, rfl, rfl, by decide +kernel⟩
theorem d_Name_learn_29 : decode M_Name_learn.2.1 29 = .ok (.return_, 1) := by decide +kernel
abbrev y_Name_init : MethodName := ⟨"MarkerText$Name", "<init>", "(Ljava/lang/String;I)V"⟩
abbrev M_Name_init : XMt := (y_Name_init, prog_6_method_1_code, 3, none)
theorem d_Name_init_0 : decode M_Name_init.2.1 0 = .ok (.aload_n 0, 1) := by decide +kernel
theorem d_Name_init_1 : decode M_Name_init.2.1 1 = .ok (.invokespecial 3, 3) := by decide +kernel
theorem xw_718 : (Jvm.Cond.methodLink "MarkerText$Name" (3 : Nat) ({ cls := "java/lang/Object", name := "<init>", desc := "()V" } : Jvm.MethodName)) ∈ xT := xT_at 718 (by decide +kernel) (by decide +kernel)
theorem d_Name_init_4 : decode M_Name_init.2.1 4 = .ok (.aload_n 0, 1) := by decide +kernel
theorem d_Name_init_5 : decode M_Name_init.2.1 5 = .ok (.bipush 6, 2) := by decide +kernel
theorem d_Name_init_7 : decode M_Name_init.2.1 7 = .ok (.newarray .long, 2) := by decide +kernel
theorem xw_110 : (Jvm.Cond.arrayClass Jvm.ClassFile.FieldType.long) ∈ xT := xT_at 110 (by decide +kernel) (by decide +kernel)
theorem d_Name_init_9 : decode M_Name_init.2.1 9 = .ok (.putfield 9, 3) := by decide +kernel
theorem xp_Name_2 : xP k_Name 2 true (.array .long) := ⟨_, _, _, rfl, rfl, by decide +kernel⟩
theorem d_Name_init_12 : decode M_Name_init.2.1 12 = .ok (.aload_n 0, 1) := by decide +kernel
theorem d_Name_init_13 : decode M_Name_init.2.1 13 = .ok (.iconst 0, 1) := by decide +kernel
theorem d_Name_init_14 : decode M_Name_init.2.1 14 = .ok (.putfield 15, 3) := by decide +kernel
theorem d_Name_init_17 : decode M_Name_init.2.1 17 = .ok (.aload_n 0, 1) := by decide +kernel
theorem d_Name_init_18 : decode M_Name_init.2.1 18 = .ok (.aload_n 1, 1) := by decide +kernel
theorem d_Name_init_19 : decode M_Name_init.2.1 19 = .ok (.putfield 19, 3) := by decide +kernel
theorem xw_719 : (Jvm.Cond.fieldLink "MarkerText$Name" (19 : Nat) "MarkerText$Name" "spelling" "Ljava/lang/String;") ∈ xT := xT_at 719 (by decide +kernel) (by decide +kernel)
theorem xf_Name_19_Name : xF "MarkerText$Name" 19 k_Name 0 := ⟨_, _, _, "MarkerText$Name", rfl, by decide, Or.inl xw_719, Or.inl rfl⟩
theorem xp_Name_0 : xP k_Name 0 true (.object "java/lang/String") := ⟨_, _, _, rfl, rfl, by decide +kernel⟩
theorem d_Name_init_22 : decode M_Name_init.2.1 22 = .ok (.aload_n 0, 1) := by decide +kernel
theorem d_Name_init_23 : decode M_Name_init.2.1 23 = .ok (.iload_n 2, 1) := by decide +kernel
theorem d_Name_init_24 : decode M_Name_init.2.1 24 = .ok (.putfield 23, 3) := by decide +kernel
theorem xp_Name_1 : xP k_Name 1 true .int := ⟨_, _, _, rfl, rfl, by decide +kernel⟩
theorem d_Name_init_27 : decode M_Name_init.2.1 27 = .ok (.return_, 1) := by decide +kernel
abbrev y_MT_isLetter : MethodName := ⟨"MarkerText", "isLetter", "(C)Z"⟩
abbrev M_MT_isLetter : XMt := (y_MT_isLetter, prog_1_method_22_code, 1, (some .boolean))
theorem d_MT_isLetter_0 : decode M_MT_isLetter.2.1 0 = .ok (.iload_n 0, 1) := by decide +kernel
theorem d_MT_isLetter_1 : decode M_MT_isLetter.2.1 1 = .ok (.bipush 97, 2) := by decide +kernel
theorem d_MT_isLetter_3 : decode M_MT_isLetter.2.1 3 = .ok (.if_icmp .lt 13, 3) := by decide +kernel
theorem d_MT_isLetter_6 : decode M_MT_isLetter.2.1 6 = .ok (.iload_n 0, 1) := by decide +kernel
theorem d_MT_isLetter_7 : decode M_MT_isLetter.2.1 7 = .ok (.bipush 122, 2) := by decide +kernel
theorem d_MT_isLetter_9 : decode M_MT_isLetter.2.1 9 = .ok (.if_icmp .gt 7, 3) := by decide +kernel
theorem d_MT_isLetter_12 : decode M_MT_isLetter.2.1 12 = .ok (.iconst 1, 1) := by decide +kernel
theorem d_MT_isLetter_13 : decode M_MT_isLetter.2.1 13 = .ok (.goto 4, 3) := by decide +kernel
theorem d_MT_isLetter_17 : decode M_MT_isLetter.2.1 17 = .ok (.ireturn, 1) := by decide +kernel
theorem d_MT_isLetter_16 : decode M_MT_isLetter.2.1 16 = .ok (.iconst 0, 1) := by decide +kernel
end
section NM3
variable {l : Launch} {G : XG} {h : XH} {c n d : Nat}
/-- the level of a VALUE of a KIND -/
def klv (kd : Nat) (u : List Nat) : Nat := if kd = 1 then vsl u else txl u
theorem xno1 {a k : Nat} {vs : List Value} {ks : List Nat} (ha : h a = some (k, vs)) (hk : k ∉ ks) : xno h [a] ks := by
  intro q hq e he
  rw [List.mem_singleton] at hq
  subst hq
  rw [ha] at he
  cases he
  exact hk
theorem xno.ap {F F' ks : List Nat} (h1 : xno h F ks) (h2 : xno h F' ks) : xno h (F ++ F') ks := by
  intro q hq e he
  rcases List.mem_append.mp hq with z | z
  · exact h1 q z e he
  · exact h2 q z e he
theorem xno2 {a b k k' : Nat} {vs vs' : List Value} {ks : List Nat} (ha : h a = some (k, vs)) (hb : h b = some (k', vs')) (hk : k ∉ ks) (hk' : k' ∉ ks) : xno h [a, b] ks := (xno1 ha hk).ap (xno1 hb hk')
/-- two cells of two kinds are two -/
theorem xne {a b k k' : Nat} {vs vs' : List Value} (ha : h a = some (k, vs)) (hb : h b = some (k', vs')) (hk : k ≠ k') : a ≠ b := fun e => by
  rw [e, hb] at ha
  cases ha
  exact hk rfl
theorem xneN {a b k : Nat} {vs : List Value} (ha : h a = some (k, vs)) (hb : h b = none) : a ≠ b := fun e => by rw [e, hb] at ha; cases ha
/-- an array of levels, filled up with 0 -/
def xlv (N : Nat) (ks : List Nat) : List Value := ks.map (fun v => .long (lN v)) ++ List.replicate (N - ks.length) (.long 0)
theorem xlv_at {N i : Nat} {ks : List Nat} (hi : i < ks.length) : (xlv N ks)[i]? = some (.long (lN ks[i])) := by
  unfold xlv
  rw [List.getElem?_append_left (by simpa using hi), List.getElem?_map, List.getElem?_eq_getElem hi]
  rfl
theorem xlv_push {N v : Nat} {ks : List Nat} (hi : ks.length < N) : (xlv N ks).set ks.length (.long (lN v)) = xlv N (ks ++ [v]) := by
  unfold xlv
  rw [List.set_append_right _ _ (by simp)]
  obtain ⟨k, hk⟩ : ∃ k, N - ks.length = k + 1 := ⟨N - ks.length - 1, by omega⟩
  rw [List.length_map, Nat.sub_self, hk, List.replicate_succ, List.set_cons_zero, List.map_append, List.length_append, List.length_singleton, show N - (ks.length + 1) = k by omega, List.append_assoc]
  rfl
theorem xlv_end {N : Nat} {ks : List Nat} (hi : ks.length < N) : (xlv N ks)[ks.length]? = some (.long 0) := by
  unfold xlv
  rw [List.getElem?_append_right (by simp), List.length_map, Nat.sub_self, List.getElem?_replicate, if_pos (by omega)]
/-- a Name: its spelling, KIND and levels that are known -/
def isN (G : XG) (h : XH) (a ka : Nat) (w : List Nat) (kd : Nat) (ks : List Nat) : Prop := ∃ sa, h a = some (k_Name, [.ref sa, .int (nI kd), .ref ka, .int (nI ks.length)]) ∧ isS G h sa w ∧ h ka = some (k_aknown, xlv 6 ks) ∧ ks.length ≤ 6 ∧ kd < 2 ∧ ∀ v ∈ ks, v < 2 ^ 63
theorem isN.fr {h' : XH} {F : List Nat} {a ka kd : Nat} {w ks : List Nat} (hN : isN G h a ka w kd ks) (hf : xfr h h' F) (hn : xno h F [k_String, k_asbyte]) (h1 : a ∉ F) (h2 : ka ∉ F) : isN G h' a ka w kd ks := by
  obtain ⟨sa, e1, e2, e3, e4⟩ := hN
  exact ⟨sa, hf.1 _ _ e1 h1, e2.fr hf hn, hf.1 _ _ e3 h2, e4⟩
theorem c_levelOf (hG : xGk G) (hd : 5 ≤ d) {o ka a f m kd : Nat} {t w ks : List Nat} (hN : isN G h o ka w kd ks) (hS : isS G h a t) (hm : f + m ≤ t.length) (hl : t.length < 2 ^ 20) : XM l G d M_Name_levelOf [.ref o, .ref a, .int (nI f), .int (nI (f + m))] h c n (xSame (.long (lN (klv kd ((t.drop f).take m)))) h c n) := by
  obtain ⟨d, rfl⟩ : ∃ q, d = q + 1 := ⟨d - 1, by omega⟩
  obtain ⟨sa, ho, -, -, -, hkd, -⟩ := hN
  refine XM.of (by decide +kernel) (Nat.le_of_ble_eq_true rfl) ?_
  refine x_aload_n d_Name_levelOf_0 rfl rfl ?_
  refine x_get xf_Name_23_Name (Or.inl ho) rfl d_Name_levelOf_1 ?_
  refine x_iconst (v := 1) d_Name_levelOf_4 (by decide) ?_
  unfold klv
  by_cases h1 : kd = 1
  · subst h1
    rw [if_pos rfl]
    refine x_icmp_ne (tgt := 17) d_Name_levelOf_5 (by decide) (fun ht => absurd rfl ht) (fun _ => ?_)
    refine x_aload_n d_Name_levelOf_8 rfl rfl ?_
    refine x_iload_n d_Name_levelOf_9 rfl ?_
    refine x_iload_n d_Name_levelOf_10 rfl ?_
    refine x_callS (As := [_, _, _]) xcs_Name_26 (c_versionLevel hG (by omega) hS hm hl) rfl rfl (Nat.le_of_ble_eq_true rfl) d_Name_levelOf_11 ?_
    rintro v h' c' n' ⟨rfl, rfl, rfl, rfl⟩
    refine x_goto (tgt := 23) d_Name_levelOf_14 (by decide) ?_
    refine x_lret d_Name_levelOf_23 rfl ?_
    exact ⟨rfl, rfl, rfl, rfl⟩
  · rw [if_neg h1]
    refine x_icmp_ne (tgt := 17) d_Name_levelOf_5 (by decide) (fun _ => ?_) (fun hn => absurd hn (fun z => h1 ((nI_eq (b := 1) (by omega) (by omega)).mp z)))
    refine x_aload_n d_Name_levelOf_17 rfl rfl ?_
    refine x_iload_n d_Name_levelOf_18 rfl ?_
    refine x_iload_n d_Name_levelOf_19 rfl ?_
    refine x_callS (As := [_, _, _]) xcs_Name_30 (c_textLevel hG (by omega) hS hm hl) rfl rfl (Nat.le_of_ble_eq_true rfl) d_Name_levelOf_20 ?_
    rintro v h' c' n' ⟨rfl, rfl, rfl, rfl⟩
    refine x_lret d_Name_levelOf_23 rfl ?_
    exact ⟨rfl, rfl, rfl, rfl⟩
theorem c_knows {o ka v kd : Nat} {w ks : List Nat} (hN : isN G h o ka w kd ks) (hv : v < 2 ^ 63) : XM l G d M_Name_knows [.ref o, .long (lN v)] h c n (xSame (.int (if v ∈ ks then 1 else 0)) h c n) := by
  obtain ⟨sa, ho, -, hka, hl, -, hb⟩ := hN
  refine XM.of (by decide +kernel) (Nat.le_of_ble_eq_true rfl) ?_
  have lp : ∀ (k i : Nat), i + k = ks.length → (∀ j (hj : j < ks.length), j < i → ks[j] ≠ v) → XW l G M_Name_knows d 2 [some (.ref o), some (.long (lN v)), none, some (.int (nI i))] [] h c n (xSame (.int (if v ∈ ks then 1 else 0)) h c n) := by
    intro k
    induction k with
    | zero =>
      intro i hi hj
      have hno : v ∉ ks := fun z => by
        obtain ⟨j, h1, h2⟩ := List.getElem_of_mem z
        exact hj j h1 (by omega) h2
      rw [if_neg hno]
      refine x_iload_n d_Name_knows_2 rfl ?_
      refine x_aload_n d_Name_knows_3 rfl rfl ?_
      refine x_get xf_Name_15_Name (Or.inl ho) rfl d_Name_knows_4 ?_
      refine x_icmp_ge (tgt := 29) d_Name_knows_7 (by decide) (fun _ => ?_) (fun hn => absurd (nI_le (by omega) (by omega)) hn)
      refine x_iconst (v := 0) d_Name_knows_29 (by decide) ?_
      refine x_zret d_Name_knows_30 rfl rfl ?_
      exact ⟨rfl, rfl, rfl, rfl⟩
    | succ k ih =>
      intro i hi hj
      have hil : i < ks.length := by omega
      refine x_iload_n d_Name_knows_2 rfl ?_
      refine x_aload_n d_Name_knows_3 rfl rfl ?_
      refine x_get xf_Name_15_Name (Or.inl ho) rfl d_Name_knows_4 ?_
      refine x_icmp_ge (tgt := 29) d_Name_knows_7 (by decide) (fun ht => absurd ht (nI_ge (by omega) (by omega))) (fun _ => ?_)
      refine x_aload_n d_Name_knows_10 rfl rfl ?_
      refine x_get xf_Name_9_Name (Or.inl ho) rfl d_Name_knows_11 ?_
      refine x_iload_n d_Name_knows_14 rfl ?_
      refine x_lald (k := k_aknown) rfl (Or.inl hka) (nI_pos (by omega)) (by rw [nI_clamp (by omega)]; exact xlv_at hil) d_Name_knows_15 ?_
      refine x_lload_n d_Name_knows_16 rfl ?_
      refine x_lcmp d_Name_knows_17 ?_
      by_cases he : ks[i] = v
      · rw [if_pos (he ▸ List.getElem_mem hil)]
        refine x_if_ne (tgt := 23) d_Name_knows_18 (by decide) (fun ht => absurd ((lg_cmp_eq _ _).mpr (by rw [he])) ht) (fun _ => ?_)
        refine x_iconst (v := 1) d_Name_knows_21 (by decide) ?_
        refine x_zret d_Name_knows_22 rfl rfl ?_
        exact ⟨rfl, rfl, rfl, rfl⟩
      · refine x_if_ne (tgt := 23) d_Name_knows_18 (by decide) (fun _ => ?_) (fun hn => absurd hn (fun z => he ((pk_lEQ (hb _ (List.getElem_mem hil)) hv).mp ((lg_cmp_eq _ _).mp z))))
        refine x_iinc (v := nI (i + 1)) (L' := [_, _, _, _]) d_Name_knows_23 rfl (by exact xw_iinc1) rfl rfl ?_
        refine x_goto (tgt := 2) d_Name_knows_26 (by decide) ?_
        refine ih (i + 1) (by omega) (fun j h1 h2 => ?_)
        by_cases hji : j = i
        · subst hji; exact he
        · exact hj j h1 (by omega)
  refine x_iconst (v := 0) d_Name_knows_0 (by decide) ?_
  refine x_istore_n (L' := [_, _, _, _]) d_Name_knows_1 rfl rfl ?_
  exact lp ks.length 0 (by omega) (fun j h1 h2 => by omega)
theorem c_learn {o ka v kd : Nat} {w ks : List Nat} (hN : isN G h o ka w kd ks) (hv : v < 2 ^ 63) (h6 : ks.length < 6) : XM l G d M_Name_learn [.ref o, .long (lN v)] h c n (fun r h' c' n' => r = none ∧ isN G h' o ka w kd (ks ++ [v]) ∧ xfr h h' [o, ka] ∧ c' = c ∧ n' = n) := by
  obtain ⟨sa, ho, hs, hka, hl, hkd, hb⟩ := hN
  have hok : o ≠ ka := xne ho hka (by decide)
  refine XM.of (by decide +kernel) (Nat.le_of_ble_eq_true rfl) ?_
  refine x_aload_n d_Name_learn_0 rfl rfl ?_
  refine x_get xf_Name_15_Name (Or.inl ho) rfl d_Name_learn_1 ?_
  refine x_bipush (v := 6) d_Name_learn_4 (by decide) ?_
  refine x_icmp_ge (tgt := 29) d_Name_learn_6 (by decide) (fun ht => absurd ht (nI_ge (b := 6) (by omega) (by omega))) (fun _ => ?_)
  refine x_aload_n d_Name_learn_9 rfl rfl ?_
  refine x_get xf_Name_9_Name (Or.inl ho) rfl d_Name_learn_10 ?_
  refine x_aload_n d_Name_learn_13 rfl rfl ?_
  refine x_get xf_Name_15_Name (Or.inl ho) rfl d_Name_learn_14 ?_
  refine x_lload_n d_Name_learn_17 rfl ?_
  refine x_last (k := k_aknown) rfl hka (nI_pos (by omega)) (by rw [nI_clamp (by omega)]; exact xlv_end h6) d_Name_learn_18 ?_
  rw [nI_clamp (by omega), xlv_push h6]
  have ho' : xup h ka (k_aknown, xlv 6 (ks ++ [v])) o = some (k_Name, [.ref sa, .int (nI kd), .ref ka, .int (nI ks.length)]) := by rw [xup_ne hok]; exact ho
  refine x_aload_n d_Name_learn_19 rfl rfl ?_
  refine x_dup d_Name_learn_20 rfl ?_
  refine x_get xf_Name_15_Name (Or.inl ho') rfl d_Name_learn_21 ?_
  refine x_iconst (v := 1) d_Name_learn_24 (by decide) ?_
  refine x_iadd d_Name_learn_25 ?_
  refine x_top (w := .int (nI (ks ++ [v]).length)) (by rw [show (1 : Int32) = nI 1 from rfl, nI_add]; simp) ?_
  refine x_put xf_Name_15_Name xp_Name_3 rfl rfl ho' rfl rfl d_Name_learn_26 ?_
  refine x_vret d_Name_learn_29 rfl ?_
  have hf : xfr h (xup (xup h ka (k_aknown, xlv 6 (ks ++ [v]))) o (k_Name, [.ref sa, .int (nI kd), .ref ka, .int (nI (ks ++ [v]).length)])) [o, ka] := (xfr.rf.up (Or.inl (by simp))).up (Or.inl (by simp))
  refine ⟨rfl, ⟨sa, xup_self, hs.fr hf (xno2 ho hka (by decide) (by decide)), (by rw [xup_ne (Ne.symm hok), xup_self]), (by simp; omega), hkd, fun x hx => ?_⟩, hf, rfl, rfl⟩
  rcases List.mem_append.mp hx with z | z
  · exact hb x z
  · rw [List.mem_singleton] at z; rw [z]; exact hv
theorem c_Name_init (hd : 1 ≤ d) {o sa kd : Nat} {w : List Nat} (ho : h o = some (k_Name, [.null, .int 0, .null, .int 0])) (hs : isS G h sa w) (hkd : kd < 2) (hc : c + 1 ≤ xCB) (hn : n + 6 ≤ xSB) : XM l G d M_Name_init [.ref o, .ref sa, .int (nI kd)] h c n (fun r h' c' n' => r = none ∧ ∃ ka, h ka = none ∧ isN G h' o ka w kd [] ∧ xfr h h' [o] ∧ c' = c + 1 ∧ n' = n + 6) := by
  obtain ⟨d, rfl⟩ : ∃ q, d = q + 1 := ⟨d - 1, by omega⟩
  refine XM.of (by decide +kernel) (Nat.le_of_ble_eq_true rfl) ?_
  refine x_aload_n d_Name_init_0 rfl rfl ?_
  refine x_objInit xw_718 xw_40 xw_41 (Nat.le_of_ble_eq_true rfl) d_Name_init_1 ?_
  refine x_aload_n d_Name_init_4 rfl rfl ?_
  refine x_bipush (v := 6) d_Name_init_5 (by decide) ?_
  refine x_newa (k := k_aknown) rfl rfl (fun _ hz => by cases hz) xw_110 (by decide) rfl (by decide) hc hn d_Name_init_7 (fun q hn_q hk_q => ?_)
  have hoq : o ≠ q := xneN ho hn_q
  refine x_putF xf_Name_9_Name xp_Name_2 ⟨_, _, _, rfl, rfl, xw_723⟩ rfl rfl rfl (xup_old ho hn_q) rfl rfl d_Name_init_9 ?_
  refine x_aload_n d_Name_init_12 rfl rfl ?_
  refine x_iconst (v := 0) d_Name_init_13 (by decide) ?_
  refine x_put xf_Name_15_Name xp_Name_3 rfl rfl xup_self rfl rfl d_Name_init_14 ?_
  refine x_aload_n d_Name_init_17 rfl rfl ?_
  refine x_aload_n d_Name_init_18 rfl rfl ?_
  refine x_putF xf_Name_19_Name xp_Name_0 ⟨_, _, _, rfl, rfl, xw_719⟩ rfl rfl rfl xup_self rfl rfl d_Name_init_19 ?_
  refine x_aload_n d_Name_init_22 rfl rfl ?_
  refine x_iload_n d_Name_init_23 rfl ?_
  refine x_putF xf_Name_23_Name xp_Name_1 ⟨_, _, _, rfl, rfl, xw_722⟩ rfl rfl rfl xup_self rfl rfl d_Name_init_24 ?_
  refine x_vret d_Name_init_27 rfl ?_
  have hf : ∀ e, xfr h (xup (xup h q (k_aknown, List.replicate 6 (.long 0))) o e) [o] := fun e => (xfr.rf.up (Or.inr hn_q)).up (Or.inl (by simp))
  rw [xup_up, xup_up, xup_up]
  refine ⟨rfl, q, hn_q, ⟨sa, xup_self, hs.fr (hf _) (xno1 ho (by decide)), ?_, by simp, hkd, fun _ z => by cases z⟩, hf _, rfl, rfl⟩
  rw [xup_ne (Ne.symm hoq), xup_self]
  rfl
theorem c_isLetter {ch : Nat} (hch : ch < 128) : XM l G d M_MT_isLetter [.int (nI ch)] h c n (xSame (.int (if 97 ≤ ch ∧ ch ≤ 122 then 1 else 0)) h c n) := by
  refine XM.of (by decide +kernel) (Nat.le_of_ble_eq_true rfl) ?_
  by_cases g1 : 97 ≤ ch
  · by_cases g2 : ch ≤ 122
    · rw [if_pos ⟨g1, g2⟩]
      refine x_iload_n d_MT_isLetter_0 rfl ?_
      refine x_bipush (v := 97) d_MT_isLetter_1 (by decide) ?_
      refine x_icmp_lt (tgt := 16) d_MT_isLetter_3 (by decide) (fun ht => absurd ht (nI_nlt (b := 97) g1 (by omega))) (fun _ => ?_)
      refine x_iload_n d_MT_isLetter_6 rfl ?_
      refine x_bipush (v := 122) d_MT_isLetter_7 (by decide) ?_
      refine x_icmp_gt (tgt := 16) d_MT_isLetter_9 (by decide) (fun ht => absurd ht (nI_nlt (a := 122) g2 (by omega))) (fun _ => ?_)
      refine x_iconst (v := 1) d_MT_isLetter_12 (by decide) ?_
      refine x_goto (tgt := 17) d_MT_isLetter_13 (by decide) ?_
      refine x_zret d_MT_isLetter_17 rfl rfl ?_
      exact ⟨rfl, rfl, rfl, rfl⟩
    · rw [if_neg (fun z => g2 z.2)]
      refine x_iload_n d_MT_isLetter_0 rfl ?_
      refine x_bipush (v := 97) d_MT_isLetter_1 (by decide) ?_
      refine x_icmp_lt (tgt := 16) d_MT_isLetter_3 (by decide) (fun ht => absurd ht (nI_nlt (b := 97) g1 (by omega))) (fun _ => ?_)
      refine x_iload_n d_MT_isLetter_6 rfl ?_
      refine x_bipush (v := 122) d_MT_isLetter_7 (by decide) ?_
      refine x_icmp_gt (tgt := 16) d_MT_isLetter_9 (by decide) (fun _ => ?_) (fun hn => absurd (nI_lt (a := 122) (by omega) (by omega)) hn)
      refine x_iconst (v := 0) d_MT_isLetter_16 (by decide) ?_
      refine x_zret d_MT_isLetter_17 rfl rfl ?_
      exact ⟨rfl, rfl, rfl, rfl⟩
  · rw [if_neg (fun z => g1 z.1)]
    refine x_iload_n d_MT_isLetter_0 rfl ?_
    refine x_bipush (v := 97) d_MT_isLetter_1 (by decide) ?_
    refine x_icmp_lt (tgt := 16) d_MT_isLetter_3 (by decide) (fun _ => ?_) (fun hn => absurd (nI_lt (b := 97) (by omega) (by omega)) hn)
    refine x_iconst (v := 0) d_MT_isLetter_16 (by decide) ?_
    refine x_zret d_MT_isLetter_17 rfl rfl ?_
    exact ⟨rfl, rfl, rfl, rfl⟩
end NM3
end
section
section
abbrev y_MT_isSpelledAsName : MethodName := ⟨"MarkerText", "isSpelledAsName", "(Ljava/lang/String;)Z"⟩
abbrev M_MT_isSpelledAsName : XMt := (y_MT_isSpelledAsName, prog_1_method_23_code, 2, (some .boolean))
theorem d_MT_isSpelledAsName_105 : decode M_MT_isSpelledAsName.2.1 105 = .ok (.iconst 0, 1) := by decide +kernel
theorem d_MT_isSpelledAsName_106 : decode M_MT_isSpelledAsName.2.1 106 = .ok (.ireturn, 1) := by decide +kernel
theorem d_MT_isSpelledAsName_47 : decode M_MT_isSpelledAsName.2.1 47 = .ok (.aload_n 0, 1) := by decide +kernel
theorem d_MT_isSpelledAsName_48 : decode M_MT_isSpelledAsName.2.1 48 = .ok (.ldc 216, 2) := by decide +kernel
theorem d_MT_isSpelledAsName_50 : decode M_MT_isSpelledAsName.2.1 50 = .ok (.invokevirtual 218, 3) := by decide +kernel
theorem xw_681 : (Jvm.Cond.code ({ cls := "java/lang/String", name := "equals", desc := "(Ljava/lang/Object;)Z" } : Jvm.MethodName) prog_25_method_66_code (3 : Nat) (Option.some Jvm.ClassFile.FieldType.boolean)) ∈ xT := xT_at 681 (by decide +kernel) (by decide +kernel)
theorem xcb_String_equals : xcb M_String_equals 1 := ⟨xw_681, xw_4, by decide, by decide, by decide, by decide +kernel⟩
theorem xw_679 : (Jvm.Cond.instanceMethod ({ cls := "java/lang/String", name := "equals", desc := "(Ljava/lang/Object;)Z" } : Jvm.MethodName)) ∈ xT := xT_at 679 (by decide +kernel) (by decide +kernel)
theorem xw_678 : (Jvm.Cond.methodLink "MarkerText" (218 : Nat) ({ cls := "java/lang/String", name := "equals", desc := "(Ljava/lang/Object;)Z" } : Jvm.MethodName)) ∈ xT := xT_at 678 (by decide +kernel) (by decide +kernel)
theorem xw_680 : (Jvm.Cond.selects "java/lang/String" ({ cls := "java/lang/String", name := "equals", desc := "(Ljava/lang/Object;)Z" } : Jvm.MethodName) ({ cls := "java/lang/String", name := "equals", desc := "(Ljava/lang/Object;)Z" } : Jvm.MethodName)) ∈ xT := xT_at 680 (by decide +kernel) (by decide +kernel)
theorem xcv_MT_218_String : xCV "MarkerText" 218 "java/lang/String" M_String_equals 1 := ⟨xcb_String_equals, xw_679, Or.inl ⟨xw_678, Or.inl xw_680⟩⟩
theorem d_MT_isSpelledAsName_53 : decode M_MT_isSpelledAsName.2.1 53 = .ok (.ifCond .ne 52, 3) := by decide +kernel
theorem d_MT_isSpelledAsName_56 : decode M_MT_isSpelledAsName.2.1 56 = .ok (.aload_n 0, 1) := by decide +kernel
theorem d_MT_isSpelledAsName_57 : decode M_MT_isSpelledAsName.2.1 57 = .ok (.ldc 222, 2) := by decide +kernel
theorem d_MT_isSpelledAsName_59 : decode M_MT_isSpelledAsName.2.1 59 = .ok (.invokevirtual 218, 3) := by decide +kernel
theorem d_MT_isSpelledAsName_62 : decode M_MT_isSpelledAsName.2.1 62 = .ok (.ifCond .ne 43, 3) := by decide +kernel
theorem d_MT_isSpelledAsName_65 : decode M_MT_isSpelledAsName.2.1 65 = .ok (.aload_n 0, 1) := by decide +kernel
theorem d_MT_isSpelledAsName_66 : decode M_MT_isSpelledAsName.2.1 66 = .ok (.ldc 224, 2) := by decide +kernel
theorem d_MT_isSpelledAsName_68 : decode M_MT_isSpelledAsName.2.1 68 = .ok (.invokevirtual 218, 3) := by decide +kernel
theorem d_MT_isSpelledAsName_71 : decode M_MT_isSpelledAsName.2.1 71 = .ok (.ifCond .ne 34, 3) := by decide +kernel
theorem d_MT_isSpelledAsName_74 : decode M_MT_isSpelledAsName.2.1 74 = .ok (.aload_n 0, 1) := by decide +kernel
theorem d_MT_isSpelledAsName_75 : decode M_MT_isSpelledAsName.2.1 75 = .ok (.ldc 226, 2) := by decide +kernel
theorem d_MT_isSpelledAsName_77 : decode M_MT_isSpelledAsName.2.1 77 = .ok (.invokevirtual 218, 3) := by decide +kernel
theorem d_MT_isSpelledAsName_80 : decode M_MT_isSpelledAsName.2.1 80 = .ok (.ifCond .ne 25, 3) := by decide +kernel
theorem d_MT_isSpelledAsName_83 : decode M_MT_isSpelledAsName.2.1 83 = .ok (.aload_n 0, 1) := by decide +kernel
theorem d_MT_isSpelledAsName_84 : decode M_MT_isSpelledAsName.2.1 84 = .ok (.ldc 228, 2) := by decide +kernel
theorem d_MT_isSpelledAsName_86 : decode M_MT_isSpelledAsName.2.1 86 = .ok (.invokevirtual 218, 3) := by decide +kernel
theorem d_MT_isSpelledAsName_89 : decode M_MT_isSpelledAsName.2.1 89 = .ok (.ifCond .ne 16, 3) := by decide +kernel
theorem d_MT_isSpelledAsName_92 : decode M_MT_isSpelledAsName.2.1 92 = .ok (.aload_n 0, 1) := by decide +kernel
theorem d_MT_isSpelledAsName_93 : decode M_MT_isSpelledAsName.2.1 93 = .ok (.ldc 230, 2) := by decide +kernel
theorem d_MT_isSpelledAsName_95 : decode M_MT_isSpelledAsName.2.1 95 = .ok (.invokevirtual 218, 3) := by decide +kernel
theorem d_MT_isSpelledAsName_98 : decode M_MT_isSpelledAsName.2.1 98 = .ok (.ifCond .ne 7, 3) := by decide +kernel
theorem d_MT_isSpelledAsName_101 : decode M_MT_isSpelledAsName.2.1 101 = .ok (.iconst 1, 1) := by decide +kernel
theorem d_MT_isSpelledAsName_102 : decode M_MT_isSpelledAsName.2.1 102 = .ok (.goto 4, 3) := by decide +kernel
theorem d_MT_isSpelledAsName_20 : decode M_MT_isSpelledAsName.2.1 20 = .ok (.iload_n 1, 1) := by decide +kernel
theorem d_MT_isSpelledAsName_21 : decode M_MT_isSpelledAsName.2.1 21 = .ok (.aload_n 0, 1) := by decide +kernel
theorem d_MT_isSpelledAsName_22 : decode M_MT_isSpelledAsName.2.1 22 = .ok (.invokevirtual 99, 3) := by decide +kernel
theorem xw_421 : (Jvm.Cond.methodLink "MarkerText" (99 : Nat) ({ cls := "java/lang/String", name := "length", desc := "()I" } : Jvm.MethodName)) ∈ xT := xT_at 421 (by decide +kernel) (by decide +kernel)
theorem xcv_MT_99_String : xCV "MarkerText" 99 "java/lang/String" M_String_length 0 := ⟨xcb_String_length, xw_422, Or.inl ⟨xw_421, Or.inl xw_423⟩⟩
theorem d_MT_isSpelledAsName_25 : decode M_MT_isSpelledAsName.2.1 25 = .ok (.if_icmp .ge 22, 3) := by decide +kernel
theorem d_MT_isSpelledAsName_28 : decode M_MT_isSpelledAsName.2.1 28 = .ok (.aload_n 0, 1) := by decide +kernel
theorem d_MT_isSpelledAsName_29 : decode M_MT_isSpelledAsName.2.1 29 = .ok (.iload_n 1, 1) := by decide +kernel
theorem d_MT_isSpelledAsName_30 : decode M_MT_isSpelledAsName.2.1 30 = .ok (.invokevirtual 194, 3) := by decide +kernel
theorem xw_430 : (Jvm.Cond.methodLink "MarkerText" (194 : Nat) ({ cls := "java/lang/String", name := "charAt", desc := "(I)C" } : Jvm.MethodName)) ∈ xT := xT_at 430 (by decide +kernel) (by decide +kernel)
theorem xcv_MT_194_String : xCV "MarkerText" 194 "java/lang/String" M_String_charAt 1 := ⟨xcb_String_charAt, xw_431, Or.inl ⟨xw_430, Or.inl xw_432⟩⟩
theorem d_MT_isSpelledAsName_33 : decode M_MT_isSpelledAsName.2.1 33 = .ok (.invokestatic 212, 3) := by decide +kernel
theorem xw_676 : (Jvm.Cond.code ({ cls := "MarkerText", name := "isLetter", desc := "(C)Z" } : Jvm.MethodName) prog_1_method_22_code (1 : Nat) (Option.some Jvm.ClassFile.FieldType.boolean)) ∈ xT := xT_at 676 (by decide +kernel) (by decide +kernel)
theorem xw_1 : (Jvm.Cond.initialized "MarkerText") ∈ xT := xT_at 1 (by decide +kernel) (by decide +kernel)
theorem xcb_MT_isLetter : xcb M_MT_isLetter 1 := ⟨xw_676, xw_1, by decide, by decide, by decide, by decide +kernel⟩
theorem xw_674 : (Jvm.Cond.methodLink "MarkerText" (212 : Nat) ({ cls := "MarkerText", name := "isLetter", desc := "(C)Z" } : Jvm.MethodName)) ∈ xT := xT_at 674 (by decide +kernel) (by decide +kernel)
theorem xw_675 : (Jvm.Cond.static ({ cls := "MarkerText", name := "isLetter", desc := "(C)Z" } : Jvm.MethodName)) ∈ xT := xT_at 675 (by decide +kernel) (by decide +kernel)
theorem xcs_MT_212 : xCS "MarkerText" 212 M_MT_isLetter 1 := ⟨xcb_MT_isLetter, xw_675, Or.inl xw_674⟩
theorem d_MT_isSpelledAsName_36 : decode M_MT_isSpelledAsName.2.1 36 = .ok (.ifCond .ne 5, 3) := by decide +kernel
theorem d_MT_isSpelledAsName_41 : decode M_MT_isSpelledAsName.2.1 41 = .ok (.iinc 1 1, 3) := by decide +kernel
theorem d_MT_isSpelledAsName_44 : decode M_MT_isSpelledAsName.2.1 44 = .ok (.goto (-24), 3) := by decide +kernel
theorem d_MT_isSpelledAsName_39 : decode M_MT_isSpelledAsName.2.1 39 = .ok (.iconst 0, 1) := by decide +kernel
theorem d_MT_isSpelledAsName_40 : decode M_MT_isSpelledAsName.2.1 40 = .ok (.ireturn, 1) := by decide +kernel
theorem d_MT_isSpelledAsName_0 : decode M_MT_isSpelledAsName.2.1 0 = .ok (.aload_n 0, 1) := by decide +kernel
theorem d_MT_isSpelledAsName_1 : decode M_MT_isSpelledAsName.2.1 1 = .ok (.invokevirtual 137, 3) := by decide +kernel
theorem xw_673 : (Jvm.Cond.code ({ cls := "java/lang/String", name := "isEmpty", desc := "()Z" } : Jvm.MethodName) prog_25_method_55_code (1 : Nat) (Option.some Jvm.ClassFile.FieldType.boolean)) ∈ xT := xT_at 673 (by decide +kernel) (by decide +kernel)
theorem xcb_String_isEmpty : xcb M_String_isEmpty 0 := ⟨xw_673, xw_4, by decide, by decide, by decide, by decide +kernel⟩
theorem xw_671 : (Jvm.Cond.instanceMethod ({ cls := "java/lang/String", name := "isEmpty", desc := "()Z" } : Jvm.MethodName)) ∈ xT := xT_at 671 (by decide +kernel) (by decide +kernel)
theorem xw_670 : (Jvm.Cond.methodLink "MarkerText" (137 : Nat) ({ cls := "java/lang/String", name := "isEmpty", desc := "()Z" } : Jvm.MethodName)) ∈ xT := xT_at 670 (by decide +kernel) (by decide +kernel)
theorem xw_672 : (Jvm.Cond.selects "java/lang/String" ({ cls := "java/lang/String", name := "isEmpty", desc := "()Z" } : Jvm.MethodName) ({ cls := "java/lang/String", name := "isEmpty", desc := "()Z" } : Jvm.MethodName)) ∈ xT := xT_at 672 (by decide +kernel) (by decide +kernel)
theorem xcv_MT_137_String : xCV "MarkerText" 137 "java/lang/String" M_String_isEmpty 0 := ⟨xcb_String_isEmpty, xw_671, Or.inl ⟨xw_670, Or.inl xw_672⟩⟩
theorem d_MT_isSpelledAsName_4 : decode M_MT_isSpelledAsName.2.1 4 = .ok (.ifCond .ne 12, 3) := by decide +kernel
theorem d_MT_isSpelledAsName_16 : decode M_MT_isSpelledAsName.2.1 16 = .ok (.iconst 0, 1) := by decide +kernel
theorem d_MT_isSpelledAsName_17 : decode M_MT_isSpelledAsName.2.1 17 = .ok (.ireturn, 1) := by decide +kernel
theorem d_MT_isSpelledAsName_7 : decode M_MT_isSpelledAsName.2.1 7 = .ok (.aload_n 0, 1) := by decide +kernel
theorem d_MT_isSpelledAsName_8 : decode M_MT_isSpelledAsName.2.1 8 = .ok (.invokevirtual 99, 3) := by decide +kernel
theorem d_MT_isSpelledAsName_11 : decode M_MT_isSpelledAsName.2.1 11 = .ok (.bipush 8, 2) := by decide +kernel
theorem d_MT_isSpelledAsName_13 : decode M_MT_isSpelledAsName.2.1 13 = .ok (.if_icmp .le 5, 3) := by decide +kernel
theorem d_MT_isSpelledAsName_18 : decode M_MT_isSpelledAsName.2.1 18 = .ok (.iconst 0, 1) := by decide +kernel
theorem d_MT_isSpelledAsName_19 : decode M_MT_isSpelledAsName.2.1 19 = .ok (.istore_n 1, 1) := by decide +kernel
abbrev y_MT_numberOf : MethodName := ⟨"MarkerText", "numberOf", "([LMarkerText$Name;Ljava/lang/String;)I"⟩
abbrev M_MT_numberOf : XMt := (y_MT_numberOf, prog_1_method_24_code, 3, (some .int))
theorem d_MT_numberOf_2 : decode M_MT_numberOf.2.1 2 = .ok (.iload_n 2, 1) := by decide +kernel
theorem d_MT_numberOf_3 : decode M_MT_numberOf.2.1 3 = .ok (.aload_n 0, 1) := by decide +kernel
theorem d_MT_numberOf_4 : decode M_MT_numberOf.2.1 4 = .ok (.arraylength, 1) := by decide +kernel
theorem d_MT_numberOf_5 : decode M_MT_numberOf.2.1 5 = .ok (.if_icmp .ge 30, 3) := by decide +kernel
theorem d_MT_numberOf_35 : decode M_MT_numberOf.2.1 35 = .ok (.iconst (-1), 1) := by decide +kernel
theorem d_MT_numberOf_36 : decode M_MT_numberOf.2.1 36 = .ok (.ireturn, 1) := by decide +kernel
theorem d_MT_numberOf_8 : decode M_MT_numberOf.2.1 8 = .ok (.aload_n 0, 1) := by decide +kernel
theorem d_MT_numberOf_9 : decode M_MT_numberOf.2.1 9 = .ok (.iload_n 2, 1) := by decide +kernel
theorem d_MT_numberOf_10 : decode M_MT_numberOf.2.1 10 = .ok (.aaload, 1) := by decide +kernel
theorem d_MT_numberOf_11 : decode M_MT_numberOf.2.1 11 = .ok (.ifnull 18, 3) := by decide +kernel
theorem d_MT_numberOf_14 : decode M_MT_numberOf.2.1 14 = .ok (.aload_n 0, 1) := by decide +kernel
theorem d_MT_numberOf_15 : decode M_MT_numberOf.2.1 15 = .ok (.iload_n 2, 1) := by decide +kernel
theorem d_MT_numberOf_16 : decode M_MT_numberOf.2.1 16 = .ok (.aaload, 1) := by decide +kernel
theorem d_MT_numberOf_17 : decode M_MT_numberOf.2.1 17 = .ok (.getfield 232, 3) := by decide +kernel
theorem xw_721 : (Jvm.Cond.fieldLinkNest "MarkerText" (232 : Nat) "MarkerText$Name" "spelling" "Ljava/lang/String;" "MarkerText") ∈ xT := xT_at 721 (by decide +kernel) (by decide +kernel)
theorem xf_MT_232_Name : xF "MarkerText" 232 k_Name 0 := ⟨_, _, _, "MarkerText$Name", rfl, by decide, Or.inr ⟨_, xw_721⟩, Or.inl rfl⟩
theorem d_MT_numberOf_20 : decode M_MT_numberOf.2.1 20 = .ok (.aload_n 1, 1) := by decide +kernel
theorem d_MT_numberOf_21 : decode M_MT_numberOf.2.1 21 = .ok (.invokevirtual 218, 3) := by decide +kernel
theorem d_MT_numberOf_24 : decode M_MT_numberOf.2.1 24 = .ok (.ifCond .eq 5, 3) := by decide +kernel
theorem d_MT_numberOf_27 : decode M_MT_numberOf.2.1 27 = .ok (.iload_n 2, 1) := by decide +kernel
theorem d_MT_numberOf_28 : decode M_MT_numberOf.2.1 28 = .ok (.ireturn, 1) := by decide +kernel
theorem d_MT_numberOf_29 : decode M_MT_numberOf.2.1 29 = .ok (.iinc 2 1, 3) := by decide +kernel
theorem d_MT_numberOf_32 : decode M_MT_numberOf.2.1 32 = .ok (.goto (-30), 3) := by decide +kernel
theorem d_MT_numberOf_0 : decode M_MT_numberOf.2.1 0 = .ok (.iconst 0, 1) := by decide +kernel
theorem d_MT_numberOf_1 : decode M_MT_numberOf.2.1 1 = .ok (.istore_n 2, 1) := by decide +kernel
end
section MT1
variable {l : Launch} {G : XG} {h : XH} {c n d : Nat}
/-- the words that are no NAMES -/
abbrev kws : List (List Nat) := [xtx 4, xtx 5, xtx 6, xtx 7, xtx 8, xtx 9]
abbrev isLt (ch : Nat) : Prop := 97 ≤ ch ∧ ch ≤ 122
abbrev spl (w : List Nat) : Prop := (w ≠ [] ∧ w.length ≤ 8) ∧ (∀ ch ∈ w, isLt ch) ∧ w ∉ kws
theorem c_isSpelled (hG : xGk G) (hd : 4 ≤ d) {a : Nat} {w : List Nat} (hS : isS G h a w) (hl : w.length < 2 ^ 20) : XM l G d M_MT_isSpelledAsName [.ref a] h c n (xSame (.int (if spl w then 1 else 0)) h c n) := by
  obtain ⟨d, rfl⟩ : ∃ q, d = q + 1 := ⟨d - 1, by omega⟩
  obtain ⟨va, ee, ha, -, hat⟩ := id hS
  refine XM.of (by decide +kernel) (Nat.le_of_ble_eq_true rfl) ?_
  have at105 : ∀ e1, w ∈ kws → XW l G M_MT_isSpelledAsName (d + 1) 105 [some (.ref a), e1] [] h c n (xSame (.int (if spl w then 1 else 0)) h c n) := by
    intro e1 hw
    rw [if_neg (fun z => z.2.2 hw)]
    refine x_iconst (v := 0) d_MT_isSpelledAsName_105 (by decide) ?_
    refine x_zret d_MT_isSpelledAsName_106 rfl rfl ?_
    exact ⟨rfl, rfl, rfl, rfl⟩
  have at47 : ∀ e1, (w ≠ [] ∧ w.length ≤ 8) → (∀ ch ∈ w, isLt ch) → XW l G M_MT_isSpelledAsName (d + 1) 47 [some (.ref a), e1] [] h c n (xSame (.int (if spl w then 1 else 0)) h c n) := by
    intro e1 hz1 hz2
    by_cases k1 : w = xtx 4
    · refine x_aload_n d_MT_isSpelledAsName_47 rfl rfl ?_
      refine x_ldcS (i := 4) (tx := "or") (by decide +kernel) d_MT_isSpelledAsName_48 ?_
      refine x_callV (As := [_]) (k := k_String) rfl xcv_MT_218_String ha (c_String_equals (by omega) hS (hG.str (by decide)) (by omega) (by decide)) rfl rfl (Nat.le_of_ble_eq_true rfl) d_MT_isSpelledAsName_50 ?_
      rintro v h' c' n' ⟨rfl, rfl, rfl, rfl⟩
      refine x_if_ne (tgt := 105) d_MT_isSpelledAsName_53 (by decide) (fun _ => ?_) (fun hn => absurd hn (by rw [if_pos k1]; decide))
      exact at105 e1 (by rw [k1]; simp)
    refine x_aload_n d_MT_isSpelledAsName_47 rfl rfl ?_
    refine x_ldcS (i := 4) (tx := "or") (by decide +kernel) d_MT_isSpelledAsName_48 ?_
    refine x_callV (As := [_]) (k := k_String) rfl xcv_MT_218_String ha (c_String_equals (by omega) hS (hG.str (by decide)) (by omega) (by decide)) rfl rfl (Nat.le_of_ble_eq_true rfl) d_MT_isSpelledAsName_50 ?_
    rintro v h' c' n' ⟨rfl, rfl, rfl, rfl⟩
    by_cases k2 : w = xtx 5
    · refine x_if_ne (tgt := 105) d_MT_isSpelledAsName_53 (by decide) (fun ht => absurd (by rw [if_neg k1]) ht) (fun _ => ?_)
      refine x_aload_n d_MT_isSpelledAsName_56 rfl rfl ?_
      refine x_ldcS (i := 5) (tx := "and") (by decide +kernel) d_MT_isSpelledAsName_57 ?_
      refine x_callV (As := [_]) (k := k_String) rfl xcv_MT_218_String ha (c_String_equals (by omega) hS (hG.str (by decide)) (by omega) (by decide)) rfl rfl (Nat.le_of_ble_eq_true rfl) d_MT_isSpelledAsName_59 ?_
      rintro v h' c' n' ⟨rfl, rfl, rfl, rfl⟩
      refine x_if_ne (tgt := 105) d_MT_isSpelledAsName_62 (by decide) (fun _ => ?_) (fun hn => absurd hn (by rw [if_pos k2]; decide))
      exact at105 e1 (by rw [k2]; simp)
    refine x_if_ne (tgt := 105) d_MT_isSpelledAsName_53 (by decide) (fun ht => absurd (by rw [if_neg k1]) ht) (fun _ => ?_)
    refine x_aload_n d_MT_isSpelledAsName_56 rfl rfl ?_
    refine x_ldcS (i := 5) (tx := "and") (by decide +kernel) d_MT_isSpelledAsName_57 ?_
    refine x_callV (As := [_]) (k := k_String) rfl xcv_MT_218_String ha (c_String_equals (by omega) hS (hG.str (by decide)) (by omega) (by decide)) rfl rfl (Nat.le_of_ble_eq_true rfl) d_MT_isSpelledAsName_59 ?_
    rintro v h' c' n' ⟨rfl, rfl, rfl, rfl⟩
    by_cases k3 : w = xtx 6
    · refine x_if_ne (tgt := 105) d_MT_isSpelledAsName_62 (by decide) (fun ht => absurd (by rw [if_neg k2]) ht) (fun _ => ?_)
      refine x_aload_n d_MT_isSpelledAsName_65 rfl rfl ?_
      refine x_ldcS (i := 6) (tx := "not") (by decide +kernel) d_MT_isSpelledAsName_66 ?_
      refine x_callV (As := [_]) (k := k_String) rfl xcv_MT_218_String ha (c_String_equals (by omega) hS (hG.str (by decide)) (by omega) (by decide)) rfl rfl (Nat.le_of_ble_eq_true rfl) d_MT_isSpelledAsName_68 ?_
      rintro v h' c' n' ⟨rfl, rfl, rfl, rfl⟩
      refine x_if_ne (tgt := 105) d_MT_isSpelledAsName_71 (by decide) (fun _ => ?_) (fun hn => absurd hn (by rw [if_pos k3]; decide))
      exact at105 e1 (by rw [k3]; simp)
    refine x_if_ne (tgt := 105) d_MT_isSpelledAsName_62 (by decide) (fun ht => absurd (by rw [if_neg k2]) ht) (fun _ => ?_)
    refine x_aload_n d_MT_isSpelledAsName_65 rfl rfl ?_
    refine x_ldcS (i := 6) (tx := "not") (by decide +kernel) d_MT_isSpelledAsName_66 ?_
    refine x_callV (As := [_]) (k := k_String) rfl xcv_MT_218_String ha (c_String_equals (by omega) hS (hG.str (by decide)) (by omega) (by decide)) rfl rfl (Nat.le_of_ble_eq_true rfl) d_MT_isSpelledAsName_68 ?_
    rintro v h' c' n' ⟨rfl, rfl, rfl, rfl⟩
    by_cases k4 : w = xtx 7
    · refine x_if_ne (tgt := 105) d_MT_isSpelledAsName_71 (by decide) (fun ht => absurd (by rw [if_neg k3]) ht) (fun _ => ?_)
      refine x_aload_n d_MT_isSpelledAsName_74 rfl rfl ?_
      refine x_ldcS (i := 7) (tx := "in") (by decide +kernel) d_MT_isSpelledAsName_75 ?_
      refine x_callV (As := [_]) (k := k_String) rfl xcv_MT_218_String ha (c_String_equals (by omega) hS (hG.str (by decide)) (by omega) (by decide)) rfl rfl (Nat.le_of_ble_eq_true rfl) d_MT_isSpelledAsName_77 ?_
      rintro v h' c' n' ⟨rfl, rfl, rfl, rfl⟩
      refine x_if_ne (tgt := 105) d_MT_isSpelledAsName_80 (by decide) (fun _ => ?_) (fun hn => absurd hn (by rw [if_pos k4]; decide))
      exact at105 e1 (by rw [k4]; simp)
    refine x_if_ne (tgt := 105) d_MT_isSpelledAsName_71 (by decide) (fun ht => absurd (by rw [if_neg k3]) ht) (fun _ => ?_)
    refine x_aload_n d_MT_isSpelledAsName_74 rfl rfl ?_
    refine x_ldcS (i := 7) (tx := "in") (by decide +kernel) d_MT_isSpelledAsName_75 ?_
    refine x_callV (As := [_]) (k := k_String) rfl xcv_MT_218_String ha (c_String_equals (by omega) hS (hG.str (by decide)) (by omega) (by decide)) rfl rfl (Nat.le_of_ble_eq_true rfl) d_MT_isSpelledAsName_77 ?_
    rintro v h' c' n' ⟨rfl, rfl, rfl, rfl⟩
    by_cases k5 : w = xtx 8
    · refine x_if_ne (tgt := 105) d_MT_isSpelledAsName_80 (by decide) (fun ht => absurd (by rw [if_neg k4]) ht) (fun _ => ?_)
      refine x_aload_n d_MT_isSpelledAsName_83 rfl rfl ?_
      refine x_ldcS (i := 8) (tx := "true") (by decide +kernel) d_MT_isSpelledAsName_84 ?_
      refine x_callV (As := [_]) (k := k_String) rfl xcv_MT_218_String ha (c_String_equals (by omega) hS (hG.str (by decide)) (by omega) (by decide)) rfl rfl (Nat.le_of_ble_eq_true rfl) d_MT_isSpelledAsName_86 ?_
      rintro v h' c' n' ⟨rfl, rfl, rfl, rfl⟩
      refine x_if_ne (tgt := 105) d_MT_isSpelledAsName_89 (by decide) (fun _ => ?_) (fun hn => absurd hn (by rw [if_pos k5]; decide))
      exact at105 e1 (by rw [k5]; simp)
    refine x_if_ne (tgt := 105) d_MT_isSpelledAsName_80 (by decide) (fun ht => absurd (by rw [if_neg k4]) ht) (fun _ => ?_)
    refine x_aload_n d_MT_isSpelledAsName_83 rfl rfl ?_
    refine x_ldcS (i := 8) (tx := "true") (by decide +kernel) d_MT_isSpelledAsName_84 ?_
    refine x_callV (As := [_]) (k := k_String) rfl xcv_MT_218_String ha (c_String_equals (by omega) hS (hG.str (by decide)) (by omega) (by decide)) rfl rfl (Nat.le_of_ble_eq_true rfl) d_MT_isSpelledAsName_86 ?_
    rintro v h' c' n' ⟨rfl, rfl, rfl, rfl⟩
    by_cases k6 : w = xtx 9
    · refine x_if_ne (tgt := 105) d_MT_isSpelledAsName_89 (by decide) (fun ht => absurd (by rw [if_neg k5]) ht) (fun _ => ?_)
      refine x_aload_n d_MT_isSpelledAsName_92 rfl rfl ?_
      refine x_ldcS (i := 9) (tx := "false") (by decide +kernel) d_MT_isSpelledAsName_93 ?_
      refine x_callV (As := [_]) (k := k_String) rfl xcv_MT_218_String ha (c_String_equals (by omega) hS (hG.str (by decide)) (by omega) (by decide)) rfl rfl (Nat.le_of_ble_eq_true rfl) d_MT_isSpelledAsName_95 ?_
      rintro v h' c' n' ⟨rfl, rfl, rfl, rfl⟩
      refine x_if_ne (tgt := 105) d_MT_isSpelledAsName_98 (by decide) (fun _ => ?_) (fun hn => absurd hn (by rw [if_pos k6]; decide))
      exact at105 e1 (by rw [k6]; simp)
    refine x_if_ne (tgt := 105) d_MT_isSpelledAsName_89 (by decide) (fun ht => absurd (by rw [if_neg k5]) ht) (fun _ => ?_)
    refine x_aload_n d_MT_isSpelledAsName_92 rfl rfl ?_
    refine x_ldcS (i := 9) (tx := "false") (by decide +kernel) d_MT_isSpelledAsName_93 ?_
    refine x_callV (As := [_]) (k := k_String) rfl xcv_MT_218_String ha (c_String_equals (by omega) hS (hG.str (by decide)) (by omega) (by decide)) rfl rfl (Nat.le_of_ble_eq_true rfl) d_MT_isSpelledAsName_95 ?_
    rintro v h' c' n' ⟨rfl, rfl, rfl, rfl⟩
    have hk : w ∉ kws := by
      intro z
      simp only [kws, List.mem_cons, List.not_mem_nil, or_false] at z
      rcases z with z | z | z | z | z | z <;> contradiction
    refine x_if_ne (tgt := 105) d_MT_isSpelledAsName_98 (by decide) (fun ht => absurd (by rw [if_neg k6]) ht) (fun _ => ?_)
    refine x_iconst (v := 1) d_MT_isSpelledAsName_101 (by decide) ?_
    refine x_goto (tgt := 106) d_MT_isSpelledAsName_102 (by decide) ?_
    refine x_zret d_MT_isSpelledAsName_106 rfl rfl ?_
    exact ⟨by rw [if_pos ⟨hz1, hz2, hk⟩], rfl, rfl, rfl⟩
  have lp : (w ≠ [] ∧ w.length ≤ 8) → ∀ (k i : Nat), i + k = w.length → (∀ j (hj : j < w.length), j < i → isLt w[j]) → XW l G M_MT_isSpelledAsName (d + 1) 20 [some (.ref a), some (.int (nI i))] [] h c n (xSame (.int (if spl w then 1 else 0)) h c n) := by
    intro hz k
    induction k with
    | zero =>
      intro i hi hj
      refine x_iload_n d_MT_isSpelledAsName_20 rfl ?_
      refine x_aload_n d_MT_isSpelledAsName_21 rfl rfl ?_
      refine x_callV (As := []) (k := k_String) rfl xcv_MT_99_String ha (c_String_length (by omega) hS) rfl rfl (Nat.le_of_ble_eq_true rfl) d_MT_isSpelledAsName_22 ?_
      rintro v h' c' n' ⟨rfl, rfl, rfl, rfl⟩
      refine x_icmp_ge (tgt := 47) d_MT_isSpelledAsName_25 (by decide) (fun _ => ?_) (fun hn => absurd (nI_le (by omega) (by omega)) hn)
      refine at47 _ hz (fun ch hch => ?_)
      obtain ⟨j, h1, h2⟩ := List.getElem_of_mem hch
      rw [← h2]
      exact hj j h1 (by omega)
    | succ k ih =>
      intro i hi hj
      have hil : i < w.length := by omega
      have hch := hat w[i] (List.getElem_mem hil)
      refine x_iload_n d_MT_isSpelledAsName_20 rfl ?_
      refine x_aload_n d_MT_isSpelledAsName_21 rfl rfl ?_
      refine x_callV (As := []) (k := k_String) rfl xcv_MT_99_String ha (c_String_length (by omega) hS) rfl rfl (Nat.le_of_ble_eq_true rfl) d_MT_isSpelledAsName_22 ?_
      rintro v h' c' n' ⟨rfl, rfl, rfl, rfl⟩
      refine x_icmp_ge (tgt := 47) d_MT_isSpelledAsName_25 (by decide) (fun ht => absurd ht (nI_ge (by omega) (by omega))) (fun _ => ?_)
      refine x_aload_n d_MT_isSpelledAsName_28 rfl rfl ?_
      refine x_iload_n d_MT_isSpelledAsName_29 rfl ?_
      refine x_callV (As := [_]) (k := k_String) rfl xcv_MT_194_String ha (c_String_charAt hG (by omega) hS hil (by omega)) rfl rfl (Nat.le_of_ble_eq_true rfl) d_MT_isSpelledAsName_30 ?_
      rintro v h' c' n' ⟨rfl, rfl, rfl, rfl⟩
      refine x_callS (As := [_]) xcs_MT_212 (c_isLetter hch) rfl rfl (Nat.le_of_ble_eq_true rfl) d_MT_isSpelledAsName_33 ?_
      rintro v h' c' n' ⟨rfl, rfl, rfl, rfl⟩
      by_cases hL : isLt w[i]
      · refine x_if_ne (tgt := 41) d_MT_isSpelledAsName_36 (by decide) (fun _ => ?_) (fun hn => absurd hn (by rw [if_pos hL]; decide))
        refine x_iinc (v := nI (i + 1)) (L' := [_, _]) d_MT_isSpelledAsName_41 rfl (by exact xw_iinc1) rfl rfl ?_
        refine x_goto (tgt := 20) d_MT_isSpelledAsName_44 (by decide) ?_
        refine ih (i + 1) (by omega) (fun j h1 h2 => ?_)
        by_cases hji : j = i
        · subst hji; exact hL
        · exact hj j h1 (by omega)
      · refine x_if_ne (tgt := 41) d_MT_isSpelledAsName_36 (by decide) (fun ht => absurd (by rw [if_neg hL]) ht) (fun _ => ?_)
        refine x_iconst (v := 0) d_MT_isSpelledAsName_39 (by decide) ?_
        refine x_zret d_MT_isSpelledAsName_40 rfl rfl ?_
        exact ⟨by rw [if_neg (fun z => hL (z.2.1 _ (List.getElem_mem hil)))], rfl, rfl, rfl⟩
  refine x_aload_n d_MT_isSpelledAsName_0 rfl rfl ?_
  refine x_callV (As := []) (k := k_String) rfl xcv_MT_137_String ha (c_String_isEmpty hS (by omega)) rfl rfl (Nat.le_of_ble_eq_true rfl) d_MT_isSpelledAsName_1 ?_
  rintro v h' c' n' ⟨rfl, rfl, rfl, rfl⟩
  by_cases h0 : w = []
  · refine x_if_ne (tgt := 16) d_MT_isSpelledAsName_4 (by decide) (fun _ => ?_) (fun hn => absurd hn (by rw [if_pos h0]; decide))
    refine x_iconst (v := 0) d_MT_isSpelledAsName_16 (by decide) ?_
    refine x_zret d_MT_isSpelledAsName_17 rfl rfl ?_
    exact ⟨by rw [if_neg (fun z => z.1.1 h0)], rfl, rfl, rfl⟩
  refine x_if_ne (tgt := 16) d_MT_isSpelledAsName_4 (by decide) (fun ht => absurd (by rw [if_neg h0]) ht) (fun _ => ?_)
  refine x_aload_n d_MT_isSpelledAsName_7 rfl rfl ?_
  refine x_callV (As := []) (k := k_String) rfl xcv_MT_99_String ha (c_String_length (by omega) hS) rfl rfl (Nat.le_of_ble_eq_true rfl) d_MT_isSpelledAsName_8 ?_
  rintro v h' c' n' ⟨rfl, rfl, rfl, rfl⟩
  by_cases h8 : w.length ≤ 8
  · refine x_bipush (v := 8) d_MT_isSpelledAsName_11 (by decide) ?_
    refine x_icmp_le (tgt := 18) d_MT_isSpelledAsName_13 (by decide) (fun _ => ?_) (fun hn => absurd (nI_le (b := 8) h8 (by omega)) hn)
    refine x_iconst (v := 0) d_MT_isSpelledAsName_18 (by decide) ?_
    refine x_istore_n (L' := [_, _]) d_MT_isSpelledAsName_19 rfl rfl ?_
    exact lp ⟨h0, h8⟩ w.length 0 (by omega) (fun j _ h2 => by omega)
  · refine x_bipush (v := 8) d_MT_isSpelledAsName_11 (by decide) ?_
    refine x_icmp_le (tgt := 18) d_MT_isSpelledAsName_13 (by decide) (fun ht => absurd ht (nI_ge (a := 8) (by omega) (by omega))) (fun _ => ?_)
    refine x_iconst (v := 0) d_MT_isSpelledAsName_16 (by decide) ?_
    refine x_zret d_MT_isSpelledAsName_17 rfl rfl ?_
    exact ⟨by rw [if_neg (fun z => h8 z.1.2)], rfl, rfl, rfl⟩
/-- the names: spelling, KIND, known levels -/
abbrev NmT : Type := List Nat × Nat × List Nat
def isNs (G : XG) (h : XH) (r : Nat) (as kas : List Nat) (Ns : List NmT) : Prop := h r = some (k_aName, as.map (.ref ·) ++ List.replicate (6 - as.length) .null) ∧ as.length = Ns.length ∧ kas.length = Ns.length ∧ Ns.length ≤ 6 ∧ as.Nodup ∧ kas.Nodup ∧ ∀ (i : Nat) (x : NmT) (a ka : Nat), Ns[i]? = some x → as[i]? = some a → kas[i]? = some ka → isN G h a ka x.1 x.2.1 x.2.2 ∧ x.1.length ≤ 8
/-- the number of a NAME -/
def nof (Ns : List NmT) (w : List Nat) : Option Nat := Ns.findIdx? (fun x => decide (x.1 = w))
def oI : Option Nat → Int32
  | none => -1
  | some i => nI i
theorem c_numberOf (hd : 2 ≤ d) {r b : Nat} {as kas : List Nat} {Ns : List NmT} {w : List Nat} (hNs : isNs G h r as kas Ns) (hS : isS G h b w) (hl : w.length < 2 ^ 20) : XM l G d M_MT_numberOf [.ref r, .ref b] h c n (xSame (.int (oI (nof Ns w))) h c n) := by
  obtain ⟨d, rfl⟩ : ∃ q, d = q + 1 := ⟨d - 1, by omega⟩
  obtain ⟨hr, e1, e2, e3, -, -, hx⟩ := hNs
  have hlen : (as.map (Value.ref ·) ++ List.replicate (6 - as.length) Value.null).length = 6 := by simp; omega
  refine XM.of (by decide +kernel) (Nat.le_of_ble_eq_true rfl) ?_
  have lp : ∀ (k i : Nat), i + k = 6 → (∀ j (hj : j < Ns.length), j < i → ¬ Ns[j].1 = w) → XW l G M_MT_numberOf (d + 1) 2 [some (.ref r), some (.ref b), some (.int (nI i))] [] h c n (xSame (.int (oI (nof Ns w))) h c n) := by
    intro k
    induction k with
    | zero =>
      intro i hi hj
      have hno : nof Ns w = none := by
        refine List.findIdx?_eq_none_iff.mpr (fun x hx' => ?_)
        obtain ⟨j, h1, h2⟩ := List.getElem_of_mem hx'
        rw [← h2]
        exact decide_eq_false (hj j h1 (by omega))
      rw [hno]
      refine x_iload_n d_MT_numberOf_2 rfl ?_
      refine x_aload_n d_MT_numberOf_3 rfl rfl ?_
      refine x_alen (k := k_aName) rfl (Or.inl hr) (v := nI 6) (by rw [hlen]; rfl) d_MT_numberOf_4 ?_
      refine x_icmp_ge (tgt := 35) d_MT_numberOf_5 (by decide) (fun _ => ?_) (fun hn => absurd (nI_le (a := 6) (by omega) (by omega)) hn)
      refine x_iconst (v := (-1)) d_MT_numberOf_35 (by decide) ?_
      refine x_iret d_MT_numberOf_36 rfl ?_
      exact ⟨rfl, rfl, rfl, rfl⟩
    | succ k ih =>
      intro i hi hj
      by_cases hin : i < Ns.length
      · have hia : i < as.length := by omega
        have hik : i < kas.length := by omega
        have hat : (as.map (Value.ref ·) ++ List.replicate (6 - as.length) .null)[(nI i).toNatClampNeg]? = some (.ref as[i]) := by
          rw [nI_clamp (by omega), List.getElem?_append_left (by simpa using hia), List.getElem?_map, List.getElem?_eq_getElem hia]
          rfl
        obtain ⟨⟨sa, g1, g2, -⟩, g8⟩ := hx i Ns[i] as[i] kas[i] (List.getElem?_eq_getElem hin) (List.getElem?_eq_getElem hia) (List.getElem?_eq_getElem hik)
        obtain ⟨va, ee, hsa, -⟩ := id g2
        refine x_iload_n d_MT_numberOf_2 rfl ?_
        refine x_aload_n d_MT_numberOf_3 rfl rfl ?_
        refine x_alen (k := k_aName) rfl (Or.inl hr) (v := nI 6) (by rw [hlen]; rfl) d_MT_numberOf_4 ?_
        refine x_icmp_ge (tgt := 35) d_MT_numberOf_5 (by decide) (fun ht => absurd ht (nI_ge (b := 6) (by omega) (by omega))) (fun _ => ?_)
        refine x_aload_n d_MT_numberOf_8 rfl rfl ?_
        refine x_iload_n d_MT_numberOf_9 rfl ?_
        refine x_aald (k := k_aName) rfl rfl (Or.inl hr) (nI_pos (by omega)) hat d_MT_numberOf_10 ?_
        refine x_ifnull d_MT_numberOf_11 ?_
        refine x_aload_n d_MT_numberOf_14 rfl rfl ?_
        refine x_iload_n d_MT_numberOf_15 rfl ?_
        refine x_aald (k := k_aName) rfl rfl (Or.inl hr) (nI_pos (by omega)) hat d_MT_numberOf_16 ?_
        refine x_get xf_MT_232_Name (Or.inl g1) rfl d_MT_numberOf_17 ?_
        refine x_aload_n d_MT_numberOf_20 rfl rfl ?_
        refine x_callV (As := [_]) (k := k_String) rfl xcv_MT_218_String hsa (c_String_equals (by omega) g2 hS (by omega) (by omega)) rfl rfl (Nat.le_of_ble_eq_true rfl) d_MT_numberOf_21 ?_
        rintro v h' c' n' ⟨rfl, rfl, rfl, rfl⟩
        by_cases he : Ns[i].1 = w
        · have hso : nof Ns w = some i := List.findIdx?_eq_some_iff_getElem.mpr ⟨hin, decide_eq_true he, fun j hj' => by simpa using hj j (by omega) hj'⟩
          refine x_if_eq (tgt := 29) d_MT_numberOf_24 (by decide) (fun ht => absurd ht (by rw [if_pos he]; decide)) (fun _ => ?_)
          refine x_iload_n d_MT_numberOf_27 rfl ?_
          refine x_iret d_MT_numberOf_28 rfl ?_
          exact ⟨by rw [hso]; rfl, rfl, rfl, rfl⟩
        · refine x_if_eq (tgt := 29) d_MT_numberOf_24 (by decide) (fun _ => ?_) (fun hn => absurd (by rw [if_neg he]) hn)
          refine x_iinc (v := nI (i + 1)) (L' := [_, _, _]) d_MT_numberOf_29 rfl (by exact xw_iinc1) rfl rfl ?_
          refine x_goto (tgt := 2) d_MT_numberOf_32 (by decide) ?_
          refine ih (i + 1) (by omega) (fun j h1 h2 => ?_)
          by_cases hji : j = i
          · subst hji; exact he
          · exact hj j h1 (by omega)
      · have hat : (as.map (Value.ref ·) ++ List.replicate (6 - as.length) .null)[(nI i).toNatClampNeg]? = some .null := by
          rw [nI_clamp (by omega), List.getElem?_append_right (by simp; omega), List.getElem?_replicate, if_pos (by simp; omega)]
        refine x_iload_n d_MT_numberOf_2 rfl ?_
        refine x_aload_n d_MT_numberOf_3 rfl rfl ?_
        refine x_alen (k := k_aName) rfl (Or.inl hr) (v := nI 6) (by rw [hlen]; rfl) d_MT_numberOf_4 ?_
        refine x_icmp_ge (tgt := 35) d_MT_numberOf_5 (by decide) (fun ht => absurd ht (nI_ge (b := 6) (by omega) (by omega))) (fun _ => ?_)
        refine x_aload_n d_MT_numberOf_8 rfl rfl ?_
        refine x_iload_n d_MT_numberOf_9 rfl ?_
        refine x_aald (k := k_aName) rfl rfl (Or.inl hr) (nI_pos (by omega)) hat d_MT_numberOf_10 ?_
        refine x_ifnullN (tgt := 29) d_MT_numberOf_11 (by decide) ?_
        refine x_iinc (v := nI (i + 1)) (L' := [_, _, _]) d_MT_numberOf_29 rfl (by exact xw_iinc1) rfl rfl ?_
        refine x_goto (tgt := 2) d_MT_numberOf_32 (by decide) ?_
        exact ih (i + 1) (by omega) (fun j h1 h2 => hj j h1 (by omega))
  refine x_iconst (v := 0) d_MT_numberOf_0 (by decide) ?_
  refine x_istore_n (L' := [_, _, _]) d_MT_numberOf_1 rfl rfl ?_
  exact lp 6 0 (by omega) (fun j h1 h2 => by omega)
end MT1
end
section
section
abbrev y_Test_isTrueAt : MethodName := ⟨"MarkerText$Test", "isTrueAt", "([J)Z"⟩
abbrev M_Test_isTrueAt : XMt := (y_Test_isTrueAt, prog_11_method_2_code, 5, (some .boolean))
abbrev y_Join_isTrueAt : MethodName := ⟨"MarkerText$Join", "isTrueAt", "([J)Z"⟩
abbrev M_Join_isTrueAt : XMt := (y_Join_isTrueAt, prog_5_method_2_code, 2, (some .boolean))
abbrev y_Negation_isTrueAt : MethodName := ⟨"MarkerText$Negation", "isTrueAt", "([J)Z"⟩
abbrev M_Negation_isTrueAt : XMt := (y_Negation_isTrueAt, prog_7_method_2_code, 2, (some .boolean))
abbrev y_Constant_isTrueAt : MethodName := ⟨"MarkerText$Constant", "isTrueAt", "([J)Z"⟩
abbrev M_Constant_isTrueAt : XMt := (y_Constant_isTrueAt, prog_4_method_2_code, 2, (some .boolean))
abbrev y_Test_show : MethodName := ⟨"MarkerText$Test", "show", "(Ljava/lang/StringBuilder;)V"⟩
abbrev M_Test_show : XMt := (y_Test_show, prog_11_method_4_code, 2, none)
abbrev y_Join_show : MethodName := ⟨"MarkerText$Join", "show", "(Ljava/lang/StringBuilder;)V"⟩
abbrev M_Join_show : XMt := (y_Join_show, prog_5_method_3_code, 2, none)
abbrev y_Negation_show : MethodName := ⟨"MarkerText$Negation", "show", "(Ljava/lang/StringBuilder;)V"⟩
abbrev M_Negation_show : XMt := (y_Negation_show, prog_7_method_3_code, 2, none)
abbrev y_Constant_show : MethodName := ⟨"MarkerText$Constant", "show", "(Ljava/lang/StringBuilder;)V"⟩
abbrev M_Constant_show : XMt := (y_Constant_show, prog_4_method_3_code, 2, none)
abbrev y_Node_showInside : MethodName := ⟨"MarkerText$Node", "showInside", "(Ljava/lang/StringBuilder;Z)V"⟩
abbrev M_Node_showInside : XMt := (y_Node_showInside, prog_8_method_4_code, 3, none)
end
section ND0
variable {l : Launch} {G : XG} {M : XMt} {d pc : Nat} {L : List (Option Value)} {rest : List Value} {h : XH} {c n : Nat} {P : Option Value → XH → Nat → Nat → Prop}
/-- a contract of a receiver of one of several kinds -/
def XD (l : Launch) (G : XG) (d : Nat) (ms : List (Nat × XMt)) (a : Nat) (As : List Value) (h : XH) (c n : Nat) (P : Option Value → XH → Nat → Nat → Prop) : Prop := ∃ q ∈ ms, ∃ vs, xr G h a q.1 vs ∧ XM l G d q.2 (.ref a :: As) h c n P
abbrev msT : List (Nat × XMt) := [(k_Test, M_Test_isTrueAt), (k_Join, M_Join_isTrueAt), (k_Negation, M_Negation_isTrueAt), (k_Constant, M_Constant_isTrueAt)]
abbrev msS : List (Nat × XMt) := [(k_Test, M_Test_show), (k_Join, M_Join_show), (k_Negation, M_Negation_show), (k_Constant, M_Constant_show)]
abbrev msI : List (Nat × XMt) := [(k_Test, M_Node_showInside), (k_Join, M_Node_showInside), (k_Negation, M_Node_showInside), (k_Constant, M_Node_showInside)]
theorem x_callD {ms : List (Nat × XMt)} {As st : List Value} {b idx nn : Nat} {P' : Option Value → XH → Nat → Nat → Prop} (hms : ∀ q ∈ ms, ∃ C T N, xk[q.1]? = some (.inl (C, T, N)) ∧ xCV M.1.cls idx C q.2 nn) (hM : XD l G d ms b As h c n P') (hn : As.length = nn) (hst : st = As.reverse ++ .ref b :: rest) (hr : (rest.map fun v => v.category).sum ≤ 8) (hd : decode M.2.1 pc = .ok (.invokevirtual idx, 3))
    (kk : ∀ (v : Option Value) (h' : XH) (c' n' : Nat), P' v h' c' n' → XW l G M (d + 1) (pc + 3) L (v.toList ++ rest) h' c' n' P) : XW l G M (d + 1) pc L st h c n P := by
  obtain ⟨q, hq, vs, ha, hX⟩ := hM
  obtain ⟨C, T, N, h1, h2⟩ := hms q hq
  exact x_callV h1 h2 ha hX hn hst hr hd kk
def xGD (own : String) (idx : Nat) : Prop := xF own idx k_Test 4 ∧ xF own idx k_Join 2 ∧ xF own idx k_Negation 1 ∧ xF own idx k_Constant 1
/-- a part of a condition has a strength -/
def hasSt (G : XG) (h : XH) (a : Nat) (v : Value) : Prop := (∃ x y z w, xr G h a k_Test [x, y, z, w, v]) ∨ (∃ x y, xr G h a k_Join [x, y, v]) ∨ (∃ x, xr G h a k_Negation [x, v]) ∨ (∃ x, xr G h a k_Constant [x, v])
theorem x_getD {a idx : Nat} {v : Value} (hx : xGD M.1.cls idx) (hs : hasSt G h a v) (hd : decode M.2.1 pc = .ok (.getfield idx, 3)) (kk : XW l G M d (pc + 3) L (v :: rest) h c n P) : XW l G M d pc L (.ref a :: rest) h c n P := by
  rcases hs with ⟨x, y, z, w, ha⟩ | ⟨x, y, ha⟩ | ⟨x, ha⟩ | ⟨x, ha⟩
  · exact x_get hx.1 ha rfl hd kk
  · exact x_get hx.2.1 ha rfl hd kk
  · exact x_get hx.2.2.1 ha rfl hd kk
  · exact x_get hx.2.2.2 ha rfl hd kk
/-- two growths of a builder after another -/
theorem pB.tr {K a va va1 m m1 c1 n1 c2 n2 : Nat} {t1 t2 : List Nat} {h1 h2 : XH} (hb : isB h1 a va1 t1 m1) (f1 : xfr h h1 [a, va]) (e1 : va1 = va ∨ h va1 = none) (g1 : xgr K m m1 c n c1 n1) (p : pB K a va1 t2 m1 h1 c1 n1 h2 c2 n2) : pB K a va t2 m h c n h2 c2 n2 := by
  obtain ⟨va2, m2, p1, p2, p3, p4⟩ := p
  refine ⟨va2, m2, p1, f1.tr p2 (fun q hq hq2 => ?_), ?_, by omega⟩
  · simp only [List.mem_cons, List.not_mem_nil, or_false] at hq2 ⊢
    rcases hq2 with rfl | rfl
    · exact Or.inl rfl
    · rcases e1 with rfl | e1
      · exact Or.inr rfl
      · exact absurd e1 hq
  · rcases p3 with rfl | p3
    · exact e1
    · exact Or.inr (f1.2 _ p3)
theorem pB.rf {K a va m : Nat} {t : List Nat} (hb : isB h a va t m) (hK : m ≤ K) : pB K a va t m h c n h c n := ⟨va, m, hb, xfr.rf, Or.inl rfl, by omega⟩
end ND0
end
section
section
abbrev y_Test_outcome : MethodName := ⟨"MarkerText$Test", "outcome", "(JJ)I"⟩
abbrev M_Test_outcome : XMt := (y_Test_outcome, prog_11_method_3_code, 4, (some .int))
theorem d_Test_outcome_0 : decode M_Test_outcome.2.1 0 = .ok (.lload_n 0, 1) := by decide +kernel
theorem d_Test_outcome_1 : decode M_Test_outcome.2.1 1 = .ok (.lconst 0, 1) := by decide +kernel
theorem d_Test_outcome_2 : decode M_Test_outcome.2.1 2 = .ok (.lcmp, 1) := by decide +kernel
theorem d_Test_outcome_3 : decode M_Test_outcome.2.1 3 = .ok (.ifCond .ne 6, 3) := by decide +kernel
theorem d_Test_outcome_6 : decode M_Test_outcome.2.1 6 = .ok (.bipush 8, 2) := by decide +kernel
theorem d_Test_outcome_8 : decode M_Test_outcome.2.1 8 = .ok (.ireturn, 1) := by decide +kernel
theorem d_Test_outcome_9 : decode M_Test_outcome.2.1 9 = .ok (.lload_n 0, 1) := by decide +kernel
theorem d_Test_outcome_10 : decode M_Test_outcome.2.1 10 = .ok (.lload_n 2, 1) := by decide +kernel
theorem d_Test_outcome_11 : decode M_Test_outcome.2.1 11 = .ok (.lcmp, 1) := by decide +kernel
theorem d_Test_outcome_12 : decode M_Test_outcome.2.1 12 = .ok (.ifCond .ne 5, 3) := by decide +kernel
theorem d_Test_outcome_15 : decode M_Test_outcome.2.1 15 = .ok (.iconst 2, 1) := by decide +kernel
theorem d_Test_outcome_16 : decode M_Test_outcome.2.1 16 = .ok (.ireturn, 1) := by decide +kernel
theorem d_Test_outcome_17 : decode M_Test_outcome.2.1 17 = .ok (.lload_n 0, 1) := by decide +kernel
theorem d_Test_outcome_18 : decode M_Test_outcome.2.1 18 = .ok (.lload_n 2, 1) := by decide +kernel
theorem d_Test_outcome_19 : decode M_Test_outcome.2.1 19 = .ok (.lcmp, 1) := by decide +kernel
theorem d_Test_outcome_20 : decode M_Test_outcome.2.1 20 = .ok (.ifCond .ge 7, 3) := by decide +kernel
theorem d_Test_outcome_23 : decode M_Test_outcome.2.1 23 = .ok (.iconst 1, 1) := by decide +kernel
theorem d_Test_outcome_24 : decode M_Test_outcome.2.1 24 = .ok (.goto 4, 3) := by decide +kernel
theorem d_Test_outcome_28 : decode M_Test_outcome.2.1 28 = .ok (.ireturn, 1) := by decide +kernel
theorem d_Test_outcome_27 : decode M_Test_outcome.2.1 27 = .ok (.iconst 4, 1) := by decide +kernel
theorem d_Test_isTrueAt_30 : decode M_Test_isTrueAt.2.1 30 = .ok (.iload 4, 2) := by decide +kernel
theorem d_Test_isTrueAt_32 : decode M_Test_isTrueAt.2.1 32 = .ok (.aload_n 0, 1) := by decide +kernel
theorem d_Test_isTrueAt_33 : decode M_Test_isTrueAt.2.1 33 = .ok (.getfield 18, 3) := by decide +kernel
theorem xw_1022 : (Jvm.Cond.fieldLink "MarkerText$Test" (18 : Nat) "MarkerText$Test" "values" "[J") ∈ xT := xT_at 1022 (by decide +kernel) (by decide +kernel)
theorem xf_Test_18_Test : xF "MarkerText$Test" 18 k_Test 2 := ⟨_, _, _, "MarkerText$Test", rfl, by decide, Or.inl xw_1022, Or.inl rfl⟩
theorem d_Test_isTrueAt_36 : decode M_Test_isTrueAt.2.1 36 = .ok (.arraylength, 1) := by decide +kernel
theorem d_Test_isTrueAt_37 : decode M_Test_isTrueAt.2.1 37 = .ok (.if_icmp .ge 30, 3) := by decide +kernel
theorem d_Test_isTrueAt_67 : decode M_Test_isTrueAt.2.1 67 = .ok (.iconst 0, 1) := by decide +kernel
theorem d_Test_isTrueAt_68 : decode M_Test_isTrueAt.2.1 68 = .ok (.ireturn, 1) := by decide +kernel
theorem d_Test_isTrueAt_40 : decode M_Test_isTrueAt.2.1 40 = .ok (.aload_n 0, 1) := by decide +kernel
theorem d_Test_isTrueAt_41 : decode M_Test_isTrueAt.2.1 41 = .ok (.getfield 15, 3) := by decide +kernel
theorem xw_1021 : (Jvm.Cond.fieldLink "MarkerText$Test" (15 : Nat) "MarkerText$Test" "accepted" "I") ∈ xT := xT_at 1021 (by decide +kernel) (by decide +kernel)
theorem xf_Test_15_Test : xF "MarkerText$Test" 15 k_Test 1 := ⟨_, _, _, "MarkerText$Test", rfl, by decide, Or.inl xw_1021, Or.inl rfl⟩
theorem d_Test_isTrueAt_44 : decode M_Test_isTrueAt.2.1 44 = .ok (.lload_n 2, 1) := by decide +kernel
theorem d_Test_isTrueAt_45 : decode M_Test_isTrueAt.2.1 45 = .ok (.aload_n 0, 1) := by decide +kernel
theorem d_Test_isTrueAt_46 : decode M_Test_isTrueAt.2.1 46 = .ok (.getfield 18, 3) := by decide +kernel
theorem d_Test_isTrueAt_49 : decode M_Test_isTrueAt.2.1 49 = .ok (.iload 4, 2) := by decide +kernel
theorem d_Test_isTrueAt_51 : decode M_Test_isTrueAt.2.1 51 = .ok (.laload, 1) := by decide +kernel
theorem d_Test_isTrueAt_52 : decode M_Test_isTrueAt.2.1 52 = .ok (.invokestatic 26, 3) := by decide +kernel
theorem xw_303 : (Jvm.Cond.code ({ cls := "MarkerText$Test", name := "outcome", desc := "(JJ)I" } : Jvm.MethodName) prog_11_method_3_code (4 : Nat) (Option.some Jvm.ClassFile.FieldType.int)) ∈ xT := xT_at 303 (by decide +kernel) (by decide +kernel)
theorem xw_30 : (Jvm.Cond.initialized "MarkerText$Test") ∈ xT := xT_at 30 (by decide +kernel) (by decide +kernel)
theorem xcb_Test_outcome : xcb M_Test_outcome 2 := ⟨xw_303, xw_30, by decide, by decide, by decide, by decide +kernel⟩
theorem xw_301 : (Jvm.Cond.methodLink "MarkerText$Test" (26 : Nat) ({ cls := "MarkerText$Test", name := "outcome", desc := "(JJ)I" } : Jvm.MethodName)) ∈ xT := xT_at 301 (by decide +kernel) (by decide +kernel)
theorem xw_302 : (Jvm.Cond.static ({ cls := "MarkerText$Test", name := "outcome", desc := "(JJ)I" } : Jvm.MethodName)) ∈ xT := xT_at 302 (by decide +kernel) (by decide +kernel)
theorem xcs_Test_26 : xCS "MarkerText$Test" 26 M_Test_outcome 2 := ⟨xcb_Test_outcome, xw_302, Or.inl xw_301⟩
theorem d_Test_isTrueAt_55 : decode M_Test_isTrueAt.2.1 55 = .ok (.iand, 1) := by decide +kernel
theorem d_Test_isTrueAt_56 : decode M_Test_isTrueAt.2.1 56 = .ok (.ifCond .eq 5, 3) := by decide +kernel
theorem d_Test_isTrueAt_61 : decode M_Test_isTrueAt.2.1 61 = .ok (.iinc 4 1, 3) := by decide +kernel
theorem d_Test_isTrueAt_64 : decode M_Test_isTrueAt.2.1 64 = .ok (.goto (-34), 3) := by decide +kernel
theorem d_Test_isTrueAt_59 : decode M_Test_isTrueAt.2.1 59 = .ok (.iconst 1, 1) := by decide +kernel
theorem d_Test_isTrueAt_60 : decode M_Test_isTrueAt.2.1 60 = .ok (.ireturn, 1) := by decide +kernel
theorem d_Test_isTrueAt_0 : decode M_Test_isTrueAt.2.1 0 = .ok (.aload_n 0, 1) := by decide +kernel
theorem d_Test_isTrueAt_1 : decode M_Test_isTrueAt.2.1 1 = .ok (.getfield 9, 3) := by decide +kernel
theorem xw_1019 : (Jvm.Cond.fieldLink "MarkerText$Test" (9 : Nat) "MarkerText$Test" "name" "I") ∈ xT := xT_at 1019 (by decide +kernel) (by decide +kernel)
theorem xf_Test_9_Test : xF "MarkerText$Test" 9 k_Test 0 := ⟨_, _, _, "MarkerText$Test", rfl, by decide, Or.inl xw_1019, Or.inl rfl⟩
theorem d_Test_isTrueAt_4 : decode M_Test_isTrueAt.2.1 4 = .ok (.ifCond .lt 21, 3) := by decide +kernel
theorem d_Test_isTrueAt_7 : decode M_Test_isTrueAt.2.1 7 = .ok (.aload_n 0, 1) := by decide +kernel
theorem d_Test_isTrueAt_8 : decode M_Test_isTrueAt.2.1 8 = .ok (.getfield 9, 3) := by decide +kernel
theorem d_Test_isTrueAt_11 : decode M_Test_isTrueAt.2.1 11 = .ok (.aload_n 1, 1) := by decide +kernel
theorem d_Test_isTrueAt_12 : decode M_Test_isTrueAt.2.1 12 = .ok (.arraylength, 1) := by decide +kernel
theorem d_Test_isTrueAt_13 : decode M_Test_isTrueAt.2.1 13 = .ok (.if_icmp .ge 12, 3) := by decide +kernel
theorem d_Test_isTrueAt_16 : decode M_Test_isTrueAt.2.1 16 = .ok (.aload_n 1, 1) := by decide +kernel
theorem d_Test_isTrueAt_17 : decode M_Test_isTrueAt.2.1 17 = .ok (.aload_n 0, 1) := by decide +kernel
theorem d_Test_isTrueAt_18 : decode M_Test_isTrueAt.2.1 18 = .ok (.getfield 9, 3) := by decide +kernel
theorem d_Test_isTrueAt_21 : decode M_Test_isTrueAt.2.1 21 = .ok (.laload, 1) := by decide +kernel
theorem d_Test_isTrueAt_22 : decode M_Test_isTrueAt.2.1 22 = .ok (.goto 4, 3) := by decide +kernel
theorem d_Test_isTrueAt_26 : decode M_Test_isTrueAt.2.1 26 = .ok (.lstore_n 2, 1) := by decide +kernel
theorem d_Test_isTrueAt_27 : decode M_Test_isTrueAt.2.1 27 = .ok (.iconst 0, 1) := by decide +kernel
theorem d_Test_isTrueAt_28 : decode M_Test_isTrueAt.2.1 28 = .ok (.istore 4, 2) := by decide +kernel
theorem d_Constant_isTrueAt_0 : decode M_Constant_isTrueAt.2.1 0 = .ok (.aload_n 0, 1) := by decide +kernel
theorem d_Constant_isTrueAt_1 : decode M_Constant_isTrueAt.2.1 1 = .ok (.getfield 7, 3) := by decide +kernel
theorem xw_969 : (Jvm.Cond.fieldLink "MarkerText$Constant" (7 : Nat) "MarkerText$Constant" "truth" "Z") ∈ xT := xT_at 969 (by decide +kernel) (by decide +kernel)
theorem xf_Constant_7_Constant : xF "MarkerText$Constant" 7 k_Constant 0 := ⟨_, _, _, "MarkerText$Constant", rfl, by decide, Or.inl xw_969, Or.inl rfl⟩
theorem d_Constant_isTrueAt_4 : decode M_Constant_isTrueAt.2.1 4 = .ok (.ireturn, 1) := by decide +kernel
theorem d_Negation_isTrueAt_0 : decode M_Negation_isTrueAt.2.1 0 = .ok (.aload_n 0, 1) := by decide +kernel
theorem d_Negation_isTrueAt_1 : decode M_Negation_isTrueAt.2.1 1 = .ok (.getfield 7, 3) := by decide +kernel
theorem xw_945 : (Jvm.Cond.fieldLink "MarkerText$Negation" (7 : Nat) "MarkerText$Negation" "inner" "LMarkerText$Node;") ∈ xT := xT_at 945 (by decide +kernel) (by decide +kernel)
theorem xf_Negation_7_Negation : xF "MarkerText$Negation" 7 k_Negation 0 := ⟨_, _, _, "MarkerText$Negation", rfl, by decide, Or.inl xw_945, Or.inl rfl⟩
theorem d_Negation_isTrueAt_4 : decode M_Negation_isTrueAt.2.1 4 = .ok (.aload_n 1, 1) := by decide +kernel
theorem d_Negation_isTrueAt_5 : decode M_Negation_isTrueAt.2.1 5 = .ok (.invokevirtual 13, 3) := by decide +kernel
theorem xw_300 : (Jvm.Cond.code ({ cls := "MarkerText$Test", name := "isTrueAt", desc := "([J)Z" } : Jvm.MethodName) prog_11_method_2_code (5 : Nat) (Option.some Jvm.ClassFile.FieldType.boolean)) ∈ xT := xT_at 300 (by decide +kernel) (by decide +kernel)
theorem xcb_Test_isTrueAt : xcb M_Test_isTrueAt 1 := ⟨xw_300, xw_30, by decide, by decide, by decide, by decide +kernel⟩
theorem xw_299 : (Jvm.Cond.instanceMethod ({ cls := "MarkerText$Test", name := "isTrueAt", desc := "([J)Z" } : Jvm.MethodName)) ∈ xT := xT_at 299 (by decide +kernel) (by decide +kernel)
theorem xw_287 : (Jvm.Cond.declares ({ cls := "MarkerText$Node", name := "isTrueAt", desc := "([J)Z" } : Jvm.MethodName)) ∈ xT := xT_at 287 (by decide +kernel) (by decide +kernel)
theorem xw_298 : (Jvm.Cond.methodLink "MarkerText$Negation" (13 : Nat) ({ cls := "MarkerText$Node", name := "isTrueAt", desc := "([J)Z" } : Jvm.MethodName)) ∈ xT := xT_at 298 (by decide +kernel) (by decide +kernel)
theorem xw_288 : (Jvm.Cond.sameMethod "MarkerText$Node" "MarkerText$Node" "isTrueAt" "([J)Z") ∈ xT := xT_at 288 (by decide +kernel) (by decide +kernel)
theorem xw_305 : (Jvm.Cond.selects "MarkerText$Test" ({ cls := "MarkerText$Node", name := "isTrueAt", desc := "([J)Z" } : Jvm.MethodName) ({ cls := "MarkerText$Test", name := "isTrueAt", desc := "([J)Z" } : Jvm.MethodName)) ∈ xT := xT_at 305 (by decide +kernel) (by decide +kernel)
theorem xcv_Negation_13_Test : xCV "MarkerText$Negation" 13 "MarkerText$Test" M_Test_isTrueAt 1 := ⟨xcb_Test_isTrueAt, xw_299, Or.inr (Or.inr ⟨⟨"MarkerText$Node", "isTrueAt", "([J)Z"⟩, "MarkerText$Node", xw_298, xw_288, xw_305, rfl, ⟨by decide, by decide⟩, Or.inl xw_287⟩)⟩
theorem xw_294 : (Jvm.Cond.code ({ cls := "MarkerText$Join", name := "isTrueAt", desc := "([J)Z" } : Jvm.MethodName) prog_5_method_2_code (2 : Nat) (Option.some Jvm.ClassFile.FieldType.boolean)) ∈ xT := xT_at 294 (by decide +kernel) (by decide +kernel)
theorem xw_31 : (Jvm.Cond.initialized "MarkerText$Join") ∈ xT := xT_at 31 (by decide +kernel) (by decide +kernel)
theorem xcb_Join_isTrueAt : xcb M_Join_isTrueAt 1 := ⟨xw_294, xw_31, by decide, by decide, by decide, by decide +kernel⟩
theorem xw_293 : (Jvm.Cond.instanceMethod ({ cls := "MarkerText$Join", name := "isTrueAt", desc := "([J)Z" } : Jvm.MethodName)) ∈ xT := xT_at 293 (by decide +kernel) (by decide +kernel)
theorem xw_292 : (Jvm.Cond.selects "MarkerText$Join" ({ cls := "MarkerText$Node", name := "isTrueAt", desc := "([J)Z" } : Jvm.MethodName) ({ cls := "MarkerText$Join", name := "isTrueAt", desc := "([J)Z" } : Jvm.MethodName)) ∈ xT := xT_at 292 (by decide +kernel) (by decide +kernel)
theorem xcv_Negation_13_Join : xCV "MarkerText$Negation" 13 "MarkerText$Join" M_Join_isTrueAt 1 := ⟨xcb_Join_isTrueAt, xw_293, Or.inr (Or.inr ⟨⟨"MarkerText$Node", "isTrueAt", "([J)Z"⟩, "MarkerText$Node", xw_298, xw_288, xw_292, rfl, ⟨by decide, by decide⟩, Or.inl xw_287⟩)⟩
theorem xw_297 : (Jvm.Cond.code ({ cls := "MarkerText$Negation", name := "isTrueAt", desc := "([J)Z" } : Jvm.MethodName) prog_7_method_2_code (2 : Nat) (Option.some Jvm.ClassFile.FieldType.boolean)) ∈ xT := xT_at 297 (by decide +kernel) (by decide +kernel)
theorem xw_28 : (Jvm.Cond.initialized "MarkerText$Negation") ∈ xT := xT_at 28 (by decide +kernel) (by decide +kernel)
theorem xcb_Negation_isTrueAt : xcb M_Negation_isTrueAt 1 := ⟨xw_297, xw_28, by decide, by decide, by decide, by decide +kernel⟩
theorem xw_296 : (Jvm.Cond.instanceMethod ({ cls := "MarkerText$Negation", name := "isTrueAt", desc := "([J)Z" } : Jvm.MethodName)) ∈ xT := xT_at 296 (by decide +kernel) (by decide +kernel)
theorem xw_304 : (Jvm.Cond.selects "MarkerText$Negation" ({ cls := "MarkerText$Node", name := "isTrueAt", desc := "([J)Z" } : Jvm.MethodName) ({ cls := "MarkerText$Negation", name := "isTrueAt", desc := "([J)Z" } : Jvm.MethodName)) ∈ xT := xT_at 304 (by decide +kernel) (by decide +kernel)
theorem xcv_Negation_13_Negation : xCV "MarkerText$Negation" 13 "MarkerText$Negation" M_Negation_isTrueAt 1 := ⟨xcb_Negation_isTrueAt, xw_296, Or.inr (Or.inr ⟨⟨"MarkerText$Node", "isTrueAt", "([J)Z"⟩, "MarkerText$Node", xw_298, xw_288, xw_304, rfl, ⟨by decide, by decide⟩, Or.inl xw_287⟩)⟩
theorem xw_291 : (Jvm.Cond.code ({ cls := "MarkerText$Constant", name := "isTrueAt", desc := "([J)Z" } : Jvm.MethodName) prog_4_method_2_code (2 : Nat) (Option.some Jvm.ClassFile.FieldType.boolean)) ∈ xT := xT_at 291 (by decide +kernel) (by decide +kernel)
theorem xw_29 : (Jvm.Cond.initialized "MarkerText$Constant") ∈ xT := xT_at 29 (by decide +kernel) (by decide +kernel)
theorem xcb_Constant_isTrueAt : xcb M_Constant_isTrueAt 1 := ⟨xw_291, xw_29, by decide, by decide, by decide, by decide +kernel⟩
theorem xw_290 : (Jvm.Cond.instanceMethod ({ cls := "MarkerText$Constant", name := "isTrueAt", desc := "([J)Z" } : Jvm.MethodName)) ∈ xT := xT_at 290 (by decide +kernel) (by decide +kernel)
theorem xw_289 : (Jvm.Cond.selects "MarkerText$Constant" ({ cls := "MarkerText$Node", name := "isTrueAt", desc := "([J)Z" } : Jvm.MethodName) ({ cls := "MarkerText$Constant", name := "isTrueAt", desc := "([J)Z" } : Jvm.MethodName)) ∈ xT := xT_at 289 (by decide +kernel) (by decide +kernel)
theorem xcv_Negation_13_Constant : xCV "MarkerText$Negation" 13 "MarkerText$Constant" M_Constant_isTrueAt 1 := ⟨xcb_Constant_isTrueAt, xw_290, Or.inr (Or.inr ⟨⟨"MarkerText$Node", "isTrueAt", "([J)Z"⟩, "MarkerText$Node", xw_298, xw_288, xw_289, rfl, ⟨by decide, by decide⟩, Or.inl xw_287⟩)⟩
theorem xD_Negation_13 : ∀ q ∈ ([(k_Test, M_Test_isTrueAt), (k_Join, M_Join_isTrueAt), (k_Negation, M_Negation_isTrueAt), (k_Constant, M_Constant_isTrueAt)] : List (Nat × XMt)), ∃ C T N, xk[q.1]? = some (.inl (C, T, N)) ∧ xCV "MarkerText$Negation" 13 C q.2 1 := List.forall_mem_cons.mpr ⟨⟨_, _, _, rfl, xcv_Negation_13_Test⟩, List.forall_mem_cons.mpr ⟨⟨_, _, _, rfl, xcv_Negation_13_Join⟩, List.forall_mem_cons.mpr ⟨⟨_, _, _, rfl, xcv_Negation_13_Negation⟩, List.forall_mem_cons.mpr ⟨⟨_, _, _, rfl, xcv_Negation_13_Constant⟩, fun _ hz => by cases hz⟩⟩⟩⟩
theorem d_Negation_isTrueAt_8 : decode M_Negation_isTrueAt.2.1 8 = .ok (.ifCond .ne 7, 3) := by decide +kernel
theorem d_Negation_isTrueAt_11 : decode M_Negation_isTrueAt.2.1 11 = .ok (.iconst 1, 1) := by decide +kernel
theorem d_Negation_isTrueAt_12 : decode M_Negation_isTrueAt.2.1 12 = .ok (.goto 4, 3) := by decide +kernel
theorem d_Negation_isTrueAt_16 : decode M_Negation_isTrueAt.2.1 16 = .ok (.ireturn, 1) := by decide +kernel
theorem d_Negation_isTrueAt_15 : decode M_Negation_isTrueAt.2.1 15 = .ok (.iconst 0, 1) := by decide +kernel
theorem d_Join_isTrueAt_0 : decode M_Join_isTrueAt.2.1 0 = .ok (.aload_n 0, 1) := by decide +kernel
theorem d_Join_isTrueAt_1 : decode M_Join_isTrueAt.2.1 1 = .ok (.getfield 16, 3) := by decide +kernel
theorem xw_948 : (Jvm.Cond.sameField "MarkerText$Join" "MarkerText$Node" "strength" "I") ∈ xT := xT_at 948 (by decide +kernel) (by decide +kernel)
theorem xw_947 : (Jvm.Cond.fieldLink "MarkerText$Join" (16 : Nat) "MarkerText$Join" "strength" "I") ∈ xT := xT_at 947 (by decide +kernel) (by decide +kernel)
theorem xf_Join_16_Join : xF "MarkerText$Join" 16 k_Join 2 := ⟨_, _, _, "MarkerText$Join", rfl, by decide, Or.inl xw_947, Or.inr xw_948⟩
theorem d_Join_isTrueAt_4 : decode M_Join_isTrueAt.2.1 4 = .ok (.iconst 1, 1) := by decide +kernel
theorem d_Join_isTrueAt_5 : decode M_Join_isTrueAt.2.1 5 = .ok (.if_icmp .ne 33, 3) := by decide +kernel
theorem d_Join_isTrueAt_8 : decode M_Join_isTrueAt.2.1 8 = .ok (.aload_n 0, 1) := by decide +kernel
theorem d_Join_isTrueAt_9 : decode M_Join_isTrueAt.2.1 9 = .ok (.getfield 7, 3) := by decide +kernel
theorem xw_1091 : (Jvm.Cond.fieldLink "MarkerText$Join" (7 : Nat) "MarkerText$Join" "first" "LMarkerText$Node;") ∈ xT := xT_at 1091 (by decide +kernel) (by decide +kernel)
theorem xf_Join_7_Join : xF "MarkerText$Join" 7 k_Join 0 := ⟨_, _, _, "MarkerText$Join", rfl, by decide, Or.inl xw_1091, Or.inl rfl⟩
theorem d_Join_isTrueAt_12 : decode M_Join_isTrueAt.2.1 12 = .ok (.aload_n 1, 1) := by decide +kernel
theorem d_Join_isTrueAt_13 : decode M_Join_isTrueAt.2.1 13 = .ok (.invokevirtual 20, 3) := by decide +kernel
theorem xw_295 : (Jvm.Cond.methodLink "MarkerText$Join" (20 : Nat) ({ cls := "MarkerText$Node", name := "isTrueAt", desc := "([J)Z" } : Jvm.MethodName)) ∈ xT := xT_at 295 (by decide +kernel) (by decide +kernel)
theorem xcv_Join_20_Test : xCV "MarkerText$Join" 20 "MarkerText$Test" M_Test_isTrueAt 1 := ⟨xcb_Test_isTrueAt, xw_299, Or.inr (Or.inr ⟨⟨"MarkerText$Node", "isTrueAt", "([J)Z"⟩, "MarkerText$Node", xw_295, xw_288, xw_305, rfl, ⟨by decide, by decide⟩, Or.inl xw_287⟩)⟩
theorem xcv_Join_20_Join : xCV "MarkerText$Join" 20 "MarkerText$Join" M_Join_isTrueAt 1 := ⟨xcb_Join_isTrueAt, xw_293, Or.inr (Or.inr ⟨⟨"MarkerText$Node", "isTrueAt", "([J)Z"⟩, "MarkerText$Node", xw_295, xw_288, xw_292, rfl, ⟨by decide, by decide⟩, Or.inl xw_287⟩)⟩
theorem xcv_Join_20_Negation : xCV "MarkerText$Join" 20 "MarkerText$Negation" M_Negation_isTrueAt 1 := ⟨xcb_Negation_isTrueAt, xw_296, Or.inr (Or.inr ⟨⟨"MarkerText$Node", "isTrueAt", "([J)Z"⟩, "MarkerText$Node", xw_295, xw_288, xw_304, rfl, ⟨by decide, by decide⟩, Or.inl xw_287⟩)⟩
theorem xcv_Join_20_Constant : xCV "MarkerText$Join" 20 "MarkerText$Constant" M_Constant_isTrueAt 1 := ⟨xcb_Constant_isTrueAt, xw_290, Or.inr (Or.inr ⟨⟨"MarkerText$Node", "isTrueAt", "([J)Z"⟩, "MarkerText$Node", xw_295, xw_288, xw_289, rfl, ⟨by decide, by decide⟩, Or.inl xw_287⟩)⟩
theorem xD_Join_20 : ∀ q ∈ ([(k_Test, M_Test_isTrueAt), (k_Join, M_Join_isTrueAt), (k_Negation, M_Negation_isTrueAt), (k_Constant, M_Constant_isTrueAt)] : List (Nat × XMt)), ∃ C T N, xk[q.1]? = some (.inl (C, T, N)) ∧ xCV "MarkerText$Join" 20 C q.2 1 := List.forall_mem_cons.mpr ⟨⟨_, _, _, rfl, xcv_Join_20_Test⟩, List.forall_mem_cons.mpr ⟨⟨_, _, _, rfl, xcv_Join_20_Join⟩, List.forall_mem_cons.mpr ⟨⟨_, _, _, rfl, xcv_Join_20_Negation⟩, List.forall_mem_cons.mpr ⟨⟨_, _, _, rfl, xcv_Join_20_Constant⟩, fun _ hz => by cases hz⟩⟩⟩⟩
theorem d_Join_isTrueAt_16 : decode M_Join_isTrueAt.2.1 16 = .ok (.ifCond .ne 14, 3) := by decide +kernel
theorem d_Join_isTrueAt_19 : decode M_Join_isTrueAt.2.1 19 = .ok (.aload_n 0, 1) := by decide +kernel
theorem d_Join_isTrueAt_20 : decode M_Join_isTrueAt.2.1 20 = .ok (.getfield 13, 3) := by decide +kernel
theorem xw_1092 : (Jvm.Cond.fieldLink "MarkerText$Join" (13 : Nat) "MarkerText$Join" "second" "LMarkerText$Node;") ∈ xT := xT_at 1092 (by decide +kernel) (by decide +kernel)
theorem xf_Join_13_Join : xF "MarkerText$Join" 13 k_Join 1 := ⟨_, _, _, "MarkerText$Join", rfl, by decide, Or.inl xw_1092, Or.inl rfl⟩
theorem d_Join_isTrueAt_23 : decode M_Join_isTrueAt.2.1 23 = .ok (.aload_n 1, 1) := by decide +kernel
theorem d_Join_isTrueAt_24 : decode M_Join_isTrueAt.2.1 24 = .ok (.invokevirtual 20, 3) := by decide +kernel
theorem d_Join_isTrueAt_27 : decode M_Join_isTrueAt.2.1 27 = .ok (.ifCond .eq 7, 3) := by decide +kernel
theorem d_Join_isTrueAt_34 : decode M_Join_isTrueAt.2.1 34 = .ok (.iconst 0, 1) := by decide +kernel
theorem d_Join_isTrueAt_35 : decode M_Join_isTrueAt.2.1 35 = .ok (.goto 30, 3) := by decide +kernel
theorem d_Join_isTrueAt_65 : decode M_Join_isTrueAt.2.1 65 = .ok (.ireturn, 1) := by decide +kernel
theorem d_Join_isTrueAt_30 : decode M_Join_isTrueAt.2.1 30 = .ok (.iconst 1, 1) := by decide +kernel
theorem d_Join_isTrueAt_31 : decode M_Join_isTrueAt.2.1 31 = .ok (.goto 34, 3) := by decide +kernel
theorem d_Join_isTrueAt_38 : decode M_Join_isTrueAt.2.1 38 = .ok (.aload_n 0, 1) := by decide +kernel
theorem d_Join_isTrueAt_39 : decode M_Join_isTrueAt.2.1 39 = .ok (.getfield 7, 3) := by decide +kernel
theorem d_Join_isTrueAt_42 : decode M_Join_isTrueAt.2.1 42 = .ok (.aload_n 1, 1) := by decide +kernel
theorem d_Join_isTrueAt_43 : decode M_Join_isTrueAt.2.1 43 = .ok (.invokevirtual 20, 3) := by decide +kernel
theorem d_Join_isTrueAt_46 : decode M_Join_isTrueAt.2.1 46 = .ok (.ifCond .eq 18, 3) := by decide +kernel
theorem d_Join_isTrueAt_64 : decode M_Join_isTrueAt.2.1 64 = .ok (.iconst 0, 1) := by decide +kernel
theorem d_Join_isTrueAt_49 : decode M_Join_isTrueAt.2.1 49 = .ok (.aload_n 0, 1) := by decide +kernel
theorem d_Join_isTrueAt_50 : decode M_Join_isTrueAt.2.1 50 = .ok (.getfield 13, 3) := by decide +kernel
theorem d_Join_isTrueAt_53 : decode M_Join_isTrueAt.2.1 53 = .ok (.aload_n 1, 1) := by decide +kernel
theorem d_Join_isTrueAt_54 : decode M_Join_isTrueAt.2.1 54 = .ok (.invokevirtual 20, 3) := by decide +kernel
theorem d_Join_isTrueAt_57 : decode M_Join_isTrueAt.2.1 57 = .ok (.ifCond .eq 7, 3) := by decide +kernel
theorem d_Join_isTrueAt_60 : decode M_Join_isTrueAt.2.1 60 = .ok (.iconst 1, 1) := by decide +kernel
theorem d_Join_isTrueAt_61 : decode M_Join_isTrueAt.2.1 61 = .ok (.goto 4, 3) := by decide +kernel
end
section ND1
variable {l : Launch} {G : XG} {h : XH} {c n d : Nat}
def bI (b : Bool) : Int32 := if b then 1 else 0
theorem bI_t : bI true = 1 := rfl
theorem bI_f : bI false = 0 := rfl
/-- how a level compares with another one -/
def tout (x v : Nat) : Nat := if x = 0 then 8 else if x = v then 2 else if x < v then 1 else 4
/-- a test: its name, what it accepts, its levels, as it is shown -/
abbrev TsT : Type := Nat × Nat × List Nat × List Nat
def tst (t : TsT) (lv : Nat → Nat) : Bool := t.2.2.1.any (fun v => decide (t.2.1 &&& tout (lv t.1) v ≠ 0))
def isTs (G : XG) (h : XH) (a : Nat) (t : TsT) : Prop := ∃ va sa, h a = some (k_Test, [.int (nI t.1), .int (nI t.2.1), .ref va, .ref sa, .int 3]) ∧ h va = some (k_avals, t.2.2.1.map (fun v => .long (lN v))) ∧ isS G h sa t.2.2.2 ∧ t.1 < 6 ∧ t.2.1 < 16 ∧ (∀ v ∈ t.2.2.1, v < 2 ^ 63) ∧ t.2.2.1.length ≤ 6
/-- a level for each name -/
def isLv (h : XH) (kl r : Nat) (lv : Nat → Nat) : Prop := xk[kl]? = some (.inr .long) ∧ h r = some (kl, (List.range 6).map (fun i => .long (lN (lv i)))) ∧ ∀ i, lv i < 2 ^ 63
theorem c_outcome {x v : Nat} (hx : x < 2 ^ 63) (hv : v < 2 ^ 63) : XM l G d M_Test_outcome [.long (lN x), .long (lN v)] h c n (xSame (.int (nI (tout x v))) h c n) := by
  refine XM.of (by decide +kernel) (Nat.le_of_ble_eq_true rfl) ?_
  refine x_lload_n d_Test_outcome_0 rfl ?_
  refine x_lconst (v := 0) d_Test_outcome_1 (by decide) ?_
  refine x_lcmp d_Test_outcome_2 ?_
  unfold tout
  by_cases h0 : x = 0
  · rw [if_pos h0]
    refine x_if_ne (tgt := 9) d_Test_outcome_3 (by decide) (fun ht => absurd ((lg_cmp_eq _ _).mpr (by rw [h0]; rfl)) ht) (fun _ => ?_)
    refine x_bipush (v := 8) d_Test_outcome_6 (by decide) ?_
    refine x_iret d_Test_outcome_8 rfl ?_
    exact ⟨rfl, rfl, rfl, rfl⟩
  rw [if_neg h0]
  refine x_if_ne (tgt := 9) d_Test_outcome_3 (by decide) (fun _ => ?_) (fun hn => absurd hn (fun z => h0 ((pk_lEQ (b := 0) hx (by decide)).mp ((lg_cmp_eq _ _).mp z))))
  refine x_lload_n d_Test_outcome_9 rfl ?_
  refine x_lload_n d_Test_outcome_10 rfl ?_
  refine x_lcmp d_Test_outcome_11 ?_
  by_cases h1 : x = v
  · rw [if_pos h1]
    refine x_if_ne (tgt := 17) d_Test_outcome_12 (by decide) (fun ht => absurd ((lg_cmp_eq _ _).mpr (by rw [h1])) ht) (fun _ => ?_)
    refine x_iconst (v := 2) d_Test_outcome_15 (by decide) ?_
    refine x_iret d_Test_outcome_16 rfl ?_
    exact ⟨rfl, rfl, rfl, rfl⟩
  rw [if_neg h1]
  refine x_if_ne (tgt := 17) d_Test_outcome_12 (by decide) (fun _ => ?_) (fun hn => absurd hn (fun z => h1 ((pk_lEQ hx hv).mp ((lg_cmp_eq _ _).mp z))))
  refine x_lload_n d_Test_outcome_17 rfl ?_
  refine x_lload_n d_Test_outcome_18 rfl ?_
  refine x_lcmp d_Test_outcome_19 ?_
  by_cases h2 : x < v
  · rw [if_pos h2]
    refine x_if_ge (tgt := 27) d_Test_outcome_20 (by decide) (fun ht => absurd ht (fun z => absurd ((pk_lLE hv hx).mp ((lg_cmp_ge _ _).mp z)) (by omega))) (fun _ => ?_)
    refine x_iconst (v := 1) d_Test_outcome_23 (by decide) ?_
    refine x_goto (tgt := 28) d_Test_outcome_24 (by decide) ?_
    refine x_iret d_Test_outcome_28 rfl ?_
    exact ⟨rfl, rfl, rfl, rfl⟩
  · rw [if_neg h2]
    refine x_if_ge (tgt := 27) d_Test_outcome_20 (by decide) (fun _ => ?_) (fun hn => absurd ((lg_cmp_ge _ _).mpr ((pk_lLE hv hx).mpr (by omega))) hn)
    refine x_iconst (v := 4) d_Test_outcome_27 (by decide) ?_
    refine x_iret d_Test_outcome_28 rfl ?_
    exact ⟨rfl, rfl, rfl, rfl⟩
theorem acc_and : ∀ a, a < 16 → ∀ b, b < 16 → (nI a &&& nI b = 0 ↔ a &&& b = 0) := by decide +kernel
theorem tout_lt (x v : Nat) : tout x v < 16 := by
  unfold tout
  split
  · decide
  split
  · decide
  split <;> decide
theorem c_Test_isTrueAt (hd : 1 ≤ d) {a kl r : Nat} {t : TsT} {lv : Nat → Nat} (hT : isTs G h a t) (hL : isLv h kl r lv) : XM l G d M_Test_isTrueAt [.ref a, .ref r] h c n (xSame (.int (bI (tst t lv))) h c n) := by
  obtain ⟨d, rfl⟩ : ∃ q, d = q + 1 := ⟨d - 1, by omega⟩
  obtain ⟨va, sa, ha, hva, -, h6, h16, hb, hl⟩ := hT
  obtain ⟨hkl, hr, hlb⟩ := hL
  have hlen : ((List.range 6).map (fun i => Value.long (lN (lv i)))).length = 6 := by simp
  have hat : ((List.range 6).map (fun i => Value.long (lN (lv i))))[(nI t.1).toNatClampNeg]? = some (.long (lN (lv t.1))) := by
    rw [nI_clamp (by omega), List.getElem?_map, List.getElem?_range h6]
    rfl
  have hvl : (t.2.2.1.map (fun v => Value.long (lN v))).length = t.2.2.1.length := by simp
  refine XM.of (by decide +kernel) (Nat.le_of_ble_eq_true rfl) ?_
  have lp : ∀ (k i : Nat), i + k = t.2.2.1.length → (∀ j (hj : j < t.2.2.1.length), j < i → t.2.1 &&& tout (lv t.1) t.2.2.1[j] = 0) → XW l G M_Test_isTrueAt (d + 1) 30 [some (.ref a), some (.ref r), some (.long (lN (lv t.1))), none, some (.int (nI i))] [] h c n (xSame (.int (bI (tst t lv))) h c n) := by
    intro k
    induction k with
    | zero =>
      intro i hi hj
      have hno : tst t lv = false := by
        refine List.any_eq_false.mpr (fun v hv => ?_)
        obtain ⟨j, h1, h2⟩ := List.getElem_of_mem hv
        rw [← h2]
        simpa using hj j h1 (by omega)
      refine x_iload d_Test_isTrueAt_30 rfl ?_
      refine x_aload_n d_Test_isTrueAt_32 rfl rfl ?_
      refine x_get xf_Test_18_Test (Or.inl ha) rfl d_Test_isTrueAt_33 ?_
      refine x_alen (k := k_avals) rfl (Or.inl hva) (v := nI t.2.2.1.length) (by rw [hvl]; rfl) d_Test_isTrueAt_36 ?_
      refine x_icmp_ge (tgt := 67) d_Test_isTrueAt_37 (by decide) (fun _ => ?_) (fun hn => absurd (nI_le (by omega) (by omega)) hn)
      refine x_iconst (v := 0) d_Test_isTrueAt_67 (by decide) ?_
      refine x_zret d_Test_isTrueAt_68 rfl rfl ?_
      exact ⟨by rw [hno]; rfl, rfl, rfl, rfl⟩
    | succ k ih =>
      intro i hi hj
      have hil : i < t.2.2.1.length := by omega
      have hvi : (t.2.2.1.map (fun v => Value.long (lN v)))[(nI i).toNatClampNeg]? = some (.long (lN t.2.2.1[i])) := by
        rw [nI_clamp (by omega), List.getElem?_map, List.getElem?_eq_getElem hil]
        rfl
      refine x_iload d_Test_isTrueAt_30 rfl ?_
      refine x_aload_n d_Test_isTrueAt_32 rfl rfl ?_
      refine x_get xf_Test_18_Test (Or.inl ha) rfl d_Test_isTrueAt_33 ?_
      refine x_alen (k := k_avals) rfl (Or.inl hva) (v := nI t.2.2.1.length) (by rw [hvl]; rfl) d_Test_isTrueAt_36 ?_
      refine x_icmp_ge (tgt := 67) d_Test_isTrueAt_37 (by decide) (fun ht => absurd ht (nI_ge (by omega) (by omega))) (fun _ => ?_)
      refine x_aload_n d_Test_isTrueAt_40 rfl rfl ?_
      refine x_get xf_Test_15_Test (Or.inl ha) rfl d_Test_isTrueAt_41 ?_
      refine x_lload_n d_Test_isTrueAt_44 rfl ?_
      refine x_aload_n d_Test_isTrueAt_45 rfl rfl ?_
      refine x_get xf_Test_18_Test (Or.inl ha) rfl d_Test_isTrueAt_46 ?_
      refine x_iload d_Test_isTrueAt_49 rfl ?_
      refine x_lald (k := k_avals) rfl (Or.inl hva) (nI_pos (by omega)) hvi d_Test_isTrueAt_51 ?_
      refine x_callS (As := [_, _]) xcs_Test_26 (c_outcome (hlb _) (hb _ (List.getElem_mem hil))) rfl rfl (Nat.le_of_ble_eq_true rfl) d_Test_isTrueAt_52 ?_
      rintro v h' c' n' ⟨rfl, rfl, rfl, rfl⟩
      refine x_iand d_Test_isTrueAt_55 ?_
      by_cases he : t.2.1 &&& tout (lv t.1) t.2.2.1[i] = 0
      · refine x_if_eq (tgt := 61) d_Test_isTrueAt_56 (by decide) (fun _ => ?_) (fun hn => absurd ((acc_and _ h16 _ (tout_lt _ _)).mpr he) hn)
        refine x_iinc (v := nI (i + 1)) (L' := [_, _, _, _, _]) d_Test_isTrueAt_61 rfl (by exact xw_iinc1) rfl rfl ?_
        refine x_goto (tgt := 30) d_Test_isTrueAt_64 (by decide) ?_
        refine ih (i + 1) (by omega) (fun j h1 h2 => ?_)
        by_cases hji : j = i
        · subst hji; exact he
        · exact hj j h1 (by omega)
      · have hyes : tst t lv = true := List.any_eq_true.mpr ⟨t.2.2.1[i], List.getElem_mem hil, by simpa using he⟩
        refine x_if_eq (tgt := 61) d_Test_isTrueAt_56 (by decide) (fun ht => absurd ht (fun z => he ((acc_and _ h16 _ (tout_lt _ _)).mp z))) (fun _ => ?_)
        refine x_iconst (v := 1) d_Test_isTrueAt_59 (by decide) ?_
        refine x_zret d_Test_isTrueAt_60 rfl rfl ?_
        exact ⟨by rw [hyes]; rfl, rfl, rfl, rfl⟩
  refine x_aload_n d_Test_isTrueAt_0 rfl rfl ?_
  refine x_get xf_Test_9_Test (Or.inl ha) rfl d_Test_isTrueAt_1 ?_
  refine x_if_lt (tgt := 25) d_Test_isTrueAt_4 (by decide) (fun ht => absurd ht (nI_pos (by omega))) (fun _ => ?_)
  refine x_aload_n d_Test_isTrueAt_7 rfl rfl ?_
  refine x_get xf_Test_9_Test (Or.inl ha) rfl d_Test_isTrueAt_8 ?_
  refine x_aload_n d_Test_isTrueAt_11 rfl rfl ?_
  refine x_alen (k := kl) hkl (Or.inl hr) (v := nI 6) (by rw [hlen]; rfl) d_Test_isTrueAt_12 ?_
  refine x_icmp_ge (tgt := 25) d_Test_isTrueAt_13 (by decide) (fun ht => absurd ht (nI_ge (b := 6) (by omega) (by omega))) (fun _ => ?_)
  refine x_aload_n d_Test_isTrueAt_16 rfl rfl ?_
  refine x_aload_n d_Test_isTrueAt_17 rfl rfl ?_
  refine x_get xf_Test_9_Test (Or.inl ha) rfl d_Test_isTrueAt_18 ?_
  refine x_lald (k := kl) hkl (Or.inl hr) (nI_pos (by omega)) hat d_Test_isTrueAt_21 ?_
  refine x_goto (tgt := 26) d_Test_isTrueAt_22 (by decide) ?_
  refine x_lstore_n (L' := [_, _, _, _, _]) d_Test_isTrueAt_26 rfl rfl ?_
  refine x_iconst (v := 0) d_Test_isTrueAt_27 (by decide) ?_
  refine x_istore (L' := [_, _, _, _, _]) d_Test_isTrueAt_28 rfl rfl ?_
  exact lp t.2.2.1.length 0 (by omega) (fun j h1 h2 => by omega)
/-! what a part of a condition means: its strength, its truth at levels, its text -/
abbrev Den : Type := Nat × ((Nat → Nat) → Bool) × List Nat
def brk (b : Bool) (t : List Nat) : List Nat := if b then 40 :: t ++ [41] else t
def dTst (t : TsT) : Den := (3, tst t, t.2.2.2)
def dCon (b : Bool) : Den := (3, fun _ => b, if b then xtx 26 else xtx 27)
def dNot (A : Den) : Den := (3, fun lv => !A.2.1 lv, xtx 28 ++ brk (decide (A.1 < 3)) A.2.2)
def dJoin (s : Nat) (A B : Den) : Den := (s, fun lv => if s = 1 then A.2.1 lv || B.2.1 lv else A.2.1 lv && B.2.1 lv, brk (decide (A.1 < s)) A.2.2 ++ (if s = 1 then xtx 29 else xtx 30) ++ brk (decide (B.1 ≤ s)) B.2.2)
/-- a part of a condition of at most a depth -/
def isNode (G : XG) (h : XH) : Nat → Nat → Den → Prop
  | 0, a, D => (∃ t, isTs G h a t ∧ D = dTst t) ∨ (∃ b : Bool, h a = some (k_Constant, [.int (bI b), .int 3]) ∧ D = dCon b)
  | k + 1, a, D => isNode G h k a D ∨ (∃ x A, h a = some (k_Negation, [.ref x, .int 3]) ∧ isNode G h k x A ∧ D = dNot A) ∨ (∃ s x y A B, (s = 1 ∨ s = 2) ∧ h a = some (k_Join, [.ref x, .ref y, .int (nI s)]) ∧ isNode G h k x A ∧ isNode G h k y B ∧ D = dJoin s A B)
abbrev kNd : List Nat := [k_Test, k_Join, k_Negation, k_Constant, k_avals, k_String, k_asbyte]
theorem xno.at {F ks : List Nat} {a k : Nat} {vs : List Value} (hn : xno h F ks) (ha : h a = some (k, vs)) (hk : k ∈ ks) : a ∉ F := fun z => hn a z _ ha hk
theorem isTs.fr {h' : XH} {F : List Nat} {a : Nat} {t : TsT} (hT : isTs G h a t) (hf : xfr h h' F) (hn : xno h F kNd) : isTs G h' a t := by
  obtain ⟨va, sa, e1, e2, e3, e4⟩ := hT
  exact ⟨va, sa, hf.1 _ _ e1 (hn.at e1 (by decide)), hf.1 _ _ e2 (hn.at e2 (by decide)), e3.fr hf (hn.sub (by decide)), e4⟩
theorem isNode.fr {h' : XH} {F : List Nat} (hf : xfr h h' F) (hn : xno h F kNd) : ∀ {k a : Nat} {D : Den}, isNode G h k a D → isNode G h' k a D := by
  intro k
  induction k with
  | zero =>
    rintro a D (⟨t, h1, h2⟩ | ⟨b, h1, h2⟩)
    · exact Or.inl ⟨t, h1.fr hf hn, h2⟩
    · exact Or.inr ⟨b, hf.1 _ _ h1 (hn.at h1 (by decide)), h2⟩
  | succ k ih =>
    rintro a D (h1 | ⟨x, A, h1, h2, h3⟩ | ⟨s, x, y, A, B, h0, h1, h2, h3, h4⟩)
    · exact Or.inl (ih h1)
    · exact Or.inr (Or.inl ⟨x, A, hf.1 _ _ h1 (hn.at h1 (by decide)), ih h2, h3⟩)
    · exact Or.inr (Or.inr ⟨s, x, y, A, B, h0, hf.1 _ _ h1 (hn.at h1 (by decide)), ih h2, ih h3, h4⟩)
theorem isNode.st : ∀ {k a : Nat} {D : Den}, isNode G h k a D → hasSt G h a (.int (nI D.1)) := by
  intro k
  induction k with
  | zero =>
    rintro a D (⟨t, ⟨va, sa, e1, -⟩, rfl⟩ | ⟨b, h1, rfl⟩)
    · exact Or.inl ⟨_, _, _, _, Or.inl e1⟩
    · exact Or.inr (Or.inr (Or.inr ⟨_, Or.inl h1⟩))
  | succ k ih =>
    rintro a D (h1 | ⟨x, A, h1, h2, rfl⟩ | ⟨s, x, y, A, B, h0, h1, h2, h3, rfl⟩)
    · exact ih h1
    · exact Or.inr (Or.inr (Or.inl ⟨_, Or.inl h1⟩))
    · exact Or.inr (Or.inl ⟨_, _, Or.inl h1⟩)
theorem isNode.s3 : ∀ {k a : Nat} {D : Den}, isNode G h k a D → D.1 ≤ 3 := by
  intro k
  induction k with
  | zero =>
    rintro a D (⟨t, -, rfl⟩ | ⟨b, h1, rfl⟩) <;> exact Nat.le_refl _
  | succ k ih =>
    rintro a D (h1 | ⟨x, A, h1, h2, rfl⟩ | ⟨s, x, y, A, B, h0, h1, h2, h3, rfl⟩)
    · exact ih h1
    · exact Nat.le_refl _
    · show s ≤ 3
      omega
theorem XD.ofT {a : Nat} {As : List Value} {vs : List Value} {P : Option Value → XH → Nat → Nat → Prop} {ms : List (Nat × XMt)} {i : Nat} {q : Nat × XMt} (hq : ms[i]? = some q) (ha : h a = some (q.1, vs)) (hX : XM l G d q.2 (.ref a :: As) h c n P) : XD l G d ms a As h c n P := ⟨q, List.mem_of_getElem? hq, vs, Or.inl ha, hX⟩
theorem c_isTrueAt {kl r : Nat} {lv : Nat → Nat} (hL : isLv h kl r lv) : ∀ {k d a : Nat} {D : Den}, k + 1 ≤ d → isNode G h k a D → XD l G d msT a [.ref r] h c n (xSame (.int (bI (D.2.1 lv))) h c n) := by
  intro k
  induction k with
  | zero =>
    rintro d a D hd (⟨t, hT, rfl⟩ | ⟨b, h1, rfl⟩)
    · obtain ⟨va, sa, ha, -⟩ := id hT
      exact XD.ofT (i := 0) rfl ha (c_Test_isTrueAt (by omega) hT hL)
    · refine XD.ofT (i := 3) rfl h1 ?_
      refine XM.of (by decide +kernel) (Nat.le_of_ble_eq_true rfl) ?_
      refine x_aload_n d_Constant_isTrueAt_0 rfl rfl ?_
      refine x_get xf_Constant_7_Constant (Or.inl h1) rfl d_Constant_isTrueAt_1 ?_
      refine x_zret d_Constant_isTrueAt_4 rfl (by cases b <;> rfl) ?_
      exact ⟨rfl, rfl, rfl, rfl⟩
  | succ k ih =>
    rintro d a D hd (h1 | ⟨x, A, h1, h2, rfl⟩ | ⟨s, x, y, A, B, h0, h1, h2, h3, rfl⟩)
    · exact ih (by omega) h1
    · obtain ⟨d, rfl⟩ : ∃ q, d = q + 1 := ⟨d - 1, by omega⟩
      refine XD.ofT (i := 2) rfl h1 ?_
      refine XM.of (by decide +kernel) (Nat.le_of_ble_eq_true rfl) ?_
      refine x_aload_n d_Negation_isTrueAt_0 rfl rfl ?_
      refine x_get xf_Negation_7_Negation (Or.inl h1) rfl d_Negation_isTrueAt_1 ?_
      refine x_aload_n d_Negation_isTrueAt_4 rfl rfl ?_
      refine x_callD (As := [_]) xD_Negation_13 (ih (by omega) h2) rfl rfl (Nat.le_of_ble_eq_true rfl) d_Negation_isTrueAt_5 ?_
      rintro v h' c' n' ⟨rfl, rfl, rfl, rfl⟩
      show XW _ _ _ _ _ _ _ _ _ _ (xSame (.int (bI (!A.2.1 lv))) _ _ _)
      cases hA : A.2.1 lv
      · refine x_if_ne (tgt := 15) d_Negation_isTrueAt_8 (by decide) (fun ht => absurd rfl ht) (fun _ => ?_)
        refine x_iconst (v := 1) d_Negation_isTrueAt_11 (by decide) ?_
        refine x_goto (tgt := 16) d_Negation_isTrueAt_12 (by decide) ?_
        refine x_zret d_Negation_isTrueAt_16 rfl rfl ?_
        exact ⟨rfl, rfl, rfl, rfl⟩
      · refine x_if_ne (tgt := 15) d_Negation_isTrueAt_8 (by decide) (fun _ => ?_) (fun hn => absurd hn (by decide))
        refine x_iconst (v := 0) d_Negation_isTrueAt_15 (by decide) ?_
        refine x_zret d_Negation_isTrueAt_16 rfl rfl ?_
        exact ⟨rfl, rfl, rfl, rfl⟩
    · obtain ⟨d, rfl⟩ : ∃ q, d = q + 1 := ⟨d - 1, by omega⟩
      refine XD.ofT (i := 1) rfl h1 ?_
      refine XM.of (by decide +kernel) (Nat.le_of_ble_eq_true rfl) ?_
      show XW _ _ _ _ _ _ _ _ _ _ (xSame (.int (bI (if s = 1 then A.2.1 lv || B.2.1 lv else A.2.1 lv && B.2.1 lv))) _ _ _)
      rcases h0 with rfl | rfl
      · rw [if_pos rfl]
        refine x_aload_n d_Join_isTrueAt_0 rfl rfl ?_
        refine x_get xf_Join_16_Join (Or.inl h1) rfl d_Join_isTrueAt_1 ?_
        refine x_iconst (v := 1) d_Join_isTrueAt_4 (by decide) ?_
        refine x_icmp_ne (tgt := 38) d_Join_isTrueAt_5 (by decide) (fun ht => absurd rfl ht) (fun _ => ?_)
        refine x_aload_n d_Join_isTrueAt_8 rfl rfl ?_
        refine x_get xf_Join_7_Join (Or.inl h1) rfl d_Join_isTrueAt_9 ?_
        refine x_aload_n d_Join_isTrueAt_12 rfl rfl ?_
        refine x_callD (As := [_]) xD_Join_20 (ih (by omega) h2) rfl rfl (Nat.le_of_ble_eq_true rfl) d_Join_isTrueAt_13 ?_
        rintro v h' c' n' ⟨rfl, rfl, rfl, rfl⟩
        cases hA : A.2.1 lv
        · refine x_if_ne (tgt := 30) d_Join_isTrueAt_16 (by decide) (fun ht => absurd rfl ht) (fun _ => ?_)
          refine x_aload_n d_Join_isTrueAt_19 rfl rfl ?_
          refine x_get xf_Join_13_Join (Or.inl h1) rfl d_Join_isTrueAt_20 ?_
          refine x_aload_n d_Join_isTrueAt_23 rfl rfl ?_
          refine x_callD (As := [_]) xD_Join_20 (ih (by omega) h3) rfl rfl (Nat.le_of_ble_eq_true rfl) d_Join_isTrueAt_24 ?_
          rintro v h' c' n' ⟨rfl, rfl, rfl, rfl⟩
          cases hB : B.2.1 lv
          · refine x_if_eq (tgt := 34) d_Join_isTrueAt_27 (by decide) (fun _ => ?_) (fun hn => absurd rfl hn)
            refine x_iconst (v := 0) d_Join_isTrueAt_34 (by decide) ?_
            refine x_goto (tgt := 65) d_Join_isTrueAt_35 (by decide) ?_
            refine x_zret d_Join_isTrueAt_65 rfl rfl ?_
            exact ⟨rfl, rfl, rfl, rfl⟩
          · refine x_if_eq (tgt := 34) d_Join_isTrueAt_27 (by decide) (fun ht => absurd ht (by decide)) (fun _ => ?_)
            refine x_iconst (v := 1) d_Join_isTrueAt_30 (by decide) ?_
            refine x_goto (tgt := 65) d_Join_isTrueAt_31 (by decide) ?_
            refine x_zret d_Join_isTrueAt_65 rfl rfl ?_
            exact ⟨rfl, rfl, rfl, rfl⟩
        · refine x_if_ne (tgt := 30) d_Join_isTrueAt_16 (by decide) (fun _ => ?_) (fun hn => absurd hn (by decide))
          refine x_iconst (v := 1) d_Join_isTrueAt_30 (by decide) ?_
          refine x_goto (tgt := 65) d_Join_isTrueAt_31 (by decide) ?_
          refine x_zret d_Join_isTrueAt_65 rfl rfl ?_
          exact ⟨rfl, rfl, rfl, rfl⟩
      · rw [if_neg (by decide)]
        refine x_aload_n d_Join_isTrueAt_0 rfl rfl ?_
        refine x_get xf_Join_16_Join (Or.inl h1) rfl d_Join_isTrueAt_1 ?_
        refine x_iconst (v := 1) d_Join_isTrueAt_4 (by decide) ?_
        refine x_icmp_ne (tgt := 38) d_Join_isTrueAt_5 (by decide) (fun _ => ?_) (fun hn => absurd hn (by decide))
        refine x_aload_n d_Join_isTrueAt_38 rfl rfl ?_
        refine x_get xf_Join_7_Join (Or.inl h1) rfl d_Join_isTrueAt_39 ?_
        refine x_aload_n d_Join_isTrueAt_42 rfl rfl ?_
        refine x_callD (As := [_]) xD_Join_20 (ih (by omega) h2) rfl rfl (Nat.le_of_ble_eq_true rfl) d_Join_isTrueAt_43 ?_
        rintro v h' c' n' ⟨rfl, rfl, rfl, rfl⟩
        cases hA : A.2.1 lv
        · refine x_if_eq (tgt := 64) d_Join_isTrueAt_46 (by decide) (fun _ => ?_) (fun hn => absurd rfl hn)
          refine x_iconst (v := 0) d_Join_isTrueAt_64 (by decide) ?_
          refine x_zret d_Join_isTrueAt_65 rfl rfl ?_
          exact ⟨rfl, rfl, rfl, rfl⟩
        · refine x_if_eq (tgt := 64) d_Join_isTrueAt_46 (by decide) (fun ht => absurd ht (by decide)) (fun _ => ?_)
          refine x_aload_n d_Join_isTrueAt_49 rfl rfl ?_
          refine x_get xf_Join_13_Join (Or.inl h1) rfl d_Join_isTrueAt_50 ?_
          refine x_aload_n d_Join_isTrueAt_53 rfl rfl ?_
          refine x_callD (As := [_]) xD_Join_20 (ih (by omega) h3) rfl rfl (Nat.le_of_ble_eq_true rfl) d_Join_isTrueAt_54 ?_
          rintro v h' c' n' ⟨rfl, rfl, rfl, rfl⟩
          cases hB : B.2.1 lv
          · refine x_if_eq (tgt := 64) d_Join_isTrueAt_57 (by decide) (fun _ => ?_) (fun hn => absurd rfl hn)
            refine x_iconst (v := 0) d_Join_isTrueAt_64 (by decide) ?_
            refine x_zret d_Join_isTrueAt_65 rfl rfl ?_
            exact ⟨rfl, rfl, rfl, rfl⟩
          · refine x_if_eq (tgt := 64) d_Join_isTrueAt_57 (by decide) (fun ht => absurd ht (by decide)) (fun _ => ?_)
            refine x_iconst (v := 1) d_Join_isTrueAt_60 (by decide) ?_
            refine x_goto (tgt := 65) d_Join_isTrueAt_61 (by decide) ?_
            refine x_zret d_Join_isTrueAt_65 rfl rfl ?_
            exact ⟨rfl, rfl, rfl, rfl⟩
end ND1
end
section
section
theorem d_Node_showInside_0 : decode M_Node_showInside.2.1 0 = .ok (.iload_n 2, 1) := by decide +kernel
theorem d_Node_showInside_1 : decode M_Node_showInside.2.1 1 = .ok (.ifCond .eq 10, 3) := by decide +kernel
theorem d_Node_showInside_11 : decode M_Node_showInside.2.1 11 = .ok (.aload_n 0, 1) := by decide +kernel
theorem d_Node_showInside_12 : decode M_Node_showInside.2.1 12 = .ok (.aload_n 1, 1) := by decide +kernel
theorem d_Node_showInside_13 : decode M_Node_showInside.2.1 13 = .ok (.invokevirtual 19, 3) := by decide +kernel
theorem xw_1127 : (Jvm.Cond.code ({ cls := "MarkerText$Test", name := "show", desc := "(Ljava/lang/StringBuilder;)V" } : Jvm.MethodName) prog_11_method_4_code (2 : Nat) (Option.none : Option Jvm.ClassFile.FieldType)) ∈ xT := xT_at 1127 (by decide +kernel) (by decide +kernel)
theorem xcb_Test_show : xcb M_Test_show 1 := ⟨xw_1127, xw_30, by decide, by decide, by decide, by decide +kernel⟩
theorem xw_1126 : (Jvm.Cond.instanceMethod ({ cls := "MarkerText$Test", name := "show", desc := "(Ljava/lang/StringBuilder;)V" } : Jvm.MethodName)) ∈ xT := xT_at 1126 (by decide +kernel) (by decide +kernel)
theorem xw_1100 : (Jvm.Cond.declares ({ cls := "MarkerText$Node", name := "show", desc := "(Ljava/lang/StringBuilder;)V" } : Jvm.MethodName)) ∈ xT := xT_at 1100 (by decide +kernel) (by decide +kernel)
theorem xw_1120 : (Jvm.Cond.methodLink "MarkerText$Node" (19 : Nat) ({ cls := "MarkerText$Node", name := "show", desc := "(Ljava/lang/StringBuilder;)V" } : Jvm.MethodName)) ∈ xT := xT_at 1120 (by decide +kernel) (by decide +kernel)
theorem xw_1101 : (Jvm.Cond.sameMethod "MarkerText$Node" "MarkerText$Node" "show" "(Ljava/lang/StringBuilder;)V") ∈ xT := xT_at 1101 (by decide +kernel) (by decide +kernel)
theorem xw_1133 : (Jvm.Cond.selects "MarkerText$Test" ({ cls := "MarkerText$Node", name := "show", desc := "(Ljava/lang/StringBuilder;)V" } : Jvm.MethodName) ({ cls := "MarkerText$Test", name := "show", desc := "(Ljava/lang/StringBuilder;)V" } : Jvm.MethodName)) ∈ xT := xT_at 1133 (by decide +kernel) (by decide +kernel)
theorem xcv_Node_19_Test : xCV "MarkerText$Node" 19 "MarkerText$Test" M_Test_show 1 := ⟨xcb_Test_show, xw_1126, Or.inr (Or.inr ⟨⟨"MarkerText$Node", "show", "(Ljava/lang/StringBuilder;)V"⟩, "MarkerText$Node", xw_1120, xw_1101, xw_1133, rfl, ⟨by decide, by decide⟩, Or.inl xw_1100⟩)⟩
theorem xw_1110 : (Jvm.Cond.code ({ cls := "MarkerText$Join", name := "show", desc := "(Ljava/lang/StringBuilder;)V" } : Jvm.MethodName) prog_5_method_3_code (2 : Nat) (Option.none : Option Jvm.ClassFile.FieldType)) ∈ xT := xT_at 1110 (by decide +kernel) (by decide +kernel)
theorem xcb_Join_show : xcb M_Join_show 1 := ⟨xw_1110, xw_31, by decide, by decide, by decide, by decide +kernel⟩
theorem xw_1109 : (Jvm.Cond.instanceMethod ({ cls := "MarkerText$Join", name := "show", desc := "(Ljava/lang/StringBuilder;)V" } : Jvm.MethodName)) ∈ xT := xT_at 1109 (by decide +kernel) (by decide +kernel)
theorem xw_1108 : (Jvm.Cond.selects "MarkerText$Join" ({ cls := "MarkerText$Node", name := "show", desc := "(Ljava/lang/StringBuilder;)V" } : Jvm.MethodName) ({ cls := "MarkerText$Join", name := "show", desc := "(Ljava/lang/StringBuilder;)V" } : Jvm.MethodName)) ∈ xT := xT_at 1108 (by decide +kernel) (by decide +kernel)
theorem xcv_Node_19_Join : xCV "MarkerText$Node" 19 "MarkerText$Join" M_Join_show 1 := ⟨xcb_Join_show, xw_1109, Or.inr (Or.inr ⟨⟨"MarkerText$Node", "show", "(Ljava/lang/StringBuilder;)V"⟩, "MarkerText$Node", xw_1120, xw_1101, xw_1108, rfl, ⟨by decide, by decide⟩, Or.inl xw_1100⟩)⟩
theorem xw_1122 : (Jvm.Cond.code ({ cls := "MarkerText$Negation", name := "show", desc := "(Ljava/lang/StringBuilder;)V" } : Jvm.MethodName) prog_7_method_3_code (2 : Nat) (Option.none : Option Jvm.ClassFile.FieldType)) ∈ xT := xT_at 1122 (by decide +kernel) (by decide +kernel)
theorem xcb_Negation_show : xcb M_Negation_show 1 := ⟨xw_1122, xw_28, by decide, by decide, by decide, by decide +kernel⟩
theorem xw_1121 : (Jvm.Cond.instanceMethod ({ cls := "MarkerText$Negation", name := "show", desc := "(Ljava/lang/StringBuilder;)V" } : Jvm.MethodName)) ∈ xT := xT_at 1121 (by decide +kernel) (by decide +kernel)
theorem xw_1132 : (Jvm.Cond.selects "MarkerText$Negation" ({ cls := "MarkerText$Node", name := "show", desc := "(Ljava/lang/StringBuilder;)V" } : Jvm.MethodName) ({ cls := "MarkerText$Negation", name := "show", desc := "(Ljava/lang/StringBuilder;)V" } : Jvm.MethodName)) ∈ xT := xT_at 1132 (by decide +kernel) (by decide +kernel)
theorem xcv_Node_19_Negation : xCV "MarkerText$Node" 19 "MarkerText$Negation" M_Negation_show 1 := ⟨xcb_Negation_show, xw_1121, Or.inr (Or.inr ⟨⟨"MarkerText$Node", "show", "(Ljava/lang/StringBuilder;)V"⟩, "MarkerText$Node", xw_1120, xw_1101, xw_1132, rfl, ⟨by decide, by decide⟩, Or.inl xw_1100⟩)⟩
theorem xw_1104 : (Jvm.Cond.code ({ cls := "MarkerText$Constant", name := "show", desc := "(Ljava/lang/StringBuilder;)V" } : Jvm.MethodName) prog_4_method_3_code (2 : Nat) (Option.none : Option Jvm.ClassFile.FieldType)) ∈ xT := xT_at 1104 (by decide +kernel) (by decide +kernel)
theorem xcb_Constant_show : xcb M_Constant_show 1 := ⟨xw_1104, xw_29, by decide, by decide, by decide, by decide +kernel⟩
theorem xw_1103 : (Jvm.Cond.instanceMethod ({ cls := "MarkerText$Constant", name := "show", desc := "(Ljava/lang/StringBuilder;)V" } : Jvm.MethodName)) ∈ xT := xT_at 1103 (by decide +kernel) (by decide +kernel)
theorem xw_1102 : (Jvm.Cond.selects "MarkerText$Constant" ({ cls := "MarkerText$Node", name := "show", desc := "(Ljava/lang/StringBuilder;)V" } : Jvm.MethodName) ({ cls := "MarkerText$Constant", name := "show", desc := "(Ljava/lang/StringBuilder;)V" } : Jvm.MethodName)) ∈ xT := xT_at 1102 (by decide +kernel) (by decide +kernel)
theorem xcv_Node_19_Constant : xCV "MarkerText$Node" 19 "MarkerText$Constant" M_Constant_show 1 := ⟨xcb_Constant_show, xw_1103, Or.inr (Or.inr ⟨⟨"MarkerText$Node", "show", "(Ljava/lang/StringBuilder;)V"⟩, "MarkerText$Node", xw_1120, xw_1101, xw_1102, rfl, ⟨by decide, by decide⟩, Or.inl xw_1100⟩)⟩
theorem xD_Node_19 : ∀ q ∈ ([(k_Test, M_Test_show), (k_Join, M_Join_show), (k_Negation, M_Negation_show), (k_Constant, M_Constant_show)] : List (Nat × XMt)), ∃ C T N, xk[q.1]? = some (.inl (C, T, N)) ∧ xCV "MarkerText$Node" 19 C q.2 1 := List.forall_mem_cons.mpr ⟨⟨_, _, _, rfl, xcv_Node_19_Test⟩, List.forall_mem_cons.mpr ⟨⟨_, _, _, rfl, xcv_Node_19_Join⟩, List.forall_mem_cons.mpr ⟨⟨_, _, _, rfl, xcv_Node_19_Negation⟩, List.forall_mem_cons.mpr ⟨⟨_, _, _, rfl, xcv_Node_19_Constant⟩, fun _ hz => by cases hz⟩⟩⟩⟩
theorem d_Node_showInside_16 : decode M_Node_showInside.2.1 16 = .ok (.iload_n 2, 1) := by decide +kernel
theorem d_Node_showInside_17 : decode M_Node_showInside.2.1 17 = .ok (.ifCond .eq 10, 3) := by decide +kernel
theorem d_Node_showInside_27 : decode M_Node_showInside.2.1 27 = .ok (.return_, 1) := by decide +kernel
theorem d_Node_showInside_4 : decode M_Node_showInside.2.1 4 = .ok (.aload_n 1, 1) := by decide +kernel
theorem d_Node_showInside_5 : decode M_Node_showInside.2.1 5 = .ok (.bipush 40, 2) := by decide +kernel
theorem d_Node_showInside_7 : decode M_Node_showInside.2.1 7 = .ok (.invokevirtual 13, 3) := by decide +kernel
theorem xw_182 : (Jvm.Cond.code ({ cls := "java/lang/StringBuilder", name := "append", desc := "(C)Ljava/lang/StringBuilder;" } : Jvm.MethodName) prog_26_method_14_code (2 : Nat) (Option.some (Jvm.ClassFile.FieldType.object "java/lang/StringBuilder"))) ∈ xT := xT_at 182 (by decide +kernel) (by decide +kernel)
theorem xcb_SB_append_C : xcb M_SB_append_C 1 := ⟨xw_182, xw_3, by decide, by decide, by decide, by decide +kernel⟩
theorem xw_180 : (Jvm.Cond.instanceMethod ({ cls := "java/lang/StringBuilder", name := "append", desc := "(C)Ljava/lang/StringBuilder;" } : Jvm.MethodName)) ∈ xT := xT_at 180 (by decide +kernel) (by decide +kernel)
theorem xw_1119 : (Jvm.Cond.methodLink "MarkerText$Node" (13 : Nat) ({ cls := "java/lang/StringBuilder", name := "append", desc := "(C)Ljava/lang/StringBuilder;" } : Jvm.MethodName)) ∈ xT := xT_at 1119 (by decide +kernel) (by decide +kernel)
theorem xw_181 : (Jvm.Cond.selects "java/lang/StringBuilder" ({ cls := "java/lang/StringBuilder", name := "append", desc := "(C)Ljava/lang/StringBuilder;" } : Jvm.MethodName) ({ cls := "java/lang/StringBuilder", name := "append", desc := "(C)Ljava/lang/StringBuilder;" } : Jvm.MethodName)) ∈ xT := xT_at 181 (by decide +kernel) (by decide +kernel)
theorem xcv_Node_13_SB : xCV "MarkerText$Node" 13 "java/lang/StringBuilder" M_SB_append_C 1 := ⟨xcb_SB_append_C, xw_180, Or.inl ⟨xw_1119, Or.inl xw_181⟩⟩
theorem d_Node_showInside_10 : decode M_Node_showInside.2.1 10 = .ok (.pop, 1) := by decide +kernel
theorem d_Node_showInside_20 : decode M_Node_showInside.2.1 20 = .ok (.aload_n 1, 1) := by decide +kernel
theorem d_Node_showInside_21 : decode M_Node_showInside.2.1 21 = .ok (.bipush 41, 2) := by decide +kernel
theorem d_Node_showInside_23 : decode M_Node_showInside.2.1 23 = .ok (.invokevirtual 13, 3) := by decide +kernel
theorem d_Node_showInside_26 : decode M_Node_showInside.2.1 26 = .ok (.pop, 1) := by decide +kernel
theorem d_Test_show_0 : decode M_Test_show.2.1 0 = .ok (.aload_n 1, 1) := by decide +kernel
theorem d_Test_show_1 : decode M_Test_show.2.1 1 = .ok (.aload_n 0, 1) := by decide +kernel
theorem d_Test_show_2 : decode M_Test_show.2.1 2 = .ok (.getfield 22, 3) := by decide +kernel
theorem xw_1024 : (Jvm.Cond.fieldLink "MarkerText$Test" (22 : Nat) "MarkerText$Test" "shown" "Ljava/lang/String;") ∈ xT := xT_at 1024 (by decide +kernel) (by decide +kernel)
theorem xf_Test_22_Test : xF "MarkerText$Test" 22 k_Test 3 := ⟨_, _, _, "MarkerText$Test", rfl, by decide, Or.inl xw_1024, Or.inl rfl⟩
theorem d_Test_show_5 : decode M_Test_show.2.1 5 = .ok (.invokevirtual 30, 3) := by decide +kernel
theorem xw_570 : (Jvm.Cond.code ({ cls := "java/lang/StringBuilder", name := "append", desc := "(Ljava/lang/String;)Ljava/lang/StringBuilder;" } : Jvm.MethodName) prog_26_method_7_code (2 : Nat) (Option.some (Jvm.ClassFile.FieldType.object "java/lang/StringBuilder"))) ∈ xT := xT_at 570 (by decide +kernel) (by decide +kernel)
theorem xcb_SB_append_String : xcb M_SB_append_String 1 := ⟨xw_570, xw_3, by decide, by decide, by decide, by decide +kernel⟩
theorem xw_568 : (Jvm.Cond.instanceMethod ({ cls := "java/lang/StringBuilder", name := "append", desc := "(Ljava/lang/String;)Ljava/lang/StringBuilder;" } : Jvm.MethodName)) ∈ xT := xT_at 568 (by decide +kernel) (by decide +kernel)
theorem xw_1128 : (Jvm.Cond.methodLink "MarkerText$Test" (30 : Nat) ({ cls := "java/lang/StringBuilder", name := "append", desc := "(Ljava/lang/String;)Ljava/lang/StringBuilder;" } : Jvm.MethodName)) ∈ xT := xT_at 1128 (by decide +kernel) (by decide +kernel)
theorem xw_569 : (Jvm.Cond.selects "java/lang/StringBuilder" ({ cls := "java/lang/StringBuilder", name := "append", desc := "(Ljava/lang/String;)Ljava/lang/StringBuilder;" } : Jvm.MethodName) ({ cls := "java/lang/StringBuilder", name := "append", desc := "(Ljava/lang/String;)Ljava/lang/StringBuilder;" } : Jvm.MethodName)) ∈ xT := xT_at 569 (by decide +kernel) (by decide +kernel)
theorem xcv_Test_30_SB : xCV "MarkerText$Test" 30 "java/lang/StringBuilder" M_SB_append_String 1 := ⟨xcb_SB_append_String, xw_568, Or.inl ⟨xw_1128, Or.inl xw_569⟩⟩
theorem d_Test_show_8 : decode M_Test_show.2.1 8 = .ok (.pop, 1) := by decide +kernel
theorem d_Test_show_9 : decode M_Test_show.2.1 9 = .ok (.return_, 1) := by decide +kernel
theorem d_Constant_show_0 : decode M_Constant_show.2.1 0 = .ok (.aload_n 1, 1) := by decide +kernel
theorem d_Constant_show_1 : decode M_Constant_show.2.1 1 = .ok (.aload_n 0, 1) := by decide +kernel
theorem d_Constant_show_2 : decode M_Constant_show.2.1 2 = .ok (.getfield 7, 3) := by decide +kernel
theorem d_Constant_show_5 : decode M_Constant_show.2.1 5 = .ok (.ifCond .eq 8, 3) := by decide +kernel
theorem d_Constant_show_8 : decode M_Constant_show.2.1 8 = .ok (.ldc 13, 2) := by decide +kernel
theorem d_Constant_show_10 : decode M_Constant_show.2.1 10 = .ok (.goto 5, 3) := by decide +kernel
theorem d_Constant_show_15 : decode M_Constant_show.2.1 15 = .ok (.invokevirtual 17, 3) := by decide +kernel
theorem xw_1107 : (Jvm.Cond.methodLink "MarkerText$Constant" (17 : Nat) ({ cls := "java/lang/StringBuilder", name := "append", desc := "(Ljava/lang/String;)Ljava/lang/StringBuilder;" } : Jvm.MethodName)) ∈ xT := xT_at 1107 (by decide +kernel) (by decide +kernel)
theorem xcv_Constant_17_SB : xCV "MarkerText$Constant" 17 "java/lang/StringBuilder" M_SB_append_String 1 := ⟨xcb_SB_append_String, xw_568, Or.inl ⟨xw_1107, Or.inl xw_569⟩⟩
theorem d_Constant_show_18 : decode M_Constant_show.2.1 18 = .ok (.pop, 1) := by decide +kernel
theorem d_Constant_show_19 : decode M_Constant_show.2.1 19 = .ok (.return_, 1) := by decide +kernel
theorem d_Constant_show_13 : decode M_Constant_show.2.1 13 = .ok (.ldc 15, 2) := by decide +kernel
theorem d_Negation_show_0 : decode M_Negation_show.2.1 0 = .ok (.aload_n 1, 1) := by decide +kernel
theorem d_Negation_show_1 : decode M_Negation_show.2.1 1 = .ok (.ldc 17, 2) := by decide +kernel
theorem d_Negation_show_3 : decode M_Negation_show.2.1 3 = .ok (.invokevirtual 19, 3) := by decide +kernel
theorem xw_1124 : (Jvm.Cond.methodLink "MarkerText$Negation" (19 : Nat) ({ cls := "java/lang/StringBuilder", name := "append", desc := "(Ljava/lang/String;)Ljava/lang/StringBuilder;" } : Jvm.MethodName)) ∈ xT := xT_at 1124 (by decide +kernel) (by decide +kernel)
theorem xcv_Negation_19_SB : xCV "MarkerText$Negation" 19 "java/lang/StringBuilder" M_SB_append_String 1 := ⟨xcb_SB_append_String, xw_568, Or.inl ⟨xw_1124, Or.inl xw_569⟩⟩
theorem d_Negation_show_28 : decode M_Negation_show.2.1 28 = .ok (.invokevirtual 29, 3) := by decide +kernel
theorem xw_1118 : (Jvm.Cond.code ({ cls := "MarkerText$Node", name := "showInside", desc := "(Ljava/lang/StringBuilder;Z)V" } : Jvm.MethodName) prog_8_method_4_code (3 : Nat) (Option.none : Option Jvm.ClassFile.FieldType)) ∈ xT := xT_at 1118 (by decide +kernel) (by decide +kernel)
theorem xw_27 : (Jvm.Cond.initialized "MarkerText$Node") ∈ xT := xT_at 27 (by decide +kernel) (by decide +kernel)
theorem xcb_Node_showInside : xcb M_Node_showInside 2 := ⟨xw_1118, xw_27, by decide, by decide, by decide, by decide +kernel⟩
theorem xw_1112 : (Jvm.Cond.instanceMethod ({ cls := "MarkerText$Node", name := "showInside", desc := "(Ljava/lang/StringBuilder;Z)V" } : Jvm.MethodName)) ∈ xT := xT_at 1112 (by decide +kernel) (by decide +kernel)
theorem xw_1125 : (Jvm.Cond.methodLink "MarkerText$Negation" (29 : Nat) ({ cls := "MarkerText$Node", name := "showInside", desc := "(Ljava/lang/StringBuilder;Z)V" } : Jvm.MethodName)) ∈ xT := xT_at 1125 (by decide +kernel) (by decide +kernel)
theorem xw_1117 : (Jvm.Cond.selects "MarkerText$Test" ({ cls := "MarkerText$Node", name := "showInside", desc := "(Ljava/lang/StringBuilder;Z)V" } : Jvm.MethodName) ({ cls := "MarkerText$Node", name := "showInside", desc := "(Ljava/lang/StringBuilder;Z)V" } : Jvm.MethodName)) ∈ xT := xT_at 1117 (by decide +kernel) (by decide +kernel)
theorem xcv_Negation_29_Test : xCV "MarkerText$Negation" 29 "MarkerText$Test" M_Node_showInside 2 := ⟨xcb_Node_showInside, xw_1112, Or.inl ⟨xw_1125, Or.inl xw_1117⟩⟩
theorem xw_1115 : (Jvm.Cond.selects "MarkerText$Join" ({ cls := "MarkerText$Node", name := "showInside", desc := "(Ljava/lang/StringBuilder;Z)V" } : Jvm.MethodName) ({ cls := "MarkerText$Node", name := "showInside", desc := "(Ljava/lang/StringBuilder;Z)V" } : Jvm.MethodName)) ∈ xT := xT_at 1115 (by decide +kernel) (by decide +kernel)
theorem xcv_Negation_29_Join : xCV "MarkerText$Negation" 29 "MarkerText$Join" M_Node_showInside 2 := ⟨xcb_Node_showInside, xw_1112, Or.inl ⟨xw_1125, Or.inl xw_1115⟩⟩
theorem xw_1116 : (Jvm.Cond.selects "MarkerText$Negation" ({ cls := "MarkerText$Node", name := "showInside", desc := "(Ljava/lang/StringBuilder;Z)V" } : Jvm.MethodName) ({ cls := "MarkerText$Node", name := "showInside", desc := "(Ljava/lang/StringBuilder;Z)V" } : Jvm.MethodName)) ∈ xT := xT_at 1116 (by decide +kernel) (by decide +kernel)
theorem xcv_Negation_29_Negation : xCV "MarkerText$Negation" 29 "MarkerText$Negation" M_Node_showInside 2 := ⟨xcb_Node_showInside, xw_1112, Or.inl ⟨xw_1125, Or.inl xw_1116⟩⟩
theorem xw_1114 : (Jvm.Cond.selects "MarkerText$Constant" ({ cls := "MarkerText$Node", name := "showInside", desc := "(Ljava/lang/StringBuilder;Z)V" } : Jvm.MethodName) ({ cls := "MarkerText$Node", name := "showInside", desc := "(Ljava/lang/StringBuilder;Z)V" } : Jvm.MethodName)) ∈ xT := xT_at 1114 (by decide +kernel) (by decide +kernel)
theorem xcv_Negation_29_Constant : xCV "MarkerText$Negation" 29 "MarkerText$Constant" M_Node_showInside 2 := ⟨xcb_Node_showInside, xw_1112, Or.inl ⟨xw_1125, Or.inl xw_1114⟩⟩
theorem xD_Negation_29 : ∀ q ∈ ([(k_Test, M_Node_showInside), (k_Join, M_Node_showInside), (k_Negation, M_Node_showInside), (k_Constant, M_Node_showInside)] : List (Nat × XMt)), ∃ C T N, xk[q.1]? = some (.inl (C, T, N)) ∧ xCV "MarkerText$Negation" 29 C q.2 2 := List.forall_mem_cons.mpr ⟨⟨_, _, _, rfl, xcv_Negation_29_Test⟩, List.forall_mem_cons.mpr ⟨⟨_, _, _, rfl, xcv_Negation_29_Join⟩, List.forall_mem_cons.mpr ⟨⟨_, _, _, rfl, xcv_Negation_29_Negation⟩, List.forall_mem_cons.mpr ⟨⟨_, _, _, rfl, xcv_Negation_29_Constant⟩, fun _ hz => by cases hz⟩⟩⟩⟩
theorem d_Negation_show_31 : decode M_Negation_show.2.1 31 = .ok (.return_, 1) := by decide +kernel
theorem d_Negation_show_6 : decode M_Negation_show.2.1 6 = .ok (.pop, 1) := by decide +kernel
theorem d_Negation_show_7 : decode M_Negation_show.2.1 7 = .ok (.aload_n 0, 1) := by decide +kernel
theorem d_Negation_show_8 : decode M_Negation_show.2.1 8 = .ok (.getfield 7, 3) := by decide +kernel
theorem d_Negation_show_11 : decode M_Negation_show.2.1 11 = .ok (.aload_n 1, 1) := by decide +kernel
theorem d_Negation_show_12 : decode M_Negation_show.2.1 12 = .ok (.aload_n 0, 1) := by decide +kernel
theorem d_Negation_show_13 : decode M_Negation_show.2.1 13 = .ok (.getfield 7, 3) := by decide +kernel
theorem d_Negation_show_16 : decode M_Negation_show.2.1 16 = .ok (.getfield 25, 3) := by decide +kernel
theorem xw_950 : (Jvm.Cond.fieldLink "MarkerText$Negation" (25 : Nat) "MarkerText$Node" "strength" "I") ∈ xT := xT_at 950 (by decide +kernel) (by decide +kernel)
theorem xf_Negation_25_Test : xF "MarkerText$Negation" 25 k_Test 4 := ⟨_, _, _, "MarkerText$Node", rfl, by decide, Or.inl xw_950, Or.inl rfl⟩
theorem xf_Negation_25_Join : xF "MarkerText$Negation" 25 k_Join 2 := ⟨_, _, _, "MarkerText$Node", rfl, by decide, Or.inl xw_950, Or.inl rfl⟩
theorem xf_Negation_25_Negation : xF "MarkerText$Negation" 25 k_Negation 1 := ⟨_, _, _, "MarkerText$Node", rfl, by decide, Or.inl xw_950, Or.inl rfl⟩
theorem xf_Negation_25_Constant : xF "MarkerText$Negation" 25 k_Constant 1 := ⟨_, _, _, "MarkerText$Node", rfl, by decide, Or.inl xw_950, Or.inl rfl⟩
theorem xG_Negation_25 : xGD "MarkerText$Negation" 25 := ⟨xf_Negation_25_Test, xf_Negation_25_Join, xf_Negation_25_Negation, xf_Negation_25_Constant⟩
theorem d_Negation_show_19 : decode M_Negation_show.2.1 19 = .ok (.iconst 3, 1) := by decide +kernel
theorem d_Negation_show_20 : decode M_Negation_show.2.1 20 = .ok (.if_icmp .ge 7, 3) := by decide +kernel
theorem d_Negation_show_23 : decode M_Negation_show.2.1 23 = .ok (.iconst 1, 1) := by decide +kernel
theorem d_Negation_show_24 : decode M_Negation_show.2.1 24 = .ok (.goto 4, 3) := by decide +kernel
theorem d_Negation_show_27 : decode M_Negation_show.2.1 27 = .ok (.iconst 0, 1) := by decide +kernel
theorem d_Join_show_71 : decode M_Join_show.2.1 71 = .ok (.invokevirtual 25, 3) := by decide +kernel
theorem xw_1111 : (Jvm.Cond.methodLink "MarkerText$Join" (25 : Nat) ({ cls := "MarkerText$Node", name := "showInside", desc := "(Ljava/lang/StringBuilder;Z)V" } : Jvm.MethodName)) ∈ xT := xT_at 1111 (by decide +kernel) (by decide +kernel)
theorem xcv_Join_25_Test : xCV "MarkerText$Join" 25 "MarkerText$Test" M_Node_showInside 2 := ⟨xcb_Node_showInside, xw_1112, Or.inl ⟨xw_1111, Or.inl xw_1117⟩⟩
theorem xcv_Join_25_Join : xCV "MarkerText$Join" 25 "MarkerText$Join" M_Node_showInside 2 := ⟨xcb_Node_showInside, xw_1112, Or.inl ⟨xw_1111, Or.inl xw_1115⟩⟩
theorem xcv_Join_25_Negation : xCV "MarkerText$Join" 25 "MarkerText$Negation" M_Node_showInside 2 := ⟨xcb_Node_showInside, xw_1112, Or.inl ⟨xw_1111, Or.inl xw_1116⟩⟩
theorem xcv_Join_25_Constant : xCV "MarkerText$Join" 25 "MarkerText$Constant" M_Node_showInside 2 := ⟨xcb_Node_showInside, xw_1112, Or.inl ⟨xw_1111, Or.inl xw_1114⟩⟩
theorem xD_Join_25 : ∀ q ∈ ([(k_Test, M_Node_showInside), (k_Join, M_Node_showInside), (k_Negation, M_Node_showInside), (k_Constant, M_Node_showInside)] : List (Nat × XMt)), ∃ C T N, xk[q.1]? = some (.inl (C, T, N)) ∧ xCV "MarkerText$Join" 25 C q.2 2 := List.forall_mem_cons.mpr ⟨⟨_, _, _, rfl, xcv_Join_25_Test⟩, List.forall_mem_cons.mpr ⟨⟨_, _, _, rfl, xcv_Join_25_Join⟩, List.forall_mem_cons.mpr ⟨⟨_, _, _, rfl, xcv_Join_25_Negation⟩, List.forall_mem_cons.mpr ⟨⟨_, _, _, rfl, xcv_Join_25_Constant⟩, fun _ hz => by cases hz⟩⟩⟩⟩
theorem d_Join_show_74 : decode M_Join_show.2.1 74 = .ok (.return_, 1) := by decide +kernel
theorem d_Join_show_46 : decode M_Join_show.2.1 46 = .ok (.pop, 1) := by decide +kernel
theorem d_Join_show_47 : decode M_Join_show.2.1 47 = .ok (.aload_n 0, 1) := by decide +kernel
theorem d_Join_show_48 : decode M_Join_show.2.1 48 = .ok (.getfield 13, 3) := by decide +kernel
theorem d_Join_show_51 : decode M_Join_show.2.1 51 = .ok (.aload_n 1, 1) := by decide +kernel
theorem d_Join_show_52 : decode M_Join_show.2.1 52 = .ok (.aload_n 0, 1) := by decide +kernel
theorem d_Join_show_53 : decode M_Join_show.2.1 53 = .ok (.getfield 13, 3) := by decide +kernel
theorem d_Join_show_56 : decode M_Join_show.2.1 56 = .ok (.getfield 24, 3) := by decide +kernel
theorem xw_949 : (Jvm.Cond.fieldLink "MarkerText$Join" (24 : Nat) "MarkerText$Node" "strength" "I") ∈ xT := xT_at 949 (by decide +kernel) (by decide +kernel)
theorem xf_Join_24_Test : xF "MarkerText$Join" 24 k_Test 4 := ⟨_, _, _, "MarkerText$Node", rfl, by decide, Or.inl xw_949, Or.inl rfl⟩
theorem xf_Join_24_Join : xF "MarkerText$Join" 24 k_Join 2 := ⟨_, _, _, "MarkerText$Node", rfl, by decide, Or.inl xw_949, Or.inl rfl⟩
theorem xf_Join_24_Negation : xF "MarkerText$Join" 24 k_Negation 1 := ⟨_, _, _, "MarkerText$Node", rfl, by decide, Or.inl xw_949, Or.inl rfl⟩
theorem xf_Join_24_Constant : xF "MarkerText$Join" 24 k_Constant 1 := ⟨_, _, _, "MarkerText$Node", rfl, by decide, Or.inl xw_949, Or.inl rfl⟩
theorem xG_Join_24 : xGD "MarkerText$Join" 24 := ⟨xf_Join_24_Test, xf_Join_24_Join, xf_Join_24_Negation, xf_Join_24_Constant⟩
theorem d_Join_show_59 : decode M_Join_show.2.1 59 = .ok (.aload_n 0, 1) := by decide +kernel
theorem d_Join_show_60 : decode M_Join_show.2.1 60 = .ok (.getfield 16, 3) := by decide +kernel
theorem d_Join_show_63 : decode M_Join_show.2.1 63 = .ok (.if_icmp .gt 7, 3) := by decide +kernel
theorem d_Join_show_66 : decode M_Join_show.2.1 66 = .ok (.iconst 1, 1) := by decide +kernel
theorem d_Join_show_67 : decode M_Join_show.2.1 67 = .ok (.goto 4, 3) := by decide +kernel
theorem d_Join_show_70 : decode M_Join_show.2.1 70 = .ok (.iconst 0, 1) := by decide +kernel
theorem d_Join_show_24 : decode M_Join_show.2.1 24 = .ok (.invokevirtual 25, 3) := by decide +kernel
theorem d_Join_show_27 : decode M_Join_show.2.1 27 = .ok (.aload_n 1, 1) := by decide +kernel
theorem d_Join_show_28 : decode M_Join_show.2.1 28 = .ok (.aload_n 0, 1) := by decide +kernel
theorem d_Join_show_29 : decode M_Join_show.2.1 29 = .ok (.getfield 16, 3) := by decide +kernel
theorem d_Join_show_32 : decode M_Join_show.2.1 32 = .ok (.iconst 1, 1) := by decide +kernel
theorem d_Join_show_33 : decode M_Join_show.2.1 33 = .ok (.if_icmp .ne 8, 3) := by decide +kernel
theorem d_Join_show_36 : decode M_Join_show.2.1 36 = .ok (.ldc 29, 2) := by decide +kernel
theorem d_Join_show_38 : decode M_Join_show.2.1 38 = .ok (.goto 5, 3) := by decide +kernel
theorem d_Join_show_43 : decode M_Join_show.2.1 43 = .ok (.invokevirtual 33, 3) := by decide +kernel
theorem xw_1131 : (Jvm.Cond.methodLink "MarkerText$Join" (33 : Nat) ({ cls := "java/lang/StringBuilder", name := "append", desc := "(Ljava/lang/String;)Ljava/lang/StringBuilder;" } : Jvm.MethodName)) ∈ xT := xT_at 1131 (by decide +kernel) (by decide +kernel)
theorem xcv_Join_33_SB : xCV "MarkerText$Join" 33 "java/lang/StringBuilder" M_SB_append_String 1 := ⟨xcb_SB_append_String, xw_568, Or.inl ⟨xw_1131, Or.inl xw_569⟩⟩
theorem d_Join_show_41 : decode M_Join_show.2.1 41 = .ok (.ldc 31, 2) := by decide +kernel
theorem d_Join_show_0 : decode M_Join_show.2.1 0 = .ok (.aload_n 0, 1) := by decide +kernel
theorem d_Join_show_1 : decode M_Join_show.2.1 1 = .ok (.getfield 7, 3) := by decide +kernel
theorem d_Join_show_4 : decode M_Join_show.2.1 4 = .ok (.aload_n 1, 1) := by decide +kernel
theorem d_Join_show_5 : decode M_Join_show.2.1 5 = .ok (.aload_n 0, 1) := by decide +kernel
theorem d_Join_show_6 : decode M_Join_show.2.1 6 = .ok (.getfield 7, 3) := by decide +kernel
theorem d_Join_show_9 : decode M_Join_show.2.1 9 = .ok (.getfield 24, 3) := by decide +kernel
theorem d_Join_show_12 : decode M_Join_show.2.1 12 = .ok (.aload_n 0, 1) := by decide +kernel
theorem d_Join_show_13 : decode M_Join_show.2.1 13 = .ok (.getfield 16, 3) := by decide +kernel
theorem d_Join_show_16 : decode M_Join_show.2.1 16 = .ok (.if_icmp .ge 7, 3) := by decide +kernel
theorem d_Join_show_19 : decode M_Join_show.2.1 19 = .ok (.iconst 1, 1) := by decide +kernel
theorem d_Join_show_20 : decode M_Join_show.2.1 20 = .ok (.goto 4, 3) := by decide +kernel
theorem d_Join_show_23 : decode M_Join_show.2.1 23 = .ok (.iconst 0, 1) := by decide +kernel
end
section ND2
variable {l : Launch} {G : XG} {h : XH} {c n d : Nat}
theorem isB.k1 {a va m : Nat} {t : List Nat} {ks : List Nat} (hB : isB h a va t m) (h1 : k_StringBuilder ∉ ks) (h2 : k_abyte ∉ ks) : xno h [a, va] ks := by
  obtain ⟨z, bs, e1, e2, -⟩ := hB
  exact xno2 e1 e2 h1 h2
/-- what append(String) leaves, for a text that isn't changed by it -/
theorem brk_len (b : Bool) (t : List Nat) : (brk b t).length = t.length + (if b then 2 else 0) := by
  unfold brk
  cases b <;> simp
abbrev pShow (K a va : Nat) (t u : List Nat) (m : Nat) (h : XH) (c n : Nat) : Option Value → XH → Nat → Nat → Prop := fun v h' c' n' => v = none ∧ pB K a va (t ++ u) m h c n h' c' n'
theorem isTrueB (b : Bool) : bI b = 0 ↔ b = false := by cases b <;> decide
/-- showInside, once show is known -/
theorem c_inside {K : Nat} (hK : K < 2 ^ 16) {k : Nat} (hS : ∀ {h : XH} {c n d a sb va m : Nat} {t : List Nat} {D : Den}, 2 * k + 6 ≤ d → isNode G h k a D → isB h sb va t m → m ≤ K → 2 * (t.length + D.2.2.length) + 4 ≤ K → c + K ≤ xCB + m → n + 2 * K ≤ xSB + 2 * m → XD l G d msS a [.ref sb] h c n (pShow K sb va t D.2.2 m h c n)) :
    ∀ {h : XH} {c n d a sb va m : Nat} {t : List Nat} {D : Den} {b : Bool}, 2 * k + 7 ≤ d → isNode G h k a D → isB h sb va t m → m ≤ K → 2 * (t.length + (brk b D.2.2).length) + 4 ≤ K → c + K ≤ xCB + m → n + 2 * K ≤ xSB + 2 * m → XM l G d M_Node_showInside [.ref a, .ref sb, .int (bI b)] h c n (pShow K sb va t (brk b D.2.2) m h c n) := by
  intro h c n d a sb va m t D b hd hN hB hm hL hc hn
  obtain ⟨d, rfl⟩ : ∃ q, d = q + 1 := ⟨d - 1, by omega⟩
  rw [brk_len] at hL
  refine XM.of (by decide +kernel) (Nat.le_of_ble_eq_true rfl) ?_
  cases b with
  | false =>
    refine x_iload_n d_Node_showInside_0 rfl ?_
    refine x_if_eq (tgt := 11) d_Node_showInside_1 (by decide) (fun _ => ?_) (fun hn => absurd rfl hn)
    refine x_aload_n d_Node_showInside_11 rfl rfl ?_
    refine x_aload_n d_Node_showInside_12 rfl rfl ?_
    refine x_callD (As := [_]) xD_Node_19 (hS (by omega) hN hB hm (by simp at hL; omega) hc hn) rfl rfl (Nat.le_of_ble_eq_true rfl) d_Node_showInside_13 ?_
    rintro v h' c' n' ⟨rfl, hp⟩
    refine x_iload_n d_Node_showInside_16 rfl ?_
    refine x_if_eq (tgt := 27) d_Node_showInside_17 (by decide) (fun _ => ?_) (fun hn => absurd rfl hn)
    refine x_vret d_Node_showInside_27 rfl ?_
    exact ⟨rfl, hp⟩
  | true =>
    simp only [if_true] at hL
    obtain ⟨z, bs, hsb, -⟩ := id hB
    refine x_iload_n d_Node_showInside_0 rfl ?_
    refine x_if_eq (tgt := 11) d_Node_showInside_1 (by decide) (fun ht => absurd ht (by decide)) (fun _ => ?_)
    refine x_aload_n d_Node_showInside_4 rfl rfl ?_
    refine x_bipush (v := 40) d_Node_showInside_5 (by decide) ?_
    refine x_callV (As := [_]) (k := k_StringBuilder) rfl xcv_Node_13_SB (Or.inl hsb) (c_SB_append_C (K := K) (ch := 40) (by omega) hB (by decide) hK hm (by omega) hc hn) rfl rfl (Nat.le_of_ble_eq_true rfl) d_Node_showInside_7 ?_
    rintro v h1 c1 n1 ⟨rfl, va1, m1, b1, f1, e1, g1⟩
    refine x_pop d_Node_showInside_10 rfl ?_
    refine x_aload_n d_Node_showInside_11 rfl rfl ?_
    refine x_aload_n d_Node_showInside_12 rfl rfl ?_
    refine x_callD (As := [_]) xD_Node_19 (hS (by omega) (hN.fr f1 (hB.k1 (by decide) (by decide))) b1 g1.2.1 (by simp; omega) (by omega) (by omega)) rfl rfl (Nat.le_of_ble_eq_true rfl) d_Node_showInside_13 ?_
    rintro v h2 c2 n2 ⟨rfl, p2⟩
    obtain ⟨va2, m2, b2, f2, e2, g2⟩ := pB.tr b1 f1 e1 g1 p2
    obtain ⟨z2, bs2, hsb2, -⟩ := id b2
    refine x_iload_n d_Node_showInside_16 rfl ?_
    refine x_if_eq (tgt := 27) d_Node_showInside_17 (by decide) (fun ht => absurd ht (by decide)) (fun _ => ?_)
    refine x_aload_n d_Node_showInside_20 rfl rfl ?_
    refine x_bipush (v := 41) d_Node_showInside_21 (by decide) ?_
    refine x_callV (As := [_]) (k := k_StringBuilder) rfl xcv_Node_13_SB (Or.inl hsb2) (c_SB_append_C (K := K) (ch := 41) (by omega) b2 (by decide) hK g2.2.1 (by simp; omega) (by omega) (by omega)) rfl rfl (Nat.le_of_ble_eq_true rfl) d_Node_showInside_23 ?_
    rintro v h3 c3 n3 ⟨rfl, p3⟩
    refine x_pop d_Node_showInside_26 rfl ?_
    refine x_vret d_Node_showInside_27 rfl ?_
    refine ⟨rfl, ?_⟩
    have := pB.tr b2 f2 e2 g2 p3
    simpa [brk] using this
theorem XD.ofI {a sb : Nat} {v : Value} {As : List Value} {P : Option Value → XH → Nat → Nat → Prop} (hs : hasSt G h a v) (hX : XM l G d M_Node_showInside (.ref a :: As) h c n P) : XD l G d msI a As h c n P := by
  rcases hs with ⟨x, y, z, w, ha⟩ | ⟨x, y, ha⟩ | ⟨x, ha⟩ | ⟨x, ha⟩
  · exact ⟨(k_Test, M_Node_showInside), List.mem_of_getElem? (i := 0) rfl, _, ha, hX⟩
  · exact ⟨(k_Join, M_Node_showInside), List.mem_of_getElem? (i := 1) rfl, _, ha, hX⟩
  · exact ⟨(k_Negation, M_Node_showInside), List.mem_of_getElem? (i := 2) rfl, _, ha, hX⟩
  · exact ⟨(k_Constant, M_Node_showInside), List.mem_of_getElem? (i := 3) rfl, _, ha, hX⟩
theorem bI_dec {p : Prop} [Decidable p] : bI (decide p) = if p then 1 else 0 := by
  unfold bI
  by_cases h : p <;> simp [h]
theorem c_show (hG : xGk G) {K : Nat} (hK : K < 2 ^ 16) : ∀ {k : Nat} {h : XH} {c n d a sb va m : Nat} {t : List Nat} {D : Den}, 2 * k + 6 ≤ d → isNode G h k a D → isB h sb va t m → m ≤ K → 2 * (t.length + D.2.2.length) + 4 ≤ K → c + K ≤ xCB + m → n + 2 * K ≤ xSB + 2 * m → XD l G d msS a [.ref sb] h c n (pShow K sb va t D.2.2 m h c n) := by
  intro k
  induction k with
  | zero =>
    rintro h c n d a sb va m t D hd (⟨t1, hT, rfl⟩ | ⟨b, h1, rfl⟩) hB hm hL hc hn
    · obtain ⟨d, rfl⟩ : ∃ q, d = q + 1 := ⟨d - 1, by omega⟩
      obtain ⟨z, bs, hsb, -⟩ := id hB
      obtain ⟨ta, sa, ha, -, hsa, -⟩ := id hT
      refine XD.ofT (i := 0) rfl ha ?_
      refine XM.of (by decide +kernel) (Nat.le_of_ble_eq_true rfl) ?_
      have hL' : 2 * (t.length + t1.2.2.2.length) + 4 ≤ K := hL
      refine x_aload_n d_Test_show_0 rfl rfl ?_
      refine x_aload_n d_Test_show_1 rfl rfl ?_
      refine x_get xf_Test_22_Test (Or.inl ha) rfl d_Test_show_2 ?_
      refine x_callV (As := [_]) (k := k_StringBuilder) rfl xcv_Test_30_SB (Or.inl hsb) (c_SB_append_S (K := K) (by omega) hB hsa hK hm (by omega) hc hn) rfl rfl (Nat.le_of_ble_eq_true rfl) d_Test_show_5 ?_
      rintro v h' c' n' ⟨rfl, hp⟩
      refine x_pop d_Test_show_8 rfl ?_
      refine x_vret d_Test_show_9 rfl ?_
      exact ⟨rfl, hp⟩
    · obtain ⟨d, rfl⟩ : ∃ q, d = q + 1 := ⟨d - 1, by omega⟩
      obtain ⟨z, bs, hsb, -⟩ := id hB
      refine XD.ofT (i := 3) rfl h1 ?_
      refine XM.of (by decide +kernel) (Nat.le_of_ble_eq_true rfl) ?_
      cases b with
      | true =>
        have hL' : 2 * (t.length + (xtx 26).length) + 4 ≤ K := hL
        refine x_aload_n d_Constant_show_0 rfl rfl ?_
        refine x_aload_n d_Constant_show_1 rfl rfl ?_
        refine x_get xf_Constant_7_Constant (Or.inl h1) rfl d_Constant_show_2 ?_
        refine x_if_eq (tgt := 13) d_Constant_show_5 (by decide) (fun ht => absurd ht (by decide)) (fun _ => ?_)
        refine x_ldcS (i := 26) (tx := "true") (by decide +kernel) d_Constant_show_8 ?_
        refine x_goto (tgt := 15) d_Constant_show_10 (by decide) ?_
        refine x_callV (As := [_]) (k := k_StringBuilder) rfl xcv_Constant_17_SB (Or.inl hsb) (c_SB_append_S (K := K) (by omega) hB (hG.str (by decide)) hK hm (by omega) hc hn) rfl rfl (Nat.le_of_ble_eq_true rfl) d_Constant_show_15 ?_
        rintro v h' c' n' ⟨rfl, hp⟩
        refine x_pop d_Constant_show_18 rfl ?_
        refine x_vret d_Constant_show_19 rfl ?_
        exact ⟨rfl, hp⟩
      | false =>
        have hL' : 2 * (t.length + (xtx 27).length) + 4 ≤ K := hL
        refine x_aload_n d_Constant_show_0 rfl rfl ?_
        refine x_aload_n d_Constant_show_1 rfl rfl ?_
        refine x_get xf_Constant_7_Constant (Or.inl h1) rfl d_Constant_show_2 ?_
        refine x_if_eq (tgt := 13) d_Constant_show_5 (by decide) (fun _ => ?_) (fun hn => absurd rfl hn)
        refine x_ldcS (i := 27) (tx := "false") (by decide +kernel) d_Constant_show_13 ?_
        refine x_callV (As := [_]) (k := k_StringBuilder) rfl xcv_Constant_17_SB (Or.inl hsb) (c_SB_append_S (K := K) (by omega) hB (hG.str (by decide)) hK hm (by omega) hc hn) rfl rfl (Nat.le_of_ble_eq_true rfl) d_Constant_show_15 ?_
        rintro v h' c' n' ⟨rfl, hp⟩
        refine x_pop d_Constant_show_18 rfl ?_
        refine x_vret d_Constant_show_19 rfl ?_
        exact ⟨rfl, hp⟩
  | succ k ih =>
    have hin := fun {h : XH} {c n d a sb va m : Nat} {t : List Nat} {D : Den} {b : Bool} => c_inside (l := l) (G := G) hK (k := k) ih (h := h) (c := c) (n := n) (d := d) (a := a) (sb := sb) (va := va) (m := m) (t := t) (D := D) (b := b)
    rintro h c n d a sb va m t D hd (h1 | ⟨x, A, h1, h2, rfl⟩ | ⟨s, x, y, A, B, h0, h1, h2, h3, rfl⟩) hB hm hL hc hn
    · exact ih (by omega) h1 hB hm hL hc hn
    · obtain ⟨d, rfl⟩ : ∃ q, d = q + 1 := ⟨d - 1, by omega⟩
      obtain ⟨z, bs, hsb, -⟩ := id hB
      have hL' : 2 * (t.length + (xtx 28 ++ brk (decide (A.1 < 3)) A.2.2).length) + 4 ≤ K := hL
      rw [List.length_append] at hL'
      have h23 := h2.s3
      refine XD.ofT (i := 2) rfl h1 ?_
      refine XM.of (by decide +kernel) (Nat.le_of_ble_eq_true rfl) ?_
      refine x_aload_n d_Negation_show_0 rfl rfl ?_
      refine x_ldcS (i := 28) (tx := "not ") (by decide +kernel) d_Negation_show_1 ?_
      refine x_callV (As := [_]) (k := k_StringBuilder) rfl xcv_Negation_19_SB (Or.inl hsb) (c_SB_append_S (K := K) (by omega) hB (hG.str (by decide)) hK hm (by omega) hc hn) rfl rfl (Nat.le_of_ble_eq_true rfl) d_Negation_show_3 ?_
      rintro v h' c' n' ⟨rfl, va1, m1, b1, f1, e1, g1⟩
      have hk := hB.k1 (ks := kNd) (by decide) (by decide)
      have h1' := f1.1 _ _ h1 (hk.at h1 (by decide))
      have h2' := h2.fr f1 hk
      have at28 : XW l G M_Negation_show (d + 1) 28 [some (.ref a), some (.ref sb)] [.int (bI (decide (A.1 < 3))), .ref sb, .ref x] h' c' n' (pShow K sb va t (dNot A).2.2 m h c n) := by
        refine x_callD (As := [_, _]) xD_Negation_29 (XD.ofI (sb := sb) h2'.st (hin (by omega) h2' b1 g1.2.1 (by rw [List.length_append]; omega) (by omega) (by omega))) rfl rfl (Nat.le_of_ble_eq_true rfl) d_Negation_show_28 ?_
        rintro v h2 c2 n2 ⟨rfl, p2⟩
        refine x_vret d_Negation_show_31 rfl ?_
        have := pB.tr b1 f1 e1 g1 p2
        rw [List.append_assoc] at this
        exact ⟨rfl, this⟩
      refine x_pop d_Negation_show_6 rfl ?_
      refine x_aload_n d_Negation_show_7 rfl rfl ?_
      refine x_get xf_Negation_7_Negation (Or.inl h1') rfl d_Negation_show_8 ?_
      refine x_aload_n d_Negation_show_11 rfl rfl ?_
      refine x_aload_n d_Negation_show_12 rfl rfl ?_
      refine x_get xf_Negation_7_Negation (Or.inl h1') rfl d_Negation_show_13 ?_
      refine x_getD xG_Negation_25 h2'.st d_Negation_show_16 ?_
      refine x_iconst (v := 3) d_Negation_show_19 (by decide) ?_
      by_cases hs : A.1 < 3
      · refine x_icmp_ge (tgt := 27) d_Negation_show_20 (by decide) (fun ht => absurd ht (nI_ge (b := 3) hs (by omega))) (fun _ => ?_)
        refine x_iconst (v := 1) d_Negation_show_23 (by decide) ?_
        refine x_goto (tgt := 28) d_Negation_show_24 (by decide) ?_
        rw [show decide (A.1 < 3) = true from decide_eq_true hs] at at28
        exact at28
      · refine x_icmp_ge (tgt := 27) d_Negation_show_20 (by decide) (fun _ => ?_) (fun hn => absurd (nI_le (a := 3) (by omega) (by omega)) hn)
        refine x_iconst (v := 0) d_Negation_show_27 (by decide) ?_
        rw [show decide (A.1 < 3) = false from decide_eq_false hs] at at28
        exact at28
    · obtain ⟨d, rfl⟩ : ∃ q, d = q + 1 := ⟨d - 1, by omega⟩
      obtain ⟨z, bs, hsb, -⟩ := id hB
      have hs3 : s < 3 := by omega
      have hA3 := h2.s3
      have hB3 := h3.s3
      have hk := hB.k1 (ks := kNd) (by decide) (by decide)
      have hL' : 2 * (t.length + (brk (decide (A.1 < s)) A.2.2 ++ (if s = 1 then xtx 29 else xtx 30) ++ brk (decide (B.1 ≤ s)) B.2.2).length) + 4 ≤ K := hL
      rw [List.length_append, List.length_append] at hL'
      refine XD.ofT (i := 1) rfl h1 ?_
      refine XM.of (by decide +kernel) (Nat.le_of_ble_eq_true rfl) ?_
      have at71 : ∀ (h2' : XH) (va2 m2 c2 n2 : Nat), isB h2' sb va2 ((t ++ brk (decide (A.1 < s)) A.2.2) ++ (if s = 1 then xtx 29 else xtx 30)) m2 → xfr h h2' [sb, va] → (va2 = va ∨ h va2 = none) → xgr K m m2 c n c2 n2 → XW l G M_Join_show (d + 1) 71 [some (.ref a), some (.ref sb)] [.int (bI (decide (B.1 ≤ s))), .ref sb, .ref y] h2' c2 n2 (pShow K sb va t (dJoin s A B).2.2 m h c n) := by
        intro h2' va2 m2 c2 n2 b2 f2 e2 g2
        have h3' := h3.fr f2 hk
        refine x_callD (As := [_, _]) xD_Join_25 (XD.ofI (sb := sb) h3'.st (hin (by omega) h3' b2 g2.2.1 (by rw [List.length_append, List.length_append]; omega) (by omega) (by omega))) rfl rfl (Nat.le_of_ble_eq_true rfl) d_Join_show_71 ?_
        rintro v h4 c4 n4 ⟨rfl, p4⟩
        refine x_vret d_Join_show_74 rfl ?_
        have := pB.tr b2 f2 e2 g2 p4
        rw [List.append_assoc, List.append_assoc, ← List.append_assoc (brk _ _)] at this
        exact ⟨rfl, this⟩
      have at46 : ∀ (h2' : XH) (va2 m2 c2 n2 : Nat), isB h2' sb va2 ((t ++ brk (decide (A.1 < s)) A.2.2) ++ (if s = 1 then xtx 29 else xtx 30)) m2 → xfr h h2' [sb, va] → (va2 = va ∨ h va2 = none) → xgr K m m2 c n c2 n2 → XW l G M_Join_show (d + 1) 46 [some (.ref a), some (.ref sb)] [.ref sb] h2' c2 n2 (pShow K sb va t (dJoin s A B).2.2 m h c n) := by
        intro h2' va2 m2 c2 n2 b2 f2 e2 g2
        have at71 := at71 h2' va2 m2 c2 n2 b2 f2 e2 g2
        have h3' := h3.fr f2 hk
        have h1' := f2.1 _ _ h1 (hk.at h1 (by decide))
        refine x_pop d_Join_show_46 rfl ?_
        refine x_aload_n d_Join_show_47 rfl rfl ?_
        refine x_get xf_Join_13_Join (Or.inl h1') rfl d_Join_show_48 ?_
        refine x_aload_n d_Join_show_51 rfl rfl ?_
        refine x_aload_n d_Join_show_52 rfl rfl ?_
        refine x_get xf_Join_13_Join (Or.inl h1') rfl d_Join_show_53 ?_
        refine x_getD xG_Join_24 h3'.st d_Join_show_56 ?_
        refine x_aload_n d_Join_show_59 rfl rfl ?_
        refine x_get xf_Join_16_Join (Or.inl h1') rfl d_Join_show_60 ?_
        by_cases hs : B.1 ≤ s
        · refine x_icmp_gt (tgt := 70) d_Join_show_63 (by decide) (fun ht => absurd ht (nI_nlt hs (by omega))) (fun _ => ?_)
          refine x_iconst (v := 1) d_Join_show_66 (by decide) ?_
          refine x_goto (tgt := 71) d_Join_show_67 (by decide) ?_
          rw [show decide (B.1 ≤ s) = true from decide_eq_true hs] at at71
          exact at71
        · refine x_icmp_gt (tgt := 70) d_Join_show_63 (by decide) (fun _ => ?_) (fun hn => absurd (nI_lt (by omega) (by omega)) hn)
          refine x_iconst (v := 0) d_Join_show_70 (by decide) ?_
          rw [show decide (B.1 ≤ s) = false from decide_eq_false hs] at at71
          exact at71
      have at24 : XW l G M_Join_show (d + 1) 24 [some (.ref a), some (.ref sb)] [.int (bI (decide (A.1 < s))), .ref sb, .ref x] h c n (pShow K sb va t (dJoin s A B).2.2 m h c n) := by
        refine x_callD (As := [_, _]) xD_Join_25 (XD.ofI (sb := sb) h2.st (hin (by omega) h2 hB hm (by omega) hc hn)) rfl rfl (Nat.le_of_ble_eq_true rfl) d_Join_show_24 ?_
        rintro v h1' c1 n1 ⟨rfl, va1, m1, b1, f1, e1, g1⟩
        obtain ⟨z1, bs1, hsb1, -⟩ := id b1
        have h1'' := f1.1 _ _ h1 (hk.at h1 (by decide))
        rcases h0 with rfl | rfl
        · rw [if_pos rfl] at hL'
          refine x_aload_n d_Join_show_27 rfl rfl ?_
          refine x_aload_n d_Join_show_28 rfl rfl ?_
          refine x_get xf_Join_16_Join (Or.inl h1'') rfl d_Join_show_29 ?_
          refine x_iconst (v := 1) d_Join_show_32 (by decide) ?_
          refine x_icmp_ne (tgt := 41) d_Join_show_33 (by decide) (fun ht => absurd rfl ht) (fun _ => ?_)
          refine x_ldcS (i := 29) (tx := " or ") (by decide +kernel) d_Join_show_36 ?_
          refine x_goto (tgt := 43) d_Join_show_38 (by decide) ?_
          refine x_callV (As := [_]) (k := k_StringBuilder) rfl xcv_Join_33_SB (Or.inl hsb1) (c_SB_append_S (K := K) (by omega) b1 (hG.str (by decide)) hK g1.2.1 (by rw [List.length_append]; omega) (by omega) (by omega)) rfl rfl (Nat.le_of_ble_eq_true rfl) d_Join_show_43 ?_
          rintro v h2' c2 n2 ⟨rfl, p2⟩
          obtain ⟨va2, m2, b2, f2, e2, g2⟩ := pB.tr b1 f1 e1 g1 p2
          exact at46 h2' va2 m2 c2 n2 (by rw [if_pos rfl]; exact b2) f2 e2 g2
        · rw [if_neg (by decide)] at hL'
          refine x_aload_n d_Join_show_27 rfl rfl ?_
          refine x_aload_n d_Join_show_28 rfl rfl ?_
          refine x_get xf_Join_16_Join (Or.inl h1'') rfl d_Join_show_29 ?_
          refine x_iconst (v := 1) d_Join_show_32 (by decide) ?_
          refine x_icmp_ne (tgt := 41) d_Join_show_33 (by decide) (fun _ => ?_) (fun hn => absurd hn (by decide))
          refine x_ldcS (i := 30) (tx := " and ") (by decide +kernel) d_Join_show_41 ?_
          refine x_callV (As := [_]) (k := k_StringBuilder) rfl xcv_Join_33_SB (Or.inl hsb1) (c_SB_append_S (K := K) (by omega) b1 (hG.str (by decide)) hK g1.2.1 (by rw [List.length_append]; omega) (by omega) (by omega)) rfl rfl (Nat.le_of_ble_eq_true rfl) d_Join_show_43 ?_
          rintro v h2' c2 n2 ⟨rfl, p2⟩
          obtain ⟨va2, m2, b2, f2, e2, g2⟩ := pB.tr b1 f1 e1 g1 p2
          exact at46 h2' va2 m2 c2 n2 (by rw [if_neg (by decide)]; exact b2) f2 e2 g2
      refine x_aload_n d_Join_show_0 rfl rfl ?_
      refine x_get xf_Join_7_Join (Or.inl h1) rfl d_Join_show_1 ?_
      refine x_aload_n d_Join_show_4 rfl rfl ?_
      refine x_aload_n d_Join_show_5 rfl rfl ?_
      refine x_get xf_Join_7_Join (Or.inl h1) rfl d_Join_show_6 ?_
      refine x_getD xG_Join_24 h2.st d_Join_show_9 ?_
      refine x_aload_n d_Join_show_12 rfl rfl ?_
      refine x_get xf_Join_16_Join (Or.inl h1) rfl d_Join_show_13 ?_
      by_cases hs : A.1 < s
      · refine x_icmp_ge (tgt := 23) d_Join_show_16 (by decide) (fun ht => absurd ht (nI_ge hs (by omega))) (fun _ => ?_)
        refine x_iconst (v := 1) d_Join_show_19 (by decide) ?_
        refine x_goto (tgt := 24) d_Join_show_20 (by decide) ?_
        rw [show decide (A.1 < s) = true from decide_eq_true hs] at at24
        exact at24
      · refine x_icmp_ge (tgt := 23) d_Join_show_16 (by decide) (fun _ => ?_) (fun hn => absurd (nI_le (by omega) (by omega)) hn)
        refine x_iconst (v := 0) d_Join_show_23 (by decide) ?_
        rw [show decide (A.1 < s) = false from decide_eq_false hs] at at24
        exact at24
end ND2
end
section
section
abbrev y_Reader_skipBlanks : MethodName := ⟨"MarkerText$Reader", "skipBlanks", "()V"⟩
abbrev M_Reader_skipBlanks : XMt := (y_Reader_skipBlanks, prog_10_method_11_code, 1, none)
theorem d_Reader_skipBlanks_0 : decode M_Reader_skipBlanks.2.1 0 = .ok (.aload_n 0, 1) := by decide +kernel
theorem d_Reader_skipBlanks_1 : decode M_Reader_skipBlanks.2.1 1 = .ok (.getfield 25, 3) := by decide +kernel
theorem xw_861 : (Jvm.Cond.fieldLink "MarkerText$Reader" (25 : Nat) "MarkerText$Reader" "at" "I") ∈ xT := xT_at 861 (by decide +kernel) (by decide +kernel)
theorem xf_Reader_25_Reader : xF "MarkerText$Reader" 25 k_Reader 4 := ⟨_, _, _, "MarkerText$Reader", rfl, by decide, Or.inl xw_861, Or.inl rfl⟩
theorem d_Reader_skipBlanks_4 : decode M_Reader_skipBlanks.2.1 4 = .ok (.aload_n 0, 1) := by decide +kernel
theorem d_Reader_skipBlanks_5 : decode M_Reader_skipBlanks.2.1 5 = .ok (.getfield 35, 3) := by decide +kernel
theorem xw_857 : (Jvm.Cond.fieldLink "MarkerText$Reader" (35 : Nat) "MarkerText$Reader" "text" "Ljava/lang/String;") ∈ xT := xT_at 857 (by decide +kernel) (by decide +kernel)
theorem xf_Reader_35_Reader : xF "MarkerText$Reader" 35 k_Reader 0 := ⟨_, _, _, "MarkerText$Reader", rfl, by decide, Or.inl xw_857, Or.inl rfl⟩
theorem d_Reader_skipBlanks_8 : decode M_Reader_skipBlanks.2.1 8 = .ok (.invokevirtual 52, 3) := by decide +kernel
theorem xw_896 : (Jvm.Cond.methodLink "MarkerText$Reader" (52 : Nat) ({ cls := "java/lang/String", name := "length", desc := "()I" } : Jvm.MethodName)) ∈ xT := xT_at 896 (by decide +kernel) (by decide +kernel)
theorem xcv_Reader_52_String : xCV "MarkerText$Reader" 52 "java/lang/String" M_String_length 0 := ⟨xcb_String_length, xw_422, Or.inl ⟨xw_896, Or.inl xw_423⟩⟩
theorem d_Reader_skipBlanks_11 : decode M_Reader_skipBlanks.2.1 11 = .ok (.if_icmp .ge 32, 3) := by decide +kernel
theorem d_Reader_skipBlanks_43 : decode M_Reader_skipBlanks.2.1 43 = .ok (.return_, 1) := by decide +kernel
theorem d_Reader_skipBlanks_14 : decode M_Reader_skipBlanks.2.1 14 = .ok (.aload_n 0, 1) := by decide +kernel
theorem d_Reader_skipBlanks_15 : decode M_Reader_skipBlanks.2.1 15 = .ok (.getfield 35, 3) := by decide +kernel
theorem d_Reader_skipBlanks_18 : decode M_Reader_skipBlanks.2.1 18 = .ok (.aload_n 0, 1) := by decide +kernel
theorem d_Reader_skipBlanks_19 : decode M_Reader_skipBlanks.2.1 19 = .ok (.getfield 25, 3) := by decide +kernel
theorem d_Reader_skipBlanks_22 : decode M_Reader_skipBlanks.2.1 22 = .ok (.invokevirtual 178, 3) := by decide +kernel
theorem xw_897 : (Jvm.Cond.methodLink "MarkerText$Reader" (178 : Nat) ({ cls := "java/lang/String", name := "charAt", desc := "(I)C" } : Jvm.MethodName)) ∈ xT := xT_at 897 (by decide +kernel) (by decide +kernel)
theorem xcv_Reader_178_String : xCV "MarkerText$Reader" 178 "java/lang/String" M_String_charAt 1 := ⟨xcb_String_charAt, xw_431, Or.inl ⟨xw_897, Or.inl xw_432⟩⟩
theorem d_Reader_skipBlanks_25 : decode M_Reader_skipBlanks.2.1 25 = .ok (.bipush 32, 2) := by decide +kernel
theorem d_Reader_skipBlanks_27 : decode M_Reader_skipBlanks.2.1 27 = .ok (.if_icmp .ne 16, 3) := by decide +kernel
theorem d_Reader_skipBlanks_30 : decode M_Reader_skipBlanks.2.1 30 = .ok (.aload_n 0, 1) := by decide +kernel
theorem d_Reader_skipBlanks_31 : decode M_Reader_skipBlanks.2.1 31 = .ok (.dup, 1) := by decide +kernel
theorem d_Reader_skipBlanks_32 : decode M_Reader_skipBlanks.2.1 32 = .ok (.getfield 25, 3) := by decide +kernel
theorem d_Reader_skipBlanks_35 : decode M_Reader_skipBlanks.2.1 35 = .ok (.iconst 1, 1) := by decide +kernel
theorem d_Reader_skipBlanks_36 : decode M_Reader_skipBlanks.2.1 36 = .ok (.iadd, 1) := by decide +kernel
theorem d_Reader_skipBlanks_37 : decode M_Reader_skipBlanks.2.1 37 = .ok (.putfield 25, 3) := by decide +kernel
theorem xp_Reader_4 : xP k_Reader 4 false .int := ⟨_, _, _, rfl, rfl, by decide +kernel⟩
theorem d_Reader_skipBlanks_40 : decode M_Reader_skipBlanks.2.1 40 = .ok (.goto (-40), 3) := by decide +kernel
abbrev y_Reader_characterHere : MethodName := ⟨"MarkerText$Reader", "characterHere", "()C"⟩
abbrev M_Reader_characterHere : XMt := (y_Reader_characterHere, prog_10_method_12_code, 1, (some .char))
theorem d_Reader_characterHere_0 : decode M_Reader_characterHere.2.1 0 = .ok (.aload_n 0, 1) := by decide +kernel
theorem d_Reader_characterHere_1 : decode M_Reader_characterHere.2.1 1 = .ok (.getfield 25, 3) := by decide +kernel
theorem d_Reader_characterHere_4 : decode M_Reader_characterHere.2.1 4 = .ok (.aload_n 0, 1) := by decide +kernel
theorem d_Reader_characterHere_5 : decode M_Reader_characterHere.2.1 5 = .ok (.getfield 35, 3) := by decide +kernel
theorem d_Reader_characterHere_8 : decode M_Reader_characterHere.2.1 8 = .ok (.invokevirtual 52, 3) := by decide +kernel
theorem d_Reader_characterHere_11 : decode M_Reader_characterHere.2.1 11 = .ok (.if_icmp .ge 17, 3) := by decide +kernel
theorem d_Reader_characterHere_14 : decode M_Reader_characterHere.2.1 14 = .ok (.aload_n 0, 1) := by decide +kernel
theorem d_Reader_characterHere_15 : decode M_Reader_characterHere.2.1 15 = .ok (.getfield 35, 3) := by decide +kernel
theorem d_Reader_characterHere_18 : decode M_Reader_characterHere.2.1 18 = .ok (.aload_n 0, 1) := by decide +kernel
theorem d_Reader_characterHere_19 : decode M_Reader_characterHere.2.1 19 = .ok (.getfield 25, 3) := by decide +kernel
theorem d_Reader_characterHere_22 : decode M_Reader_characterHere.2.1 22 = .ok (.invokevirtual 178, 3) := by decide +kernel
theorem d_Reader_characterHere_25 : decode M_Reader_characterHere.2.1 25 = .ok (.goto 4, 3) := by decide +kernel
theorem d_Reader_characterHere_29 : decode M_Reader_characterHere.2.1 29 = .ok (.ireturn, 1) := by decide +kernel
theorem d_Reader_characterHere_28 : decode M_Reader_characterHere.2.1 28 = .ok (.iconst 0, 1) := by decide +kernel
abbrev y_Reader_wordHere : MethodName := ⟨"MarkerText$Reader", "wordHere", "()Ljava/lang/String;"⟩
abbrev M_Reader_wordHere : XMt := (y_Reader_wordHere, prog_10_method_13_code, 2, (some (.object "java/lang/String")))
theorem d_Reader_wordHere_36 : decode M_Reader_wordHere.2.1 36 = .ok (.aload_n 0, 1) := by decide +kernel
theorem d_Reader_wordHere_37 : decode M_Reader_wordHere.2.1 37 = .ok (.getfield 35, 3) := by decide +kernel
theorem d_Reader_wordHere_40 : decode M_Reader_wordHere.2.1 40 = .ok (.aload_n 0, 1) := by decide +kernel
theorem d_Reader_wordHere_41 : decode M_Reader_wordHere.2.1 41 = .ok (.getfield 25, 3) := by decide +kernel
theorem d_Reader_wordHere_44 : decode M_Reader_wordHere.2.1 44 = .ok (.iload_n 1, 1) := by decide +kernel
theorem d_Reader_wordHere_45 : decode M_Reader_wordHere.2.1 45 = .ok (.invokevirtual 186, 3) := by decide +kernel
theorem xw_906 : (Jvm.Cond.code ({ cls := "java/lang/String", name := "substring", desc := "(II)Ljava/lang/String;" } : Jvm.MethodName) prog_25_method_92_code (5 : Nat) (Option.some (Jvm.ClassFile.FieldType.object "java/lang/String"))) ∈ xT := xT_at 906 (by decide +kernel) (by decide +kernel)
theorem xcb_String_substring : xcb M_String_substring 2 := ⟨xw_906, xw_4, by decide, by decide, by decide, by decide +kernel⟩
theorem xw_904 : (Jvm.Cond.instanceMethod ({ cls := "java/lang/String", name := "substring", desc := "(II)Ljava/lang/String;" } : Jvm.MethodName)) ∈ xT := xT_at 904 (by decide +kernel) (by decide +kernel)
theorem xw_903 : (Jvm.Cond.methodLink "MarkerText$Reader" (186 : Nat) ({ cls := "java/lang/String", name := "substring", desc := "(II)Ljava/lang/String;" } : Jvm.MethodName)) ∈ xT := xT_at 903 (by decide +kernel) (by decide +kernel)
theorem xw_905 : (Jvm.Cond.selects "java/lang/String" ({ cls := "java/lang/String", name := "substring", desc := "(II)Ljava/lang/String;" } : Jvm.MethodName) ({ cls := "java/lang/String", name := "substring", desc := "(II)Ljava/lang/String;" } : Jvm.MethodName)) ∈ xT := xT_at 905 (by decide +kernel) (by decide +kernel)
theorem xcv_Reader_186_String : xCV "MarkerText$Reader" 186 "java/lang/String" M_String_substring 2 := ⟨xcb_String_substring, xw_904, Or.inl ⟨xw_903, Or.inl xw_905⟩⟩
theorem d_Reader_wordHere_48 : decode M_Reader_wordHere.2.1 48 = .ok (.areturn, 1) := by decide +kernel
theorem d_Reader_wordHere_5 : decode M_Reader_wordHere.2.1 5 = .ok (.iload_n 1, 1) := by decide +kernel
theorem d_Reader_wordHere_6 : decode M_Reader_wordHere.2.1 6 = .ok (.aload_n 0, 1) := by decide +kernel
theorem d_Reader_wordHere_7 : decode M_Reader_wordHere.2.1 7 = .ok (.getfield 35, 3) := by decide +kernel
theorem d_Reader_wordHere_10 : decode M_Reader_wordHere.2.1 10 = .ok (.invokevirtual 52, 3) := by decide +kernel
theorem d_Reader_wordHere_13 : decode M_Reader_wordHere.2.1 13 = .ok (.if_icmp .ge 23, 3) := by decide +kernel
theorem d_Reader_wordHere_16 : decode M_Reader_wordHere.2.1 16 = .ok (.aload_n 0, 1) := by decide +kernel
theorem d_Reader_wordHere_17 : decode M_Reader_wordHere.2.1 17 = .ok (.getfield 35, 3) := by decide +kernel
theorem d_Reader_wordHere_20 : decode M_Reader_wordHere.2.1 20 = .ok (.iload_n 1, 1) := by decide +kernel
theorem d_Reader_wordHere_21 : decode M_Reader_wordHere.2.1 21 = .ok (.invokevirtual 178, 3) := by decide +kernel
theorem d_Reader_wordHere_24 : decode M_Reader_wordHere.2.1 24 = .ok (.invokestatic 190, 3) := by decide +kernel
theorem xw_902 : (Jvm.Cond.methodLinkNest "MarkerText$Reader" (190 : Nat) ({ cls := "MarkerText", name := "isLetter", desc := "(C)Z" } : Jvm.MethodName) "MarkerText") ∈ xT := xT_at 902 (by decide +kernel) (by decide +kernel)
theorem xcs_Reader_190 : xCS "MarkerText$Reader" 190 M_MT_isLetter 1 := ⟨xcb_MT_isLetter, xw_675, Or.inr ⟨_, xw_902⟩⟩
theorem d_Reader_wordHere_27 : decode M_Reader_wordHere.2.1 27 = .ok (.ifCond .eq 9, 3) := by decide +kernel
theorem d_Reader_wordHere_30 : decode M_Reader_wordHere.2.1 30 = .ok (.iinc 1 1, 3) := by decide +kernel
theorem d_Reader_wordHere_33 : decode M_Reader_wordHere.2.1 33 = .ok (.goto (-28), 3) := by decide +kernel
theorem d_Reader_wordHere_0 : decode M_Reader_wordHere.2.1 0 = .ok (.aload_n 0, 1) := by decide +kernel
theorem d_Reader_wordHere_1 : decode M_Reader_wordHere.2.1 1 = .ok (.getfield 25, 3) := by decide +kernel
theorem d_Reader_wordHere_4 : decode M_Reader_wordHere.2.1 4 = .ok (.istore_n 1, 1) := by decide +kernel
end
section RD1
variable {l : Launch} {G : XG} {h : XH} {c n d : Nat}
theorem xup_id {a : Nat} {e : Nat × List Value} (ha : h a = some e) : xup h a e = h := by
  funext z
  by_cases hz : z = a
  · subst hz; rw [xup_self, ha]
  · rw [xup_ne hz]
theorem xchr0 : ∀ ch, ch < 128 → narrow .char (.int (nI ch)) = .int (nI ch) := by decide +kernel
theorem xchr {ch : Nat} (hc : ch < 128) : narrow .char (.int (nI ch)) = .int (nI ch) := xchr0 ch hc
/-- where a run of characters that keep q ends -/
def scn (q : Nat → Bool) (t : List Nat) (p : Nat) : Nat := p + ((t.drop p).takeWhile q).length
theorem scn_step {q : Nat → Bool} {t : List Nat} {p : Nat} (hp : p < t.length) (hq : q t[p] = true) : scn q t p = scn q t (p + 1) := by
  unfold scn
  rw [List.drop_eq_getElem_cons hp, List.takeWhile_cons, if_pos hq, List.length_cons]
  omega
theorem scn_stop {q : Nat → Bool} {t : List Nat} {p : Nat} (hp : p < t.length) (hq : q t[p] = false) : scn q t p = p := by
  unfold scn
  rw [List.drop_eq_getElem_cons hp, List.takeWhile_cons, if_neg (by rw [hq]; exact fun z => by cases z)]
  rfl
theorem scn_end {q : Nat → Bool} {t : List Nat} {p : Nat} (hp : t.length ≤ p) : scn q t p = p := by
  unfold scn
  rw [List.drop_of_length_le hp]
  rfl
theorem scn_ge {q : Nat → Bool} {t : List Nat} {p : Nat} : p ≤ scn q t p := Nat.le_add_right _ _
theorem take_tw {q : Nat → Bool} : ∀ u : List Nat, u.take (u.takeWhile q).length = u.takeWhile q
  | [] => rfl
  | x :: u => by
    rw [List.takeWhile_cons]
    by_cases hq : q x = true
    · rw [if_pos hq, List.length_cons, List.take_succ_cons, take_tw u]
    · rw [if_neg hq]; rfl
theorem tw_len {q : Nat → Bool} : ∀ u : List Nat, (u.takeWhile q).length ≤ u.length
  | [] => Nat.le_refl _
  | x :: u => by
    rw [List.takeWhile_cons]
    by_cases hq : q x = true
    · rw [if_pos hq, List.length_cons, List.length_cons]
      have := tw_len (q := q) u
      omega
    · rw [if_neg hq]; exact Nat.zero_le _
theorem scn_le {q : Nat → Bool} {t : List Nat} {p : Nat} (hp : p ≤ t.length) : scn q t p ≤ t.length := by
  have := tw_len (q := q) (t.drop p)
  unfold scn
  rw [List.length_drop] at this
  omega
theorem scn_cut {q : Nat → Bool} {t : List Nat} {p : Nat} : (t.drop p).take (scn q t p - p) = (t.drop p).takeWhile q := by
  unfold scn
  rw [Nat.add_sub_cancel_left, take_tw]
abbrev qB (x : Nat) : Bool := decide (x = 32)
abbrev qL (x : Nat) : Bool := decide (isLt x)
abbrev qV (x : Nat) : Bool := decide (x ≠ 39)
/-- behind blanks -/
abbrev skp (t : List Nat) (p : Nat) : Nat := scn qB t p
/-- the word that begins at a place -/
abbrev wrd (t : List Nat) (p : Nat) : List Nat := (t.drop p).takeWhile qL
/-- the character at a place, or 0 -/
abbrev chr (t : List Nat) (p : Nat) : Nat := t.getD p 0
theorem chr_in {t : List Nat} {p : Nat} (hp : p < t.length) : chr t p = t[p] := by
  unfold chr
  rw [List.getD_eq_getElem?_getD, List.getElem?_eq_getElem hp]
  rfl
theorem chr_out {t : List Nat} {p : Nat} (hp : t.length ≤ p) : chr t p = 0 := by
  unfold chr
  rw [List.getD_eq_getElem?_getD, List.getElem?_eq_none hp]
  rfl
theorem chr_lt {t : List Nat} {p : Nat} (ht : xasc t) : chr t p < 128 := by
  by_cases hp : p < t.length
  · rw [chr_in hp]; exact ht _ (List.getElem_mem hp)
  · rw [chr_out (by omega)]; decide
theorem isS.asc {a : Nat} {t : List Nat} (hS : isS G h a t) : xasc t := by
  obtain ⟨_, _, _, _, e⟩ := hS
  exact e
/-- a Reader's fields -/
abbrev rdO (ta na la ba p o tc : Nat) : Nat × List Value := (k_Reader, [.ref ta, .ref na, .ref la, .ref ba, .int (nI p), .int (nI o), .int (nI tc)])
theorem isS.upR {a r k : Nat} {vs : List Value} {e : Nat × List Value} {t : List Nat} (hS : isS G h a t) (hr : h r = some (k, vs)) (hk : k ∉ [k_String, k_asbyte]) : isS G (xup h r e) a t := hS.fr (F := [r]) (xfr.rf.up (Or.inl (by simp))) (xno1 hr hk)
theorem c_skipBlanks (hG : xGk G) (hd : 4 ≤ d) {r ta na la ba p o tc : Nat} {t : List Nat} (hr : h r = some (rdO ta na la ba p o tc)) (hS : isS G h ta t) (hl : t.length < 2 ^ 20) (hp : p ≤ t.length) : XM l G d M_Reader_skipBlanks [.ref r] h c n (fun v h' c' n' => v = none ∧ h' = xup h r (rdO ta na la ba (skp t p) o tc) ∧ c' = c ∧ n' = n) := by
  obtain ⟨d, rfl⟩ : ∃ q, d = q + 1 := ⟨d - 1, by omega⟩
  refine XM.of (by decide +kernel) (Nat.le_of_ble_eq_true rfl) ?_
  have lp : ∀ (k p : Nat) (h1 : XH), p + k = t.length → h1 r = some (rdO ta na la ba p o tc) → isS G h1 ta t → xup h1 r (rdO ta na la ba (skp t p) o tc) = xup h r (rdO ta na la ba (skp t p) o tc) → (∀ z, xup h1 r z = xup h r z) → XW l G M_Reader_skipBlanks (d + 1) 0 [some (.ref r)] [] h1 c n (fun v h' c' n' => v = none ∧ h' = xup h r (rdO ta na la ba (skp t p) o tc) ∧ c' = c ∧ n' = n) := by
    intro k
    induction k with
    | zero =>
      intro p h1 hp hr hS _ hu
      obtain ⟨va, ee, ha, -⟩ := id hS
      refine x_aload_n d_Reader_skipBlanks_0 rfl rfl ?_
      refine x_get xf_Reader_25_Reader (Or.inl hr) rfl d_Reader_skipBlanks_1 ?_
      refine x_aload_n d_Reader_skipBlanks_4 rfl rfl ?_
      refine x_get xf_Reader_35_Reader (Or.inl hr) rfl d_Reader_skipBlanks_5 ?_
      refine x_callV (As := []) (k := k_String) rfl xcv_Reader_52_String ha (c_String_length (by omega) hS) rfl rfl (Nat.le_of_ble_eq_true rfl) d_Reader_skipBlanks_8 ?_
      rintro v h' c' n' ⟨rfl, rfl, rfl, rfl⟩
      refine x_icmp_ge (tgt := 43) d_Reader_skipBlanks_11 (by decide) (fun _ => ?_) (fun hn => absurd (nI_le (by omega) (by omega)) hn)
      refine x_vret d_Reader_skipBlanks_43 rfl ?_
      refine ⟨rfl, ?_, rfl, rfl⟩
      rw [show skp t p = p from scn_end (by omega), ← hu, xup_id hr]
    | succ k ih =>
      intro p h1 hp hr hS _ hu
      obtain ⟨va, ee, ha, -⟩ := id hS
      have hpl : p < t.length := by omega
      refine x_aload_n d_Reader_skipBlanks_0 rfl rfl ?_
      refine x_get xf_Reader_25_Reader (Or.inl hr) rfl d_Reader_skipBlanks_1 ?_
      refine x_aload_n d_Reader_skipBlanks_4 rfl rfl ?_
      refine x_get xf_Reader_35_Reader (Or.inl hr) rfl d_Reader_skipBlanks_5 ?_
      refine x_callV (As := []) (k := k_String) rfl xcv_Reader_52_String ha (c_String_length (by omega) hS) rfl rfl (Nat.le_of_ble_eq_true rfl) d_Reader_skipBlanks_8 ?_
      rintro v h' c' n' ⟨rfl, rfl, rfl, rfl⟩
      refine x_icmp_ge (tgt := 43) d_Reader_skipBlanks_11 (by decide) (fun ht => absurd ht (nI_ge (by omega) (by omega))) (fun _ => ?_)
      refine x_aload_n d_Reader_skipBlanks_14 rfl rfl ?_
      refine x_get xf_Reader_35_Reader (Or.inl hr) rfl d_Reader_skipBlanks_15 ?_
      refine x_aload_n d_Reader_skipBlanks_18 rfl rfl ?_
      refine x_get xf_Reader_25_Reader (Or.inl hr) rfl d_Reader_skipBlanks_19 ?_
      refine x_callV (As := [_]) (k := k_String) rfl xcv_Reader_178_String ha (c_String_charAt hG (by omega) hS hpl (by omega)) rfl rfl (Nat.le_of_ble_eq_true rfl) d_Reader_skipBlanks_22 ?_
      rintro v h' c' n' ⟨rfl, rfl, rfl, rfl⟩
      refine x_bipush (v := 32) d_Reader_skipBlanks_25 (by decide) ?_
      have hch := hS.asc t[p] (List.getElem_mem hpl)
      by_cases hb : t[p] = 32
      · refine x_icmp_ne (tgt := 43) d_Reader_skipBlanks_27 (by decide) (fun ht => absurd (by rw [hb]; rfl) ht) (fun _ => ?_)
        refine x_aload_n d_Reader_skipBlanks_30 rfl rfl ?_
        refine x_dup d_Reader_skipBlanks_31 rfl ?_
        refine x_get xf_Reader_25_Reader (Or.inl hr) rfl d_Reader_skipBlanks_32 ?_
        refine x_iconst (v := 1) d_Reader_skipBlanks_35 (by decide) ?_
        refine x_iadd d_Reader_skipBlanks_36 ?_
        refine x_top (w := .int (nI (p + 1))) (by rw [show (1 : Int32) = nI 1 from rfl, nI_add]) ?_
        refine x_put xf_Reader_25_Reader xp_Reader_4 rfl rfl hr rfl rfl d_Reader_skipBlanks_37 ?_
        refine x_goto (tgt := 0) d_Reader_skipBlanks_40 (by decide) ?_
        rw [show skp t p = skp t (p + 1) from scn_step hpl (by simp [qB, hb])]
        exact ih (p + 1) _ (by omega) xup_self (hS.upR hr (by decide)) (by rw [xup_up, hu]) (fun z => by rw [xup_up, hu])
      · refine x_icmp_ne (tgt := 43) d_Reader_skipBlanks_27 (by decide) (fun _ => ?_) (fun hn => absurd hn (fun z => hb ((nI_eq (b := 32) (by omega) (by omega)).mp z)))
        refine x_vret d_Reader_skipBlanks_43 rfl ?_
        refine ⟨rfl, ?_, rfl, rfl⟩
        rw [show skp t p = p from scn_stop hpl (by simp [qB, hb]), ← hu, xup_id hr]
  exact lp (t.length - p) p h (by omega) hr hS rfl (fun _ => rfl)
theorem c_characterHere (hG : xGk G) (hd : 4 ≤ d) {r ta na la ba p o tc : Nat} {t : List Nat} (hr : h r = some (rdO ta na la ba p o tc)) (hS : isS G h ta t) (hl : t.length < 2 ^ 20) (hp : p ≤ t.length) : XM l G d M_Reader_characterHere [.ref r] h c n (xSame (.int (nI (chr t p))) h c n) := by
  obtain ⟨d, rfl⟩ : ∃ q, d = q + 1 := ⟨d - 1, by omega⟩
  obtain ⟨va, ee, ha, -⟩ := id hS
  refine XM.of (by decide +kernel) (Nat.le_of_ble_eq_true rfl) ?_
  refine x_aload_n d_Reader_characterHere_0 rfl rfl ?_
  refine x_get xf_Reader_25_Reader (Or.inl hr) rfl d_Reader_characterHere_1 ?_
  refine x_aload_n d_Reader_characterHere_4 rfl rfl ?_
  refine x_get xf_Reader_35_Reader (Or.inl hr) rfl d_Reader_characterHere_5 ?_
  refine x_callV (As := []) (k := k_String) rfl xcv_Reader_52_String ha (c_String_length (by omega) hS) rfl rfl (Nat.le_of_ble_eq_true rfl) d_Reader_characterHere_8 ?_
  rintro v h' c' n' ⟨rfl, rfl, rfl, rfl⟩
  by_cases hpl : p < t.length
  · have hch := hS.asc t[p] (List.getElem_mem hpl)
    refine x_icmp_ge (tgt := 28) d_Reader_characterHere_11 (by decide) (fun ht => absurd ht (nI_ge (by omega) (by omega))) (fun _ => ?_)
    refine x_aload_n d_Reader_characterHere_14 rfl rfl ?_
    refine x_get xf_Reader_35_Reader (Or.inl hr) rfl d_Reader_characterHere_15 ?_
    refine x_aload_n d_Reader_characterHere_18 rfl rfl ?_
    refine x_get xf_Reader_25_Reader (Or.inl hr) rfl d_Reader_characterHere_19 ?_
    refine x_callV (As := [_]) (k := k_String) rfl xcv_Reader_178_String ha (c_String_charAt hG (by omega) hS hpl (by omega)) rfl rfl (Nat.le_of_ble_eq_true rfl) d_Reader_characterHere_22 ?_
    rintro v h' c' n' ⟨rfl, rfl, rfl, rfl⟩
    refine x_goto (tgt := 29) d_Reader_characterHere_25 (by decide) ?_
    refine x_zret d_Reader_characterHere_29 rfl (xchr (by omega)) ?_
    exact ⟨by rw [chr_in hpl], rfl, rfl, rfl⟩
  · refine x_icmp_ge (tgt := 28) d_Reader_characterHere_11 (by decide) (fun _ => ?_) (fun hn => absurd (nI_le (by omega) (by omega)) hn)
    refine x_iconst (v := 0) d_Reader_characterHere_28 (by decide) ?_
    refine x_zret d_Reader_characterHere_29 rfl rfl ?_
    exact ⟨by rw [chr_out (by omega)]; rfl, rfl, rfl, rfl⟩
theorem c_wordHere (hG : xGk G) (hd : 5 ≤ d) {r ta na la ba p o tc : Nat} {t : List Nat} (hr : h r = some (rdO ta na la ba p o tc)) (hS : isS G h ta t) (hl : t.length < 2 ^ 20) (hp : p ≤ t.length) (hc : c + 2 ≤ xCB) (hn : n + t.length + 4 ≤ xSB) : XM l G d M_Reader_wordHere [.ref r] h c n (pS G (wrd t p) h c n) := by
  obtain ⟨d, rfl⟩ : ∃ q, d = q + 1 := ⟨d - 1, by omega⟩
  obtain ⟨va, ee, ha, -⟩ := id hS
  refine XM.of (by decide +kernel) (Nat.le_of_ble_eq_true rfl) ?_
  have he := scn_le (q := qL) hp
  have hge := scn_ge (q := qL) (t := t) (p := p)
  have at36 : XW l G M_Reader_wordHere (d + 1) 36 [some (.ref r), some (.int (nI (scn qL t p)))] [] h c n (pS G (wrd t p) h c n) := by
    refine x_aload_n d_Reader_wordHere_36 rfl rfl ?_
    refine x_get xf_Reader_35_Reader (Or.inl hr) rfl d_Reader_wordHere_37 ?_
    refine x_aload_n d_Reader_wordHere_40 rfl rfl ?_
    refine x_get xf_Reader_25_Reader (Or.inl hr) rfl d_Reader_wordHere_41 ?_
    refine x_iload_n d_Reader_wordHere_44 rfl ?_
    refine x_callV (As := [_, _]) (k := k_String) rfl xcv_Reader_186_String ha (c_substring hG (by omega) hS hge he hl hc (by omega)) rfl rfl (Nat.le_of_ble_eq_true rfl) d_Reader_wordHere_45 ?_
    rintro v h' c' n' ⟨q, rfl, g1, g2, g3, g4⟩
    rw [scn_cut] at g1 g4
    refine x_aret d_Reader_wordHere_48 rfl rfl ?_
    exact ⟨q, rfl, g1, g2, g3, g4⟩
  have lp : ∀ (k e : Nat), e + k = t.length → scn qL t e = scn qL t p → XW l G M_Reader_wordHere (d + 1) 5 [some (.ref r), some (.int (nI e))] [] h c n (pS G (wrd t p) h c n) := by
    intro k
    induction k with
    | zero =>
      intro e hk hse
      rw [scn_end (by omega)] at hse
      subst hse
      refine x_iload_n d_Reader_wordHere_5 rfl ?_
      refine x_aload_n d_Reader_wordHere_6 rfl rfl ?_
      refine x_get xf_Reader_35_Reader (Or.inl hr) rfl d_Reader_wordHere_7 ?_
      refine x_callV (As := []) (k := k_String) rfl xcv_Reader_52_String ha (c_String_length (by omega) hS) rfl rfl (Nat.le_of_ble_eq_true rfl) d_Reader_wordHere_10 ?_
      rintro v h' c' n' ⟨rfl, rfl, rfl, rfl⟩
      refine x_icmp_ge (tgt := 36) d_Reader_wordHere_13 (by decide) (fun _ => ?_) (fun hn => absurd (nI_le (by omega) (by omega)) hn)
      exact at36
    | succ k ih =>
      intro e hk hse
      have hel : e < t.length := by omega
      have hch := hS.asc t[e] (List.getElem_mem hel)
      refine x_iload_n d_Reader_wordHere_5 rfl ?_
      refine x_aload_n d_Reader_wordHere_6 rfl rfl ?_
      refine x_get xf_Reader_35_Reader (Or.inl hr) rfl d_Reader_wordHere_7 ?_
      refine x_callV (As := []) (k := k_String) rfl xcv_Reader_52_String ha (c_String_length (by omega) hS) rfl rfl (Nat.le_of_ble_eq_true rfl) d_Reader_wordHere_10 ?_
      rintro v h' c' n' ⟨rfl, rfl, rfl, rfl⟩
      refine x_icmp_ge (tgt := 36) d_Reader_wordHere_13 (by decide) (fun ht => absurd ht (nI_ge (by omega) (by omega))) (fun _ => ?_)
      refine x_aload_n d_Reader_wordHere_16 rfl rfl ?_
      refine x_get xf_Reader_35_Reader (Or.inl hr) rfl d_Reader_wordHere_17 ?_
      refine x_iload_n d_Reader_wordHere_20 rfl ?_
      refine x_callV (As := [_]) (k := k_String) rfl xcv_Reader_178_String ha (c_String_charAt hG (by omega) hS hel (by omega)) rfl rfl (Nat.le_of_ble_eq_true rfl) d_Reader_wordHere_21 ?_
      rintro v h' c' n' ⟨rfl, rfl, rfl, rfl⟩
      refine x_callS (As := [_]) xcs_Reader_190 (c_isLetter hch) rfl rfl (Nat.le_of_ble_eq_true rfl) d_Reader_wordHere_24 ?_
      rintro v h' c' n' ⟨rfl, rfl, rfl, rfl⟩
      by_cases hL : isLt t[e]
      · refine x_if_eq (tgt := 36) d_Reader_wordHere_27 (by decide) (fun ht => absurd ht (by rw [if_pos hL]; decide)) (fun _ => ?_)
        refine x_iinc (v := nI (e + 1)) (L' := [_, _]) d_Reader_wordHere_30 rfl (by exact xw_iinc1) rfl rfl ?_
        refine x_goto (tgt := 5) d_Reader_wordHere_33 (by decide) ?_
        exact ih (e + 1) (by omega) (by rw [← scn_step hel (decide_eq_true hL)]; exact hse)
      · rw [scn_stop hel (decide_eq_false hL)] at hse
        refine x_if_eq (tgt := 36) d_Reader_wordHere_27 (by decide) (fun _ => ?_) (fun hn => absurd (by rw [if_neg hL]) hn)
        rw [hse]
        exact at36
  refine x_aload_n d_Reader_wordHere_0 rfl rfl ?_
  refine x_get xf_Reader_25_Reader (Or.inl hr) rfl d_Reader_wordHere_1 ?_
  refine x_istore_n (L' := [_, _]) d_Reader_wordHere_4 rfl rfl ?_
  exact lp (t.length - p) p (by omega) rfl
end RD1
end
section
section
abbrev y_Reader_takesSign : MethodName := ⟨"MarkerText$Reader", "takesSign", "(C)Z"⟩
abbrev M_Reader_takesSign : XMt := (y_Reader_takesSign, prog_10_method_15_code, 2, (some .boolean))
theorem d_Reader_takesSign_0 : decode M_Reader_takesSign.2.1 0 = .ok (.aload_n 0, 1) := by decide +kernel
theorem d_Reader_takesSign_1 : decode M_Reader_takesSign.2.1 1 = .ok (.invokevirtual 49, 3) := by decide +kernel
theorem xw_895 : (Jvm.Cond.code ({ cls := "MarkerText$Reader", name := "skipBlanks", desc := "()V" } : Jvm.MethodName) prog_10_method_11_code (1 : Nat) (Option.none : Option Jvm.ClassFile.FieldType)) ∈ xT := xT_at 895 (by decide +kernel) (by decide +kernel)
theorem xw_23 : (Jvm.Cond.initialized "MarkerText$Reader") ∈ xT := xT_at 23 (by decide +kernel) (by decide +kernel)
theorem xcb_Reader_skipBlanks : xcb M_Reader_skipBlanks 0 := ⟨xw_895, xw_23, by decide, by decide, by decide, by decide +kernel⟩
theorem xw_894 : (Jvm.Cond.instanceMethod ({ cls := "MarkerText$Reader", name := "skipBlanks", desc := "()V" } : Jvm.MethodName)) ∈ xT := xT_at 894 (by decide +kernel) (by decide +kernel)
theorem xw_892 : (Jvm.Cond.methodLink "MarkerText$Reader" (49 : Nat) ({ cls := "MarkerText$Reader", name := "skipBlanks", desc := "()V" } : Jvm.MethodName)) ∈ xT := xT_at 892 (by decide +kernel) (by decide +kernel)
theorem xsel_Reader_skipBlanks : Cond.selects "MarkerText$Reader" y_Reader_skipBlanks y_Reader_skipBlanks ∈ xT := xT_sel (q := (y_Reader_skipBlanks, 7)) (by decide +kernel) (by decide +kernel)
theorem xcv_Reader_49_Reader : xCV "MarkerText$Reader" 49 "MarkerText$Reader" M_Reader_skipBlanks 0 := ⟨xcb_Reader_skipBlanks, xw_894, Or.inl ⟨xw_892, Or.inl xsel_Reader_skipBlanks⟩⟩
theorem d_Reader_takesSign_4 : decode M_Reader_takesSign.2.1 4 = .ok (.aload_n 0, 1) := by decide +kernel
theorem d_Reader_takesSign_5 : decode M_Reader_takesSign.2.1 5 = .ok (.invokevirtual 101, 3) := by decide +kernel
theorem xw_931 : (Jvm.Cond.code ({ cls := "MarkerText$Reader", name := "characterHere", desc := "()C" } : Jvm.MethodName) prog_10_method_12_code (1 : Nat) (Option.some Jvm.ClassFile.FieldType.char)) ∈ xT := xT_at 931 (by decide +kernel) (by decide +kernel)
theorem xcb_Reader_characterHere : xcb M_Reader_characterHere 0 := ⟨xw_931, xw_23, by decide, by decide, by decide, by decide +kernel⟩
theorem xw_930 : (Jvm.Cond.instanceMethod ({ cls := "MarkerText$Reader", name := "characterHere", desc := "()C" } : Jvm.MethodName)) ∈ xT := xT_at 930 (by decide +kernel) (by decide +kernel)
theorem xw_928 : (Jvm.Cond.methodLink "MarkerText$Reader" (101 : Nat) ({ cls := "MarkerText$Reader", name := "characterHere", desc := "()C" } : Jvm.MethodName)) ∈ xT := xT_at 928 (by decide +kernel) (by decide +kernel)
theorem xsel_Reader_characterHere : Cond.selects "MarkerText$Reader" y_Reader_characterHere y_Reader_characterHere ∈ xT := xT_sel (q := (y_Reader_characterHere, 7)) (by decide +kernel) (by decide +kernel)
theorem xcv_Reader_101_Reader : xCV "MarkerText$Reader" 101 "MarkerText$Reader" M_Reader_characterHere 0 := ⟨xcb_Reader_characterHere, xw_930, Or.inl ⟨xw_928, Or.inl xsel_Reader_characterHere⟩⟩
theorem d_Reader_takesSign_8 : decode M_Reader_takesSign.2.1 8 = .ok (.iload_n 1, 1) := by decide +kernel
theorem d_Reader_takesSign_9 : decode M_Reader_takesSign.2.1 9 = .ok (.if_icmp .eq 5, 3) := by decide +kernel
theorem d_Reader_takesSign_14 : decode M_Reader_takesSign.2.1 14 = .ok (.aload_n 0, 1) := by decide +kernel
theorem d_Reader_takesSign_15 : decode M_Reader_takesSign.2.1 15 = .ok (.dup, 1) := by decide +kernel
theorem d_Reader_takesSign_16 : decode M_Reader_takesSign.2.1 16 = .ok (.getfield 25, 3) := by decide +kernel
theorem d_Reader_takesSign_19 : decode M_Reader_takesSign.2.1 19 = .ok (.iconst 1, 1) := by decide +kernel
theorem d_Reader_takesSign_20 : decode M_Reader_takesSign.2.1 20 = .ok (.iadd, 1) := by decide +kernel
theorem d_Reader_takesSign_21 : decode M_Reader_takesSign.2.1 21 = .ok (.putfield 25, 3) := by decide +kernel
theorem d_Reader_takesSign_24 : decode M_Reader_takesSign.2.1 24 = .ok (.iconst 1, 1) := by decide +kernel
theorem d_Reader_takesSign_25 : decode M_Reader_takesSign.2.1 25 = .ok (.ireturn, 1) := by decide +kernel
theorem d_Reader_takesSign_12 : decode M_Reader_takesSign.2.1 12 = .ok (.iconst 0, 1) := by decide +kernel
theorem d_Reader_takesSign_13 : decode M_Reader_takesSign.2.1 13 = .ok (.ireturn, 1) := by decide +kernel
abbrev y_Reader_takesWord : MethodName := ⟨"MarkerText$Reader", "takesWord", "(Ljava/lang/String;)Z"⟩
abbrev M_Reader_takesWord : XMt := (y_Reader_takesWord, prog_10_method_14_code, 2, (some .boolean))
theorem d_Reader_takesWord_0 : decode M_Reader_takesWord.2.1 0 = .ok (.aload_n 0, 1) := by decide +kernel
theorem d_Reader_takesWord_1 : decode M_Reader_takesWord.2.1 1 = .ok (.invokevirtual 49, 3) := by decide +kernel
theorem d_Reader_takesWord_4 : decode M_Reader_takesWord.2.1 4 = .ok (.aload_n 0, 1) := by decide +kernel
theorem d_Reader_takesWord_5 : decode M_Reader_takesWord.2.1 5 = .ok (.invokevirtual 92, 3) := by decide +kernel
theorem xw_901 : (Jvm.Cond.code ({ cls := "MarkerText$Reader", name := "wordHere", desc := "()Ljava/lang/String;" } : Jvm.MethodName) prog_10_method_13_code (2 : Nat) (Option.some (Jvm.ClassFile.FieldType.object "java/lang/String"))) ∈ xT := xT_at 901 (by decide +kernel) (by decide +kernel)
theorem xcb_Reader_wordHere : xcb M_Reader_wordHere 0 := ⟨xw_901, xw_23, by decide, by decide, by decide, by decide +kernel⟩
theorem xw_900 : (Jvm.Cond.instanceMethod ({ cls := "MarkerText$Reader", name := "wordHere", desc := "()Ljava/lang/String;" } : Jvm.MethodName)) ∈ xT := xT_at 900 (by decide +kernel) (by decide +kernel)
theorem xw_898 : (Jvm.Cond.methodLink "MarkerText$Reader" (92 : Nat) ({ cls := "MarkerText$Reader", name := "wordHere", desc := "()Ljava/lang/String;" } : Jvm.MethodName)) ∈ xT := xT_at 898 (by decide +kernel) (by decide +kernel)
theorem xsel_Reader_wordHere : Cond.selects "MarkerText$Reader" y_Reader_wordHere y_Reader_wordHere ∈ xT := xT_sel (q := (y_Reader_wordHere, 7)) (by decide +kernel) (by decide +kernel)
theorem xcv_Reader_92_Reader : xCV "MarkerText$Reader" 92 "MarkerText$Reader" M_Reader_wordHere 0 := ⟨xcb_Reader_wordHere, xw_900, Or.inl ⟨xw_898, Or.inl xsel_Reader_wordHere⟩⟩
theorem d_Reader_takesWord_8 : decode M_Reader_takesWord.2.1 8 = .ok (.aload_n 1, 1) := by decide +kernel
theorem d_Reader_takesWord_9 : decode M_Reader_takesWord.2.1 9 = .ok (.invokevirtual 97, 3) := by decide +kernel
theorem xw_927 : (Jvm.Cond.methodLink "MarkerText$Reader" (97 : Nat) ({ cls := "java/lang/String", name := "equals", desc := "(Ljava/lang/Object;)Z" } : Jvm.MethodName)) ∈ xT := xT_at 927 (by decide +kernel) (by decide +kernel)
theorem xcv_Reader_97_String : xCV "MarkerText$Reader" 97 "java/lang/String" M_String_equals 1 := ⟨xcb_String_equals, xw_679, Or.inl ⟨xw_927, Or.inl xw_680⟩⟩
theorem d_Reader_takesWord_12 : decode M_Reader_takesWord.2.1 12 = .ok (.ifCond .ne 5, 3) := by decide +kernel
theorem d_Reader_takesWord_17 : decode M_Reader_takesWord.2.1 17 = .ok (.aload_n 0, 1) := by decide +kernel
theorem d_Reader_takesWord_18 : decode M_Reader_takesWord.2.1 18 = .ok (.dup, 1) := by decide +kernel
theorem d_Reader_takesWord_19 : decode M_Reader_takesWord.2.1 19 = .ok (.getfield 25, 3) := by decide +kernel
theorem d_Reader_takesWord_22 : decode M_Reader_takesWord.2.1 22 = .ok (.aload_n 1, 1) := by decide +kernel
theorem d_Reader_takesWord_23 : decode M_Reader_takesWord.2.1 23 = .ok (.invokevirtual 52, 3) := by decide +kernel
theorem d_Reader_takesWord_26 : decode M_Reader_takesWord.2.1 26 = .ok (.iadd, 1) := by decide +kernel
theorem d_Reader_takesWord_27 : decode M_Reader_takesWord.2.1 27 = .ok (.putfield 25, 3) := by decide +kernel
theorem d_Reader_takesWord_30 : decode M_Reader_takesWord.2.1 30 = .ok (.iconst 1, 1) := by decide +kernel
theorem d_Reader_takesWord_31 : decode M_Reader_takesWord.2.1 31 = .ok (.ireturn, 1) := by decide +kernel
theorem d_Reader_takesWord_15 : decode M_Reader_takesWord.2.1 15 = .ok (.iconst 0, 1) := by decide +kernel
theorem d_Reader_takesWord_16 : decode M_Reader_takesWord.2.1 16 = .ok (.ireturn, 1) := by decide +kernel
end
section RD2
variable {l : Launch} {G : XG} {h : XH} {c n d : Nat}
/-! levels are below 2^63 -/
def vI (s : Nat × Nat × Nat × Nat) : Prop := s.1 < 1000 ^ (s.2.2.2 - 1) ∧ s.2.1 < 10 ^ s.2.2.1 ∧ s.2.2.1 ≤ 3 ∧ 1 ≤ s.2.2.2 ∧ s.2.2.2 ≤ 3
theorem vI_num {s : Nat × Nat × Nat × Nat} (hs : vI s) : s.2.1 < 1000 := Nat.lt_of_lt_of_le hs.2.1 (Nat.pow_le_pow_right (by omega) hs.2.2.1)
theorem vst_I {s s' : Nat × Nat × Nat × Nat} {ch : Nat} (hs : vI s) (h' : vst s ch = some s') : vI s' := by
  have hn := vI_num hs
  unfold vst at h'
  split at h'
  · rename_i hA
    cases h'
    refine ⟨?_, by show 0 < 10 ^ 0; decide, by show 0 ≤ 3; omega, by show 1 ≤ s.2.2.2 + 1; omega, by show s.2.2.2 + 1 ≤ 3; omega⟩
    show s.1 * 1000 + s.2.1 < 1000 ^ (s.2.2.2 + 1 - 1)
    obtain ⟨k, hk⟩ : ∃ k, s.2.2.2 = k + 1 := ⟨s.2.2.2 - 1, by have := hs.2.2.2.1; omega⟩
    have h1 := hs.1
    rw [hk] at h1 ⊢
    simp only [Nat.add_sub_cancel] at h1 ⊢
    rw [Nat.pow_succ]
    omega
  · split at h'
    · rename_i hB
      cases h'
      refine ⟨hs.1, ?_, by show s.2.2.1 + 1 ≤ 3; omega, hs.2.2.2.1, hs.2.2.2.2⟩
      show s.2.1 * 10 + (ch - 48) < 10 ^ (s.2.2.1 + 1)
      have := hs.2.1
      rw [Nat.pow_succ]
      omega
    · cases h'
theorem vrun_I : ∀ (u : List Nat) {s s' : Nat × Nat × Nat × Nat}, vI s → vrun u s = some s' → vI s'
  | [], s, s', hs, h' => by cases h'; exact hs
  | ch :: u, s, s', hs, h' => by
    simp only [vrun] at h'
    cases hv : vst s ch with
    | none => rw [hv] at h'; cases h'
    | some s1 => rw [hv] at h'; exact vrun_I u (vst_I hs hv) h'
theorem vsl_lt (u : List Nat) : vsl u < 2 ^ 63 := by
  unfold vsl
  cases hv : vrun u (0, 0, 0, 1) with
  | none => decide
  | some s =>
    have hI := vrun_I u ⟨by decide, by decide, by decide, by decide, by decide⟩ hv
    have hn := vI_num hI
    show (if s.2.2.1 = 0 then 0 else 2 * ((s.1 * 1000 + s.2.1) * 1000 ^ (3 - s.2.2.2)) + 2) < 2 ^ 63
    split
    · decide
    · have h1 := hI.1
      obtain ⟨-, -, -, h4, h5⟩ := hI
      have : (s.1 * 1000 + s.2.1) * 1000 ^ (3 - s.2.2.2) < 10 ^ 9 := by
        rcases (show s.2.2.2 = 1 ∨ s.2.2.2 = 2 ∨ s.2.2.2 = 3 by omega) with e | e | e <;> rw [e] at h1 ⊢ <;> simp at h1 ⊢ <;> omega
      omega
theorem txl_lt {u : List Nat} (hu : xasc u) : txl u < 2 ^ 63 := by
  unfold txl
  split
  · have := tkey_lt hu 8
    have h2 : (38 : Nat) ^ 8 < 2 ^ 61 := by decide
    omega
  · decide
theorem klv_lt {kd : Nat} {u : List Nat} (hu : xasc u) : klv kd u < 2 ^ 63 := by
  unfold klv
  split
  · exact vsl_lt u
  · exact txl_lt hu
/-! what a Reader and its builder become -/
abbrev xgs (C N K m m' c n c' n' : Nat) : Prop := m ≤ m' ∧ m' ≤ K ∧ c' + m ≤ c + m' + C ∧ n' + 2 * m ≤ n + 2 * m' + N
/-- C and N: what it costs beside the builder's growth -/
abbrev pR (C N K r ba va : Nat) (e : Nat × List Value) (ln : List Nat) (m : Nat) (h : XH) (c n : Nat) (h' : XH) (c' n' : Nat) : Prop := ∃ va' m', h' r = some e ∧ isB h' ba va' ln m' ∧ xfr h h' [r, ba, va] ∧ (va' = va ∨ h va' = none) ∧ xgs C N K m m' c n c' n'
theorem xfr.tr3 {r ba va va1 : Nat} {h1 h2 : XH} (f1 : xfr h h1 [r, ba, va]) (e1 : va1 = va ∨ h va1 = none) (f2 : xfr h1 h2 [r, ba, va1]) : xfr h h2 [r, ba, va] := f1.tr f2 (fun q hq hq2 => by
  simp only [List.mem_cons, List.not_mem_nil, or_false] at hq2 ⊢
  rcases hq2 with rfl | rfl | rfl
  · exact Or.inl rfl
  · exact Or.inr (Or.inl rfl)
  · rcases e1 with rfl | e1
    · exact Or.inr (Or.inr rfl)
    · exact absurd e1 hq)
theorem pR.tr {C1 N1 C2 N2 K r ba va va1 m m1 c1 n1 c2 n2 : Nat} {e1 e2 : Nat × List Value} {t1 t2 : List Nat} {h1 h2 : XH} (hr : h1 r = some e1) (hb : isB h1 ba va1 t1 m1) (f1 : xfr h h1 [r, ba, va]) (w1 : va1 = va ∨ h va1 = none) (g1 : xgs C1 N1 K m m1 c n c1 n1) (p : pR C2 N2 K r ba va1 e2 t2 m1 h1 c1 n1 h2 c2 n2) : pR (C1 + C2) (N1 + N2) K r ba va e2 t2 m h c n h2 c2 n2 := by
  obtain ⟨va2, m2, p0, p1, p2, p3, p4⟩ := p
  refine ⟨va2, m2, p0, p1, f1.tr3 w1 p2, ?_, by omega⟩
  rcases p3 with rfl | p3
  · exact w1
  · exact Or.inr (f1.2 _ p3)
theorem pR.mono {C N C' N' K r ba va m c' n' : Nat} {e : Nat × List Value} {t : List Nat} {h' : XH} (p : pR C N K r ba va e t m h c n h' c' n') (hC : C ≤ C') (hN : N ≤ N') : pR C' N' K r ba va e t m h c n h' c' n' := by
  obtain ⟨va', m', p0, p1, p2, p3, p4⟩ := p
  exact ⟨va', m', p0, p1, p2, p3, by omega⟩
theorem isB.neR {r ba va m : Nat} {vs : List Value} {t : List Nat} (hb : isB h ba va t m) (hr : h r = some (k_Reader, vs)) : r ∉ [ba, va] := by
  obtain ⟨z, bs, e1, e2, -⟩ := hb
  intro y
  simp only [List.mem_cons, List.not_mem_nil, or_false] at y
  rcases y with rfl | rfl
  · exact xne hr e1 (by decide) rfl
  · exact xne hr e2 (by decide) rfl
theorem pR.ofB {K r ba va m c' n' : Nat} {vs : List Value} {t t' : List Nat} {h' : XH} (hr : h r = some (k_Reader, vs)) (hb : isB h ba va t m) (p : pB K ba va t' m h c n h' c' n') : pR 0 0 K r ba va (k_Reader, vs) t' m h c n h' c' n' := by
  obtain ⟨va', m', p1, p2, p3, p4⟩ := p
  exact ⟨va', m', p2.1 _ _ hr (hb.neR hr), p1, p2.mono (fun q hq => List.mem_cons_of_mem _ hq), p3, by omega⟩
theorem pR.ofU {K r ba va m : Nat} {vs : List Value} {e : Nat × List Value} {t : List Nat} (hr : h r = some (k_Reader, vs)) (hb : isB h ba va t m) (hm : m ≤ K) : pR 0 0 K r ba va e t m h c n (xup h r e) c n := by
  have hf : xfr h (xup h r e) [r] := xfr.rf.up (Or.inl (by simp))
  have hn := hb.neR hr
  simp only [List.mem_cons, List.not_mem_nil, or_false, not_or] at hn
  refine ⟨va, m, xup_self, hb.fr hf ?_ ?_, hf.mono (by simp), Or.inl rfl, by omega⟩
  · simpa using Ne.symm hn.1
  · simpa using Ne.symm hn.2
theorem pR.ofN {C N K r ba va m c' n' : Nat} {e : Nat × List Value} {t : List Nat} {h' : XH} (hr : h r = some e) (hb : isB h ba va t m) (hm : m ≤ K) (hf : xfr h h' []) (hc : c' ≤ c + C) (hn : n' ≤ n + N) : pR C N K r ba va e t m h c n h' c' n' :=
  ⟨va, m, hf.1 _ _ hr (by simp), hb.fr hf (by simp) (by simp), hf.mono (by simp), Or.inl rfl, by omega⟩
theorem isB.kR {r ba va m : Nat} {vs : List Value} {t : List Nat} {ks : List Nat} (hb : isB h ba va t m) (hr : h r = some (k_Reader, vs)) (h0 : k_Reader ∉ ks) (h1 : k_StringBuilder ∉ ks) (h2 : k_abyte ∉ ks) : xno h [r, ba, va] ks := (xno1 hr h0).ap (hb.k1 h1 h2)
/-! takesSign, takesWord -/
def tkS (t : List Nat) (p ch : Nat) : Nat := if chr t (skp t p) = ch then skp t p + 1 else skp t p
theorem skp_le {t : List Nat} {p : Nat} (hp : p ≤ t.length) : skp t p ≤ t.length := scn_le hp
theorem tkS_le {t : List Nat} {p ch : Nat} (hp : p ≤ t.length) (h0 : 0 < ch) : tkS t p ch ≤ t.length := by
  have := skp_le hp
  unfold tkS
  split
  · rename_i hc
    by_cases hq : skp t p < t.length
    · omega
    · rw [chr_out (by omega)] at hc; omega
  · exact this
theorem c_takesSign (hG : xGk G) (hd : 5 ≤ d) {r ta na la ba p o tc ch : Nat} {t : List Nat} (hr : h r = some (rdO ta na la ba p o tc)) (hS : isS G h ta t) (hl : t.length < 2 ^ 20) (hp : p ≤ t.length) (hch : ch < 128) : XM l G d M_Reader_takesSign [.ref r, .int (nI ch)] h c n (fun v h' c' n' => v = some (.int (bI (decide (chr t (skp t p) = ch)))) ∧ h' = xup h r (rdO ta na la ba (tkS t p ch) o tc) ∧ c' = c ∧ n' = n) := by
  obtain ⟨d, rfl⟩ : ∃ q, d = q + 1 := ⟨d - 1, by omega⟩
  refine XM.of (by decide +kernel) (Nat.le_of_ble_eq_true rfl) ?_
  have hq := skp_le hp
  refine x_aload_n d_Reader_takesSign_0 rfl rfl ?_
  refine x_callV (As := []) (k := k_Reader) rfl xcv_Reader_49_Reader (Or.inl hr) (c_skipBlanks hG (by omega) hr hS hl hp) rfl rfl (Nat.le_of_ble_eq_true rfl) d_Reader_takesSign_1 ?_
  rintro v h' c' n' ⟨rfl, rfl, rfl, rfl⟩
  refine x_aload_n d_Reader_takesSign_4 rfl rfl ?_
  refine x_callV (As := []) (k := k_Reader) rfl xcv_Reader_101_Reader (Or.inl xup_self) (c_characterHere hG (by omega) xup_self (hS.upR hr (by decide)) hl hq) rfl rfl (Nat.le_of_ble_eq_true rfl) d_Reader_takesSign_5 ?_
  rintro v h' c' n' ⟨rfl, rfl, rfl, rfl⟩
  have hlt := chr_lt (p := skp t p) hS.asc
  refine x_iload_n d_Reader_takesSign_8 rfl ?_
  unfold tkS
  by_cases he : chr t (skp t p) = ch
  · rw [if_pos he]
    refine x_icmp_eq (tgt := 14) d_Reader_takesSign_9 (by decide) (fun _ => ?_) (fun hn => absurd (by rw [he]) hn)
    refine x_aload_n d_Reader_takesSign_14 rfl rfl ?_
    refine x_dup d_Reader_takesSign_15 rfl ?_
    refine x_get xf_Reader_25_Reader (Or.inl xup_self) rfl d_Reader_takesSign_16 ?_
    refine x_iconst (v := 1) d_Reader_takesSign_19 (by decide) ?_
    refine x_iadd d_Reader_takesSign_20 ?_
    refine x_top (w := .int (nI (skp t p + 1))) (by rw [show (1 : Int32) = nI 1 from rfl, nI_add]) ?_
    refine x_put xf_Reader_25_Reader xp_Reader_4 rfl rfl xup_self rfl rfl d_Reader_takesSign_21 ?_
    refine x_iconst (v := 1) d_Reader_takesSign_24 (by decide) ?_
    refine x_zret d_Reader_takesSign_25 rfl rfl ?_
    exact ⟨by rw [decide_eq_true he]; rfl, by rw [xup_up]; rfl, rfl, rfl⟩
  · rw [if_neg he]
    refine x_icmp_eq (tgt := 14) d_Reader_takesSign_9 (by decide) (fun ht => absurd ht (fun z => he ((nI_eq (by omega) (by omega)).mp z))) (fun _ => ?_)
    refine x_iconst (v := 0) d_Reader_takesSign_12 (by decide) ?_
    refine x_zret d_Reader_takesSign_13 rfl rfl ?_
    exact ⟨by rw [decide_eq_false he]; rfl, rfl, rfl, rfl⟩
def tkW (t : List Nat) (p : Nat) (w : List Nat) : Nat := if wrd t (skp t p) = w then skp t p + w.length else skp t p
theorem wrd_le {t : List Nat} {p : Nat} (hp : p ≤ t.length) : p + (wrd t p).length ≤ t.length := scn_le hp
theorem tkW_le {t : List Nat} {p : Nat} {w : List Nat} (hp : p ≤ t.length) : tkW t p w ≤ t.length := by
  have := skp_le hp
  unfold tkW
  split
  · rename_i hc
    rw [← hc]
    exact wrd_le this
  · exact this
theorem c_takesWord (hG : xGk G) (hd : 6 ≤ d) {r ta na la ba p o tc wa : Nat} {t w : List Nat} (hr : h r = some (rdO ta na la ba p o tc)) (hS : isS G h ta t) (hl : t.length < 2 ^ 20) (hp : p ≤ t.length) (hw : isS G h wa w) (hwl : w.length < 2 ^ 20) (hc : c + 2 ≤ xCB) (hn : n + t.length + 4 ≤ xSB) : XM l G d M_Reader_takesWord [.ref r, .ref wa] h c n (fun v h' c' n' => v = some (.int (bI (decide (wrd t (skp t p) = w)))) ∧ h' r = some (rdO ta na la ba (tkW t p w) o tc) ∧ xfr h h' [r] ∧ c' ≤ c + 2 ∧ n' ≤ n + t.length + 4) := by
  obtain ⟨d, rfl⟩ : ∃ q, d = q + 1 := ⟨d - 1, by omega⟩
  refine XM.of (by decide +kernel) (Nat.le_of_ble_eq_true rfl) ?_
  have hq := skp_le hp
  have hwl' := wrd_le hq
  refine x_aload_n d_Reader_takesWord_0 rfl rfl ?_
  refine x_callV (As := []) (k := k_Reader) rfl xcv_Reader_49_Reader (Or.inl hr) (c_skipBlanks hG (by omega) hr hS hl hp) rfl rfl (Nat.le_of_ble_eq_true rfl) d_Reader_takesWord_1 ?_
  rintro v h' c' n' ⟨rfl, rfl, rfl, rfl⟩
  refine x_aload_n d_Reader_takesWord_4 rfl rfl ?_
  refine x_callV (As := []) (k := k_Reader) rfl xcv_Reader_92_Reader (Or.inl xup_self) (c_wordHere hG (by omega) xup_self (hS.upR hr (by decide)) hl hq hc hn) rfl rfl (Nat.le_of_ble_eq_true rfl) d_Reader_takesWord_5 ?_
  rintro v h' c' n' ⟨q, rfl, g1, g2, g3, g4⟩
  obtain ⟨vq, eq, hqa, -⟩ := id g1
  have hw' : isS G h' wa w := (hw.upR hr (by decide)).fr g2 (fun _ z => by cases z)
  obtain ⟨vw, ew, hwa, -⟩ := id hw'
  have hr' : h' r = some (rdO ta na la ba (skp t p) o tc) := g2.1 _ _ xup_self (by simp)
  have hf : xfr h h' [r] := (xfr.rf.up (Or.inl (by simp)) : xfr h (xup h r _) [r]).tr g2 (fun _ _ z => by cases z)
  refine x_aload_n d_Reader_takesWord_8 rfl rfl ?_
  refine x_callV (As := [_]) (k := k_String) rfl xcv_Reader_97_String hqa (c_String_equals (by omega) g1 hw' (by omega) (by omega)) rfl rfl (Nat.le_of_ble_eq_true rfl) d_Reader_takesWord_9 ?_
  rintro v h2 c2 n2 ⟨rfl, rfl, rfl, rfl⟩
  by_cases he : wrd t (skp t p) = w
  · rw [show tkW t p w = skp t p + w.length from if_pos he]
    refine x_if_ne (tgt := 17) d_Reader_takesWord_12 (by decide) (fun _ => ?_) (fun hn => absurd hn (by rw [if_pos he]; decide))
    refine x_aload_n d_Reader_takesWord_17 rfl rfl ?_
    refine x_dup d_Reader_takesWord_18 rfl ?_
    refine x_get xf_Reader_25_Reader (Or.inl hr') rfl d_Reader_takesWord_19 ?_
    refine x_aload_n d_Reader_takesWord_22 rfl rfl ?_
    refine x_callV (As := []) (k := k_String) rfl xcv_Reader_52_String hwa (c_String_length (by omega) hw') rfl rfl (Nat.le_of_ble_eq_true rfl) d_Reader_takesWord_23 ?_
    rintro v h2 c2 n2 ⟨rfl, rfl, rfl, rfl⟩
    refine x_iadd d_Reader_takesWord_26 ?_
    refine x_top (w := .int (nI (skp t p + w.length))) (by rw [nI_add]) ?_
    refine x_put xf_Reader_25_Reader xp_Reader_4 rfl rfl hr' rfl rfl d_Reader_takesWord_27 ?_
    refine x_iconst (v := 1) d_Reader_takesWord_30 (by decide) ?_
    refine x_zret d_Reader_takesWord_31 rfl rfl ?_
    exact ⟨by rw [decide_eq_true he]; rfl, xup_self, hf.up (Or.inl (by simp)), g3, by omega⟩
  · rw [show tkW t p w = skp t p from if_neg he]
    refine x_if_ne (tgt := 17) d_Reader_takesWord_12 (by decide) (fun ht => absurd (by rw [if_neg he]) ht) (fun _ => ?_)
    refine x_iconst (v := 0) d_Reader_takesWord_15 (by decide) ?_
    refine x_zret d_Reader_takesWord_16 rfl rfl ?_
    exact ⟨by rw [decide_eq_false he]; rfl, hr', hf, g3, by omega⟩
end RD2
end
section
section
abbrev y_Reader_readOperator : MethodName := ⟨"MarkerText$Reader", "readOperator", "()I"⟩
abbrev M_Reader_readOperator : XMt := (y_Reader_readOperator, prog_10_method_7_code, 4, (some .int))
theorem d_Reader_readOperator_89 : decode M_Reader_readOperator.2.1 89 = .ok (.iload_n 2, 1) := by decide +kernel
theorem d_Reader_readOperator_90 : decode M_Reader_readOperator.2.1 90 = .ok (.ifCond .ne 17, 3) := by decide +kernel
theorem d_Reader_readOperator_93 : decode M_Reader_readOperator.2.1 93 = .ok (.iload_n 1, 1) := by decide +kernel
theorem d_Reader_readOperator_94 : decode M_Reader_readOperator.2.1 94 = .ok (.bipush 61, 2) := by decide +kernel
theorem d_Reader_readOperator_96 : decode M_Reader_readOperator.2.1 96 = .ok (.if_icmp .eq 9, 3) := by decide +kernel
theorem d_Reader_readOperator_105 : decode M_Reader_readOperator.2.1 105 = .ok (.iconst (-1), 1) := by decide +kernel
theorem d_Reader_readOperator_106 : decode M_Reader_readOperator.2.1 106 = .ok (.ireturn, 1) := by decide +kernel
theorem d_Reader_readOperator_107 : decode M_Reader_readOperator.2.1 107 = .ok (.iload_n 1, 1) := by decide +kernel
theorem d_Reader_readOperator_108 : decode M_Reader_readOperator.2.1 108 = .ok (.bipush 61, 2) := by decide +kernel
theorem d_Reader_readOperator_110 : decode M_Reader_readOperator.2.1 110 = .ok (.if_icmp .ne 5, 3) := by decide +kernel
theorem d_Reader_readOperator_113 : decode M_Reader_readOperator.2.1 113 = .ok (.iconst 2, 1) := by decide +kernel
theorem d_Reader_readOperator_114 : decode M_Reader_readOperator.2.1 114 = .ok (.ireturn, 1) := by decide +kernel
theorem d_Reader_readOperator_99 : decode M_Reader_readOperator.2.1 99 = .ok (.iload_n 1, 1) := by decide +kernel
theorem d_Reader_readOperator_100 : decode M_Reader_readOperator.2.1 100 = .ok (.bipush 33, 2) := by decide +kernel
theorem d_Reader_readOperator_102 : decode M_Reader_readOperator.2.1 102 = .ok (.if_icmp .ne 5, 3) := by decide +kernel
theorem d_Reader_readOperator_115 : decode M_Reader_readOperator.2.1 115 = .ok (.iload_n 1, 1) := by decide +kernel
theorem d_Reader_readOperator_116 : decode M_Reader_readOperator.2.1 116 = .ok (.bipush 33, 2) := by decide +kernel
theorem d_Reader_readOperator_118 : decode M_Reader_readOperator.2.1 118 = .ok (.if_icmp .ne 6, 3) := by decide +kernel
theorem d_Reader_readOperator_121 : decode M_Reader_readOperator.2.1 121 = .ok (.bipush 13, 2) := by decide +kernel
theorem d_Reader_readOperator_123 : decode M_Reader_readOperator.2.1 123 = .ok (.ireturn, 1) := by decide +kernel
theorem d_Reader_readOperator_124 : decode M_Reader_readOperator.2.1 124 = .ok (.iload_n 1, 1) := by decide +kernel
theorem d_Reader_readOperator_125 : decode M_Reader_readOperator.2.1 125 = .ok (.bipush 60, 2) := by decide +kernel
theorem d_Reader_readOperator_127 : decode M_Reader_readOperator.2.1 127 = .ok (.if_icmp .ne 7, 3) := by decide +kernel
theorem d_Reader_readOperator_130 : decode M_Reader_readOperator.2.1 130 = .ok (.iconst 1, 1) := by decide +kernel
theorem d_Reader_readOperator_131 : decode M_Reader_readOperator.2.1 131 = .ok (.goto 4, 3) := by decide +kernel
theorem d_Reader_readOperator_135 : decode M_Reader_readOperator.2.1 135 = .ok (.istore_n 3, 1) := by decide +kernel
theorem d_Reader_readOperator_136 : decode M_Reader_readOperator.2.1 136 = .ok (.iload_n 2, 1) := by decide +kernel
theorem d_Reader_readOperator_137 : decode M_Reader_readOperator.2.1 137 = .ok (.ifCond .eq 9, 3) := by decide +kernel
theorem d_Reader_readOperator_146 : decode M_Reader_readOperator.2.1 146 = .ok (.iload_n 3, 1) := by decide +kernel
theorem d_Reader_readOperator_147 : decode M_Reader_readOperator.2.1 147 = .ok (.ireturn, 1) := by decide +kernel
theorem d_Reader_readOperator_140 : decode M_Reader_readOperator.2.1 140 = .ok (.iload_n 3, 1) := by decide +kernel
theorem d_Reader_readOperator_141 : decode M_Reader_readOperator.2.1 141 = .ok (.iconst 2, 1) := by decide +kernel
theorem d_Reader_readOperator_142 : decode M_Reader_readOperator.2.1 142 = .ok (.ior, 1) := by decide +kernel
theorem d_Reader_readOperator_143 : decode M_Reader_readOperator.2.1 143 = .ok (.goto 4, 3) := by decide +kernel
theorem d_Reader_readOperator_134 : decode M_Reader_readOperator.2.1 134 = .ok (.iconst 4, 1) := by decide +kernel
theorem d_Reader_readOperator_31 : decode M_Reader_readOperator.2.1 31 = .ok (.aload_n 0, 1) := by decide +kernel
theorem d_Reader_readOperator_32 : decode M_Reader_readOperator.2.1 32 = .ok (.dup, 1) := by decide +kernel
theorem d_Reader_readOperator_33 : decode M_Reader_readOperator.2.1 33 = .ok (.getfield 25, 3) := by decide +kernel
theorem d_Reader_readOperator_36 : decode M_Reader_readOperator.2.1 36 = .ok (.iconst 1, 1) := by decide +kernel
theorem d_Reader_readOperator_37 : decode M_Reader_readOperator.2.1 37 = .ok (.iadd, 1) := by decide +kernel
theorem d_Reader_readOperator_38 : decode M_Reader_readOperator.2.1 38 = .ok (.putfield 25, 3) := by decide +kernel
theorem d_Reader_readOperator_41 : decode M_Reader_readOperator.2.1 41 = .ok (.aload_n 0, 1) := by decide +kernel
theorem d_Reader_readOperator_42 : decode M_Reader_readOperator.2.1 42 = .ok (.getfield 21, 3) := by decide +kernel
theorem xw_860 : (Jvm.Cond.fieldLink "MarkerText$Reader" (21 : Nat) "MarkerText$Reader" "line" "Ljava/lang/StringBuilder;") ∈ xT := xT_at 860 (by decide +kernel) (by decide +kernel)
theorem xf_Reader_21_Reader : xF "MarkerText$Reader" 21 k_Reader 3 := ⟨_, _, _, "MarkerText$Reader", rfl, by decide, Or.inl xw_860, Or.inl rfl⟩
theorem d_Reader_readOperator_45 : decode M_Reader_readOperator.2.1 45 = .ok (.iload_n 1, 1) := by decide +kernel
theorem d_Reader_readOperator_46 : decode M_Reader_readOperator.2.1 46 = .ok (.invokevirtual 143, 3) := by decide +kernel
theorem xw_980 : (Jvm.Cond.methodLink "MarkerText$Reader" (143 : Nat) ({ cls := "java/lang/StringBuilder", name := "append", desc := "(C)Ljava/lang/StringBuilder;" } : Jvm.MethodName)) ∈ xT := xT_at 980 (by decide +kernel) (by decide +kernel)
theorem xcv_Reader_143_SB : xCV "MarkerText$Reader" 143 "java/lang/StringBuilder" M_SB_append_C 1 := ⟨xcb_SB_append_C, xw_180, Or.inl ⟨xw_980, Or.inl xw_181⟩⟩
theorem d_Reader_readOperator_49 : decode M_Reader_readOperator.2.1 49 = .ok (.pop, 1) := by decide +kernel
theorem d_Reader_readOperator_50 : decode M_Reader_readOperator.2.1 50 = .ok (.aload_n 0, 1) := by decide +kernel
theorem d_Reader_readOperator_51 : decode M_Reader_readOperator.2.1 51 = .ok (.invokevirtual 101, 3) := by decide +kernel
theorem d_Reader_readOperator_54 : decode M_Reader_readOperator.2.1 54 = .ok (.bipush 61, 2) := by decide +kernel
theorem d_Reader_readOperator_56 : decode M_Reader_readOperator.2.1 56 = .ok (.if_icmp .ne 7, 3) := by decide +kernel
theorem d_Reader_readOperator_59 : decode M_Reader_readOperator.2.1 59 = .ok (.iconst 1, 1) := by decide +kernel
theorem d_Reader_readOperator_60 : decode M_Reader_readOperator.2.1 60 = .ok (.goto 4, 3) := by decide +kernel
theorem d_Reader_readOperator_64 : decode M_Reader_readOperator.2.1 64 = .ok (.istore_n 2, 1) := by decide +kernel
theorem d_Reader_readOperator_65 : decode M_Reader_readOperator.2.1 65 = .ok (.iload_n 2, 1) := by decide +kernel
theorem d_Reader_readOperator_66 : decode M_Reader_readOperator.2.1 66 = .ok (.ifCond .eq 23, 3) := by decide +kernel
theorem d_Reader_readOperator_69 : decode M_Reader_readOperator.2.1 69 = .ok (.aload_n 0, 1) := by decide +kernel
theorem d_Reader_readOperator_70 : decode M_Reader_readOperator.2.1 70 = .ok (.dup, 1) := by decide +kernel
theorem d_Reader_readOperator_71 : decode M_Reader_readOperator.2.1 71 = .ok (.getfield 25, 3) := by decide +kernel
theorem d_Reader_readOperator_74 : decode M_Reader_readOperator.2.1 74 = .ok (.iconst 1, 1) := by decide +kernel
theorem d_Reader_readOperator_75 : decode M_Reader_readOperator.2.1 75 = .ok (.iadd, 1) := by decide +kernel
theorem d_Reader_readOperator_76 : decode M_Reader_readOperator.2.1 76 = .ok (.putfield 25, 3) := by decide +kernel
theorem d_Reader_readOperator_79 : decode M_Reader_readOperator.2.1 79 = .ok (.aload_n 0, 1) := by decide +kernel
theorem d_Reader_readOperator_80 : decode M_Reader_readOperator.2.1 80 = .ok (.getfield 21, 3) := by decide +kernel
theorem d_Reader_readOperator_83 : decode M_Reader_readOperator.2.1 83 = .ok (.bipush 61, 2) := by decide +kernel
theorem d_Reader_readOperator_85 : decode M_Reader_readOperator.2.1 85 = .ok (.invokevirtual 143, 3) := by decide +kernel
theorem d_Reader_readOperator_88 : decode M_Reader_readOperator.2.1 88 = .ok (.pop, 1) := by decide +kernel
theorem d_Reader_readOperator_63 : decode M_Reader_readOperator.2.1 63 = .ok (.iconst 0, 1) := by decide +kernel
theorem d_Reader_readOperator_0 : decode M_Reader_readOperator.2.1 0 = .ok (.aload_n 0, 1) := by decide +kernel
theorem d_Reader_readOperator_1 : decode M_Reader_readOperator.2.1 1 = .ok (.invokevirtual 101, 3) := by decide +kernel
theorem d_Reader_readOperator_4 : decode M_Reader_readOperator.2.1 4 = .ok (.istore_n 1, 1) := by decide +kernel
theorem d_Reader_readOperator_5 : decode M_Reader_readOperator.2.1 5 = .ok (.iload_n 1, 1) := by decide +kernel
theorem d_Reader_readOperator_6 : decode M_Reader_readOperator.2.1 6 = .ok (.bipush 61, 2) := by decide +kernel
theorem d_Reader_readOperator_8 : decode M_Reader_readOperator.2.1 8 = .ok (.if_icmp .eq 23, 3) := by decide +kernel
theorem d_Reader_readOperator_11 : decode M_Reader_readOperator.2.1 11 = .ok (.iload_n 1, 1) := by decide +kernel
theorem d_Reader_readOperator_12 : decode M_Reader_readOperator.2.1 12 = .ok (.bipush 33, 2) := by decide +kernel
theorem d_Reader_readOperator_14 : decode M_Reader_readOperator.2.1 14 = .ok (.if_icmp .eq 17, 3) := by decide +kernel
theorem d_Reader_readOperator_17 : decode M_Reader_readOperator.2.1 17 = .ok (.iload_n 1, 1) := by decide +kernel
theorem d_Reader_readOperator_18 : decode M_Reader_readOperator.2.1 18 = .ok (.bipush 60, 2) := by decide +kernel
theorem d_Reader_readOperator_20 : decode M_Reader_readOperator.2.1 20 = .ok (.if_icmp .eq 11, 3) := by decide +kernel
theorem d_Reader_readOperator_23 : decode M_Reader_readOperator.2.1 23 = .ok (.iload_n 1, 1) := by decide +kernel
theorem d_Reader_readOperator_24 : decode M_Reader_readOperator.2.1 24 = .ok (.bipush 62, 2) := by decide +kernel
theorem d_Reader_readOperator_26 : decode M_Reader_readOperator.2.1 26 = .ok (.if_icmp .eq 5, 3) := by decide +kernel
theorem d_Reader_readOperator_29 : decode M_Reader_readOperator.2.1 29 = .ok (.iconst (-1), 1) := by decide +kernel
theorem d_Reader_readOperator_30 : decode M_Reader_readOperator.2.1 30 = .ok (.ireturn, 1) := by decide +kernel
end
section RD3
variable {l : Launch} {G : XG} {h : XH} {c n d : Nat}
/-- an operator at a place: where it ends, what it accepts, its text -/
def opr (t : List Nat) (p : Nat) : Nat × Option Nat × List Nat :=
  if chr t p = 61 ∨ chr t p = 33 ∨ chr t p = 60 ∨ chr t p = 62 then
    if chr t (p + 1) = 61 then (p + 2, some (if chr t p = 61 then 2 else if chr t p = 33 then 13 else if chr t p = 60 then 3 else 6), [chr t p, 61])
    else (p + 1, (if chr t p = 61 then none else if chr t p = 33 then none else if chr t p = 60 then some 1 else some 4), [chr t p])
  else (p, none, [])
theorem opr_at89 {s : Nat} {r ba va K m : Nat} {P : Option Value → XH → Nat → Nat → Prop} {b : Bool} {e3 : Option Value} (hs : s = 61 ∨ s = 33 ∨ s = 60 ∨ s = 62) (hP : P (some (.int (oI (if b then some (if s = 61 then 2 else if s = 33 then 13 else if s = 60 then 3 else 6) else (if s = 61 then none else if s = 33 then none else if s = 60 then some 1 else some 4))))) h c n) : XW l G M_Reader_readOperator d 89 [some (.ref r), some (.int (nI s)), some (.int (bI b)), e3] [] h c n P := by
  rcases hs with rfl | rfl | rfl | rfl <;> cases b
  · refine x_iload_n d_Reader_readOperator_89 rfl ?_
    refine x_if_ne (tgt := 107) d_Reader_readOperator_90 (by decide) (fun ht => absurd rfl ht) (fun _ => ?_)
    refine x_iload_n d_Reader_readOperator_93 rfl ?_
    refine x_bipush (v := 61) d_Reader_readOperator_94 (by decide) ?_
    refine x_icmp_eq (tgt := 105) d_Reader_readOperator_96 (by decide) (fun _ => ?_) (fun hn => absurd rfl hn)
    refine x_iconst (v := (-1)) d_Reader_readOperator_105 (by decide) ?_
    refine x_iret d_Reader_readOperator_106 rfl ?_
    exact hP
  · refine x_iload_n d_Reader_readOperator_89 rfl ?_
    refine x_if_ne (tgt := 107) d_Reader_readOperator_90 (by decide) (fun _ => ?_) (fun hn => absurd hn (by decide))
    refine x_iload_n d_Reader_readOperator_107 rfl ?_
    refine x_bipush (v := 61) d_Reader_readOperator_108 (by decide) ?_
    refine x_icmp_ne (tgt := 115) d_Reader_readOperator_110 (by decide) (fun ht => absurd rfl ht) (fun _ => ?_)
    refine x_iconst (v := 2) d_Reader_readOperator_113 (by decide) ?_
    refine x_iret d_Reader_readOperator_114 rfl ?_
    exact hP
  · refine x_iload_n d_Reader_readOperator_89 rfl ?_
    refine x_if_ne (tgt := 107) d_Reader_readOperator_90 (by decide) (fun ht => absurd rfl ht) (fun _ => ?_)
    refine x_iload_n d_Reader_readOperator_93 rfl ?_
    refine x_bipush (v := 61) d_Reader_readOperator_94 (by decide) ?_
    refine x_icmp_eq (tgt := 105) d_Reader_readOperator_96 (by decide) (fun ht => absurd ht (by decide)) (fun _ => ?_)
    refine x_iload_n d_Reader_readOperator_99 rfl ?_
    refine x_bipush (v := 33) d_Reader_readOperator_100 (by decide) ?_
    refine x_icmp_ne (tgt := 107) d_Reader_readOperator_102 (by decide) (fun ht => absurd rfl ht) (fun _ => ?_)
    refine x_iconst (v := (-1)) d_Reader_readOperator_105 (by decide) ?_
    refine x_iret d_Reader_readOperator_106 rfl ?_
    exact hP
  · refine x_iload_n d_Reader_readOperator_89 rfl ?_
    refine x_if_ne (tgt := 107) d_Reader_readOperator_90 (by decide) (fun _ => ?_) (fun hn => absurd hn (by decide))
    refine x_iload_n d_Reader_readOperator_107 rfl ?_
    refine x_bipush (v := 61) d_Reader_readOperator_108 (by decide) ?_
    refine x_icmp_ne (tgt := 115) d_Reader_readOperator_110 (by decide) (fun _ => ?_) (fun hn => absurd hn (by decide))
    refine x_iload_n d_Reader_readOperator_115 rfl ?_
    refine x_bipush (v := 33) d_Reader_readOperator_116 (by decide) ?_
    refine x_icmp_ne (tgt := 124) d_Reader_readOperator_118 (by decide) (fun ht => absurd rfl ht) (fun _ => ?_)
    refine x_bipush (v := 13) d_Reader_readOperator_121 (by decide) ?_
    refine x_iret d_Reader_readOperator_123 rfl ?_
    exact hP
  · refine x_iload_n d_Reader_readOperator_89 rfl ?_
    refine x_if_ne (tgt := 107) d_Reader_readOperator_90 (by decide) (fun ht => absurd rfl ht) (fun _ => ?_)
    refine x_iload_n d_Reader_readOperator_93 rfl ?_
    refine x_bipush (v := 61) d_Reader_readOperator_94 (by decide) ?_
    refine x_icmp_eq (tgt := 105) d_Reader_readOperator_96 (by decide) (fun ht => absurd ht (by decide)) (fun _ => ?_)
    refine x_iload_n d_Reader_readOperator_99 rfl ?_
    refine x_bipush (v := 33) d_Reader_readOperator_100 (by decide) ?_
    refine x_icmp_ne (tgt := 107) d_Reader_readOperator_102 (by decide) (fun _ => ?_) (fun hn => absurd hn (by decide))
    refine x_iload_n d_Reader_readOperator_107 rfl ?_
    refine x_bipush (v := 61) d_Reader_readOperator_108 (by decide) ?_
    refine x_icmp_ne (tgt := 115) d_Reader_readOperator_110 (by decide) (fun _ => ?_) (fun hn => absurd hn (by decide))
    refine x_iload_n d_Reader_readOperator_115 rfl ?_
    refine x_bipush (v := 33) d_Reader_readOperator_116 (by decide) ?_
    refine x_icmp_ne (tgt := 124) d_Reader_readOperator_118 (by decide) (fun _ => ?_) (fun hn => absurd hn (by decide))
    refine x_iload_n d_Reader_readOperator_124 rfl ?_
    refine x_bipush (v := 60) d_Reader_readOperator_125 (by decide) ?_
    refine x_icmp_ne (tgt := 134) d_Reader_readOperator_127 (by decide) (fun ht => absurd rfl ht) (fun _ => ?_)
    refine x_iconst (v := 1) d_Reader_readOperator_130 (by decide) ?_
    refine x_goto (tgt := 135) d_Reader_readOperator_131 (by decide) ?_
    refine x_istore_n (L' := [_, _, _, _]) d_Reader_readOperator_135 rfl rfl ?_
    refine x_iload_n d_Reader_readOperator_136 rfl ?_
    refine x_if_eq (tgt := 146) d_Reader_readOperator_137 (by decide) (fun _ => ?_) (fun hn => absurd rfl hn)
    refine x_iload_n d_Reader_readOperator_146 rfl ?_
    refine x_iret d_Reader_readOperator_147 rfl ?_
    exact hP
  · refine x_iload_n d_Reader_readOperator_89 rfl ?_
    refine x_if_ne (tgt := 107) d_Reader_readOperator_90 (by decide) (fun _ => ?_) (fun hn => absurd hn (by decide))
    refine x_iload_n d_Reader_readOperator_107 rfl ?_
    refine x_bipush (v := 61) d_Reader_readOperator_108 (by decide) ?_
    refine x_icmp_ne (tgt := 115) d_Reader_readOperator_110 (by decide) (fun _ => ?_) (fun hn => absurd hn (by decide))
    refine x_iload_n d_Reader_readOperator_115 rfl ?_
    refine x_bipush (v := 33) d_Reader_readOperator_116 (by decide) ?_
    refine x_icmp_ne (tgt := 124) d_Reader_readOperator_118 (by decide) (fun _ => ?_) (fun hn => absurd hn (by decide))
    refine x_iload_n d_Reader_readOperator_124 rfl ?_
    refine x_bipush (v := 60) d_Reader_readOperator_125 (by decide) ?_
    refine x_icmp_ne (tgt := 134) d_Reader_readOperator_127 (by decide) (fun ht => absurd rfl ht) (fun _ => ?_)
    refine x_iconst (v := 1) d_Reader_readOperator_130 (by decide) ?_
    refine x_goto (tgt := 135) d_Reader_readOperator_131 (by decide) ?_
    refine x_istore_n (L' := [_, _, _, _]) d_Reader_readOperator_135 rfl rfl ?_
    refine x_iload_n d_Reader_readOperator_136 rfl ?_
    refine x_if_eq (tgt := 146) d_Reader_readOperator_137 (by decide) (fun ht => absurd ht (by decide)) (fun _ => ?_)
    refine x_iload_n d_Reader_readOperator_140 rfl ?_
    refine x_iconst (v := 2) d_Reader_readOperator_141 (by decide) ?_
    refine x_ior d_Reader_readOperator_142 ?_
    refine x_goto (tgt := 147) d_Reader_readOperator_143 (by decide) ?_
    refine x_iret d_Reader_readOperator_147 rfl ?_
    exact hP
  · refine x_iload_n d_Reader_readOperator_89 rfl ?_
    refine x_if_ne (tgt := 107) d_Reader_readOperator_90 (by decide) (fun ht => absurd rfl ht) (fun _ => ?_)
    refine x_iload_n d_Reader_readOperator_93 rfl ?_
    refine x_bipush (v := 61) d_Reader_readOperator_94 (by decide) ?_
    refine x_icmp_eq (tgt := 105) d_Reader_readOperator_96 (by decide) (fun ht => absurd ht (by decide)) (fun _ => ?_)
    refine x_iload_n d_Reader_readOperator_99 rfl ?_
    refine x_bipush (v := 33) d_Reader_readOperator_100 (by decide) ?_
    refine x_icmp_ne (tgt := 107) d_Reader_readOperator_102 (by decide) (fun _ => ?_) (fun hn => absurd hn (by decide))
    refine x_iload_n d_Reader_readOperator_107 rfl ?_
    refine x_bipush (v := 61) d_Reader_readOperator_108 (by decide) ?_
    refine x_icmp_ne (tgt := 115) d_Reader_readOperator_110 (by decide) (fun _ => ?_) (fun hn => absurd hn (by decide))
    refine x_iload_n d_Reader_readOperator_115 rfl ?_
    refine x_bipush (v := 33) d_Reader_readOperator_116 (by decide) ?_
    refine x_icmp_ne (tgt := 124) d_Reader_readOperator_118 (by decide) (fun _ => ?_) (fun hn => absurd hn (by decide))
    refine x_iload_n d_Reader_readOperator_124 rfl ?_
    refine x_bipush (v := 60) d_Reader_readOperator_125 (by decide) ?_
    refine x_icmp_ne (tgt := 134) d_Reader_readOperator_127 (by decide) (fun _ => ?_) (fun hn => absurd hn (by decide))
    refine x_iconst (v := 4) d_Reader_readOperator_134 (by decide) ?_
    refine x_istore_n (L' := [_, _, _, _]) d_Reader_readOperator_135 rfl rfl ?_
    refine x_iload_n d_Reader_readOperator_136 rfl ?_
    refine x_if_eq (tgt := 146) d_Reader_readOperator_137 (by decide) (fun _ => ?_) (fun hn => absurd rfl hn)
    refine x_iload_n d_Reader_readOperator_146 rfl ?_
    refine x_iret d_Reader_readOperator_147 rfl ?_
    exact hP
  · refine x_iload_n d_Reader_readOperator_89 rfl ?_
    refine x_if_ne (tgt := 107) d_Reader_readOperator_90 (by decide) (fun _ => ?_) (fun hn => absurd hn (by decide))
    refine x_iload_n d_Reader_readOperator_107 rfl ?_
    refine x_bipush (v := 61) d_Reader_readOperator_108 (by decide) ?_
    refine x_icmp_ne (tgt := 115) d_Reader_readOperator_110 (by decide) (fun _ => ?_) (fun hn => absurd hn (by decide))
    refine x_iload_n d_Reader_readOperator_115 rfl ?_
    refine x_bipush (v := 33) d_Reader_readOperator_116 (by decide) ?_
    refine x_icmp_ne (tgt := 124) d_Reader_readOperator_118 (by decide) (fun _ => ?_) (fun hn => absurd hn (by decide))
    refine x_iload_n d_Reader_readOperator_124 rfl ?_
    refine x_bipush (v := 60) d_Reader_readOperator_125 (by decide) ?_
    refine x_icmp_ne (tgt := 134) d_Reader_readOperator_127 (by decide) (fun _ => ?_) (fun hn => absurd hn (by decide))
    refine x_iconst (v := 4) d_Reader_readOperator_134 (by decide) ?_
    refine x_istore_n (L' := [_, _, _, _]) d_Reader_readOperator_135 rfl rfl ?_
    refine x_iload_n d_Reader_readOperator_136 rfl ?_
    refine x_if_eq (tgt := 146) d_Reader_readOperator_137 (by decide) (fun ht => absurd ht (by decide)) (fun _ => ?_)
    refine x_iload_n d_Reader_readOperator_140 rfl ?_
    refine x_iconst (v := 2) d_Reader_readOperator_141 (by decide) ?_
    refine x_ior d_Reader_readOperator_142 ?_
    refine x_goto (tgt := 147) d_Reader_readOperator_143 (by decide) ?_
    refine x_iret d_Reader_readOperator_147 rfl ?_
    exact hP
theorem c_readOperator (hG : xGk G) (hd : 6 ≤ d) {K r ta na la ba va p o tc m : Nat} {t ln : List Nat} (hr : h r = some (rdO ta na la ba p o tc)) (hS : isS G h ta t) (hl : t.length < 2 ^ 20) (hp : p ≤ t.length) (hB : isB h ba va ln m) (hK : K < 2 ^ 16) (hm : m ≤ K) (hL : 2 * ln.length + 8 ≤ K) (hc : c + K ≤ xCB + m) (hn : n + 2 * K ≤ xSB + 2 * m) :
    XM l G d M_Reader_readOperator [.ref r] h c n (fun v h' c' n' => v = some (.int (oI (opr t p).2.1)) ∧ pR 0 0 K r ba va (rdO ta na la ba (opr t p).1 o tc) (ln ++ (opr t p).2.2) m h c n h' c' n') := by
  obtain ⟨d, rfl⟩ : ∃ q, d = q + 1 := ⟨d - 1, by omega⟩
  refine XM.of (by decide +kernel) (Nat.le_of_ble_eq_true rfl) ?_
  have hs128 := chr_lt (p := p) hS.asc
  have at31 : ∀ e2 e3, (chr t p = 61 ∨ chr t p = 33 ∨ chr t p = 60 ∨ chr t p = 62) → XW l G M_Reader_readOperator (d + 1) 31 [some (.ref r), some (.int (nI (chr t p))), e2, e3] [] h c n (fun v h' c' n' => v = some (.int (oI (opr t p).2.1)) ∧ pR 0 0 K r ba va (rdO ta na la ba (opr t p).1 o tc) (ln ++ (opr t p).2.2) m h c n h' c' n') := by
    intro e2 e3 hs
    have hpl : p < t.length := Nat.lt_of_not_le (fun z => by rw [chr_out z] at hs; omega)
    refine x_aload_n d_Reader_readOperator_31 rfl rfl ?_
    refine x_dup d_Reader_readOperator_32 rfl ?_
    refine x_get xf_Reader_25_Reader (Or.inl hr) rfl d_Reader_readOperator_33 ?_
    refine x_iconst (v := 1) d_Reader_readOperator_36 (by decide) ?_
    refine x_iadd d_Reader_readOperator_37 ?_
    refine x_top (w := .int (nI (p + 1))) (by rw [show (1 : Int32) = nI 1 from rfl, nI_add]) ?_
    refine x_put xf_Reader_25_Reader xp_Reader_4 rfl rfl hr rfl rfl d_Reader_readOperator_38 ?_
    obtain ⟨va0, m0, r0, b0, f0, w0, g0⟩ := pR.ofU (c := c) (n := n) (e := rdO ta na la ba (p + 1) o tc) hr hB hm
    obtain ⟨z0, bs0, hb0, -⟩ := id b0
    refine x_aload_n d_Reader_readOperator_41 rfl rfl ?_
    refine x_get xf_Reader_21_Reader (Or.inl r0) rfl d_Reader_readOperator_42 ?_
    refine x_iload_n d_Reader_readOperator_45 rfl ?_
    refine x_callV (As := [_]) (k := k_StringBuilder) rfl xcv_Reader_143_SB (Or.inl hb0) (c_SB_append_C (K := K) (by omega) b0 hs128 hK g0.2.1 (by omega) (by omega) (by omega)) rfl rfl (Nat.le_of_ble_eq_true rfl) d_Reader_readOperator_46 ?_
    rintro v h1 c1 n1 ⟨rfl, p1⟩
    obtain ⟨va1, m1, r1, b1, f1, w1, g1⟩ := pR.tr r0 b0 f0 w0 g0 (pR.ofB r0 b0 p1)
    have hS1 : isS G h1 ta t := hS.fr f1 (hB.kR hr (by decide) (by decide) (by decide))
    refine x_pop d_Reader_readOperator_49 rfl ?_
    refine x_aload_n d_Reader_readOperator_50 rfl rfl ?_
    refine x_callV (As := []) (k := k_Reader) rfl xcv_Reader_101_Reader (Or.inl r1) (c_characterHere hG (by omega) r1 hS1 hl (by omega)) rfl rfl (Nat.le_of_ble_eq_true rfl) d_Reader_readOperator_51 ?_
    rintro v h' c' n' ⟨rfl, rfl, rfl, rfl⟩
    refine x_bipush (v := 61) d_Reader_readOperator_54 (by decide) ?_
    have h128 := chr_lt (p := p + 1) hS.asc
    by_cases hd2 : chr t (p + 1) = 61
    · have hpl2 : p + 1 < t.length := Nat.lt_of_not_le (fun z => by rw [chr_out z] at hd2; omega)
      refine x_icmp_ne (tgt := 63) d_Reader_readOperator_56 (by decide) (fun ht => absurd (by rw [hd2]; rfl) ht) (fun _ => ?_)
      refine x_iconst (v := 1) d_Reader_readOperator_59 (by decide) ?_
      refine x_goto (tgt := 64) d_Reader_readOperator_60 (by decide) ?_
      refine x_istore_n (L' := [_, _, _, _]) d_Reader_readOperator_64 rfl rfl ?_
      refine x_iload_n d_Reader_readOperator_65 rfl ?_
      refine x_if_eq (tgt := 89) d_Reader_readOperator_66 (by decide) (fun ht => absurd ht (by decide)) (fun _ => ?_)
      refine x_aload_n d_Reader_readOperator_69 rfl rfl ?_
      refine x_dup d_Reader_readOperator_70 rfl ?_
      refine x_get xf_Reader_25_Reader (Or.inl r1) rfl d_Reader_readOperator_71 ?_
      refine x_iconst (v := 1) d_Reader_readOperator_74 (by decide) ?_
      refine x_iadd d_Reader_readOperator_75 ?_
      refine x_top (w := .int (nI (p + 2))) (by rw [show (1 : Int32) = nI 1 from rfl, nI_add]) ?_
      refine x_put xf_Reader_25_Reader xp_Reader_4 rfl rfl r1 rfl rfl d_Reader_readOperator_76 ?_
      obtain ⟨va2, m2, r2, b2, f2, w2, g2⟩ := pR.tr r1 b1 f1 w1 g1 (pR.ofU (c := c') (n := n') (e := rdO ta na la ba (p + 2) o tc) r1 b1 g1.2.1)
      obtain ⟨z2, bs2, hb2, -⟩ := id b2
      refine x_aload_n d_Reader_readOperator_79 rfl rfl ?_
      refine x_get xf_Reader_21_Reader (Or.inl r2) rfl d_Reader_readOperator_80 ?_
      refine x_bipush (v := 61) d_Reader_readOperator_83 (by decide) ?_
      refine x_callV (As := [_]) (k := k_StringBuilder) rfl xcv_Reader_143_SB (Or.inl hb2) (c_SB_append_C (K := K) (ch := 61) (by omega) b2 (by decide) hK g2.2.1 (by simp; omega) (by omega) (by omega)) rfl rfl (Nat.le_of_ble_eq_true rfl) d_Reader_readOperator_85 ?_
      rintro v h3 c3 n3 ⟨rfl, p3⟩
      have q3 := pR.tr r2 b2 f2 w2 g2 (pR.ofB r2 b2 p3)
      refine x_pop d_Reader_readOperator_88 rfl ?_
      have hop : opr t p = (p + 2, some (if chr t p = 61 then 2 else if chr t p = 33 then 13 else if chr t p = 60 then 3 else 6), [chr t p, 61]) := by
        unfold opr
        rw [if_pos hs, if_pos hd2]
      rw [hop]
      refine opr_at89 (b := true) (va := 0) (ba := 0) (K := 0) (m := 0) hs ⟨rfl, ?_⟩
      simpa using q3
    · have hop : opr t p = (p + 1, (if chr t p = 61 then none else if chr t p = 33 then none else if chr t p = 60 then some 1 else some 4), [chr t p]) := by
        unfold opr
        rw [if_pos hs, if_neg hd2]
      refine x_icmp_ne (tgt := 63) d_Reader_readOperator_56 (by decide) (fun _ => ?_) (fun hn => absurd hn (fun z => hd2 ((nI_eq (b := 61) (by omega) (by omega)).mp z)))
      refine x_iconst (v := 0) d_Reader_readOperator_63 (by decide) ?_
      refine x_istore_n (L' := [_, _, _, _]) d_Reader_readOperator_64 rfl rfl ?_
      refine x_iload_n d_Reader_readOperator_65 rfl ?_
      refine x_if_eq (tgt := 89) d_Reader_readOperator_66 (by decide) (fun _ => ?_) (fun hn => absurd rfl hn)
      rw [hop]
      refine opr_at89 (b := false) (va := 0) (ba := 0) (K := 0) (m := 0) hs ⟨rfl, va1, m1, r1, b1, f1, w1, g1⟩
  refine x_aload_n d_Reader_readOperator_0 rfl rfl ?_
  refine x_callV (As := []) (k := k_Reader) rfl xcv_Reader_101_Reader (Or.inl hr) (c_characterHere hG (by omega) hr hS hl hp) rfl rfl (Nat.le_of_ble_eq_true rfl) d_Reader_readOperator_1 ?_
  rintro v h' c' n' ⟨rfl, rfl, rfl, rfl⟩
  by_cases k1 : chr t p = 61
  · refine x_istore_n (L' := [_, _, _, _]) d_Reader_readOperator_4 rfl rfl ?_
    refine x_iload_n d_Reader_readOperator_5 rfl ?_
    refine x_bipush (v := 61) d_Reader_readOperator_6 (by decide) ?_
    refine x_icmp_eq (tgt := 31) d_Reader_readOperator_8 (by decide) (fun _ => ?_) (fun hn => absurd (by rw [k1]; rfl) hn)
    exact at31 _ _ (Or.inl k1)
  by_cases k2 : chr t p = 33
  · refine x_istore_n (L' := [_, _, _, _]) d_Reader_readOperator_4 rfl rfl ?_
    refine x_iload_n d_Reader_readOperator_5 rfl ?_
    refine x_bipush (v := 61) d_Reader_readOperator_6 (by decide) ?_
    refine x_icmp_eq (tgt := 31) d_Reader_readOperator_8 (by decide) (fun ht => absurd ht (fun z => k1 ((nI_eq (b := 61) (by omega) (by omega)).mp z))) (fun _ => ?_)
    refine x_iload_n d_Reader_readOperator_11 rfl ?_
    refine x_bipush (v := 33) d_Reader_readOperator_12 (by decide) ?_
    refine x_icmp_eq (tgt := 31) d_Reader_readOperator_14 (by decide) (fun _ => ?_) (fun hn => absurd (by rw [k2]; rfl) hn)
    exact at31 _ _ (Or.inr (Or.inl k2))
  by_cases k3 : chr t p = 60
  · refine x_istore_n (L' := [_, _, _, _]) d_Reader_readOperator_4 rfl rfl ?_
    refine x_iload_n d_Reader_readOperator_5 rfl ?_
    refine x_bipush (v := 61) d_Reader_readOperator_6 (by decide) ?_
    refine x_icmp_eq (tgt := 31) d_Reader_readOperator_8 (by decide) (fun ht => absurd ht (fun z => k1 ((nI_eq (b := 61) (by omega) (by omega)).mp z))) (fun _ => ?_)
    refine x_iload_n d_Reader_readOperator_11 rfl ?_
    refine x_bipush (v := 33) d_Reader_readOperator_12 (by decide) ?_
    refine x_icmp_eq (tgt := 31) d_Reader_readOperator_14 (by decide) (fun ht => absurd ht (fun z => k2 ((nI_eq (b := 33) (by omega) (by omega)).mp z))) (fun _ => ?_)
    refine x_iload_n d_Reader_readOperator_17 rfl ?_
    refine x_bipush (v := 60) d_Reader_readOperator_18 (by decide) ?_
    refine x_icmp_eq (tgt := 31) d_Reader_readOperator_20 (by decide) (fun _ => ?_) (fun hn => absurd (by rw [k3]; rfl) hn)
    exact at31 _ _ (Or.inr (Or.inr (Or.inl k3)))
  by_cases k4 : chr t p = 62
  · refine x_istore_n (L' := [_, _, _, _]) d_Reader_readOperator_4 rfl rfl ?_
    refine x_iload_n d_Reader_readOperator_5 rfl ?_
    refine x_bipush (v := 61) d_Reader_readOperator_6 (by decide) ?_
    refine x_icmp_eq (tgt := 31) d_Reader_readOperator_8 (by decide) (fun ht => absurd ht (fun z => k1 ((nI_eq (b := 61) (by omega) (by omega)).mp z))) (fun _ => ?_)
    refine x_iload_n d_Reader_readOperator_11 rfl ?_
    refine x_bipush (v := 33) d_Reader_readOperator_12 (by decide) ?_
    refine x_icmp_eq (tgt := 31) d_Reader_readOperator_14 (by decide) (fun ht => absurd ht (fun z => k2 ((nI_eq (b := 33) (by omega) (by omega)).mp z))) (fun _ => ?_)
    refine x_iload_n d_Reader_readOperator_17 rfl ?_
    refine x_bipush (v := 60) d_Reader_readOperator_18 (by decide) ?_
    refine x_icmp_eq (tgt := 31) d_Reader_readOperator_20 (by decide) (fun ht => absurd ht (fun z => k3 ((nI_eq (b := 60) (by omega) (by omega)).mp z))) (fun _ => ?_)
    refine x_iload_n d_Reader_readOperator_23 rfl ?_
    refine x_bipush (v := 62) d_Reader_readOperator_24 (by decide) ?_
    refine x_icmp_eq (tgt := 31) d_Reader_readOperator_26 (by decide) (fun _ => ?_) (fun hn => absurd (by rw [k4]; rfl) hn)
    exact at31 _ _ (Or.inr (Or.inr (Or.inr k4)))
  have hop : opr t p = (p, none, []) := by
    unfold opr
    rw [if_neg (by omega)]
  refine x_istore_n (L' := [_, _, _, _]) d_Reader_readOperator_4 rfl rfl ?_
  refine x_iload_n d_Reader_readOperator_5 rfl ?_
  refine x_bipush (v := 61) d_Reader_readOperator_6 (by decide) ?_
  refine x_icmp_eq (tgt := 31) d_Reader_readOperator_8 (by decide) (fun ht => absurd ht (fun z => k1 ((nI_eq (b := 61) (by omega) (by omega)).mp z))) (fun _ => ?_)
  refine x_iload_n d_Reader_readOperator_11 rfl ?_
  refine x_bipush (v := 33) d_Reader_readOperator_12 (by decide) ?_
  refine x_icmp_eq (tgt := 31) d_Reader_readOperator_14 (by decide) (fun ht => absurd ht (fun z => k2 ((nI_eq (b := 33) (by omega) (by omega)).mp z))) (fun _ => ?_)
  refine x_iload_n d_Reader_readOperator_17 rfl ?_
  refine x_bipush (v := 60) d_Reader_readOperator_18 (by decide) ?_
  refine x_icmp_eq (tgt := 31) d_Reader_readOperator_20 (by decide) (fun ht => absurd ht (fun z => k3 ((nI_eq (b := 60) (by omega) (by omega)).mp z))) (fun _ => ?_)
  refine x_iload_n d_Reader_readOperator_23 rfl ?_
  refine x_bipush (v := 62) d_Reader_readOperator_24 (by decide) ?_
  refine x_icmp_eq (tgt := 31) d_Reader_readOperator_26 (by decide) (fun ht => absurd ht (fun z => k4 ((nI_eq (b := 62) (by omega) (by omega)).mp z))) (fun _ => ?_)
  refine x_iconst (v := (-1)) d_Reader_readOperator_29 (by decide) ?_
  refine x_iret d_Reader_readOperator_30 rfl ?_
  rw [hop]
  exact ⟨rfl, by rw [List.append_nil]; exact ⟨va, m, hr, hB, xfr.rf, Or.inl rfl, by omega⟩⟩
end RD3
end
section
section
abbrev y_Reader_readValue : MethodName := ⟨"MarkerText$Reader", "readValue", "(LMarkerText$Name;)J"⟩
abbrev M_Reader_readValue : XMt := (y_Reader_readValue, prog_10_method_10_code, 5, (some .long))
theorem d_Reader_readValue_0 : decode M_Reader_readValue.2.1 0 = .ok (.aload_n 0, 1) := by decide +kernel
theorem d_Reader_readValue_1 : decode M_Reader_readValue.2.1 1 = .ok (.invokevirtual 49, 3) := by decide +kernel
theorem d_Reader_readValue_4 : decode M_Reader_readValue.2.1 4 = .ok (.aload_n 0, 1) := by decide +kernel
theorem d_Reader_readValue_5 : decode M_Reader_readValue.2.1 5 = .ok (.invokevirtual 101, 3) := by decide +kernel
theorem d_Reader_readValue_8 : decode M_Reader_readValue.2.1 8 = .ok (.bipush 39, 2) := by decide +kernel
theorem d_Reader_readValue_10 : decode M_Reader_readValue.2.1 10 = .ok (.if_icmp .eq 5, 3) := by decide +kernel
theorem d_Reader_readValue_15 : decode M_Reader_readValue.2.1 15 = .ok (.aload_n 0, 1) := by decide +kernel
theorem d_Reader_readValue_16 : decode M_Reader_readValue.2.1 16 = .ok (.getfield 25, 3) := by decide +kernel
theorem d_Reader_readValue_19 : decode M_Reader_readValue.2.1 19 = .ok (.iconst 1, 1) := by decide +kernel
theorem d_Reader_readValue_20 : decode M_Reader_readValue.2.1 20 = .ok (.iadd, 1) := by decide +kernel
theorem d_Reader_readValue_21 : decode M_Reader_readValue.2.1 21 = .ok (.istore_n 2, 1) := by decide +kernel
theorem d_Reader_readValue_52 : decode M_Reader_readValue.2.1 52 = .ok (.iload_n 2, 1) := by decide +kernel
theorem d_Reader_readValue_53 : decode M_Reader_readValue.2.1 53 = .ok (.aload_n 0, 1) := by decide +kernel
theorem d_Reader_readValue_54 : decode M_Reader_readValue.2.1 54 = .ok (.getfield 35, 3) := by decide +kernel
theorem d_Reader_readValue_57 : decode M_Reader_readValue.2.1 57 = .ok (.invokevirtual 52, 3) := by decide +kernel
theorem d_Reader_readValue_60 : decode M_Reader_readValue.2.1 60 = .ok (.if_icmp .lt 16, 3) := by decide +kernel
theorem d_Reader_readValue_63 : decode M_Reader_readValue.2.1 63 = .ok (.aload_n 0, 1) := by decide +kernel
theorem d_Reader_readValue_64 : decode M_Reader_readValue.2.1 64 = .ok (.aload_n 0, 1) := by decide +kernel
theorem d_Reader_readValue_65 : decode M_Reader_readValue.2.1 65 = .ok (.getfield 35, 3) := by decide +kernel
theorem d_Reader_readValue_68 : decode M_Reader_readValue.2.1 68 = .ok (.invokevirtual 52, 3) := by decide +kernel
theorem d_Reader_readValue_71 : decode M_Reader_readValue.2.1 71 = .ok (.putfield 25, 3) := by decide +kernel
theorem d_Reader_readValue_74 : decode M_Reader_readValue.2.1 74 = .ok (.lconst 0, 1) := by decide +kernel
theorem d_Reader_readValue_75 : decode M_Reader_readValue.2.1 75 = .ok (.lreturn, 1) := by decide +kernel
theorem d_Reader_readValue_76 : decode M_Reader_readValue.2.1 76 = .ok (.aload_n 1, 1) := by decide +kernel
theorem d_Reader_readValue_77 : decode M_Reader_readValue.2.1 77 = .ok (.aload_n 0, 1) := by decide +kernel
theorem d_Reader_readValue_78 : decode M_Reader_readValue.2.1 78 = .ok (.getfield 35, 3) := by decide +kernel
theorem d_Reader_readValue_81 : decode M_Reader_readValue.2.1 81 = .ok (.aload_n 0, 1) := by decide +kernel
theorem d_Reader_readValue_82 : decode M_Reader_readValue.2.1 82 = .ok (.getfield 25, 3) := by decide +kernel
theorem d_Reader_readValue_85 : decode M_Reader_readValue.2.1 85 = .ok (.iconst 1, 1) := by decide +kernel
theorem d_Reader_readValue_86 : decode M_Reader_readValue.2.1 86 = .ok (.iadd, 1) := by decide +kernel
theorem d_Reader_readValue_87 : decode M_Reader_readValue.2.1 87 = .ok (.iload_n 2, 1) := by decide +kernel
theorem d_Reader_readValue_88 : decode M_Reader_readValue.2.1 88 = .ok (.invokevirtual 182, 3) := by decide +kernel
theorem xw_748 : (Jvm.Cond.code ({ cls := "MarkerText$Name", name := "levelOf", desc := "(Ljava/lang/String;II)J" } : Jvm.MethodName) prog_6_method_4_code (4 : Nat) (Option.some Jvm.ClassFile.FieldType.long)) ∈ xT := xT_at 748 (by decide +kernel) (by decide +kernel)
theorem xcb_Name_levelOf : xcb M_Name_levelOf 3 := ⟨xw_748, xw_21, by decide, by decide, by decide, by decide +kernel⟩
theorem xw_746 : (Jvm.Cond.instanceMethod ({ cls := "MarkerText$Name", name := "levelOf", desc := "(Ljava/lang/String;II)J" } : Jvm.MethodName)) ∈ xT := xT_at 746 (by decide +kernel) (by decide +kernel)
theorem xw_998 : (Jvm.Cond.methodLink "MarkerText$Reader" (182 : Nat) ({ cls := "MarkerText$Name", name := "levelOf", desc := "(Ljava/lang/String;II)J" } : Jvm.MethodName)) ∈ xT := xT_at 998 (by decide +kernel) (by decide +kernel)
theorem xw_747 : (Jvm.Cond.selects "MarkerText$Name" ({ cls := "MarkerText$Name", name := "levelOf", desc := "(Ljava/lang/String;II)J" } : Jvm.MethodName) ({ cls := "MarkerText$Name", name := "levelOf", desc := "(Ljava/lang/String;II)J" } : Jvm.MethodName)) ∈ xT := xT_at 747 (by decide +kernel) (by decide +kernel)
theorem xcv_Reader_182_Name : xCV "MarkerText$Reader" 182 "MarkerText$Name" M_Name_levelOf 3 := ⟨xcb_Name_levelOf, xw_746, Or.inl ⟨xw_998, Or.inl xw_747⟩⟩
theorem d_Reader_readValue_91 : decode M_Reader_readValue.2.1 91 = .ok (.lstore_n 3, 1) := by decide +kernel
theorem d_Reader_readValue_92 : decode M_Reader_readValue.2.1 92 = .ok (.lload_n 3, 1) := by decide +kernel
theorem d_Reader_readValue_93 : decode M_Reader_readValue.2.1 93 = .ok (.lconst 0, 1) := by decide +kernel
theorem d_Reader_readValue_94 : decode M_Reader_readValue.2.1 94 = .ok (.lcmp, 1) := by decide +kernel
theorem d_Reader_readValue_95 : decode M_Reader_readValue.2.1 95 = .ok (.ifCond .ne 5, 3) := by decide +kernel
theorem d_Reader_readValue_98 : decode M_Reader_readValue.2.1 98 = .ok (.lconst 0, 1) := by decide +kernel
theorem d_Reader_readValue_99 : decode M_Reader_readValue.2.1 99 = .ok (.lreturn, 1) := by decide +kernel
theorem d_Reader_readValue_100 : decode M_Reader_readValue.2.1 100 = .ok (.aload_n 0, 1) := by decide +kernel
theorem d_Reader_readValue_101 : decode M_Reader_readValue.2.1 101 = .ok (.getfield 21, 3) := by decide +kernel
theorem d_Reader_readValue_104 : decode M_Reader_readValue.2.1 104 = .ok (.aload_n 0, 1) := by decide +kernel
theorem d_Reader_readValue_105 : decode M_Reader_readValue.2.1 105 = .ok (.getfield 35, 3) := by decide +kernel
theorem d_Reader_readValue_108 : decode M_Reader_readValue.2.1 108 = .ok (.aload_n 0, 1) := by decide +kernel
theorem d_Reader_readValue_109 : decode M_Reader_readValue.2.1 109 = .ok (.getfield 25, 3) := by decide +kernel
theorem d_Reader_readValue_112 : decode M_Reader_readValue.2.1 112 = .ok (.iload_n 2, 1) := by decide +kernel
theorem d_Reader_readValue_113 : decode M_Reader_readValue.2.1 113 = .ok (.iconst 1, 1) := by decide +kernel
theorem d_Reader_readValue_114 : decode M_Reader_readValue.2.1 114 = .ok (.iadd, 1) := by decide +kernel
theorem d_Reader_readValue_115 : decode M_Reader_readValue.2.1 115 = .ok (.invokevirtual 186, 3) := by decide +kernel
theorem d_Reader_readValue_118 : decode M_Reader_readValue.2.1 118 = .ok (.invokevirtual 139, 3) := by decide +kernel
theorem xw_979 : (Jvm.Cond.methodLink "MarkerText$Reader" (139 : Nat) ({ cls := "java/lang/StringBuilder", name := "append", desc := "(Ljava/lang/String;)Ljava/lang/StringBuilder;" } : Jvm.MethodName)) ∈ xT := xT_at 979 (by decide +kernel) (by decide +kernel)
theorem xcv_Reader_139_SB : xCV "MarkerText$Reader" 139 "java/lang/StringBuilder" M_SB_append_String 1 := ⟨xcb_SB_append_String, xw_568, Or.inl ⟨xw_979, Or.inl xw_569⟩⟩
theorem d_Reader_readValue_121 : decode M_Reader_readValue.2.1 121 = .ok (.pop, 1) := by decide +kernel
theorem d_Reader_readValue_122 : decode M_Reader_readValue.2.1 122 = .ok (.aload_n 0, 1) := by decide +kernel
theorem d_Reader_readValue_123 : decode M_Reader_readValue.2.1 123 = .ok (.iload_n 2, 1) := by decide +kernel
theorem d_Reader_readValue_124 : decode M_Reader_readValue.2.1 124 = .ok (.iconst 1, 1) := by decide +kernel
theorem d_Reader_readValue_125 : decode M_Reader_readValue.2.1 125 = .ok (.iadd, 1) := by decide +kernel
theorem d_Reader_readValue_126 : decode M_Reader_readValue.2.1 126 = .ok (.putfield 25, 3) := by decide +kernel
theorem d_Reader_readValue_129 : decode M_Reader_readValue.2.1 129 = .ok (.lload_n 3, 1) := by decide +kernel
theorem d_Reader_readValue_130 : decode M_Reader_readValue.2.1 130 = .ok (.lreturn, 1) := by decide +kernel
theorem d_Reader_readValue_22 : decode M_Reader_readValue.2.1 22 = .ok (.iload_n 2, 1) := by decide +kernel
theorem d_Reader_readValue_23 : decode M_Reader_readValue.2.1 23 = .ok (.aload_n 0, 1) := by decide +kernel
theorem d_Reader_readValue_24 : decode M_Reader_readValue.2.1 24 = .ok (.getfield 35, 3) := by decide +kernel
theorem d_Reader_readValue_27 : decode M_Reader_readValue.2.1 27 = .ok (.invokevirtual 52, 3) := by decide +kernel
theorem d_Reader_readValue_30 : decode M_Reader_readValue.2.1 30 = .ok (.if_icmp .ge 22, 3) := by decide +kernel
theorem d_Reader_readValue_33 : decode M_Reader_readValue.2.1 33 = .ok (.aload_n 0, 1) := by decide +kernel
theorem d_Reader_readValue_34 : decode M_Reader_readValue.2.1 34 = .ok (.getfield 35, 3) := by decide +kernel
theorem d_Reader_readValue_37 : decode M_Reader_readValue.2.1 37 = .ok (.iload_n 2, 1) := by decide +kernel
theorem d_Reader_readValue_38 : decode M_Reader_readValue.2.1 38 = .ok (.invokevirtual 178, 3) := by decide +kernel
theorem d_Reader_readValue_41 : decode M_Reader_readValue.2.1 41 = .ok (.bipush 39, 2) := by decide +kernel
theorem d_Reader_readValue_43 : decode M_Reader_readValue.2.1 43 = .ok (.if_icmp .eq 9, 3) := by decide +kernel
theorem d_Reader_readValue_46 : decode M_Reader_readValue.2.1 46 = .ok (.iinc 2 1, 3) := by decide +kernel
theorem d_Reader_readValue_49 : decode M_Reader_readValue.2.1 49 = .ok (.goto (-27), 3) := by decide +kernel
theorem d_Reader_readValue_13 : decode M_Reader_readValue.2.1 13 = .ok (.lconst 0, 1) := by decide +kernel
theorem d_Reader_readValue_14 : decode M_Reader_readValue.2.1 14 = .ok (.lreturn, 1) := by decide +kernel
end
section RD4
variable {l : Launch} {G : XG} {h : XH} {c n d : Nat}
/-- a VALUE of a KIND at a place: where the reader is then, its level (0: none), its text -/
def rvl (t : List Nat) (kd p : Nat) : Nat × Nat × List Nat :=
  if chr t (skp t p) = 39 then
    if t.length ≤ scn qV t (skp t p + 1) then (t.length, 0, [])
    else if klv kd ((t.drop (skp t p + 1)).take (scn qV t (skp t p + 1) - (skp t p + 1))) = 0 then (skp t p, 0, [])
    else (scn qV t (skp t p + 1) + 1, klv kd ((t.drop (skp t p + 1)).take (scn qV t (skp t p + 1) - (skp t p + 1))), (t.drop (skp t p)).take (scn qV t (skp t p + 1) + 1 - skp t p))
  else (skp t p, 0, [])
theorem rvl_le {t : List Nat} {kd p : Nat} (hp : p ≤ t.length) : (rvl t kd p).1 ≤ t.length := by
  have := skp_le hp
  unfold rvl
  split
  · split
    · exact Nat.le_refl _
    · split
      · exact this
      · show scn qV t (skp t p + 1) + 1 ≤ t.length
        omega
  · exact this
theorem rvl_ge {t : List Nat} {kd p : Nat} (hp : p ≤ t.length) : p + (rvl t kd p).2.2.length ≤ (rvl t kd p).1 := by
  have h1 := skp_le hp
  have h2 : p ≤ skp t p := scn_ge
  have h3 := scn_ge (q := qV) (t := t) (p := skp t p + 1)
  unfold rvl
  split
  · split
    · exact hp
    · split
      · exact h2
      · show p + ((t.drop (skp t p)).take (scn qV t (skp t p + 1) + 1 - skp t p)).length ≤ scn qV t (skp t p + 1) + 1
        rw [List.length_take, List.length_drop]
        omega
  · exact h2
theorem rvl_lt {t : List Nat} {kd p : Nat} (ht : xasc t) : (rvl t kd p).2.1 < 2 ^ 63 := by
  unfold rvl
  split
  · split
    · exact Nat.two_pow_pos _
    · split
      · exact Nat.two_pow_pos _
      · exact klv_lt (xasc_cut ht)
  · exact Nat.two_pow_pos _
theorem c_readValue (hG : xGk G) (hd : 7 ≤ d) {K r ta na la ba va p o tc m oa ka kd : Nat} {t ln w ks : List Nat} (hr : h r = some (rdO ta na la ba p o tc)) (hS : isS G h ta t) (hl : t.length < 2 ^ 20) (hp : p ≤ t.length) (hB : isB h ba va ln m) (hN : isN G h oa ka w kd ks) (hK : K < 2 ^ 16) (hm : m ≤ K) (hL : 2 * (ln.length + (rvl t kd p).2.2.length) + 4 ≤ K) (hc : c + K + 2 ≤ xCB + m) (hn : n + 2 * K + t.length + 5 ≤ xSB + 2 * m) :
    XM l G d M_Reader_readValue [.ref r, .ref oa] h c n (fun v h' c' n' => v = some (.long (lN (rvl t kd p).2.1)) ∧ pR 2 (t.length + 5) K r ba va (rdO ta na la ba (rvl t kd p).1 o tc) (ln ++ (rvl t kd p).2.2) m h c n h' c' n') := by
  obtain ⟨d, rfl⟩ : ∃ q, d = q + 1 := ⟨d - 1, by omega⟩
  refine XM.of (by decide +kernel) (Nat.le_of_ble_eq_true rfl) ?_
  have hq := skp_le hp
  refine x_aload_n d_Reader_readValue_0 rfl rfl ?_
  refine x_callV (As := []) (k := k_Reader) rfl xcv_Reader_49_Reader (Or.inl hr) (c_skipBlanks hG (by omega) hr hS hl hp) rfl rfl (Nat.le_of_ble_eq_true rfl) d_Reader_readValue_1 ?_
  rintro v h' c' n' ⟨rfl, rfl, rfl, rfl⟩
  have hS0 := hS.upR (e := rdO ta na la ba (skp t p) o tc) hr (by decide)
  obtain ⟨va0, m0, r0, b0, f0, w0, g0⟩ := pR.ofU (c := c') (n := n') (e := rdO ta na la ba (skp t p) o tc) hr hB hm
  have hkr : xno h [r, ba, va] [k_String, k_asbyte, k_Name, k_aknown] := hB.kR hr (by decide) (by decide) (by decide)
  have hN0 : isN G (xup h r (rdO ta na la ba (skp t p) o tc)) oa ka w kd ks := by
    obtain ⟨sa, y1, -, y3, -⟩ := id hN
    exact hN.fr f0 (hkr.sub (by decide)) (hkr.at y1 (by decide)) (hkr.at y3 (by decide))
  revert r0 b0 f0 hS0 hN0
  generalize xup h r (rdO ta na la ba (skp t p) o tc) = h1
  intro hS0 r0 b0 f0 hN0
  obtain ⟨vt, et, hta, -⟩ := id hS0
  refine x_aload_n d_Reader_readValue_4 rfl rfl ?_
  refine x_callV (As := []) (k := k_Reader) rfl xcv_Reader_101_Reader (Or.inl r0) (c_characterHere hG (by omega) r0 hS0 hl hq) rfl rfl (Nat.le_of_ble_eq_true rfl) d_Reader_readValue_5 ?_
  rintro v h' c'' n'' ⟨rfl, rfl, rfl, rfl⟩
  refine x_bipush (v := 39) d_Reader_readValue_8 (by decide) ?_
  have h128 := chr_lt (p := skp t p) hS.asc
  by_cases h39 : chr t (skp t p) = 39
  · have hql : skp t p < t.length := Nat.lt_of_not_le (fun z => by rw [chr_out z] at h39; omega)
    have he1 := scn_ge (q := qV) (t := t) (p := skp t p + 1)
    have he2 := scn_le (q := qV) (t := t) (p := skp t p + 1) (by omega)
    refine x_icmp_eq (tgt := 15) d_Reader_readValue_10 (by decide) (fun _ => ?_) (fun hn => absurd (by rw [h39]; rfl) hn)
    refine x_aload_n d_Reader_readValue_15 rfl rfl ?_
    refine x_get xf_Reader_25_Reader (Or.inl r0) rfl d_Reader_readValue_16 ?_
    refine x_iconst (v := 1) d_Reader_readValue_19 (by decide) ?_
    refine x_iadd d_Reader_readValue_20 ?_
    refine x_top (w := .int (nI (skp t p + 1))) (by rw [show (1 : Int32) = nI 1 from rfl, nI_add]) ?_
    refine x_istore_n (L' := [_, _, _, _, _]) d_Reader_readValue_21 rfl rfl ?_
    -- from the end of the VALUE on
    have at52 : XW l G M_Reader_readValue (d + 1) 52 [some (.ref r), some (.ref oa), some (.int (nI (scn qV t (skp t p + 1)))), none, none] [] h' c'' n'' (fun v h2 c2 n2 => v = some (.long (lN (rvl t kd p).2.1)) ∧ pR 2 (t.length + 5) K r ba va (rdO ta na la ba (rvl t kd p).1 o tc) (ln ++ (rvl t kd p).2.2) m h c'' n'' h2 c2 n2) := by
      refine x_iload_n d_Reader_readValue_52 rfl ?_
      refine x_aload_n d_Reader_readValue_53 rfl rfl ?_
      refine x_get xf_Reader_35_Reader (Or.inl r0) rfl d_Reader_readValue_54 ?_
      refine x_callV (As := []) (k := k_String) rfl xcv_Reader_52_String hta (c_String_length (by omega) hS0) rfl rfl (Nat.le_of_ble_eq_true rfl) d_Reader_readValue_57 ?_
      rintro v h2 c2 n2 ⟨rfl, rfl, rfl, rfl⟩
      by_cases hend : t.length ≤ scn qV t (skp t p + 1)
      · have hrv : rvl t kd p = (t.length, 0, []) := by
          unfold rvl
          rw [if_pos h39, if_pos hend]
        refine x_icmp_lt (tgt := 76) d_Reader_readValue_60 (by decide) (fun ht => absurd ht (nI_nlt hend (by omega))) (fun _ => ?_)
        refine x_aload_n d_Reader_readValue_63 rfl rfl ?_
        refine x_aload_n d_Reader_readValue_64 rfl rfl ?_
        refine x_get xf_Reader_35_Reader (Or.inl r0) rfl d_Reader_readValue_65 ?_
        refine x_callV (As := []) (k := k_String) rfl xcv_Reader_52_String hta (c_String_length (by omega) hS0) rfl rfl (Nat.le_of_ble_eq_true rfl) d_Reader_readValue_68 ?_
        rintro v h2 c2 n2 ⟨rfl, rfl, rfl, rfl⟩
        refine x_put xf_Reader_25_Reader xp_Reader_4 rfl rfl r0 rfl rfl d_Reader_readValue_71 ?_
        refine x_lconst (v := 0) d_Reader_readValue_74 (by decide) ?_
        refine x_lret d_Reader_readValue_75 rfl ?_
        refine ⟨by rw [hrv]; rfl, ?_⟩
        rw [hrv, List.append_nil]
        exact (pR.tr r0 b0 f0 w0 g0 (pR.ofU (c := c2) (n := n2) (e := rdO ta na la ba t.length o tc) r0 b0 g0.2.1)).mono (by omega) (by omega)
      · refine x_icmp_lt (tgt := 76) d_Reader_readValue_60 (by decide) (fun _ => ?_) (fun hn => absurd (nI_lt (by omega) (by omega)) hn)
        refine x_aload_n d_Reader_readValue_76 rfl rfl ?_
        refine x_aload_n d_Reader_readValue_77 rfl rfl ?_
        refine x_get xf_Reader_35_Reader (Or.inl r0) rfl d_Reader_readValue_78 ?_
        refine x_aload_n d_Reader_readValue_81 rfl rfl ?_
        refine x_get xf_Reader_25_Reader (Or.inl r0) rfl d_Reader_readValue_82 ?_
        refine x_iconst (v := 1) d_Reader_readValue_85 (by decide) ?_
        refine x_iadd d_Reader_readValue_86 ?_
        refine x_iload_n d_Reader_readValue_87 rfl ?_
        have hval := klv_lt (kd := kd) (xasc_cut (b := skp t p + 1) (m := scn qV t (skp t p + 1) - (skp t p + 1)) hS.asc)
        refine x_st (st' := [.int (nI (skp t p + 1 + (scn qV t (skp t p + 1) - (skp t p + 1)))), .int (nI (skp t p + 1)), .ref ta, .ref oa]) (by rw [show (1 : Int32) = nI 1 from rfl, nI_add, show skp t p + 1 + (scn qV t (skp t p + 1) - (skp t p + 1)) = scn qV t (skp t p + 1) by omega]) ?_
        obtain ⟨sa, y1, -⟩ := id hN0
        refine x_callV (As := [_, _, _]) (k := k_Name) rfl xcv_Reader_182_Name (Or.inl y1) (c_levelOf hG (by omega) hN0 hS0 (by omega) hl) rfl rfl (Nat.le_of_ble_eq_true rfl) d_Reader_readValue_88 ?_
        rintro v h2 c2 n2 ⟨rfl, rfl, rfl, rfl⟩
        refine x_lstore_n (L' := [_, _, _, _, _]) d_Reader_readValue_91 rfl rfl ?_
        refine x_lload_n d_Reader_readValue_92 rfl ?_
        refine x_lconst (v := 0) d_Reader_readValue_93 (by decide) ?_
        refine x_lcmp d_Reader_readValue_94 ?_
        by_cases hz : klv kd ((t.drop (skp t p + 1)).take (scn qV t (skp t p + 1) - (skp t p + 1))) = 0
        · have hrv : rvl t kd p = (skp t p, 0, []) := by
            unfold rvl
            rw [if_pos h39, if_neg hend, if_pos hz]
          refine x_if_ne (tgt := 100) d_Reader_readValue_95 (by decide) (fun ht => absurd ((lg_cmp_eq _ _).mpr (by rw [hz]; rfl)) ht) (fun _ => ?_)
          refine x_lconst (v := 0) d_Reader_readValue_98 (by decide) ?_
          refine x_lret d_Reader_readValue_99 rfl ?_
          refine ⟨by rw [hrv]; rfl, ?_⟩
          rw [hrv, List.append_nil]
          exact pR.mono ⟨va0, m0, r0, b0, f0, w0, g0⟩ (by omega) (by omega)
        · have hrv : rvl t kd p = (scn qV t (skp t p + 1) + 1, klv kd ((t.drop (skp t p + 1)).take (scn qV t (skp t p + 1) - (skp t p + 1))), (t.drop (skp t p)).take (scn qV t (skp t p + 1) + 1 - skp t p)) := by
            unfold rvl
            rw [if_pos h39, if_neg hend, if_neg hz]
          rw [hrv] at hL ⊢
          dsimp only at hL ⊢
          have hsl : ((t.drop (skp t p)).take (scn qV t (skp t p + 1) + 1 - skp t p)).length ≤ t.length := by
            rw [List.length_take, List.length_drop]; omega
          refine x_if_ne (tgt := 100) d_Reader_readValue_95 (by decide) (fun _ => ?_) (fun hn => absurd hn (fun z => hz ((pk_lEQ (b := 0) hval (by decide)).mp ((lg_cmp_eq _ _).mp z))))
          refine x_aload_n d_Reader_readValue_100 rfl rfl ?_
          refine x_get xf_Reader_21_Reader (Or.inl r0) rfl d_Reader_readValue_101 ?_
          refine x_aload_n d_Reader_readValue_104 rfl rfl ?_
          refine x_get xf_Reader_35_Reader (Or.inl r0) rfl d_Reader_readValue_105 ?_
          refine x_aload_n d_Reader_readValue_108 rfl rfl ?_
          refine x_get xf_Reader_25_Reader (Or.inl r0) rfl d_Reader_readValue_109 ?_
          refine x_iload_n d_Reader_readValue_112 rfl ?_
          refine x_iconst (v := 1) d_Reader_readValue_113 (by decide) ?_
          refine x_iadd d_Reader_readValue_114 ?_
          refine x_st (st' := [.int (nI (scn qV t (skp t p + 1) + 1)), .int (nI (skp t p)), .ref ta, .ref ba]) (by rw [show (1 : Int32) = nI 1 from rfl, nI_add]; rfl) ?_
          refine x_callV (As := [_, _]) (k := k_String) rfl xcv_Reader_186_String hta (c_substring hG (by omega) hS0 (by omega) (by omega) hl (by omega) (by omega)) rfl rfl (Nat.le_of_ble_eq_true rfl) d_Reader_readValue_115 ?_
          rintro v h3 c3 n3 ⟨q3, rfl, s3, f3, k3, k3'⟩
          obtain ⟨va3, m3, r3, b3, f3, w3, g3⟩ := pR.tr r0 b0 f0 w0 g0 (pR.ofN (C := 2) (N := t.length + 4) (c := c2) (n := n2) (c' := c3) (n' := n3) r0 b0 g0.2.1 f3 k3 (by omega))
          obtain ⟨z3, bs3, hb3, -⟩ := id b3
          refine x_callV (As := [_]) (k := k_StringBuilder) rfl xcv_Reader_139_SB (Or.inl hb3) (c_SB_append_S (K := K) (by omega) b3 s3 hK g3.2.1 (by omega) (by omega) (by omega)) rfl rfl (Nat.le_of_ble_eq_true rfl) d_Reader_readValue_118 ?_
          rintro v h4 c4 n4 ⟨rfl, p4⟩
          obtain ⟨va4, m4, r4, b4, f4, w4, g4⟩ := pR.tr r3 b3 f3 w3 g3 (pR.ofB r3 b3 p4)
          refine x_pop d_Reader_readValue_121 rfl ?_
          refine x_aload_n d_Reader_readValue_122 rfl rfl ?_
          refine x_iload_n d_Reader_readValue_123 rfl ?_
          refine x_iconst (v := 1) d_Reader_readValue_124 (by decide) ?_
          refine x_iadd d_Reader_readValue_125 ?_
          refine x_top (w := .int (nI (scn qV t (skp t p + 1) + 1))) (by rw [show (1 : Int32) = nI 1 from rfl, nI_add]) ?_
          refine x_put xf_Reader_25_Reader xp_Reader_4 rfl rfl r4 rfl rfl d_Reader_readValue_126 ?_
          refine x_lload_n d_Reader_readValue_129 rfl ?_
          refine x_lret d_Reader_readValue_130 rfl ?_
          exact ⟨rfl, (pR.tr r4 b4 f4 w4 g4 (pR.ofU (c := c4) (n := n4) (e := rdO ta na la ba (scn qV t (skp t p + 1) + 1) o tc) r4 b4 g4.2.1)).mono (by omega) (by omega)⟩
    have lp : ∀ (k e : Nat), e + k = t.length → scn qV t e = scn qV t (skp t p + 1) → XW l G M_Reader_readValue (d + 1) 22 [some (.ref r), some (.ref oa), some (.int (nI e)), none, none] [] h' c'' n'' (fun v h2 c2 n2 => v = some (.long (lN (rvl t kd p).2.1)) ∧ pR 2 (t.length + 5) K r ba va (rdO ta na la ba (rvl t kd p).1 o tc) (ln ++ (rvl t kd p).2.2) m h c'' n'' h2 c2 n2) := by
      intro k
      induction k with
      | zero =>
        intro e hk hse
        refine x_iload_n d_Reader_readValue_22 rfl ?_
        refine x_aload_n d_Reader_readValue_23 rfl rfl ?_
        refine x_get xf_Reader_35_Reader (Or.inl r0) rfl d_Reader_readValue_24 ?_
        refine x_callV (As := []) (k := k_String) rfl xcv_Reader_52_String hta (c_String_length (by omega) hS0) rfl rfl (Nat.le_of_ble_eq_true rfl) d_Reader_readValue_27 ?_
        rintro v h2 c2 n2 ⟨rfl, rfl, rfl, rfl⟩
        refine x_icmp_ge (tgt := 52) d_Reader_readValue_30 (by decide) (fun _ => ?_) (fun hn => absurd (nI_le (by omega) (by omega)) hn)
        rw [scn_end (by omega)] at hse
        rw [hse]
        exact at52
      | succ k ih =>
        intro e hk hse
        have hel : e < t.length := by omega
        have hch := hS.asc t[e] (List.getElem_mem hel)
        refine x_iload_n d_Reader_readValue_22 rfl ?_
        refine x_aload_n d_Reader_readValue_23 rfl rfl ?_
        refine x_get xf_Reader_35_Reader (Or.inl r0) rfl d_Reader_readValue_24 ?_
        refine x_callV (As := []) (k := k_String) rfl xcv_Reader_52_String hta (c_String_length (by omega) hS0) rfl rfl (Nat.le_of_ble_eq_true rfl) d_Reader_readValue_27 ?_
        rintro v h2 c2 n2 ⟨rfl, rfl, rfl, rfl⟩
        refine x_icmp_ge (tgt := 52) d_Reader_readValue_30 (by decide) (fun ht => absurd ht (nI_ge (by omega) (by omega))) (fun _ => ?_)
        refine x_aload_n d_Reader_readValue_33 rfl rfl ?_
        refine x_get xf_Reader_35_Reader (Or.inl r0) rfl d_Reader_readValue_34 ?_
        refine x_iload_n d_Reader_readValue_37 rfl ?_
        refine x_callV (As := [_]) (k := k_String) rfl xcv_Reader_178_String hta (c_String_charAt hG (by omega) hS0 hel (by omega)) rfl rfl (Nat.le_of_ble_eq_true rfl) d_Reader_readValue_38 ?_
        rintro v h2 c2 n2 ⟨rfl, rfl, rfl, rfl⟩
        refine x_bipush (v := 39) d_Reader_readValue_41 (by decide) ?_
        by_cases hv : t[e] = 39
        · refine x_icmp_eq (tgt := 52) d_Reader_readValue_43 (by decide) (fun _ => ?_) (fun hn => absurd (by rw [hv]; rfl) hn)
          rw [scn_stop hel (by simp [qV, hv])] at hse
          rw [hse]
          exact at52
        · refine x_icmp_eq (tgt := 52) d_Reader_readValue_43 (by decide) (fun ht => absurd ht (fun z => hv ((nI_eq (b := 39) (by omega) (by omega)).mp z))) (fun _ => ?_)
          refine x_iinc (v := nI (e + 1)) (L' := [_, _, _, _, _]) d_Reader_readValue_46 rfl (by exact xw_iinc1) rfl rfl ?_
          refine x_goto (tgt := 22) d_Reader_readValue_49 (by decide) ?_
          exact ih (e + 1) (by omega) (by rw [← scn_step hel (by simp [qV, hv])]; exact hse)
    exact lp (t.length - (skp t p + 1)) (skp t p + 1) (by omega) rfl
  · have hrv : rvl t kd p = (skp t p, 0, []) := by
      unfold rvl
      rw [if_neg h39]
    refine x_icmp_eq (tgt := 15) d_Reader_readValue_10 (by decide) (fun ht => absurd ht (fun z => h39 ((nI_eq (b := 39) (by omega) (by omega)).mp z))) (fun _ => ?_)
    refine x_lconst (v := 0) d_Reader_readValue_13 (by decide) ?_
    refine x_lret d_Reader_readValue_14 rfl ?_
    refine ⟨by rw [hrv]; rfl, ?_⟩
    rw [hrv, List.append_nil]
    exact pR.mono ⟨va0, m0, r0, b0, f0, w0, g0⟩ (by omega) (by omega)
end RD4
end
section
section
abbrev y_Arrays_copyOf_aJI : MethodName := ⟨"java/util/Arrays", "copyOf", "([JI)[J"⟩
abbrev M_Arrays_copyOf_aJI : XMt := (y_Arrays_copyOf_aJI, prog_34_method_124_code, 3, (some (.array .long)))
theorem d_Arrays_copyOf_aJI_0 : decode M_Arrays_copyOf_aJI.2.1 0 = .ok (.iload_n 1, 1) := by decide +kernel
theorem d_Arrays_copyOf_aJI_1 : decode M_Arrays_copyOf_aJI.2.1 1 = .ok (.aload_n 0, 1) := by decide +kernel
theorem d_Arrays_copyOf_aJI_2 : decode M_Arrays_copyOf_aJI.2.1 2 = .ok (.arraylength, 1) := by decide +kernel
theorem d_Arrays_copyOf_aJI_3 : decode M_Arrays_copyOf_aJI.2.1 3 = .ok (.if_icmp .ne 11, 3) := by decide +kernel
theorem d_Arrays_copyOf_aJI_6 : decode M_Arrays_copyOf_aJI.2.1 6 = .ok (.aload_n 0, 1) := by decide +kernel
theorem d_Arrays_copyOf_aJI_7 : decode M_Arrays_copyOf_aJI.2.1 7 = .ok (.invokevirtual 319, 3) := by decide +kernel
theorem xw_1002 : (Jvm.Cond.methodLink "java/util/Arrays" (319 : Nat) ({ cls := "[J", name := "clone", desc := "()Ljava/lang/Object;" } : Jvm.MethodName)) ∈ xT := xT_at 1002 (by decide +kernel) (by decide +kernel)
theorem xw_1003 : (Jvm.Cond.sameMethod "[J" "java/lang/Object" "clone" "()Ljava/lang/Object;") ∈ xT := xT_at 1003 (by decide +kernel) (by decide +kernel)
theorem xw_1004 : (Jvm.Cond.selects "[J" ({ cls := "[J", name := "clone", desc := "()Ljava/lang/Object;" } : Jvm.MethodName) ({ cls := "java/lang/Object", name := "clone", desc := "()Ljava/lang/Object;" } : Jvm.MethodName)) ∈ xT := xT_at 1004 (by decide +kernel) (by decide +kernel)
theorem xw_1005 : (Jvm.Cond.castable "[J" "java/lang/Cloneable") ∈ xT := xT_at 1005 (by decide +kernel) (by decide +kernel)
theorem d_Arrays_copyOf_aJI_10 : decode M_Arrays_copyOf_aJI.2.1 10 = .ok (.checkcast 320, 3) := by decide +kernel
theorem xw_1006 : (Jvm.Cond.classLink "java/util/Arrays" (320 : Nat) "[J") ∈ xT := xT_at 1006 (by decide +kernel) (by decide +kernel)
theorem d_Arrays_copyOf_aJI_13 : decode M_Arrays_copyOf_aJI.2.1 13 = .ok (.areturn, 1) := by decide +kernel
theorem d_Arrays_copyOf_aJI_14 : decode M_Arrays_copyOf_aJI.2.1 14 = .ok (.iload_n 1, 1) := by decide +kernel
theorem d_Arrays_copyOf_aJI_15 : decode M_Arrays_copyOf_aJI.2.1 15 = .ok (.newarray .long, 2) := by decide +kernel
theorem d_Arrays_copyOf_aJI_17 : decode M_Arrays_copyOf_aJI.2.1 17 = .ok (.astore_n 2, 1) := by decide +kernel
theorem d_Arrays_copyOf_aJI_18 : decode M_Arrays_copyOf_aJI.2.1 18 = .ok (.aload_n 0, 1) := by decide +kernel
theorem d_Arrays_copyOf_aJI_19 : decode M_Arrays_copyOf_aJI.2.1 19 = .ok (.iconst 0, 1) := by decide +kernel
theorem d_Arrays_copyOf_aJI_20 : decode M_Arrays_copyOf_aJI.2.1 20 = .ok (.aload_n 2, 1) := by decide +kernel
theorem d_Arrays_copyOf_aJI_21 : decode M_Arrays_copyOf_aJI.2.1 21 = .ok (.iconst 0, 1) := by decide +kernel
theorem d_Arrays_copyOf_aJI_22 : decode M_Arrays_copyOf_aJI.2.1 22 = .ok (.aload_n 0, 1) := by decide +kernel
theorem d_Arrays_copyOf_aJI_23 : decode M_Arrays_copyOf_aJI.2.1 23 = .ok (.arraylength, 1) := by decide +kernel
theorem d_Arrays_copyOf_aJI_24 : decode M_Arrays_copyOf_aJI.2.1 24 = .ok (.iload_n 1, 1) := by decide +kernel
theorem d_Arrays_copyOf_aJI_25 : decode M_Arrays_copyOf_aJI.2.1 25 = .ok (.invokestatic 304, 3) := by decide +kernel
theorem d_Arrays_copyOf_aJI_28 : decode M_Arrays_copyOf_aJI.2.1 28 = .ok (.invokestatic 150, 3) := by decide +kernel
theorem d_Arrays_copyOf_aJI_31 : decode M_Arrays_copyOf_aJI.2.1 31 = .ok (.aload_n 2, 1) := by decide +kernel
theorem d_Arrays_copyOf_aJI_32 : decode M_Arrays_copyOf_aJI.2.1 32 = .ok (.areturn, 1) := by decide +kernel
abbrev y_Reader_readSingle : MethodName := ⟨"MarkerText$Reader", "readSingle", "(LMarkerText$Name;)[J"⟩
abbrev M_Reader_readSingle : XMt := (y_Reader_readSingle, prog_10_method_8_code, 5, (some (.array .long)))
theorem d_Reader_readSingle_0 : decode M_Reader_readSingle.2.1 0 = .ok (.aload_n 0, 1) := by decide +kernel
theorem d_Reader_readSingle_1 : decode M_Reader_readSingle.2.1 1 = .ok (.aload_n 1, 1) := by decide +kernel
theorem d_Reader_readSingle_2 : decode M_Reader_readSingle.2.1 2 = .ok (.invokevirtual 166, 3) := by decide +kernel
theorem xw_997 : (Jvm.Cond.code ({ cls := "MarkerText$Reader", name := "readValue", desc := "(LMarkerText$Name;)J" } : Jvm.MethodName) prog_10_method_10_code (5 : Nat) (Option.some Jvm.ClassFile.FieldType.long)) ∈ xT := xT_at 997 (by decide +kernel) (by decide +kernel)
theorem xcb_Reader_readValue : xcb M_Reader_readValue 1 := ⟨xw_997, xw_23, by decide, by decide, by decide, by decide +kernel⟩
theorem xw_996 : (Jvm.Cond.instanceMethod ({ cls := "MarkerText$Reader", name := "readValue", desc := "(LMarkerText$Name;)J" } : Jvm.MethodName)) ∈ xT := xT_at 996 (by decide +kernel) (by decide +kernel)
theorem xw_994 : (Jvm.Cond.methodLink "MarkerText$Reader" (166 : Nat) ({ cls := "MarkerText$Reader", name := "readValue", desc := "(LMarkerText$Name;)J" } : Jvm.MethodName)) ∈ xT := xT_at 994 (by decide +kernel) (by decide +kernel)
theorem xsel_Reader_readValue : Cond.selects "MarkerText$Reader" y_Reader_readValue y_Reader_readValue ∈ xT := xT_sel (q := (y_Reader_readValue, 7)) (by decide +kernel) (by decide +kernel)
theorem xcv_Reader_166_Reader : xCV "MarkerText$Reader" 166 "MarkerText$Reader" M_Reader_readValue 1 := ⟨xcb_Reader_readValue, xw_996, Or.inl ⟨xw_994, Or.inl xsel_Reader_readValue⟩⟩
theorem d_Reader_readSingle_5 : decode M_Reader_readSingle.2.1 5 = .ok (.lstore_n 2, 1) := by decide +kernel
theorem d_Reader_readSingle_6 : decode M_Reader_readSingle.2.1 6 = .ok (.lload_n 2, 1) := by decide +kernel
theorem d_Reader_readSingle_7 : decode M_Reader_readSingle.2.1 7 = .ok (.lconst 0, 1) := by decide +kernel
theorem d_Reader_readSingle_8 : decode M_Reader_readSingle.2.1 8 = .ok (.lcmp, 1) := by decide +kernel
theorem d_Reader_readSingle_9 : decode M_Reader_readSingle.2.1 9 = .ok (.ifCond .ne 5, 3) := by decide +kernel
theorem d_Reader_readSingle_12 : decode M_Reader_readSingle.2.1 12 = .ok (.aconst_null, 1) := by decide +kernel
theorem d_Reader_readSingle_13 : decode M_Reader_readSingle.2.1 13 = .ok (.areturn, 1) := by decide +kernel
theorem d_Reader_readSingle_14 : decode M_Reader_readSingle.2.1 14 = .ok (.iconst 1, 1) := by decide +kernel
theorem d_Reader_readSingle_15 : decode M_Reader_readSingle.2.1 15 = .ok (.newarray .long, 2) := by decide +kernel
theorem d_Reader_readSingle_17 : decode M_Reader_readSingle.2.1 17 = .ok (.astore 4, 2) := by decide +kernel
theorem d_Reader_readSingle_19 : decode M_Reader_readSingle.2.1 19 = .ok (.aload 4, 2) := by decide +kernel
theorem d_Reader_readSingle_21 : decode M_Reader_readSingle.2.1 21 = .ok (.iconst 0, 1) := by decide +kernel
theorem d_Reader_readSingle_22 : decode M_Reader_readSingle.2.1 22 = .ok (.lload_n 2, 1) := by decide +kernel
theorem d_Reader_readSingle_23 : decode M_Reader_readSingle.2.1 23 = .ok (.lastore, 1) := by decide +kernel
theorem d_Reader_readSingle_24 : decode M_Reader_readSingle.2.1 24 = .ok (.aload 4, 2) := by decide +kernel
theorem d_Reader_readSingle_26 : decode M_Reader_readSingle.2.1 26 = .ok (.areturn, 1) := by decide +kernel
end
section RD5
variable {l : Launch} {G : XG} {h : XH} {c n d : Nat}
theorem xlv_fit {N : Nat} {ks : List Nat} : ∀ v ∈ xlv N ks, fits .long v = true := by
  intro v hv
  rcases List.mem_append.mp hv with z | z
  · obtain ⟨x, -, rfl⟩ := List.mem_map.mp z
    rfl
  · rw [(List.mem_replicate.mp z).2]; rfl
theorem xlv_len {N : Nat} {ks : List Nat} (hk : ks.length ≤ N) : (xlv N ks).length = N := by
  unfold xlv
  rw [List.length_append, List.length_map, List.length_replicate]
  omega
theorem xlv_take {N : Nat} {ks : List Nat} : (xlv N ks).take ks.length = ks.map (fun v => .long (lN v)) := by
  unfold xlv
  rw [List.take_append_of_le_length (by simp), List.take_of_length_le (by simp)]
theorem c_copyOf_aJ (hd : 1 ≤ d) {a : Nat} {ks : List Nat} (ha : h a = some (k_avals, xlv 6 ks)) (hk : ks.length ≤ 6) (hc : c + 1 ≤ xCB) (hn : n + 6 ≤ xSB) : XM l G d M_Arrays_copyOf_aJI [.ref a, .int (nI ks.length)] h c n (xMade k_avals (ks.map (fun v => .long (lN v))) h c n) := by
  obtain ⟨d, rfl⟩ : ∃ q, d = q + 1 := ⟨d - 1, by omega⟩
  have hlen := xlv_len hk
  refine XM.of (by decide +kernel) (Nat.le_of_ble_eq_true rfl) ?_
  by_cases h6 : ks.length = 6
  · have he : xlv 6 ks = ks.map (fun v => .long (lN v)) := by
      unfold xlv
      rw [h6]
      simp
    refine x_iload_n d_Arrays_copyOf_aJI_0 rfl ?_
    refine x_aload_n d_Arrays_copyOf_aJI_1 rfl rfl ?_
    refine x_alen (k := k_avals) rfl (Or.inl ha) (v := nI 6) (by rw [hlen]; rfl) d_Arrays_copyOf_aJI_2 ?_
    refine x_icmp_ne (tgt := 14) d_Arrays_copyOf_aJI_3 (by decide) (fun ht => absurd (by rw [h6]) ht) (fun _ => ?_)
    refine x_aload_n d_Arrays_copyOf_aJI_6 rfl rfl ?_
    refine x_clone (k := k_avals) (k1 := k_avals) (ad := "[J") rfl rfl (fun _ hz => by cases hz) (by decide +kernel) xw_1002 xw_1003 xw_210 xw_211 xw_1004 xw_1005 (Or.inl ha) xlv_fit hc (by rw [hlen]; exact hn) (Nat.le_of_ble_eq_true rfl) d_Arrays_copyOf_aJI_7 (fun q hn_q hk_q => ?_)
    refine x_castA (k := k_avals) (nm := "[J") rfl (fun _ hz => by cases hz) (by decide +kernel) xw_1006 (Or.inl xup_self) d_Arrays_copyOf_aJI_10 ?_
    refine x_aret d_Arrays_copyOf_aJI_13 rfl rfl ?_
    exact ⟨q, rfl, hn_q, by rw [he], rfl, by rw [he]⟩
  · refine x_iload_n d_Arrays_copyOf_aJI_0 rfl ?_
    refine x_aload_n d_Arrays_copyOf_aJI_1 rfl rfl ?_
    refine x_alen (k := k_avals) rfl (Or.inl ha) (v := nI 6) (by rw [hlen]; rfl) d_Arrays_copyOf_aJI_2 ?_
    refine x_icmp_ne (tgt := 14) d_Arrays_copyOf_aJI_3 (by decide) (fun _ => ?_) (fun hn => absurd hn (by rw [nI_eq (by omega) (by omega)]; exact h6))
    refine x_iload_n d_Arrays_copyOf_aJI_14 rfl ?_
    refine x_newa (k := k_avals) rfl rfl (fun _ hz => by cases hz) xw_110 (nI_pos (by omega)) (nI_clamp (by omega)) (by show ks.length * 8 ≤ _; omega) hc (by omega) d_Arrays_copyOf_aJI_15 (fun q hn_q hk_q => ?_)
    refine x_astore_n (L' := [_, _, _]) d_Arrays_copyOf_aJI_17 rfl rfl rfl ?_
    refine x_aload_n d_Arrays_copyOf_aJI_18 rfl rfl ?_
    refine x_iconst (v := 0) d_Arrays_copyOf_aJI_19 (by decide) ?_
    refine x_aload_n d_Arrays_copyOf_aJI_20 rfl rfl ?_
    refine x_iconst (v := 0) d_Arrays_copyOf_aJI_21 (by decide) ?_
    refine x_aload_n d_Arrays_copyOf_aJI_22 rfl rfl ?_
    refine x_alen (k := k_avals) rfl (xr_up (Or.inl ha) hn_q) (v := nI 6) (by rw [hlen]; rfl) d_Arrays_copyOf_aJI_23 ?_
    refine x_iload_n d_Arrays_copyOf_aJI_24 rfl ?_
    refine x_mmin xw_215 xw_216 xw_10 xw_217 (Nat.le_of_ble_eq_true rfl) d_Arrays_copyOf_aJI_25 ?_
    refine x_top (w := .int (nI ks.length)) (by rw [nI_min (by omega) (by omega), Nat.min_eq_right (by omega)]) ?_
    refine x_copyP (k0 := k_avals) (k := k_avals) rfl rfl rfl xw_218 xw_220 xw_219 xw_12 (xr_up (Or.inl ha) hn_q) xup_self (by decide) (by decide) (nI_pos (by omega)) (by rw [nI_clamp (by omega), hlen]; show 0 + ks.length ≤ 6; omega) (by rw [nI_clamp (by omega)]; show 0 + ks.length ≤ _; simp) xlv_fit (Nat.le_of_ble_eq_true rfl) d_Arrays_copyOf_aJI_28 ?_
    refine x_hp (h' := xup h q (k_avals, ks.map (fun v => .long (lN v)))) (by
      rw [xup_up, nI_clamp (by omega), ← xlv_take (N := 6)]
      congr 2
      show xcopy (xlv 6 ks) (List.replicate ks.length (defaultValue .long)) 0 0 ks.length = _
      simp [xcopy]) ?_
    refine x_aload_n d_Arrays_copyOf_aJI_31 rfl rfl ?_
    refine x_aret d_Arrays_copyOf_aJI_32 rfl rfl ?_
    exact ⟨q, rfl, hn_q, rfl, rfl, by simp⟩
/-- what the readers of VALUES give back -/
abbrev pVs (h h' : XH) (v : Option Value) : Option (List Nat) → Prop
  | none => v = some .null
  | some us => ∃ q, v = some (.ref q) ∧ h q = none ∧ h' q = some (k_avals, us.map (fun v => .long (lN v)))
def rsg (t : List Nat) (kd p : Nat) : Option (List Nat) := if (rvl t kd p).2.1 = 0 then none else some [(rvl t kd p).2.1]
/-- a cell that wasn't there changes nothing of what is said -/
theorem pR.upF {C N K r ba va m c' n' a k : Nat} {vs : List Value} {e e' : Nat × List Value} {t : List Nat} {h' : XH} (p : pR C N K r ba va e t m h c n h' c' n') (ha : h a = none) (ha' : h' a = some (k, vs)) (hk : k ≠ e.1 ∧ k ≠ k_StringBuilder ∧ k ≠ k_abyte) : pR C N K r ba va e t m h c n (xup h' a e') c' n' := by
  obtain ⟨va', m', p0, p1, p2, p3, p4⟩ := p
  obtain ⟨z, bs, q1, q2, -⟩ := id p1
  have hf : xfr h' (xup h' a e') [a] := xfr.rf.up (Or.inl (by simp))
  refine ⟨va', m', ?_, p1.fr hf ?_ ?_, p2.up (Or.inr ha), p3, p4⟩
  · rw [xup_ne (fun z => ?_)]
    · exact p0
    · subst z
      rw [p0] at ha'
      cases ha'
      exact hk.1 rfl
  · simpa using Ne.symm (xne ha' q1 hk.2.1)
  · simpa using Ne.symm (xne ha' q2 hk.2.2)
theorem pR.upN {C N K r ba va m c' n' a : Nat} {e e' : Nat × List Value} {t : List Nat} {h' : XH} (p : pR C N K r ba va e t m h c n h' c' n') (ha' : h' a = none) {dc dn : Nat} : pR (C + dc) (N + dn) K r ba va e t m h c n (xup h' a e') (c' + dc) (n' + dn) ∧ h a = none := by
  obtain ⟨va', m', p0, p1, p2, p3, p4⟩ := p
  obtain ⟨z, bs, q1, q2, -⟩ := id p1
  have ha : h a = none := p2.2 _ ha'
  have hf : xfr h' (xup h' a e') [a] := xfr.rf.up (Or.inl (by simp))
  refine ⟨⟨va', m', ?_, p1.fr hf ?_ ?_, p2.up (Or.inr ha), p3, by omega⟩, ha⟩
  · rw [xup_ne (fun z => by subst z; rw [p0] at ha'; cases ha')]
    exact p0
  · simpa using xneN q1 ha'
  · simpa using xneN q2 ha'
theorem c_readSingle (hG : xGk G) (hd : 8 ≤ d) {K r ta na la ba va p o tc m oa ka kd : Nat} {t ln w ks : List Nat} (hr : h r = some (rdO ta na la ba p o tc)) (hS : isS G h ta t) (hl : t.length < 2 ^ 20) (hp : p ≤ t.length) (hB : isB h ba va ln m) (hN : isN G h oa ka w kd ks) (hK : K < 2 ^ 16) (hm : m ≤ K) (hL : 2 * (ln.length + (rvl t kd p).2.2.length) + 4 ≤ K) (hc : c + K + 3 ≤ xCB + m) (hn : n + 2 * K + t.length + 6 ≤ xSB + 2 * m) :
    XM l G d M_Reader_readSingle [.ref r, .ref oa] h c n (fun v h' c' n' => pVs h h' v (rsg t kd p) ∧ pR 3 (t.length + 6) K r ba va (rdO ta na la ba (rvl t kd p).1 o tc) (ln ++ (rvl t kd p).2.2) m h c n h' c' n') := by
  obtain ⟨d, rfl⟩ : ∃ q, d = q + 1 := ⟨d - 1, by omega⟩
  refine XM.of (by decide +kernel) (Nat.le_of_ble_eq_true rfl) ?_
  refine x_aload_n d_Reader_readSingle_0 rfl rfl ?_
  refine x_aload_n d_Reader_readSingle_1 rfl rfl ?_
  refine x_callV (As := [_]) (k := k_Reader) rfl xcv_Reader_166_Reader (Or.inl hr) (c_readValue hG (by omega) hr hS hl hp hB hN hK hm hL (by omega) (by omega)) rfl rfl (Nat.le_of_ble_eq_true rfl) d_Reader_readSingle_2 ?_
  rintro v h1 c1 n1 ⟨rfl, p1⟩
  refine x_lstore_n (L' := [_, _, _, _, _]) d_Reader_readSingle_5 rfl rfl ?_
  refine x_lload_n d_Reader_readSingle_6 rfl ?_
  refine x_lconst (v := 0) d_Reader_readSingle_7 (by decide) ?_
  refine x_lcmp d_Reader_readSingle_8 ?_
  by_cases hz : (rvl t kd p).2.1 = 0
  · refine x_if_ne (tgt := 14) d_Reader_readSingle_9 (by decide) (fun ht => absurd ((lg_cmp_eq _ _).mpr (by rw [hz]; rfl)) ht) (fun _ => ?_)
    refine x_null d_Reader_readSingle_12 ?_
    refine x_aret d_Reader_readSingle_13 rfl rfl ?_
    exact ⟨by rw [show rsg t kd p = none from if_pos hz], p1.mono (by omega) (by omega)⟩
  · have hx := rvl_lt (kd := kd) (p := p) hS.asc
    obtain ⟨va1, m1, r1, b1, f1, w1, g1⟩ := id p1
    refine x_if_ne (tgt := 14) d_Reader_readSingle_9 (by decide) (fun _ => ?_) (fun hn => absurd hn (fun z => hz ((pk_lEQ (b := 0) hx (by decide)).mp ((lg_cmp_eq _ _).mp z))))
    refine x_iconst (v := 1) d_Reader_readSingle_14 (by decide) ?_
    refine x_newa (k := k_avals) rfl rfl (fun _ hz => by cases hz) xw_110 (z := 1) (by decide) rfl (by decide) (by omega) (by omega) d_Reader_readSingle_15 (fun q hn_q hk_q => ?_)
    refine x_astore (L' := [_, _, _, _, _]) d_Reader_readSingle_17 rfl rfl rfl ?_
    refine x_aload d_Reader_readSingle_19 rfl rfl ?_
    refine x_iconst (v := 0) d_Reader_readSingle_21 (by decide) ?_
    refine x_lload_n d_Reader_readSingle_22 rfl ?_
    refine x_last (k := k_avals) rfl xup_self (by decide) rfl d_Reader_readSingle_23 ?_
    obtain ⟨p2, hq⟩ := p1.upN (a := q) (e' := (k_avals, [Value.long (lN (rvl t kd p).2.1)])) hn_q (dc := 1) (dn := 1)
    refine x_hp (h' := xup h1 q (k_avals, [Value.long (lN (rvl t kd p).2.1)])) (by rw [xup_up]; rfl) ?_
    refine x_aload d_Reader_readSingle_24 rfl rfl ?_
    refine x_aret d_Reader_readSingle_26 rfl rfl ?_
    exact ⟨by rw [show rsg t kd p = some [(rvl t kd p).2.1] from if_neg hz]; exact ⟨q, rfl, hq, xup_self⟩, p2⟩
end RD5
end
section
section
abbrev y_Reader_readList : MethodName := ⟨"MarkerText$Reader", "readList", "(LMarkerText$Name;)[J"⟩
abbrev M_Reader_readList : XMt := (y_Reader_readList, prog_10_method_9_code, 4, (some (.array .long)))
theorem d_Reader_readList_28 : decode M_Reader_readList.2.1 28 = .ok (.iload_n 3, 1) := by decide +kernel
theorem d_Reader_readList_29 : decode M_Reader_readList.2.1 29 = .ok (.bipush 6, 2) := by decide +kernel
theorem d_Reader_readList_31 : decode M_Reader_readList.2.1 31 = .ok (.if_icmp .ge 75, 3) := by decide +kernel
theorem d_Reader_readList_106 : decode M_Reader_readList.2.1 106 = .ok (.aload_n 0, 1) := by decide +kernel
theorem d_Reader_readList_107 : decode M_Reader_readList.2.1 107 = .ok (.invokevirtual 49, 3) := by decide +kernel
theorem d_Reader_readList_110 : decode M_Reader_readList.2.1 110 = .ok (.aconst_null, 1) := by decide +kernel
theorem d_Reader_readList_111 : decode M_Reader_readList.2.1 111 = .ok (.areturn, 1) := by decide +kernel
theorem d_Reader_readList_34 : decode M_Reader_readList.2.1 34 = .ok (.aload_n 2, 1) := by decide +kernel
theorem d_Reader_readList_35 : decode M_Reader_readList.2.1 35 = .ok (.iload_n 3, 1) := by decide +kernel
theorem d_Reader_readList_36 : decode M_Reader_readList.2.1 36 = .ok (.aload_n 0, 1) := by decide +kernel
theorem d_Reader_readList_37 : decode M_Reader_readList.2.1 37 = .ok (.aload_n 1, 1) := by decide +kernel
theorem d_Reader_readList_38 : decode M_Reader_readList.2.1 38 = .ok (.invokevirtual 166, 3) := by decide +kernel
theorem d_Reader_readList_41 : decode M_Reader_readList.2.1 41 = .ok (.lastore, 1) := by decide +kernel
theorem d_Reader_readList_42 : decode M_Reader_readList.2.1 42 = .ok (.aload_n 2, 1) := by decide +kernel
theorem d_Reader_readList_43 : decode M_Reader_readList.2.1 43 = .ok (.iload_n 3, 1) := by decide +kernel
theorem d_Reader_readList_44 : decode M_Reader_readList.2.1 44 = .ok (.laload, 1) := by decide +kernel
theorem d_Reader_readList_45 : decode M_Reader_readList.2.1 45 = .ok (.lconst 0, 1) := by decide +kernel
theorem d_Reader_readList_46 : decode M_Reader_readList.2.1 46 = .ok (.lcmp, 1) := by decide +kernel
theorem d_Reader_readList_47 : decode M_Reader_readList.2.1 47 = .ok (.ifCond .ne 5, 3) := by decide +kernel
theorem d_Reader_readList_50 : decode M_Reader_readList.2.1 50 = .ok (.aconst_null, 1) := by decide +kernel
theorem d_Reader_readList_51 : decode M_Reader_readList.2.1 51 = .ok (.areturn, 1) := by decide +kernel
theorem d_Reader_readList_52 : decode M_Reader_readList.2.1 52 = .ok (.aload_n 0, 1) := by decide +kernel
theorem d_Reader_readList_53 : decode M_Reader_readList.2.1 53 = .ok (.bipush 93, 2) := by decide +kernel
theorem d_Reader_readList_55 : decode M_Reader_readList.2.1 55 = .ok (.invokevirtual 130, 3) := by decide +kernel
theorem xw_959 : (Jvm.Cond.code ({ cls := "MarkerText$Reader", name := "takesSign", desc := "(C)Z" } : Jvm.MethodName) prog_10_method_15_code (2 : Nat) (Option.some Jvm.ClassFile.FieldType.boolean)) ∈ xT := xT_at 959 (by decide +kernel) (by decide +kernel)
theorem xcb_Reader_takesSign : xcb M_Reader_takesSign 1 := ⟨xw_959, xw_23, by decide, by decide, by decide, by decide +kernel⟩
theorem xw_958 : (Jvm.Cond.instanceMethod ({ cls := "MarkerText$Reader", name := "takesSign", desc := "(C)Z" } : Jvm.MethodName)) ∈ xT := xT_at 958 (by decide +kernel) (by decide +kernel)
theorem xw_956 : (Jvm.Cond.methodLink "MarkerText$Reader" (130 : Nat) ({ cls := "MarkerText$Reader", name := "takesSign", desc := "(C)Z" } : Jvm.MethodName)) ∈ xT := xT_at 956 (by decide +kernel) (by decide +kernel)
theorem xsel_Reader_takesSign : Cond.selects "MarkerText$Reader" y_Reader_takesSign y_Reader_takesSign ∈ xT := xT_sel (q := (y_Reader_takesSign, 7)) (by decide +kernel) (by decide +kernel)
theorem xcv_Reader_130_Reader : xCV "MarkerText$Reader" 130 "MarkerText$Reader" M_Reader_takesSign 1 := ⟨xcb_Reader_takesSign, xw_958, Or.inl ⟨xw_956, Or.inl xsel_Reader_takesSign⟩⟩
theorem d_Reader_readList_58 : decode M_Reader_readList.2.1 58 = .ok (.ifCond .eq 21, 3) := by decide +kernel
theorem d_Reader_readList_61 : decode M_Reader_readList.2.1 61 = .ok (.aload_n 0, 1) := by decide +kernel
theorem d_Reader_readList_62 : decode M_Reader_readList.2.1 62 = .ok (.getfield 21, 3) := by decide +kernel
theorem d_Reader_readList_65 : decode M_Reader_readList.2.1 65 = .ok (.bipush 93, 2) := by decide +kernel
theorem d_Reader_readList_67 : decode M_Reader_readList.2.1 67 = .ok (.invokevirtual 143, 3) := by decide +kernel
theorem d_Reader_readList_70 : decode M_Reader_readList.2.1 70 = .ok (.pop, 1) := by decide +kernel
theorem d_Reader_readList_71 : decode M_Reader_readList.2.1 71 = .ok (.aload_n 2, 1) := by decide +kernel
theorem d_Reader_readList_72 : decode M_Reader_readList.2.1 72 = .ok (.iload_n 3, 1) := by decide +kernel
theorem d_Reader_readList_73 : decode M_Reader_readList.2.1 73 = .ok (.iconst 1, 1) := by decide +kernel
theorem d_Reader_readList_74 : decode M_Reader_readList.2.1 74 = .ok (.iadd, 1) := by decide +kernel
theorem d_Reader_readList_75 : decode M_Reader_readList.2.1 75 = .ok (.invokestatic 170, 3) := by decide +kernel
theorem xw_1001 : (Jvm.Cond.code ({ cls := "java/util/Arrays", name := "copyOf", desc := "([JI)[J" } : Jvm.MethodName) prog_34_method_124_code (3 : Nat) (Option.some (Jvm.ClassFile.FieldType.array Jvm.ClassFile.FieldType.long))) ∈ xT := xT_at 1001 (by decide +kernel) (by decide +kernel)
theorem xcb_Arrays_copyOf_aJI : xcb M_Arrays_copyOf_aJI 2 := ⟨xw_1001, xw_11, by decide, by decide, by decide, by decide +kernel⟩
theorem xw_999 : (Jvm.Cond.methodLink "MarkerText$Reader" (170 : Nat) ({ cls := "java/util/Arrays", name := "copyOf", desc := "([JI)[J" } : Jvm.MethodName)) ∈ xT := xT_at 999 (by decide +kernel) (by decide +kernel)
theorem xw_1000 : (Jvm.Cond.static ({ cls := "java/util/Arrays", name := "copyOf", desc := "([JI)[J" } : Jvm.MethodName)) ∈ xT := xT_at 1000 (by decide +kernel) (by decide +kernel)
theorem xcs_Reader_170 : xCS "MarkerText$Reader" 170 M_Arrays_copyOf_aJI 2 := ⟨xcb_Arrays_copyOf_aJI, xw_1000, Or.inl xw_999⟩
theorem d_Reader_readList_78 : decode M_Reader_readList.2.1 78 = .ok (.areturn, 1) := by decide +kernel
theorem d_Reader_readList_79 : decode M_Reader_readList.2.1 79 = .ok (.aload_n 0, 1) := by decide +kernel
theorem d_Reader_readList_80 : decode M_Reader_readList.2.1 80 = .ok (.bipush 44, 2) := by decide +kernel
theorem d_Reader_readList_82 : decode M_Reader_readList.2.1 82 = .ok (.invokevirtual 130, 3) := by decide +kernel
theorem d_Reader_readList_85 : decode M_Reader_readList.2.1 85 = .ok (.ifCond .ne 5, 3) := by decide +kernel
theorem d_Reader_readList_90 : decode M_Reader_readList.2.1 90 = .ok (.aload_n 0, 1) := by decide +kernel
theorem d_Reader_readList_91 : decode M_Reader_readList.2.1 91 = .ok (.getfield 21, 3) := by decide +kernel
theorem d_Reader_readList_94 : decode M_Reader_readList.2.1 94 = .ok (.ldc 176, 2) := by decide +kernel
theorem d_Reader_readList_96 : decode M_Reader_readList.2.1 96 = .ok (.invokevirtual 139, 3) := by decide +kernel
theorem d_Reader_readList_99 : decode M_Reader_readList.2.1 99 = .ok (.pop, 1) := by decide +kernel
theorem d_Reader_readList_100 : decode M_Reader_readList.2.1 100 = .ok (.iinc 3 1, 3) := by decide +kernel
theorem d_Reader_readList_103 : decode M_Reader_readList.2.1 103 = .ok (.goto (-75), 3) := by decide +kernel
theorem d_Reader_readList_88 : decode M_Reader_readList.2.1 88 = .ok (.aconst_null, 1) := by decide +kernel
theorem d_Reader_readList_89 : decode M_Reader_readList.2.1 89 = .ok (.areturn, 1) := by decide +kernel
theorem d_Reader_readList_0 : decode M_Reader_readList.2.1 0 = .ok (.aload_n 0, 1) := by decide +kernel
theorem d_Reader_readList_1 : decode M_Reader_readList.2.1 1 = .ok (.bipush 91, 2) := by decide +kernel
theorem d_Reader_readList_3 : decode M_Reader_readList.2.1 3 = .ok (.invokevirtual 130, 3) := by decide +kernel
theorem d_Reader_readList_6 : decode M_Reader_readList.2.1 6 = .ok (.ifCond .ne 5, 3) := by decide +kernel
theorem d_Reader_readList_11 : decode M_Reader_readList.2.1 11 = .ok (.aload_n 0, 1) := by decide +kernel
theorem d_Reader_readList_12 : decode M_Reader_readList.2.1 12 = .ok (.getfield 21, 3) := by decide +kernel
theorem d_Reader_readList_15 : decode M_Reader_readList.2.1 15 = .ok (.bipush 91, 2) := by decide +kernel
theorem d_Reader_readList_17 : decode M_Reader_readList.2.1 17 = .ok (.invokevirtual 143, 3) := by decide +kernel
theorem d_Reader_readList_20 : decode M_Reader_readList.2.1 20 = .ok (.pop, 1) := by decide +kernel
theorem d_Reader_readList_21 : decode M_Reader_readList.2.1 21 = .ok (.bipush 6, 2) := by decide +kernel
theorem d_Reader_readList_23 : decode M_Reader_readList.2.1 23 = .ok (.newarray .long, 2) := by decide +kernel
theorem d_Reader_readList_25 : decode M_Reader_readList.2.1 25 = .ok (.astore_n 2, 1) := by decide +kernel
theorem d_Reader_readList_26 : decode M_Reader_readList.2.1 26 = .ok (.iconst 0, 1) := by decide +kernel
theorem d_Reader_readList_27 : decode M_Reader_readList.2.1 27 = .ok (.istore_n 3, 1) := by decide +kernel
theorem d_Reader_readList_9 : decode M_Reader_readList.2.1 9 = .ok (.aconst_null, 1) := by decide +kernel
theorem d_Reader_readList_10 : decode M_Reader_readList.2.1 10 = .ok (.areturn, 1) := by decide +kernel
end
section RD6
variable {l : Launch} {G : XG} {h : XH} {c n d : Nat}
theorem XW.imp {M : XMt} {pc : Nat} {L : List (Option Value)} {st : List Value} {P Q : Option Value → XH → Nat → Nat → Prop} (k : XW l G M d pc L st h c n P) (hq : ∀ v h' c' n', P v h' c' n' → Q v h' c' n') : XW l G M d pc L st h c n Q := by
  intro p e R s m args below meth cd H locs cells slots ls hF hR hl hL hV hS hN T hT X
  obtain ⟨t, b1, o, o1, o2, ⟨⟨v, h', c', n', q1, q2, q3⟩, q4⟩, o4⟩ := k p e R s m args below meth cd H locs cells slots ls hF hR hl hL hV hS hN T hT X
  exact ⟨t, b1, o, o1, o2, ⟨⟨v, h', c', n', q1, hq _ _ _ _ q2, q3⟩, q4⟩, o4⟩
theorem scn_idem {q : Nat → Bool} {t : List Nat} : ∀ (k p : Nat), p + k = t.length → scn q t (scn q t p) = scn q t p := by
  intro k
  induction k with
  | zero =>
    intro p hp
    rw [scn_end (t := t) (p := p) (by omega), scn_end (by omega)]
  | succ k ih =>
    intro p hp
    have hpl : p < t.length := by omega
    cases hq : q t[p] with
    | true => rw [scn_step hpl hq]; exact ih (p + 1) (by omega)
    | false => rw [scn_stop hpl hq, scn_stop hpl hq]
theorem skp_idem {t : List Nat} {p : Nat} (hp : p ≤ t.length) : skp t (skp t p) = skp t p := scn_idem (t.length - p) p (by omega)
/-- the VALUES of a list, of which at most k more may come -/
def rls (t : List Nat) (kd : Nat) : Nat → Nat → List Nat → Nat × Option (List Nat) × List Nat
  | 0, p, _ => (skp t p, none, [])
  | k + 1, p, us =>
    if (rvl t kd p).2.1 = 0 then ((rvl t kd p).1, none, (rvl t kd p).2.2)
    else if chr t (skp t (rvl t kd p).1) = 93 then (skp t (rvl t kd p).1 + 1, some (us ++ [(rvl t kd p).2.1]), (rvl t kd p).2.2 ++ [93])
    else if chr t (skp t (rvl t kd p).1) = 44 then ((rls t kd k (skp t (rvl t kd p).1 + 1) (us ++ [(rvl t kd p).2.1])).1, (rls t kd k (skp t (rvl t kd p).1 + 1) (us ++ [(rvl t kd p).2.1])).2.1, (rvl t kd p).2.2 ++ (xtx 23 ++ (rls t kd k (skp t (rvl t kd p).1 + 1) (us ++ [(rvl t kd p).2.1])).2.2))
    else (skp t (rvl t kd p).1, none, (rvl t kd p).2.2)
def rlist (t : List Nat) (kd p : Nat) : Nat × Option (List Nat) × List Nat := if chr t (skp t p) = 91 then ((rls t kd 6 (skp t p + 1) []).1, (rls t kd 6 (skp t p + 1) []).2.1, 91 :: (rls t kd 6 (skp t p + 1) []).2.2) else (skp t p, none, [])
theorem c_readList (hG : xGk G) (hd : 8 ≤ d) {K r ta na la ba va p o tc m oa ka kd : Nat} {t ln w ks : List Nat} (hr : h r = some (rdO ta na la ba p o tc)) (hS : isS G h ta t) (hl : t.length < 2 ^ 20) (hp : p ≤ t.length) (hB : isB h ba va ln m) (hN : isN G h oa ka w kd ks) (hK : K < 2 ^ 16) (hm : m ≤ K) (hL : 2 * (ln.length + (rlist t kd p).2.2.length) + 4 ≤ K) (hc : c + K + 14 ≤ xCB + m) (hn : n + 2 * K + (6 * (t.length + 5) + 12) ≤ xSB + 2 * m) :
    XM l G d M_Reader_readList [.ref r, .ref oa] h c n (fun v h' c' n' => pVs h h' v (rlist t kd p).2.1 ∧ pR 14 (6 * (t.length + 5) + 12) K r ba va (rdO ta na la ba (rlist t kd p).1 o tc) (ln ++ (rlist t kd p).2.2) m h c n h' c' n') := by
  obtain ⟨d, rfl⟩ : ∃ q, d = q + 1 := ⟨d - 1, by omega⟩
  have hkr : xno h [r, ba, va] [k_String, k_asbyte, k_Name, k_aknown] := hB.kR hr (by decide) (by decide) (by decide)
  have hSf : ∀ {h1 : XH}, xfr h h1 [r, ba, va] → isS G h1 ta t := fun f => hS.fr f (hkr.sub (by decide))
  have hNf : ∀ {h1 : XH}, xfr h h1 [r, ba, va] → isN G h1 oa ka w kd ks := fun f => by
    obtain ⟨sa, y1, -, y3, -⟩ := id hN
    exact hN.fr f (hkr.sub (by decide)) (hkr.at y1 (by decide)) (hkr.at y3 (by decide))
  have lp : ∀ (arr : Nat), h arr = none → ∀ (k : Nat) (us : List Nat) (p c1 n1 C1 N1 : Nat) (h1 : XH) (ln1 : List Nat), us.length + k = 6 → p ≤ t.length → pR C1 N1 K r ba va (rdO ta na la ba p o tc) ln1 m h c n h1 c1 n1 → h1 arr = some (k_avals, xlv 6 us) → 2 * (ln1.length + (rls t kd k p us).2.2.length) + 4 ≤ K → c + K + C1 + (2 * k + 1) ≤ xCB + m → n + 2 * K + N1 + (k * (t.length + 5) + 6) ≤ xSB + 2 * m →
      XW l G M_Reader_readList (d + 1) 28 [some (.ref r), some (.ref oa), some (.ref arr), some (.int (nI us.length))] [] h1 c1 n1 (fun v h' c' n' => pVs h h' v (rls t kd k p us).2.1 ∧ pR (C1 + (2 * k + 1)) (N1 + (k * (t.length + 5) + 6)) K r ba va (rdO ta na la ba (rls t kd k p us).1 o tc) (ln1 ++ (rls t kd k p us).2.2) m h c n h' c' n') := by
    intro arr harr k
    induction k with
    | zero =>
      intro us p c1 n1 C1 N1 h1 ln1 hk hp p1 ha1 hL1 hc1 hn1
      obtain ⟨va1, m1, r1, b1, f1, w1, g1⟩ := id p1
      refine x_iload_n d_Reader_readList_28 rfl ?_
      refine x_bipush (v := 6) d_Reader_readList_29 (by decide) ?_
      refine x_icmp_ge (tgt := 106) d_Reader_readList_31 (by decide) (fun _ => ?_) (fun hn => absurd (nI_le (a := 6) (by omega) (by omega)) hn)
      refine x_aload_n d_Reader_readList_106 rfl rfl ?_
      refine x_callV (As := []) (k := k_Reader) rfl xcv_Reader_49_Reader (Or.inl r1) (c_skipBlanks hG (by omega) r1 (hSf f1) hl hp) rfl rfl (Nat.le_of_ble_eq_true rfl) d_Reader_readList_107 ?_
      rintro v h2 c2 n2 ⟨rfl, rfl, rfl, rfl⟩
      refine x_null d_Reader_readList_110 ?_
      refine x_aret d_Reader_readList_111 rfl rfl ?_
      refine ⟨rfl, ?_⟩
      show pR _ _ K r ba va (rdO ta na la ba (skp t p) o tc) (ln1 ++ []) m h c n _ _ _
      rw [List.append_nil]
      exact (pR.tr r1 b1 f1 w1 g1 (pR.ofU (c := c2) (n := n2) (e := rdO ta na la ba (skp t p) o tc) r1 b1 g1.2.1)).mono (by omega) (by omega)
    | succ k ih =>
      intro us p c1 n1 C1 N1 h1 ln1 hk hp p1 ha1 hL1 hc1 hn1
      rw [Nat.add_mul k 1, Nat.one_mul] at hn1 ⊢
      generalize hkB : k * (t.length + 5) = kB at hn1 ⊢
      have hv63 := rvl_lt (kd := kd) (p := p) hS.asc
      have hR1 := rvl_le (kd := kd) hp
      have hR2 := skp_le hR1
      obtain ⟨va1, m1, r1, b1, f1, w1, g1⟩ := id p1
      have hlen : (rvl t kd p).2.2.length ≤ (rls t kd (k + 1) p us).2.2.length := by
        unfold rls
        split
        · exact Nat.le_refl _
        · split
          · simp
          · split
            · simp
            · exact Nat.le_refl _
      refine x_iload_n d_Reader_readList_28 rfl ?_
      refine x_bipush (v := 6) d_Reader_readList_29 (by decide) ?_
      refine x_icmp_ge (tgt := 106) d_Reader_readList_31 (by decide) (fun ht => absurd ht (nI_ge (b := 6) (by omega) (by omega))) (fun _ => ?_)
      refine x_aload_n d_Reader_readList_34 rfl rfl ?_
      refine x_iload_n d_Reader_readList_35 rfl ?_
      refine x_aload_n d_Reader_readList_36 rfl rfl ?_
      refine x_aload_n d_Reader_readList_37 rfl rfl ?_
      refine x_callV (As := [_]) (k := k_Reader) rfl xcv_Reader_166_Reader (Or.inl r1) (c_readValue (K := K) hG (by omega) r1 (hSf f1) hl hp b1 (hNf f1) hK g1.2.1 (by omega) (by omega) (by omega)) rfl rfl (Nat.le_of_ble_eq_true rfl) d_Reader_readList_38 ?_
      rintro v h2 c2 n2 ⟨rfl, p2⟩
      obtain ⟨va2, m2, r2, b2, f2, w2, g2⟩ := id p2
      have ha2 : h2 arr = some (k_avals, xlv 6 us) := f2.1 _ _ ha1 ((b1.kR r1 (ks := [k_avals]) (by decide) (by decide) (by decide)).at ha1 (by decide))
      have p2' := pR.tr r1 b1 f1 w1 g1 p2
      refine x_last (k := k_avals) rfl ha2 (nI_pos (by omega)) (by rw [nI_clamp (by omega)]; exact xlv_end (by omega)) d_Reader_readList_41 ?_
      rw [nI_clamp (by omega), xlv_push (by omega)]
      have p3 := p2'.upF (e' := (k_avals, xlv 6 (us ++ [(rvl t kd p).2.1]))) harr ha2 ⟨by show k_avals ≠ k_Reader; decide, by decide, by decide⟩
      have ha3 : xup h2 arr (k_avals, xlv 6 (us ++ [(rvl t kd p).2.1])) arr = some (k_avals, xlv 6 (us ++ [(rvl t kd p).2.1])) := xup_self
      revert p3 ha3
      generalize xup h2 arr (k_avals, xlv 6 (us ++ [(rvl t kd p).2.1])) = h3
      intro p3 ha3
      have hix : (xlv 6 (us ++ [(rvl t kd p).2.1]))[(nI us.length).toNatClampNeg]? = some (.long (lN (rvl t kd p).2.1)) := by
        rw [nI_clamp (by omega), xlv_at (by simp)]
        simp
      obtain ⟨va3, m3, r3, b3, f3, w3, g3⟩ := id p3
      refine x_aload_n d_Reader_readList_42 rfl rfl ?_
      refine x_iload_n d_Reader_readList_43 rfl ?_
      refine x_lald (k := k_avals) rfl (Or.inl ha3) (nI_pos (by omega)) hix d_Reader_readList_44 ?_
      refine x_lconst (v := 0) d_Reader_readList_45 (by decide) ?_
      refine x_lcmp d_Reader_readList_46 ?_
      by_cases hz : (rvl t kd p).2.1 = 0
      · have hrl : rls t kd (k + 1) p us = ((rvl t kd p).1, none, (rvl t kd p).2.2) := if_pos hz
        refine x_if_ne (tgt := 52) d_Reader_readList_47 (by decide) (fun ht => absurd ((lg_cmp_eq _ _).mpr (by rw [hz]; rfl)) ht) (fun _ => ?_)
        refine x_null d_Reader_readList_50 ?_
        refine x_aret d_Reader_readList_51 rfl rfl ?_
        rw [hrl]
        exact ⟨rfl, p3.mono (by omega) (by omega)⟩
      refine x_if_ne (tgt := 52) d_Reader_readList_47 (by decide) (fun _ => ?_) (fun hn => absurd hn (fun z => hz ((pk_lEQ (b := 0) hv63 (by decide)).mp ((lg_cmp_eq _ _).mp z))))
      refine x_aload_n d_Reader_readList_52 rfl rfl ?_
      refine x_bipush (v := 93) d_Reader_readList_53 (by decide) ?_
      refine x_callV (As := [_]) (k := k_Reader) rfl xcv_Reader_130_Reader (Or.inl r3) (c_takesSign (ch := 93) hG (by omega) r3 (hSf f3) hl hR1 (by decide)) rfl rfl (Nat.le_of_ble_eq_true rfl) d_Reader_readList_55 ?_
      rintro v h4 c4 n4 ⟨rfl, rfl, rfl, rfl⟩
      by_cases h93 : chr t (skp t (rvl t kd p).1) = 93
      · have hrl : rls t kd (k + 1) p us = (skp t (rvl t kd p).1 + 1, some (us ++ [(rvl t kd p).2.1]), (rvl t kd p).2.2 ++ [93]) := by
          show (if _ then _ else _) = _
          rw [if_neg hz, if_pos h93]
        have htk : tkS t (rvl t kd p).1 93 = skp t (rvl t kd p).1 + 1 := if_pos h93
        rw [htk, hrl]
        rw [hrl] at hL1
        simp only [List.length_append, List.length_singleton] at hL1
        have ha4 : xup h3 r (rdO ta na la ba (skp t (rvl t kd p).1 + 1) o tc) arr = some (k_avals, xlv 6 (us ++ [(rvl t kd p).2.1])) := by rw [xup_ne (xne ha3 r3 (by decide))]; exact ha3
        obtain ⟨va4, m4, r4, b4, f4, w4, g4⟩ := pR.tr r3 b3 f3 w3 g3 (pR.ofU (c := c4) (n := n4) (e := rdO ta na la ba (skp t (rvl t kd p).1 + 1) o tc) r3 b3 g3.2.1)
        obtain ⟨z4, bs4, hb4, -⟩ := id b4
        refine x_if_eq (tgt := 79) d_Reader_readList_58 (by decide) (fun ht => absurd ht (by rw [decide_eq_true h93]; decide)) (fun _ => ?_)
        refine x_aload_n d_Reader_readList_61 rfl rfl ?_
        refine x_get xf_Reader_21_Reader (Or.inl r4) rfl d_Reader_readList_62 ?_
        refine x_bipush (v := 93) d_Reader_readList_65 (by decide) ?_
        refine x_callV (As := [_]) (k := k_StringBuilder) rfl xcv_Reader_143_SB (Or.inl hb4) (c_SB_append_C (K := K) (ch := 93) (by omega) b4 (by decide) hK g4.2.1 (by simp; omega) (by omega) (by omega)) rfl rfl (Nat.le_of_ble_eq_true rfl) d_Reader_readList_67 ?_
        rintro v h5 c5 n5 ⟨rfl, p5⟩
        have p5' := pR.ofB r4 b4 p5
        obtain ⟨_, _, _, _, f5, _, _⟩ := id p5'
        have ha5 : h5 arr = some (k_avals, xlv 6 (us ++ [(rvl t kd p).2.1])) := f5.1 _ _ ha4 ((b4.kR r4 (ks := [k_avals]) (by decide) (by decide) (by decide)).at ha4 (by decide))
        have p6 := pR.tr r4 b4 f4 w4 g4 p5'
        obtain ⟨va6, m6, r6, b6, f6, w6, g6⟩ := id p6
        refine x_pop d_Reader_readList_70 rfl ?_
        refine x_aload_n d_Reader_readList_71 rfl rfl ?_
        refine x_iload_n d_Reader_readList_72 rfl ?_
        refine x_iconst (v := 1) d_Reader_readList_73 (by decide) ?_
        refine x_iadd d_Reader_readList_74 ?_
        refine x_st (st' := [.int (nI (us ++ [(rvl t kd p).2.1]).length), .ref arr]) (by rw [show (1 : Int32) = nI 1 from rfl, nI_add]; simp) ?_
        refine x_callS (As := [_, _]) xcs_Reader_170 (c_copyOf_aJ (by omega) ha5 (by simp; omega) (by omega) (by omega)) rfl rfl (Nat.le_of_ble_eq_true rfl) d_Reader_readList_75 ?_
        rintro v h7 c7 n7 ⟨q, rfl, hq, rfl, rfl, rfl⟩
        refine x_aret d_Reader_readList_78 rfl rfl ?_
        obtain ⟨p7, hq0⟩ := p6.upN (a := q) (e' := (k_avals, (us ++ [(rvl t kd p).2.1]).map (fun v => Value.long (lN v)))) hq (dc := 1) (dn := ((us ++ [(rvl t kd p).2.1]).map (fun v => Value.long (lN v))).length)
        rw [List.append_assoc] at p7
        exact ⟨⟨q, rfl, hq0, xup_self⟩, p7.mono (by omega) (by simp; omega)⟩
      · have htk : tkS t (rvl t kd p).1 93 = skp t (rvl t kd p).1 := if_neg h93
        rw [htk]
        have ha4 : xup h3 r (rdO ta na la ba (skp t (rvl t kd p).1) o tc) arr = some (k_avals, xlv 6 (us ++ [(rvl t kd p).2.1])) := by rw [xup_ne (xne ha3 r3 (by decide))]; exact ha3
        have p4 := pR.tr r3 b3 f3 w3 g3 (pR.ofU (c := c4) (n := n4) (e := rdO ta na la ba (skp t (rvl t kd p).1) o tc) r3 b3 g3.2.1)
        revert p4 ha4
        generalize xup h3 r (rdO ta na la ba (skp t (rvl t kd p).1) o tc) = h4
        intro ha4 p4
        obtain ⟨va4, m4, r4, b4, f4, w4, g4⟩ := id p4
        refine x_if_eq (tgt := 79) d_Reader_readList_58 (by decide) (fun _ => ?_) (fun hn => absurd (by rw [decide_eq_false h93]; rfl) hn)
        refine x_aload_n d_Reader_readList_79 rfl rfl ?_
        refine x_bipush (v := 44) d_Reader_readList_80 (by decide) ?_
        refine x_callV (As := [_]) (k := k_Reader) rfl xcv_Reader_130_Reader (Or.inl r4) (c_takesSign (ch := 44) hG (by omega) r4 (hSf f4) hl hR2 (by decide)) rfl rfl (Nat.le_of_ble_eq_true rfl) d_Reader_readList_82 ?_
        rintro v h5 c5 n5 ⟨rfl, rfl, rfl, rfl⟩
        unfold tkS
        rw [skp_idem hR1]
        by_cases h44 : chr t (skp t (rvl t kd p).1) = 44
        · have hrl : rls t kd (k + 1) p us = ((rls t kd k (skp t (rvl t kd p).1 + 1) (us ++ [(rvl t kd p).2.1])).1, (rls t kd k (skp t (rvl t kd p).1 + 1) (us ++ [(rvl t kd p).2.1])).2.1, (rvl t kd p).2.2 ++ (xtx 23 ++ (rls t kd k (skp t (rvl t kd p).1 + 1) (us ++ [(rvl t kd p).2.1])).2.2)) := by
            show (if _ then _ else _) = _
            rw [if_neg hz, if_neg h93, if_pos h44]
          have hsl : skp t (rvl t kd p).1 < t.length := Nat.lt_of_not_le (fun z => by rw [chr_out z] at h44; omega)
          rw [if_pos h44, hrl]
          rw [hrl] at hL1
          simp only [List.length_append] at hL1
          have ha5 : xup h4 r (rdO ta na la ba (skp t (rvl t kd p).1 + 1) o tc) arr = some (k_avals, xlv 6 (us ++ [(rvl t kd p).2.1])) := by rw [xup_ne (xne ha4 r4 (by decide))]; exact ha4
          obtain ⟨va5, m5, r5, b5, f5, w5, g5⟩ := pR.tr r4 b4 f4 w4 g4 (pR.ofU (c := c5) (n := n5) (e := rdO ta na la ba (skp t (rvl t kd p).1 + 1) o tc) r4 b4 g4.2.1)
          obtain ⟨z5, bs5, hb5, -⟩ := id b5
          refine x_if_ne (tgt := 90) d_Reader_readList_85 (by decide) (fun _ => ?_) (fun hn => absurd hn (by rw [decide_eq_true h44]; decide))
          refine x_aload_n d_Reader_readList_90 rfl rfl ?_
          refine x_get xf_Reader_21_Reader (Or.inl r5) rfl d_Reader_readList_91 ?_
          refine x_ldcS (i := 23) (tx := ", ") (by decide +kernel) d_Reader_readList_94 ?_
          refine x_callV (As := [_]) (k := k_StringBuilder) rfl xcv_Reader_139_SB (Or.inl hb5) (c_SB_append_S (K := K) (by omega) b5 (hG.str (by decide)) hK g5.2.1 (by simp only [List.length_append]; omega) (by omega) (by omega)) rfl rfl (Nat.le_of_ble_eq_true rfl) d_Reader_readList_96 ?_
          rintro v h6 c6 n6 ⟨rfl, p6⟩
          have p6' := pR.ofB r5 b5 p6
          obtain ⟨_, _, _, _, f6, _, _⟩ := id p6'
          have ha6 : h6 arr = some (k_avals, xlv 6 (us ++ [(rvl t kd p).2.1])) := f6.1 _ _ ha5 ((b5.kR r5 (ks := [k_avals]) (by decide) (by decide) (by decide)).at ha5 (by decide))
          have p7 := pR.tr r5 b5 f5 w5 g5 p6'
          refine x_pop d_Reader_readList_99 rfl ?_
          refine x_iinc (v := nI (us.length + 1)) (L' := [_, _, _, _]) d_Reader_readList_100 rfl (by exact xw_iinc1) rfl rfl ?_
          refine x_goto (tgt := 28) d_Reader_readList_103 (by decide) ?_
          have hus : (us ++ [(rvl t kd p).2.1]).length = us.length + 1 := by simp
          have := ih (us ++ [(rvl t kd p).2.1]) (skp t (rvl t kd p).1 + 1) c6 n6 _ _ h6 _ (by omega) (by omega) p7 ha6 (by simp only [List.length_append]; omega) (by omega) (by omega)
          rw [hus] at this
          refine XW.imp this (fun v h' c' n' hq => ⟨hq.1, ?_⟩)
          have hq2 := hq.2
          rw [List.append_assoc, List.append_assoc] at hq2
          exact hq2.mono (by omega) (by omega)
        · have hrl : rls t kd (k + 1) p us = (skp t (rvl t kd p).1, none, (rvl t kd p).2.2) := by
            show (if _ then _ else _) = _
            rw [if_neg hz, if_neg h93, if_neg h44]
          rw [if_neg h44, hrl, xup_id r4]
          refine x_if_ne (tgt := 90) d_Reader_readList_85 (by decide) (fun ht => absurd (by rw [decide_eq_false h44]; rfl) ht) (fun _ => ?_)
          refine x_null d_Reader_readList_88 ?_
          refine x_aret d_Reader_readList_89 rfl rfl ?_
          exact ⟨rfl, p4.mono (by omega) (by omega)⟩
  refine XM.of (by decide +kernel) (Nat.le_of_ble_eq_true rfl) ?_
  have hq := skp_le hp
  refine x_aload_n d_Reader_readList_0 rfl rfl ?_
  refine x_bipush (v := 91) d_Reader_readList_1 (by decide) ?_
  refine x_callV (As := [_]) (k := k_Reader) rfl xcv_Reader_130_Reader (Or.inl hr) (c_takesSign (ch := 91) hG (by omega) hr hS hl hp (by decide)) rfl rfl (Nat.le_of_ble_eq_true rfl) d_Reader_readList_3 ?_
  rintro v h1 c1 n1 ⟨rfl, rfl, rfl, rfl⟩
  by_cases h91 : chr t (skp t p) = 91
  · have hrl : rlist t kd p = ((rls t kd 6 (skp t p + 1) []).1, (rls t kd 6 (skp t p + 1) []).2.1, 91 :: (rls t kd 6 (skp t p + 1) []).2.2) := if_pos h91
    have hsl : skp t p < t.length := Nat.lt_of_not_le (fun z => by rw [chr_out z] at h91; omega)
    rw [show tkS t p 91 = skp t p + 1 from if_pos h91, hrl]
    rw [hrl] at hL
    simp only [List.length_cons] at hL
    obtain ⟨va1, m1, r1, b1, f1, w1, g1⟩ := pR.ofU (c := c1) (n := n1) (e := rdO ta na la ba (skp t p + 1) o tc) hr hB hm
    obtain ⟨z1, bs1, hb1, -⟩ := id b1
    refine x_if_ne (tgt := 11) d_Reader_readList_6 (by decide) (fun _ => ?_) (fun hn => absurd hn (by rw [decide_eq_true h91]; decide))
    refine x_aload_n d_Reader_readList_11 rfl rfl ?_
    refine x_get xf_Reader_21_Reader (Or.inl r1) rfl d_Reader_readList_12 ?_
    refine x_bipush (v := 91) d_Reader_readList_15 (by decide) ?_
    refine x_callV (As := [_]) (k := k_StringBuilder) rfl xcv_Reader_143_SB (Or.inl hb1) (c_SB_append_C (K := K) (ch := 91) (by omega) b1 (by decide) hK g1.2.1 (by omega) (by omega) (by omega)) rfl rfl (Nat.le_of_ble_eq_true rfl) d_Reader_readList_17 ?_
    rintro v h2 c2 n2 ⟨rfl, p2⟩
    have p2' := pR.tr r1 b1 f1 w1 g1 (pR.ofB r1 b1 p2)
    obtain ⟨va2, m2, r2, b2, f2, w2, g2⟩ := id p2'
    refine x_pop d_Reader_readList_20 rfl ?_
    refine x_bipush (v := 6) d_Reader_readList_21 (by decide) ?_
    refine x_newa (k := k_avals) rfl rfl (fun _ hz => by cases hz) xw_110 (z := 6) (by decide) rfl (by decide) (by omega) (by omega) d_Reader_readList_23 (fun q hn_q hk_q => ?_)
    obtain ⟨p3, hq0⟩ := p2'.upN (a := q) (e' := (k_avals, xlv 6 [])) hn_q (dc := 1) (dn := 6)
    refine x_astore_n (L' := [_, _, _, _]) d_Reader_readList_25 rfl rfl rfl ?_
    refine x_iconst (v := 0) d_Reader_readList_26 (by decide) ?_
    refine x_istore_n (L' := [_, _, _, _]) d_Reader_readList_27 rfl rfl ?_
    have := lp q hq0 6 [] (skp t p + 1) _ _ _ _ _ _ rfl (by omega) p3 xup_self (by simp only [List.length_append, List.length_singleton]; omega) (by omega) (by omega)
    refine XW.imp this (fun v h' c' n' hh => ⟨hh.1, ?_⟩)
    have hq2 := hh.2
    rw [List.append_assoc] at hq2
    exact hq2.mono (by omega) (by omega)
  · have hrl : rlist t kd p = (skp t p, none, []) := if_neg h91
    rw [show tkS t p 91 = skp t p from if_neg h91, hrl]
    refine x_if_ne (tgt := 11) d_Reader_readList_6 (by decide) (fun ht => absurd (by rw [decide_eq_false h91]; rfl) ht) (fun _ => ?_)
    refine x_null d_Reader_readList_9 ?_
    refine x_aret d_Reader_readList_10 rfl rfl ?_
    refine ⟨rfl, ?_⟩
    rw [List.append_nil]
    exact (pR.ofU (c := c1) (n := n1) (e := rdO ta na la ba (skp t p) o tc) hr hB hm).mono (by omega) (by omega)
end RD6
end
section
section
abbrev y_Node_init : MethodName := ⟨"MarkerText$Node", "<init>", "(I)V"⟩
abbrev M_Node_init : XMt := (y_Node_init, prog_8_method_1_code, 2, none)
theorem d_Node_init_0 : decode M_Node_init.2.1 0 = .ok (.aload_n 0, 1) := by decide +kernel
theorem d_Node_init_1 : decode M_Node_init.2.1 1 = .ok (.invokespecial 1, 3) := by decide +kernel
theorem xw_944 : (Jvm.Cond.methodLink "MarkerText$Node" (1 : Nat) ({ cls := "java/lang/Object", name := "<init>", desc := "()V" } : Jvm.MethodName)) ∈ xT := xT_at 944 (by decide +kernel) (by decide +kernel)
theorem d_Node_init_4 : decode M_Node_init.2.1 4 = .ok (.aload_n 0, 1) := by decide +kernel
theorem d_Node_init_5 : decode M_Node_init.2.1 5 = .ok (.iload_n 1, 1) := by decide +kernel
theorem d_Node_init_6 : decode M_Node_init.2.1 6 = .ok (.putfield 7, 3) := by decide +kernel
theorem xw_946 : (Jvm.Cond.fieldLink "MarkerText$Node" (7 : Nat) "MarkerText$Node" "strength" "I") ∈ xT := xT_at 946 (by decide +kernel) (by decide +kernel)
theorem xf_Node_7_Test : xF "MarkerText$Node" 7 k_Test 4 := ⟨_, _, _, "MarkerText$Node", rfl, by decide, Or.inl xw_946, Or.inl rfl⟩
theorem xp_Test_4 : xP k_Test 4 true .int := ⟨_, _, _, rfl, rfl, by decide +kernel⟩
theorem d_Node_init_9 : decode M_Node_init.2.1 9 = .ok (.return_, 1) := by decide +kernel
theorem xf_Node_7_Join : xF "MarkerText$Node" 7 k_Join 2 := ⟨_, _, _, "MarkerText$Node", rfl, by decide, Or.inl xw_946, Or.inl rfl⟩
theorem xp_Join_2 : xP k_Join 2 true .int := ⟨_, _, _, rfl, rfl, by decide +kernel⟩
theorem xf_Node_7_Negation : xF "MarkerText$Node" 7 k_Negation 1 := ⟨_, _, _, "MarkerText$Node", rfl, by decide, Or.inl xw_946, Or.inl rfl⟩
theorem xp_Negation_1 : xP k_Negation 1 true .int := ⟨_, _, _, rfl, rfl, by decide +kernel⟩
theorem xf_Node_7_Constant : xF "MarkerText$Node" 7 k_Constant 1 := ⟨_, _, _, "MarkerText$Node", rfl, by decide, Or.inl xw_946, Or.inl rfl⟩
theorem xp_Constant_1 : xP k_Constant 1 true .int := ⟨_, _, _, rfl, rfl, by decide +kernel⟩
abbrev y_Test_init : MethodName := ⟨"MarkerText$Test", "<init>", "(II[JLjava/lang/String;)V"⟩
abbrev M_Test_init : XMt := (y_Test_init, prog_11_method_1_code, 5, none)
theorem d_Test_init_0 : decode M_Test_init.2.1 0 = .ok (.aload_n 0, 1) := by decide +kernel
theorem d_Test_init_1 : decode M_Test_init.2.1 1 = .ok (.iconst 3, 1) := by decide +kernel
theorem d_Test_init_2 : decode M_Test_init.2.1 2 = .ok (.invokespecial 5, 3) := by decide +kernel
theorem xw_943 : (Jvm.Cond.code ({ cls := "MarkerText$Node", name := "<init>", desc := "(I)V" } : Jvm.MethodName) prog_8_method_1_code (2 : Nat) (Option.none : Option Jvm.ClassFile.FieldType)) ∈ xT := xT_at 943 (by decide +kernel) (by decide +kernel)
theorem xcb_Node_init : xcb M_Node_init 1 := ⟨xw_943, xw_27, by decide, by decide, by decide, by decide +kernel⟩
theorem xw_1018 : (Jvm.Cond.methodLink "MarkerText$Test" (5 : Nat) ({ cls := "MarkerText$Node", name := "<init>", desc := "(I)V" } : Jvm.MethodName)) ∈ xT := xT_at 1018 (by decide +kernel) (by decide +kernel)
theorem xw_942 : (Jvm.Cond.instanceMethod ({ cls := "MarkerText$Node", name := "<init>", desc := "(I)V" } : Jvm.MethodName)) ∈ xT := xT_at 942 (by decide +kernel) (by decide +kernel)
theorem xci_Test_5 : xCI "MarkerText$Test" 5 M_Node_init 1 := ⟨xcb_Node_init, rfl, rfl, xw_942, Or.inl xw_1018⟩
theorem d_Test_init_5 : decode M_Test_init.2.1 5 = .ok (.aload_n 0, 1) := by decide +kernel
theorem d_Test_init_6 : decode M_Test_init.2.1 6 = .ok (.iload_n 1, 1) := by decide +kernel
theorem d_Test_init_7 : decode M_Test_init.2.1 7 = .ok (.putfield 9, 3) := by decide +kernel
theorem xp_Test_0 : xP k_Test 0 true .int := ⟨_, _, _, rfl, rfl, by decide +kernel⟩
theorem d_Test_init_10 : decode M_Test_init.2.1 10 = .ok (.aload_n 0, 1) := by decide +kernel
theorem d_Test_init_11 : decode M_Test_init.2.1 11 = .ok (.iload_n 2, 1) := by decide +kernel
theorem d_Test_init_12 : decode M_Test_init.2.1 12 = .ok (.putfield 15, 3) := by decide +kernel
theorem xp_Test_1 : xP k_Test 1 true .int := ⟨_, _, _, rfl, rfl, by decide +kernel⟩
theorem d_Test_init_15 : decode M_Test_init.2.1 15 = .ok (.aload_n 0, 1) := by decide +kernel
theorem d_Test_init_16 : decode M_Test_init.2.1 16 = .ok (.aload_n 3, 1) := by decide +kernel
theorem d_Test_init_17 : decode M_Test_init.2.1 17 = .ok (.putfield 18, 3) := by decide +kernel
theorem xp_Test_2 : xP k_Test 2 true (.array .long) := ⟨_, _, _, rfl, rfl, by decide +kernel⟩
theorem d_Test_init_20 : decode M_Test_init.2.1 20 = .ok (.aload_n 0, 1) := by decide +kernel
theorem d_Test_init_21 : decode M_Test_init.2.1 21 = .ok (.aload 4, 2) := by decide +kernel
theorem d_Test_init_23 : decode M_Test_init.2.1 23 = .ok (.putfield 22, 3) := by decide +kernel
theorem xp_Test_3 : xP k_Test 3 true (.object "java/lang/String") := ⟨_, _, _, rfl, rfl, by decide +kernel⟩
theorem d_Test_init_26 : decode M_Test_init.2.1 26 = .ok (.return_, 1) := by decide +kernel
abbrev y_Join_init : MethodName := ⟨"MarkerText$Join", "<init>", "(ILMarkerText$Node;LMarkerText$Node;)V"⟩
abbrev M_Join_init : XMt := (y_Join_init, prog_5_method_1_code, 4, none)
theorem d_Join_init_0 : decode M_Join_init.2.1 0 = .ok (.aload_n 0, 1) := by decide +kernel
theorem d_Join_init_1 : decode M_Join_init.2.1 1 = .ok (.iload_n 1, 1) := by decide +kernel
theorem d_Join_init_2 : decode M_Join_init.2.1 2 = .ok (.invokespecial 1, 3) := by decide +kernel
theorem xw_1090 : (Jvm.Cond.methodLink "MarkerText$Join" (1 : Nat) ({ cls := "MarkerText$Node", name := "<init>", desc := "(I)V" } : Jvm.MethodName)) ∈ xT := xT_at 1090 (by decide +kernel) (by decide +kernel)
theorem xci_Join_1 : xCI "MarkerText$Join" 1 M_Node_init 1 := ⟨xcb_Node_init, rfl, rfl, xw_942, Or.inl xw_1090⟩
theorem d_Join_init_5 : decode M_Join_init.2.1 5 = .ok (.aload_n 0, 1) := by decide +kernel
theorem d_Join_init_6 : decode M_Join_init.2.1 6 = .ok (.aload_n 2, 1) := by decide +kernel
theorem d_Join_init_7 : decode M_Join_init.2.1 7 = .ok (.putfield 7, 3) := by decide +kernel
theorem xp_Join_0 : xP k_Join 0 true (.object "MarkerText$Node") := ⟨_, _, _, rfl, rfl, by decide +kernel⟩
theorem d_Join_init_10 : decode M_Join_init.2.1 10 = .ok (.aload_n 0, 1) := by decide +kernel
theorem d_Join_init_11 : decode M_Join_init.2.1 11 = .ok (.aload_n 3, 1) := by decide +kernel
theorem d_Join_init_12 : decode M_Join_init.2.1 12 = .ok (.putfield 13, 3) := by decide +kernel
theorem xp_Join_1 : xP k_Join 1 true (.object "MarkerText$Node") := ⟨_, _, _, rfl, rfl, by decide +kernel⟩
theorem d_Join_init_15 : decode M_Join_init.2.1 15 = .ok (.return_, 1) := by decide +kernel
abbrev y_Negation_init : MethodName := ⟨"MarkerText$Negation", "<init>", "(LMarkerText$Node;)V"⟩
abbrev M_Negation_init : XMt := (y_Negation_init, prog_7_method_1_code, 2, none)
theorem d_Negation_init_0 : decode M_Negation_init.2.1 0 = .ok (.aload_n 0, 1) := by decide +kernel
theorem d_Negation_init_1 : decode M_Negation_init.2.1 1 = .ok (.iconst 3, 1) := by decide +kernel
theorem d_Negation_init_2 : decode M_Negation_init.2.1 2 = .ok (.invokespecial 3, 3) := by decide +kernel
theorem xw_941 : (Jvm.Cond.methodLink "MarkerText$Negation" (3 : Nat) ({ cls := "MarkerText$Node", name := "<init>", desc := "(I)V" } : Jvm.MethodName)) ∈ xT := xT_at 941 (by decide +kernel) (by decide +kernel)
theorem xci_Negation_3 : xCI "MarkerText$Negation" 3 M_Node_init 1 := ⟨xcb_Node_init, rfl, rfl, xw_942, Or.inl xw_941⟩
theorem d_Negation_init_5 : decode M_Negation_init.2.1 5 = .ok (.aload_n 0, 1) := by decide +kernel
theorem d_Negation_init_6 : decode M_Negation_init.2.1 6 = .ok (.aload_n 1, 1) := by decide +kernel
theorem d_Negation_init_7 : decode M_Negation_init.2.1 7 = .ok (.putfield 7, 3) := by decide +kernel
theorem xp_Negation_0 : xP k_Negation 0 true (.object "MarkerText$Node") := ⟨_, _, _, rfl, rfl, by decide +kernel⟩
theorem d_Negation_init_10 : decode M_Negation_init.2.1 10 = .ok (.return_, 1) := by decide +kernel
abbrev y_Constant_init : MethodName := ⟨"MarkerText$Constant", "<init>", "(Z)V"⟩
abbrev M_Constant_init : XMt := (y_Constant_init, prog_4_method_1_code, 2, none)
theorem d_Constant_init_0 : decode M_Constant_init.2.1 0 = .ok (.aload_n 0, 1) := by decide +kernel
theorem d_Constant_init_1 : decode M_Constant_init.2.1 1 = .ok (.iconst 3, 1) := by decide +kernel
theorem d_Constant_init_2 : decode M_Constant_init.2.1 2 = .ok (.invokespecial 3, 3) := by decide +kernel
theorem xw_968 : (Jvm.Cond.methodLink "MarkerText$Constant" (3 : Nat) ({ cls := "MarkerText$Node", name := "<init>", desc := "(I)V" } : Jvm.MethodName)) ∈ xT := xT_at 968 (by decide +kernel) (by decide +kernel)
theorem xci_Constant_3 : xCI "MarkerText$Constant" 3 M_Node_init 1 := ⟨xcb_Node_init, rfl, rfl, xw_942, Or.inl xw_968⟩
theorem d_Constant_init_5 : decode M_Constant_init.2.1 5 = .ok (.aload_n 0, 1) := by decide +kernel
theorem d_Constant_init_6 : decode M_Constant_init.2.1 6 = .ok (.iload_n 1, 1) := by decide +kernel
theorem d_Constant_init_7 : decode M_Constant_init.2.1 7 = .ok (.putfield 7, 3) := by decide +kernel
theorem xp_Constant_0 : xP k_Constant 0 true .boolean := ⟨_, _, _, rfl, rfl, by decide +kernel⟩
theorem d_Constant_init_10 : decode M_Constant_init.2.1 10 = .ok (.return_, 1) := by decide +kernel
abbrev y_Condition_init : MethodName := ⟨"MarkerText$Condition", "<init>", "(LMarkerText$Node;Ljava/util/ArrayList;Ljava/lang/String;)V"⟩
abbrev M_Condition_init : XMt := (y_Condition_init, prog_3_method_1_code, 4, none)
theorem d_Condition_init_0 : decode M_Condition_init.2.1 0 = .ok (.aload_n 0, 1) := by decide +kernel
theorem d_Condition_init_1 : decode M_Condition_init.2.1 1 = .ok (.invokespecial 1, 3) := by decide +kernel
theorem xw_1139 : (Jvm.Cond.methodLink "MarkerText$Condition" (1 : Nat) ({ cls := "java/lang/Object", name := "<init>", desc := "()V" } : Jvm.MethodName)) ∈ xT := xT_at 1139 (by decide +kernel) (by decide +kernel)
theorem d_Condition_init_4 : decode M_Condition_init.2.1 4 = .ok (.aload_n 0, 1) := by decide +kernel
theorem d_Condition_init_5 : decode M_Condition_init.2.1 5 = .ok (.aload_n 1, 1) := by decide +kernel
theorem d_Condition_init_6 : decode M_Condition_init.2.1 6 = .ok (.putfield 7, 3) := by decide +kernel
theorem xw_1140 : (Jvm.Cond.fieldLink "MarkerText$Condition" (7 : Nat) "MarkerText$Condition" "root" "LMarkerText$Node;") ∈ xT := xT_at 1140 (by decide +kernel) (by decide +kernel)
theorem xf_Condition_7_Condition : xF "MarkerText$Condition" 7 k_Condition 0 := ⟨_, _, _, "MarkerText$Condition", rfl, by decide, Or.inl xw_1140, Or.inl rfl⟩
theorem xp_Condition_0 : xP k_Condition 0 true (.object "MarkerText$Node") := ⟨_, _, _, rfl, rfl, by decide +kernel⟩
theorem d_Condition_init_9 : decode M_Condition_init.2.1 9 = .ok (.aload_n 0, 1) := by decide +kernel
theorem d_Condition_init_10 : decode M_Condition_init.2.1 10 = .ok (.aload_n 2, 1) := by decide +kernel
theorem d_Condition_init_11 : decode M_Condition_init.2.1 11 = .ok (.putfield 13, 3) := by decide +kernel
theorem xw_1143 : (Jvm.Cond.fieldLink "MarkerText$Condition" (13 : Nat) "MarkerText$Condition" "tests" "Ljava/util/ArrayList;") ∈ xT := xT_at 1143 (by decide +kernel) (by decide +kernel)
theorem xf_Condition_13_Condition : xF "MarkerText$Condition" 13 k_Condition 1 := ⟨_, _, _, "MarkerText$Condition", rfl, by decide, Or.inl xw_1143, Or.inl rfl⟩
theorem xp_Condition_1 : xP k_Condition 1 true (.object "java/util/ArrayList") := ⟨_, _, _, rfl, rfl, by decide +kernel⟩
theorem d_Condition_init_14 : decode M_Condition_init.2.1 14 = .ok (.aload_n 0, 1) := by decide +kernel
theorem d_Condition_init_15 : decode M_Condition_init.2.1 15 = .ok (.aload_n 3, 1) := by decide +kernel
theorem d_Condition_init_16 : decode M_Condition_init.2.1 16 = .ok (.putfield 17, 3) := by decide +kernel
theorem xw_1145 : (Jvm.Cond.fieldLink "MarkerText$Condition" (17 : Nat) "MarkerText$Condition" "shown" "Ljava/lang/String;") ∈ xT := xT_at 1145 (by decide +kernel) (by decide +kernel)
theorem xf_Condition_17_Condition : xF "MarkerText$Condition" 17 k_Condition 2 := ⟨_, _, _, "MarkerText$Condition", rfl, by decide, Or.inl xw_1145, Or.inl rfl⟩
theorem xp_Condition_2 : xP k_Condition 2 true (.object "java/lang/String") := ⟨_, _, _, rfl, rfl, by decide +kernel⟩
theorem d_Condition_init_19 : decode M_Condition_init.2.1 19 = .ok (.return_, 1) := by decide +kernel
end
section RD7
variable {l : Launch} {G : XG} {h : XH} {c n d : Nat}
/-! the constructors of parts -/
theorem c_Node_init_T (hd : 1 ≤ d) {a : Nat} {x y z w u : Value} {s : Int32} (ha : h a = some (k_Test, [x, y, z, w, u])) : XM l G d M_Node_init [.ref a, .int s] h c n (fun v h' c' n' => v = none ∧ h' = xup h a (k_Test, [x, y, z, w, .int s]) ∧ c' = c ∧ n' = n) := by
  obtain ⟨d, rfl⟩ : ∃ q, d = q + 1 := ⟨d - 1, by omega⟩
  refine XM.of (by decide +kernel) (Nat.le_of_ble_eq_true rfl) ?_
  refine x_aload_n d_Node_init_0 rfl rfl ?_
  refine x_objInit xw_944 xw_40 xw_41 (Nat.le_of_ble_eq_true rfl) d_Node_init_1 ?_
  refine x_aload_n d_Node_init_4 rfl rfl ?_
  refine x_iload_n d_Node_init_5 rfl ?_
  refine x_putF xf_Node_7_Test xp_Test_4 ⟨_, _, _, rfl, rfl, xw_946⟩ rfl rfl rfl ha rfl rfl d_Node_init_6 ?_
  refine x_vret d_Node_init_9 rfl ?_
  exact ⟨rfl, rfl, rfl, rfl⟩
theorem c_Node_init_J (hd : 1 ≤ d) {a : Nat} {x y u : Value} {s : Int32} (ha : h a = some (k_Join, [x, y, u])) : XM l G d M_Node_init [.ref a, .int s] h c n (fun v h' c' n' => v = none ∧ h' = xup h a (k_Join, [x, y, .int s]) ∧ c' = c ∧ n' = n) := by
  obtain ⟨d, rfl⟩ : ∃ q, d = q + 1 := ⟨d - 1, by omega⟩
  refine XM.of (by decide +kernel) (Nat.le_of_ble_eq_true rfl) ?_
  refine x_aload_n d_Node_init_0 rfl rfl ?_
  refine x_objInit xw_944 xw_40 xw_41 (Nat.le_of_ble_eq_true rfl) d_Node_init_1 ?_
  refine x_aload_n d_Node_init_4 rfl rfl ?_
  refine x_iload_n d_Node_init_5 rfl ?_
  refine x_putF xf_Node_7_Join xp_Join_2 ⟨_, _, _, rfl, rfl, xw_946⟩ rfl rfl rfl ha rfl rfl d_Node_init_6 ?_
  refine x_vret d_Node_init_9 rfl ?_
  exact ⟨rfl, rfl, rfl, rfl⟩
theorem c_Node_init_N (hd : 1 ≤ d) {a : Nat} {x u : Value} {s : Int32} (ha : h a = some (k_Negation, [x, u])) : XM l G d M_Node_init [.ref a, .int s] h c n (fun v h' c' n' => v = none ∧ h' = xup h a (k_Negation, [x, .int s]) ∧ c' = c ∧ n' = n) := by
  obtain ⟨d, rfl⟩ : ∃ q, d = q + 1 := ⟨d - 1, by omega⟩
  refine XM.of (by decide +kernel) (Nat.le_of_ble_eq_true rfl) ?_
  refine x_aload_n d_Node_init_0 rfl rfl ?_
  refine x_objInit xw_944 xw_40 xw_41 (Nat.le_of_ble_eq_true rfl) d_Node_init_1 ?_
  refine x_aload_n d_Node_init_4 rfl rfl ?_
  refine x_iload_n d_Node_init_5 rfl ?_
  refine x_putF xf_Node_7_Negation xp_Negation_1 ⟨_, _, _, rfl, rfl, xw_946⟩ rfl rfl rfl ha rfl rfl d_Node_init_6 ?_
  refine x_vret d_Node_init_9 rfl ?_
  exact ⟨rfl, rfl, rfl, rfl⟩
theorem c_Node_init_C (hd : 1 ≤ d) {a : Nat} {x u : Value} {s : Int32} (ha : h a = some (k_Constant, [x, u])) : XM l G d M_Node_init [.ref a, .int s] h c n (fun v h' c' n' => v = none ∧ h' = xup h a (k_Constant, [x, .int s]) ∧ c' = c ∧ n' = n) := by
  obtain ⟨d, rfl⟩ : ∃ q, d = q + 1 := ⟨d - 1, by omega⟩
  refine XM.of (by decide +kernel) (Nat.le_of_ble_eq_true rfl) ?_
  refine x_aload_n d_Node_init_0 rfl rfl ?_
  refine x_objInit xw_944 xw_40 xw_41 (Nat.le_of_ble_eq_true rfl) d_Node_init_1 ?_
  refine x_aload_n d_Node_init_4 rfl rfl ?_
  refine x_iload_n d_Node_init_5 rfl ?_
  refine x_putF xf_Node_7_Constant xp_Constant_1 ⟨_, _, _, rfl, rfl, xw_946⟩ rfl rfl rfl ha rfl rfl d_Node_init_6 ?_
  refine x_vret d_Node_init_9 rfl ?_
  exact ⟨rfl, rfl, rfl, rfl⟩
theorem c_Test_init (hd : 2 ≤ d) {a va sa : Nat} {i j : Int32} (ha : h a = some (k_Test, [.int 0, .int 0, .null, .null, .int 0])) : XM l G d M_Test_init [.ref a, .int i, .int j, .ref va, .ref sa] h c n (fun v h' c' n' => v = none ∧ h' = xup h a (k_Test, [.int i, .int j, .ref va, .ref sa, .int 3]) ∧ c' = c ∧ n' = n) := by
  obtain ⟨d, rfl⟩ : ∃ q, d = q + 1 := ⟨d - 1, by omega⟩
  refine XM.of (by decide +kernel) (Nat.le_of_ble_eq_true rfl) ?_
  refine x_aload_n d_Test_init_0 rfl rfl ?_
  refine x_iconst (v := 3) d_Test_init_1 (by decide) ?_
  refine x_callI (As := [_]) xci_Test_5 (c_Node_init_T (by omega) ha) rfl rfl (Nat.le_of_ble_eq_true rfl) d_Test_init_2 ?_
  rintro v h' c' n' ⟨rfl, rfl, rfl, rfl⟩
  refine x_aload_n d_Test_init_5 rfl rfl ?_
  refine x_iload_n d_Test_init_6 rfl ?_
  refine x_putF xf_Test_9_Test xp_Test_0 ⟨_, _, _, rfl, rfl, xw_1019⟩ rfl rfl rfl xup_self rfl rfl d_Test_init_7 ?_
  refine x_aload_n d_Test_init_10 rfl rfl ?_
  refine x_iload_n d_Test_init_11 rfl ?_
  refine x_putF xf_Test_15_Test xp_Test_1 ⟨_, _, _, rfl, rfl, xw_1021⟩ rfl rfl rfl xup_self rfl rfl d_Test_init_12 ?_
  refine x_aload_n d_Test_init_15 rfl rfl ?_
  refine x_aload_n d_Test_init_16 rfl rfl ?_
  refine x_putF xf_Test_18_Test xp_Test_2 ⟨_, _, _, rfl, rfl, xw_1022⟩ rfl rfl rfl xup_self rfl rfl d_Test_init_17 ?_
  refine x_aload_n d_Test_init_20 rfl rfl ?_
  refine x_aload d_Test_init_21 rfl rfl ?_
  refine x_putF xf_Test_22_Test xp_Test_3 ⟨_, _, _, rfl, rfl, xw_1024⟩ rfl rfl rfl xup_self rfl rfl d_Test_init_23 ?_
  refine x_vret d_Test_init_26 rfl ?_
  exact ⟨rfl, by rw [xup_up, xup_up, xup_up, xup_up]; rfl, rfl, rfl⟩
theorem c_Join_init (hd : 2 ≤ d) {a x y : Nat} {s : Int32} (ha : h a = some (k_Join, [.null, .null, .int 0])) : XM l G d M_Join_init [.ref a, .int s, .ref x, .ref y] h c n (fun v h' c' n' => v = none ∧ h' = xup h a (k_Join, [.ref x, .ref y, .int s]) ∧ c' = c ∧ n' = n) := by
  obtain ⟨d, rfl⟩ : ∃ q, d = q + 1 := ⟨d - 1, by omega⟩
  refine XM.of (by decide +kernel) (Nat.le_of_ble_eq_true rfl) ?_
  refine x_aload_n d_Join_init_0 rfl rfl ?_
  refine x_iload_n d_Join_init_1 rfl ?_
  refine x_callI (As := [_]) xci_Join_1 (c_Node_init_J (by omega) ha) rfl rfl (Nat.le_of_ble_eq_true rfl) d_Join_init_2 ?_
  rintro v h' c' n' ⟨rfl, rfl, rfl, rfl⟩
  refine x_aload_n d_Join_init_5 rfl rfl ?_
  refine x_aload_n d_Join_init_6 rfl rfl ?_
  refine x_putF xf_Join_7_Join xp_Join_0 ⟨_, _, _, rfl, rfl, xw_1091⟩ rfl rfl rfl xup_self rfl rfl d_Join_init_7 ?_
  refine x_aload_n d_Join_init_10 rfl rfl ?_
  refine x_aload_n d_Join_init_11 rfl rfl ?_
  refine x_putF xf_Join_13_Join xp_Join_1 ⟨_, _, _, rfl, rfl, xw_1092⟩ rfl rfl rfl xup_self rfl rfl d_Join_init_12 ?_
  refine x_vret d_Join_init_15 rfl ?_
  exact ⟨rfl, by rw [xup_up, xup_up]; rfl, rfl, rfl⟩
theorem c_Negation_init (hd : 2 ≤ d) {a x : Nat} (ha : h a = some (k_Negation, [.null, .int 0])) : XM l G d M_Negation_init [.ref a, .ref x] h c n (fun v h' c' n' => v = none ∧ h' = xup h a (k_Negation, [.ref x, .int 3]) ∧ c' = c ∧ n' = n) := by
  obtain ⟨d, rfl⟩ : ∃ q, d = q + 1 := ⟨d - 1, by omega⟩
  refine XM.of (by decide +kernel) (Nat.le_of_ble_eq_true rfl) ?_
  refine x_aload_n d_Negation_init_0 rfl rfl ?_
  refine x_iconst (v := 3) d_Negation_init_1 (by decide) ?_
  refine x_callI (As := [_]) xci_Negation_3 (c_Node_init_N (by omega) ha) rfl rfl (Nat.le_of_ble_eq_true rfl) d_Negation_init_2 ?_
  rintro v h' c' n' ⟨rfl, rfl, rfl, rfl⟩
  refine x_aload_n d_Negation_init_5 rfl rfl ?_
  refine x_aload_n d_Negation_init_6 rfl rfl ?_
  refine x_putF xf_Negation_7_Negation xp_Negation_0 ⟨_, _, _, rfl, rfl, xw_945⟩ rfl rfl rfl xup_self rfl rfl d_Negation_init_7 ?_
  refine x_vret d_Negation_init_10 rfl ?_
  exact ⟨rfl, by rw [xup_up]; rfl, rfl, rfl⟩
theorem bI_z (b : Bool) : narrow .boolean (.int (bI b)) = .int (bI b) := by cases b <;> rfl
theorem c_Constant_init (hd : 2 ≤ d) {a : Nat} {b : Bool} (ha : h a = some (k_Constant, [.int 0, .int 0])) : XM l G d M_Constant_init [.ref a, .int (bI b)] h c n (fun v h' c' n' => v = none ∧ h' = xup h a (k_Constant, [.int (bI b), .int 3]) ∧ c' = c ∧ n' = n) := by
  obtain ⟨d, rfl⟩ : ∃ q, d = q + 1 := ⟨d - 1, by omega⟩
  refine XM.of (by decide +kernel) (Nat.le_of_ble_eq_true rfl) ?_
  refine x_aload_n d_Constant_init_0 rfl rfl ?_
  refine x_iconst (v := 3) d_Constant_init_1 (by decide) ?_
  refine x_callI (As := [_]) xci_Constant_3 (c_Node_init_C (by omega) ha) rfl rfl (Nat.le_of_ble_eq_true rfl) d_Constant_init_2 ?_
  rintro v h' c' n' ⟨rfl, rfl, rfl, rfl⟩
  refine x_aload_n d_Constant_init_5 rfl rfl ?_
  refine x_iload_n d_Constant_init_6 rfl ?_
  refine x_putF xf_Constant_7_Constant xp_Constant_0 ⟨_, _, _, rfl, rfl, xw_969⟩ rfl (bI_z b) (by cases b <;> rfl) xup_self rfl rfl d_Constant_init_7 ?_
  refine x_vret d_Constant_init_10 rfl ?_
  exact ⟨rfl, by rw [xup_up]; rfl, rfl, rfl⟩
theorem c_Condition_init (hd : 1 ≤ d) {a x y z : Nat} (ha : h a = some (k_Condition, [.null, .null, .null])) : XM l G d M_Condition_init [.ref a, .ref x, .ref y, .ref z] h c n (fun v h' c' n' => v = none ∧ h' = xup h a (k_Condition, [.ref x, .ref y, .ref z]) ∧ c' = c ∧ n' = n) := by
  obtain ⟨d, rfl⟩ : ∃ q, d = q + 1 := ⟨d - 1, by omega⟩
  refine XM.of (by decide +kernel) (Nat.le_of_ble_eq_true rfl) ?_
  refine x_aload_n d_Condition_init_0 rfl rfl ?_
  refine x_objInit xw_1139 xw_40 xw_41 (Nat.le_of_ble_eq_true rfl) d_Condition_init_1 ?_
  refine x_aload_n d_Condition_init_4 rfl rfl ?_
  refine x_aload_n d_Condition_init_5 rfl rfl ?_
  refine x_putF xf_Condition_7_Condition xp_Condition_0 ⟨_, _, _, rfl, rfl, xw_1140⟩ rfl rfl rfl ha rfl rfl d_Condition_init_6 ?_
  refine x_aload_n d_Condition_init_9 rfl rfl ?_
  refine x_aload_n d_Condition_init_10 rfl rfl ?_
  refine x_putF xf_Condition_13_Condition xp_Condition_1 ⟨_, _, _, rfl, rfl, xw_1143⟩ rfl rfl rfl xup_self rfl rfl d_Condition_init_11 ?_
  refine x_aload_n d_Condition_init_14 rfl rfl ?_
  refine x_aload_n d_Condition_init_15 rfl rfl ?_
  refine x_putF xf_Condition_17_Condition xp_Condition_2 ⟨_, _, _, rfl, rfl, xw_1145⟩ rfl rfl rfl xup_self rfl rfl d_Condition_init_16 ?_
  refine x_vret d_Condition_init_19 rfl ?_
  exact ⟨rfl, by rw [xup_up, xup_up]; rfl, rfl, rfl⟩
/-! what lists of VALUES keep -/
theorem rls_le {t : List Nat} {kd : Nat} : ∀ (k : Nat) {p : Nat} {us : List Nat}, p ≤ t.length → (rls t kd k p us).1 ≤ t.length ∧ (rls t kd k p us).2.2.length + 2 * p ≤ 2 * (rls t kd k p us).1 := by
  intro k
  induction k with
  | zero =>
    intro p us hp
    have h1 : p ≤ skp t p := scn_ge
    exact ⟨skp_le hp, by show 0 + 2 * p ≤ 2 * skp t p; omega⟩
  | succ k ih =>
    intro p us hp
    have h1 := rvl_le (kd := kd) hp
    have h2 := rvl_ge (kd := kd) hp
    have h3 := skp_le h1
    have h4 : (rvl t kd p).1 ≤ skp t (rvl t kd p).1 := scn_ge
    unfold rls
    split
    · exact ⟨h1, by show (rvl t kd p).2.2.length + 2 * p ≤ 2 * (rvl t kd p).1; omega⟩
    · split
      · rename_i hc
        have : skp t (rvl t kd p).1 < t.length := Nat.lt_of_not_le (fun z => by rw [chr_out z] at hc; omega)
        exact ⟨by show skp t (rvl t kd p).1 + 1 ≤ t.length; omega, by show ((rvl t kd p).2.2 ++ [93]).length + 2 * p ≤ 2 * (skp t (rvl t kd p).1 + 1); simp; omega⟩
      · split
        · rename_i hc
          have h5 : skp t (rvl t kd p).1 < t.length := Nat.lt_of_not_le (fun z => by rw [chr_out z] at hc; omega)
          obtain ⟨i1, i2⟩ := ih (p := skp t (rvl t kd p).1 + 1) (us := us ++ [(rvl t kd p).2.1]) (by omega)
          refine ⟨i1, ?_⟩
          show ((rvl t kd p).2.2 ++ (xtx 23 ++ (rls t kd k (skp t (rvl t kd p).1 + 1) (us ++ [(rvl t kd p).2.1])).2.2)).length + 2 * p ≤ 2 * (rls t kd k (skp t (rvl t kd p).1 + 1) (us ++ [(rvl t kd p).2.1])).1
          rw [List.length_append, List.length_append, show (xtx 23).length = 2 from rfl]
          omega
        · exact ⟨h3, by show (rvl t kd p).2.2.length + 2 * p ≤ 2 * skp t (rvl t kd p).1; omega⟩
theorem rls_ok {t : List Nat} {kd : Nat} (ht : xasc t) : ∀ (k : Nat) {p : Nat} {us vs : List Nat}, us.length + k ≤ 6 → (∀ v ∈ us, v < 2 ^ 63) → (rls t kd k p us).2.1 = some vs → vs.length ≤ 6 ∧ ∀ v ∈ vs, v < 2 ^ 63 := by
  intro k
  induction k with
  | zero =>
    intro p us vs _ _ hz
    cases hz
  | succ k ih =>
    intro p us vs hk hu hz
    have hb : ∀ v ∈ us ++ [(rvl t kd p).2.1], v < 2 ^ 63 := by
      intro v hv
      rcases List.mem_append.mp hv with q | q
      · exact hu v q
      · rw [List.mem_singleton] at q; rw [q]; exact rvl_lt ht
    have hln : (us ++ [(rvl t kd p).2.1]).length = us.length + 1 := by simp
    unfold rls at hz
    split at hz
    · cases hz
    · split at hz
      · cases hz
        exact ⟨by omega, hb⟩
      · split at hz
        · exact ih (by omega) hb hz
        · cases hz
theorem rlist_le {t : List Nat} {kd p : Nat} (hp : p ≤ t.length) : (rlist t kd p).1 ≤ t.length ∧ (rlist t kd p).2.2.length + 2 * p ≤ 2 * (rlist t kd p).1 := by
  have h3 := skp_le hp
  have h4 : p ≤ skp t p := scn_ge
  unfold rlist
  split
  · rename_i hc
    have h5 : skp t p < t.length := Nat.lt_of_not_le (fun z => by rw [chr_out z] at hc; omega)
    obtain ⟨i1, i2⟩ := rls_le (t := t) (kd := kd) 6 (p := skp t p + 1) (us := []) (by omega)
    refine ⟨i1, ?_⟩
    show (91 :: (rls t kd 6 (skp t p + 1) []).2.2).length + 2 * p ≤ 2 * (rls t kd 6 (skp t p + 1) []).1
    rw [List.length_cons]
    omega
  · exact ⟨h3, by show 0 + 2 * p ≤ 2 * skp t p; omega⟩
theorem rlist_ok {t : List Nat} {kd p : Nat} {vs : List Nat} (ht : xasc t) (hz : (rlist t kd p).2.1 = some vs) : vs.length ≤ 6 ∧ ∀ v ∈ vs, v < 2 ^ 63 := by
  unfold rlist at hz
  split at hz
  · exact rls_ok ht 6 (us := []) (by simp) (fun _ z => by cases z) hz
  · cases hz
theorem rsg_ok {t : List Nat} {kd p : Nat} {vs : List Nat} (ht : xasc t) (hz : rsg t kd p = some vs) : vs.length ≤ 6 ∧ ∀ v ∈ vs, v < 2 ^ 63 := by
  unfold rsg at hz
  split at hz
  · cases hz
  · cases hz
    refine ⟨by simp, fun v hv => ?_⟩
    rw [List.mem_singleton] at hv
    rw [hv]
    exact rvl_lt ht
theorem opr_le {t : List Nat} {p : Nat} (hp : p ≤ t.length) : (opr t p).1 ≤ t.length ∧ p + (opr t p).2.2.length = (opr t p).1 ∧ (opr t p).2.2.length ≤ 2 := by
  unfold opr
  split
  · rename_i hc
    have h5 : p < t.length := Nat.lt_of_not_le (fun z => by rw [chr_out z] at hc; omega)
    split
    · rename_i hc
      have h6 : p + 1 < t.length := Nat.lt_of_not_le (fun z => by rw [chr_out z] at hc; omega)
      exact ⟨by show p + 2 ≤ _; omega, rfl, by show 2 ≤ 2; omega⟩
    · exact ⟨by show p + 1 ≤ _; omega, rfl, by show 1 ≤ 2; omega⟩
  · exact ⟨hp, rfl, by show 0 ≤ 2; omega⟩
theorem opr_lt {t : List Nat} {p a : Nat} (hz : (opr t p).2.1 = some a) : a < 16 := by
  unfold opr at hz
  split at hz
  · split at hz
    · simp only [Option.some.injEq] at hz
      rw [← hz]
      split
      · decide
      · split
        · decide
        · split <;> decide
    · simp only at hz
      split at hz
      · cases hz
      · split at hz
        · cases hz
        · split at hz <;> cases hz <;> decide
  · cases hz
theorem xelT {a : Nat} {vs : List Value} (ha : h a = some (k_Test, vs)) : xel G h "java/lang/Object" (.ref a) := Or.inr ⟨a, k_Test, _, vs, _, _, rfl, Or.inl ha, rfl, xw_1627⟩
end RD7
end
section
section

end
section RD8
variable {l : Launch} {G : XG} {h : XH} {c n d : Nat}
theorem isL.fr {h' : XH} {F : List Nat} {a ea : Nat} {es : List Nat} (hL : isL G h a ea es) (hf : xfr h h' F) (hn : xno h F [k_ArrayList, k_aObject]) : isL G h' a ea es := by
  obtain ⟨mc, e1, e2⟩ := hL
  refine ⟨mc, hf.1 _ _ e1 (hn.at e1 (by decide)), e2.imp id (fun ⟨k, y1, y2⟩ => ⟨k, hf.1 _ _ y1 (hn.at y1 (by decide)), y2⟩)⟩
theorem isL.kn {a ea : Nat} {es ks : List Nat} (hL : isL G h a ea es) (hG : xGk G) (hw : xwf G h) (h1 : k_ArrayList ∉ ks) (h2 : k_aObject ∉ ks) : xno h [a, ea] ks := by
  obtain ⟨mc, e1, e2⟩ := hL
  refine (xno1 e1 h1).ap (fun q hq e he => ?_)
  rw [List.mem_singleton] at hq
  subst hq
  rcases e2 with ⟨-, e2⟩ | ⟨k, y1, -⟩
  · have := hw _ _ he
    rw [e2, hG.2.2] at this
    cases this
  · rw [y1] at he
    cases he
    exact h2
theorem isNs.fr {h' : XH} {F : List Nat} {r : Nat} {as kas : List Nat} {Ns : List NmT} (hN : isNs G h r as kas Ns) (hf : xfr h h' F) (hn : xno h F [k_aName, k_Name, k_aknown, k_String, k_asbyte]) : isNs G h' r as kas Ns := by
  obtain ⟨e1, e2, e3, e4, e5, e6, e7⟩ := hN
  refine ⟨hf.1 _ _ e1 (hn.at e1 (by decide)), e2, e3, e4, e5, e6, fun i x a ka g1 g2 g3 => ?_⟩
  obtain ⟨y, y2⟩ := e7 i x a ka g1 g2 g3
  obtain ⟨sa, z1, -, z3, -⟩ := id y
  exact ⟨y.fr hf (hn.sub (by decide)) (hn.at z1 (by decide)) (hn.at z3 (by decide)), y2⟩
/-- the tests that a reader has read -/
def okT (G : XG) (h : XH) (es : List Nat) (ts : List TsT) : Prop := es.length = ts.length ∧ ∀ (i a : Nat) (x : TsT), es[i]? = some a → ts[i]? = some x → isTs G h a x
theorem okT.fr {h' : XH} {F es : List Nat} {ts : List TsT} (ho : okT G h es ts) (hf : xfr h h' F) (hn : xno h F kNd) : okT G h' es ts := ⟨ho.1, fun i a x h1 h2 => (ho.2 i a x h1 h2).fr hf hn⟩
theorem okT.el {es : List Nat} {ts : List TsT} (ho : okT G h es ts) : ∀ y ∈ es, xel G h "java/lang/Object" (.ref y) := by
  intro y hy
  obtain ⟨i, h1, h2⟩ := List.getElem_of_mem hy
  have h3 : i < ts.length := by rw [← ho.1]; exact h1
  obtain ⟨va, sa, e1, -⟩ := ho.2 i y ts[i] (by rw [List.getElem?_eq_getElem h1, h2]) (List.getElem?_eq_getElem h3)
  exact xelT e1
theorem okT.push {es : List Nat} {ts : List TsT} {a : Nat} {x : TsT} (ho : okT G h es ts) (hx : isTs G h a x) : okT G h (es ++ [a]) (ts ++ [x]) := by
  refine ⟨by simp [ho.1], fun i b y h1 h2 => ?_⟩
  by_cases hi : i < es.length
  · rw [List.getElem?_append_left hi] at h1
    rw [List.getElem?_append_left (by rw [← ho.1]; exact hi)] at h2
    exact ho.2 i b y h1 h2
  · rw [List.getElem?_append_right (by omega)] at h1
    rw [List.getElem?_append_right (by rw [← ho.1]; omega), ← ho.1] at h2
    by_cases hi2 : i - es.length = 0
    · rw [hi2] at h1 h2
      cases h1
      cases h2
      exact hx
    · rw [List.getElem?_eq_none (by simp; omega)] at h1
      cases h1
/-- a Reader -/
def isRd (G : XG) (h : XH) (r ta na la ba : Nat) (t as kas : List Nat) (Ns : List NmT) (ea va p o tc : Nat) (es : List Nat) (ts : List TsT) (ln : List Nat) (m : Nat) : Prop :=
  h r = some (rdO ta na la ba p o tc) ∧ isS G h ta t ∧ isNs G h na as kas Ns ∧ isL G h la ea es ∧ okT G h es ts ∧ isB h ba va ln m
abbrev kRd : List Nat := [k_aName, k_Name, k_aknown, k_String, k_asbyte, k_ArrayList, k_aObject, k_Test, k_Join, k_Negation, k_Constant, k_avals]
theorem isRd.ofR {C N K r ta na la ba ea va p o tc p' o' tc' m c' n' : Nat} {t as kas es ln ln' : List Nat} {Ns : List NmT} {ts : List TsT} {h' : XH} (hR : isRd G h r ta na la ba t as kas Ns ea va p o tc es ts ln m) (q : pR C N K r ba va (rdO ta na la ba p' o' tc') ln' m h c n h' c' n') :
    ∃ va' m', isRd G h' r ta na la ba t as kas Ns ea va' p' o' tc' es ts ln' m' ∧ xfr h h' [r, ba, va] ∧ (va' = va ∨ h va' = none) ∧ xgs C N K m m' c n c' n' := by
  obtain ⟨va', m', q0, q1, q2, q3, q4⟩ := q
  obtain ⟨e1, e2, e3, e4, e5, e6⟩ := hR
  have hk : xno h [r, ba, va] kRd := e6.kR e1 (by decide) (by decide) (by decide)
  exact ⟨va', m', ⟨q0, e2.fr q2 (hk.sub (by decide)), e3.fr q2 (hk.sub (by decide)), e4.fr q2 (hk.sub (by decide)), e5.fr q2 (hk.sub (by decide)), q1⟩, q2, q3, q4⟩
/-- what becomes of a Reader: where it is, and the tests that it has read then -/
abbrev pT (G : XG) (C N K r ta na la ba : Nat) (t as kas : List Nat) (Ns : List NmT) (ea va p' o' tc' : Nat) (ts' : List TsT) (m : Nat) (h : XH) (c n : Nat) (h' : XH) (c' n' : Nat) : Prop := ∃ ea' va' es' ln' m', isRd G h' r ta na la ba t as kas Ns ea' va' p' o' tc' es' ts' ln' m' ∧ xfr h h' [r, la, ea, ba, va] ∧ (ea' = ea ∨ h ea' = none) ∧ (va' = va ∨ h va' = none) ∧ xgs C N K m m' c n c' n'
theorem pT.ofR {C N K r ta na la ba ea va p o tc p' o' tc' m c' n' : Nat} {t as kas es ln ln' : List Nat} {Ns : List NmT} {ts : List TsT} {h' : XH} (hR : isRd G h r ta na la ba t as kas Ns ea va p o tc es ts ln m) (q : pR C N K r ba va (rdO ta na la ba p' o' tc') ln' m h c n h' c' n') : pT G C N K r ta na la ba t as kas Ns ea va p' o' tc' ts m h c n h' c' n' := by
  obtain ⟨va', m', q0, q1, q2, q3⟩ := hR.ofR q
  exact ⟨ea, va', es, ln', m', q0, q1.mono (by simp), Or.inl rfl, q2, q3⟩
theorem pR.ofS {K r ba va m : Nat} {vs : List Value} {t t' : List Nat} {h' : XH} (hr : h r = some (k_Reader, vs)) (hb : isB h ba va t m) (hm : m ≤ K) (hb' : isB h' ba va t' m) (hf : xfr h h' [ba]) : pR 0 0 K r ba va (k_Reader, vs) t' m h c n h' c n := by
  have hn := hb.neR hr
  exact ⟨va, m, hf.1 _ _ hr (fun z => hn (by simp at z; simp [z])), hb', hf.mono (by simp), Or.inl rfl, by omega⟩
/-- a comparison, or in, behind its name -/
def rcm (t : List Nat) (k : Nat) (w : List Nat) (kd p : Nat) : Nat × Option TsT :=
  if wrd t (skp t p) = xtx 22 then ((rlist t kd (tkW t p (xtx 22))).1, (rlist t kd (tkW t p (xtx 22))).2.1.map (fun us => (k, 2, us, (((w ++ [32]) ++ xtx 22) ++ [32]) ++ (rlist t kd (tkW t p (xtx 22))).2.2)))
  else match (opr t (skp t p)).2.1 with
    | none => ((opr t (skp t p)).1, none)
    | some acc => ((rvl t kd (opr t (skp t p)).1).1, (rsg t kd (opr t (skp t p)).1).map (fun us => (k, acc, us, (((w ++ [32]) ++ (opr t (skp t p)).2.2) ++ [32]) ++ (rvl t kd (opr t (skp t p)).1).2.2)))
/-- what reading a test gives -/
abbrev pX (G : XG) (C N K r ta na la ba : Nat) (t as kas : List Nat) (Ns : List NmT) (ea va p' o tc : Nat) (ts : List TsT) (m : Nat) (h : XH) (c n : Nat) : Option TsT → Option Value → XH → Nat → Nat → Prop
  | none, v, h', c', n' => v = some .null ∧ pT G C N K r ta na la ba t as kas Ns ea va p' o tc ts m h c n h' c' n'
  | some x, v, h', c', n' => ∃ a, v = some (.ref a) ∧ h a = none ∧ isTs G h' a x ∧ pT G C N K r ta na la ba t as kas Ns ea va p' o tc (ts ++ [x]) m h c n h' c' n'
end RD8
end
section
section
abbrev y_Reader_readComparison : MethodName := ⟨"MarkerText$Reader", "readComparison", "(I)LMarkerText$Node;"⟩
abbrev M_Reader_readComparison : XMt := (y_Reader_readComparison, prog_10_method_6_code, 7, (some (.object "MarkerText$Node")))
theorem d_Reader_readComparison_125 : decode M_Reader_readComparison.2.1 125 = .ok (.astore 5, 2) := by decide +kernel
theorem d_Reader_readComparison_127 : decode M_Reader_readComparison.2.1 127 = .ok (.aload 5, 2) := by decide +kernel
theorem d_Reader_readComparison_129 : decode M_Reader_readComparison.2.1 129 = .ok (.ifnonnull 5, 3) := by decide +kernel
theorem d_Reader_readComparison_132 : decode M_Reader_readComparison.2.1 132 = .ok (.aconst_null, 1) := by decide +kernel
theorem d_Reader_readComparison_133 : decode M_Reader_readComparison.2.1 133 = .ok (.areturn, 1) := by decide +kernel
theorem d_Reader_readComparison_134 : decode M_Reader_readComparison.2.1 134 = .ok (.new 148, 3) := by decide +kernel
theorem xw_1012 : (Jvm.Cond.classLink "MarkerText$Reader" (148 : Nat) "MarkerText$Test") ∈ xT := xT_at 1012 (by decide +kernel) (by decide +kernel)
theorem xw_1013 : (Jvm.Cond.instantiable "MarkerText$Test" (5 : Nat)) ∈ xT := xT_at 1013 (by decide +kernel) (by decide +kernel)
theorem xnw_Reader_148 : xNw "MarkerText$Reader" 148 k_Test 5 [.int 0, .int 0, .null, .null, .int 0] := ⟨_, _, _, rfl, rfl, by decide +kernel, xw_1012, xw_1013, xw_30⟩
theorem d_Reader_readComparison_137 : decode M_Reader_readComparison.2.1 137 = .ok (.dup, 1) := by decide +kernel
theorem d_Reader_readComparison_138 : decode M_Reader_readComparison.2.1 138 = .ok (.iload_n 1, 1) := by decide +kernel
theorem d_Reader_readComparison_139 : decode M_Reader_readComparison.2.1 139 = .ok (.iload 4, 2) := by decide +kernel
theorem d_Reader_readComparison_141 : decode M_Reader_readComparison.2.1 141 = .ok (.aload 5, 2) := by decide +kernel
theorem d_Reader_readComparison_143 : decode M_Reader_readComparison.2.1 143 = .ok (.aload_n 0, 1) := by decide +kernel
theorem d_Reader_readComparison_144 : decode M_Reader_readComparison.2.1 144 = .ok (.getfield 21, 3) := by decide +kernel
theorem d_Reader_readComparison_147 : decode M_Reader_readComparison.2.1 147 = .ok (.invokevirtual 68, 3) := by decide +kernel
theorem xw_464 : (Jvm.Cond.code ({ cls := "java/lang/StringBuilder", name := "toString", desc := "()Ljava/lang/String;" } : Jvm.MethodName) prog_26_method_42_code (1 : Nat) (Option.some (Jvm.ClassFile.FieldType.object "java/lang/String"))) ∈ xT := xT_at 464 (by decide +kernel) (by decide +kernel)
theorem xcb_SB_toString : xcb M_SB_toString 0 := ⟨xw_464, xw_3, by decide, by decide, by decide, by decide +kernel⟩
theorem xw_462 : (Jvm.Cond.instanceMethod ({ cls := "java/lang/StringBuilder", name := "toString", desc := "()Ljava/lang/String;" } : Jvm.MethodName)) ∈ xT := xT_at 462 (by decide +kernel) (by decide +kernel)
theorem xw_1014 : (Jvm.Cond.methodLink "MarkerText$Reader" (68 : Nat) ({ cls := "java/lang/StringBuilder", name := "toString", desc := "()Ljava/lang/String;" } : Jvm.MethodName)) ∈ xT := xT_at 1014 (by decide +kernel) (by decide +kernel)
theorem xw_463 : (Jvm.Cond.selects "java/lang/StringBuilder" ({ cls := "java/lang/StringBuilder", name := "toString", desc := "()Ljava/lang/String;" } : Jvm.MethodName) ({ cls := "java/lang/StringBuilder", name := "toString", desc := "()Ljava/lang/String;" } : Jvm.MethodName)) ∈ xT := xT_at 463 (by decide +kernel) (by decide +kernel)
theorem xcv_Reader_68_SB : xCV "MarkerText$Reader" 68 "java/lang/StringBuilder" M_SB_toString 0 := ⟨xcb_SB_toString, xw_462, Or.inl ⟨xw_1014, Or.inl xw_463⟩⟩
theorem d_Reader_readComparison_150 : decode M_Reader_readComparison.2.1 150 = .ok (.invokespecial 160, 3) := by decide +kernel
theorem xw_1017 : (Jvm.Cond.code ({ cls := "MarkerText$Test", name := "<init>", desc := "(II[JLjava/lang/String;)V" } : Jvm.MethodName) prog_11_method_1_code (5 : Nat) (Option.none : Option Jvm.ClassFile.FieldType)) ∈ xT := xT_at 1017 (by decide +kernel) (by decide +kernel)
theorem xcb_Test_init : xcb M_Test_init 4 := ⟨xw_1017, xw_30, by decide, by decide, by decide, by decide +kernel⟩
theorem xw_1015 : (Jvm.Cond.methodLink "MarkerText$Reader" (160 : Nat) ({ cls := "MarkerText$Test", name := "<init>", desc := "(II[JLjava/lang/String;)V" } : Jvm.MethodName)) ∈ xT := xT_at 1015 (by decide +kernel) (by decide +kernel)
theorem xw_1016 : (Jvm.Cond.instanceMethod ({ cls := "MarkerText$Test", name := "<init>", desc := "(II[JLjava/lang/String;)V" } : Jvm.MethodName)) ∈ xT := xT_at 1016 (by decide +kernel) (by decide +kernel)
theorem xci_Reader_160 : xCI "MarkerText$Reader" 160 M_Test_init 4 := ⟨xcb_Test_init, rfl, rfl, xw_1016, Or.inl xw_1015⟩
theorem d_Reader_readComparison_153 : decode M_Reader_readComparison.2.1 153 = .ok (.astore 6, 2) := by decide +kernel
theorem d_Reader_readComparison_155 : decode M_Reader_readComparison.2.1 155 = .ok (.aload_n 0, 1) := by decide +kernel
theorem d_Reader_readComparison_156 : decode M_Reader_readComparison.2.1 156 = .ok (.getfield 12, 3) := by decide +kernel
theorem xw_859 : (Jvm.Cond.fieldLink "MarkerText$Reader" (12 : Nat) "MarkerText$Reader" "tests" "Ljava/util/ArrayList;") ∈ xT := xT_at 859 (by decide +kernel) (by decide +kernel)
theorem xf_Reader_12_Reader : xF "MarkerText$Reader" 12 k_Reader 2 := ⟨_, _, _, "MarkerText$Reader", rfl, by decide, Or.inl xw_859, Or.inl rfl⟩
theorem d_Reader_readComparison_159 : decode M_Reader_readComparison.2.1 159 = .ok (.aload 6, 2) := by decide +kernel
theorem d_Reader_readComparison_161 : decode M_Reader_readComparison.2.1 161 = .ok (.invokevirtual 163, 3) := by decide +kernel
theorem xw_1038 : (Jvm.Cond.code ({ cls := "java/util/ArrayList", name := "add", desc := "(Ljava/lang/Object;)Z" } : Jvm.MethodName) prog_33_method_25_code (2 : Nat) (Option.some Jvm.ClassFile.FieldType.boolean)) ∈ xT := xT_at 1038 (by decide +kernel) (by decide +kernel)
theorem xcb_AL_add_Object : xcb M_AL_add_Object 1 := ⟨xw_1038, xw_26, by decide, by decide, by decide, by decide +kernel⟩
theorem xw_1036 : (Jvm.Cond.instanceMethod ({ cls := "java/util/ArrayList", name := "add", desc := "(Ljava/lang/Object;)Z" } : Jvm.MethodName)) ∈ xT := xT_at 1036 (by decide +kernel) (by decide +kernel)
theorem xw_1035 : (Jvm.Cond.methodLink "MarkerText$Reader" (163 : Nat) ({ cls := "java/util/ArrayList", name := "add", desc := "(Ljava/lang/Object;)Z" } : Jvm.MethodName)) ∈ xT := xT_at 1035 (by decide +kernel) (by decide +kernel)
theorem xw_1037 : (Jvm.Cond.selects "java/util/ArrayList" ({ cls := "java/util/ArrayList", name := "add", desc := "(Ljava/lang/Object;)Z" } : Jvm.MethodName) ({ cls := "java/util/ArrayList", name := "add", desc := "(Ljava/lang/Object;)Z" } : Jvm.MethodName)) ∈ xT := xT_at 1037 (by decide +kernel) (by decide +kernel)
theorem xcv_Reader_163_AL : xCV "MarkerText$Reader" 163 "java/util/ArrayList" M_AL_add_Object 1 := ⟨xcb_AL_add_Object, xw_1036, Or.inl ⟨xw_1035, Or.inl xw_1037⟩⟩
theorem d_Reader_readComparison_164 : decode M_Reader_readComparison.2.1 164 = .ok (.pop, 1) := by decide +kernel
theorem d_Reader_readComparison_165 : decode M_Reader_readComparison.2.1 165 = .ok (.aload 6, 2) := by decide +kernel
theorem d_Reader_readComparison_167 : decode M_Reader_readComparison.2.1 167 = .ok (.areturn, 1) := by decide +kernel
theorem d_Reader_readComparison_0 : decode M_Reader_readComparison.2.1 0 = .ok (.iload_n 1, 1) := by decide +kernel
theorem d_Reader_readComparison_1 : decode M_Reader_readComparison.2.1 1 = .ok (.ifCond .lt 21, 3) := by decide +kernel
theorem d_Reader_readComparison_4 : decode M_Reader_readComparison.2.1 4 = .ok (.iload_n 1, 1) := by decide +kernel
theorem d_Reader_readComparison_5 : decode M_Reader_readComparison.2.1 5 = .ok (.aload_n 0, 1) := by decide +kernel
theorem d_Reader_readComparison_6 : decode M_Reader_readComparison.2.1 6 = .ok (.getfield 39, 3) := by decide +kernel
theorem xw_858 : (Jvm.Cond.fieldLink "MarkerText$Reader" (39 : Nat) "MarkerText$Reader" "names" "[LMarkerText$Name;") ∈ xT := xT_at 858 (by decide +kernel) (by decide +kernel)
theorem xf_Reader_39_Reader : xF "MarkerText$Reader" 39 k_Reader 1 := ⟨_, _, _, "MarkerText$Reader", rfl, by decide, Or.inl xw_858, Or.inl rfl⟩
theorem d_Reader_readComparison_9 : decode M_Reader_readComparison.2.1 9 = .ok (.arraylength, 1) := by decide +kernel
theorem d_Reader_readComparison_10 : decode M_Reader_readComparison.2.1 10 = .ok (.if_icmp .ge 12, 3) := by decide +kernel
theorem d_Reader_readComparison_13 : decode M_Reader_readComparison.2.1 13 = .ok (.aload_n 0, 1) := by decide +kernel
theorem d_Reader_readComparison_14 : decode M_Reader_readComparison.2.1 14 = .ok (.getfield 39, 3) := by decide +kernel
theorem d_Reader_readComparison_17 : decode M_Reader_readComparison.2.1 17 = .ok (.iload_n 1, 1) := by decide +kernel
theorem d_Reader_readComparison_18 : decode M_Reader_readComparison.2.1 18 = .ok (.aaload, 1) := by decide +kernel
theorem d_Reader_readComparison_19 : decode M_Reader_readComparison.2.1 19 = .ok (.goto 4, 3) := by decide +kernel
theorem d_Reader_readComparison_23 : decode M_Reader_readComparison.2.1 23 = .ok (.astore_n 2, 1) := by decide +kernel
theorem d_Reader_readComparison_24 : decode M_Reader_readComparison.2.1 24 = .ok (.aload_n 2, 1) := by decide +kernel
theorem d_Reader_readComparison_25 : decode M_Reader_readComparison.2.1 25 = .ok (.ifnonnull 5, 3) := by decide +kernel
theorem d_Reader_readComparison_30 : decode M_Reader_readComparison.2.1 30 = .ok (.aload_n 0, 1) := by decide +kernel
theorem d_Reader_readComparison_31 : decode M_Reader_readComparison.2.1 31 = .ok (.getfield 21, 3) := by decide +kernel
theorem d_Reader_readComparison_34 : decode M_Reader_readComparison.2.1 34 = .ok (.iconst 0, 1) := by decide +kernel
theorem d_Reader_readComparison_35 : decode M_Reader_readComparison.2.1 35 = .ok (.invokevirtual 58, 3) := by decide +kernel
theorem xw_647 : (Jvm.Cond.code ({ cls := "java/lang/StringBuilder", name := "setLength", desc := "(I)V" } : Jvm.MethodName) prog_26_method_89_code (2 : Nat) (Option.none : Option Jvm.ClassFile.FieldType)) ∈ xT := xT_at 647 (by decide +kernel) (by decide +kernel)
theorem xcb_SB_setLength : xcb M_SB_setLength 1 := ⟨xw_647, xw_3, by decide, by decide, by decide, by decide +kernel⟩
theorem xw_645 : (Jvm.Cond.instanceMethod ({ cls := "java/lang/StringBuilder", name := "setLength", desc := "(I)V" } : Jvm.MethodName)) ∈ xT := xT_at 645 (by decide +kernel) (by decide +kernel)
theorem xw_978 : (Jvm.Cond.methodLink "MarkerText$Reader" (58 : Nat) ({ cls := "java/lang/StringBuilder", name := "setLength", desc := "(I)V" } : Jvm.MethodName)) ∈ xT := xT_at 978 (by decide +kernel) (by decide +kernel)
theorem xw_646 : (Jvm.Cond.selects "java/lang/StringBuilder" ({ cls := "java/lang/StringBuilder", name := "setLength", desc := "(I)V" } : Jvm.MethodName) ({ cls := "java/lang/StringBuilder", name := "setLength", desc := "(I)V" } : Jvm.MethodName)) ∈ xT := xT_at 646 (by decide +kernel) (by decide +kernel)
theorem xcv_Reader_58_SB : xCV "MarkerText$Reader" 58 "java/lang/StringBuilder" M_SB_setLength 1 := ⟨xcb_SB_setLength, xw_645, Or.inl ⟨xw_978, Or.inl xw_646⟩⟩
theorem d_Reader_readComparison_38 : decode M_Reader_readComparison.2.1 38 = .ok (.aload_n 0, 1) := by decide +kernel
theorem d_Reader_readComparison_39 : decode M_Reader_readComparison.2.1 39 = .ok (.getfield 21, 3) := by decide +kernel
theorem d_Reader_readComparison_42 : decode M_Reader_readComparison.2.1 42 = .ok (.aload_n 2, 1) := by decide +kernel
theorem d_Reader_readComparison_43 : decode M_Reader_readComparison.2.1 43 = .ok (.getfield 134, 3) := by decide +kernel
theorem xw_720 : (Jvm.Cond.fieldLinkNest "MarkerText$Reader" (134 : Nat) "MarkerText$Name" "spelling" "Ljava/lang/String;" "MarkerText") ∈ xT := xT_at 720 (by decide +kernel) (by decide +kernel)
theorem xf_Reader_134_Name : xF "MarkerText$Reader" 134 k_Name 0 := ⟨_, _, _, "MarkerText$Name", rfl, by decide, Or.inr ⟨_, xw_720⟩, Or.inl rfl⟩
theorem d_Reader_readComparison_46 : decode M_Reader_readComparison.2.1 46 = .ok (.invokevirtual 139, 3) := by decide +kernel
theorem d_Reader_readComparison_49 : decode M_Reader_readComparison.2.1 49 = .ok (.bipush 32, 2) := by decide +kernel
theorem d_Reader_readComparison_51 : decode M_Reader_readComparison.2.1 51 = .ok (.invokevirtual 143, 3) := by decide +kernel
theorem d_Reader_readComparison_54 : decode M_Reader_readComparison.2.1 54 = .ok (.pop, 1) := by decide +kernel
theorem d_Reader_readComparison_55 : decode M_Reader_readComparison.2.1 55 = .ok (.aload_n 0, 1) := by decide +kernel
theorem d_Reader_readComparison_56 : decode M_Reader_readComparison.2.1 56 = .ok (.ldc 146, 2) := by decide +kernel
theorem d_Reader_readComparison_58 : decode M_Reader_readComparison.2.1 58 = .ok (.invokevirtual 83, 3) := by decide +kernel
theorem xw_985 : (Jvm.Cond.code ({ cls := "MarkerText$Reader", name := "takesWord", desc := "(Ljava/lang/String;)Z" } : Jvm.MethodName) prog_10_method_14_code (2 : Nat) (Option.some Jvm.ClassFile.FieldType.boolean)) ∈ xT := xT_at 985 (by decide +kernel) (by decide +kernel)
theorem xcb_Reader_takesWord : xcb M_Reader_takesWord 1 := ⟨xw_985, xw_23, by decide, by decide, by decide, by decide +kernel⟩
theorem xw_984 : (Jvm.Cond.instanceMethod ({ cls := "MarkerText$Reader", name := "takesWord", desc := "(Ljava/lang/String;)Z" } : Jvm.MethodName)) ∈ xT := xT_at 984 (by decide +kernel) (by decide +kernel)
theorem xw_982 : (Jvm.Cond.methodLink "MarkerText$Reader" (83 : Nat) ({ cls := "MarkerText$Reader", name := "takesWord", desc := "(Ljava/lang/String;)Z" } : Jvm.MethodName)) ∈ xT := xT_at 982 (by decide +kernel) (by decide +kernel)
theorem xsel_Reader_takesWord : Cond.selects "MarkerText$Reader" y_Reader_takesWord y_Reader_takesWord ∈ xT := xT_sel (q := (y_Reader_takesWord, 7)) (by decide +kernel) (by decide +kernel)
theorem xcv_Reader_83_Reader : xCV "MarkerText$Reader" 83 "MarkerText$Reader" M_Reader_takesWord 1 := ⟨xcb_Reader_takesWord, xw_984, Or.inl ⟨xw_982, Or.inl xsel_Reader_takesWord⟩⟩
theorem d_Reader_readComparison_61 : decode M_Reader_readComparison.2.1 61 = .ok (.istore_n 3, 1) := by decide +kernel
theorem d_Reader_readComparison_62 : decode M_Reader_readComparison.2.1 62 = .ok (.iload_n 3, 1) := by decide +kernel
theorem d_Reader_readComparison_63 : decode M_Reader_readComparison.2.1 63 = .ok (.ifCond .eq 7, 3) := by decide +kernel
theorem d_Reader_readComparison_66 : decode M_Reader_readComparison.2.1 66 = .ok (.iconst 2, 1) := by decide +kernel
theorem d_Reader_readComparison_67 : decode M_Reader_readComparison.2.1 67 = .ok (.goto 7, 3) := by decide +kernel
theorem d_Reader_readComparison_74 : decode M_Reader_readComparison.2.1 74 = .ok (.istore 4, 2) := by decide +kernel
theorem d_Reader_readComparison_76 : decode M_Reader_readComparison.2.1 76 = .ok (.iload 4, 2) := by decide +kernel
theorem d_Reader_readComparison_78 : decode M_Reader_readComparison.2.1 78 = .ok (.iconst (-1), 1) := by decide +kernel
theorem d_Reader_readComparison_79 : decode M_Reader_readComparison.2.1 79 = .ok (.if_icmp .ne 5, 3) := by decide +kernel
theorem d_Reader_readComparison_84 : decode M_Reader_readComparison.2.1 84 = .ok (.iload_n 3, 1) := by decide +kernel
theorem d_Reader_readComparison_85 : decode M_Reader_readComparison.2.1 85 = .ok (.ifCond .eq 13, 3) := by decide +kernel
theorem d_Reader_readComparison_88 : decode M_Reader_readComparison.2.1 88 = .ok (.aload_n 0, 1) := by decide +kernel
theorem d_Reader_readComparison_89 : decode M_Reader_readComparison.2.1 89 = .ok (.getfield 21, 3) := by decide +kernel
theorem d_Reader_readComparison_92 : decode M_Reader_readComparison.2.1 92 = .ok (.ldc 146, 2) := by decide +kernel
theorem d_Reader_readComparison_94 : decode M_Reader_readComparison.2.1 94 = .ok (.invokevirtual 139, 3) := by decide +kernel
theorem d_Reader_readComparison_97 : decode M_Reader_readComparison.2.1 97 = .ok (.pop, 1) := by decide +kernel
theorem d_Reader_readComparison_98 : decode M_Reader_readComparison.2.1 98 = .ok (.aload_n 0, 1) := by decide +kernel
theorem d_Reader_readComparison_99 : decode M_Reader_readComparison.2.1 99 = .ok (.getfield 21, 3) := by decide +kernel
theorem d_Reader_readComparison_102 : decode M_Reader_readComparison.2.1 102 = .ok (.bipush 32, 2) := by decide +kernel
theorem d_Reader_readComparison_104 : decode M_Reader_readComparison.2.1 104 = .ok (.invokevirtual 143, 3) := by decide +kernel
theorem d_Reader_readComparison_107 : decode M_Reader_readComparison.2.1 107 = .ok (.pop, 1) := by decide +kernel
theorem d_Reader_readComparison_108 : decode M_Reader_readComparison.2.1 108 = .ok (.iload_n 3, 1) := by decide +kernel
theorem d_Reader_readComparison_109 : decode M_Reader_readComparison.2.1 109 = .ok (.ifCond .eq 11, 3) := by decide +kernel
theorem d_Reader_readComparison_112 : decode M_Reader_readComparison.2.1 112 = .ok (.aload_n 0, 1) := by decide +kernel
theorem d_Reader_readComparison_113 : decode M_Reader_readComparison.2.1 113 = .ok (.aload_n 2, 1) := by decide +kernel
theorem d_Reader_readComparison_114 : decode M_Reader_readComparison.2.1 114 = .ok (.invokevirtual 153, 3) := by decide +kernel
theorem xw_993 : (Jvm.Cond.code ({ cls := "MarkerText$Reader", name := "readList", desc := "(LMarkerText$Name;)[J" } : Jvm.MethodName) prog_10_method_9_code (4 : Nat) (Option.some (Jvm.ClassFile.FieldType.array Jvm.ClassFile.FieldType.long))) ∈ xT := xT_at 993 (by decide +kernel) (by decide +kernel)
theorem xcb_Reader_readList : xcb M_Reader_readList 1 := ⟨xw_993, xw_23, by decide, by decide, by decide, by decide +kernel⟩
theorem xw_992 : (Jvm.Cond.instanceMethod ({ cls := "MarkerText$Reader", name := "readList", desc := "(LMarkerText$Name;)[J" } : Jvm.MethodName)) ∈ xT := xT_at 992 (by decide +kernel) (by decide +kernel)
theorem xw_990 : (Jvm.Cond.methodLink "MarkerText$Reader" (153 : Nat) ({ cls := "MarkerText$Reader", name := "readList", desc := "(LMarkerText$Name;)[J" } : Jvm.MethodName)) ∈ xT := xT_at 990 (by decide +kernel) (by decide +kernel)
theorem xsel_Reader_readList : Cond.selects "MarkerText$Reader" y_Reader_readList y_Reader_readList ∈ xT := xT_sel (q := (y_Reader_readList, 7)) (by decide +kernel) (by decide +kernel)
theorem xcv_Reader_153_Reader : xCV "MarkerText$Reader" 153 "MarkerText$Reader" M_Reader_readList 1 := ⟨xcb_Reader_readList, xw_992, Or.inl ⟨xw_990, Or.inl xsel_Reader_readList⟩⟩
theorem d_Reader_readComparison_117 : decode M_Reader_readComparison.2.1 117 = .ok (.goto 8, 3) := by decide +kernel
theorem d_Reader_readComparison_70 : decode M_Reader_readComparison.2.1 70 = .ok (.aload_n 0, 1) := by decide +kernel
theorem d_Reader_readComparison_71 : decode M_Reader_readComparison.2.1 71 = .ok (.invokevirtual 150, 3) := by decide +kernel
theorem xw_989 : (Jvm.Cond.code ({ cls := "MarkerText$Reader", name := "readOperator", desc := "()I" } : Jvm.MethodName) prog_10_method_7_code (4 : Nat) (Option.some Jvm.ClassFile.FieldType.int)) ∈ xT := xT_at 989 (by decide +kernel) (by decide +kernel)
theorem xcb_Reader_readOperator : xcb M_Reader_readOperator 0 := ⟨xw_989, xw_23, by decide, by decide, by decide, by decide +kernel⟩
theorem xw_988 : (Jvm.Cond.instanceMethod ({ cls := "MarkerText$Reader", name := "readOperator", desc := "()I" } : Jvm.MethodName)) ∈ xT := xT_at 988 (by decide +kernel) (by decide +kernel)
theorem xw_986 : (Jvm.Cond.methodLink "MarkerText$Reader" (150 : Nat) ({ cls := "MarkerText$Reader", name := "readOperator", desc := "()I" } : Jvm.MethodName)) ∈ xT := xT_at 986 (by decide +kernel) (by decide +kernel)
theorem xsel_Reader_readOperator : Cond.selects "MarkerText$Reader" y_Reader_readOperator y_Reader_readOperator ∈ xT := xT_sel (q := (y_Reader_readOperator, 7)) (by decide +kernel) (by decide +kernel)
theorem xcv_Reader_150_Reader : xCV "MarkerText$Reader" 150 "MarkerText$Reader" M_Reader_readOperator 0 := ⟨xcb_Reader_readOperator, xw_988, Or.inl ⟨xw_986, Or.inl xsel_Reader_readOperator⟩⟩
theorem d_Reader_readComparison_82 : decode M_Reader_readComparison.2.1 82 = .ok (.aconst_null, 1) := by decide +kernel
theorem d_Reader_readComparison_83 : decode M_Reader_readComparison.2.1 83 = .ok (.areturn, 1) := by decide +kernel
theorem d_Reader_readComparison_120 : decode M_Reader_readComparison.2.1 120 = .ok (.aload_n 0, 1) := by decide +kernel
theorem d_Reader_readComparison_121 : decode M_Reader_readComparison.2.1 121 = .ok (.aload_n 2, 1) := by decide +kernel
theorem d_Reader_readComparison_122 : decode M_Reader_readComparison.2.1 122 = .ok (.invokevirtual 157, 3) := by decide +kernel
theorem xw_1011 : (Jvm.Cond.code ({ cls := "MarkerText$Reader", name := "readSingle", desc := "(LMarkerText$Name;)[J" } : Jvm.MethodName) prog_10_method_8_code (5 : Nat) (Option.some (Jvm.ClassFile.FieldType.array Jvm.ClassFile.FieldType.long))) ∈ xT := xT_at 1011 (by decide +kernel) (by decide +kernel)
theorem xcb_Reader_readSingle : xcb M_Reader_readSingle 1 := ⟨xw_1011, xw_23, by decide, by decide, by decide, by decide +kernel⟩
theorem xw_1010 : (Jvm.Cond.instanceMethod ({ cls := "MarkerText$Reader", name := "readSingle", desc := "(LMarkerText$Name;)[J" } : Jvm.MethodName)) ∈ xT := xT_at 1010 (by decide +kernel) (by decide +kernel)
theorem xw_1008 : (Jvm.Cond.methodLink "MarkerText$Reader" (157 : Nat) ({ cls := "MarkerText$Reader", name := "readSingle", desc := "(LMarkerText$Name;)[J" } : Jvm.MethodName)) ∈ xT := xT_at 1008 (by decide +kernel) (by decide +kernel)
theorem xsel_Reader_readSingle : Cond.selects "MarkerText$Reader" y_Reader_readSingle y_Reader_readSingle ∈ xT := xT_sel (q := (y_Reader_readSingle, 7)) (by decide +kernel) (by decide +kernel)
theorem xcv_Reader_157_Reader : xCV "MarkerText$Reader" 157 "MarkerText$Reader" M_Reader_readSingle 1 := ⟨xcb_Reader_readSingle, xw_1010, Or.inl ⟨xw_1008, Or.inl xsel_Reader_readSingle⟩⟩
end
section RD9
variable {l : Launch} {G : XG} {h : XH} {c n d : Nat}
theorem c_readComparison (hG : xGk G) (hd : 10 ≤ d) {K r ta na la ba ea va p o tc m k kd : Nat} {t as kas es ln w ks : List Nat} {Ns : List NmT} {ts : List TsT} (hR : isRd G h r ta na la ba t as kas Ns ea va p o tc es ts ln m) (hl : t.length < 2 ^ 12) (hp : p ≤ t.length) (hk : Ns[k]? = some (w, kd, ks)) (h60 : es.length ≤ 60) (hK : K < 2 ^ 16) (hK2 : 4 * t.length + 60 ≤ K) (hm : m ≤ K) (hc : c + K + 20 ≤ xCB + m) (hn : n + 2 * K + (9 * t.length + 200) ≤ xSB + 2 * m) :
    XM l G d M_Reader_readComparison [.ref r, .int (nI k)] h c n (pX G 20 (9 * t.length + 200) K r ta na la ba t as kas Ns ea va (rcm t k w kd p).1 o tc ts m h c n (rcm t k w kd p).2) := by
  obtain ⟨d, rfl⟩ : ∃ q, d = q + 1 := ⟨d - 1, by omega⟩
  obtain ⟨hr, hS, hNs, hLi, hT, hB⟩ := id hR
  obtain ⟨hna, e1, e2, e3, -, -, hx⟩ := id hNs
  have hkl : k < Ns.length := (List.getElem?_eq_some_iff.mp hk).1
  have hka : k < as.length := by omega
  have hkk : k < kas.length := by omega
  obtain ⟨oa, hoa⟩ : ∃ oa, as[k]? = some oa := ⟨_, List.getElem?_eq_getElem hka⟩
  obtain ⟨ka, hkas⟩ : ∃ ka, kas[k]? = some ka := ⟨_, List.getElem?_eq_getElem hkk⟩
  obtain ⟨hN, hw8⟩ := hx k _ oa ka hk hoa hkas
  have hw8 : w.length ≤ 8 := hw8
  have hN : isN G h oa ka w kd ks := hN
  have hlen6 : (as.map (Value.ref ·) ++ List.replicate (6 - as.length) Value.null).length = 6 := by simp; omega
  have hat : (as.map (Value.ref ·) ++ List.replicate (6 - as.length) Value.null)[(nI k).toNatClampNeg]? = some (.ref oa) := by
    rw [nI_clamp (by omega), List.getElem?_append_left (by simpa using hka), List.getElem?_map, hoa]
    rfl
  have hkr : xno h [r, ba, va] kRd := hB.kR hr (by decide) (by decide) (by decide)
  have hSf : ∀ {h1 : XH}, xfr h h1 [r, ba, va] → isS G h1 ta t := fun f => hS.fr f (hkr.sub (by decide))
  have hNf : ∀ {h1 : XH}, xfr h h1 [r, ba, va] → isN G h1 oa ka w kd ks := fun f => by
    obtain ⟨sa, y1, -, y3, -⟩ := id hN
    exact hN.fr f (hkr.sub (by decide)) (hkr.at y1 (by decide)) (hkr.at y3 (by decide))
  -- once the VALUES are read
  have tail : ∀ (h1 : XH) (c1 n1 C1 N1 p1 acc : Nat) (ln1 : List Nat) (ous : Option (List Nat)) (v : Value) (e3 e5 e6 : Option Value), pR C1 N1 K r ba va (rdO ta na la ba p1 o tc) ln1 m h c n h1 c1 n1 → pVs h h1 (some v) ous → (∀ us, ous = some us → us.length ≤ 6 ∧ ∀ x ∈ us, x < 2 ^ 63) → acc < 16 → ln1.length ≤ 2 * t.length + 20 → C1 ≤ 16 → N1 ≤ 7 * t.length + 60 →
      XW l G M_Reader_readComparison (d + 1) 125 [some (.ref r), some (.int (nI k)), some (.ref oa), e3, some (.int (nI acc)), e5, e6] [v] h1 c1 n1 (pX G 20 (9 * t.length + 200) K r ta na la ba t as kas Ns ea va p1 o tc ts m h c n (ous.map (fun us => (k, acc, us, ln1)))) := by
    intro h1 c1 n1 C1 N1 p1 acc ln1 ous v e3 e5 e6 q1 q2 q3 q4 q5 q6 q7
    obtain ⟨va1, m1, r1, b1, f1, w1, g1⟩ := id q1
    cases ous with
    | none =>
      cases q2
      refine x_astore (L' := [_, _, _, _, _, _, _]) d_Reader_readComparison_125 rfl rfl rfl ?_
      refine x_aload d_Reader_readComparison_127 rfl rfl ?_
      refine x_ifnonnullN d_Reader_readComparison_129 ?_
      refine x_null d_Reader_readComparison_132 ?_
      refine x_aret d_Reader_readComparison_133 rfl rfl ?_
      exact ⟨rfl, pT.ofR hR (q1.mono (by omega) (by omega))⟩
    | some us =>
      obtain ⟨q, hv, hq, hq1⟩ := q2
      cases hv
      obtain ⟨q3, q3'⟩ := q3 us rfl
      obtain ⟨z1, bs1, hb1, -⟩ := id b1
      refine x_astore (L' := [_, _, _, _, _, _, _]) d_Reader_readComparison_125 rfl rfl rfl ?_
      refine x_aload d_Reader_readComparison_127 rfl rfl ?_
      refine x_ifnonnull (tgt := 134) d_Reader_readComparison_129 (by decide) ?_
      refine x_new xnw_Reader_148 (by omega) (by omega) d_Reader_readComparison_134 (fun x hn_x hk_x => ?_)
      have hb1' : xup h1 x (k_Test, [.int 0, .int 0, .null, .null, .int 0]) ba = some (k_StringBuilder, _) := xup_old hb1 hn_x
      have r1' : xup h1 x (k_Test, [.int 0, .int 0, .null, .null, .int 0]) r = some (rdO ta na la ba p1 o tc) := xup_old r1 hn_x
      refine x_dup d_Reader_readComparison_137 rfl ?_
      refine x_iload_n d_Reader_readComparison_138 rfl ?_
      refine x_iload d_Reader_readComparison_139 rfl ?_
      refine x_aload d_Reader_readComparison_141 rfl rfl ?_
      refine x_aload_n d_Reader_readComparison_143 rfl rfl ?_
      refine x_get xf_Reader_21_Reader (Or.inl r1') rfl d_Reader_readComparison_144 ?_
      refine x_callV (As := []) (k := k_StringBuilder) rfl xcv_Reader_68_SB (Or.inl hb1') (c_SB_toString (by omega) (b1.up hn_x) (by omega) (by omega) (by omega)) rfl rfl (Nat.le_of_ble_eq_true rfl) d_Reader_readComparison_147 ?_
      rintro v h2 c2 n2 ⟨sa, rfl, s2, f2, k2, k2'⟩
      have hx2 := f2.1 _ _ (xup_self : xup h1 x (k_Test, [.int 0, .int 0, .null, .null, .int 0]) x = _) (by simp)
      refine x_callI (As := [_, _, _, _]) xci_Reader_160 (c_Test_init (by omega) hx2) rfl rfl (Nat.le_of_ble_eq_true rfl) d_Reader_readComparison_150 ?_
      rintro v h3 c3 n3 ⟨rfl, rfl, rfl, rfl⟩
      have f13 : xfr h1 (xup h2 x (k_Test, [.int (nI k), .int (nI acc), .ref q, .ref sa, .int 3])) [] := ((xfr.rf.up (Or.inr hn_x) : xfr h1 (xup h1 x _) []).tr f2 (fun _ _ z => by cases z)).up (Or.inr hn_x)
      have hT3 : isTs G (xup h2 x (k_Test, [.int (nI k), .int (nI acc), .ref q, .ref sa, .int 3])) x (k, acc, us, ln1) := ⟨q, sa, xup_self, f13.1 _ _ hq1 (by simp), s2.upR hx2 (by decide), (by show k < 6; omega), q4, q3', q3⟩
      have q3r := pR.tr r1 b1 f1 w1 g1 (pR.ofN (C := 3) (N := ln1.length + 9) (c := c1) (n := n1) (c' := c3) (n' := n3) r1 b1 g1.2.1 f13 (by omega) (by omega))
      revert hT3 q3r
      generalize xup h2 x (k_Test, [.int (nI k), .int (nI acc), .ref q, .ref sa, .int 3]) = h4
      intro hT3 q3r
      obtain ⟨va4, m4, R4, f4, w4, g4⟩ := hR.ofR q3r
      obtain ⟨hr4, hS4, hNs4, hL4, hT4, hB4⟩ := id R4
      obtain ⟨mc4, hla4, -⟩ := id hL4
      obtain ⟨vx, sx, hx4, -⟩ := id hT3
      refine x_wf fun hwf => ?_
      refine x_astore (L' := [_, _, _, _, _, _, _]) d_Reader_readComparison_153 rfl rfl rfl ?_
      refine x_aload_n d_Reader_readComparison_155 rfl rfl ?_
      refine x_get xf_Reader_12_Reader (Or.inl hr4) rfl d_Reader_readComparison_156 ?_
      refine x_aload d_Reader_readComparison_159 rfl rfl ?_
      refine x_callV (As := [_]) (k := k_ArrayList) rfl xcv_Reader_163_AL (Or.inl hla4) (c_AL_add hG (by omega) hL4 (Or.inl hx4) hT4.el h60 (by omega) (by omega)) rfl rfl (Nat.le_of_ble_eq_true rfl) d_Reader_readComparison_161 ?_
      rintro v h5 c5 n5 ⟨rfl, ea5, y1, y2, y3, y4, y5⟩
      refine x_pop d_Reader_readComparison_164 rfl ?_
      refine x_aload d_Reader_readComparison_165 rfl rfl ?_
      refine x_aret d_Reader_readComparison_167 rfl rfl ?_
      have hk5 : xno h4 [la, ea] [k_aName, k_Name, k_aknown, k_String, k_asbyte, k_Test, k_Join, k_Negation, k_Constant, k_avals, k_Reader, k_StringBuilder, k_abyte] := hL4.kn hG hwf (by decide) (by decide)
      obtain ⟨z4, bs4, hb4, hv4, -⟩ := id hB4
      refine ⟨x, rfl, f1.2 _ hn_x, hT3.fr y2 (hk5.sub (by decide)), ea5, va4, es ++ [x], ln1, m4, ⟨y2.1 _ _ hr4 (hk5.at hr4 (by decide)), hS4.fr y2 (hk5.sub (by decide)), hNs4.fr y2 (hk5.sub (by decide)), y1, (hT4.fr y2 (hk5.sub (by decide))).push (hT3.fr y2 (hk5.sub (by decide))), hB4.fr y2 (hk5.at hb4 (by decide)) (hk5.at hv4 (by decide))⟩, (f4.mono (by simp)).tr (y2.mono (F' := [r, la, ea, ba, va]) (by simp)) (fun _ _ z => z), ?_, w4, by omega⟩
      exact y3.imp id (fun z => f4.2 _ z)
  have hskp := skp_le hp
  have htkw : tkW t p (xtx 22) ≤ t.length := tkW_le hp
  obtain ⟨sw, hoa1, hsw, -⟩ := id hN
  obtain ⟨z, bs, hba, -⟩ := id hB
  refine XM.of (by decide +kernel) (Nat.le_of_ble_eq_true rfl) ?_
  refine x_iload_n d_Reader_readComparison_0 rfl ?_
  refine x_if_lt (tgt := 22) d_Reader_readComparison_1 (by decide) (fun ht => absurd ht (nI_pos (by omega))) (fun _ => ?_)
  refine x_iload_n d_Reader_readComparison_4 rfl ?_
  refine x_aload_n d_Reader_readComparison_5 rfl rfl ?_
  refine x_get xf_Reader_39_Reader (Or.inl hr) rfl d_Reader_readComparison_6 ?_
  refine x_alen (k := k_aName) rfl (Or.inl hna) (v := nI 6) (by rw [hlen6]; rfl) d_Reader_readComparison_9 ?_
  refine x_icmp_ge (tgt := 22) d_Reader_readComparison_10 (by decide) (fun ht => absurd ht (nI_ge (b := 6) (by omega) (by omega))) (fun _ => ?_)
  refine x_aload_n d_Reader_readComparison_13 rfl rfl ?_
  refine x_get xf_Reader_39_Reader (Or.inl hr) rfl d_Reader_readComparison_14 ?_
  refine x_iload_n d_Reader_readComparison_17 rfl ?_
  refine x_aald (k := k_aName) rfl rfl (Or.inl hna) (nI_pos (by omega)) hat d_Reader_readComparison_18 ?_
  refine x_goto (tgt := 23) d_Reader_readComparison_19 (by decide) ?_
  refine x_astore_n (L' := [_, _, _, _, _, _, _]) d_Reader_readComparison_23 rfl rfl rfl ?_
  refine x_aload_n d_Reader_readComparison_24 rfl rfl ?_
  refine x_ifnonnull (tgt := 30) d_Reader_readComparison_25 (by decide) ?_
  refine x_aload_n d_Reader_readComparison_30 rfl rfl ?_
  refine x_get xf_Reader_21_Reader (Or.inl hr) rfl d_Reader_readComparison_31 ?_
  refine x_iconst (v := 0) d_Reader_readComparison_34 (by decide) ?_
  refine x_callV (As := [_]) (k := k_StringBuilder) rfl xcv_Reader_58_SB (Or.inl hba) (c_SB_setLength0 (by omega) hB (by omega)) rfl rfl (Nat.le_of_ble_eq_true rfl) d_Reader_readComparison_35 ?_
  rintro v h1 c1 n1 ⟨rfl, y1, y2, rfl, rfl⟩
  obtain ⟨va1, m1, r1, b1, f1, w1, g1⟩ := pR.ofS (K := K) (c := c1) (n := n1) hr hB hm y1 y2
  obtain ⟨z1, bs1, hb1, -⟩ := id b1
  obtain ⟨sw1, hoa1, hsw1, -⟩ := hNf f1
  refine x_aload_n d_Reader_readComparison_38 rfl rfl ?_
  refine x_get xf_Reader_21_Reader (Or.inl r1) rfl d_Reader_readComparison_39 ?_
  refine x_aload_n d_Reader_readComparison_42 rfl rfl ?_
  refine x_get xf_Reader_134_Name (Or.inl hoa1) rfl d_Reader_readComparison_43 ?_
  refine x_callV (As := [_]) (k := k_StringBuilder) rfl xcv_Reader_139_SB (Or.inl hb1) (c_SB_append_S (K := K) (by omega) b1 hsw1 hK g1.2.1 (by simp; omega) (by omega) (by omega)) rfl rfl (Nat.le_of_ble_eq_true rfl) d_Reader_readComparison_46 ?_
  rintro v h2 c2 n2 ⟨rfl, p2⟩
  obtain ⟨va2, m2, r2, b2, f2, w2, g2⟩ := pR.tr r1 b1 f1 w1 g1 (pR.ofB r1 b1 p2)
  rw [List.nil_append] at b2
  obtain ⟨z2, bs2, hb2, -⟩ := id b2
  refine x_bipush (v := 32) d_Reader_readComparison_49 (by decide) ?_
  refine x_callV (As := [_]) (k := k_StringBuilder) rfl xcv_Reader_143_SB (Or.inl hb2) (c_SB_append_C (K := K) (ch := 32) (by omega) b2 (by decide) hK g2.2.1 (by omega) (by omega) (by omega)) rfl rfl (Nat.le_of_ble_eq_true rfl) d_Reader_readComparison_51 ?_
  rintro v h3 c3 n3 ⟨rfl, p3⟩
  obtain ⟨va3, m3, r3, b3, f3, w3, g3⟩ := pR.tr r2 b2 f2 w2 g2 (pR.ofB r2 b2 p3)
  refine x_pop d_Reader_readComparison_54 rfl ?_
  refine x_aload_n d_Reader_readComparison_55 rfl rfl ?_
  refine x_ldcS (i := 22) (tx := "in") (by decide +kernel) d_Reader_readComparison_56 ?_
  refine x_callV (As := [_]) (k := k_Reader) rfl xcv_Reader_83_Reader (Or.inl r3) (c_takesWord hG (by omega) r3 (hSf f3) (by omega) hp (hG.str (by decide)) (by decide) (by omega) (by omega)) rfl rfl (Nat.le_of_ble_eq_true rfl) d_Reader_readComparison_58 ?_
  rintro v h4 c4 n4 ⟨rfl, r4, f4, k4, k4'⟩
  have hne3 := b3.neR r3
  simp only [List.mem_cons, List.not_mem_nil, or_false, not_or] at hne3
  have b4 : isB h4 ba va3 (w ++ [32]) m3 := b3.fr f4 (by simpa using Ne.symm hne3.1) (by simpa using Ne.symm hne3.2)
  obtain ⟨va4, m4, r4, b4, f4, w4, g4⟩ := pR.tr r3 b3 f3 w3 g3 (⟨va3, m3, r4, b4, f4.mono (by simp), Or.inl rfl, by omega⟩ : pR 2 (t.length + 4) K r ba va3 (rdO ta na la ba (tkW t p (xtx 22)) o tc) (w ++ [32]) m3 h3 c3 n3 h4 c4 n4)
  by_cases hin : wrd t (skp t p) = xtx 22
  · have hrc : rcm t k w kd p = ((rlist t kd (tkW t p (xtx 22))).1, (rlist t kd (tkW t p (xtx 22))).2.1.map (fun us => (k, 2, us, (((w ++ [32]) ++ xtx 22) ++ [32]) ++ (rlist t kd (tkW t p (xtx 22))).2.2))) := if_pos hin
    rw [hrc]
    obtain ⟨l1, l2⟩ := rlist_le (kd := kd) htkw
    obtain ⟨z4, bs4, hb4, -⟩ := id b4
    have hinl : (xtx 22).length = 2 := rfl
    refine x_istore_n (L' := [_, _, _, _, _, _, _]) d_Reader_readComparison_61 rfl rfl ?_
    refine x_iload_n d_Reader_readComparison_62 rfl ?_
    refine x_if_eq (tgt := 70) d_Reader_readComparison_63 (by decide) (fun ht => absurd ht (by rw [decide_eq_true hin]; decide)) (fun _ => ?_)
    refine x_iconst (v := 2) d_Reader_readComparison_66 (by decide) ?_
    refine x_goto (tgt := 74) d_Reader_readComparison_67 (by decide) ?_
    refine x_istore (L' := [_, _, _, _, _, _, _]) d_Reader_readComparison_74 rfl rfl ?_
    refine x_iload d_Reader_readComparison_76 rfl ?_
    refine x_iconst (v := (-1)) d_Reader_readComparison_78 (by decide) ?_
    refine x_icmp_ne (tgt := 84) d_Reader_readComparison_79 (by decide) (fun _ => ?_) (fun hn => absurd hn (by decide))
    refine x_iload_n d_Reader_readComparison_84 rfl ?_
    refine x_if_eq (tgt := 98) d_Reader_readComparison_85 (by decide) (fun ht => absurd ht (by rw [decide_eq_true hin]; decide)) (fun _ => ?_)
    refine x_aload_n d_Reader_readComparison_88 rfl rfl ?_
    refine x_get xf_Reader_21_Reader (Or.inl r4) rfl d_Reader_readComparison_89 ?_
    refine x_ldcS (i := 22) (tx := "in") (by decide +kernel) d_Reader_readComparison_92 ?_
    refine x_callV (As := [_]) (k := k_StringBuilder) rfl xcv_Reader_139_SB (Or.inl hb4) (c_SB_append_S (K := K) (by omega) b4 (hG.str (by decide)) hK g4.2.1 (by simp; omega) (by omega) (by omega)) rfl rfl (Nat.le_of_ble_eq_true rfl) d_Reader_readComparison_94 ?_
    rintro v h5 c5 n5 ⟨rfl, p5⟩
    obtain ⟨va5, m5, r5, b5, f5, w5, g5⟩ := pR.tr r4 b4 f4 w4 g4 (pR.ofB r4 b4 p5)
    obtain ⟨z5, bs5, hb5, -⟩ := id b5
    refine x_pop d_Reader_readComparison_97 rfl ?_
    refine x_aload_n d_Reader_readComparison_98 rfl rfl ?_
    refine x_get xf_Reader_21_Reader (Or.inl r5) rfl d_Reader_readComparison_99 ?_
    refine x_bipush (v := 32) d_Reader_readComparison_102 (by decide) ?_
    refine x_callV (As := [_]) (k := k_StringBuilder) rfl xcv_Reader_143_SB (Or.inl hb5) (c_SB_append_C (K := K) (ch := 32) (by omega) b5 (by decide) hK g5.2.1 (by simp; omega) (by omega) (by omega)) rfl rfl (Nat.le_of_ble_eq_true rfl) d_Reader_readComparison_104 ?_
    rintro v h6 c6 n6 ⟨rfl, p6⟩
    obtain ⟨va6, m6, r6, b6, f6, w6, g6⟩ := pR.tr r5 b5 f5 w5 g5 (pR.ofB r5 b5 p6)
    have hlb : (((w ++ [32]) ++ xtx 22) ++ [32]).length = w.length + 4 := by simp [hinl]
    refine x_pop d_Reader_readComparison_107 rfl ?_
    refine x_iload_n d_Reader_readComparison_108 rfl ?_
    refine x_if_eq (tgt := 120) d_Reader_readComparison_109 (by decide) (fun ht => absurd ht (by rw [decide_eq_true hin]; decide)) (fun _ => ?_)
    refine x_aload_n d_Reader_readComparison_112 rfl rfl ?_
    refine x_aload_n d_Reader_readComparison_113 rfl rfl ?_
    refine x_callV (As := [_]) (k := k_Reader) rfl xcv_Reader_153_Reader (Or.inl r6) (c_readList (K := K) hG (by omega) r6 (hSf f6) (by omega) htkw b6 (hNf f6) hK g6.2.1 (by omega) (by omega) (by omega)) rfl rfl (Nat.le_of_ble_eq_true rfl) d_Reader_readComparison_114 ?_
    rintro v h7 c7 n7 ⟨pv, p7⟩
    have p8 := pR.tr r6 b6 f6 w6 g6 p7
    have pv' : pVs h h7 v (rlist t kd (tkW t p (xtx 22))).2.1 := by
      cases hq : (rlist t kd (tkW t p (xtx 22))).2.1 with
      | none => rw [hq] at pv; exact pv
      | some us =>
        rw [hq] at pv
        obtain ⟨q, q1, q2, q3⟩ := pv
        exact ⟨q, q1, f6.2 _ q2, q3⟩
    have hok := fun us => rlist_ok (kd := kd) (p := tkW t p (xtx 22)) (vs := us) hS.asc
    have : ∃ v', v = some v' := by
      cases hq : (rlist t kd (tkW t p (xtx 22))).2.1 with
      | none => rw [hq] at pv'; exact ⟨_, pv'⟩
      | some us =>
        rw [hq] at pv'
        obtain ⟨q, q1, -⟩ := pv'
        exact ⟨_, q1⟩
    obtain ⟨v', rfl⟩ := this
    refine x_goto (tgt := 125) d_Reader_readComparison_117 (by decide) ?_
    exact tail h7 c7 n7 _ _ _ 2 _ _ v' _ _ _ p8 pv' hok (by decide) (by rw [List.length_append]; omega) (by omega) (by omega)
  · obtain ⟨o1, o2, o3⟩ := opr_le hskp
    have htk : tkW t p (xtx 22) = skp t p := if_neg hin
    rw [htk] at r4
    refine x_istore_n (L' := [_, _, _, _, _, _, _]) d_Reader_readComparison_61 rfl rfl ?_
    refine x_iload_n d_Reader_readComparison_62 rfl ?_
    refine x_if_eq (tgt := 70) d_Reader_readComparison_63 (by decide) (fun _ => ?_) (fun hn => absurd (by rw [decide_eq_false hin]; rfl) hn)
    refine x_aload_n d_Reader_readComparison_70 rfl rfl ?_
    refine x_callV (As := []) (k := k_Reader) rfl xcv_Reader_150_Reader (Or.inl r4) (c_readOperator (K := K) hG (by omega) r4 (hSf f4) (by omega) hskp b4 hK g4.2.1 (by simp; omega) (by omega) (by omega)) rfl rfl (Nat.le_of_ble_eq_true rfl) d_Reader_readComparison_71 ?_
    rintro v h5 c5 n5 ⟨rfl, p5⟩
    have p5' := pR.tr r4 b4 f4 w4 g4 p5
    obtain ⟨va5, m5, r5, b5, f5, w5, g5⟩ := id p5'
    cases hop : (opr t (skp t p)).2.1 with
    | none =>
      have hrc : rcm t k w kd p = ((opr t (skp t p)).1, none) := by
        unfold rcm
        rw [if_neg hin, hop]
      rw [hrc]
      refine x_istore (L' := [_, _, _, _, _, _, _]) d_Reader_readComparison_74 rfl rfl ?_
      refine x_iload d_Reader_readComparison_76 rfl ?_
      refine x_iconst (v := (-1)) d_Reader_readComparison_78 (by decide) ?_
      refine x_icmp_ne (tgt := 84) d_Reader_readComparison_79 (by decide) (fun ht => absurd rfl ht) (fun _ => ?_)
      refine x_null d_Reader_readComparison_82 ?_
      refine x_aret d_Reader_readComparison_83 rfl rfl ?_
      exact ⟨rfl, pT.ofR hR (p5'.mono (by omega) (by omega))⟩
    | some acc =>
      have hrc : rcm t k w kd p = ((rvl t kd (opr t (skp t p)).1).1, (rsg t kd (opr t (skp t p)).1).map (fun us => (k, acc, us, (((w ++ [32]) ++ (opr t (skp t p)).2.2) ++ [32]) ++ (rvl t kd (opr t (skp t p)).1).2.2))) := by
        unfold rcm
        rw [if_neg hin, hop]
      rw [hrc]
      have hacc := opr_lt hop
      have v1 := rvl_le (kd := kd) o1
      have v2 := rvl_ge (kd := kd) o1
      obtain ⟨z5, bs5, hb5, -⟩ := id b5
      have hne1 : ¬ (nI acc = -1) := fun z => by
        have : ¬ (nI acc < 0) := nI_pos (by omega)
        rw [z] at this
        exact this (by decide)
      refine x_istore (L' := [_, _, _, _, _, _, _]) d_Reader_readComparison_74 rfl rfl ?_
      refine x_iload d_Reader_readComparison_76 rfl ?_
      refine x_iconst (v := (-1)) d_Reader_readComparison_78 (by decide) ?_
      refine x_icmp_ne (tgt := 84) d_Reader_readComparison_79 (by decide) (fun _ => ?_) (fun hn => absurd hn hne1)
      refine x_iload_n d_Reader_readComparison_84 rfl ?_
      refine x_if_eq (tgt := 98) d_Reader_readComparison_85 (by decide) (fun _ => ?_) (fun hn => absurd (by rw [decide_eq_false hin]; rfl) hn)
      refine x_aload_n d_Reader_readComparison_98 rfl rfl ?_
      refine x_get xf_Reader_21_Reader (Or.inl r5) rfl d_Reader_readComparison_99 ?_
      refine x_bipush (v := 32) d_Reader_readComparison_102 (by decide) ?_
      refine x_callV (As := [_]) (k := k_StringBuilder) rfl xcv_Reader_143_SB (Or.inl hb5) (c_SB_append_C (K := K) (ch := 32) (by omega) b5 (by decide) hK g5.2.1 (by simp; omega) (by omega) (by omega)) rfl rfl (Nat.le_of_ble_eq_true rfl) d_Reader_readComparison_104 ?_
      rintro v h6 c6 n6 ⟨rfl, p6⟩
      obtain ⟨va6, m6, r6, b6, f6, w6, g6⟩ := pR.tr r5 b5 f5 w5 g5 (pR.ofB r5 b5 p6)
      have hlb : (((w ++ [32]) ++ (opr t (skp t p)).2.2) ++ [32]).length = w.length + 2 + (opr t (skp t p)).2.2.length := by simp; omega
      refine x_pop d_Reader_readComparison_107 rfl ?_
      refine x_iload_n d_Reader_readComparison_108 rfl ?_
      refine x_if_eq (tgt := 120) d_Reader_readComparison_109 (by decide) (fun _ => ?_) (fun hn => absurd (by rw [decide_eq_false hin]; rfl) hn)
      refine x_aload_n d_Reader_readComparison_120 rfl rfl ?_
      refine x_aload_n d_Reader_readComparison_121 rfl rfl ?_
      refine x_callV (As := [_]) (k := k_Reader) rfl xcv_Reader_157_Reader (Or.inl r6) (c_readSingle (K := K) hG (by omega) r6 (hSf f6) (by omega) o1 b6 (hNf f6) hK g6.2.1 (by omega) (by omega) (by omega)) rfl rfl (Nat.le_of_ble_eq_true rfl) d_Reader_readComparison_122 ?_
      rintro v h7 c7 n7 ⟨pv, p7⟩
      have p8 := pR.tr r6 b6 f6 w6 g6 p7
      have pv' : pVs h h7 v (rsg t kd (opr t (skp t p)).1) := by
        cases hq : rsg t kd (opr t (skp t p)).1 with
        | none => rw [hq] at pv; exact pv
        | some us =>
          rw [hq] at pv
          obtain ⟨q, q1, q2, q3⟩ := pv
          exact ⟨q, q1, f6.2 _ q2, q3⟩
      have hok := fun us => rsg_ok (kd := kd) (p := (opr t (skp t p)).1) (vs := us) hS.asc
      have : ∃ v', v = some v' := by
        cases hq : rsg t kd (opr t (skp t p)).1 with
        | none => rw [hq] at pv'; exact ⟨_, pv'⟩
        | some us =>
          rw [hq] at pv'
          obtain ⟨q, q1, -⟩ := pv'
          exact ⟨_, q1⟩
      obtain ⟨v', rfl⟩ := this
      exact tail h7 c7 n7 _ _ _ acc _ _ v' _ _ _ p8 pv' hok hacc (by rw [List.length_append]; omega) (by omega) (by omega)
end RD9
end
section
section

end
section RE1
variable {l : Launch} {G : XG} {h : XH} {c n d : Nat}
/-! what a Reader reads: where it is, how many tests, which -/
abbrev RS : Type := Nat × Nat × List TsT
abbrev RO : Type := RS × Option Den
def jn (t : List Nat) (F : RS → RO) (w : List Nat) (s : Nat) : Nat → RS → Den → RO
  | 0, st, D => (st, some D)
  | i + 1, st, D =>
    if wrd t (skp t st.1) = w then
      match F (tkW t st.1 w, st.2) with
      | (st', none) => (st', none)
      | (st', some B) => jn t F w s i st' (dJoin s D B)
    else ((tkW t st.1 w, st.2), some D)
def jnd (t : List Nat) (F : RS → RO) (w : List Nat) (s : Nat) (st : RS) : RO :=
  match F st with
  | (st', none) => (st', none)
  | (st', some D) => jn t F w s 160 st' D
/-- behind not, or an opening bracket -/
def rOp (t : List Nat) (F J : RS → RO) (b : Bool) (st : RS) : RO :=
  if b then
    match F (st.1 + 3, st.2) with
    | (st', none) => (st', none)
    | (st', some D) => (st', some (dNot D))
  else
    match J (st.1 + 1, st.2) with
    | (st', none) => (st', none)
    | (st', some D) => if chr t (skp t st'.1) = 41 then ((skp t st'.1 + 1, st'.2), some D) else ((skp t st'.1, st'.2), none)
/-- true, false, a comparison -/
def rLf (t : List Nat) (Ns : List NmT) (st : RS) : RO :=
  if 40 ≤ st.2.1 then (st, none)
  else if wrd t st.1 = xtx 20 ∨ wrd t st.1 = xtx 21 then ((st.1 + (wrd t st.1).length, st.2.1 + 1, st.2.2), some (dCon (decide (wrd t st.1 = xtx 20))))
  else match nof Ns (wrd t st.1) with
    | none => (st, none)
    | some i => (((rcm t i (Ns.getD i ([], 0, [])).1 (Ns.getD i ([], 0, [])).2.1 (st.1 + (wrd t st.1).length)).1, st.2.1 + 1, st.2.2 ++ (rcm t i (Ns.getD i ([], 0, [])).1 (Ns.getD i ([], 0, [])).2.1 (st.1 + (wrd t st.1).length)).2.toList), (rcm t i (Ns.getD i ([], 0, [])).1 (Ns.getD i ([], 0, [])).2.1 (st.1 + (wrd t st.1).length)).2.map dTst)
abbrev jAnd (t : List Nat) (F : RS → RO) : RS → RO := jnd t F (xtx 25) 2
abbrev jOr (t : List Nat) (F : RS → RO) : RS → RO := jnd t (jAnd t F) (xtx 24) 1
/-- a TEST, where k more may be opened -/
def rT (t : List Nat) (Ns : List NmT) : Nat → RS → RO
  | 0, st => if wrd t (skp t st.1) = xtx 19 ∨ chr t (skp t st.1) = 40 then ((skp t st.1, st.2), none) else rLf t Ns (skp t st.1, st.2)
  | k + 1, st => if wrd t (skp t st.1) = xtx 19 ∨ chr t (skp t st.1) = 40 then rOp t (rT t Ns k) (jOr t (rT t Ns k)) (decide (wrd t (skp t st.1) = xtx 19)) (skp t st.1, st.2) else rLf t Ns (skp t st.1, st.2)
/-- what every such reading keeps -/
def gR (t : List Nat) (s : Nat) (p : Nat) (R : RO) : Prop := p ≤ R.1.1 ∧ R.1.1 ≤ t.length ∧ R.1.2.2.length ≤ R.1.2.1 ∧ R.1.2.1 ≤ 40 ∧ ∀ D, R.2 = some D → p < R.1.1 ∧ D.2.2.length + (if D.1 < s then 2 else 0) ≤ 3 * (R.1.1 - p)
def gF (t : List Nat) (s : Nat) (F : RS → RO) : Prop := ∀ (p tc : Nat) (ts : List TsT), p ≤ t.length → ts.length ≤ tc → tc ≤ 40 → gR t s p (F (p, tc, ts))
theorem brk_le {b : Bool} {u : List Nat} {x : Nat} (h1 : u.length + (if b then 2 else 0) ≤ x) : (brk b u).length ≤ x := by rw [brk_len]; exact h1
theorem dJoin_len {s : Nat} {A B : Den} {x y : Nat} (hs : s = 1 ∨ s = 2) (hA : A.2.2.length + (if A.1 < s then 2 else 0) ≤ x) (hB : B.2.2.length + (if B.1 ≤ s then 2 else 0) ≤ y) : (dJoin s A B).2.2.length ≤ x + 5 + y := by
  show (brk (decide (A.1 < s)) A.2.2 ++ (if s = 1 then xtx 29 else xtx 30) ++ brk (decide (B.1 ≤ s)) B.2.2).length ≤ _
  have h1 : (if s = 1 then xtx 29 else xtx 30).length ≤ 5 := by rcases hs with rfl | rfl <;> decide
  have h2 := brk_le (b := decide (A.1 < s)) (u := A.2.2) (x := x) (by simpa using hA)
  have h3 := brk_le (b := decide (B.1 ≤ s)) (u := B.2.2) (x := y) (by simpa using hB)
  rw [List.length_append, List.length_append]
  omega
theorem jn_g {t : List Nat} {F : RS → RO} {w : List Nat} {s : Nat} (hs : s = 1 ∨ s = 2) (hw : 2 ≤ w.length) (hF : gF t (s + 1) F) (p : Nat) : ∀ (i : Nat) (st : RS) (D : Den), gR t s p (st, some D) → gR t s p (jn t F w s i st D) := by
  intro i
  induction i with
  | zero => intro st D hg; exact hg
  | succ i ih =>
    intro st D hg
    obtain ⟨g1, g2, g3, g4, g5⟩ := id hg
    obtain ⟨g6, g7⟩ := g5 D rfl
    have g1 : p ≤ st.1 := g1
    have g2 : st.1 ≤ t.length := g2
    have g3 : st.2.2.length ≤ st.2.1 := g3
    have g4 : st.2.1 ≤ 40 := g4
    have g6 : p < st.1 := g6
    have g7 : D.2.2.length + (if D.1 < s then 2 else 0) ≤ 3 * (st.1 - p) := g7
    have hle : tkW t st.1 w ≤ t.length := tkW_le g2
    have hge : st.1 ≤ skp t st.1 := scn_ge
    unfold jn
    split
    · rename_i hwd
      have htk : tkW t st.1 w = skp t st.1 + w.length := if_pos hwd
      have hf := hF (tkW t st.1 w) st.2.1 st.2.2 hle g3 g4
      show gR t s p (match F (tkW t st.1 w, st.2) with | (st', none) => (st', none) | (st', some B) => jn t F w s i st' (dJoin s D B))
      rw [show (tkW t st.1 w, st.2) = (tkW t st.1 w, st.2.1, st.2.2) from rfl]
      revert hf
      generalize F (tkW t st.1 w, st.2.1, st.2.2) = R
      obtain ⟨st', o⟩ := R
      rintro ⟨f1, f2, f3, f4, f5⟩
      cases o with
      | none => exact ⟨by show p ≤ st'.1; have : tkW t st.1 w ≤ st'.1 := f1; omega, f2, f3, f4, fun D z => by cases z⟩
      | some B =>
        obtain ⟨f6, f7⟩ := f5 B rfl
        have f1 : tkW t st.1 w ≤ st'.1 := f1
        have f6 : tkW t st.1 w < st'.1 := f6
        have f7 : B.2.2.length + (if B.1 < s + 1 then 2 else 0) ≤ 3 * (st'.1 - tkW t st.1 w) := f7
        refine ih st' (dJoin s D B) ⟨by show p ≤ st'.1; omega, f2, f3, f4, fun D' z => ?_⟩
        cases z
        have hj := dJoin_len (A := D) (B := B) hs g7 (y := 3 * (st'.1 - tkW t st.1 w)) (by
          have : (if B.1 ≤ s then 2 else 0) = (if B.1 < s + 1 then 2 else 0) := by
            by_cases hb : B.1 ≤ s
            · rw [if_pos hb, if_pos (by omega)]
            · rw [if_neg hb, if_neg (by omega)]
          rw [this]; exact f7)
        refine ⟨by show p < st'.1; omega, ?_⟩
        show (dJoin s D B).2.2.length + (if s < s then 2 else 0) ≤ 3 * (st'.1 - p)
        rw [if_neg (by omega)]
        omega
    · rename_i hwd
      have htk : tkW t st.1 w = skp t st.1 := if_neg hwd
      refine ⟨by show p ≤ tkW t st.1 w; omega, hle, g3, g4, fun D' z => ?_⟩
      cases z
      exact ⟨by show p < tkW t st.1 w; omega, by show D.2.2.length + (if D.1 < s then 2 else 0) ≤ 3 * (tkW t st.1 w - p); omega⟩
theorem jnd_g {t : List Nat} {F : RS → RO} {w : List Nat} {s : Nat} (hs : s = 1 ∨ s = 2) (hw : 2 ≤ w.length) (hF : gF t (s + 1) F) : gF t s (jnd t F w s) := by
  intro p tc ts hp h1 h2
  have hf := hF p tc ts hp h1 h2
  unfold jnd
  revert hf
  generalize F (p, tc, ts) = R
  obtain ⟨st', o⟩ := R
  rintro ⟨f1, f2, f3, f4, f5⟩
  cases o with
  | none => exact ⟨f1, f2, f3, f4, fun D z => by cases z⟩
  | some D =>
    obtain ⟨f6, f7⟩ := f5 D rfl
    refine jn_g hs hw hF p 160 st' D ⟨f1, f2, f3, f4, fun D' z => ?_⟩
    cases z
    refine ⟨f6, ?_⟩
    have : (if D.1 < s then 2 else 0) ≤ (if D.1 < s + 1 then 2 else 0) := by
      by_cases hb : D.1 < s
      · rw [if_pos hb, if_pos (by omega)]; exact Nat.le_refl _
      · rw [if_neg hb]; exact Nat.zero_le _
    have f7 : D.2.2.length + (if D.1 < s + 1 then 2 else 0) ≤ 3 * (st'.1 - p) := f7
    show D.2.2.length + (if D.1 < s then 2 else 0) ≤ 3 * (st'.1 - p)
    omega
theorem rcm_g {t : List Nat} {k : Nat} {w : List Nat} {kd p : Nat} (hp : p ≤ t.length) : p ≤ (rcm t k w kd p).1 ∧ (rcm t k w kd p).1 ≤ t.length ∧ ∀ x, (rcm t k w kd p).2 = some x → p < (rcm t k w kd p).1 ∧ x.2.2.2.length ≤ w.length + 3 * ((rcm t k w kd p).1 - p) := by
  have h1 := skp_le hp
  have h2 : p ≤ skp t p := scn_ge
  unfold rcm
  split
  · rename_i hwd
    have htk : tkW t p (xtx 22) = skp t p + 2 := if_pos hwd
    have hle : tkW t p (xtx 22) ≤ t.length := tkW_le hp
    obtain ⟨l1, l2⟩ := rlist_le (kd := kd) hle
    refine ⟨by show p ≤ (rlist t kd (tkW t p (xtx 22))).1; omega, l1, fun x hx => ?_⟩
    simp only [Option.map_eq_some_iff] at hx
    obtain ⟨us, -, rfl⟩ := hx
    refine ⟨by show p < (rlist t kd (tkW t p (xtx 22))).1; omega, ?_⟩
    show ((((w ++ [32]) ++ xtx 22) ++ [32]) ++ (rlist t kd (tkW t p (xtx 22))).2.2).length ≤ w.length + 3 * ((rlist t kd (tkW t p (xtx 22))).1 - p)
    rw [List.length_append, List.length_append, List.length_append, List.length_append, show (xtx 22).length = 2 from rfl]
    simp only [List.length_singleton]
    omega
  · obtain ⟨o1, o2, o3⟩ := opr_le h1
    have v1 := rvl_le (kd := kd) o1
    have v2 := rvl_ge (kd := kd) o1
    split
    · exact ⟨by show p ≤ (opr t (skp t p)).1; omega, o1, fun x hx => by cases hx⟩
    · rename_i acc hacc
      have ho : 1 ≤ (opr t (skp t p)).2.2.length := by
        unfold opr at hacc ⊢
        split
        · split
          · show 1 ≤ 2; omega
          · show 1 ≤ 1; omega
        · rename_i hz
          rw [if_neg hz] at hacc
          cases hacc
      refine ⟨by show p ≤ (rvl t kd (opr t (skp t p)).1).1; omega, v1, fun x hx => ?_⟩
      simp only [Option.map_eq_some_iff] at hx
      obtain ⟨us, -, rfl⟩ := hx
      refine ⟨by show p < (rvl t kd (opr t (skp t p)).1).1; omega, ?_⟩
      show ((((w ++ [32]) ++ (opr t (skp t p)).2.2) ++ [32]) ++ (rvl t kd (opr t (skp t p)).1).2.2).length ≤ w.length + 3 * ((rvl t kd (opr t (skp t p)).1).1 - p)
      rw [List.length_append, List.length_append, List.length_append, List.length_append]
      simp only [List.length_singleton]
      omega
theorem nof_some {Ns : List NmT} {w : List Nat} {i : Nat} (hi : nof Ns w = some i) : i < Ns.length ∧ Ns[i]? = some (Ns.getD i ([], 0, [])) ∧ (Ns.getD i ([], 0, [])).1 = w := by
  obtain ⟨h1, h2, -⟩ := List.findIdx?_eq_some_iff_getElem.mp hi
  have : Ns.getD i ([], 0, []) = Ns[i] := by rw [List.getD_eq_getElem?_getD, List.getElem?_eq_getElem h1]; rfl
  exact ⟨h1, by rw [this, List.getElem?_eq_getElem h1], by rw [this]; exact of_decide_eq_true h2⟩
theorem rLf_g {t : List Nat} {Ns : List NmT} {p tc : Nat} {ts : List TsT} (hp : p ≤ t.length) (h1 : ts.length ≤ tc) (h2 : tc ≤ 40) : gR t 3 p (rLf t Ns (p, tc, ts)) := by
  have hw := wrd_le hp
  have hbase : gR t 3 p ((p, tc, ts), none) := ⟨Nat.le_refl _, hp, h1, h2, fun D z => by cases z⟩
  unfold rLf
  split
  · exact hbase
  · rename_i h40
    have h40 : ¬ 40 ≤ tc := h40
    split
    · rename_i hcon
      refine ⟨by show p ≤ p + (wrd t p).length; omega, hw, by show ts.length ≤ tc + 1; omega, by show tc + 1 ≤ 40; omega, fun D z => ?_⟩
      cases z
      have hcon : wrd t p = xtx 20 ∨ wrd t p = xtx 21 := hcon
      rcases hcon with hc | hc
      · refine ⟨by show p < p + (wrd t p).length; rw [hc]; show p < p + 4; omega, ?_⟩
        show (dCon (decide (wrd t p = xtx 20))).2.2.length + 0 ≤ 3 * (p + (wrd t p).length - p)
        rw [decide_eq_true hc, hc, Nat.add_sub_cancel_left]
        decide
      · refine ⟨by show p < p + (wrd t p).length; rw [hc]; show p < p + 5; omega, ?_⟩
        show (dCon (decide (wrd t p = xtx 20))).2.2.length + 0 ≤ 3 * (p + (wrd t p).length - p)
        rw [hc, Nat.add_sub_cancel_left]
        decide
    · split
      · exact hbase
      · rename_i i hi
        have hi : nof Ns (wrd t p) = some i := hi
        obtain ⟨i1, i2, i3⟩ := nof_some hi
        obtain ⟨r1, r2, r3⟩ := rcm_g (t := t) (k := i) (w := (Ns.getD i ([], 0, [])).1) (kd := (Ns.getD i ([], 0, [])).2.1) hw
        revert r1 r2 r3
        show _ → _ → _ → gR t 3 p (((rcm t i (Ns.getD i ([], 0, [])).1 (Ns.getD i ([], 0, [])).2.1 (p + (wrd t p).length)).1, tc + 1, ts ++ (rcm t i (Ns.getD i ([], 0, [])).1 (Ns.getD i ([], 0, [])).2.1 (p + (wrd t p).length)).2.toList), (rcm t i (Ns.getD i ([], 0, [])).1 (Ns.getD i ([], 0, [])).2.1 (p + (wrd t p).length)).2.map dTst)
        rw [i3]
        generalize rcm t i (wrd t p) (Ns.getD i ([], 0, [])).2.1 (p + (wrd t p).length) = R
        obtain ⟨p', o⟩ := R
        intro r1 r2 r3
        have r1 : p + (wrd t p).length ≤ p' := r1
        refine ⟨by show p ≤ p'; omega, r2, ?_, by show tc + 1 ≤ 40; omega, fun D z => ?_⟩
        · show (ts ++ o.toList).length ≤ tc + 1
          cases o <;> simp <;> omega
        · simp only [Option.map_eq_some_iff] at z
          obtain ⟨x, hx, rfl⟩ := z
          obtain ⟨r4, r5⟩ := r3 x hx
          have r4 : p + (wrd t p).length < p' := r4
          have r5 : x.2.2.2.length ≤ (wrd t p).length + 3 * (p' - (p + (wrd t p).length)) := r5
          exact ⟨by show p < p'; omega, by show x.2.2.2.length + 0 ≤ 3 * (p' - p); omega⟩
theorem rOp_g {t : List Nat} {F J : RS → RO} {b : Bool} {p tc : Nat} {ts : List TsT} (hF : gF t 3 F) (hJ : gF t 1 J) (hp : p + (if b then 3 else 1) ≤ t.length) (h1 : ts.length ≤ tc) (h2 : tc ≤ 40) : gR t 3 p (rOp t F J b (p, tc, ts)) := by
  cases b with
  | true =>
    have hf := hF (p + 3) tc ts hp h1 h2
    show gR t 3 p (match F (p + 3, tc, ts) with | (st', none) => (st', none) | (st', some D) => (st', some (dNot D)))
    revert hf
    generalize F (p + 3, tc, ts) = R
    obtain ⟨st', o⟩ := R
    rintro ⟨f1, f2, f3, f4, f5⟩
    have f1 : p + 3 ≤ st'.1 := f1
    cases o with
    | none => exact ⟨by show p ≤ st'.1; omega, f2, f3, f4, fun D z => by cases z⟩
    | some D =>
      obtain ⟨f6, f7⟩ := f5 D rfl
      have f7 : D.2.2.length + (if D.1 < 3 then 2 else 0) ≤ 3 * (st'.1 - (p + 3)) := f7
      refine ⟨by show p ≤ st'.1; omega, f2, f3, f4, fun D' z => ?_⟩
      cases z
      refine ⟨by show p < st'.1; omega, ?_⟩
      show (xtx 28 ++ brk (decide (D.1 < 3)) D.2.2).length + 0 ≤ 3 * (st'.1 - p)
      have := brk_le (b := decide (D.1 < 3)) (u := D.2.2) (x := 3 * (st'.1 - (p + 3))) (by simpa using f7)
      rw [List.length_append, show (xtx 28).length = 4 from rfl]
      omega
  | false =>
    have hf := hJ (p + 1) tc ts hp h1 h2
    show gR t 3 p (match J (p + 1, tc, ts) with | (st', none) => (st', none) | (st', some D) => if chr t (skp t st'.1) = 41 then ((skp t st'.1 + 1, st'.2), some D) else ((skp t st'.1, st'.2), none))
    revert hf
    generalize J (p + 1, tc, ts) = R
    obtain ⟨st', o⟩ := R
    rintro ⟨f1, f2, f3, f4, f5⟩
    have f1 : p + 1 ≤ st'.1 := f1
    have f2 : st'.1 ≤ t.length := f2
    have h3 := skp_le f2
    have h4 : st'.1 ≤ skp t st'.1 := scn_ge
    cases o with
    | none => exact ⟨by show p ≤ st'.1; omega, f2, f3, f4, fun D z => by cases z⟩
    | some D =>
      obtain ⟨f6, f7⟩ := f5 D rfl
      have f7 : D.2.2.length + (if D.1 < 1 then 2 else 0) ≤ 3 * (st'.1 - (p + 1)) := f7
      show gR t 3 p (if chr t (skp t st'.1) = 41 then ((skp t st'.1 + 1, st'.2), some D) else ((skp t st'.1, st'.2), none))
      split
      · rename_i hc
        have h5 : skp t st'.1 < t.length := Nat.lt_of_not_le (fun z => by rw [chr_out z] at hc; omega)
        refine ⟨by show p ≤ skp t st'.1 + 1; omega, by show skp t st'.1 + 1 ≤ t.length; omega, f3, f4, fun D' z => ?_⟩
        cases z
        refine ⟨by show p < skp t st'.1 + 1; omega, ?_⟩
        show D.2.2.length + (if D.1 < 3 then 2 else 0) ≤ 3 * (skp t st'.1 + 1 - p)
        have : (if D.1 < 3 then 2 else 0) ≤ 2 := by split <;> omega
        omega
      · exact ⟨by show p ≤ skp t st'.1; omega, h3, f3, f4, fun D z => by cases z⟩
theorem wrd_not {t : List Nat} {p : Nat} (hp : p ≤ t.length) (hw : wrd t p = xtx 19) : p + 3 ≤ t.length := by
  have := wrd_le hp
  rw [hw] at this
  exact this
theorem rT_g {t : List Nat} {Ns : List NmT} : ∀ k, gF t 3 (rT t Ns k) := by
  intro k
  induction k with
  | zero =>
    intro p tc ts hp h1 h2
    have h3 := skp_le hp
    have h4 : p ≤ skp t p := scn_ge
    show gR t 3 p (if wrd t (skp t p) = xtx 19 ∨ chr t (skp t p) = 40 then ((skp t p, tc, ts), none) else rLf t Ns (skp t p, tc, ts))
    split
    · exact ⟨h4, h3, h1, h2, fun D z => by cases z⟩
    · obtain ⟨f1, f2, f3, f4, f5⟩ := rLf_g (Ns := Ns) h3 h1 h2
      exact ⟨by omega, f2, f3, f4, fun D z => ⟨by have := (f5 D z).1; omega, by have := (f5 D z).2; omega⟩⟩
  | succ k ih =>
    intro p tc ts hp h1 h2
    have h3 := skp_le hp
    have h4 : p ≤ skp t p := scn_ge
    show gR t 3 p (if wrd t (skp t p) = xtx 19 ∨ chr t (skp t p) = 40 then rOp t (rT t Ns k) (jOr t (rT t Ns k)) (decide (wrd t (skp t p) = xtx 19)) (skp t p, tc, ts) else rLf t Ns (skp t p, tc, ts))
    have key : ∀ R, gR t 3 (skp t p) R → gR t 3 p R := fun R ⟨f1, f2, f3, f4, f5⟩ => ⟨by omega, f2, f3, f4, fun D z => ⟨by have := (f5 D z).1; omega, by have := (f5 D z).2; omega⟩⟩
    split
    · rename_i hc
      refine key _ (rOp_g ih (jnd_g (Or.inl rfl) (by decide) (jnd_g (Or.inr rfl) (by decide) ih)) ?_ h1 h2)
      by_cases hn : wrd t (skp t p) = xtx 19
      · rw [decide_eq_true hn]
        exact wrd_not h3 hn
      · rw [decide_eq_false hn]
        have hc2 := hc.resolve_left hn
        have : skp t p < t.length := Nat.lt_of_not_le (fun z => by rw [chr_out z] at hc2; omega)
        exact this
    · exact key _ (rLf_g h3 h1 h2)
end RE1
end
section
section
abbrev y_Reader_readTest : MethodName := ⟨"MarkerText$Reader", "readTest", "()LMarkerText$Node;"⟩
abbrev M_Reader_readTest : XMt := (y_Reader_readTest, prog_10_method_4_code, 5, (some (.object "MarkerText$Node")))
abbrev y_Reader_readJoined : MethodName := ⟨"MarkerText$Reader", "readJoined", "(I)LMarkerText$Node;"⟩
abbrev M_Reader_readJoined : XMt := (y_Reader_readJoined, prog_10_method_3_code, 6, (some (.object "MarkerText$Node")))
abbrev y_Reader_readOpened : MethodName := ⟨"MarkerText$Reader", "readOpened", "(Z)LMarkerText$Node;"⟩
abbrev M_Reader_readOpened : XMt := (y_Reader_readOpened, prog_10_method_5_code, 3, (some (.object "MarkerText$Node")))
theorem d_Reader_readOpened_0 : decode M_Reader_readOpened.2.1 0 = .ok (.aload_n 0, 1) := by decide +kernel
theorem d_Reader_readOpened_1 : decode M_Reader_readOpened.2.1 1 = .ok (.dup, 1) := by decide +kernel
theorem d_Reader_readOpened_2 : decode M_Reader_readOpened.2.1 2 = .ok (.getfield 25, 3) := by decide +kernel
theorem d_Reader_readOpened_5 : decode M_Reader_readOpened.2.1 5 = .ok (.iload_n 1, 1) := by decide +kernel
theorem d_Reader_readOpened_6 : decode M_Reader_readOpened.2.1 6 = .ok (.ifCond .eq 11, 3) := by decide +kernel
theorem d_Reader_readOpened_9 : decode M_Reader_readOpened.2.1 9 = .ok (.ldc 95, 2) := by decide +kernel
theorem d_Reader_readOpened_11 : decode M_Reader_readOpened.2.1 11 = .ok (.invokevirtual 52, 3) := by decide +kernel
theorem d_Reader_readOpened_14 : decode M_Reader_readOpened.2.1 14 = .ok (.goto 4, 3) := by decide +kernel
theorem d_Reader_readOpened_18 : decode M_Reader_readOpened.2.1 18 = .ok (.iadd, 1) := by decide +kernel
theorem d_Reader_readOpened_19 : decode M_Reader_readOpened.2.1 19 = .ok (.putfield 25, 3) := by decide +kernel
theorem d_Reader_readOpened_22 : decode M_Reader_readOpened.2.1 22 = .ok (.aload_n 0, 1) := by decide +kernel
theorem d_Reader_readOpened_23 : decode M_Reader_readOpened.2.1 23 = .ok (.dup, 1) := by decide +kernel
theorem d_Reader_readOpened_24 : decode M_Reader_readOpened.2.1 24 = .ok (.getfield 29, 3) := by decide +kernel
theorem xw_863 : (Jvm.Cond.fieldLink "MarkerText$Reader" (29 : Nat) "MarkerText$Reader" "open" "I") ∈ xT := xT_at 863 (by decide +kernel) (by decide +kernel)
theorem xf_Reader_29_Reader : xF "MarkerText$Reader" 29 k_Reader 5 := ⟨_, _, _, "MarkerText$Reader", rfl, by decide, Or.inl xw_863, Or.inl rfl⟩
theorem d_Reader_readOpened_27 : decode M_Reader_readOpened.2.1 27 = .ok (.iconst 1, 1) := by decide +kernel
theorem d_Reader_readOpened_28 : decode M_Reader_readOpened.2.1 28 = .ok (.iadd, 1) := by decide +kernel
theorem d_Reader_readOpened_29 : decode M_Reader_readOpened.2.1 29 = .ok (.putfield 29, 3) := by decide +kernel
theorem xp_Reader_5 : xP k_Reader 5 false .int := ⟨_, _, _, rfl, rfl, by decide +kernel⟩
theorem d_Reader_readOpened_32 : decode M_Reader_readOpened.2.1 32 = .ok (.iload_n 1, 1) := by decide +kernel
theorem d_Reader_readOpened_33 : decode M_Reader_readOpened.2.1 33 = .ok (.ifCond .eq 10, 3) := by decide +kernel
theorem d_Reader_readOpened_36 : decode M_Reader_readOpened.2.1 36 = .ok (.aload_n 0, 1) := by decide +kernel
theorem d_Reader_readOpened_37 : decode M_Reader_readOpened.2.1 37 = .ok (.invokevirtual 75, 3) := by decide +kernel
theorem xw_891 : (Jvm.Cond.code ({ cls := "MarkerText$Reader", name := "readTest", desc := "()LMarkerText$Node;" } : Jvm.MethodName) prog_10_method_4_code (5 : Nat) (Option.some (Jvm.ClassFile.FieldType.object "MarkerText$Node"))) ∈ xT := xT_at 891 (by decide +kernel) (by decide +kernel)
theorem xcb_Reader_readTest : xcb M_Reader_readTest 0 := ⟨xw_891, xw_23, by decide, by decide, by decide, by decide +kernel⟩
theorem xw_890 : (Jvm.Cond.instanceMethod ({ cls := "MarkerText$Reader", name := "readTest", desc := "()LMarkerText$Node;" } : Jvm.MethodName)) ∈ xT := xT_at 890 (by decide +kernel) (by decide +kernel)
theorem xw_888 : (Jvm.Cond.methodLink "MarkerText$Reader" (75 : Nat) ({ cls := "MarkerText$Reader", name := "readTest", desc := "()LMarkerText$Node;" } : Jvm.MethodName)) ∈ xT := xT_at 888 (by decide +kernel) (by decide +kernel)
theorem xsel_Reader_readTest : Cond.selects "MarkerText$Reader" y_Reader_readTest y_Reader_readTest ∈ xT := xT_sel (q := (y_Reader_readTest, 7)) (by decide +kernel) (by decide +kernel)
theorem xcv_Reader_75_Reader : xCV "MarkerText$Reader" 75 "MarkerText$Reader" M_Reader_readTest 0 := ⟨xcb_Reader_readTest, xw_890, Or.inl ⟨xw_888, Or.inl xsel_Reader_readTest⟩⟩
theorem d_Reader_readOpened_40 : decode M_Reader_readOpened.2.1 40 = .ok (.goto 8, 3) := by decide +kernel
theorem d_Reader_readOpened_48 : decode M_Reader_readOpened.2.1 48 = .ok (.astore_n 2, 1) := by decide +kernel
theorem d_Reader_readOpened_49 : decode M_Reader_readOpened.2.1 49 = .ok (.aload_n 0, 1) := by decide +kernel
theorem d_Reader_readOpened_50 : decode M_Reader_readOpened.2.1 50 = .ok (.dup, 1) := by decide +kernel
theorem d_Reader_readOpened_51 : decode M_Reader_readOpened.2.1 51 = .ok (.getfield 29, 3) := by decide +kernel
theorem d_Reader_readOpened_54 : decode M_Reader_readOpened.2.1 54 = .ok (.iconst 1, 1) := by decide +kernel
theorem d_Reader_readOpened_55 : decode M_Reader_readOpened.2.1 55 = .ok (.isub, 1) := by decide +kernel
theorem d_Reader_readOpened_56 : decode M_Reader_readOpened.2.1 56 = .ok (.putfield 29, 3) := by decide +kernel
theorem d_Reader_readOpened_59 : decode M_Reader_readOpened.2.1 59 = .ok (.aload_n 2, 1) := by decide +kernel
theorem d_Reader_readOpened_60 : decode M_Reader_readOpened.2.1 60 = .ok (.ifnonnull 5, 3) := by decide +kernel
theorem d_Reader_readOpened_63 : decode M_Reader_readOpened.2.1 63 = .ok (.aconst_null, 1) := by decide +kernel
theorem d_Reader_readOpened_64 : decode M_Reader_readOpened.2.1 64 = .ok (.areturn, 1) := by decide +kernel
theorem d_Reader_readOpened_65 : decode M_Reader_readOpened.2.1 65 = .ok (.iload_n 1, 1) := by decide +kernel
theorem d_Reader_readOpened_66 : decode M_Reader_readOpened.2.1 66 = .ok (.ifCond .eq 12, 3) := by decide +kernel
theorem d_Reader_readOpened_69 : decode M_Reader_readOpened.2.1 69 = .ok (.new 125, 3) := by decide +kernel
theorem xw_936 : (Jvm.Cond.classLink "MarkerText$Reader" (125 : Nat) "MarkerText$Negation") ∈ xT := xT_at 936 (by decide +kernel) (by decide +kernel)
theorem xw_937 : (Jvm.Cond.instantiable "MarkerText$Negation" (2 : Nat)) ∈ xT := xT_at 937 (by decide +kernel) (by decide +kernel)
theorem xnw_Reader_125 : xNw "MarkerText$Reader" 125 k_Negation 2 [.null, .int 0] := ⟨_, _, _, rfl, rfl, by decide +kernel, xw_936, xw_937, xw_28⟩
theorem d_Reader_readOpened_72 : decode M_Reader_readOpened.2.1 72 = .ok (.dup, 1) := by decide +kernel
theorem d_Reader_readOpened_73 : decode M_Reader_readOpened.2.1 73 = .ok (.aload_n 2, 1) := by decide +kernel
theorem d_Reader_readOpened_74 : decode M_Reader_readOpened.2.1 74 = .ok (.invokespecial 127, 3) := by decide +kernel
theorem xw_940 : (Jvm.Cond.code ({ cls := "MarkerText$Negation", name := "<init>", desc := "(LMarkerText$Node;)V" } : Jvm.MethodName) prog_7_method_1_code (2 : Nat) (Option.none : Option Jvm.ClassFile.FieldType)) ∈ xT := xT_at 940 (by decide +kernel) (by decide +kernel)
theorem xcb_Negation_init : xcb M_Negation_init 1 := ⟨xw_940, xw_28, by decide, by decide, by decide, by decide +kernel⟩
theorem xw_938 : (Jvm.Cond.methodLink "MarkerText$Reader" (127 : Nat) ({ cls := "MarkerText$Negation", name := "<init>", desc := "(LMarkerText$Node;)V" } : Jvm.MethodName)) ∈ xT := xT_at 938 (by decide +kernel) (by decide +kernel)
theorem xw_939 : (Jvm.Cond.instanceMethod ({ cls := "MarkerText$Negation", name := "<init>", desc := "(LMarkerText$Node;)V" } : Jvm.MethodName)) ∈ xT := xT_at 939 (by decide +kernel) (by decide +kernel)
theorem xci_Reader_127 : xCI "MarkerText$Reader" 127 M_Negation_init 1 := ⟨xcb_Negation_init, rfl, rfl, xw_939, Or.inl xw_938⟩
theorem d_Reader_readOpened_77 : decode M_Reader_readOpened.2.1 77 = .ok (.areturn, 1) := by decide +kernel
theorem d_Reader_readOpened_17 : decode M_Reader_readOpened.2.1 17 = .ok (.iconst 1, 1) := by decide +kernel
theorem d_Reader_readOpened_43 : decode M_Reader_readOpened.2.1 43 = .ok (.aload_n 0, 1) := by decide +kernel
theorem d_Reader_readOpened_44 : decode M_Reader_readOpened.2.1 44 = .ok (.iconst 1, 1) := by decide +kernel
theorem d_Reader_readOpened_45 : decode M_Reader_readOpened.2.1 45 = .ok (.invokevirtual 45, 3) := by decide +kernel
theorem xw_887 : (Jvm.Cond.code ({ cls := "MarkerText$Reader", name := "readJoined", desc := "(I)LMarkerText$Node;" } : Jvm.MethodName) prog_10_method_3_code (6 : Nat) (Option.some (Jvm.ClassFile.FieldType.object "MarkerText$Node"))) ∈ xT := xT_at 887 (by decide +kernel) (by decide +kernel)
theorem xcb_Reader_readJoined : xcb M_Reader_readJoined 1 := ⟨xw_887, xw_23, by decide, by decide, by decide, by decide +kernel⟩
theorem xw_886 : (Jvm.Cond.instanceMethod ({ cls := "MarkerText$Reader", name := "readJoined", desc := "(I)LMarkerText$Node;" } : Jvm.MethodName)) ∈ xT := xT_at 886 (by decide +kernel) (by decide +kernel)
theorem xw_884 : (Jvm.Cond.methodLink "MarkerText$Reader" (45 : Nat) ({ cls := "MarkerText$Reader", name := "readJoined", desc := "(I)LMarkerText$Node;" } : Jvm.MethodName)) ∈ xT := xT_at 884 (by decide +kernel) (by decide +kernel)
theorem xsel_Reader_readJoined : Cond.selects "MarkerText$Reader" y_Reader_readJoined y_Reader_readJoined ∈ xT := xT_sel (q := (y_Reader_readJoined, 7)) (by decide +kernel) (by decide +kernel)
theorem xcv_Reader_45_Reader : xCV "MarkerText$Reader" 45 "MarkerText$Reader" M_Reader_readJoined 1 := ⟨xcb_Reader_readJoined, xw_886, Or.inl ⟨xw_884, Or.inl xsel_Reader_readJoined⟩⟩
theorem d_Reader_readOpened_78 : decode M_Reader_readOpened.2.1 78 = .ok (.aload_n 0, 1) := by decide +kernel
theorem d_Reader_readOpened_79 : decode M_Reader_readOpened.2.1 79 = .ok (.bipush 41, 2) := by decide +kernel
theorem d_Reader_readOpened_81 : decode M_Reader_readOpened.2.1 81 = .ok (.invokevirtual 130, 3) := by decide +kernel
theorem d_Reader_readOpened_84 : decode M_Reader_readOpened.2.1 84 = .ok (.ifCond .eq 7, 3) := by decide +kernel
theorem d_Reader_readOpened_87 : decode M_Reader_readOpened.2.1 87 = .ok (.aload_n 2, 1) := by decide +kernel
theorem d_Reader_readOpened_88 : decode M_Reader_readOpened.2.1 88 = .ok (.goto 4, 3) := by decide +kernel
theorem d_Reader_readOpened_92 : decode M_Reader_readOpened.2.1 92 = .ok (.areturn, 1) := by decide +kernel
theorem d_Reader_readOpened_91 : decode M_Reader_readOpened.2.1 91 = .ok (.aconst_null, 1) := by decide +kernel
end
section RE2
variable {l : Launch} {G : XG} {h : XH} {c n d : Nat}
theorem pT.tr {C1 N1 C2 N2 K r ta na la ba ea va ea1 va1 p1 o1 tc1 p2 o2 tc2 m m1 c1 n1 c2 n2 : Nat} {t as kas es1 ln1 : List Nat} {Ns : List NmT} {ts1 ts2 : List TsT} {h1 h2 : XH} (R1 : isRd G h1 r ta na la ba t as kas Ns ea1 va1 p1 o1 tc1 es1 ts1 ln1 m1) (f1 : xfr h h1 [r, la, ea, ba, va]) (u1 : ea1 = ea ∨ h ea1 = none) (w1 : va1 = va ∨ h va1 = none) (g1 : xgs C1 N1 K m m1 c n c1 n1) (q : pT G C2 N2 K r ta na la ba t as kas Ns ea1 va1 p2 o2 tc2 ts2 m1 h1 c1 n1 h2 c2 n2) : pT G (C1 + C2) (N1 + N2) K r ta na la ba t as kas Ns ea va p2 o2 tc2 ts2 m h c n h2 c2 n2 := by
  obtain ⟨ea2, va2, es2, ln2, m2, R2, f2, u2, w2, g2⟩ := q
  refine ⟨ea2, va2, es2, ln2, m2, R2, f1.tr f2 (fun q hq hq2 => ?_), ?_, ?_, by omega⟩
  · simp only [List.mem_cons, List.not_mem_nil, or_false] at hq2 ⊢
    rcases hq2 with z | z | z | z | z
    · exact Or.inl z
    · exact Or.inr (Or.inl z)
    · rcases u1 with u | u
      · exact Or.inr (Or.inr (Or.inl (z.trans u)))
      · rw [z] at hq; exact absurd u hq
    · exact Or.inr (Or.inr (Or.inr (Or.inl z)))
    · rcases w1 with u | u
      · exact Or.inr (Or.inr (Or.inr (Or.inr (z.trans u))))
      · rw [z] at hq; exact absurd u hq
  · rcases u2 with u | u
    · rw [u]; exact u1
    · exact Or.inr (f1.2 _ u)
  · rcases w2 with u | u
    · rw [u]; exact w1
    · exact Or.inr (f1.2 _ u)
theorem pT.mono {C N C' N' K r ta na la ba ea va p' o' tc' m c' n' : Nat} {t as kas : List Nat} {Ns : List NmT} {ts' : List TsT} {h' : XH} (q : pT G C N K r ta na la ba t as kas Ns ea va p' o' tc' ts' m h c n h' c' n') (hC : C ≤ C') (hN : N ≤ N') : pT G C' N' K r ta na la ba t as kas Ns ea va p' o' tc' ts' m h c n h' c' n' := by
  obtain ⟨ea2, va2, es2, ln2, m2, R2, f2, u2, w2, g2⟩ := q
  exact ⟨ea2, va2, es2, ln2, m2, R2, f2, u2, w2, by omega⟩
theorem pR.ofW {C N K r ba va m c' n' : Nat} {vs : List Value} {e : Nat × List Value} {t : List Nat} {h' : XH} (hr : h r = some (k_Reader, vs)) (hb : isB h ba va t m) (hm : m ≤ K) (hr' : h' r = some e) (hf : xfr h h' [r]) (hc : c' ≤ c + C) (hn : n' ≤ n + N) : pR C N K r ba va e t m h c n h' c' n' := by
  have hne := hb.neR hr
  simp only [List.mem_cons, List.not_mem_nil, or_false, not_or] at hne
  exact ⟨va, m, hr', hb.fr hf (by simpa using Ne.symm hne.1) (by simpa using Ne.symm hne.2), hf.mono (by simp), Or.inl rfl, by omega⟩
/-- a cell that is made beside the Reader -/
theorem pT.up {C N K r ta na la ba ea va p' o' tc' m c' n' a dc dn : Nat} {e : Nat × List Value} {t as kas : List Nat} {Ns : List NmT} {ts' : List TsT} {h' : XH} (q : pT G C N K r ta na la ba t as kas Ns ea va p' o' tc' ts' m h c n h' c' n') (ha : h' a = none) : pT G (C + dc) (N + dn) K r ta na la ba t as kas Ns ea va p' o' tc' ts' m h c n (xup h' a e) (c' + dc) (n' + dn) := by
  obtain ⟨ea2, va2, es2, ln2, m2, R2, f2, u2, w2, g2⟩ := q
  obtain ⟨q1, q2, q3, q4, q5, q6⟩ := R2
  have hf : xfr h' (xup h' a e) [] := xfr.rf.up (Or.inr ha)
  have hno : ∀ ks, xno h' [] ks := fun ks q hq => by cases hq
  exact ⟨ea2, va2, es2, ln2, m2, ⟨hf.1 _ _ q1 (by simp), q2.fr hf (hno _), q3.fr hf (hno _), q4.fr hf (hno _), q5.fr hf (hno _), q6.fr hf (by simp) (by simp)⟩, f2.tr hf (fun _ _ z => by cases z), u2, w2, by omega⟩
theorem isNode.mono {k k' a : Nat} {D : Den} (hN : isNode G h k a D) (hk : k ≤ k') : isNode G h k' a D := by
  induction hk with
  | refl => exact hN
  | step _ ih => exact Or.inl ih
/-- what reading gives: null, or a part of a condition -/
abbrev pN (G : XG) (sl sn K r ta na la ba : Nat) (t as kas : List Nat) (Ns : List NmT) (ea va p o m : Nat) (h : XH) (c n : Nat) (R : RO) (v : Option Value) (h' : XH) (c' n' : Nat) : Prop :=
  match R.2 with
  | none => v = some .null ∧ pT G (40 * (R.1.1 - p) + 40) (2000 * (R.1.1 - p) + 2000) K r ta na la ba t as kas Ns ea va R.1.1 o R.1.2.1 R.1.2.2 m h c n h' c' n'
  | some D => ∃ a, v = some (.ref a) ∧ isNode G h' (R.1.1 - p) a D ∧ pT G (40 * (R.1.1 - p) - sl) (2000 * (R.1.1 - p) - sn) K r ta na la ba t as kas Ns ea va R.1.1 o R.1.2.1 R.1.2.2 m h c n h' c' n'
/-- a method of the Reader that reads as F says -/
def CRd (l : Launch) (G : XG) (K : Nat) (t as kas : List Nat) (Ns : List NmT) (M : XMt) (xs : List Value) (dd o sl sn : Nat) (F : RS → RO) : Prop :=
  ∀ (h : XH) (c n d r ta na la ba ea va p tc m : Nat) (es : List Nat) (ts : List TsT) (ln : List Nat), dd ≤ d → isRd G h r ta na la ba t as kas Ns ea va p o tc es ts ln m → p ≤ t.length → ts.length ≤ tc → tc ≤ 40 → m ≤ K → c + K + 40 * (t.length - p) + 40 ≤ xCB + m → n + 2 * K + 2000 * (t.length - p) + 2000 ≤ xSB + 2 * m →
    XM l G d M (.ref r :: xs) h c n (pN G sl sn K r ta na la ba t as kas Ns ea va p o m h c n (F (p, tc, ts)))
/-- the same of readOpened, which leaves a part of the cost to its caller -/
abbrev pO (G : XG) (K r ta na la ba : Nat) (t as kas : List Nat) (Ns : List NmT) (ea va p o m : Nat) (h : XH) (c n : Nat) (R : RO) (v : Option Value) (h' : XH) (c' n' : Nat) : Prop :=
  match R.2 with
  | none => v = some .null ∧ pT G (40 * (R.1.1 - p)) (2000 * (R.1.1 - p)) K r ta na la ba t as kas Ns ea va R.1.1 o R.1.2.1 R.1.2.2 m h c n h' c' n'
  | some D => ∃ a, v = some (.ref a) ∧ isNode G h' (R.1.1 - p) a D ∧ pT G (40 * (R.1.1 - p) - 36) (2000 * (R.1.1 - p) - 1900) K r ta na la ba t as kas Ns ea va R.1.1 o R.1.2.1 R.1.2.2 m h c n h' c' n'
theorem rOp_t {t : List Nat} {F J : RS → RO} {st st' : RS} {D : Den} (hF : F (st.1 + 3, st.2) = (st', some D)) : rOp t F J true st = (st', some (dNot D)) := by
  unfold rOp
  rw [if_pos rfl, hF]
theorem rOp_tn {t : List Nat} {F J : RS → RO} {st st' : RS} (hF : F (st.1 + 3, st.2) = (st', none)) : rOp t F J true st = (st', none) := by
  unfold rOp
  rw [if_pos rfl, hF]
theorem rOp_f {t : List Nat} {F J : RS → RO} {st st' : RS} {D : Den} (hF : J (st.1 + 1, st.2) = (st', some D)) : rOp t F J false st = if chr t (skp t st'.1) = 41 then ((skp t st'.1 + 1, st'.2), some D) else ((skp t st'.1, st'.2), none) := by
  unfold rOp
  rw [if_neg (by decide), hF]
theorem rOp_fn {t : List Nat} {F J : RS → RO} {st st' : RS} (hF : J (st.1 + 1, st.2) = (st', none)) : rOp t F J false st = (st', none) := by
  unfold rOp
  rw [if_neg (by decide), hF]
theorem c_readOpened (hG : xGk G) {K dd o : Nat} {t as kas : List Nat} {Ns : List NmT} {F J : RS → RO} {b : Bool} (hl : t.length ≤ 160) (hK : K < 2 ^ 16) (ho : o < 12) (hgF : gF t 3 F) (hgJ : gF t 1 J) (hF : CRd l G K t as kas Ns M_Reader_readTest [] dd (o + 1) 0 0 F) (hJ : CRd l G K t as kas Ns M_Reader_readJoined [.int 1] dd (o + 1) 0 0 J)
    {h : XH} {c n d r ta na la ba ea va p tc m : Nat} {es : List Nat} {ts : List TsT} {ln : List Nat} (hd : dd + 1 ≤ d) (hd5 : 6 ≤ d) (hR : isRd G h r ta na la ba t as kas Ns ea va p o tc es ts ln m) (hp : p + (if b then 3 else 1) ≤ t.length) (h1 : ts.length ≤ tc) (h2 : tc ≤ 40) (hm : m ≤ K) (hc : c + K + 40 * (t.length - p) ≤ xCB + m) (hn : n + 2 * K + 2000 * (t.length - p) ≤ xSB + 2 * m) :
    XM l G d M_Reader_readOpened [.ref r, .int (bI b)] h c n (pO G K r ta na la ba t as kas Ns ea va p o m h c n (rOp t F J b (p, tc, ts))) := by
  obtain ⟨d, rfl⟩ : ∃ q, d = q + 1 := ⟨d - 1, by omega⟩
  obtain ⟨hr, hS, hNs, hLi, hT, hB⟩ := id hR
  refine XM.of (by decide +kernel) (Nat.le_of_ble_eq_true rfl) ?_
  cases b with
  | true =>
    have hp : p + 3 ≤ t.length := hp
    obtain ⟨vn, en, hna, -⟩ := id (hG.str (h := h) (i := 19) (by decide))
    refine x_aload_n d_Reader_readOpened_0 rfl rfl ?_
    refine x_dup d_Reader_readOpened_1 rfl ?_
    refine x_get xf_Reader_25_Reader (Or.inl hr) rfl d_Reader_readOpened_2 ?_
    refine x_iload_n d_Reader_readOpened_5 rfl ?_
    refine x_if_eq (tgt := 17) d_Reader_readOpened_6 (by decide) (fun ht => absurd ht (by decide)) (fun _ => ?_)
    refine x_ldcS (i := 19) (tx := "not") (by decide +kernel) d_Reader_readOpened_9 ?_
    refine x_callV (As := []) (k := k_String) rfl xcv_Reader_52_String hna (c_String_length (by omega) (hG.str (by decide))) rfl rfl (Nat.le_of_ble_eq_true rfl) d_Reader_readOpened_11 ?_
    rintro v h' c' n' ⟨rfl, rfl, rfl, rfl⟩
    refine x_goto (tgt := 18) d_Reader_readOpened_14 (by decide) ?_
    refine x_iadd d_Reader_readOpened_18 ?_
    refine x_top (w := .int (nI (p + 3))) (by rw [show (xtx 19).length = 3 from rfl, nI_add]) ?_
    refine x_put xf_Reader_25_Reader xp_Reader_4 rfl rfl hr rfl rfl d_Reader_readOpened_19 ?_
    refine x_aload_n d_Reader_readOpened_22 rfl rfl ?_
    refine x_dup d_Reader_readOpened_23 rfl ?_
    refine x_get xf_Reader_29_Reader (Or.inl xup_self) rfl d_Reader_readOpened_24 ?_
    refine x_iconst (v := 1) d_Reader_readOpened_27 (by decide) ?_
    refine x_iadd d_Reader_readOpened_28 ?_
    refine x_top (w := .int (nI (o + 1))) (by rw [show (1 : Int32) = nI 1 from rfl, nI_add]) ?_
    refine x_put xf_Reader_29_Reader xp_Reader_5 rfl rfl xup_self rfl rfl d_Reader_readOpened_29 ?_
    refine x_hp (h' := xup h' r (rdO ta na la ba (p + 3) (o + 1) tc)) (by rw [xup_up]; rfl) ?_
    obtain ⟨va1, m1, R1, f1, w1, g1⟩ := hR.ofR (pR.ofU (c := c') (n := n') (e := rdO ta na la ba (p + 3) (o + 1) tc) hr hB hm)
    obtain ⟨hr1, -⟩ := id R1
    have hg := hgF (p + 3) tc ts hp h1 h2
    have hX := hF _ c' n' d r ta na la ba ea va1 (p + 3) tc m1 es ts ln (by omega) R1 hp h1 h2 g1.2.1 (by omega) (by omega)
    rcases hFe : F (p + 3, tc, ts) with ⟨⟨p', tc', ts'⟩, oD⟩
    rw [hFe] at hg hX
    have hg1 : p + 3 ≤ p' := hg.1
    have hg3 : p' ≤ t.length := hg.2.1
    cases oD with
    | none =>
      rw [show rOp t F J true (p, tc, ts) = ((p', tc', ts'), none) from rOp_tn hFe]
      refine x_iload_n d_Reader_readOpened_32 rfl ?_
      refine x_if_eq (tgt := 43) d_Reader_readOpened_33 (by decide) (fun ht => absurd ht (by decide)) (fun _ => ?_)
      refine x_aload_n d_Reader_readOpened_36 rfl rfl ?_
      refine x_callV (As := []) (k := k_Reader) rfl xcv_Reader_75_Reader (Or.inl hr1) hX rfl rfl (Nat.le_of_ble_eq_true rfl) d_Reader_readOpened_37 ?_
      intro v h2 c2 n2 hv
      obtain ⟨rfl, q2⟩ : v = some .null ∧ pT G (40 * (p' - (p + 3)) + 40) (2000 * (p' - (p + 3)) + 2000) K r ta na la ba t as kas Ns ea va1 p' (o + 1) tc' ts' m1 _ c' n' h2 c2 n2 := hv
      obtain ⟨ea2, va2, es2, ln2, m2, R2, f2, u2, w2, g2⟩ := pT.tr R1 (f1.mono (by simp)) (Or.inl rfl) w1 g1 q2
      obtain ⟨hr2, hS2, hNs2, hLi2, hT2, hB2⟩ := id R2
      refine x_goto (tgt := 48) d_Reader_readOpened_40 (by decide) ?_
      refine x_astore_n (L' := [_, _, _]) d_Reader_readOpened_48 rfl rfl rfl ?_
      refine x_aload_n d_Reader_readOpened_49 rfl rfl ?_
      refine x_dup d_Reader_readOpened_50 rfl ?_
      refine x_get xf_Reader_29_Reader (Or.inl hr2) rfl d_Reader_readOpened_51 ?_
      refine x_iconst (v := 1) d_Reader_readOpened_54 (by decide) ?_
      refine x_isub d_Reader_readOpened_55 ?_
      refine x_top (w := .int (nI o)) (by rw [show (1 : Int32) = nI 1 from rfl, pk_sub (by omega)]; rfl) ?_
      refine x_put xf_Reader_29_Reader xp_Reader_5 rfl rfl hr2 rfl rfl d_Reader_readOpened_56 ?_
      have q3 := pT.tr R2 f2 u2 w2 g2 (pT.ofR R2 (pR.ofU (c := c2) (n := n2) (e := rdO ta na la ba p' o tc') hr2 hB2 g2.2.1))
      refine x_aload_n d_Reader_readOpened_59 rfl rfl ?_
      refine x_ifnonnullN d_Reader_readOpened_60 ?_
      refine x_null d_Reader_readOpened_63 ?_
      refine x_aret d_Reader_readOpened_64 rfl rfl ?_
      exact ⟨rfl, q3.mono (by show _ ≤ 40 * (p' - p); omega) (by show _ ≤ 2000 * (p' - p); omega)⟩
    | some D =>
      rw [show rOp t F J true (p, tc, ts) = ((p', tc', ts'), some (dNot D)) from rOp_t hFe]
      refine x_iload_n d_Reader_readOpened_32 rfl ?_
      refine x_if_eq (tgt := 43) d_Reader_readOpened_33 (by decide) (fun ht => absurd ht (by decide)) (fun _ => ?_)
      refine x_aload_n d_Reader_readOpened_36 rfl rfl ?_
      refine x_callV (As := []) (k := k_Reader) rfl xcv_Reader_75_Reader (Or.inl hr1) hX rfl rfl (Nat.le_of_ble_eq_true rfl) d_Reader_readOpened_37 ?_
      intro v h2 c2 n2 hv
      obtain ⟨a, rfl, nd, q2⟩ : ∃ a, v = some (.ref a) ∧ isNode G h2 (p' - (p + 3)) a D ∧ pT G (40 * (p' - (p + 3))) (2000 * (p' - (p + 3))) K r ta na la ba t as kas Ns ea va1 p' (o + 1) tc' ts' m1 _ c' n' h2 c2 n2 := hv
      obtain ⟨ea2, va2, es2, ln2, m2, R2, f2, u2, w2, g2⟩ := pT.tr R1 (f1.mono (by simp)) (Or.inl rfl) w1 g1 q2
      obtain ⟨hr2, hS2, hNs2, hLi2, hT2, hB2⟩ := id R2
      refine x_goto (tgt := 48) d_Reader_readOpened_40 (by decide) ?_
      refine x_astore_n (L' := [_, _, _]) d_Reader_readOpened_48 rfl rfl rfl ?_
      refine x_aload_n d_Reader_readOpened_49 rfl rfl ?_
      refine x_dup d_Reader_readOpened_50 rfl ?_
      refine x_get xf_Reader_29_Reader (Or.inl hr2) rfl d_Reader_readOpened_51 ?_
      refine x_iconst (v := 1) d_Reader_readOpened_54 (by decide) ?_
      refine x_isub d_Reader_readOpened_55 ?_
      refine x_top (w := .int (nI o)) (by rw [show (1 : Int32) = nI 1 from rfl, pk_sub (by omega)]; rfl) ?_
      refine x_put xf_Reader_29_Reader xp_Reader_5 rfl rfl hr2 rfl rfl d_Reader_readOpened_56 ?_
      have q3 := pT.tr R2 f2 u2 w2 g2 (pT.ofR R2 (pR.ofU (c := c2) (n := n2) (e := rdO ta na la ba p' o tc') hr2 hB2 g2.2.1))
      have nd3 : isNode G (xup h2 r (rdO ta na la ba p' o tc')) (p' - (p + 3)) a D := isNode.fr (F := [r]) (xfr.rf.up (Or.inl (by simp))) (xno1 hr2 (by decide)) nd
      refine x_hp (h' := xup h2 r (rdO ta na la ba p' o tc')) rfl ?_
      generalize xup h2 r (rdO ta na la ba p' o tc') = h3 at q3 nd3 ⊢
      obtain ⟨ea3, va3, es3, ln3, m3, R3, f3, u3, w3, g3⟩ := id q3
      refine x_aload_n d_Reader_readOpened_59 rfl rfl ?_
      refine x_ifnonnull (tgt := 65) d_Reader_readOpened_60 (by decide) ?_
      refine x_iload_n d_Reader_readOpened_65 rfl ?_
      refine x_if_eq (tgt := 78) d_Reader_readOpened_66 (by decide) (fun ht => absurd ht (by decide)) (fun _ => ?_)
      refine x_new xnw_Reader_125 (by omega) (by omega) d_Reader_readOpened_69 (fun y hn_y hk_y => ?_)
      refine x_dup d_Reader_readOpened_72 rfl ?_
      refine x_aload_n d_Reader_readOpened_73 rfl rfl ?_
      refine x_callI (As := [_]) xci_Reader_127 (c_Negation_init (by omega) xup_self) rfl rfl (Nat.le_of_ble_eq_true rfl) d_Reader_readOpened_74 ?_
      rintro v h4 c4 n4 ⟨rfl, rfl, rfl, rfl⟩
      refine x_aret d_Reader_readOpened_77 rfl rfl ?_
      rw [xup_up]
      have nd4 : isNode G (xup h3 y (k_Negation, [.ref a, .int 3])) (p' - (p + 3)) a D := isNode.fr (F := []) (xfr.rf.up (Or.inr hn_y)) (fun _ z => by cases z) nd3
      refine ⟨y, rfl, ?_, (q3.up (dc := 1) (dn := 2) hn_y).mono (by show _ ≤ 40 * (p' - p) - 36; omega) (by show _ ≤ 2000 * (p' - p) - 1900; omega)⟩
      exact isNode.mono (k := p' - (p + 3) + 1) (Or.inr (Or.inl ⟨a, D, xup_self, nd4, rfl⟩)) (by show _ ≤ p' - p; omega)
  | false =>
    have hp : p + 1 ≤ t.length := hp
    refine x_aload_n d_Reader_readOpened_0 rfl rfl ?_
    refine x_dup d_Reader_readOpened_1 rfl ?_
    refine x_get xf_Reader_25_Reader (Or.inl hr) rfl d_Reader_readOpened_2 ?_
    refine x_iload_n d_Reader_readOpened_5 rfl ?_
    refine x_if_eq (tgt := 17) d_Reader_readOpened_6 (by decide) (fun _ => ?_) (fun hn => absurd rfl hn)
    refine x_iconst (v := 1) d_Reader_readOpened_17 (by decide) ?_
    refine x_iadd d_Reader_readOpened_18 ?_
    refine x_top (w := .int (nI (p + 1))) (by rw [show (1 : Int32) = nI 1 from rfl, nI_add]) ?_
    refine x_put xf_Reader_25_Reader xp_Reader_4 rfl rfl hr rfl rfl d_Reader_readOpened_19 ?_
    refine x_aload_n d_Reader_readOpened_22 rfl rfl ?_
    refine x_dup d_Reader_readOpened_23 rfl ?_
    refine x_get xf_Reader_29_Reader (Or.inl xup_self) rfl d_Reader_readOpened_24 ?_
    refine x_iconst (v := 1) d_Reader_readOpened_27 (by decide) ?_
    refine x_iadd d_Reader_readOpened_28 ?_
    refine x_top (w := .int (nI (o + 1))) (by rw [show (1 : Int32) = nI 1 from rfl, nI_add]) ?_
    refine x_put xf_Reader_29_Reader xp_Reader_5 rfl rfl xup_self rfl rfl d_Reader_readOpened_29 ?_
    refine x_hp (h' := xup h r (rdO ta na la ba (p + 1) (o + 1) tc)) (by rw [xup_up]; rfl) ?_
    obtain ⟨va1, m1, R1, f1, w1, g1⟩ := hR.ofR (pR.ofU (c := c) (n := n) (e := rdO ta na la ba (p + 1) (o + 1) tc) hr hB hm)
    obtain ⟨hr1, -⟩ := id R1
    have hg := hgJ (p + 1) tc ts hp h1 h2
    have hX := hJ _ c n d r ta na la ba ea va1 (p + 1) tc m1 es ts ln (by omega) R1 hp h1 h2 g1.2.1 (by omega) (by omega)
    rcases hFe : J (p + 1, tc, ts) with ⟨⟨p', tc', ts'⟩, oD⟩
    rw [hFe] at hg hX
    have hg1 : p + 1 ≤ p' := hg.1
    have hg3 : p' ≤ t.length := hg.2.1
    cases oD with
    | none =>
      rw [show rOp t F J false (p, tc, ts) = ((p', tc', ts'), none) from rOp_fn hFe]
      refine x_iload_n d_Reader_readOpened_32 rfl ?_
      refine x_if_eq (tgt := 43) d_Reader_readOpened_33 (by decide) (fun _ => ?_) (fun hn => absurd rfl hn)
      refine x_aload_n d_Reader_readOpened_43 rfl rfl ?_
      refine x_iconst (v := 1) d_Reader_readOpened_44 (by decide) ?_
      refine x_callV (As := [_]) (k := k_Reader) rfl xcv_Reader_45_Reader (Or.inl hr1) hX rfl rfl (Nat.le_of_ble_eq_true rfl) d_Reader_readOpened_45 ?_
      intro v h2 c2 n2 hv
      obtain ⟨rfl, q2⟩ : v = some .null ∧ pT G (40 * (p' - (p + 1)) + 40) (2000 * (p' - (p + 1)) + 2000) K r ta na la ba t as kas Ns ea va1 p' (o + 1) tc' ts' m1 _ c n h2 c2 n2 := hv
      obtain ⟨ea2, va2, es2, ln2, m2, R2, f2, u2, w2, g2⟩ := pT.tr R1 (f1.mono (by simp)) (Or.inl rfl) w1 g1 q2
      obtain ⟨hr2, hS2, hNs2, hLi2, hT2, hB2⟩ := id R2
      refine x_astore_n (L' := [_, _, _]) d_Reader_readOpened_48 rfl rfl rfl ?_
      refine x_aload_n d_Reader_readOpened_49 rfl rfl ?_
      refine x_dup d_Reader_readOpened_50 rfl ?_
      refine x_get xf_Reader_29_Reader (Or.inl hr2) rfl d_Reader_readOpened_51 ?_
      refine x_iconst (v := 1) d_Reader_readOpened_54 (by decide) ?_
      refine x_isub d_Reader_readOpened_55 ?_
      refine x_top (w := .int (nI o)) (by rw [show (1 : Int32) = nI 1 from rfl, pk_sub (by omega)]; rfl) ?_
      refine x_put xf_Reader_29_Reader xp_Reader_5 rfl rfl hr2 rfl rfl d_Reader_readOpened_56 ?_
      have q3 := pT.tr R2 f2 u2 w2 g2 (pT.ofR R2 (pR.ofU (c := c2) (n := n2) (e := rdO ta na la ba p' o tc') hr2 hB2 g2.2.1))
      refine x_aload_n d_Reader_readOpened_59 rfl rfl ?_
      refine x_ifnonnullN d_Reader_readOpened_60 ?_
      refine x_null d_Reader_readOpened_63 ?_
      refine x_aret d_Reader_readOpened_64 rfl rfl ?_
      exact ⟨rfl, q3.mono (by show _ ≤ 40 * (p' - p); omega) (by show _ ≤ 2000 * (p' - p); omega)⟩
    | some D =>
      have hg6 : p + 1 < p' := (hg.2.2.2.2 D rfl).1
      have h3 := skp_le hg3
      have h4 : p' ≤ skp t p' := scn_ge
      refine x_iload_n d_Reader_readOpened_32 rfl ?_
      refine x_if_eq (tgt := 43) d_Reader_readOpened_33 (by decide) (fun _ => ?_) (fun hn => absurd rfl hn)
      refine x_aload_n d_Reader_readOpened_43 rfl rfl ?_
      refine x_iconst (v := 1) d_Reader_readOpened_44 (by decide) ?_
      refine x_callV (As := [_]) (k := k_Reader) rfl xcv_Reader_45_Reader (Or.inl hr1) hX rfl rfl (Nat.le_of_ble_eq_true rfl) d_Reader_readOpened_45 ?_
      intro v h2 c2 n2 hv
      obtain ⟨a, rfl, nd, q2⟩ : ∃ a, v = some (.ref a) ∧ isNode G h2 (p' - (p + 1)) a D ∧ pT G (40 * (p' - (p + 1))) (2000 * (p' - (p + 1))) K r ta na la ba t as kas Ns ea va1 p' (o + 1) tc' ts' m1 _ c n h2 c2 n2 := hv
      obtain ⟨ea2, va2, es2, ln2, m2, R2, f2, u2, w2, g2⟩ := pT.tr R1 (f1.mono (by simp)) (Or.inl rfl) w1 g1 q2
      obtain ⟨hr2, hS2, hNs2, hLi2, hT2, hB2⟩ := id R2
      refine x_astore_n (L' := [_, _, _]) d_Reader_readOpened_48 rfl rfl rfl ?_
      refine x_aload_n d_Reader_readOpened_49 rfl rfl ?_
      refine x_dup d_Reader_readOpened_50 rfl ?_
      refine x_get xf_Reader_29_Reader (Or.inl hr2) rfl d_Reader_readOpened_51 ?_
      refine x_iconst (v := 1) d_Reader_readOpened_54 (by decide) ?_
      refine x_isub d_Reader_readOpened_55 ?_
      refine x_top (w := .int (nI o)) (by rw [show (1 : Int32) = nI 1 from rfl, pk_sub (by omega)]; rfl) ?_
      refine x_put xf_Reader_29_Reader xp_Reader_5 rfl rfl hr2 rfl rfl d_Reader_readOpened_56 ?_
      have q3 := pT.tr R2 f2 u2 w2 g2 (pT.ofR R2 (pR.ofU (c := c2) (n := n2) (e := rdO ta na la ba p' o tc') hr2 hB2 g2.2.1))
      have nd3 : isNode G (xup h2 r (rdO ta na la ba p' o tc')) (p' - (p + 1)) a D := isNode.fr (F := [r]) (xfr.rf.up (Or.inl (by simp))) (xno1 hr2 (by decide)) nd
      refine x_hp (h' := xup h2 r (rdO ta na la ba p' o tc')) rfl ?_
      generalize xup h2 r (rdO ta na la ba p' o tc') = h3' at q3 nd3 ⊢
      obtain ⟨ea3, va3, es3, ln3, m3, R3, f3, u3, w3, g3⟩ := id q3
      obtain ⟨hr3, hS3, hNs3, hLi3, hT3, hB3⟩ := id R3
      refine x_aload_n d_Reader_readOpened_59 rfl rfl ?_
      refine x_ifnonnull (tgt := 65) d_Reader_readOpened_60 (by decide) ?_
      refine x_iload_n d_Reader_readOpened_65 rfl ?_
      refine x_if_eq (tgt := 78) d_Reader_readOpened_66 (by decide) (fun _ => ?_) (fun hn => absurd rfl hn)
      refine x_aload_n d_Reader_readOpened_78 rfl rfl ?_
      refine x_bipush (v := 41) d_Reader_readOpened_79 (by decide) ?_
      refine x_callV (As := [_]) (k := k_Reader) rfl xcv_Reader_130_Reader (Or.inl hr3) (c_takesSign (ch := 41) hG (by omega) hr3 hS3 (by omega) hg3 (by decide)) rfl rfl (Nat.le_of_ble_eq_true rfl) d_Reader_readOpened_81 ?_
      rintro v h4' c4 n4 ⟨rfl, rfl, rfl, rfl⟩
      have q4 := pT.tr R3 f3 u3 w3 g3 (pT.ofR R3 (pR.ofU (c := c4) (n := n4) (e := rdO ta na la ba (tkS t p' 41) o tc') hr3 hB3 g3.2.1))
      have nd4 : isNode G (xup h3' r (rdO ta na la ba (tkS t p' 41) o tc')) (p' - (p + 1)) a D := isNode.fr (F := [r]) (xfr.rf.up (Or.inl (by simp))) (xno1 hr3 (by decide)) nd3
      by_cases h41 : chr t (skp t p') = 41
      · rw [show tkS t p' 41 = skp t p' + 1 from if_pos h41] at q4 nd4 ⊢
        rw [show rOp t F J false (p, tc, ts) = ((skp t p' + 1, tc', ts'), some D) from (rOp_f hFe).trans (if_pos h41)]
        refine x_if_eq (tgt := 91) d_Reader_readOpened_84 (by decide) (fun ht => absurd ht (by rw [decide_eq_true h41]; decide)) (fun _ => ?_)
        refine x_aload_n d_Reader_readOpened_87 rfl rfl ?_
        refine x_goto (tgt := 92) d_Reader_readOpened_88 (by decide) ?_
        refine x_aret d_Reader_readOpened_92 rfl rfl ?_
        exact ⟨a, rfl, nd4.mono (by show _ ≤ skp t p' + 1 - p; omega), q4.mono (by show _ ≤ 40 * (skp t p' + 1 - p) - 36; omega) (by show _ ≤ 2000 * (skp t p' + 1 - p) - 1900; omega)⟩
      · rw [show tkS t p' 41 = skp t p' from if_neg h41] at q4 nd4 ⊢
        rw [show rOp t F J false (p, tc, ts) = ((skp t p', tc', ts'), none) from (rOp_f hFe).trans (if_neg h41)]
        refine x_if_eq (tgt := 91) d_Reader_readOpened_84 (by decide) (fun _ => ?_) (fun hn => absurd (by rw [decide_eq_false h41]; rfl) hn)
        refine x_null d_Reader_readOpened_91 ?_
        refine x_aret d_Reader_readOpened_92 rfl rfl ?_
        exact ⟨rfl, q4.mono (by show _ ≤ 40 * (skp t p' - p); omega) (by show _ ≤ 2000 * (skp t p' - p); omega)⟩
end RE2
end
section
section
theorem d_Reader_readJoined_31 : decode M_Reader_readJoined.2.1 31 = .ok (.iload 4, 2) := by decide +kernel
theorem d_Reader_readJoined_33 : decode M_Reader_readJoined.2.1 33 = .ok (.sipush 160, 3) := by decide +kernel
theorem d_Reader_readJoined_36 : decode M_Reader_readJoined.2.1 36 = .ok (.if_icmp .ge 70, 3) := by decide +kernel
theorem d_Reader_readJoined_106 : decode M_Reader_readJoined.2.1 106 = .ok (.aload_n 3, 1) := by decide +kernel
theorem d_Reader_readJoined_107 : decode M_Reader_readJoined.2.1 107 = .ok (.areturn, 1) := by decide +kernel
theorem d_Reader_readJoined_39 : decode M_Reader_readJoined.2.1 39 = .ok (.aload_n 3, 1) := by decide +kernel
theorem d_Reader_readJoined_40 : decode M_Reader_readJoined.2.1 40 = .ok (.ifnull 66, 3) := by decide +kernel
theorem d_Reader_readJoined_43 : decode M_Reader_readJoined.2.1 43 = .ok (.aload_n 0, 1) := by decide +kernel
theorem d_Reader_readJoined_44 : decode M_Reader_readJoined.2.1 44 = .ok (.iload_n 2, 1) := by decide +kernel
theorem d_Reader_readJoined_45 : decode M_Reader_readJoined.2.1 45 = .ok (.ifCond .eq 8, 3) := by decide +kernel
theorem d_Reader_readJoined_53 : decode M_Reader_readJoined.2.1 53 = .ok (.ldc 81, 2) := by decide +kernel
theorem d_Reader_readJoined_55 : decode M_Reader_readJoined.2.1 55 = .ok (.invokevirtual 83, 3) := by decide +kernel
theorem d_Reader_readJoined_58 : decode M_Reader_readJoined.2.1 58 = .ok (.ifCond .eq 48, 3) := by decide +kernel
theorem d_Reader_readJoined_61 : decode M_Reader_readJoined.2.1 61 = .ok (.iload_n 2, 1) := by decide +kernel
theorem d_Reader_readJoined_62 : decode M_Reader_readJoined.2.1 62 = .ok (.ifCond .eq 11, 3) := by decide +kernel
theorem d_Reader_readJoined_73 : decode M_Reader_readJoined.2.1 73 = .ok (.aload_n 0, 1) := by decide +kernel
theorem d_Reader_readJoined_74 : decode M_Reader_readJoined.2.1 74 = .ok (.invokevirtual 75, 3) := by decide +kernel
theorem d_Reader_readJoined_77 : decode M_Reader_readJoined.2.1 77 = .ok (.astore 5, 2) := by decide +kernel
theorem d_Reader_readJoined_79 : decode M_Reader_readJoined.2.1 79 = .ok (.aload 5, 2) := by decide +kernel
theorem d_Reader_readJoined_81 : decode M_Reader_readJoined.2.1 81 = .ok (.ifnonnull 7, 3) := by decide +kernel
theorem d_Reader_readJoined_84 : decode M_Reader_readJoined.2.1 84 = .ok (.aconst_null, 1) := by decide +kernel
theorem d_Reader_readJoined_85 : decode M_Reader_readJoined.2.1 85 = .ok (.goto 14, 3) := by decide +kernel
theorem d_Reader_readJoined_99 : decode M_Reader_readJoined.2.1 99 = .ok (.astore_n 3, 1) := by decide +kernel
theorem d_Reader_readJoined_100 : decode M_Reader_readJoined.2.1 100 = .ok (.iinc 4 1, 3) := by decide +kernel
theorem d_Reader_readJoined_103 : decode M_Reader_readJoined.2.1 103 = .ok (.goto (-72), 3) := by decide +kernel
theorem d_Reader_readJoined_88 : decode M_Reader_readJoined.2.1 88 = .ok (.new 87, 3) := by decide +kernel
theorem xw_1085 : (Jvm.Cond.classLink "MarkerText$Reader" (87 : Nat) "MarkerText$Join") ∈ xT := xT_at 1085 (by decide +kernel) (by decide +kernel)
theorem xw_1086 : (Jvm.Cond.instantiable "MarkerText$Join" (3 : Nat)) ∈ xT := xT_at 1086 (by decide +kernel) (by decide +kernel)
theorem xnw_Reader_87 : xNw "MarkerText$Reader" 87 k_Join 3 [.null, .null, .int 0] := ⟨_, _, _, rfl, rfl, by decide +kernel, xw_1085, xw_1086, xw_31⟩
theorem d_Reader_readJoined_91 : decode M_Reader_readJoined.2.1 91 = .ok (.dup, 1) := by decide +kernel
theorem d_Reader_readJoined_92 : decode M_Reader_readJoined.2.1 92 = .ok (.iload_n 1, 1) := by decide +kernel
theorem d_Reader_readJoined_93 : decode M_Reader_readJoined.2.1 93 = .ok (.aload_n 3, 1) := by decide +kernel
theorem d_Reader_readJoined_94 : decode M_Reader_readJoined.2.1 94 = .ok (.aload 5, 2) := by decide +kernel
theorem d_Reader_readJoined_96 : decode M_Reader_readJoined.2.1 96 = .ok (.invokespecial 89, 3) := by decide +kernel
theorem xw_1089 : (Jvm.Cond.code ({ cls := "MarkerText$Join", name := "<init>", desc := "(ILMarkerText$Node;LMarkerText$Node;)V" } : Jvm.MethodName) prog_5_method_1_code (4 : Nat) (Option.none : Option Jvm.ClassFile.FieldType)) ∈ xT := xT_at 1089 (by decide +kernel) (by decide +kernel)
theorem xcb_Join_init : xcb M_Join_init 3 := ⟨xw_1089, xw_31, by decide, by decide, by decide, by decide +kernel⟩
theorem xw_1087 : (Jvm.Cond.methodLink "MarkerText$Reader" (89 : Nat) ({ cls := "MarkerText$Join", name := "<init>", desc := "(ILMarkerText$Node;LMarkerText$Node;)V" } : Jvm.MethodName)) ∈ xT := xT_at 1087 (by decide +kernel) (by decide +kernel)
theorem xw_1088 : (Jvm.Cond.instanceMethod ({ cls := "MarkerText$Join", name := "<init>", desc := "(ILMarkerText$Node;LMarkerText$Node;)V" } : Jvm.MethodName)) ∈ xT := xT_at 1088 (by decide +kernel) (by decide +kernel)
theorem xci_Reader_89 : xCI "MarkerText$Reader" 89 M_Join_init 3 := ⟨xcb_Join_init, rfl, rfl, xw_1088, Or.inl xw_1087⟩
theorem d_Reader_readJoined_0 : decode M_Reader_readJoined.2.1 0 = .ok (.iload_n 1, 1) := by decide +kernel
theorem d_Reader_readJoined_1 : decode M_Reader_readJoined.2.1 1 = .ok (.iconst 1, 1) := by decide +kernel
theorem d_Reader_readJoined_2 : decode M_Reader_readJoined.2.1 2 = .ok (.if_icmp .ne 7, 3) := by decide +kernel
theorem d_Reader_readJoined_9 : decode M_Reader_readJoined.2.1 9 = .ok (.iconst 0, 1) := by decide +kernel
theorem d_Reader_readJoined_10 : decode M_Reader_readJoined.2.1 10 = .ok (.istore_n 2, 1) := by decide +kernel
theorem d_Reader_readJoined_11 : decode M_Reader_readJoined.2.1 11 = .ok (.iload_n 2, 1) := by decide +kernel
theorem d_Reader_readJoined_12 : decode M_Reader_readJoined.2.1 12 = .ok (.ifCond .eq 11, 3) := by decide +kernel
theorem d_Reader_readJoined_23 : decode M_Reader_readJoined.2.1 23 = .ok (.aload_n 0, 1) := by decide +kernel
theorem d_Reader_readJoined_24 : decode M_Reader_readJoined.2.1 24 = .ok (.invokevirtual 75, 3) := by decide +kernel
theorem d_Reader_readJoined_27 : decode M_Reader_readJoined.2.1 27 = .ok (.astore_n 3, 1) := by decide +kernel
theorem d_Reader_readJoined_28 : decode M_Reader_readJoined.2.1 28 = .ok (.iconst 0, 1) := by decide +kernel
theorem d_Reader_readJoined_29 : decode M_Reader_readJoined.2.1 29 = .ok (.istore 4, 2) := by decide +kernel
end
section RE3
variable {l : Launch} {G : XG} {h : XH} {c n d : Nat}
/-- hides a saying from omega -/
def Hid (p : Prop) : Prop := p
theorem Hid.in {p : Prop} (hp : p) : Hid p := hp
theorem Hid.out {p : Prop} (hp : Hid p) : p := hp
theorem jn_n {t : List Nat} {F : RS → RO} {w : List Nat} {s j : Nat} {st st' : RS} {D : Den} (hw : wrd t (skp t st.1) = w) (hF : F (tkW t st.1 w, st.2) = (st', none)) : jn t F w s (j + 1) st D = (st', none) := by
  unfold jn
  rw [if_pos hw, hF]
theorem jn_s {t : List Nat} {F : RS → RO} {w : List Nat} {s j : Nat} {st st' : RS} {D B : Den} (hw : wrd t (skp t st.1) = w) (hF : F (tkW t st.1 w, st.2) = (st', some B)) : jn t F w s (j + 1) st D = jn t F w s j st' (dJoin s D B) := by
  rw [jn]
  rw [if_pos hw, hF]
theorem jn_e {t : List Nat} {F : RS → RO} {w : List Nat} {s j : Nat} {st : RS} {D : Den} (hw : ¬ wrd t (skp t st.1) = w) : jn t F w s (j + 1) st D = ((tkW t st.1 w, st.2), some D) := by
  unfold jn
  rw [if_neg hw]
theorem c_joinAnd (hG : xGk G) {K dd o sl sn : Nat} {t as kas : List Nat} {Ns : List NmT} {F : RS → RO} (hl : t.length ≤ 160) (hK : K < 2 ^ 16) (hsl : 4 ≤ sl ∧ sl ≤ 30) (hsn : 200 ≤ sn ∧ sn ≤ 1500) (hgF : gF t (2 + 1) F) (hF : CRd l G K t as kas Ns M_Reader_readTest [] dd o sl sn F) (hdd : 6 ≤ dd) : CRd l G K t as kas Ns M_Reader_readJoined [.int 2] (dd + 1) o (sl - 2) (sn - 170) (jnd t F (xtx 25) 2) := by
  intro h c n d r ta na la ba ea va p tc m es ts ln hd hR hp h1 h2 hm hc hn
  obtain ⟨d, rfl⟩ : ∃ q, d = q + 1 := ⟨d - 1, by omega⟩
  obtain ⟨hr, -⟩ := id hR
  have lp : ∀ (j i p1 tc1 a c1 n1 : Nat) (ts1 : List TsT) (D : Den) (h1 : XH) (e5 : Option Value), i + j = 160 → pT G (40 * (p1 - p) - sl) (2000 * (p1 - p) - sn) K r ta na la ba t as kas Ns ea va p1 o tc1 ts1 m h c n h1 c1 n1 → isNode G h1 (p1 - p) a D → gR t 2 p ((p1, tc1, ts1), some D) →
      XW l G M_Reader_readJoined (d + 1) 31 [some (.ref r), some (.int 2), some (.int (bI false)), some (.ref a), some (.int (nI i)), e5] [] h1 c1 n1 (pN G (sl - 2) (sn - 170) K r ta na la ba t as kas Ns ea va p o m h c n (jn t F (xtx 25) 2 j (p1, tc1, ts1) D)) := by
    intro j
    induction j with
    | zero =>
      intro i p1 tc1 a c1 n1 ts1 D h1 e5 hi q1 nd hg
      refine x_iload d_Reader_readJoined_31 rfl ?_
      refine x_sipush (v := 160) d_Reader_readJoined_33 (by decide) ?_
      refine x_icmp_ge (tgt := 106) d_Reader_readJoined_36 (by decide) (fun _ => ?_) (fun hn => absurd (nI_le (a := 160) (by omega) (by omega)) hn)
      refine x_aload_n d_Reader_readJoined_106 rfl rfl ?_
      refine x_aret d_Reader_readJoined_107 rfl rfl ?_
      exact ⟨a, rfl, nd, q1.mono (by show _ ≤ 40 * (p1 - p) - (sl - 2); omega) (by show _ ≤ 2000 * (p1 - p) - (sn - 170); omega)⟩
    | succ j ih =>
      intro i p1 tc1 a c1 n1 ts1 D h1 e5 hi q1 nd hg
      obtain ⟨g1, g2, g3, g4, g5⟩ := id hg
      have g6 := (g5 D rfl).1
      have g1 : p ≤ p1 := g1
      have g2 : p1 ≤ t.length := g2
      have g3 : ts1.length ≤ tc1 := g3
      have g4 : tc1 ≤ 40 := g4
      have g6 : p < p1 := g6
      obtain ⟨ea1, va1, es1, ln1, m1, R1, f1, u1, w1, k1⟩ := q1
      obtain ⟨hr1, hS1, hNs1, hLi1, hT1, hB1⟩ := id R1
      have hk1 : p1 ≤ skp t p1 := scn_ge
      have hk2 : tkW t p1 (xtx 25) ≤ t.length := tkW_le g2
      have hgj := jn_g (Or.inr rfl) (w := xtx 25) (by decide) hgF p 1 (p1, tc1, ts1) D hg
      refine x_iload d_Reader_readJoined_31 rfl ?_
      refine x_sipush (v := 160) d_Reader_readJoined_33 (by decide) ?_
      refine x_icmp_ge (tgt := 106) d_Reader_readJoined_36 (by decide) (fun ht => absurd ht (nI_ge (b := 160) (by omega) (by omega))) (fun _ => ?_)
      refine x_aload_n d_Reader_readJoined_39 rfl rfl ?_
      refine x_ifnull d_Reader_readJoined_40 ?_
      refine x_aload_n d_Reader_readJoined_43 rfl rfl ?_
      refine x_iload_n d_Reader_readJoined_44 rfl ?_
      refine x_if_eq (tgt := 53) d_Reader_readJoined_45 (by decide) (fun _ => ?_) (fun hn => absurd rfl hn)
      refine x_ldcS (i := 25) (tx := "and") (by decide +kernel) d_Reader_readJoined_53 ?_
      refine x_callV (As := [_]) (k := k_Reader) rfl xcv_Reader_83_Reader (Or.inl hr1) (c_takesWord hG (by omega) hr1 hS1 (by omega) g2 (hG.str (by decide)) (by decide) (by omega) (by omega)) rfl rfl (Nat.le_of_ble_eq_true rfl) d_Reader_readJoined_55 ?_
      rintro v h2' c2 n2 ⟨rfl, r2, f2, k2, k2'⟩
      obtain ⟨ea2, va2, es2, ln2, m2, R2, f2', u2, w2, k2''⟩ := pT.tr R1 f1 u1 w1 k1 (pT.ofR R1 (pR.ofW (K := K) (C := 2) (N := t.length + 4) (c := c1) (n := n1) hr1 hB1 k1.2.1 r2 f2 k2 (by omega)))
      have nd2 : isNode G h2' (p1 - p) a D := isNode.fr f2 (xno1 hr1 (by decide)) nd
      clear f2 k2 k2'
      have f2 := f2'
      have k2 := k2''
      clear f2' k2''
      obtain ⟨hr2, hS2, hNs2, hLi2, hT2, hB2⟩ := id R2
      by_cases hwd : wrd t (skp t p1) = xtx 25
      · have htk : tkW t p1 (xtx 25) = skp t p1 + (xtx 25).length := if_pos hwd
        have hwl : 2 ≤ (xtx 25).length := by decide
        have hgg := hgF (tkW t p1 (xtx 25)) tc1 ts1 hk2 g3 g4
        have hX := hF h2' c2 n2 d r ta na la ba ea2 va2 (tkW t p1 (xtx 25)) tc1 m2 es2 ts1 ln2 (by omega) R2 hk2 g3 g4 k2.2.1 (by omega) (by omega)
        rcases hFe : F (tkW t p1 (xtx 25), tc1, ts1) with ⟨⟨p', tc', ts'⟩, oD⟩
        rw [hFe] at hX hgg
        have hgg1 : tkW t p1 (xtx 25) ≤ p' := hgg.1
        have hgg2 : p' ≤ t.length := hgg.2.1
        cases oD with
        | none =>
          rw [show jn t F (xtx 25) 2 (j + 1) (p1, tc1, ts1) D = ((p', tc', ts'), none) from jn_n hwd hFe]
          refine x_if_eq (tgt := 106) d_Reader_readJoined_58 (by decide) (fun ht => absurd ht (by rw [decide_eq_true hwd]; decide)) (fun _ => ?_)
          refine x_iload_n d_Reader_readJoined_61 rfl ?_
          refine x_if_eq (tgt := 73) d_Reader_readJoined_62 (by decide) (fun _ => ?_) (fun hn => absurd rfl hn)
          refine x_aload_n d_Reader_readJoined_73 rfl rfl ?_
          refine x_callV (As := []) (k := k_Reader) rfl xcv_Reader_75_Reader (Or.inl hr2) hX rfl rfl (Nat.le_of_ble_eq_true rfl) d_Reader_readJoined_74 ?_
          intro v h3 c3 n3 hv
          obtain ⟨rfl, q3⟩ : v = some .null ∧ pT G (40 * (p' - tkW t p1 (xtx 25)) + 40) (2000 * (p' - tkW t p1 (xtx 25)) + 2000) K r ta na la ba t as kas Ns ea2 va2 p' o tc' ts' m2 h2' c2 n2 h3 c3 n3 := hv
          obtain ⟨ea4, va4, es4, ln4, m4, R4, f4, u4, w4, k4⟩ := pT.tr R2 f2 u2 w2 k2 q3
          clear q3
          have q5 : pT G (40 * (p' - p) + 40) (2000 * (p' - p) + 2000) K r ta na la ba t as kas Ns ea va p' o tc' ts' m h c n h3 c3 n3 := ⟨ea4, va4, es4, ln4, m4, R4, f4, u4, w4, by omega⟩
          have Q5 := Hid.in q5
          clear q5
          refine x_astore (L' := [_, _, _, _, _, _]) d_Reader_readJoined_77 rfl rfl rfl ?_
          refine x_aload d_Reader_readJoined_79 rfl rfl ?_
          refine x_ifnonnullN d_Reader_readJoined_81 ?_
          refine x_null d_Reader_readJoined_84 ?_
          refine x_goto (tgt := 99) d_Reader_readJoined_85 (by decide) ?_
          refine x_astore_n (L' := [_, _, _, _, _, _]) d_Reader_readJoined_99 rfl rfl rfl ?_
          refine x_iinc (v := nI (i + 1)) (L' := [_, _, _, _, _, _]) d_Reader_readJoined_100 rfl (by exact xw_iinc1) rfl rfl ?_
          refine x_goto (tgt := 31) d_Reader_readJoined_103 (by decide) ?_
          by_cases hj : i + 1 < 160
          · refine x_iload d_Reader_readJoined_31 rfl ?_
            refine x_sipush (v := 160) d_Reader_readJoined_33 (by decide) ?_
            refine x_icmp_ge (tgt := 106) d_Reader_readJoined_36 (by decide) (fun ht => absurd ht (nI_ge (b := 160) (by omega) (by omega))) (fun _ => ?_)
            refine x_aload_n d_Reader_readJoined_39 rfl rfl ?_
            refine x_ifnullN (tgt := 106) d_Reader_readJoined_40 (by decide) ?_
            refine x_aload_n d_Reader_readJoined_106 rfl rfl ?_
            refine x_aret d_Reader_readJoined_107 rfl rfl ?_
            exact ⟨rfl, Q5.out⟩
          · refine x_iload d_Reader_readJoined_31 rfl ?_
            refine x_sipush (v := 160) d_Reader_readJoined_33 (by decide) ?_
            refine x_icmp_ge (tgt := 106) d_Reader_readJoined_36 (by decide) (fun _ => ?_) (fun hn => absurd (nI_le (a := 160) (by omega) (by omega)) hn)
            refine x_aload_n d_Reader_readJoined_106 rfl rfl ?_
            refine x_aret d_Reader_readJoined_107 rfl rfl ?_
            exact ⟨rfl, Q5.out⟩
        | some B =>
          have hgg6 : tkW t p1 (xtx 25) < p' := (hgg.2.2.2.2 B rfl).1
          rw [show jn t F (xtx 25) 2 (j + 1) (p1, tc1, ts1) D = jn t F (xtx 25) 2 j (p', tc', ts') (dJoin 2 D B) from jn_s hwd hFe]
          rw [show jn t F (xtx 25) 2 1 (p1, tc1, ts1) D = ((p', tc', ts'), some (dJoin 2 D B)) from jn_s (j := 0) hwd hFe] at hgj
          refine x_wf fun hwf2 => ?_
          refine x_if_eq (tgt := 106) d_Reader_readJoined_58 (by decide) (fun ht => absurd ht (by rw [decide_eq_true hwd]; decide)) (fun _ => ?_)
          refine x_iload_n d_Reader_readJoined_61 rfl ?_
          refine x_if_eq (tgt := 73) d_Reader_readJoined_62 (by decide) (fun _ => ?_) (fun hn => absurd rfl hn)
          refine x_aload_n d_Reader_readJoined_73 rfl rfl ?_
          refine x_callV (As := []) (k := k_Reader) rfl xcv_Reader_75_Reader (Or.inl hr2) hX rfl rfl (Nat.le_of_ble_eq_true rfl) d_Reader_readJoined_74 ?_
          intro v h3 c3 n3 hv
          obtain ⟨b, rfl, ndb, q3⟩ : ∃ b, v = some (.ref b) ∧ isNode G h3 (p' - tkW t p1 (xtx 25)) b B ∧ pT G (40 * (p' - tkW t p1 (xtx 25)) - sl) (2000 * (p' - tkW t p1 (xtx 25)) - sn) K r ta na la ba t as kas Ns ea2 va2 p' o tc' ts' m2 h2' c2 n2 h3 c3 n3 := hv
          have f3 : xfr h2' h3 [r, la, ea2, ba, va2] := by
            obtain ⟨_, _, _, _, _, _, y, _⟩ := q3
            exact y
          have hno : xno h2' [r, la, ea2, ba, va2] kNd := (xno1 hr2 (by decide)).ap ((hLi2.kn hG hwf2 (by decide) (by decide)).ap (hB2.k1 (by decide) (by decide)))
          have nd3 : isNode G h3 (p1 - p) a D := isNode.fr f3 hno nd2
          have q4 := pT.tr R2 f2 u2 w2 k2 q3
          clear q3
          have Q4 := Hid.in q4
          obtain ⟨ea4, va4, es4, ln4, m4, R4, f4, u4, w4, k4⟩ := q4
          refine x_astore (L' := [_, _, _, _, _, _]) d_Reader_readJoined_77 rfl rfl rfl ?_
          refine x_aload d_Reader_readJoined_79 rfl rfl ?_
          refine x_ifnonnull (tgt := 88) d_Reader_readJoined_81 (by decide) ?_
          refine x_new xnw_Reader_87 (by omega) (by omega) d_Reader_readJoined_88 (fun y hn_y hk_y => ?_)
          refine x_dup d_Reader_readJoined_91 rfl ?_
          refine x_iload_n d_Reader_readJoined_92 rfl ?_
          refine x_aload_n d_Reader_readJoined_93 rfl rfl ?_
          refine x_aload d_Reader_readJoined_94 rfl rfl ?_
          refine x_callI (As := [_, _, _]) xci_Reader_89 (c_Join_init (by omega) xup_self) rfl rfl (Nat.le_of_ble_eq_true rfl) d_Reader_readJoined_96 ?_
          rintro v h5 c5 n5 ⟨rfl, rfl, rfl, rfl⟩
          refine x_astore_n (L' := [_, _, _, _, _, _]) d_Reader_readJoined_99 rfl rfl rfl ?_
          refine x_iinc (v := nI (i + 1)) (L' := [_, _, _, _, _, _]) d_Reader_readJoined_100 rfl (by exact xw_iinc1) rfl rfl ?_
          refine x_goto (tgt := 31) d_Reader_readJoined_103 (by decide) ?_
          refine x_hp (h' := xup h3 y (k_Join, [.ref a, .ref b, .int 2])) (by rw [xup_up]) ?_
          have ndf : ∀ {k z : Nat} {E : Den}, isNode G h3 k z E → isNode G (xup h3 y (k_Join, [.ref a, .ref b, .int 2])) k z E := fun q => isNode.fr (F := []) (xfr.rf.up (Or.inr hn_y)) (fun _ z => by cases z) q
          refine ih (i + 1) p' tc' y _ _ ts' (dJoin 2 D B) _ _ (by omega) ((Q4.out.up (dc := 1) (dn := 3) hn_y).mono (by omega) (by omega)) ?_ hgj
          refine isNode.mono (k := (p' - p - 1) + 1) (Or.inr (Or.inr ⟨2, a, b, D, B, Or.inr rfl, xup_self, (ndf nd3).mono (by omega), (ndf ndb).mono (by omega), rfl⟩)) (by omega)
      · have htk : tkW t p1 (xtx 25) = skp t p1 := if_neg hwd
        rw [show jn t F (xtx 25) 2 (j + 1) (p1, tc1, ts1) D = ((tkW t p1 (xtx 25), tc1, ts1), some D) from jn_e hwd]
        refine x_if_eq (tgt := 106) d_Reader_readJoined_58 (by decide) (fun _ => ?_) (fun hn => absurd (by rw [decide_eq_false hwd]; rfl) hn)
        refine x_aload_n d_Reader_readJoined_106 rfl rfl ?_
        refine x_aret d_Reader_readJoined_107 rfl rfl ?_
        exact ⟨a, rfl, nd2.mono (by show _ ≤ tkW t p1 (xtx 25) - p; omega), ea2, va2, es2, ln2, m2, R2, f2, u2, w2, by show xgs (40 * (tkW t p1 (xtx 25) - p) - (sl - 2)) (2000 * (tkW t p1 (xtx 25) - p) - (sn - 170)) K m m2 c n c2 n2; omega⟩
  have hX := hF h c n d r ta na la ba ea va p tc m es ts ln (by omega) hR hp h1 h2 hm hc hn
  have hgg := hgF p tc ts hp h1 h2
  refine XM.of (by decide +kernel) (Nat.le_of_ble_eq_true rfl) ?_
  rcases hFe : F (p, tc, ts) with ⟨⟨p', tc', ts'⟩, oD⟩
  rw [hFe] at hX hgg
  cases oD with
  | none =>
    rw [show jnd t F (xtx 25) 2 (p, tc, ts) = ((p', tc', ts'), none) by unfold jnd; rw [hFe]]
    refine x_iload_n d_Reader_readJoined_0 rfl ?_
    refine x_iconst (v := 1) d_Reader_readJoined_1 (by decide) ?_
    refine x_icmp_ne (tgt := 9) d_Reader_readJoined_2 (by decide) (fun _ => ?_) (fun hn => absurd hn (by decide))
    refine x_iconst (v := 0) d_Reader_readJoined_9 (by decide) ?_
    refine x_istore_n (L' := [_, _, _, _, _, _]) d_Reader_readJoined_10 rfl rfl ?_
    refine x_iload_n d_Reader_readJoined_11 rfl ?_
    refine x_if_eq (tgt := 23) d_Reader_readJoined_12 (by decide) (fun _ => ?_) (fun hn => absurd rfl hn)
    refine x_aload_n d_Reader_readJoined_23 rfl rfl ?_
    refine x_callV (As := []) (k := k_Reader) rfl xcv_Reader_75_Reader (Or.inl hr) hX rfl rfl (Nat.le_of_ble_eq_true rfl) d_Reader_readJoined_24 ?_
    intro v h3 c3 n3 hv
    obtain ⟨rfl, q3⟩ : v = some .null ∧ pT G (40 * (p' - p) + 40) (2000 * (p' - p) + 2000) K r ta na la ba t as kas Ns ea va p' o tc' ts' m h c n h3 c3 n3 := hv
    refine x_astore_n (L' := [_, _, _, _, _, _]) d_Reader_readJoined_27 rfl rfl rfl ?_
    refine x_iconst (v := 0) d_Reader_readJoined_28 (by decide) ?_
    refine x_istore (L' := [_, _, _, _, _, _]) d_Reader_readJoined_29 rfl rfl ?_
    refine x_iload d_Reader_readJoined_31 rfl ?_
    refine x_sipush (v := 160) d_Reader_readJoined_33 (by decide) ?_
    refine x_icmp_ge (tgt := 106) d_Reader_readJoined_36 (by decide) (fun ht => absurd ht (by decide)) (fun _ => ?_)
    refine x_aload_n d_Reader_readJoined_39 rfl rfl ?_
    refine x_ifnullN (tgt := 106) d_Reader_readJoined_40 (by decide) ?_
    refine x_aload_n d_Reader_readJoined_106 rfl rfl ?_
    refine x_aret d_Reader_readJoined_107 rfl rfl ?_
    exact ⟨rfl, q3⟩
  | some D =>
    rw [show jnd t F (xtx 25) 2 (p, tc, ts) = jn t F (xtx 25) 2 160 (p', tc', ts') D by unfold jnd; rw [hFe]]
    refine x_iload_n d_Reader_readJoined_0 rfl ?_
    refine x_iconst (v := 1) d_Reader_readJoined_1 (by decide) ?_
    refine x_icmp_ne (tgt := 9) d_Reader_readJoined_2 (by decide) (fun _ => ?_) (fun hn => absurd hn (by decide))
    refine x_iconst (v := 0) d_Reader_readJoined_9 (by decide) ?_
    refine x_istore_n (L' := [_, _, _, _, _, _]) d_Reader_readJoined_10 rfl rfl ?_
    refine x_iload_n d_Reader_readJoined_11 rfl ?_
    refine x_if_eq (tgt := 23) d_Reader_readJoined_12 (by decide) (fun _ => ?_) (fun hn => absurd rfl hn)
    refine x_aload_n d_Reader_readJoined_23 rfl rfl ?_
    refine x_callV (As := []) (k := k_Reader) rfl xcv_Reader_75_Reader (Or.inl hr) hX rfl rfl (Nat.le_of_ble_eq_true rfl) d_Reader_readJoined_24 ?_
    intro v h3 c3 n3 hv
    obtain ⟨a, rfl, nd, q3⟩ : ∃ a, v = some (.ref a) ∧ isNode G h3 (p' - p) a D ∧ pT G (40 * (p' - p) - sl) (2000 * (p' - p) - sn) K r ta na la ba t as kas Ns ea va p' o tc' ts' m h c n h3 c3 n3 := hv
    refine x_astore_n (L' := [_, _, _, _, _, _]) d_Reader_readJoined_27 rfl rfl rfl ?_
    refine x_iconst (v := 0) d_Reader_readJoined_28 (by decide) ?_
    refine x_istore (L' := [_, _, _, _, _, _]) d_Reader_readJoined_29 rfl rfl ?_
    refine lp 160 0 p' tc' a c3 n3 ts' D h3 _ rfl q3 nd ⟨hgg.1, hgg.2.1, hgg.2.2.1, hgg.2.2.2.1, fun D' z => ?_⟩
    cases z
    obtain ⟨y1, y2⟩ := hgg.2.2.2.2 D rfl
    refine ⟨y1, Nat.le_trans ?_ y2⟩
    by_cases hb : D.1 < 2
    · rw [if_pos hb, if_pos (by omega)]; exact Nat.le_refl _
    · rw [if_neg hb]; exact Nat.le_add_right _ _
end RE3
end
section
section
theorem d_Reader_readJoined_48 : decode M_Reader_readJoined.2.1 48 = .ok (.ldc 79, 2) := by decide +kernel
theorem d_Reader_readJoined_50 : decode M_Reader_readJoined.2.1 50 = .ok (.goto 5, 3) := by decide +kernel
theorem d_Reader_readJoined_65 : decode M_Reader_readJoined.2.1 65 = .ok (.aload_n 0, 1) := by decide +kernel
theorem d_Reader_readJoined_66 : decode M_Reader_readJoined.2.1 66 = .ok (.iconst 2, 1) := by decide +kernel
theorem d_Reader_readJoined_67 : decode M_Reader_readJoined.2.1 67 = .ok (.invokevirtual 45, 3) := by decide +kernel
theorem d_Reader_readJoined_70 : decode M_Reader_readJoined.2.1 70 = .ok (.goto 7, 3) := by decide +kernel
theorem d_Reader_readJoined_5 : decode M_Reader_readJoined.2.1 5 = .ok (.iconst 1, 1) := by decide +kernel
theorem d_Reader_readJoined_6 : decode M_Reader_readJoined.2.1 6 = .ok (.goto 4, 3) := by decide +kernel
theorem d_Reader_readJoined_15 : decode M_Reader_readJoined.2.1 15 = .ok (.aload_n 0, 1) := by decide +kernel
theorem d_Reader_readJoined_16 : decode M_Reader_readJoined.2.1 16 = .ok (.iconst 2, 1) := by decide +kernel
theorem d_Reader_readJoined_17 : decode M_Reader_readJoined.2.1 17 = .ok (.invokevirtual 45, 3) := by decide +kernel
theorem d_Reader_readJoined_20 : decode M_Reader_readJoined.2.1 20 = .ok (.goto 7, 3) := by decide +kernel
end
section RE4
variable {l : Launch} {G : XG} {h : XH} {c n d : Nat}
theorem c_joinOr (hG : xGk G) {K dd o sl sn : Nat} {t as kas : List Nat} {Ns : List NmT} {F : RS → RO} (hl : t.length ≤ 160) (hK : K < 2 ^ 16) (hsl : 4 ≤ sl ∧ sl ≤ 30) (hsn : 200 ≤ sn ∧ sn ≤ 1500) (hgF : gF t (1 + 1) F) (hF : CRd l G K t as kas Ns M_Reader_readJoined [.int 2] dd o sl sn F) (hdd : 6 ≤ dd) : CRd l G K t as kas Ns M_Reader_readJoined [.int 1] (dd + 1) o (sl - 2) (sn - 170) (jnd t F (xtx 24) 1) := by
  intro h c n d r ta na la ba ea va p tc m es ts ln hd hR hp h1 h2 hm hc hn
  obtain ⟨d, rfl⟩ : ∃ q, d = q + 1 := ⟨d - 1, by omega⟩
  obtain ⟨hr, -⟩ := id hR
  have lp : ∀ (j i p1 tc1 a c1 n1 : Nat) (ts1 : List TsT) (D : Den) (h1 : XH) (e5 : Option Value), i + j = 160 → pT G (40 * (p1 - p) - sl) (2000 * (p1 - p) - sn) K r ta na la ba t as kas Ns ea va p1 o tc1 ts1 m h c n h1 c1 n1 → isNode G h1 (p1 - p) a D → gR t 1 p ((p1, tc1, ts1), some D) →
      XW l G M_Reader_readJoined (d + 1) 31 [some (.ref r), some (.int 1), some (.int (bI true)), some (.ref a), some (.int (nI i)), e5] [] h1 c1 n1 (pN G (sl - 2) (sn - 170) K r ta na la ba t as kas Ns ea va p o m h c n (jn t F (xtx 24) 1 j (p1, tc1, ts1) D)) := by
    intro j
    induction j with
    | zero =>
      intro i p1 tc1 a c1 n1 ts1 D h1 e5 hi q1 nd hg
      refine x_iload d_Reader_readJoined_31 rfl ?_
      refine x_sipush (v := 160) d_Reader_readJoined_33 (by decide) ?_
      refine x_icmp_ge (tgt := 106) d_Reader_readJoined_36 (by decide) (fun _ => ?_) (fun hn => absurd (nI_le (a := 160) (by omega) (by omega)) hn)
      refine x_aload_n d_Reader_readJoined_106 rfl rfl ?_
      refine x_aret d_Reader_readJoined_107 rfl rfl ?_
      exact ⟨a, rfl, nd, q1.mono (by show _ ≤ 40 * (p1 - p) - (sl - 2); omega) (by show _ ≤ 2000 * (p1 - p) - (sn - 170); omega)⟩
    | succ j ih =>
      intro i p1 tc1 a c1 n1 ts1 D h1 e5 hi q1 nd hg
      obtain ⟨g1, g2, g3, g4, g5⟩ := id hg
      have g6 := (g5 D rfl).1
      have g1 : p ≤ p1 := g1
      have g2 : p1 ≤ t.length := g2
      have g3 : ts1.length ≤ tc1 := g3
      have g4 : tc1 ≤ 40 := g4
      have g6 : p < p1 := g6
      obtain ⟨ea1, va1, es1, ln1, m1, R1, f1, u1, w1, k1⟩ := q1
      obtain ⟨hr1, hS1, hNs1, hLi1, hT1, hB1⟩ := id R1
      have hk1 : p1 ≤ skp t p1 := scn_ge
      have hk2 : tkW t p1 (xtx 24) ≤ t.length := tkW_le g2
      have hgj := jn_g (Or.inl rfl) (w := xtx 24) (by decide) hgF p 1 (p1, tc1, ts1) D hg
      refine x_iload d_Reader_readJoined_31 rfl ?_
      refine x_sipush (v := 160) d_Reader_readJoined_33 (by decide) ?_
      refine x_icmp_ge (tgt := 106) d_Reader_readJoined_36 (by decide) (fun ht => absurd ht (nI_ge (b := 160) (by omega) (by omega))) (fun _ => ?_)
      refine x_aload_n d_Reader_readJoined_39 rfl rfl ?_
      refine x_ifnull d_Reader_readJoined_40 ?_
      refine x_aload_n d_Reader_readJoined_43 rfl rfl ?_
      refine x_iload_n d_Reader_readJoined_44 rfl ?_
      refine x_if_eq (tgt := 53) d_Reader_readJoined_45 (by decide) (fun ht => absurd ht (by decide)) (fun _ => ?_)
      refine x_ldcS (i := 24) (tx := "or") (by decide +kernel) d_Reader_readJoined_48 ?_
      refine x_goto (tgt := 55) d_Reader_readJoined_50 (by decide) ?_
      refine x_callV (As := [_]) (k := k_Reader) rfl xcv_Reader_83_Reader (Or.inl hr1) (c_takesWord hG (by omega) hr1 hS1 (by omega) g2 (hG.str (by decide)) (by decide) (by omega) (by omega)) rfl rfl (Nat.le_of_ble_eq_true rfl) d_Reader_readJoined_55 ?_
      rintro v h2' c2 n2 ⟨rfl, r2, f2, k2, k2'⟩
      obtain ⟨ea2, va2, es2, ln2, m2, R2, f2', u2, w2, k2''⟩ := pT.tr R1 f1 u1 w1 k1 (pT.ofR R1 (pR.ofW (K := K) (C := 2) (N := t.length + 4) (c := c1) (n := n1) hr1 hB1 k1.2.1 r2 f2 k2 (by omega)))
      have nd2 : isNode G h2' (p1 - p) a D := isNode.fr f2 (xno1 hr1 (by decide)) nd
      clear f2 k2 k2'
      have f2 := f2'
      have k2 := k2''
      clear f2' k2''
      obtain ⟨hr2, hS2, hNs2, hLi2, hT2, hB2⟩ := id R2
      by_cases hwd : wrd t (skp t p1) = xtx 24
      · have htk : tkW t p1 (xtx 24) = skp t p1 + (xtx 24).length := if_pos hwd
        have hwl : 2 ≤ (xtx 24).length := by decide
        have hgg := hgF (tkW t p1 (xtx 24)) tc1 ts1 hk2 g3 g4
        have hX := hF h2' c2 n2 d r ta na la ba ea2 va2 (tkW t p1 (xtx 24)) tc1 m2 es2 ts1 ln2 (by omega) R2 hk2 g3 g4 k2.2.1 (by omega) (by omega)
        rcases hFe : F (tkW t p1 (xtx 24), tc1, ts1) with ⟨⟨p', tc', ts'⟩, oD⟩
        rw [hFe] at hX hgg
        have hgg1 : tkW t p1 (xtx 24) ≤ p' := hgg.1
        have hgg2 : p' ≤ t.length := hgg.2.1
        cases oD with
        | none =>
          rw [show jn t F (xtx 24) 1 (j + 1) (p1, tc1, ts1) D = ((p', tc', ts'), none) from jn_n hwd hFe]
          refine x_if_eq (tgt := 106) d_Reader_readJoined_58 (by decide) (fun ht => absurd ht (by rw [decide_eq_true hwd]; decide)) (fun _ => ?_)
          refine x_iload_n d_Reader_readJoined_61 rfl ?_
          refine x_if_eq (tgt := 73) d_Reader_readJoined_62 (by decide) (fun ht => absurd ht (by decide)) (fun _ => ?_)
          refine x_aload_n d_Reader_readJoined_65 rfl rfl ?_
          refine x_iconst (v := 2) d_Reader_readJoined_66 (by decide) ?_
          refine x_callV (As := [_]) (k := k_Reader) rfl xcv_Reader_45_Reader (Or.inl hr2) hX rfl rfl (Nat.le_of_ble_eq_true rfl) d_Reader_readJoined_67 ?_
          intro v h3 c3 n3 hv
          obtain ⟨rfl, q3⟩ : v = some .null ∧ pT G (40 * (p' - tkW t p1 (xtx 24)) + 40) (2000 * (p' - tkW t p1 (xtx 24)) + 2000) K r ta na la ba t as kas Ns ea2 va2 p' o tc' ts' m2 h2' c2 n2 h3 c3 n3 := hv
          obtain ⟨ea4, va4, es4, ln4, m4, R4, f4, u4, w4, k4⟩ := pT.tr R2 f2 u2 w2 k2 q3
          clear q3
          have q5 : pT G (40 * (p' - p) + 40) (2000 * (p' - p) + 2000) K r ta na la ba t as kas Ns ea va p' o tc' ts' m h c n h3 c3 n3 := ⟨ea4, va4, es4, ln4, m4, R4, f4, u4, w4, by omega⟩
          have Q5 := Hid.in q5
          clear q5
          refine x_goto (tgt := 77) d_Reader_readJoined_70 (by decide) ?_
          refine x_astore (L' := [_, _, _, _, _, _]) d_Reader_readJoined_77 rfl rfl rfl ?_
          refine x_aload d_Reader_readJoined_79 rfl rfl ?_
          refine x_ifnonnullN d_Reader_readJoined_81 ?_
          refine x_null d_Reader_readJoined_84 ?_
          refine x_goto (tgt := 99) d_Reader_readJoined_85 (by decide) ?_
          refine x_astore_n (L' := [_, _, _, _, _, _]) d_Reader_readJoined_99 rfl rfl rfl ?_
          refine x_iinc (v := nI (i + 1)) (L' := [_, _, _, _, _, _]) d_Reader_readJoined_100 rfl (by exact xw_iinc1) rfl rfl ?_
          refine x_goto (tgt := 31) d_Reader_readJoined_103 (by decide) ?_
          by_cases hj : i + 1 < 160
          · refine x_iload d_Reader_readJoined_31 rfl ?_
            refine x_sipush (v := 160) d_Reader_readJoined_33 (by decide) ?_
            refine x_icmp_ge (tgt := 106) d_Reader_readJoined_36 (by decide) (fun ht => absurd ht (nI_ge (b := 160) (by omega) (by omega))) (fun _ => ?_)
            refine x_aload_n d_Reader_readJoined_39 rfl rfl ?_
            refine x_ifnullN (tgt := 106) d_Reader_readJoined_40 (by decide) ?_
            refine x_aload_n d_Reader_readJoined_106 rfl rfl ?_
            refine x_aret d_Reader_readJoined_107 rfl rfl ?_
            exact ⟨rfl, Q5.out⟩
          · refine x_iload d_Reader_readJoined_31 rfl ?_
            refine x_sipush (v := 160) d_Reader_readJoined_33 (by decide) ?_
            refine x_icmp_ge (tgt := 106) d_Reader_readJoined_36 (by decide) (fun _ => ?_) (fun hn => absurd (nI_le (a := 160) (by omega) (by omega)) hn)
            refine x_aload_n d_Reader_readJoined_106 rfl rfl ?_
            refine x_aret d_Reader_readJoined_107 rfl rfl ?_
            exact ⟨rfl, Q5.out⟩
        | some B =>
          have hgg6 : tkW t p1 (xtx 24) < p' := (hgg.2.2.2.2 B rfl).1
          rw [show jn t F (xtx 24) 1 (j + 1) (p1, tc1, ts1) D = jn t F (xtx 24) 1 j (p', tc', ts') (dJoin 1 D B) from jn_s hwd hFe]
          rw [show jn t F (xtx 24) 1 1 (p1, tc1, ts1) D = ((p', tc', ts'), some (dJoin 1 D B)) from jn_s (j := 0) hwd hFe] at hgj
          refine x_wf fun hwf2 => ?_
          refine x_if_eq (tgt := 106) d_Reader_readJoined_58 (by decide) (fun ht => absurd ht (by rw [decide_eq_true hwd]; decide)) (fun _ => ?_)
          refine x_iload_n d_Reader_readJoined_61 rfl ?_
          refine x_if_eq (tgt := 73) d_Reader_readJoined_62 (by decide) (fun ht => absurd ht (by decide)) (fun _ => ?_)
          refine x_aload_n d_Reader_readJoined_65 rfl rfl ?_
          refine x_iconst (v := 2) d_Reader_readJoined_66 (by decide) ?_
          refine x_callV (As := [_]) (k := k_Reader) rfl xcv_Reader_45_Reader (Or.inl hr2) hX rfl rfl (Nat.le_of_ble_eq_true rfl) d_Reader_readJoined_67 ?_
          intro v h3 c3 n3 hv
          obtain ⟨b, rfl, ndb, q3⟩ : ∃ b, v = some (.ref b) ∧ isNode G h3 (p' - tkW t p1 (xtx 24)) b B ∧ pT G (40 * (p' - tkW t p1 (xtx 24)) - sl) (2000 * (p' - tkW t p1 (xtx 24)) - sn) K r ta na la ba t as kas Ns ea2 va2 p' o tc' ts' m2 h2' c2 n2 h3 c3 n3 := hv
          have f3 : xfr h2' h3 [r, la, ea2, ba, va2] := by
            obtain ⟨_, _, _, _, _, _, y, _⟩ := q3
            exact y
          have hno : xno h2' [r, la, ea2, ba, va2] kNd := (xno1 hr2 (by decide)).ap ((hLi2.kn hG hwf2 (by decide) (by decide)).ap (hB2.k1 (by decide) (by decide)))
          have nd3 : isNode G h3 (p1 - p) a D := isNode.fr f3 hno nd2
          have q4 := pT.tr R2 f2 u2 w2 k2 q3
          clear q3
          have Q4 := Hid.in q4
          obtain ⟨ea4, va4, es4, ln4, m4, R4, f4, u4, w4, k4⟩ := q4
          refine x_goto (tgt := 77) d_Reader_readJoined_70 (by decide) ?_
          refine x_astore (L' := [_, _, _, _, _, _]) d_Reader_readJoined_77 rfl rfl rfl ?_
          refine x_aload d_Reader_readJoined_79 rfl rfl ?_
          refine x_ifnonnull (tgt := 88) d_Reader_readJoined_81 (by decide) ?_
          refine x_new xnw_Reader_87 (by omega) (by omega) d_Reader_readJoined_88 (fun y hn_y hk_y => ?_)
          refine x_dup d_Reader_readJoined_91 rfl ?_
          refine x_iload_n d_Reader_readJoined_92 rfl ?_
          refine x_aload_n d_Reader_readJoined_93 rfl rfl ?_
          refine x_aload d_Reader_readJoined_94 rfl rfl ?_
          refine x_callI (As := [_, _, _]) xci_Reader_89 (c_Join_init (by omega) xup_self) rfl rfl (Nat.le_of_ble_eq_true rfl) d_Reader_readJoined_96 ?_
          rintro v h5 c5 n5 ⟨rfl, rfl, rfl, rfl⟩
          refine x_astore_n (L' := [_, _, _, _, _, _]) d_Reader_readJoined_99 rfl rfl rfl ?_
          refine x_iinc (v := nI (i + 1)) (L' := [_, _, _, _, _, _]) d_Reader_readJoined_100 rfl (by exact xw_iinc1) rfl rfl ?_
          refine x_goto (tgt := 31) d_Reader_readJoined_103 (by decide) ?_
          refine x_hp (h' := xup h3 y (k_Join, [.ref a, .ref b, .int 1])) (by rw [xup_up]) ?_
          have ndf : ∀ {k z : Nat} {E : Den}, isNode G h3 k z E → isNode G (xup h3 y (k_Join, [.ref a, .ref b, .int 1])) k z E := fun q => isNode.fr (F := []) (xfr.rf.up (Or.inr hn_y)) (fun _ z => by cases z) q
          refine ih (i + 1) p' tc' y _ _ ts' (dJoin 1 D B) _ _ (by omega) ((Q4.out.up (dc := 1) (dn := 3) hn_y).mono (by omega) (by omega)) ?_ hgj
          refine isNode.mono (k := (p' - p - 1) + 1) (Or.inr (Or.inr ⟨1, a, b, D, B, Or.inl rfl, xup_self, (ndf nd3).mono (by omega), (ndf ndb).mono (by omega), rfl⟩)) (by omega)
      · have htk : tkW t p1 (xtx 24) = skp t p1 := if_neg hwd
        rw [show jn t F (xtx 24) 1 (j + 1) (p1, tc1, ts1) D = ((tkW t p1 (xtx 24), tc1, ts1), some D) from jn_e hwd]
        refine x_if_eq (tgt := 106) d_Reader_readJoined_58 (by decide) (fun _ => ?_) (fun hn => absurd (by rw [decide_eq_false hwd]; rfl) hn)
        refine x_aload_n d_Reader_readJoined_106 rfl rfl ?_
        refine x_aret d_Reader_readJoined_107 rfl rfl ?_
        exact ⟨a, rfl, nd2.mono (by show _ ≤ tkW t p1 (xtx 24) - p; omega), ea2, va2, es2, ln2, m2, R2, f2, u2, w2, by show xgs (40 * (tkW t p1 (xtx 24) - p) - (sl - 2)) (2000 * (tkW t p1 (xtx 24) - p) - (sn - 170)) K m m2 c n c2 n2; omega⟩
  have hX := hF h c n d r ta na la ba ea va p tc m es ts ln (by omega) hR hp h1 h2 hm hc hn
  have hgg := hgF p tc ts hp h1 h2
  refine XM.of (by decide +kernel) (Nat.le_of_ble_eq_true rfl) ?_
  rcases hFe : F (p, tc, ts) with ⟨⟨p', tc', ts'⟩, oD⟩
  rw [hFe] at hX hgg
  cases oD with
  | none =>
    rw [show jnd t F (xtx 24) 1 (p, tc, ts) = ((p', tc', ts'), none) by unfold jnd; rw [hFe]]
    refine x_iload_n d_Reader_readJoined_0 rfl ?_
    refine x_iconst (v := 1) d_Reader_readJoined_1 (by decide) ?_
    refine x_icmp_ne (tgt := 9) d_Reader_readJoined_2 (by decide) (fun ht => absurd rfl ht) (fun _ => ?_)
    refine x_iconst (v := 1) d_Reader_readJoined_5 (by decide) ?_
    refine x_goto (tgt := 10) d_Reader_readJoined_6 (by decide) ?_
    refine x_istore_n (L' := [_, _, _, _, _, _]) d_Reader_readJoined_10 rfl rfl ?_
    refine x_iload_n d_Reader_readJoined_11 rfl ?_
    refine x_if_eq (tgt := 23) d_Reader_readJoined_12 (by decide) (fun ht => absurd ht (by decide)) (fun _ => ?_)
    refine x_aload_n d_Reader_readJoined_15 rfl rfl ?_
    refine x_iconst (v := 2) d_Reader_readJoined_16 (by decide) ?_
    refine x_callV (As := [_]) (k := k_Reader) rfl xcv_Reader_45_Reader (Or.inl hr) hX rfl rfl (Nat.le_of_ble_eq_true rfl) d_Reader_readJoined_17 ?_
    intro v h3 c3 n3 hv
    obtain ⟨rfl, q3⟩ : v = some .null ∧ pT G (40 * (p' - p) + 40) (2000 * (p' - p) + 2000) K r ta na la ba t as kas Ns ea va p' o tc' ts' m h c n h3 c3 n3 := hv
    refine x_goto (tgt := 27) d_Reader_readJoined_20 (by decide) ?_
    refine x_astore_n (L' := [_, _, _, _, _, _]) d_Reader_readJoined_27 rfl rfl rfl ?_
    refine x_iconst (v := 0) d_Reader_readJoined_28 (by decide) ?_
    refine x_istore (L' := [_, _, _, _, _, _]) d_Reader_readJoined_29 rfl rfl ?_
    refine x_iload d_Reader_readJoined_31 rfl ?_
    refine x_sipush (v := 160) d_Reader_readJoined_33 (by decide) ?_
    refine x_icmp_ge (tgt := 106) d_Reader_readJoined_36 (by decide) (fun ht => absurd ht (by decide)) (fun _ => ?_)
    refine x_aload_n d_Reader_readJoined_39 rfl rfl ?_
    refine x_ifnullN (tgt := 106) d_Reader_readJoined_40 (by decide) ?_
    refine x_aload_n d_Reader_readJoined_106 rfl rfl ?_
    refine x_aret d_Reader_readJoined_107 rfl rfl ?_
    exact ⟨rfl, q3⟩
  | some D =>
    rw [show jnd t F (xtx 24) 1 (p, tc, ts) = jn t F (xtx 24) 1 160 (p', tc', ts') D by unfold jnd; rw [hFe]]
    refine x_iload_n d_Reader_readJoined_0 rfl ?_
    refine x_iconst (v := 1) d_Reader_readJoined_1 (by decide) ?_
    refine x_icmp_ne (tgt := 9) d_Reader_readJoined_2 (by decide) (fun ht => absurd rfl ht) (fun _ => ?_)
    refine x_iconst (v := 1) d_Reader_readJoined_5 (by decide) ?_
    refine x_goto (tgt := 10) d_Reader_readJoined_6 (by decide) ?_
    refine x_istore_n (L' := [_, _, _, _, _, _]) d_Reader_readJoined_10 rfl rfl ?_
    refine x_iload_n d_Reader_readJoined_11 rfl ?_
    refine x_if_eq (tgt := 23) d_Reader_readJoined_12 (by decide) (fun ht => absurd ht (by decide)) (fun _ => ?_)
    refine x_aload_n d_Reader_readJoined_15 rfl rfl ?_
    refine x_iconst (v := 2) d_Reader_readJoined_16 (by decide) ?_
    refine x_callV (As := [_]) (k := k_Reader) rfl xcv_Reader_45_Reader (Or.inl hr) hX rfl rfl (Nat.le_of_ble_eq_true rfl) d_Reader_readJoined_17 ?_
    intro v h3 c3 n3 hv
    obtain ⟨a, rfl, nd, q3⟩ : ∃ a, v = some (.ref a) ∧ isNode G h3 (p' - p) a D ∧ pT G (40 * (p' - p) - sl) (2000 * (p' - p) - sn) K r ta na la ba t as kas Ns ea va p' o tc' ts' m h c n h3 c3 n3 := hv
    refine x_goto (tgt := 27) d_Reader_readJoined_20 (by decide) ?_
    refine x_astore_n (L' := [_, _, _, _, _, _]) d_Reader_readJoined_27 rfl rfl rfl ?_
    refine x_iconst (v := 0) d_Reader_readJoined_28 (by decide) ?_
    refine x_istore (L' := [_, _, _, _, _, _]) d_Reader_readJoined_29 rfl rfl ?_
    refine lp 160 0 p' tc' a c3 n3 ts' D h3 _ rfl q3 nd ⟨hgg.1, hgg.2.1, hgg.2.2.1, hgg.2.2.2.1, fun D' z => ?_⟩
    cases z
    obtain ⟨y1, y2⟩ := hgg.2.2.2.2 D rfl
    refine ⟨y1, Nat.le_trans ?_ y2⟩
    by_cases hb : D.1 < 1
    · rw [if_pos hb, if_pos (by omega)]; exact Nat.le_refl _
    · rw [if_neg hb]; exact Nat.le_add_right _ _
end RE4
end
