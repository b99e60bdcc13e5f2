section
abbrev y_Arrays_checkLength : MethodName := ⟨"java/util/Arrays", "checkLength", "(II)V"⟩
abbrev M_Arrays_checkLength : XMt := (y_Arrays_checkLength, prog_34_method_131_code, 2, none)
theorem d_Arrays_checkLength_0 : decode M_Arrays_checkLength.2.1 0 = .ok (.iload_n 1, 1) := by decide +kernel
theorem d_Arrays_checkLength_1 : decode M_Arrays_checkLength.2.1 1 = .ok (.iload_n 0, 1) := by decide +kernel
theorem d_Arrays_checkLength_2 : decode M_Arrays_checkLength.2.1 2 = .ok (.if_icmp .ge 35, 3) := by decide +kernel
theorem d_Arrays_checkLength_37 : decode M_Arrays_checkLength.2.1 37 = .ok (.return_, 1) := by decide +kernel
abbrev y_Arrays_copyOfRangeByte : MethodName := ⟨"java/util/Arrays", "copyOfRangeByte", "([BII)[B"⟩
abbrev M_Arrays_copyOfRangeByte : XMt := (y_Arrays_copyOfRangeByte, prog_34_method_133_code, 5, (some (.array .byte)))
theorem d_Arrays_copyOfRangeByte_0 : decode M_Arrays_copyOfRangeByte.2.1 0 = .ok (.iload_n 1, 1) := by decide +kernel
theorem d_Arrays_copyOfRangeByte_1 : decode M_Arrays_copyOfRangeByte.2.1 1 = .ok (.iload_n 2, 1) := by decide +kernel
theorem d_Arrays_copyOfRangeByte_2 : decode M_Arrays_copyOfRangeByte.2.1 2 = .ok (.invokestatic 343, 3) := by decide +kernel
theorem xw_489 : (Jvm.Cond.code ({ cls := "java/util/Arrays", name := "checkLength", desc := "(II)V" } : Jvm.MethodName) prog_34_method_131_code (2 : Nat) (Option.none : Option Jvm.ClassFile.FieldType)) ∈ xT := xT_at 489 (by decide +kernel) (by decide +kernel)
theorem xcb_Arrays_checkLength : xcb M_Arrays_checkLength 2 := ⟨xw_489, xw_11, by decide, by decide, by decide, by decide +kernel⟩
theorem xw_487 : (Jvm.Cond.methodLink "java/util/Arrays" (343 : Nat) ({ cls := "java/util/Arrays", name := "checkLength", desc := "(II)V" } : Jvm.MethodName)) ∈ xT := xT_at 487 (by decide +kernel) (by decide +kernel)
theorem xw_488 : (Jvm.Cond.static ({ cls := "java/util/Arrays", name := "checkLength", desc := "(II)V" } : Jvm.MethodName)) ∈ xT := xT_at 488 (by decide +kernel) (by decide +kernel)
theorem xcs_Arrays_343 : xCS "java/util/Arrays" 343 M_Arrays_checkLength 2 := ⟨xcb_Arrays_checkLength, xw_488, Or.inl xw_487⟩
theorem d_Arrays_copyOfRangeByte_5 : decode M_Arrays_copyOfRangeByte.2.1 5 = .ok (.iload_n 2, 1) := by decide +kernel
theorem d_Arrays_copyOfRangeByte_6 : decode M_Arrays_copyOfRangeByte.2.1 6 = .ok (.iload_n 1, 1) := by decide +kernel
theorem d_Arrays_copyOfRangeByte_7 : decode M_Arrays_copyOfRangeByte.2.1 7 = .ok (.isub, 1) := by decide +kernel
theorem d_Arrays_copyOfRangeByte_8 : decode M_Arrays_copyOfRangeByte.2.1 8 = .ok (.istore_n 3, 1) := by decide +kernel
theorem d_Arrays_copyOfRangeByte_9 : decode M_Arrays_copyOfRangeByte.2.1 9 = .ok (.iload_n 3, 1) := by decide +kernel
theorem d_Arrays_copyOfRangeByte_10 : decode M_Arrays_copyOfRangeByte.2.1 10 = .ok (.newarray .byte, 2) := by decide +kernel
theorem d_Arrays_copyOfRangeByte_12 : decode M_Arrays_copyOfRangeByte.2.1 12 = .ok (.astore 4, 2) := by decide +kernel
theorem d_Arrays_copyOfRangeByte_14 : decode M_Arrays_copyOfRangeByte.2.1 14 = .ok (.aload_n 0, 1) := by decide +kernel
theorem d_Arrays_copyOfRangeByte_15 : decode M_Arrays_copyOfRangeByte.2.1 15 = .ok (.iload_n 1, 1) := by decide +kernel
theorem d_Arrays_copyOfRangeByte_16 : decode M_Arrays_copyOfRangeByte.2.1 16 = .ok (.aload 4, 2) := by decide +kernel
theorem d_Arrays_copyOfRangeByte_18 : decode M_Arrays_copyOfRangeByte.2.1 18 = .ok (.iconst 0, 1) := by decide +kernel
theorem d_Arrays_copyOfRangeByte_19 : decode M_Arrays_copyOfRangeByte.2.1 19 = .ok (.aload_n 0, 1) := by decide +kernel
theorem d_Arrays_copyOfRangeByte_20 : decode M_Arrays_copyOfRangeByte.2.1 20 = .ok (.arraylength, 1) := by decide +kernel
theorem d_Arrays_copyOfRangeByte_21 : decode M_Arrays_copyOfRangeByte.2.1 21 = .ok (.iload_n 1, 1) := by decide +kernel
theorem d_Arrays_copyOfRangeByte_22 : decode M_Arrays_copyOfRangeByte.2.1 22 = .ok (.isub, 1) := by decide +kernel
theorem d_Arrays_copyOfRangeByte_23 : decode M_Arrays_copyOfRangeByte.2.1 23 = .ok (.iload_n 3, 1) := by decide +kernel
theorem d_Arrays_copyOfRangeByte_24 : decode M_Arrays_copyOfRangeByte.2.1 24 = .ok (.invokestatic 304, 3) := by decide +kernel
theorem d_Arrays_copyOfRangeByte_27 : decode M_Arrays_copyOfRangeByte.2.1 27 = .ok (.invokestatic 150, 3) := by decide +kernel
theorem d_Arrays_copyOfRangeByte_30 : decode M_Arrays_copyOfRangeByte.2.1 30 = .ok (.aload 4, 2) := by decide +kernel
theorem d_Arrays_copyOfRangeByte_32 : decode M_Arrays_copyOfRangeByte.2.1 32 = .ok (.areturn, 1) := by decide +kernel
abbrev y_Arrays_copyOfRange : MethodName := ⟨"java/util/Arrays", "copyOfRange", "([BII)[B"⟩
abbrev M_Arrays_copyOfRange : XMt := (y_Arrays_copyOfRange, prog_34_method_132_code, 3, (some (.array .byte)))
theorem d_Arrays_copyOfRange_0 : decode M_Arrays_copyOfRange.2.1 0 = .ok (.iload_n 1, 1) := by decide +kernel
theorem d_Arrays_copyOfRange_1 : decode M_Arrays_copyOfRange.2.1 1 = .ok (.ifCond .ne 9, 3) := by decide +kernel
theorem d_Arrays_copyOfRange_4 : decode M_Arrays_copyOfRange.2.1 4 = .ok (.iload_n 2, 1) := by decide +kernel
theorem d_Arrays_copyOfRange_5 : decode M_Arrays_copyOfRange.2.1 5 = .ok (.aload_n 0, 1) := by decide +kernel
theorem d_Arrays_copyOfRange_6 : decode M_Arrays_copyOfRange.2.1 6 = .ok (.arraylength, 1) := by decide +kernel
theorem d_Arrays_copyOfRange_7 : decode M_Arrays_copyOfRange.2.1 7 = .ok (.if_icmp .eq 10, 3) := by decide +kernel
theorem d_Arrays_copyOfRange_17 : decode M_Arrays_copyOfRange.2.1 17 = .ok (.aload_n 0, 1) := by decide +kernel
theorem d_Arrays_copyOfRange_18 : decode M_Arrays_copyOfRange.2.1 18 = .ok (.invokevirtual 310, 3) := by decide +kernel
theorem xw_208 : (Jvm.Cond.methodLink "java/util/Arrays" (310 : Nat) ({ cls := "[B", name := "clone", desc := "()Ljava/lang/Object;" } : Jvm.MethodName)) ∈ xT := xT_at 208 (by decide +kernel) (by decide +kernel)
theorem xw_209 : (Jvm.Cond.sameMethod "[B" "java/lang/Object" "clone" "()Ljava/lang/Object;") ∈ xT := xT_at 209 (by decide +kernel) (by decide +kernel)
theorem xw_210 : (Jvm.Cond.native ({ cls := "java/lang/Object", name := "clone", desc := "()Ljava/lang/Object;" } : Jvm.MethodName)) ∈ xT := xT_at 210 (by decide +kernel) (by decide +kernel)
theorem xw_211 : (Jvm.Cond.instanceMethod ({ cls := "java/lang/Object", name := "clone", desc := "()Ljava/lang/Object;" } : Jvm.MethodName)) ∈ xT := xT_at 211 (by decide +kernel) (by decide +kernel)
theorem xw_212 : (Jvm.Cond.selects "[B" ({ cls := "[B", name := "clone", desc := "()Ljava/lang/Object;" } : Jvm.MethodName) ({ cls := "java/lang/Object", name := "clone", desc := "()Ljava/lang/Object;" } : Jvm.MethodName)) ∈ xT := xT_at 212 (by decide +kernel) (by decide +kernel)
theorem xw_213 : (Jvm.Cond.castable "[B" "java/lang/Cloneable") ∈ xT := xT_at 213 (by decide +kernel) (by decide +kernel)
theorem d_Arrays_copyOfRange_21 : decode M_Arrays_copyOfRange.2.1 21 = .ok (.checkcast 311, 3) := by decide +kernel
theorem xw_214 : (Jvm.Cond.classLink "java/util/Arrays" (311 : Nat) "[B") ∈ xT := xT_at 214 (by decide +kernel) (by decide +kernel)
theorem d_Arrays_copyOfRange_24 : decode M_Arrays_copyOfRange.2.1 24 = .ok (.areturn, 1) := by decide +kernel
theorem d_Arrays_copyOfRange_10 : decode M_Arrays_copyOfRange.2.1 10 = .ok (.aload_n 0, 1) := by decide +kernel
theorem d_Arrays_copyOfRange_11 : decode M_Arrays_copyOfRange.2.1 11 = .ok (.iload_n 1, 1) := by decide +kernel
theorem d_Arrays_copyOfRange_12 : decode M_Arrays_copyOfRange.2.1 12 = .ok (.iload_n 2, 1) := by decide +kernel
theorem d_Arrays_copyOfRange_13 : decode M_Arrays_copyOfRange.2.1 13 = .ok (.invokestatic 339, 3) := by decide +kernel
theorem xw_486 : (Jvm.Cond.code ({ cls := "java/util/Arrays", name := "copyOfRangeByte", desc := "([BII)[B" } : Jvm.MethodName) prog_34_method_133_code (5 : Nat) (Option.some (Jvm.ClassFile.FieldType.array Jvm.ClassFile.FieldType.byte))) ∈ xT := xT_at 486 (by decide +kernel) (by decide +kernel)
theorem xcb_Arrays_copyOfRangeByte : xcb M_Arrays_copyOfRangeByte 3 := ⟨xw_486, xw_11, by decide, by decide, by decide, by decide +kernel⟩
theorem xw_484 : (Jvm.Cond.methodLink "java/util/Arrays" (339 : Nat) ({ cls := "java/util/Arrays", name := "copyOfRangeByte", desc := "([BII)[B" } : Jvm.MethodName)) ∈ xT := xT_at 484 (by decide +kernel) (by decide +kernel)
theorem xw_485 : (Jvm.Cond.static ({ cls := "java/util/Arrays", name := "copyOfRangeByte", desc := "([BII)[B" } : Jvm.MethodName)) ∈ xT := xT_at 485 (by decide +kernel) (by decide +kernel)
theorem xcs_Arrays_339 : xCS "java/util/Arrays" 339 M_Arrays_copyOfRangeByte 3 := ⟨xcb_Arrays_copyOfRangeByte, xw_485, Or.inl xw_484⟩
theorem d_Arrays_copyOfRange_16 : decode M_Arrays_copyOfRange.2.1 16 = .ok (.areturn, 1) := by decide +kernel
abbrev y_String_init_aBB : MethodName := ⟨"java/lang/String", "<init>", "([BB)V"⟩
abbrev M_String_init_aBB : XMt := (y_String_init_aBB, prog_25_method_151_code, 3, none)
theorem d_String_init_aBB_0 : decode M_String_init_aBB.2.1 0 = .ok (.aload_n 0, 1) := by decide +kernel
theorem d_String_init_aBB_1 : decode M_String_init_aBB.2.1 1 = .ok (.invokespecial 1, 3) := by decide +kernel
theorem xw_473 : (Jvm.Cond.methodLink "java/lang/String" (1 : Nat) ({ cls := "java/lang/Object", name := "<init>", desc := "()V" } : Jvm.MethodName)) ∈ xT := xT_at 473 (by decide +kernel) (by decide +kernel)
theorem xw_40 : (Jvm.Cond.instanceMethod ({ cls := "java/lang/Object", name := "<init>", desc := "()V" } : Jvm.MethodName)) ∈ xT := xT_at 40 (by decide +kernel) (by decide +kernel)
theorem xw_41 : (Jvm.Cond.code ({ cls := "java/lang/Object", name := "<init>", desc := "()V" } : Jvm.MethodName) object_method_1_code (1 : Nat) (Option.none : Option Jvm.ClassFile.FieldType)) ∈ xT := xT_at 41 (by decide +kernel) (by decide +kernel)
theorem d_String_init_aBB_4 : decode M_String_init_aBB.2.1 4 = .ok (.aload_n 0, 1) := by decide +kernel
theorem d_String_init_aBB_5 : decode M_String_init_aBB.2.1 5 = .ok (.aload_n 1, 1) := by decide +kernel
theorem d_String_init_aBB_6 : decode M_String_init_aBB.2.1 6 = .ok (.putfield 9, 3) := by decide +kernel
theorem xp_String_0 : xP k_String 0 true (.array .byte) := ⟨_, _, _, rfl, rfl, by decide +kernel⟩
theorem d_String_init_aBB_9 : decode M_String_init_aBB.2.1 9 = .ok (.aload_n 0, 1) := by decide +kernel
theorem d_String_init_aBB_10 : decode M_String_init_aBB.2.1 10 = .ok (.iload_n 2, 1) := by decide +kernel
theorem d_String_init_aBB_11 : decode M_String_init_aBB.2.1 11 = .ok (.putfield 15, 3) := by decide +kernel
theorem xp_String_1 : xP k_String 1 true .byte := ⟨_, _, _, rfl, rfl, by decide +kernel⟩
theorem d_String_init_aBB_14 : decode M_String_init_aBB.2.1 14 = .ok (.return_, 1) := by decide +kernel
abbrev y_SL1_newString : MethodName := ⟨"java/lang/StringLatin1", "newString", "([BII)Ljava/lang/String;"⟩
abbrev M_SL1_newString : XMt := (y_SL1_newString, prog_27_method_47_code, 3, (some (.object "java/lang/String")))
theorem d_SL1_newString_0 : decode M_SL1_newString.2.1 0 = .ok (.iload_n 2, 1) := by decide +kernel
theorem d_SL1_newString_1 : decode M_SL1_newString.2.1 1 = .ok (.ifCond .ne 6, 3) := by decide +kernel
theorem d_SL1_newString_4 : decode M_SL1_newString.2.1 4 = .ok (.ldc 151, 2) := by decide +kernel
theorem d_SL1_newString_6 : decode M_SL1_newString.2.1 6 = .ok (.areturn, 1) := by decide +kernel
theorem d_SL1_newString_7 : decode M_SL1_newString.2.1 7 = .ok (.new 1, 3) := by decide +kernel
theorem xw_912 : (Jvm.Cond.classLink "java/lang/StringLatin1" (1 : Nat) "java/lang/String") ∈ xT := xT_at 912 (by decide +kernel) (by decide +kernel)
theorem xw_466 : (Jvm.Cond.instantiable "java/lang/String" (4 : Nat)) ∈ xT := xT_at 466 (by decide +kernel) (by decide +kernel)
theorem xnw_SL1_1 : xNw "java/lang/StringLatin1" 1 k_String 4 [.null, .int 0, .int 0, .int 0] := ⟨_, _, _, rfl, rfl, by decide +kernel, xw_912, xw_466, xw_4⟩
theorem d_SL1_newString_10 : decode M_SL1_newString.2.1 10 = .ok (.dup, 1) := by decide +kernel
theorem d_SL1_newString_11 : decode M_SL1_newString.2.1 11 = .ok (.aload_n 0, 1) := by decide +kernel
theorem d_SL1_newString_12 : decode M_SL1_newString.2.1 12 = .ok (.iload_n 1, 1) := by decide +kernel
theorem d_SL1_newString_13 : decode M_SL1_newString.2.1 13 = .ok (.iload_n 1, 1) := by decide +kernel
theorem d_SL1_newString_14 : decode M_SL1_newString.2.1 14 = .ok (.iload_n 2, 1) := by decide +kernel
theorem d_SL1_newString_15 : decode M_SL1_newString.2.1 15 = .ok (.iadd, 1) := by decide +kernel
theorem d_SL1_newString_16 : decode M_SL1_newString.2.1 16 = .ok (.invokestatic 232, 3) := by decide +kernel
theorem xw_483 : (Jvm.Cond.code ({ cls := "java/util/Arrays", name := "copyOfRange", desc := "([BII)[B" } : Jvm.MethodName) prog_34_method_132_code (3 : Nat) (Option.some (Jvm.ClassFile.FieldType.array Jvm.ClassFile.FieldType.byte))) ∈ xT := xT_at 483 (by decide +kernel) (by decide +kernel)
theorem xcb_Arrays_copyOfRange : xcb M_Arrays_copyOfRange 3 := ⟨xw_483, xw_11, by decide, by decide, by decide, by decide +kernel⟩
theorem xw_913 : (Jvm.Cond.methodLink "java/lang/StringLatin1" (232 : Nat) ({ cls := "java/util/Arrays", name := "copyOfRange", desc := "([BII)[B" } : Jvm.MethodName)) ∈ xT := xT_at 913 (by decide +kernel) (by decide +kernel)
theorem xw_482 : (Jvm.Cond.static ({ cls := "java/util/Arrays", name := "copyOfRange", desc := "([BII)[B" } : Jvm.MethodName)) ∈ xT := xT_at 482 (by decide +kernel) (by decide +kernel)
theorem xcs_SL1_232 : xCS "java/lang/StringLatin1" 232 M_Arrays_copyOfRange 3 := ⟨xcb_Arrays_copyOfRange, xw_482, Or.inl xw_913⟩
theorem d_SL1_newString_19 : decode M_SL1_newString.2.1 19 = .ok (.iconst 0, 1) := by decide +kernel
theorem d_SL1_newString_20 : decode M_SL1_newString.2.1 20 = .ok (.invokespecial 112, 3) := by decide +kernel
theorem xw_916 : (Jvm.Cond.code ({ cls := "java/lang/String", name := "<init>", desc := "([BB)V" } : Jvm.MethodName) prog_25_method_151_code (3 : Nat) (Option.none : Option Jvm.ClassFile.FieldType)) ∈ xT := xT_at 916 (by decide +kernel) (by decide +kernel)
theorem xcb_String_init_aBB : xcb M_String_init_aBB 2 := ⟨xw_916, xw_4, by decide, by decide, by decide, by decide +kernel⟩
theorem xw_914 : (Jvm.Cond.methodLink "java/lang/StringLatin1" (112 : Nat) ({ cls := "java/lang/String", name := "<init>", desc := "([BB)V" } : Jvm.MethodName)) ∈ xT := xT_at 914 (by decide +kernel) (by decide +kernel)
theorem xw_915 : (Jvm.Cond.instanceMethod ({ cls := "java/lang/String", name := "<init>", desc := "([BB)V" } : Jvm.MethodName)) ∈ xT := xT_at 915 (by decide +kernel) (by decide +kernel)
theorem xci_SL1_112 : xCI "java/lang/StringLatin1" 112 M_String_init_aBB 2 := ⟨xcb_String_init_aBB, rfl, rfl, xw_915, Or.inl xw_914⟩
theorem d_SL1_newString_23 : decode M_SL1_newString.2.1 23 = .ok (.areturn, 1) := by decide +kernel
abbrev y_Preconditions_checkFromToIndex : MethodName := ⟨"jdk/internal/util/Preconditions", "checkFromToIndex", "(IIILjava/util/function/BiFunction;)I"⟩
abbrev M_Preconditions_checkFromToIndex : XMt := (y_Preconditions_checkFromToIndex, prog_41_method_12_code, 4, (some .int))
theorem d_Preconditions_checkFromToIndex_0 : decode M_Preconditions_checkFromToIndex.2.1 0 = .ok (.iload_n 0, 1) := by decide +kernel
theorem d_Preconditions_checkFromToIndex_1 : decode M_Preconditions_checkFromToIndex.2.1 1 = .ok (.ifCond .lt 13, 3) := by decide +kernel
theorem d_Preconditions_checkFromToIndex_4 : decode M_Preconditions_checkFromToIndex.2.1 4 = .ok (.iload_n 0, 1) := by decide +kernel
theorem d_Preconditions_checkFromToIndex_5 : decode M_Preconditions_checkFromToIndex.2.1 5 = .ok (.iload_n 1, 1) := by decide +kernel
theorem d_Preconditions_checkFromToIndex_6 : decode M_Preconditions_checkFromToIndex.2.1 6 = .ok (.if_icmp .gt 8, 3) := by decide +kernel
theorem d_Preconditions_checkFromToIndex_9 : decode M_Preconditions_checkFromToIndex.2.1 9 = .ok (.iload_n 1, 1) := by decide +kernel
theorem d_Preconditions_checkFromToIndex_10 : decode M_Preconditions_checkFromToIndex.2.1 10 = .ok (.iload_n 2, 1) := by decide +kernel
theorem d_Preconditions_checkFromToIndex_11 : decode M_Preconditions_checkFromToIndex.2.1 11 = .ok (.if_icmp .le 11, 3) := by decide +kernel
theorem d_Preconditions_checkFromToIndex_22 : decode M_Preconditions_checkFromToIndex.2.1 22 = .ok (.iload_n 0, 1) := by decide +kernel
theorem d_Preconditions_checkFromToIndex_23 : decode M_Preconditions_checkFromToIndex.2.1 23 = .ok (.ireturn, 1) := by decide +kernel
abbrev y_String_checkBoundsBeginEnd : MethodName := ⟨"java/lang/String", "checkBoundsBeginEnd", "(III)V"⟩
abbrev M_String_checkBoundsBeginEnd : XMt := (y_String_checkBoundsBeginEnd, prog_25_method_158_code, 3, none)
theorem d_String_checkBoundsBeginEnd_0 : decode M_String_checkBoundsBeginEnd.2.1 0 = .ok (.iload_n 0, 1) := by decide +kernel
theorem d_String_checkBoundsBeginEnd_1 : decode M_String_checkBoundsBeginEnd.2.1 1 = .ok (.iload_n 1, 1) := by decide +kernel
theorem d_String_checkBoundsBeginEnd_2 : decode M_String_checkBoundsBeginEnd.2.1 2 = .ok (.iload_n 2, 1) := by decide +kernel
theorem d_String_checkBoundsBeginEnd_3 : decode M_String_checkBoundsBeginEnd.2.1 3 = .ok (.getstatic 1053, 3) := by decide +kernel
theorem d_String_checkBoundsBeginEnd_6 : decode M_String_checkBoundsBeginEnd.2.1 6 = .ok (.invokestatic 1062, 3) := by decide +kernel
theorem xw_560 : (Jvm.Cond.code ({ cls := "jdk/internal/util/Preconditions", name := "checkFromToIndex", desc := "(IIILjava/util/function/BiFunction;)I" } : Jvm.MethodName) prog_41_method_12_code (4 : Nat) (Option.some Jvm.ClassFile.FieldType.int)) ∈ xT := xT_at 560 (by decide +kernel) (by decide +kernel)
theorem xcb_Preconditions_checkFromToIndex : xcb M_Preconditions_checkFromToIndex 4 := ⟨xw_560, xw_14, by decide, by decide, by decide, by decide +kernel⟩
theorem xw_558 : (Jvm.Cond.methodLink "java/lang/String" (1062 : Nat) ({ cls := "jdk/internal/util/Preconditions", name := "checkFromToIndex", desc := "(IIILjava/util/function/BiFunction;)I" } : Jvm.MethodName)) ∈ xT := xT_at 558 (by decide +kernel) (by decide +kernel)
theorem xw_559 : (Jvm.Cond.static ({ cls := "jdk/internal/util/Preconditions", name := "checkFromToIndex", desc := "(IIILjava/util/function/BiFunction;)I" } : Jvm.MethodName)) ∈ xT := xT_at 559 (by decide +kernel) (by decide +kernel)
theorem xcs_String_1062 : xCS "java/lang/String" 1062 M_Preconditions_checkFromToIndex 4 := ⟨xcb_Preconditions_checkFromToIndex, xw_559, Or.inl xw_558⟩
theorem d_String_checkBoundsBeginEnd_9 : decode M_String_checkBoundsBeginEnd.2.1 9 = .ok (.pop, 1) := by decide +kernel
theorem d_String_checkBoundsBeginEnd_10 : decode M_String_checkBoundsBeginEnd.2.1 10 = .ok (.return_, 1) := by decide +kernel
abbrev y_String_substring : MethodName := ⟨"java/lang/String", "substring", "(II)Ljava/lang/String;"⟩
abbrev M_String_substring : XMt := (y_String_substring, prog_25_method_92_code, 5, (some (.object "java/lang/String")))
theorem d_String_substring_0 : decode M_String_substring.2.1 0 = .ok (.aload_n 0, 1) := by decide +kernel
theorem d_String_substring_1 : decode M_String_substring.2.1 1 = .ok (.invokevirtual 505, 3) := by decide +kernel
theorem xw_424 : (Jvm.Cond.code ({ cls := "java/lang/String", name := "length", desc := "()I" } : Jvm.MethodName) prog_25_method_54_code (1 : Nat) (Option.some Jvm.ClassFile.FieldType.int)) ∈ xT := xT_at 424 (by decide +kernel) (by decide +kernel)
theorem xcb_String_length : xcb M_String_length 0 := ⟨xw_424, xw_4, by decide, by decide, by decide, by decide +kernel⟩
theorem xw_422 : (Jvm.Cond.instanceMethod ({ cls := "java/lang/String", name := "length", desc := "()I" } : Jvm.MethodName)) ∈ xT := xT_at 422 (by decide +kernel) (by decide +kernel)
theorem xw_767 : (Jvm.Cond.methodLink "java/lang/String" (505 : Nat) ({ cls := "java/lang/String", name := "length", desc := "()I" } : Jvm.MethodName)) ∈ xT := xT_at 767 (by decide +kernel) (by decide +kernel)
theorem xw_423 : (Jvm.Cond.selects "java/lang/String" ({ cls := "java/lang/String", name := "length", desc := "()I" } : Jvm.MethodName) ({ cls := "java/lang/String", name := "length", desc := "()I" } : Jvm.MethodName)) ∈ xT := xT_at 423 (by decide +kernel) (by decide +kernel)
theorem xcv_String_505_String : xCV "java/lang/String" 505 "java/lang/String" M_String_length 0 := ⟨xcb_String_length, xw_422, Or.inl ⟨xw_767, Or.inl xw_423⟩⟩
theorem d_String_substring_4 : decode M_String_substring.2.1 4 = .ok (.istore_n 3, 1) := by decide +kernel
theorem d_String_substring_5 : decode M_String_substring.2.1 5 = .ok (.iload_n 1, 1) := by decide +kernel
theorem d_String_substring_6 : decode M_String_substring.2.1 6 = .ok (.iload_n 2, 1) := by decide +kernel
theorem d_String_substring_7 : decode M_String_substring.2.1 7 = .ok (.iload_n 3, 1) := by decide +kernel
theorem d_String_substring_8 : decode M_String_substring.2.1 8 = .ok (.invokestatic 521, 3) := by decide +kernel
theorem xw_557 : (Jvm.Cond.code ({ cls := "java/lang/String", name := "checkBoundsBeginEnd", desc := "(III)V" } : Jvm.MethodName) prog_25_method_158_code (3 : Nat) (Option.none : Option Jvm.ClassFile.FieldType)) ∈ xT := xT_at 557 (by decide +kernel) (by decide +kernel)
theorem xcb_String_checkBoundsBeginEnd : xcb M_String_checkBoundsBeginEnd 3 := ⟨xw_557, xw_4, by decide, by decide, by decide, by decide +kernel⟩
theorem xw_907 : (Jvm.Cond.methodLink "java/lang/String" (521 : Nat) ({ cls := "java/lang/String", name := "checkBoundsBeginEnd", desc := "(III)V" } : Jvm.MethodName)) ∈ xT := xT_at 907 (by decide +kernel) (by decide +kernel)
theorem xw_556 : (Jvm.Cond.static ({ cls := "java/lang/String", name := "checkBoundsBeginEnd", desc := "(III)V" } : Jvm.MethodName)) ∈ xT := xT_at 556 (by decide +kernel) (by decide +kernel)
theorem xcs_String_521 : xCS "java/lang/String" 521 M_String_checkBoundsBeginEnd 3 := ⟨xcb_String_checkBoundsBeginEnd, xw_556, Or.inl xw_907⟩
theorem d_String_substring_22 : decode M_String_substring.2.1 22 = .ok (.iload_n 2, 1) := by decide +kernel
theorem d_String_substring_23 : decode M_String_substring.2.1 23 = .ok (.iload_n 1, 1) := by decide +kernel
theorem d_String_substring_24 : decode M_String_substring.2.1 24 = .ok (.isub, 1) := by decide +kernel
theorem d_String_substring_25 : decode M_String_substring.2.1 25 = .ok (.istore 4, 2) := by decide +kernel
theorem d_String_substring_27 : decode M_String_substring.2.1 27 = .ok (.aload_n 0, 1) := by decide +kernel
theorem d_String_substring_28 : decode M_String_substring.2.1 28 = .ok (.invokevirtual 492, 3) := by decide +kernel
theorem d_String_substring_31 : decode M_String_substring.2.1 31 = .ok (.ifCond .eq 16, 3) := by decide +kernel
theorem d_String_substring_34 : decode M_String_substring.2.1 34 = .ok (.aload_n 0, 1) := by decide +kernel
theorem d_String_substring_35 : decode M_String_substring.2.1 35 = .ok (.getfield 9, 3) := by decide +kernel
theorem d_String_substring_38 : decode M_String_substring.2.1 38 = .ok (.iload_n 1, 1) := by decide +kernel
theorem d_String_substring_39 : decode M_String_substring.2.1 39 = .ok (.iload 4, 2) := by decide +kernel
theorem d_String_substring_41 : decode M_String_substring.2.1 41 = .ok (.invokestatic 685, 3) := by decide +kernel
theorem xw_910 : (Jvm.Cond.code ({ cls := "java/lang/StringLatin1", name := "newString", desc := "([BII)Ljava/lang/String;" } : Jvm.MethodName) prog_27_method_47_code (3 : Nat) (Option.some (Jvm.ClassFile.FieldType.object "java/lang/String"))) ∈ xT := xT_at 910 (by decide +kernel) (by decide +kernel)
theorem xcb_SL1_newString : xcb M_SL1_newString 3 := ⟨xw_910, xw_13, by decide, by decide, by decide, by decide +kernel⟩
theorem xw_908 : (Jvm.Cond.methodLink "java/lang/String" (685 : Nat) ({ cls := "java/lang/StringLatin1", name := "newString", desc := "([BII)Ljava/lang/String;" } : Jvm.MethodName)) ∈ xT := xT_at 908 (by decide +kernel) (by decide +kernel)
theorem xw_909 : (Jvm.Cond.static ({ cls := "java/lang/StringLatin1", name := "newString", desc := "([BII)Ljava/lang/String;" } : Jvm.MethodName)) ∈ xT := xT_at 909 (by decide +kernel) (by decide +kernel)
theorem xcs_String_685 : xCS "java/lang/String" 685 M_SL1_newString 3 := ⟨xcb_SL1_newString, xw_909, Or.inl xw_908⟩
theorem d_String_substring_44 : decode M_String_substring.2.1 44 = .ok (.goto 13, 3) := by decide +kernel
theorem d_String_substring_57 : decode M_String_substring.2.1 57 = .ok (.areturn, 1) := by decide +kernel
theorem d_String_substring_11 : decode M_String_substring.2.1 11 = .ok (.iload_n 1, 1) := by decide +kernel
theorem d_String_substring_12 : decode M_String_substring.2.1 12 = .ok (.ifCond .ne 10, 3) := by decide +kernel
theorem d_String_substring_15 : decode M_String_substring.2.1 15 = .ok (.iload_n 2, 1) := by decide +kernel
theorem d_String_substring_16 : decode M_String_substring.2.1 16 = .ok (.iload_n 3, 1) := by decide +kernel
theorem d_String_substring_17 : decode M_String_substring.2.1 17 = .ok (.if_icmp .ne 5, 3) := by decide +kernel
theorem d_String_substring_20 : decode M_String_substring.2.1 20 = .ok (.aload_n 0, 1) := by decide +kernel
theorem d_String_substring_21 : decode M_String_substring.2.1 21 = .ok (.areturn, 1) := by decide +kernel
end
section ST3
variable {l : Launch} {G : XG} {h : XH} {c n d : Nat}
theorem c_checkLength {b e : Nat} (hbe : b ≤ e) (he : e < 2 ^ 31) : XM l G d M_Arrays_checkLength [.int (nI b), .int (nI e)] h c n (xVoid h c n) := by
  refine XM.of (by decide +kernel) (Nat.le_of_ble_eq_true rfl) ?_
  refine x_iload_n d_Arrays_checkLength_0 rfl ?_
  refine x_iload_n d_Arrays_checkLength_1 rfl ?_
  refine x_icmp_ge (tgt := 37) d_Arrays_checkLength_2 (by decide) (fun _ => ?_) (fun hn => absurd (nI_le hbe he) hn)
  refine x_vret d_Arrays_checkLength_37 rfl ?_
  exact ⟨rfl, rfl, rfl, rfl⟩
theorem xcopy_cut {vs : List Value} {b m : Nat} {z : Value} : xcopy vs (List.replicate m z) b 0 m = (vs.drop b).take m := by
  unfold xcopy
  simp
/-- a stretch of a byte array, as a String's bytes -/
theorem c_copyOfRangeByte (hd : 1 ≤ d) {k0 a b e : Nat} {vs : List Value} (hk0 : xk[k0]? = some (.inr .byte)) (ha : xr G h a k0 vs) (hf : ∀ v ∈ vs, fits .byte v = true) (hbe : b ≤ e) (he : e ≤ vs.length) (hl : vs.length < 2 ^ 20) (hc : c + 1 ≤ xCB) (hn : n + (e - b) ≤ xSB) : XM l G d M_Arrays_copyOfRangeByte [.ref a, .int (nI b), .int (nI e)] h c n (xMade k_asbyte ((vs.drop b).take (e - b)) h c n) := by
  obtain ⟨d, rfl⟩ : ∃ q, d = q + 1 := ⟨d - 1, by omega⟩
  refine XM.of (by decide +kernel) (Nat.le_of_ble_eq_true rfl) ?_
  refine x_iload_n d_Arrays_copyOfRangeByte_0 rfl ?_
  refine x_iload_n d_Arrays_copyOfRangeByte_1 rfl ?_
  refine x_callS (As := [_, _]) xcs_Arrays_343 (c_checkLength hbe (by omega)) rfl rfl (Nat.le_of_ble_eq_true rfl) d_Arrays_copyOfRangeByte_2 ?_
  rintro v h' c' n' ⟨rfl, rfl, rfl, rfl⟩
  refine x_iload_n d_Arrays_copyOfRangeByte_5 rfl ?_
  refine x_iload_n d_Arrays_copyOfRangeByte_6 rfl ?_
  refine x_isub d_Arrays_copyOfRangeByte_7 ?_
  refine x_top (w := .int (nI (e - b))) (by rw [pk_sub hbe]) ?_
  refine x_istore_n (L' := [_, _, _, _, _]) d_Arrays_copyOfRangeByte_8 rfl rfl ?_
  refine x_iload_n d_Arrays_copyOfRangeByte_9 rfl ?_
  refine x_newa (k := k_asbyte) rfl rfl (fun _ hz => by cases hz) xw_74 (nI_pos (by omega)) (nI_clamp (by omega)) (by show (e - b) * 1 ≤ _; omega) hc hn d_Arrays_copyOfRangeByte_10 (fun q hn_q hk_q => ?_)
  refine x_astore (L' := [_, _, _, _, _]) d_Arrays_copyOfRangeByte_12 rfl rfl rfl ?_
  refine x_aload_n d_Arrays_copyOfRangeByte_14 rfl rfl ?_
  refine x_iload_n d_Arrays_copyOfRangeByte_15 rfl ?_
  refine x_aload d_Arrays_copyOfRangeByte_16 rfl rfl ?_
  refine x_iconst (v := 0) d_Arrays_copyOfRangeByte_18 (by decide) ?_
  refine x_aload_n d_Arrays_copyOfRangeByte_19 rfl rfl ?_
  refine x_alen (k := k0) hk0 (xr_up ha hn_q) (v := nI vs.length) rfl d_Arrays_copyOfRangeByte_20 ?_
  refine x_iload_n d_Arrays_copyOfRangeByte_21 rfl ?_
  refine x_isub d_Arrays_copyOfRangeByte_22 ?_
  refine x_top (w := .int (nI (vs.length - b))) (by rw [pk_sub (by omega)]) ?_
  refine x_iload_n d_Arrays_copyOfRangeByte_23 rfl ?_
  refine x_mmin xw_215 xw_216 xw_10 xw_217 (Nat.le_of_ble_eq_true rfl) d_Arrays_copyOfRangeByte_24 ?_
  refine x_top (w := .int (nI (e - b))) (by rw [nI_min (by omega) (by omega), Nat.min_eq_right (by omega)]) ?_
  refine x_copyP (k0 := k0) (k := k_asbyte) hk0 rfl rfl xw_218 xw_220 xw_219 xw_12 (xr_up ha hn_q) xup_self (nI_pos (by omega)) (by decide) (nI_pos (by omega)) (by rw [nI_clamp (by omega), nI_clamp (by omega)]; omega) (by rw [nI_clamp (by omega)]; simp) hf (Nat.le_of_ble_eq_true rfl) d_Arrays_copyOfRangeByte_27 ?_
  refine x_hp (h' := xup h' q (k_asbyte, (vs.drop b).take (e - b))) (by rw [xup_up, nI_clamp (by omega), nI_clamp (by omega)]; exact congrArg (fun z => xup h' q (k_asbyte, z)) xcopy_cut) ?_
  refine x_aload d_Arrays_copyOfRangeByte_30 rfl rfl ?_
  refine x_aret d_Arrays_copyOfRangeByte_32 rfl rfl ?_
  exact ⟨q, rfl, hn_q, rfl, rfl, by simp; omega⟩
theorem c_copyOfRange (hd : 2 ≤ d) {k0 a b e : Nat} {vs : List Value} (hk0 : xk[k0]? = some (.inr .byte)) (ha : xr G h a k0 vs) (hf : ∀ v ∈ vs, fits .byte v = true) (hbe : b ≤ e) (he : e ≤ vs.length) (hl : vs.length < 2 ^ 20) (hc : c + 1 ≤ xCB) (hn : n + (e - b) ≤ xSB) (hcl : b = 0 → e = vs.length → h a = some (k0, vs)) : XM l G d M_Arrays_copyOfRange [.ref a, .int (nI b), .int (nI e)] h c n (xMade k_asbyte ((vs.drop b).take (e - b)) h c n) := by
  obtain ⟨d, rfl⟩ : ∃ q, d = q + 1 := ⟨d - 1, by omega⟩
  refine XM.of (by decide +kernel) (Nat.le_of_ble_eq_true rfl) ?_
  refine x_iload_n d_Arrays_copyOfRange_0 rfl ?_
  by_cases hb : b = 0
  · subst hb
    refine x_if_ne (tgt := 10) d_Arrays_copyOfRange_1 (by decide) (fun ht => absurd rfl ht) (fun _ => ?_)
    refine x_iload_n d_Arrays_copyOfRange_4 rfl ?_
    refine x_aload_n d_Arrays_copyOfRange_5 rfl rfl ?_
    refine x_alen (k := k0) hk0 ha (v := nI vs.length) rfl d_Arrays_copyOfRange_6 ?_
    by_cases hq : e = vs.length
    · refine x_icmp_eq (tgt := 17) d_Arrays_copyOfRange_7 (by decide) (fun _ => ?_) (fun hn => absurd (by rw [hq]) hn)
      refine x_aload_n d_Arrays_copyOfRange_17 rfl rfl ?_
      refine x_clone (k := k0) (k1 := k_asbyte) (ad := "[B") hk0 rfl (fun _ hz => by cases hz) (by decide +kernel) xw_208 xw_209 xw_210 xw_211 xw_212 xw_213 (hcl rfl hq) hf hc (by omega) (Nat.le_of_ble_eq_true rfl) d_Arrays_copyOfRange_18 (fun q hn_q hk_q => ?_)
      refine x_castA (k := k_asbyte) (nm := "[B") rfl (fun _ hz => by cases hz) (by decide +kernel) xw_214 xup_self d_Arrays_copyOfRange_21 ?_
      refine x_aret d_Arrays_copyOfRange_24 rfl rfl ?_
      refine ⟨q, rfl, hn_q, ?_, rfl, by simp; omega⟩
      rw [hq]
      simp
    · refine x_icmp_eq (tgt := 17) d_Arrays_copyOfRange_7 (by decide) (fun ht => absurd ht (by rw [nI_eq (by omega) (by omega)]; exact hq)) (fun _ => ?_)
      refine x_aload_n d_Arrays_copyOfRange_10 rfl rfl ?_
      refine x_iload_n d_Arrays_copyOfRange_11 rfl ?_
      refine x_iload_n d_Arrays_copyOfRange_12 rfl ?_
      refine x_callS (As := [_, _, _]) xcs_Arrays_339 (c_copyOfRangeByte (by omega) hk0 ha hf hbe he hl hc hn) rfl rfl (Nat.le_of_ble_eq_true rfl) d_Arrays_copyOfRange_13 ?_
      rintro v h' c' n' ⟨q, rfl, hq, rfl, rfl, rfl⟩
      refine x_aret d_Arrays_copyOfRange_16 rfl rfl ?_
      exact ⟨q, rfl, hq, rfl, rfl, rfl⟩
  · refine x_if_ne (tgt := 10) d_Arrays_copyOfRange_1 (by decide) (fun _ => ?_) (fun hn => absurd hn (nI_ne0 (by omega) (by omega)))
    refine x_aload_n d_Arrays_copyOfRange_10 rfl rfl ?_
    refine x_iload_n d_Arrays_copyOfRange_11 rfl ?_
    refine x_iload_n d_Arrays_copyOfRange_12 rfl ?_
    refine x_callS (As := [_, _, _]) xcs_Arrays_339 (c_copyOfRangeByte (by omega) hk0 ha hf hbe he hl hc hn) rfl rfl (Nat.le_of_ble_eq_true rfl) d_Arrays_copyOfRange_13 ?_
    rintro v h' c' n' ⟨q, rfl, hq, rfl, rfl, rfl⟩
    refine x_aret d_Arrays_copyOfRange_16 rfl rfl ?_
    exact ⟨q, rfl, hq, rfl, rfl, rfl⟩
/-- a String's birth -/
theorem c_String_init_aBB (hd : 1 ≤ d) {a q : Nat} {y z : Value} (ha : h a = some (k_String, [.null, .int 0, y, z])) : XM l G d M_String_init_aBB [.ref a, .ref q, .int 0] h c n (fun v h' c' n' => v = none ∧ h' = xup h a (k_String, [.ref q, .int 0, y, z]) ∧ c' = c ∧ n' = n) := by
  obtain ⟨d, rfl⟩ : ∃ q, d = q + 1 := ⟨d - 1, by omega⟩
  refine XM.of (by decide +kernel) (Nat.le_of_ble_eq_true rfl) ?_
  refine x_aload_n d_String_init_aBB_0 rfl rfl ?_
  refine x_objInit xw_473 xw_40 xw_41 (Nat.le_of_ble_eq_true rfl) d_String_init_aBB_1 ?_
  refine x_aload_n d_String_init_aBB_4 rfl rfl ?_
  refine x_aload_n d_String_init_aBB_5 rfl rfl ?_
  refine x_putF xf_String_9_String xp_String_0 ⟨_, _, _, rfl, rfl, xw_633⟩ rfl rfl rfl ha rfl rfl d_String_init_aBB_6 ?_
  refine x_aload_n d_String_init_aBB_9 rfl rfl ?_
  refine x_iload_n d_String_init_aBB_10 rfl ?_
  refine x_putF xf_String_15_String xp_String_1 ⟨_, _, _, rfl, rfl, xw_634⟩ rfl rfl rfl xup_self rfl rfl d_String_init_aBB_11 ?_
  refine x_vret d_String_init_aBB_14 rfl ?_
  exact ⟨rfl, by rw [xup_up]; rfl, rfl, rfl⟩
theorem xby_cut {t : List Nat} {b m : Nat} : ((xby t).drop b).take m = xby ((t.drop b).take m) := by
  unfold xby
  rw [List.map_take, List.map_drop]
theorem xasc_cut {t : List Nat} {b m : Nat} (ht : xasc t) : xasc ((t.drop b).take m) := fun ch hch => ht ch (List.mem_of_mem_drop (List.mem_of_mem_take hch))
/-- an end that is a String of its own, or one that was there -/
abbrev pS (G : XG) (t : List Nat) (h : XH) (c n : Nat) : Option Value → XH → Nat → Nat → Prop := fun v h' c' n' => ∃ q, v = some (.ref q) ∧ isS G h' q t ∧ xfr h h' [] ∧ c' ≤ c + 2 ∧ n' ≤ n + t.length + 4
theorem c_SL1_newString (hG : xGk G) (hd : 3 ≤ d) {a b m : Nat} {t : List Nat} (ha : xr G h a k_asbyte (xby t)) (ht : xasc t) (hm : b + m ≤ t.length) (hl : t.length < 2 ^ 20) (hc : c + 2 ≤ xCB) (hn : n + m + 4 ≤ xSB) (hcl : b = 0 → m = t.length → h a = some (k_asbyte, xby t)) : XM l G d M_SL1_newString [.ref a, .int (nI b), .int (nI m)] h c n (pS G ((t.drop b).take m) h c n) := by
  obtain ⟨d, rfl⟩ : ∃ q, d = q + 1 := ⟨d - 1, by omega⟩
  refine XM.of (by decide +kernel) (Nat.le_of_ble_eq_true rfl) ?_
  refine x_iload_n d_SL1_newString_0 rfl ?_
  have hlen : ((t.drop b).take m).length = m := by simp; omega
  by_cases hm0 : m = 0
  · subst hm0
    refine x_if_ne (tgt := 7) d_SL1_newString_1 (by decide) (fun ht => absurd rfl ht) (fun _ => ?_)
    refine x_ldcS (i := 17) (tx := "") (by decide +kernel) d_SL1_newString_4 ?_
    refine x_aret d_SL1_newString_6 rfl rfl ?_
    exact ⟨_, rfl, by rw [List.take_zero]; exact hG.str (i := 17) (by decide), xfr.rf, by omega, by omega⟩
  · refine x_if_ne (tgt := 7) d_SL1_newString_1 (by decide) (fun _ => ?_) (fun hn => absurd hn (nI_ne0 (by omega) (by omega)))
    refine x_new xnw_SL1_1 (by omega) (by omega) d_SL1_newString_7 (fun p hn_p hk_p => ?_)
    refine x_dup d_SL1_newString_10 rfl ?_
    refine x_aload_n d_SL1_newString_11 rfl rfl ?_
    refine x_iload_n d_SL1_newString_12 rfl ?_
    refine x_iload_n d_SL1_newString_13 rfl ?_
    refine x_iload_n d_SL1_newString_14 rfl ?_
    refine x_iadd d_SL1_newString_15 ?_
    refine x_top (w := .int (nI (b + m))) (by rw [nI_add]) ?_
    refine x_callS (As := [_, _, _]) xcs_SL1_232 (c_copyOfRange (by omega) (k0 := k_asbyte) rfl (xr_up ha hn_p) (xby_fit ht) (Nat.le_add_right b m) (by rw [xby_len]; omega) (by rw [xby_len]; omega) (by omega) (by omega) (fun z1 z2 => xup_old (hcl z1 (by rw [xby_len] at z2; omega)) hn_p)) rfl rfl (Nat.le_of_ble_eq_true rfl) d_SL1_newString_16 ?_
    rintro v h' c' n' ⟨q, rfl, hq, rfl, rfl, rfl⟩
    have hpq : p ≠ q := fun z => by rw [← z, xup_self] at hq; cases hq
    have hq0 : h q = none := by rw [xup_ne (Ne.symm hpq)] at hq; exact hq
    refine x_iconst (v := 0) d_SL1_newString_19 (by decide) ?_
    refine x_callI (As := [_, _]) xci_SL1_112 (c_String_init_aBB (by omega) (by rw [xup_ne hpq]; exact xup_self)) rfl rfl (Nat.le_of_ble_eq_true rfl) d_SL1_newString_20 ?_
    rintro v h' c' n' ⟨rfl, rfl, rfl, rfl⟩
    refine x_aret d_SL1_newString_23 rfl rfl ?_
    refine ⟨p, rfl, ⟨q, _, Or.inl xup_self, Or.inl (by rw [xup_ne (Ne.symm hpq), xup_self, Nat.add_sub_cancel_left, xby_cut]), xasc_cut ht⟩, ((xfr.rf.up (Or.inr hn_p)).up (Or.inr hq0)).up (Or.inr hn_p), by omega, ?_⟩
    simp
    omega
theorem c_checkFromTo {b e m : Nat} {w : Value} (hw : xisr w = true) (hbe : b ≤ e) (he : e ≤ m) (hm : m < 2 ^ 31) : XM l G d M_Preconditions_checkFromToIndex [.int (nI b), .int (nI e), .int (nI m), w] h c n (xSame (.int (nI b)) h c n) := by
  rcases xisr_or hw with rfl | ⟨a, rfl⟩
  · refine XM.of (by decide +kernel) (Nat.le_of_ble_eq_true rfl) ?_
    refine x_iload_n d_Preconditions_checkFromToIndex_0 rfl ?_
    refine x_if_lt (tgt := 14) d_Preconditions_checkFromToIndex_1 (by decide) (fun ht => absurd ht (nI_pos (by omega))) (fun _ => ?_)
    refine x_iload_n d_Preconditions_checkFromToIndex_4 rfl ?_
    refine x_iload_n d_Preconditions_checkFromToIndex_5 rfl ?_
    refine x_icmp_gt (tgt := 14) d_Preconditions_checkFromToIndex_6 (by decide) (fun ht => absurd ht (nI_nlt hbe (by omega))) (fun _ => ?_)
    refine x_iload_n d_Preconditions_checkFromToIndex_9 rfl ?_
    refine x_iload_n d_Preconditions_checkFromToIndex_10 rfl ?_
    refine x_icmp_le (tgt := 22) d_Preconditions_checkFromToIndex_11 (by decide) (fun _ => ?_) (fun hn => absurd (nI_le he hm) hn)
    refine x_iload_n d_Preconditions_checkFromToIndex_22 rfl ?_
    refine x_iret d_Preconditions_checkFromToIndex_23 rfl ?_
    exact ⟨rfl, rfl, rfl, rfl⟩
  · refine XM.of (by decide +kernel) (Nat.le_of_ble_eq_true rfl) ?_
    refine x_iload_n d_Preconditions_checkFromToIndex_0 rfl ?_
    refine x_if_lt (tgt := 14) d_Preconditions_checkFromToIndex_1 (by decide) (fun ht => absurd ht (nI_pos (by omega))) (fun _ => ?_)
    refine x_iload_n d_Preconditions_checkFromToIndex_4 rfl ?_
    refine x_iload_n d_Preconditions_checkFromToIndex_5 rfl ?_
    refine x_icmp_gt (tgt := 14) d_Preconditions_checkFromToIndex_6 (by decide) (fun ht => absurd ht (nI_nlt hbe (by omega))) (fun _ => ?_)
    refine x_iload_n d_Preconditions_checkFromToIndex_9 rfl ?_
    refine x_iload_n d_Preconditions_checkFromToIndex_10 rfl ?_
    refine x_icmp_le (tgt := 22) d_Preconditions_checkFromToIndex_11 (by decide) (fun _ => ?_) (fun hn => absurd (nI_le he hm) hn)
    refine x_iload_n d_Preconditions_checkFromToIndex_22 rfl ?_
    refine x_iret d_Preconditions_checkFromToIndex_23 rfl ?_
    exact ⟨rfl, rfl, rfl, rfl⟩
theorem c_checkBounds (hG : xGk G) (hd : 1 ≤ d) {b e m : Nat} (hbe : b ≤ e) (he : e ≤ m) (hm : m < 2 ^ 31) : XM l G d M_String_checkBoundsBeginEnd [.int (nI b), .int (nI e), .int (nI m)] h c n (xVoid h c n) := by
  obtain ⟨d, rfl⟩ : ∃ q, d = q + 1 := ⟨d - 1, by omega⟩
  refine XM.of (by decide +kernel) (Nat.le_of_ble_eq_true rfl) ?_
  refine x_iload_n d_String_checkBoundsBeginEnd_0 rfl ?_
  refine x_iload_n d_String_checkBoundsBeginEnd_1 rfl ?_
  refine x_iload_n d_String_checkBoundsBeginEnd_2 rfl ?_
  refine x_gets xw_248 (List.mem_of_getElem? (i := 5) rfl) d_String_checkBoundsBeginEnd_3 ?_
  refine x_callS (As := [_, _, _, _]) xcs_String_1062 (c_checkFromTo (hG.1 0) hbe he hm) rfl rfl (Nat.le_of_ble_eq_true rfl) d_String_checkBoundsBeginEnd_6 ?_
  rintro v h' c' n' ⟨rfl, rfl, rfl, rfl⟩
  refine x_pop d_String_checkBoundsBeginEnd_9 rfl ?_
  refine x_vret d_String_checkBoundsBeginEnd_10 rfl ?_
  exact ⟨rfl, rfl, rfl, rfl⟩
theorem c_substring (hG : xGk G) (hd : 4 ≤ d) {a b e : Nat} {t : List Nat} (hS : isS G h a t) (hbe : b ≤ e) (he : e ≤ t.length) (hl : t.length < 2 ^ 20) (hc : c + 2 ≤ xCB) (hn : n + (e - b) + 4 ≤ xSB) : XM l G d M_String_substring [.ref a, .int (nI b), .int (nI e)] h c n (pS G ((t.drop b).take (e - b)) h c n) := by
  obtain ⟨d, rfl⟩ : ∃ q, d = q + 1 := ⟨d - 1, by omega⟩
  refine XM.of (by decide +kernel) (Nat.le_of_ble_eq_true rfl) ?_
  obtain ⟨va, x, ha, hv, hat⟩ := id hS
  refine x_aload_n d_String_substring_0 rfl rfl ?_
  refine x_callV (As := []) (k := k_String) rfl xcv_String_505_String ha (c_String_length (by omega) hS) rfl rfl (Nat.le_of_ble_eq_true rfl) d_String_substring_1 ?_
  rintro v h' c' n' ⟨rfl, rfl, rfl, rfl⟩
  refine x_istore_n (L' := [_, _, _, _, _]) d_String_substring_4 rfl rfl ?_
  refine x_iload_n d_String_substring_5 rfl ?_
  refine x_iload_n d_String_substring_6 rfl ?_
  refine x_iload_n d_String_substring_7 rfl ?_
  refine x_callS (As := [_, _, _]) xcs_String_521 (c_checkBounds hG (by omega) hbe he (by omega)) rfl rfl (Nat.le_of_ble_eq_true rfl) d_String_substring_8 ?_
  rintro v h' c' n' ⟨rfl, rfl, rfl, rfl⟩
  have go : ¬ (b = 0 ∧ e = t.length) → XW l G M_String_substring (d + 1) 22 [some (.ref a), some (.int (nI b)), some (.int (nI e)), some (.int (nI t.length)), none] [] h' c' n' (pS G ((t.drop b).take (e - b)) h' c' n') := by
    intro hnw
    refine x_iload_n d_String_substring_22 rfl ?_
    refine x_iload_n d_String_substring_23 rfl ?_
    refine x_isub d_String_substring_24 ?_
    refine x_top (w := .int (nI (e - b))) (by rw [pk_sub hbe]) ?_
    refine x_istore (L' := [_, _, _, _, _]) d_String_substring_25 rfl rfl ?_
    refine x_aload_n d_String_substring_27 rfl rfl ?_
    refine x_callV (As := []) (k := k_String) rfl xcv_String_492_String ha (c_String_isLatin1 ha) rfl rfl (Nat.le_of_ble_eq_true rfl) d_String_substring_28 ?_
    rintro v h' c' n' ⟨rfl, rfl, rfl, rfl⟩
    refine x_if_eq (tgt := 47) d_String_substring_31 (by decide) (fun ht => absurd ht (by decide)) (fun _ => ?_)
    refine x_aload_n d_String_substring_34 rfl rfl ?_
    refine x_get xf_String_9_String ha rfl d_String_substring_35 ?_
    refine x_iload_n d_String_substring_38 rfl ?_
    refine x_iload d_String_substring_39 rfl ?_
    refine x_callS (As := [_, _, _]) xcs_String_685 (c_SL1_newString hG (by omega) hv hat (b := b) (m := e - b) (by omega) hl hc hn (fun z1 z2 => absurd ⟨z1, by omega⟩ hnw)) rfl rfl (Nat.le_of_ble_eq_true rfl) d_String_substring_41 ?_
    rintro v h' c' n' ⟨q, rfl, h1, h2, h3, h4⟩
    refine x_goto (tgt := 57) d_String_substring_44 (by decide) ?_
    refine x_aret d_String_substring_57 rfl rfl ?_
    exact ⟨q, rfl, h1, h2, h3, h4⟩
  refine x_iload_n d_String_substring_11 rfl ?_
  by_cases hb : b = 0
  · subst hb
    refine x_if_ne (tgt := 22) d_String_substring_12 (by decide) (fun ht => absurd rfl ht) (fun _ => ?_)
    refine x_iload_n d_String_substring_15 rfl ?_
    refine x_iload_n d_String_substring_16 rfl ?_
    by_cases hq : e = t.length
    · refine x_icmp_ne (tgt := 22) d_String_substring_17 (by decide) (fun ht => absurd (by rw [hq]) ht) (fun _ => ?_)
      refine x_aload_n d_String_substring_20 rfl rfl ?_
      refine x_aret d_String_substring_21 rfl rfl ?_
      exact ⟨a, rfl, by rw [hq]; simpa using hS, xfr.rf, by omega, by omega⟩
    · refine x_icmp_ne (tgt := 22) d_String_substring_17 (by decide) (fun _ => ?_) (fun hn => absurd hn (by rw [nI_eq (by omega) (by omega)]; exact hq))
      exact go (fun z => hq z.2)
  · refine x_if_ne (tgt := 22) d_String_substring_12 (by decide) (fun _ => ?_) (fun hn => absurd hn (nI_ne0 (by omega) (by omega)))
    exact go (fun z => hb z.1)
end ST3
