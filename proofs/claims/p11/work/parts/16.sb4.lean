section
abbrev y_ASB_init : MethodName := ⟨"java/lang/AbstractStringBuilder", "<init>", "(I)V"⟩
abbrev M_ASB_init : XMt := (y_ASB_init, prog_15_method_2_code, 2, none)
theorem d_ASB_init_0 : decode M_ASB_init.2.1 0 = .ok (.aload_n 0, 1) := by decide +kernel
theorem d_ASB_init_1 : decode M_ASB_init.2.1 1 = .ok (.invokespecial 3, 3) := by decide +kernel
theorem xw_50 : (Jvm.Cond.methodLink "java/lang/AbstractStringBuilder" (3 : Nat) ({ cls := "java/lang/Object", name := "<init>", desc := "()V" } : Jvm.MethodName)) ∈ xT := xT_at 50 (by decide +kernel) (by decide +kernel)
theorem d_ASB_init_4 : decode M_ASB_init.2.1 4 = .ok (.getstatic 18, 3) := by decide +kernel
theorem d_ASB_init_7 : decode M_ASB_init.2.1 7 = .ok (.ifCond .eq 18, 3) := by decide +kernel
theorem d_ASB_init_10 : decode M_ASB_init.2.1 10 = .ok (.aload_n 0, 1) := by decide +kernel
theorem d_ASB_init_11 : decode M_ASB_init.2.1 11 = .ok (.iload_n 1, 1) := by decide +kernel
theorem d_ASB_init_12 : decode M_ASB_init.2.1 12 = .ok (.newarray .byte, 2) := by decide +kernel
theorem d_ASB_init_14 : decode M_ASB_init.2.1 14 = .ok (.putfield 15, 3) := by decide +kernel
theorem d_ASB_init_17 : decode M_ASB_init.2.1 17 = .ok (.aload_n 0, 1) := by decide +kernel
theorem d_ASB_init_18 : decode M_ASB_init.2.1 18 = .ok (.iconst 0, 1) := by decide +kernel
theorem d_ASB_init_19 : decode M_ASB_init.2.1 19 = .ok (.putfield 22, 3) := by decide +kernel
theorem xp_SB_1 : xP k_StringBuilder 1 false .byte := ⟨_, _, _, rfl, rfl, by decide +kernel⟩
theorem d_ASB_init_22 : decode M_ASB_init.2.1 22 = .ok (.goto 16, 3) := by decide +kernel
theorem d_ASB_init_38 : decode M_ASB_init.2.1 38 = .ok (.return_, 1) := by decide +kernel
abbrev y_SB_init : MethodName := ⟨"java/lang/StringBuilder", "<init>", "()V"⟩
abbrev M_SB_init : XMt := (y_SB_init, prog_26_method_1_code, 1, none)
theorem d_SB_init_0 : decode M_SB_init.2.1 0 = .ok (.aload_n 0, 1) := by decide +kernel
theorem d_SB_init_1 : decode M_SB_init.2.1 1 = .ok (.bipush 16, 2) := by decide +kernel
theorem d_SB_init_3 : decode M_SB_init.2.1 3 = .ok (.invokespecial 1, 3) := by decide +kernel
theorem xw_49 : (Jvm.Cond.code ({ cls := "java/lang/AbstractStringBuilder", name := "<init>", desc := "(I)V" } : Jvm.MethodName) prog_15_method_2_code (2 : Nat) (Option.none : Option Jvm.ClassFile.FieldType)) ∈ xT := xT_at 49 (by decide +kernel) (by decide +kernel)
theorem xcb_ASB_init : xcb M_ASB_init 1 := ⟨xw_49, xw_2, by decide, by decide, by decide, by decide +kernel⟩
theorem xw_47 : (Jvm.Cond.methodLink "java/lang/StringBuilder" (1 : Nat) ({ cls := "java/lang/AbstractStringBuilder", name := "<init>", desc := "(I)V" } : Jvm.MethodName)) ∈ xT := xT_at 47 (by decide +kernel) (by decide +kernel)
theorem xw_48 : (Jvm.Cond.instanceMethod ({ cls := "java/lang/AbstractStringBuilder", name := "<init>", desc := "(I)V" } : Jvm.MethodName)) ∈ xT := xT_at 48 (by decide +kernel) (by decide +kernel)
theorem xci_SB_1 : xCI "java/lang/StringBuilder" 1 M_ASB_init 1 := ⟨xcb_ASB_init, rfl, rfl, xw_48, Or.inl xw_47⟩
theorem d_SB_init_6 : decode M_SB_init.2.1 6 = .ok (.return_, 1) := by decide +kernel
abbrev y_ASB_getValue : MethodName := ⟨"java/lang/AbstractStringBuilder", "getValue", "()[B"⟩
abbrev M_ASB_getValue : XMt := (y_ASB_getValue, prog_15_method_64_code, 1, (some (.array .byte)))
theorem d_ASB_getValue_0 : decode M_ASB_getValue.2.1 0 = .ok (.aload_n 0, 1) := by decide +kernel
theorem d_ASB_getValue_1 : decode M_ASB_getValue.2.1 1 = .ok (.getfield 15, 3) := by decide +kernel
theorem d_ASB_getValue_4 : decode M_ASB_getValue.2.1 4 = .ok (.areturn, 1) := by decide +kernel
abbrev y_String_init_AbstractStringBuilderVoid : MethodName := ⟨"java/lang/String", "<init>", "(Ljava/lang/AbstractStringBuilder;Ljava/lang/Void;)V"⟩
abbrev M_String_init_AbstractStringBuilderVoid : XMt := (y_String_init_AbstractStringBuilderVoid, prog_25_method_150_code, 5, none)
theorem d_String_init_AbstractStringBuilderVoid_0 : decode M_String_init_AbstractStringBuilderVoid.2.1 0 = .ok (.aload_n 0, 1) := by decide +kernel
theorem d_String_init_AbstractStringBuilderVoid_1 : decode M_String_init_AbstractStringBuilderVoid.2.1 1 = .ok (.invokespecial 1, 3) := by decide +kernel
theorem d_String_init_AbstractStringBuilderVoid_4 : decode M_String_init_AbstractStringBuilderVoid.2.1 4 = .ok (.aload_n 1, 1) := by decide +kernel
theorem d_String_init_AbstractStringBuilderVoid_5 : decode M_String_init_AbstractStringBuilderVoid.2.1 5 = .ok (.invokevirtual 552, 3) := by decide +kernel
theorem xw_478 : (Jvm.Cond.code ({ cls := "java/lang/AbstractStringBuilder", name := "getValue", desc := "()[B" } : Jvm.MethodName) prog_15_method_64_code (1 : Nat) (Option.some (Jvm.ClassFile.FieldType.array Jvm.ClassFile.FieldType.byte))) ∈ xT := xT_at 478 (by decide +kernel) (by decide +kernel)
theorem xcb_ASB_getValue : xcb M_ASB_getValue 0 := ⟨xw_478, xw_2, by decide, by decide, by decide, by decide +kernel⟩
theorem xw_475 : (Jvm.Cond.instanceMethod ({ cls := "java/lang/AbstractStringBuilder", name := "getValue", desc := "()[B" } : Jvm.MethodName)) ∈ xT := xT_at 475 (by decide +kernel) (by decide +kernel)
theorem xw_474 : (Jvm.Cond.methodLink "java/lang/String" (552 : Nat) ({ cls := "java/lang/AbstractStringBuilder", name := "getValue", desc := "()[B" } : Jvm.MethodName)) ∈ xT := xT_at 474 (by decide +kernel) (by decide +kernel)
theorem xw_477 : (Jvm.Cond.selects "java/lang/StringBuilder" ({ cls := "java/lang/AbstractStringBuilder", name := "getValue", desc := "()[B" } : Jvm.MethodName) ({ cls := "java/lang/AbstractStringBuilder", name := "getValue", desc := "()[B" } : Jvm.MethodName)) ∈ xT := xT_at 477 (by decide +kernel) (by decide +kernel)
theorem xcv_String_552_SB : xCV "java/lang/String" 552 "java/lang/StringBuilder" M_ASB_getValue 0 := ⟨xcb_ASB_getValue, xw_475, Or.inl ⟨xw_474, Or.inl xw_477⟩⟩
theorem d_String_init_AbstractStringBuilderVoid_8 : decode M_String_init_AbstractStringBuilderVoid.2.1 8 = .ok (.astore_n 3, 1) := by decide +kernel
theorem d_String_init_AbstractStringBuilderVoid_9 : decode M_String_init_AbstractStringBuilderVoid.2.1 9 = .ok (.aload_n 1, 1) := by decide +kernel
theorem d_String_init_AbstractStringBuilderVoid_10 : decode M_String_init_AbstractStringBuilderVoid.2.1 10 = .ok (.invokevirtual 549, 3) := by decide +kernel
theorem xw_175 : (Jvm.Cond.code ({ cls := "java/lang/StringBuilder", name := "length", desc := "()I" } : Jvm.MethodName) prog_26_method_93_code (1 : Nat) (Option.some Jvm.ClassFile.FieldType.int)) ∈ xT := xT_at 175 (by decide +kernel) (by decide +kernel)
theorem xw_3 : (Jvm.Cond.initialized "java/lang/StringBuilder") ∈ xT := xT_at 3 (by decide +kernel) (by decide +kernel)
theorem xcb_SB_length : xcb M_SB_length 0 := ⟨xw_175, xw_3, by decide, by decide, by decide, by decide +kernel⟩
theorem xw_173 : (Jvm.Cond.instanceMethod ({ cls := "java/lang/StringBuilder", name := "length", desc := "()I" } : Jvm.MethodName)) ∈ xT := xT_at 173 (by decide +kernel) (by decide +kernel)
theorem xw_479 : (Jvm.Cond.methodLink "java/lang/String" (549 : Nat) ({ cls := "java/lang/AbstractStringBuilder", name := "length", desc := "()I" } : Jvm.MethodName)) ∈ xT := xT_at 479 (by decide +kernel) (by decide +kernel)
theorem xw_1606 : (Jvm.Cond.selects "java/lang/StringBuilder" ({ cls := "java/lang/AbstractStringBuilder", name := "length", desc := "()I" } : Jvm.MethodName) ({ cls := "java/lang/StringBuilder", name := "length", desc := "()I" } : Jvm.MethodName)) ∈ xT := xT_at 1606 (by decide +kernel) (by decide +kernel)
theorem xcv_String_549_SB : xCV "java/lang/String" 549 "java/lang/StringBuilder" M_SB_length 0 := ⟨xcb_SB_length, xw_173, Or.inr (Or.inr ⟨⟨"java/lang/AbstractStringBuilder", "length", "()I"⟩, "java/lang/AbstractStringBuilder", xw_479, xw_1601, xw_1606, rfl, ⟨by decide, by decide⟩, Or.inr ⟨xw_177, _, _, _, xw_178⟩⟩)⟩
theorem d_String_init_AbstractStringBuilderVoid_13 : decode M_String_init_AbstractStringBuilderVoid.2.1 13 = .ok (.istore 4, 2) := by decide +kernel
theorem d_String_init_AbstractStringBuilderVoid_15 : decode M_String_init_AbstractStringBuilderVoid.2.1 15 = .ok (.aload_n 1, 1) := by decide +kernel
theorem d_String_init_AbstractStringBuilderVoid_16 : decode M_String_init_AbstractStringBuilderVoid.2.1 16 = .ok (.invokevirtual 1047, 3) := by decide +kernel
theorem xw_480 : (Jvm.Cond.methodLink "java/lang/String" (1047 : Nat) ({ cls := "java/lang/AbstractStringBuilder", name := "isLatin1", desc := "()Z" } : Jvm.MethodName)) ∈ xT := xT_at 480 (by decide +kernel) (by decide +kernel)
theorem xcv_String_1047_SB : xCV "java/lang/String" 1047 "java/lang/StringBuilder" M_ASB_isLatin1 0 := ⟨xcb_ASB_isLatin1, xw_222, Or.inl ⟨xw_480, Or.inl xw_224⟩⟩
theorem d_String_init_AbstractStringBuilderVoid_19 : decode M_String_init_AbstractStringBuilderVoid.2.1 19 = .ok (.ifCond .eq 22, 3) := by decide +kernel
theorem d_String_init_AbstractStringBuilderVoid_22 : decode M_String_init_AbstractStringBuilderVoid.2.1 22 = .ok (.aload_n 0, 1) := by decide +kernel
theorem d_String_init_AbstractStringBuilderVoid_23 : decode M_String_init_AbstractStringBuilderVoid.2.1 23 = .ok (.iconst 0, 1) := by decide +kernel
theorem d_String_init_AbstractStringBuilderVoid_24 : decode M_String_init_AbstractStringBuilderVoid.2.1 24 = .ok (.putfield 15, 3) := by decide +kernel
theorem d_String_init_AbstractStringBuilderVoid_27 : decode M_String_init_AbstractStringBuilderVoid.2.1 27 = .ok (.aload_n 0, 1) := by decide +kernel
theorem d_String_init_AbstractStringBuilderVoid_28 : decode M_String_init_AbstractStringBuilderVoid.2.1 28 = .ok (.aload_n 3, 1) := by decide +kernel
theorem d_String_init_AbstractStringBuilderVoid_29 : decode M_String_init_AbstractStringBuilderVoid.2.1 29 = .ok (.iconst 0, 1) := by decide +kernel
theorem d_String_init_AbstractStringBuilderVoid_30 : decode M_String_init_AbstractStringBuilderVoid.2.1 30 = .ok (.iload 4, 2) := by decide +kernel
theorem d_String_init_AbstractStringBuilderVoid_32 : decode M_String_init_AbstractStringBuilderVoid.2.1 32 = .ok (.invokestatic 54, 3) := by decide +kernel
theorem xw_481 : (Jvm.Cond.methodLink "java/lang/String" (54 : Nat) ({ cls := "java/util/Arrays", name := "copyOfRange", desc := "([BII)[B" } : Jvm.MethodName)) ∈ xT := xT_at 481 (by decide +kernel) (by decide +kernel)
theorem xcs_String_54 : xCS "java/lang/String" 54 M_Arrays_copyOfRange 3 := ⟨xcb_Arrays_copyOfRange, xw_482, Or.inl xw_481⟩
theorem d_String_init_AbstractStringBuilderVoid_35 : decode M_String_init_AbstractStringBuilderVoid.2.1 35 = .ok (.putfield 9, 3) := by decide +kernel
theorem d_String_init_AbstractStringBuilderVoid_38 : decode M_String_init_AbstractStringBuilderVoid.2.1 38 = .ok (.goto 59, 3) := by decide +kernel
theorem d_String_init_AbstractStringBuilderVoid_97 : decode M_String_init_AbstractStringBuilderVoid.2.1 97 = .ok (.return_, 1) := by decide +kernel
abbrev y_String_init_StringBuilder : MethodName := ⟨"java/lang/String", "<init>", "(Ljava/lang/StringBuilder;)V"⟩
abbrev M_String_init_StringBuilder : XMt := (y_String_init_StringBuilder, prog_25_method_53_code, 2, none)
theorem d_String_init_StringBuilder_0 : decode M_String_init_StringBuilder.2.1 0 = .ok (.aload_n 0, 1) := by decide +kernel
theorem d_String_init_StringBuilder_1 : decode M_String_init_StringBuilder.2.1 1 = .ok (.aload_n 1, 1) := by decide +kernel
theorem d_String_init_StringBuilder_2 : decode M_String_init_StringBuilder.2.1 2 = .ok (.aconst_null, 1) := by decide +kernel
theorem d_String_init_StringBuilder_3 : decode M_String_init_StringBuilder.2.1 3 = .ok (.invokespecial 489, 3) := by decide +kernel
theorem xw_472 : (Jvm.Cond.code ({ cls := "java/lang/String", name := "<init>", desc := "(Ljava/lang/AbstractStringBuilder;Ljava/lang/Void;)V" } : Jvm.MethodName) prog_25_method_150_code (5 : Nat) (Option.none : Option Jvm.ClassFile.FieldType)) ∈ xT := xT_at 472 (by decide +kernel) (by decide +kernel)
theorem xcb_String_init_AbstractStringBuilderVoid : xcb M_String_init_AbstractStringBuilderVoid 2 := ⟨xw_472, xw_4, by decide, by decide, by decide, by decide +kernel⟩
theorem xw_470 : (Jvm.Cond.methodLink "java/lang/String" (489 : Nat) ({ cls := "java/lang/String", name := "<init>", desc := "(Ljava/lang/AbstractStringBuilder;Ljava/lang/Void;)V" } : Jvm.MethodName)) ∈ xT := xT_at 470 (by decide +kernel) (by decide +kernel)
theorem xw_471 : (Jvm.Cond.instanceMethod ({ cls := "java/lang/String", name := "<init>", desc := "(Ljava/lang/AbstractStringBuilder;Ljava/lang/Void;)V" } : Jvm.MethodName)) ∈ xT := xT_at 471 (by decide +kernel) (by decide +kernel)
theorem xci_String_489 : xCI "java/lang/String" 489 M_String_init_AbstractStringBuilderVoid 2 := ⟨xcb_String_init_AbstractStringBuilderVoid, rfl, rfl, xw_471, Or.inl xw_470⟩
theorem d_String_init_StringBuilder_6 : decode M_String_init_StringBuilder.2.1 6 = .ok (.return_, 1) := by decide +kernel
abbrev y_SB_toString : MethodName := ⟨"java/lang/StringBuilder", "toString", "()Ljava/lang/String;"⟩
abbrev M_SB_toString : XMt := (y_SB_toString, prog_26_method_42_code, 1, (some (.object "java/lang/String")))
theorem d_SB_toString_0 : decode M_SB_toString.2.1 0 = .ok (.new 18, 3) := by decide +kernel
theorem xw_465 : (Jvm.Cond.classLink "java/lang/StringBuilder" (18 : Nat) "java/lang/String") ∈ xT := xT_at 465 (by decide +kernel) (by decide +kernel)
theorem xnw_SB_18 : xNw "java/lang/StringBuilder" 18 k_String 4 [.null, .int 0, .int 0, .int 0] := ⟨_, _, _, rfl, rfl, by decide +kernel, xw_465, xw_466, xw_4⟩
theorem d_SB_toString_3 : decode M_SB_toString.2.1 3 = .ok (.dup, 1) := by decide +kernel
theorem d_SB_toString_4 : decode M_SB_toString.2.1 4 = .ok (.aload_n 0, 1) := by decide +kernel
theorem d_SB_toString_5 : decode M_SB_toString.2.1 5 = .ok (.invokespecial 137, 3) := by decide +kernel
theorem xw_469 : (Jvm.Cond.code ({ cls := "java/lang/String", name := "<init>", desc := "(Ljava/lang/StringBuilder;)V" } : Jvm.MethodName) prog_25_method_53_code (2 : Nat) (Option.none : Option Jvm.ClassFile.FieldType)) ∈ xT := xT_at 469 (by decide +kernel) (by decide +kernel)
theorem xcb_String_init_StringBuilder : xcb M_String_init_StringBuilder 1 := ⟨xw_469, xw_4, by decide, by decide, by decide, by decide +kernel⟩
theorem xw_467 : (Jvm.Cond.methodLink "java/lang/StringBuilder" (137 : Nat) ({ cls := "java/lang/String", name := "<init>", desc := "(Ljava/lang/StringBuilder;)V" } : Jvm.MethodName)) ∈ xT := xT_at 467 (by decide +kernel) (by decide +kernel)
theorem xw_468 : (Jvm.Cond.instanceMethod ({ cls := "java/lang/String", name := "<init>", desc := "(Ljava/lang/StringBuilder;)V" } : Jvm.MethodName)) ∈ xT := xT_at 468 (by decide +kernel) (by decide +kernel)
theorem xci_SB_137 : xCI "java/lang/StringBuilder" 137 M_String_init_StringBuilder 1 := ⟨xcb_String_init_StringBuilder, rfl, rfl, xw_468, Or.inl xw_467⟩
theorem d_SB_toString_8 : decode M_SB_toString.2.1 8 = .ok (.areturn, 1) := by decide +kernel
abbrev y_ASB_setLength : MethodName := ⟨"java/lang/AbstractStringBuilder", "setLength", "(I)V"⟩
abbrev M_ASB_setLength : XMt := (y_ASB_setLength, prog_15_method_13_code, 2, none)
theorem d_ASB_setLength_0 : decode M_ASB_setLength.2.1 0 = .ok (.iload_n 1, 1) := by decide +kernel
theorem d_ASB_setLength_1 : decode M_ASB_setLength.2.1 1 = .ok (.ifCond .ge 12, 3) := by decide +kernel
theorem d_ASB_setLength_13 : decode M_ASB_setLength.2.1 13 = .ok (.aload_n 0, 1) := by decide +kernel
theorem d_ASB_setLength_14 : decode M_ASB_setLength.2.1 14 = .ok (.iload_n 1, 1) := by decide +kernel
theorem d_ASB_setLength_15 : decode M_ASB_setLength.2.1 15 = .ok (.invokevirtual 100, 3) := by decide +kernel
theorem d_ASB_setLength_18 : decode M_ASB_setLength.2.1 18 = .ok (.aload_n 0, 1) := by decide +kernel
theorem d_ASB_setLength_19 : decode M_ASB_setLength.2.1 19 = .ok (.getfield 79, 3) := by decide +kernel
theorem d_ASB_setLength_22 : decode M_ASB_setLength.2.1 22 = .ok (.iload_n 1, 1) := by decide +kernel
theorem d_ASB_setLength_23 : decode M_ASB_setLength.2.1 23 = .ok (.if_icmp .ge 40, 3) := by decide +kernel
theorem d_ASB_setLength_63 : decode M_ASB_setLength.2.1 63 = .ok (.aload_n 0, 1) := by decide +kernel
theorem d_ASB_setLength_64 : decode M_ASB_setLength.2.1 64 = .ok (.getfield 79, 3) := by decide +kernel
theorem d_ASB_setLength_67 : decode M_ASB_setLength.2.1 67 = .ok (.iload_n 1, 1) := by decide +kernel
theorem d_ASB_setLength_68 : decode M_ASB_setLength.2.1 68 = .ok (.if_icmp .le 8, 3) := by decide +kernel
theorem d_ASB_setLength_76 : decode M_ASB_setLength.2.1 76 = .ok (.aload_n 0, 1) := by decide +kernel
theorem d_ASB_setLength_77 : decode M_ASB_setLength.2.1 77 = .ok (.iload_n 1, 1) := by decide +kernel
theorem d_ASB_setLength_78 : decode M_ASB_setLength.2.1 78 = .ok (.putfield 79, 3) := by decide +kernel
theorem d_ASB_setLength_81 : decode M_ASB_setLength.2.1 81 = .ok (.return_, 1) := by decide +kernel
theorem d_ASB_setLength_71 : decode M_ASB_setLength.2.1 71 = .ok (.aload_n 0, 1) := by decide +kernel
theorem d_ASB_setLength_72 : decode M_ASB_setLength.2.1 72 = .ok (.iconst 1, 1) := by decide +kernel
theorem d_ASB_setLength_73 : decode M_ASB_setLength.2.1 73 = .ok (.putfield 73, 3) := by decide +kernel
theorem xw_62 : (Jvm.Cond.fieldLink "java/lang/AbstractStringBuilder" (73 : Nat) "java/lang/AbstractStringBuilder" "maybeLatin1" "Z") ∈ xT := xT_at 62 (by decide +kernel) (by decide +kernel)
theorem xf_ASB_73_SB : xF "java/lang/AbstractStringBuilder" 73 k_StringBuilder 2 := ⟨_, _, _, "java/lang/AbstractStringBuilder", rfl, by decide, Or.inl xw_62, Or.inl rfl⟩
theorem xp_SB_2 : xP k_StringBuilder 2 false .boolean := ⟨_, _, _, rfl, rfl, by decide +kernel⟩
abbrev y_SB_setLength : MethodName := ⟨"java/lang/StringBuilder", "setLength", "(I)V"⟩
abbrev M_SB_setLength : XMt := (y_SB_setLength, prog_26_method_89_code, 2, none)
theorem d_SB_setLength_0 : decode M_SB_setLength.2.1 0 = .ok (.aload_n 0, 1) := by decide +kernel
theorem d_SB_setLength_1 : decode M_SB_setLength.2.1 1 = .ok (.iload_n 1, 1) := by decide +kernel
theorem d_SB_setLength_2 : decode M_SB_setLength.2.1 2 = .ok (.invokespecial 333, 3) := by decide +kernel
theorem xw_650 : (Jvm.Cond.code ({ cls := "java/lang/AbstractStringBuilder", name := "setLength", desc := "(I)V" } : Jvm.MethodName) prog_15_method_13_code (2 : Nat) (Option.none : Option Jvm.ClassFile.FieldType)) ∈ xT := xT_at 650 (by decide +kernel) (by decide +kernel)
theorem xcb_ASB_setLength : xcb M_ASB_setLength 1 := ⟨xw_650, xw_2, by decide, by decide, by decide, by decide +kernel⟩
theorem xw_649 : (Jvm.Cond.instanceMethod ({ cls := "java/lang/AbstractStringBuilder", name := "setLength", desc := "(I)V" } : Jvm.MethodName)) ∈ xT := xT_at 649 (by decide +kernel) (by decide +kernel)
theorem xw_648 : (Jvm.Cond.methodLink "java/lang/StringBuilder" (333 : Nat) ({ cls := "java/lang/AbstractStringBuilder", name := "setLength", desc := "(I)V" } : Jvm.MethodName)) ∈ xT := xT_at 648 (by decide +kernel) (by decide +kernel)
theorem xw_1613 : (Jvm.Cond.sameMethod "java/lang/AbstractStringBuilder" "java/lang/AbstractStringBuilder" "setLength" "(I)V") ∈ xT := xT_at 1613 (by decide +kernel) (by decide +kernel)
theorem xcu_SB_333 : xCU "java/lang/StringBuilder" 333 M_ASB_setLength 1 := ⟨xcb_ASB_setLength, by decide, xw_649, xw_648, xw_1613, xw_73⟩
theorem d_SB_setLength_5 : decode M_SB_setLength.2.1 5 = .ok (.return_, 1) := by decide +kernel
end
section SB4
variable {l : Launch} {G : XG} {h : XH} {c n d : Nat}
theorem c_ASB_init (hd : 1 ≤ d) {a m : Nat} {k : Value} {z : Int32} (ha : h a = some (k_StringBuilder, [.null, .int 0, .int z, k])) (hm : m < 2 ^ 20) (hc : c + 1 ≤ xCB) (hn : n + m ≤ xSB) : XM l G d M_ASB_init [.ref a, .int (nI m)] h c n (fun v h' c' n' => v = none ∧ ∃ q, h q = none ∧ h' = xup (xup h q (k_abyte, List.replicate m (.int 0))) a (k_StringBuilder, [.ref q, .int 0, .int z, k]) ∧ c' = c + 1 ∧ n' = n + m) := by
  obtain ⟨d, rfl⟩ : ∃ q, d = q + 1 := ⟨d - 1, by omega⟩
  refine XM.of (by decide +kernel) (Nat.le_of_ble_eq_true rfl) ?_
  refine x_aload_n d_ASB_init_0 rfl rfl ?_
  refine x_objInit xw_50 xw_40 xw_41 (Nat.le_of_ble_eq_true rfl) d_ASB_init_1 ?_
  refine x_gets xw_51 (List.mem_of_getElem? (i := 0) rfl) d_ASB_init_4 ?_
  refine x_if_eq (tgt := 25) d_ASB_init_7 (by decide) (fun ht => absurd ht (by decide)) (fun _ => ?_)
  refine x_aload_n d_ASB_init_10 rfl rfl ?_
  refine x_iload_n d_ASB_init_11 rfl ?_
  refine x_newa (k := k_abyte) rfl rfl (fun _ hz => by cases hz) xw_74 (nI_pos (by omega)) (nI_clamp (by omega)) (by show m * 1 ≤ _; omega) hc hn d_ASB_init_12 (fun q hn_q hk_q => ?_)
  refine x_put xf_ASB_15_SB xp_SB_0 rfl rfl (xup_old ha hn_q) rfl rfl d_ASB_init_14 ?_
  refine x_aload_n d_ASB_init_17 rfl rfl ?_
  refine x_iconst (v := 0) d_ASB_init_18 (by decide) ?_
  refine x_put xf_ASB_22_SB xp_SB_1 rfl rfl xup_self rfl rfl d_ASB_init_19 ?_
  refine x_goto (tgt := 38) d_ASB_init_22 (by decide) ?_
  refine x_vret d_ASB_init_38 rfl ?_
  exact ⟨rfl, q, hn_q, by rw [xup_up]; rfl, rfl, rfl⟩
/-- a new builder -/
theorem c_SB_init (hd : 2 ≤ d) {a : Nat} (ha : h a = some (k_StringBuilder, [.null, .int 0, .int 0, .int 0])) (hc : c + 1 ≤ xCB) (hn : n + 16 ≤ xSB) : XM l G d M_SB_init [.ref a] h c n (fun v h' c' n' => v = none ∧ ∃ q, h q = none ∧ isB h' a q [] 16 ∧ xfr h h' [a] ∧ c' = c + 1 ∧ n' = n + 16) := by
  obtain ⟨d, rfl⟩ : ∃ q, d = q + 1 := ⟨d - 1, by omega⟩
  refine XM.of (by decide +kernel) (Nat.le_of_ble_eq_true rfl) ?_
  refine x_aload_n d_SB_init_0 rfl rfl ?_
  refine x_bipush (v := 16) d_SB_init_1 (by decide) ?_
  refine x_callI (As := [_]) xci_SB_1 (c_ASB_init (by omega) (m := 16) ha (by omega) hc hn) rfl rfl (Nat.le_of_ble_eq_true rfl) d_SB_init_3 ?_
  rintro v h' c' n' ⟨rfl, q, hq, rfl, rfl, rfl⟩
  have haq : a ≠ q := fun e => by rw [e, hq] at ha; cases ha
  refine x_vret d_SB_init_6 rfl ?_
  refine ⟨rfl, q, hq, ⟨0, List.replicate 16 (.int 0), xup_self, by rw [xup_ne (Ne.symm haq), xup_self]; rfl, rfl, fun v hv => by rw [(List.mem_replicate.mp hv).2]; rfl, fun ch hc => by cases hc⟩, ?_, rfl, rfl⟩
  exact (xfr.rf.up (Or.inr hq)).up (Or.inl (by simp))
theorem c_ASB_getValue {a : Nat} {va : Nat} {z k w : Value} (ha : h a = some (k_StringBuilder, [.ref va, w, z, k])) : XM l G d M_ASB_getValue [.ref a] h c n (xSame (.ref va) h c n) := by
  refine XM.of (by decide +kernel) (Nat.le_of_ble_eq_true rfl) ?_
  refine x_aload_n d_ASB_getValue_0 rfl rfl ?_
  refine x_get xf_ASB_15_SB (Or.inl ha) rfl d_ASB_getValue_1 ?_
  refine x_aret d_ASB_getValue_4 rfl rfl ?_
  exact ⟨rfl, rfl, rfl, rfl⟩
theorem c_String_init_ASB (hd : 3 ≤ d) {s a va m : Nat} {y z : Value} {t : List Nat} (hs : h s = some (k_String, [.null, .int 0, y, z])) (hB : isB h a va t m) (hm : m < 2 ^ 18) (hc : c + 1 ≤ xCB) (hn : n + t.length ≤ xSB) : XM l G d M_String_init_AbstractStringBuilderVoid [.ref s, .ref a, .null] h c n (fun v h' c' n' => v = none ∧ ∃ q, h q = none ∧ h' = xup (xup h q (k_asbyte, xby t)) s (k_String, [.ref q, .int 0, y, z]) ∧ c' = c + 1 ∧ n' = n + t.length) := by
  obtain ⟨d, rfl⟩ : ∃ q, d = q + 1 := ⟨d - 1, by omega⟩
  obtain ⟨w, bs, ha, hv, hl, hbf, hat⟩ := hB
  have hsa : s ≠ a := fun e => by rw [e, ha] at hs; cases hs
  have hsv : s ≠ va := fun e => by rw [e, hv] at hs; cases hs
  have hvl : (xby t ++ bs).length = m := by rw [List.length_append, xby_len]; exact hl
  refine XM.of (by decide +kernel) (Nat.le_of_ble_eq_true rfl) ?_
  refine x_aload_n d_String_init_AbstractStringBuilderVoid_0 rfl rfl ?_
  refine x_objInit xw_473 xw_40 xw_41 (Nat.le_of_ble_eq_true rfl) d_String_init_AbstractStringBuilderVoid_1 ?_
  refine x_aload_n d_String_init_AbstractStringBuilderVoid_4 rfl rfl ?_
  refine x_callV (As := []) (k := k_StringBuilder) rfl xcv_String_552_SB (Or.inl ha) (c_ASB_getValue ha) rfl rfl (Nat.le_of_ble_eq_true rfl) d_String_init_AbstractStringBuilderVoid_5 ?_
  rintro v h' c' n' ⟨rfl, rfl, rfl, rfl⟩
  refine x_astore_n (L' := [_, _, _, _, _]) d_String_init_AbstractStringBuilderVoid_8 rfl rfl rfl ?_
  refine x_aload_n d_String_init_AbstractStringBuilderVoid_9 rfl rfl ?_
  refine x_callV (As := []) (k := k_StringBuilder) rfl xcv_String_549_SB (Or.inl ha) (c_SB_length (by omega) ha) rfl rfl (Nat.le_of_ble_eq_true rfl) d_String_init_AbstractStringBuilderVoid_10 ?_
  rintro v h' c' n' ⟨rfl, rfl, rfl, rfl⟩
  refine x_istore (L' := [_, _, _, _, _]) d_String_init_AbstractStringBuilderVoid_13 rfl rfl ?_
  refine x_aload_n d_String_init_AbstractStringBuilderVoid_15 rfl rfl ?_
  refine x_callV (As := []) (k := k_StringBuilder) rfl xcv_String_1047_SB (Or.inl ha) (c_ASB_isLatin1 ha) rfl rfl (Nat.le_of_ble_eq_true rfl) d_String_init_AbstractStringBuilderVoid_16 ?_
  rintro v h' c' n' ⟨rfl, rfl, rfl, rfl⟩
  have hfit : ∀ v ∈ xby t ++ bs, fits .byte v = true := fun v hv => (List.mem_append.mp hv).elim (xby_fit hat v) (hbf v)
  refine x_if_eq (tgt := 41) d_String_init_AbstractStringBuilderVoid_19 (by decide) (fun ht => absurd ht (by decide)) (fun _ => ?_)
  refine x_aload_n d_String_init_AbstractStringBuilderVoid_22 rfl rfl ?_
  refine x_iconst (v := 0) d_String_init_AbstractStringBuilderVoid_23 (by decide) ?_
  refine x_putF xf_String_15_String xp_String_1 ⟨_, _, _, rfl, rfl, xw_634⟩ rfl rfl rfl hs rfl rfl d_String_init_AbstractStringBuilderVoid_24 ?_
  refine x_aload_n d_String_init_AbstractStringBuilderVoid_27 rfl rfl ?_
  refine x_aload_n d_String_init_AbstractStringBuilderVoid_28 rfl rfl ?_
  refine x_iconst (v := 0) d_String_init_AbstractStringBuilderVoid_29 (by decide) ?_
  refine x_iload d_String_init_AbstractStringBuilderVoid_30 rfl ?_
  refine x_callS (As := [_, _, _]) xcs_String_54 (c_copyOfRange (by omega) (k0 := k_abyte) (b := 0) (e := t.length) rfl (Or.inl (by rw [xup_ne (Ne.symm hsv)]; exact hv)) hfit (Nat.zero_le _) (by rw [hvl]; omega) (by rw [hvl]; omega) hc hn (fun _ _ => by rw [xup_ne (Ne.symm hsv)]; exact hv)) rfl rfl (Nat.le_of_ble_eq_true rfl) d_String_init_AbstractStringBuilderVoid_32 ?_
  rintro v h' c' n' ⟨q, rfl, hq, rfl, rfl, rfl⟩
  have hsq : s ≠ q := fun e => by rw [← e, xup_self] at hq; cases hq
  have hq0 : h' q = none := by rw [xup_ne (Ne.symm hsq)] at hq; exact hq
  have hcut : ((xby t ++ bs).drop 0).take (t.length - 0) = xby t := by
    rw [List.drop_zero, Nat.sub_zero, List.take_append_of_le_length (by rw [xby_len]; exact Nat.le_refl _), List.take_of_length_le (by rw [xby_len]; exact Nat.le_refl _)]
  rw [hcut]
  refine x_putF xf_String_9_String xp_String_0 ⟨_, _, _, rfl, rfl, xw_633⟩ rfl rfl rfl (by rw [xup_ne hsq]; exact xup_self) rfl rfl d_String_init_AbstractStringBuilderVoid_35 ?_
  refine x_goto (tgt := 97) d_String_init_AbstractStringBuilderVoid_38 (by decide) ?_
  refine x_vret d_String_init_AbstractStringBuilderVoid_97 rfl ?_
  refine ⟨rfl, q, hq0, ?_, rfl, by rw [xby_len]⟩
  rw [xup_cm (h := h') hsq, xup_up]
  rfl
theorem c_String_init_SB (hd : 4 ≤ d) {s a va m : Nat} {y z : Value} {t : List Nat} (hs : h s = some (k_String, [.null, .int 0, y, z])) (hB : isB h a va t m) (hm : m < 2 ^ 18) (hc : c + 1 ≤ xCB) (hn : n + t.length ≤ xSB) : XM l G d M_String_init_StringBuilder [.ref s, .ref a] h c n (fun v h' c' n' => v = none ∧ ∃ q, h q = none ∧ h' = xup (xup h q (k_asbyte, xby t)) s (k_String, [.ref q, .int 0, y, z]) ∧ c' = c + 1 ∧ n' = n + t.length) := by
  obtain ⟨d, rfl⟩ : ∃ q, d = q + 1 := ⟨d - 1, by omega⟩
  refine XM.of (by decide +kernel) (Nat.le_of_ble_eq_true rfl) ?_
  refine x_aload_n d_String_init_StringBuilder_0 rfl rfl ?_
  refine x_aload_n d_String_init_StringBuilder_1 rfl rfl ?_
  refine x_null d_String_init_StringBuilder_2 ?_
  refine x_callI (As := [_, _]) xci_String_489 (c_String_init_ASB (by omega) hs hB hm hc hn) rfl rfl (Nat.le_of_ble_eq_true rfl) d_String_init_StringBuilder_3 ?_
  rintro v h' c' n' ⟨rfl, hp⟩
  refine x_vret d_String_init_StringBuilder_6 rfl ?_
  exact ⟨rfl, hp⟩
theorem isB.up {q : Nat} {e : Nat × List Value} {a va m : Nat} {t : List Nat} (hB : isB h a va t m) (hq : h q = none) : isB (xup h q e) a va t m := by
  obtain ⟨w, bs, ha, hv, hr⟩ := hB
  exact ⟨w, bs, xup_old ha hq, xup_old hv hq, hr⟩
theorem isB.fr {h' : XH} {F : List Nat} {a va m : Nat} {t : List Nat} (hB : isB h a va t m) (hf : xfr h h' F) (h1 : a ∉ F) (h2 : va ∉ F) : isB h' a va t m := by
  obtain ⟨w, bs, ha, hv, hr⟩ := hB
  exact ⟨w, bs, hf.1 _ _ ha h1, hf.1 _ _ hv h2, hr⟩
/-- StringBuilder.toString -/
theorem c_SB_toString (hd : 5 ≤ d) {a va m : Nat} {t : List Nat} (hB : isB h a va t m) (hm : m < 2 ^ 18) (hc : c + 2 ≤ xCB) (hn : n + t.length + 4 ≤ xSB) : XM l G d M_SB_toString [.ref a] h c n (pS G t h c n) := by
  obtain ⟨d, rfl⟩ : ∃ q, d = q + 1 := ⟨d - 1, by omega⟩
  refine XM.of (by decide +kernel) (Nat.le_of_ble_eq_true rfl) ?_
  obtain ⟨w, bs, ha, hv, hl, hbf, hat⟩ := id hB
  refine x_new xnw_SB_18 (by omega) (by omega) d_SB_toString_0 (fun p hn_p hk_p => ?_)
  refine x_dup d_SB_toString_3 rfl ?_
  refine x_aload_n d_SB_toString_4 rfl rfl ?_
  refine x_callI (As := [_]) xci_SB_137 (c_String_init_SB (by omega) xup_self (hB.up hn_p) hm (by omega) (by omega)) rfl rfl (Nat.le_of_ble_eq_true rfl) d_SB_toString_5 ?_
  rintro v h' c' n' ⟨rfl, q, hq, rfl, rfl, rfl⟩
  have hpq : p ≠ q := fun z => by rw [← z, xup_self] at hq; cases hq
  have hq0 : h q = none := by rw [xup_ne (Ne.symm hpq)] at hq; exact hq
  refine x_aret d_SB_toString_8 rfl rfl ?_
  exact ⟨p, rfl, ⟨q, _, Or.inl xup_self, Or.inl (by rw [xup_ne (Ne.symm hpq), xup_self]), hat⟩, ((xfr.rf.up (Or.inr hn_p)).up (Or.inr hq0)).up (Or.inr hn_p), by omega, by omega⟩
/-- setLength(0) -/
theorem c_ASB_setLength0 (hd : 1 ≤ d) {a va m : Nat} {t : List Nat} (hB : isB h a va t m) (hm : m < 2 ^ 18) : XM l G d M_ASB_setLength [.ref a, .int 0] h c n (fun v h' c' n' => v = none ∧ isB h' a va [] m ∧ xfr h h' [a] ∧ c' = c ∧ n' = n) := by
  obtain ⟨d, rfl⟩ : ∃ q, d = q + 1 := ⟨d - 1, by omega⟩
  obtain ⟨w, bs, ha, hv, hl, hbf, hat⟩ := hB
  have hav : a ≠ va := fun e => by rw [e, hv] at ha; cases ha
  have hvl : (xby t ++ bs).length = m := by rw [List.length_append, xby_len]; exact hl
  refine XM.of (by decide +kernel) (Nat.le_of_ble_eq_true rfl) ?_
  refine x_iload_n d_ASB_setLength_0 rfl ?_
  refine x_if_ge (tgt := 13) d_ASB_setLength_1 (by decide) (fun _ => ?_) (fun hn => absurd (by decide) hn)
  refine x_aload_n d_ASB_setLength_13 rfl rfl ?_
  refine x_iload_n d_ASB_setLength_14 rfl ?_
  refine x_callV (As := [_]) (k := k_StringBuilder) rfl xcv_ASB_100_SB (Or.inl ha) (c_ensure_no (m := 0) (Nat.zero_le _) ha hv (Nat.zero_le _) (by rw [hvl]; omega)) rfl rfl (Nat.le_of_ble_eq_true rfl) d_ASB_setLength_15 ?_
  rintro v h' c' n' ⟨rfl, rfl, rfl, rfl⟩
  refine x_aload_n d_ASB_setLength_18 rfl rfl ?_
  refine x_get xf_ASB_79_SB (Or.inl ha) rfl d_ASB_setLength_19 ?_
  refine x_iload_n d_ASB_setLength_22 rfl ?_
  refine x_icmp_ge (tgt := 63) d_ASB_setLength_23 (by decide) (fun _ => ?_) (fun hn => absurd (nI_pos' (by omega)) hn)
  refine x_aload_n d_ASB_setLength_63 rfl rfl ?_
  refine x_get xf_ASB_79_SB (Or.inl ha) rfl d_ASB_setLength_64 ?_
  refine x_iload_n d_ASB_setLength_67 rfl ?_
  have hE : ∀ w1 : Int32, isB (xup h' a (k_StringBuilder, [.ref va, .int 0, .int w1, .int 0])) a va [] m := fun w1 => ⟨w1, xby t ++ bs, xup_self, by rw [xup_ne (Ne.symm hav)]; exact hv, by rw [hvl]; simp, fun v hv => (List.mem_append.mp hv).elim (xby_fit hat v) (hbf v), fun ch hc => by cases hc⟩
  by_cases ht : t.length = 0
  · refine x_icmp_le (tgt := 76) d_ASB_setLength_68 (by decide) (fun _ => ?_) (fun hn => absurd (by rw [ht]; decide) hn)
    refine x_aload_n d_ASB_setLength_76 rfl rfl ?_
    refine x_iload_n d_ASB_setLength_77 rfl ?_
    refine x_put xf_ASB_79_SB xp_SB_3 rfl rfl ha rfl rfl d_ASB_setLength_78 ?_
    refine x_vret d_ASB_setLength_81 rfl ?_
    exact ⟨rfl, hE w, xfr.rf.up (Or.inl (by simp)), rfl, rfl⟩
  · refine x_icmp_le (tgt := 76) d_ASB_setLength_68 (by decide) (fun ht => absurd ht (nI_nle (by omega) (by omega))) (fun _ => ?_)
    refine x_aload_n d_ASB_setLength_71 rfl rfl ?_
    refine x_iconst (v := 1) d_ASB_setLength_72 (by decide) ?_
    refine x_put xf_ASB_73_SB xp_SB_2 rfl rfl ha rfl rfl d_ASB_setLength_73 ?_
    refine x_aload_n d_ASB_setLength_76 rfl rfl ?_
    refine x_iload_n d_ASB_setLength_77 rfl ?_
    refine x_put xf_ASB_79_SB xp_SB_3 rfl rfl xup_self rfl rfl d_ASB_setLength_78 ?_
    refine x_vret d_ASB_setLength_81 rfl ?_
    refine ⟨rfl, ?_, (xfr.rf.up (Or.inl (by simp))).up (Or.inl (by simp)), rfl, rfl⟩
    rw [xup_up]
    exact hE 1
theorem c_SB_setLength0 (hd : 2 ≤ d) {a va m : Nat} {t : List Nat} (hB : isB h a va t m) (hm : m < 2 ^ 18) : XM l G d M_SB_setLength [.ref a, .int 0] h c n (fun v h' c' n' => v = none ∧ isB h' a va [] m ∧ xfr h h' [a] ∧ c' = c ∧ n' = n) := by
  obtain ⟨d, rfl⟩ : ∃ q, d = q + 1 := ⟨d - 1, by omega⟩
  obtain ⟨z, bs, ha, -⟩ := id hB
  refine XM.of (by decide +kernel) (Nat.le_of_ble_eq_true rfl) ?_
  refine x_aload_n d_SB_setLength_0 rfl rfl ?_
  refine x_iload_n d_SB_setLength_1 rfl ?_
  refine x_callU (As := [_]) (k := k_StringBuilder) rfl xcu_SB_333 (Or.inl ha) (c_ASB_setLength0 (by omega) hB hm) rfl rfl (Nat.le_of_ble_eq_true rfl) d_SB_setLength_2 ?_
  rintro v h' c' n' ⟨rfl, hp⟩
  refine x_vret d_SB_setLength_5 rfl ?_
  exact ⟨rfl, hp⟩
end SB4
