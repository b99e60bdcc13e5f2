section
abbrev y_String_getBytes : MethodName := ⟨"java/lang/String", "getBytes", "([BIB)V"⟩
abbrev M_String_getBytes : XMt := (y_String_getBytes, prog_25_method_147_code, 4, none)
theorem d_String_getBytes_0 : decode M_String_getBytes.2.1 0 = .ok (.aload_n 0, 1) := by decide +kernel
theorem d_String_getBytes_1 : decode M_String_getBytes.2.1 1 = .ok (.invokevirtual 335, 3) := by decide +kernel
theorem d_String_getBytes_4 : decode M_String_getBytes.2.1 4 = .ok (.iload_n 3, 1) := by decide +kernel
theorem d_String_getBytes_5 : decode M_String_getBytes.2.1 5 = .ok (.if_icmp .ne 23, 3) := by decide +kernel
theorem d_String_getBytes_8 : decode M_String_getBytes.2.1 8 = .ok (.aload_n 0, 1) := by decide +kernel
theorem d_String_getBytes_9 : decode M_String_getBytes.2.1 9 = .ok (.getfield 9, 3) := by decide +kernel
theorem d_String_getBytes_12 : decode M_String_getBytes.2.1 12 = .ok (.iconst 0, 1) := by decide +kernel
theorem d_String_getBytes_13 : decode M_String_getBytes.2.1 13 = .ok (.aload_n 1, 1) := by decide +kernel
theorem d_String_getBytes_14 : decode M_String_getBytes.2.1 14 = .ok (.iload_n 2, 1) := by decide +kernel
theorem d_String_getBytes_15 : decode M_String_getBytes.2.1 15 = .ok (.iload_n 3, 1) := by decide +kernel
theorem d_String_getBytes_16 : decode M_String_getBytes.2.1 16 = .ok (.ishl, 1) := by decide +kernel
theorem d_String_getBytes_17 : decode M_String_getBytes.2.1 17 = .ok (.aload_n 0, 1) := by decide +kernel
theorem d_String_getBytes_18 : decode M_String_getBytes.2.1 18 = .ok (.getfield 9, 3) := by decide +kernel
theorem d_String_getBytes_21 : decode M_String_getBytes.2.1 21 = .ok (.arraylength, 1) := by decide +kernel
theorem d_String_getBytes_22 : decode M_String_getBytes.2.1 22 = .ok (.invokestatic 212, 3) := by decide +kernel
theorem xw_595 : (Jvm.Cond.methodLink "java/lang/String" (212 : Nat) ({ cls := "java/lang/System", name := "arraycopy", desc := "(Ljava/lang/Object;ILjava/lang/Object;II)V" } : Jvm.MethodName)) ∈ xT := xT_at 595 (by decide +kernel) (by decide +kernel)
theorem d_String_getBytes_25 : decode M_String_getBytes.2.1 25 = .ok (.goto 18, 3) := by decide +kernel
theorem d_String_getBytes_43 : decode M_String_getBytes.2.1 43 = .ok (.return_, 1) := by decide +kernel
abbrev y_ASB_inflateIfNeededFor : MethodName := ⟨"java/lang/AbstractStringBuilder", "inflateIfNeededFor", "(Ljava/lang/String;)V"⟩
abbrev M_ASB_inflateIfNeededFor : XMt := (y_ASB_inflateIfNeededFor, prog_15_method_71_code, 2, none)
theorem d_ASB_inflateIfNeededFor_0 : decode M_ASB_inflateIfNeededFor.2.1 0 = .ok (.getstatic 18, 3) := by decide +kernel
theorem d_ASB_inflateIfNeededFor_3 : decode M_ASB_inflateIfNeededFor.2.1 3 = .ok (.ifCond .eq 18, 3) := by decide +kernel
theorem d_ASB_inflateIfNeededFor_6 : decode M_ASB_inflateIfNeededFor.2.1 6 = .ok (.aload_n 0, 1) := by decide +kernel
theorem d_ASB_inflateIfNeededFor_7 : decode M_ASB_inflateIfNeededFor.2.1 7 = .ok (.getfield 22, 3) := by decide +kernel
theorem d_ASB_inflateIfNeededFor_10 : decode M_ASB_inflateIfNeededFor.2.1 10 = .ok (.aload_n 1, 1) := by decide +kernel
theorem d_ASB_inflateIfNeededFor_11 : decode M_ASB_inflateIfNeededFor.2.1 11 = .ok (.invokevirtual 40, 3) := by decide +kernel
theorem xw_590 : (Jvm.Cond.methodLink "java/lang/AbstractStringBuilder" (40 : Nat) ({ cls := "java/lang/String", name := "coder", desc := "()B" } : Jvm.MethodName)) ∈ xT := xT_at 590 (by decide +kernel) (by decide +kernel)
theorem xcv_ASB_40_String : xCV "java/lang/AbstractStringBuilder" 40 "java/lang/String" M_String_coder 0 := ⟨xcb_String_coder, xw_426, Or.inl ⟨xw_590, Or.inl xw_427⟩⟩
theorem d_ASB_inflateIfNeededFor_14 : decode M_ASB_inflateIfNeededFor.2.1 14 = .ok (.if_icmp .eq 7, 3) := by decide +kernel
theorem d_ASB_inflateIfNeededFor_21 : decode M_ASB_inflateIfNeededFor.2.1 21 = .ok (.return_, 1) := by decide +kernel
abbrev y_ASB_putStringAt : MethodName := ⟨"java/lang/AbstractStringBuilder", "putStringAt", "(ILjava/lang/String;)V"⟩
abbrev M_ASB_putStringAt : XMt := (y_ASB_putStringAt, prog_15_method_73_code, 3, none)
theorem d_ASB_putStringAt_0 : decode M_ASB_putStringAt.2.1 0 = .ok (.aload_n 0, 1) := by decide +kernel
theorem d_ASB_putStringAt_1 : decode M_ASB_putStringAt.2.1 1 = .ok (.aload_n 2, 1) := by decide +kernel
theorem d_ASB_putStringAt_2 : decode M_ASB_putStringAt.2.1 2 = .ok (.invokevirtual 397, 3) := by decide +kernel
theorem xw_589 : (Jvm.Cond.code ({ cls := "java/lang/AbstractStringBuilder", name := "inflateIfNeededFor", desc := "(Ljava/lang/String;)V" } : Jvm.MethodName) prog_15_method_71_code (2 : Nat) (Option.none : Option Jvm.ClassFile.FieldType)) ∈ xT := xT_at 589 (by decide +kernel) (by decide +kernel)
theorem xcb_ASB_inflateIfNeededFor : xcb M_ASB_inflateIfNeededFor 1 := ⟨xw_589, xw_2, by decide, by decide, by decide, by decide +kernel⟩
theorem xw_588 : (Jvm.Cond.instanceMethod ({ cls := "java/lang/AbstractStringBuilder", name := "inflateIfNeededFor", desc := "(Ljava/lang/String;)V" } : Jvm.MethodName)) ∈ xT := xT_at 588 (by decide +kernel) (by decide +kernel)
theorem xw_586 : (Jvm.Cond.methodLink "java/lang/AbstractStringBuilder" (397 : Nat) ({ cls := "java/lang/AbstractStringBuilder", name := "inflateIfNeededFor", desc := "(Ljava/lang/String;)V" } : Jvm.MethodName)) ∈ xT := xT_at 586 (by decide +kernel) (by decide +kernel)
theorem xps_ASB_inflateIfNeededFor_SB : Cond.selects "java/lang/StringBuilder" y_ASB_inflateIfNeededFor y_ASB_inflateIfNeededFor ∈ xT := xT_ps (by decide +kernel) (by decide +kernel)
theorem xcv_ASB_397_SB : xCV "java/lang/AbstractStringBuilder" 397 "java/lang/StringBuilder" M_ASB_inflateIfNeededFor 1 := ⟨xcb_ASB_inflateIfNeededFor, xw_588, Or.inl ⟨xw_586, Or.inl xps_ASB_inflateIfNeededFor_SB⟩⟩
theorem d_ASB_putStringAt_5 : decode M_ASB_putStringAt.2.1 5 = .ok (.aload_n 2, 1) := by decide +kernel
theorem d_ASB_putStringAt_6 : decode M_ASB_putStringAt.2.1 6 = .ok (.aload_n 0, 1) := by decide +kernel
theorem d_ASB_putStringAt_7 : decode M_ASB_putStringAt.2.1 7 = .ok (.getfield 15, 3) := by decide +kernel
theorem d_ASB_putStringAt_10 : decode M_ASB_putStringAt.2.1 10 = .ok (.iload_n 1, 1) := by decide +kernel
theorem d_ASB_putStringAt_11 : decode M_ASB_putStringAt.2.1 11 = .ok (.aload_n 0, 1) := by decide +kernel
theorem d_ASB_putStringAt_12 : decode M_ASB_putStringAt.2.1 12 = .ok (.getfield 22, 3) := by decide +kernel
theorem d_ASB_putStringAt_15 : decode M_ASB_putStringAt.2.1 15 = .ok (.invokevirtual 399, 3) := by decide +kernel
theorem xw_594 : (Jvm.Cond.code ({ cls := "java/lang/String", name := "getBytes", desc := "([BIB)V" } : Jvm.MethodName) prog_25_method_147_code (4 : Nat) (Option.none : Option Jvm.ClassFile.FieldType)) ∈ xT := xT_at 594 (by decide +kernel) (by decide +kernel)
theorem xcb_String_getBytes : xcb M_String_getBytes 3 := ⟨xw_594, xw_4, by decide, by decide, by decide, by decide +kernel⟩
theorem xw_592 : (Jvm.Cond.instanceMethod ({ cls := "java/lang/String", name := "getBytes", desc := "([BIB)V" } : Jvm.MethodName)) ∈ xT := xT_at 592 (by decide +kernel) (by decide +kernel)
theorem xw_591 : (Jvm.Cond.methodLink "java/lang/AbstractStringBuilder" (399 : Nat) ({ cls := "java/lang/String", name := "getBytes", desc := "([BIB)V" } : Jvm.MethodName)) ∈ xT := xT_at 591 (by decide +kernel) (by decide +kernel)
theorem xw_593 : (Jvm.Cond.selects "java/lang/String" ({ cls := "java/lang/String", name := "getBytes", desc := "([BIB)V" } : Jvm.MethodName) ({ cls := "java/lang/String", name := "getBytes", desc := "([BIB)V" } : Jvm.MethodName)) ∈ xT := xT_at 593 (by decide +kernel) (by decide +kernel)
theorem xcv_ASB_399_String : xCV "java/lang/AbstractStringBuilder" 399 "java/lang/String" M_String_getBytes 3 := ⟨xcb_String_getBytes, xw_592, Or.inl ⟨xw_591, Or.inl xw_593⟩⟩
theorem d_ASB_putStringAt_18 : decode M_ASB_putStringAt.2.1 18 = .ok (.return_, 1) := by decide +kernel
abbrev y_ASB_append_String : MethodName := ⟨"java/lang/AbstractStringBuilder", "append", "(Ljava/lang/String;)Ljava/lang/AbstractStringBuilder;"⟩
abbrev M_ASB_append_String : XMt := (y_ASB_append_String, prog_15_method_22_code, 3, (some (.object "java/lang/AbstractStringBuilder")))
theorem d_ASB_append_String_24 : decode M_ASB_append_String.2.1 24 = .ok (.aload_n 0, 1) := by decide +kernel
theorem d_ASB_append_String_25 : decode M_ASB_append_String.2.1 25 = .ok (.aload_n 0, 1) := by decide +kernel
theorem d_ASB_append_String_26 : decode M_ASB_append_String.2.1 26 = .ok (.getfield 79, 3) := by decide +kernel
theorem d_ASB_append_String_29 : decode M_ASB_append_String.2.1 29 = .ok (.aload_n 1, 1) := by decide +kernel
theorem d_ASB_append_String_30 : decode M_ASB_append_String.2.1 30 = .ok (.invokevirtual 208, 3) := by decide +kernel
theorem xw_585 : (Jvm.Cond.code ({ cls := "java/lang/AbstractStringBuilder", name := "putStringAt", desc := "(ILjava/lang/String;)V" } : Jvm.MethodName) prog_15_method_73_code (3 : Nat) (Option.none : Option Jvm.ClassFile.FieldType)) ∈ xT := xT_at 585 (by decide +kernel) (by decide +kernel)
theorem xcb_ASB_putStringAt : xcb M_ASB_putStringAt 2 := ⟨xw_585, xw_2, by decide, by decide, by decide, by decide +kernel⟩
theorem xw_584 : (Jvm.Cond.instanceMethod ({ cls := "java/lang/AbstractStringBuilder", name := "putStringAt", desc := "(ILjava/lang/String;)V" } : Jvm.MethodName)) ∈ xT := xT_at 584 (by decide +kernel) (by decide +kernel)
theorem xw_582 : (Jvm.Cond.methodLink "java/lang/AbstractStringBuilder" (208 : Nat) ({ cls := "java/lang/AbstractStringBuilder", name := "putStringAt", desc := "(ILjava/lang/String;)V" } : Jvm.MethodName)) ∈ xT := xT_at 582 (by decide +kernel) (by decide +kernel)
theorem xps_ASB_putStringAt_SB : Cond.selects "java/lang/StringBuilder" y_ASB_putStringAt y_ASB_putStringAt ∈ xT := xT_ps (by decide +kernel) (by decide +kernel)
theorem xcv_ASB_208_SB : xCV "java/lang/AbstractStringBuilder" 208 "java/lang/StringBuilder" M_ASB_putStringAt 2 := ⟨xcb_ASB_putStringAt, xw_584, Or.inl ⟨xw_582, Or.inl xps_ASB_putStringAt_SB⟩⟩
theorem d_ASB_append_String_33 : decode M_ASB_append_String.2.1 33 = .ok (.aload_n 0, 1) := by decide +kernel
theorem d_ASB_append_String_34 : decode M_ASB_append_String.2.1 34 = .ok (.dup, 1) := by decide +kernel
theorem d_ASB_append_String_35 : decode M_ASB_append_String.2.1 35 = .ok (.getfield 79, 3) := by decide +kernel
theorem d_ASB_append_String_38 : decode M_ASB_append_String.2.1 38 = .ok (.iload_n 2, 1) := by decide +kernel
theorem d_ASB_append_String_39 : decode M_ASB_append_String.2.1 39 = .ok (.iadd, 1) := by decide +kernel
theorem d_ASB_append_String_40 : decode M_ASB_append_String.2.1 40 = .ok (.putfield 79, 3) := by decide +kernel
theorem d_ASB_append_String_43 : decode M_ASB_append_String.2.1 43 = .ok (.aload_n 0, 1) := by decide +kernel
theorem d_ASB_append_String_44 : decode M_ASB_append_String.2.1 44 = .ok (.areturn, 1) := by decide +kernel
theorem d_ASB_append_String_0 : decode M_ASB_append_String.2.1 0 = .ok (.aload_n 1, 1) := by decide +kernel
theorem d_ASB_append_String_1 : decode M_ASB_append_String.2.1 1 = .ok (.ifnonnull 8, 3) := by decide +kernel
theorem d_ASB_append_String_9 : decode M_ASB_append_String.2.1 9 = .ok (.aload_n 1, 1) := by decide +kernel
theorem d_ASB_append_String_10 : decode M_ASB_append_String.2.1 10 = .ok (.invokevirtual 32, 3) := by decide +kernel
theorem xw_581 : (Jvm.Cond.methodLink "java/lang/AbstractStringBuilder" (32 : Nat) ({ cls := "java/lang/String", name := "length", desc := "()I" } : Jvm.MethodName)) ∈ xT := xT_at 581 (by decide +kernel) (by decide +kernel)
theorem xcv_ASB_32_String : xCV "java/lang/AbstractStringBuilder" 32 "java/lang/String" M_String_length 0 := ⟨xcb_String_length, xw_422, Or.inl ⟨xw_581, Or.inl xw_423⟩⟩
theorem d_ASB_append_String_13 : decode M_ASB_append_String.2.1 13 = .ok (.istore_n 2, 1) := by decide +kernel
theorem d_ASB_append_String_14 : decode M_ASB_append_String.2.1 14 = .ok (.aload_n 0, 1) := by decide +kernel
theorem d_ASB_append_String_15 : decode M_ASB_append_String.2.1 15 = .ok (.aload_n 0, 1) := by decide +kernel
theorem d_ASB_append_String_16 : decode M_ASB_append_String.2.1 16 = .ok (.getfield 79, 3) := by decide +kernel
theorem d_ASB_append_String_19 : decode M_ASB_append_String.2.1 19 = .ok (.iload_n 2, 1) := by decide +kernel
theorem d_ASB_append_String_20 : decode M_ASB_append_String.2.1 20 = .ok (.iadd, 1) := by decide +kernel
theorem d_ASB_append_String_21 : decode M_ASB_append_String.2.1 21 = .ok (.invokevirtual 100, 3) := by decide +kernel
abbrev y_SB_append_String : MethodName := ⟨"java/lang/StringBuilder", "append", "(Ljava/lang/String;)Ljava/lang/StringBuilder;"⟩
abbrev M_SB_append_String : XMt := (y_SB_append_String, prog_26_method_7_code, 2, (some (.object "java/lang/StringBuilder")))
theorem d_SB_append_String_0 : decode M_SB_append_String.2.1 0 = .ok (.aload_n 0, 1) := by decide +kernel
theorem d_SB_append_String_1 : decode M_SB_append_String.2.1 1 = .ok (.aload_n 1, 1) := by decide +kernel
theorem d_SB_append_String_2 : decode M_SB_append_String.2.1 2 = .ok (.invokespecial 29, 3) := by decide +kernel
theorem xw_573 : (Jvm.Cond.code ({ cls := "java/lang/AbstractStringBuilder", name := "append", desc := "(Ljava/lang/String;)Ljava/lang/AbstractStringBuilder;" } : Jvm.MethodName) prog_15_method_22_code (3 : Nat) (Option.some (Jvm.ClassFile.FieldType.object "java/lang/AbstractStringBuilder"))) ∈ xT := xT_at 573 (by decide +kernel) (by decide +kernel)
theorem xcb_ASB_append_String : xcb M_ASB_append_String 1 := ⟨xw_573, xw_2, by decide, by decide, by decide, by decide +kernel⟩
theorem xw_572 : (Jvm.Cond.instanceMethod ({ cls := "java/lang/AbstractStringBuilder", name := "append", desc := "(Ljava/lang/String;)Ljava/lang/AbstractStringBuilder;" } : Jvm.MethodName)) ∈ xT := xT_at 572 (by decide +kernel) (by decide +kernel)
theorem xw_571 : (Jvm.Cond.methodLink "java/lang/StringBuilder" (29 : Nat) ({ cls := "java/lang/AbstractStringBuilder", name := "append", desc := "(Ljava/lang/String;)Ljava/lang/AbstractStringBuilder;" } : Jvm.MethodName)) ∈ xT := xT_at 571 (by decide +kernel) (by decide +kernel)
theorem xw_1609 : (Jvm.Cond.sameMethod "java/lang/AbstractStringBuilder" "java/lang/AbstractStringBuilder" "append" "(Ljava/lang/String;)Ljava/lang/AbstractStringBuilder;") ∈ xT := xT_at 1609 (by decide +kernel) (by decide +kernel)
theorem xcu_SB_29 : xCU "java/lang/StringBuilder" 29 M_ASB_append_String 1 := ⟨xcb_ASB_append_String, by decide, xw_572, xw_571, xw_1609, xw_73⟩
theorem d_SB_append_String_5 : decode M_SB_append_String.2.1 5 = .ok (.pop, 1) := by decide +kernel
theorem d_SB_append_String_6 : decode M_SB_append_String.2.1 6 = .ok (.aload_n 0, 1) := by decide +kernel
theorem d_SB_append_String_7 : decode M_SB_append_String.2.1 7 = .ok (.areturn, 1) := by decide +kernel
abbrev y_SL1_indexOfChar : MethodName := ⟨"java/lang/StringLatin1", "indexOfChar", "([BIII)I"⟩
abbrev M_SL1_indexOfChar : XMt := (y_SL1_indexOfChar, prog_27_method_23_code, 6, (some .int))
theorem d_SL1_indexOfChar_7 : decode M_SL1_indexOfChar.2.1 7 = .ok (.iload 5, 2) := by decide +kernel
theorem d_SL1_indexOfChar_9 : decode M_SL1_indexOfChar.2.1 9 = .ok (.iload_n 3, 1) := by decide +kernel
theorem d_SL1_indexOfChar_10 : decode M_SL1_indexOfChar.2.1 10 = .ok (.if_icmp .ge 21, 3) := by decide +kernel
theorem d_SL1_indexOfChar_31 : decode M_SL1_indexOfChar.2.1 31 = .ok (.iconst (-1), 1) := by decide +kernel
theorem d_SL1_indexOfChar_32 : decode M_SL1_indexOfChar.2.1 32 = .ok (.ireturn, 1) := by decide +kernel
theorem d_SL1_indexOfChar_13 : decode M_SL1_indexOfChar.2.1 13 = .ok (.aload_n 0, 1) := by decide +kernel
theorem d_SL1_indexOfChar_14 : decode M_SL1_indexOfChar.2.1 14 = .ok (.iload 5, 2) := by decide +kernel
theorem d_SL1_indexOfChar_16 : decode M_SL1_indexOfChar.2.1 16 = .ok (.baload, 1) := by decide +kernel
theorem d_SL1_indexOfChar_17 : decode M_SL1_indexOfChar.2.1 17 = .ok (.iload 4, 2) := by decide +kernel
theorem d_SL1_indexOfChar_19 : decode M_SL1_indexOfChar.2.1 19 = .ok (.if_icmp .ne 6, 3) := by decide +kernel
theorem d_SL1_indexOfChar_22 : decode M_SL1_indexOfChar.2.1 22 = .ok (.iload 5, 2) := by decide +kernel
theorem d_SL1_indexOfChar_24 : decode M_SL1_indexOfChar.2.1 24 = .ok (.ireturn, 1) := by decide +kernel
theorem d_SL1_indexOfChar_25 : decode M_SL1_indexOfChar.2.1 25 = .ok (.iinc 5 1, 3) := by decide +kernel
theorem d_SL1_indexOfChar_28 : decode M_SL1_indexOfChar.2.1 28 = .ok (.goto (-21), 3) := by decide +kernel
abbrev y_SL1_canEncode_I : MethodName := ⟨"java/lang/StringLatin1", "canEncode", "(I)Z"⟩
abbrev M_SL1_canEncode_I : XMt := (y_SL1_canEncode_I, prog_27_method_4_code, 1, (some .boolean))
theorem d_SL1_canEncode_I_0 : decode M_SL1_canEncode_I.2.1 0 = .ok (.iload_n 0, 1) := by decide +kernel
theorem d_SL1_canEncode_I_1 : decode M_SL1_canEncode_I.2.1 1 = .ok (.ifCond .lt 14, 3) := by decide +kernel
theorem d_SL1_canEncode_I_4 : decode M_SL1_canEncode_I.2.1 4 = .ok (.iload_n 0, 1) := by decide +kernel
theorem d_SL1_canEncode_I_5 : decode M_SL1_canEncode_I.2.1 5 = .ok (.sipush 255, 3) := by decide +kernel
theorem d_SL1_canEncode_I_8 : decode M_SL1_canEncode_I.2.1 8 = .ok (.if_icmp .gt 7, 3) := by decide +kernel
theorem d_SL1_canEncode_I_11 : decode M_SL1_canEncode_I.2.1 11 = .ok (.iconst 1, 1) := by decide +kernel
theorem d_SL1_canEncode_I_12 : decode M_SL1_canEncode_I.2.1 12 = .ok (.goto 4, 3) := by decide +kernel
theorem d_SL1_canEncode_I_16 : decode M_SL1_canEncode_I.2.1 16 = .ok (.ireturn, 1) := by decide +kernel
theorem d_SL1_indexOfChar_0 : decode M_SL1_indexOfChar.2.1 0 = .ok (.iload_n 1, 1) := by decide +kernel
theorem d_SL1_indexOfChar_1 : decode M_SL1_indexOfChar.2.1 1 = .ok (.i2b, 1) := by decide +kernel
theorem d_SL1_indexOfChar_2 : decode M_SL1_indexOfChar.2.1 2 = .ok (.istore 4, 2) := by decide +kernel
theorem d_SL1_indexOfChar_4 : decode M_SL1_indexOfChar.2.1 4 = .ok (.iload_n 2, 1) := by decide +kernel
theorem d_SL1_indexOfChar_5 : decode M_SL1_indexOfChar.2.1 5 = .ok (.istore 5, 2) := by decide +kernel
abbrev y_SL1_indexOf : MethodName := ⟨"java/lang/StringLatin1", "indexOf", "([BIII)I"⟩
abbrev M_SL1_indexOf : XMt := (y_SL1_indexOf, prog_27_method_22_code, 4, (some .int))
theorem d_SL1_indexOf_0 : decode M_SL1_indexOf.2.1 0 = .ok (.iload_n 1, 1) := by decide +kernel
theorem d_SL1_indexOf_1 : decode M_SL1_indexOf.2.1 1 = .ok (.invokestatic 88, 3) := by decide +kernel
theorem xw_773 : (Jvm.Cond.code ({ cls := "java/lang/StringLatin1", name := "canEncode", desc := "(I)Z" } : Jvm.MethodName) prog_27_method_4_code (1 : Nat) (Option.some Jvm.ClassFile.FieldType.boolean)) ∈ xT := xT_at 773 (by decide +kernel) (by decide +kernel)
theorem xcb_SL1_canEncode_I : xcb M_SL1_canEncode_I 1 := ⟨xw_773, xw_13, by decide, by decide, by decide, by decide +kernel⟩
theorem xw_771 : (Jvm.Cond.methodLink "java/lang/StringLatin1" (88 : Nat) ({ cls := "java/lang/StringLatin1", name := "canEncode", desc := "(I)Z" } : Jvm.MethodName)) ∈ xT := xT_at 771 (by decide +kernel) (by decide +kernel)
theorem xw_772 : (Jvm.Cond.static ({ cls := "java/lang/StringLatin1", name := "canEncode", desc := "(I)Z" } : Jvm.MethodName)) ∈ xT := xT_at 772 (by decide +kernel) (by decide +kernel)
theorem xcs_SL1_88 : xCS "java/lang/StringLatin1" 88 M_SL1_canEncode_I 1 := ⟨xcb_SL1_canEncode_I, xw_772, Or.inl xw_771⟩
theorem d_SL1_indexOf_4 : decode M_SL1_indexOf.2.1 4 = .ok (.ifCond .ne 5, 3) := by decide +kernel
theorem d_SL1_indexOf_9 : decode M_SL1_indexOf.2.1 9 = .ok (.iload_n 2, 1) := by decide +kernel
theorem d_SL1_indexOf_10 : decode M_SL1_indexOf.2.1 10 = .ok (.iconst 0, 1) := by decide +kernel
theorem d_SL1_indexOf_11 : decode M_SL1_indexOf.2.1 11 = .ok (.invokestatic 92, 3) := by decide +kernel
theorem xw_774 : (Jvm.Cond.methodLink "java/lang/StringLatin1" (92 : Nat) ({ cls := "java/lang/Math", name := "max", desc := "(II)I" } : Jvm.MethodName)) ∈ xT := xT_at 774 (by decide +kernel) (by decide +kernel)
theorem d_SL1_indexOf_14 : decode M_SL1_indexOf.2.1 14 = .ok (.istore_n 2, 1) := by decide +kernel
theorem d_SL1_indexOf_15 : decode M_SL1_indexOf.2.1 15 = .ok (.iload_n 3, 1) := by decide +kernel
theorem d_SL1_indexOf_16 : decode M_SL1_indexOf.2.1 16 = .ok (.aload_n 0, 1) := by decide +kernel
theorem d_SL1_indexOf_17 : decode M_SL1_indexOf.2.1 17 = .ok (.arraylength, 1) := by decide +kernel
theorem d_SL1_indexOf_18 : decode M_SL1_indexOf.2.1 18 = .ok (.invokestatic 38, 3) := by decide +kernel
theorem xw_775 : (Jvm.Cond.methodLink "java/lang/StringLatin1" (38 : Nat) ({ cls := "java/lang/Math", name := "min", desc := "(II)I" } : Jvm.MethodName)) ∈ xT := xT_at 775 (by decide +kernel) (by decide +kernel)
theorem d_SL1_indexOf_21 : decode M_SL1_indexOf.2.1 21 = .ok (.istore_n 3, 1) := by decide +kernel
theorem d_SL1_indexOf_22 : decode M_SL1_indexOf.2.1 22 = .ok (.iload_n 2, 1) := by decide +kernel
theorem d_SL1_indexOf_23 : decode M_SL1_indexOf.2.1 23 = .ok (.iload_n 3, 1) := by decide +kernel
theorem d_SL1_indexOf_24 : decode M_SL1_indexOf.2.1 24 = .ok (.if_icmp .lt 5, 3) := by decide +kernel
theorem d_SL1_indexOf_27 : decode M_SL1_indexOf.2.1 27 = .ok (.iconst (-1), 1) := by decide +kernel
theorem d_SL1_indexOf_28 : decode M_SL1_indexOf.2.1 28 = .ok (.ireturn, 1) := by decide +kernel
theorem d_SL1_indexOf_29 : decode M_SL1_indexOf.2.1 29 = .ok (.aload_n 0, 1) := by decide +kernel
theorem d_SL1_indexOf_30 : decode M_SL1_indexOf.2.1 30 = .ok (.iload_n 1, 1) := by decide +kernel
theorem d_SL1_indexOf_31 : decode M_SL1_indexOf.2.1 31 = .ok (.iload_n 2, 1) := by decide +kernel
theorem d_SL1_indexOf_32 : decode M_SL1_indexOf.2.1 32 = .ok (.iload_n 3, 1) := by decide +kernel
theorem d_SL1_indexOf_33 : decode M_SL1_indexOf.2.1 33 = .ok (.invokestatic 95, 3) := by decide +kernel
theorem xw_778 : (Jvm.Cond.code ({ cls := "java/lang/StringLatin1", name := "indexOfChar", desc := "([BIII)I" } : Jvm.MethodName) prog_27_method_23_code (6 : Nat) (Option.some Jvm.ClassFile.FieldType.int)) ∈ xT := xT_at 778 (by decide +kernel) (by decide +kernel)
theorem xcb_SL1_indexOfChar : xcb M_SL1_indexOfChar 4 := ⟨xw_778, xw_13, by decide, by decide, by decide, by decide +kernel⟩
theorem xw_776 : (Jvm.Cond.methodLink "java/lang/StringLatin1" (95 : Nat) ({ cls := "java/lang/StringLatin1", name := "indexOfChar", desc := "([BIII)I" } : Jvm.MethodName)) ∈ xT := xT_at 776 (by decide +kernel) (by decide +kernel)
theorem xw_777 : (Jvm.Cond.static ({ cls := "java/lang/StringLatin1", name := "indexOfChar", desc := "([BIII)I" } : Jvm.MethodName)) ∈ xT := xT_at 777 (by decide +kernel) (by decide +kernel)
theorem xcs_SL1_95 : xCS "java/lang/StringLatin1" 95 M_SL1_indexOfChar 4 := ⟨xcb_SL1_indexOfChar, xw_777, Or.inl xw_776⟩
theorem d_SL1_indexOf_36 : decode M_SL1_indexOf.2.1 36 = .ok (.ireturn, 1) := by decide +kernel
abbrev y_String_indexOf_II : MethodName := ⟨"java/lang/String", "indexOf", "(II)I"⟩
abbrev M_String_indexOf_II : XMt := (y_String_indexOf_II, prog_25_method_80_code, 3, (some .int))
theorem d_String_indexOf_II_0 : decode M_String_indexOf_II.2.1 0 = .ok (.aload_n 0, 1) := by decide +kernel
theorem d_String_indexOf_II_1 : decode M_String_indexOf_II.2.1 1 = .ok (.invokevirtual 492, 3) := by decide +kernel
theorem d_String_indexOf_II_4 : decode M_String_indexOf_II.2.1 4 = .ok (.ifCond .eq 19, 3) := by decide +kernel
theorem d_String_indexOf_II_7 : decode M_String_indexOf_II.2.1 7 = .ok (.aload_n 0, 1) := by decide +kernel
theorem d_String_indexOf_II_8 : decode M_String_indexOf_II.2.1 8 = .ok (.getfield 9, 3) := by decide +kernel
theorem d_String_indexOf_II_11 : decode M_String_indexOf_II.2.1 11 = .ok (.iload_n 1, 1) := by decide +kernel
theorem d_String_indexOf_II_12 : decode M_String_indexOf_II.2.1 12 = .ok (.iload_n 2, 1) := by decide +kernel
theorem d_String_indexOf_II_13 : decode M_String_indexOf_II.2.1 13 = .ok (.aload_n 0, 1) := by decide +kernel
theorem d_String_indexOf_II_14 : decode M_String_indexOf_II.2.1 14 = .ok (.invokevirtual 505, 3) := by decide +kernel
theorem d_String_indexOf_II_17 : decode M_String_indexOf_II.2.1 17 = .ok (.invokestatic 637, 3) := by decide +kernel
theorem xw_770 : (Jvm.Cond.code ({ cls := "java/lang/StringLatin1", name := "indexOf", desc := "([BIII)I" } : Jvm.MethodName) prog_27_method_22_code (4 : Nat) (Option.some Jvm.ClassFile.FieldType.int)) ∈ xT := xT_at 770 (by decide +kernel) (by decide +kernel)
theorem xcb_SL1_indexOf : xcb M_SL1_indexOf 4 := ⟨xw_770, xw_13, by decide, by decide, by decide, by decide +kernel⟩
theorem xw_768 : (Jvm.Cond.methodLink "java/lang/String" (637 : Nat) ({ cls := "java/lang/StringLatin1", name := "indexOf", desc := "([BIII)I" } : Jvm.MethodName)) ∈ xT := xT_at 768 (by decide +kernel) (by decide +kernel)
theorem xw_769 : (Jvm.Cond.static ({ cls := "java/lang/StringLatin1", name := "indexOf", desc := "([BIII)I" } : Jvm.MethodName)) ∈ xT := xT_at 769 (by decide +kernel) (by decide +kernel)
theorem xcs_String_637 : xCS "java/lang/String" 637 M_SL1_indexOf 4 := ⟨xcb_SL1_indexOf, xw_769, Or.inl xw_768⟩
theorem d_String_indexOf_II_20 : decode M_String_indexOf_II.2.1 20 = .ok (.goto 16, 3) := by decide +kernel
theorem d_String_indexOf_II_36 : decode M_String_indexOf_II.2.1 36 = .ok (.ireturn, 1) := by decide +kernel
abbrev y_String_indexOf_I : MethodName := ⟨"java/lang/String", "indexOf", "(I)I"⟩
abbrev M_String_indexOf_I : XMt := (y_String_indexOf_I, prog_25_method_79_code, 2, (some .int))
theorem d_String_indexOf_I_0 : decode M_String_indexOf_I.2.1 0 = .ok (.aload_n 0, 1) := by decide +kernel
theorem d_String_indexOf_I_1 : decode M_String_indexOf_I.2.1 1 = .ok (.iload_n 1, 1) := by decide +kernel
theorem d_String_indexOf_I_2 : decode M_String_indexOf_I.2.1 2 = .ok (.iconst 0, 1) := by decide +kernel
theorem d_String_indexOf_I_3 : decode M_String_indexOf_I.2.1 3 = .ok (.invokevirtual 633, 3) := by decide +kernel
theorem xw_766 : (Jvm.Cond.code ({ cls := "java/lang/String", name := "indexOf", desc := "(II)I" } : Jvm.MethodName) prog_25_method_80_code (3 : Nat) (Option.some Jvm.ClassFile.FieldType.int)) ∈ xT := xT_at 766 (by decide +kernel) (by decide +kernel)
theorem xcb_String_indexOf_II : xcb M_String_indexOf_II 2 := ⟨xw_766, xw_4, by decide, by decide, by decide, by decide +kernel⟩
theorem xw_764 : (Jvm.Cond.instanceMethod ({ cls := "java/lang/String", name := "indexOf", desc := "(II)I" } : Jvm.MethodName)) ∈ xT := xT_at 764 (by decide +kernel) (by decide +kernel)
theorem xw_763 : (Jvm.Cond.methodLink "java/lang/String" (633 : Nat) ({ cls := "java/lang/String", name := "indexOf", desc := "(II)I" } : Jvm.MethodName)) ∈ xT := xT_at 763 (by decide +kernel) (by decide +kernel)
theorem xw_765 : (Jvm.Cond.selects "java/lang/String" ({ cls := "java/lang/String", name := "indexOf", desc := "(II)I" } : Jvm.MethodName) ({ cls := "java/lang/String", name := "indexOf", desc := "(II)I" } : Jvm.MethodName)) ∈ xT := xT_at 765 (by decide +kernel) (by decide +kernel)
theorem xcv_String_633_String : xCV "java/lang/String" 633 "java/lang/String" M_String_indexOf_II 2 := ⟨xcb_String_indexOf_II, xw_764, Or.inl ⟨xw_763, Or.inl xw_765⟩⟩
theorem d_String_indexOf_I_6 : decode M_String_indexOf_I.2.1 6 = .ok (.ireturn, 1) := by decide +kernel
end
section SB5
variable {l : Launch} {G : XG} {h : XH} {c n d : Nat}
theorem c_getBytes (hd : 1 ≤ d) {b va p : Nat} {u : List Nat} {vs : List Value} (hS : isS G h b u) (hv : h va = some (k_abyte, vs)) (hp : p + u.length ≤ vs.length) (hl : vs.length < 2 ^ 20) : XM l G d M_String_getBytes [.ref b, .ref va, .int (nI p), .int 0] h c n (fun v h' c' n' => v = none ∧ h' = xup h va (k_abyte, xcopy (xby u) vs 0 p u.length) ∧ c' = c ∧ n' = n) := by
  obtain ⟨d, rfl⟩ : ∃ q, d = q + 1 := ⟨d - 1, by omega⟩
  obtain ⟨vb, e, hb, hvb, hat⟩ := hS
  refine XM.of (by decide +kernel) (Nat.le_of_ble_eq_true rfl) ?_
  refine x_aload_n d_String_getBytes_0 rfl rfl ?_
  refine x_callV (As := []) (k := k_String) rfl xcv_String_335_String hb (c_String_coder hb) rfl rfl (Nat.le_of_ble_eq_true rfl) d_String_getBytes_1 ?_
  rintro v h' c' n' ⟨rfl, rfl, rfl, rfl⟩
  refine x_iload_n d_String_getBytes_4 rfl ?_
  refine x_icmp_ne (tgt := 28) d_String_getBytes_5 (by decide) (fun ht => absurd rfl ht) (fun _ => ?_)
  refine x_aload_n d_String_getBytes_8 rfl rfl ?_
  refine x_get xf_String_9_String hb rfl d_String_getBytes_9 ?_
  refine x_iconst (v := 0) d_String_getBytes_12 (by decide) ?_
  refine x_aload_n d_String_getBytes_13 rfl rfl ?_
  refine x_iload_n d_String_getBytes_14 rfl ?_
  refine x_iload_n d_String_getBytes_15 rfl ?_
  refine x_ishl d_String_getBytes_16 ?_
  refine x_top (w := .int (nI p)) (by rw [sb_shl0]) ?_
  refine x_aload_n d_String_getBytes_17 rfl rfl ?_
  refine x_get xf_String_9_String hb rfl d_String_getBytes_18 ?_
  refine x_alen (k := k_asbyte) rfl hvb (v := nI u.length) (by rw [xby_len]; rfl) d_String_getBytes_21 ?_
  refine x_copyP (k0 := k_asbyte) (k := k_abyte) rfl rfl rfl xw_595 xw_220 xw_219 xw_12 hvb hv (by decide) (nI_pos (by omega)) (nI_pos (by omega)) (by rw [nI_clamp (by omega), xby_len]; exact Nat.le_of_eq (by simp)) (by rw [nI_clamp (by omega), nI_clamp (by omega)]; exact hp) (xby_fit hat) (Nat.le_of_ble_eq_true rfl) d_String_getBytes_22 ?_
  refine x_goto (tgt := 43) d_String_getBytes_25 (by decide) ?_
  refine x_vret d_String_getBytes_43 rfl ?_
  exact ⟨rfl, by rw [nI_clamp (by omega), nI_clamp (by omega)]; rfl, rfl, rfl⟩
theorem c_inflateIf (hd : 1 ≤ d) {a va b : Nat} {z k : Value} {u : List Nat} (ha : h a = some (k_StringBuilder, [.ref va, .int 0, z, k])) (hS : isS G h b u) : XM l G d M_ASB_inflateIfNeededFor [.ref a, .ref b] h c n (xVoid h c n) := by
  obtain ⟨d, rfl⟩ : ∃ q, d = q + 1 := ⟨d - 1, by omega⟩
  obtain ⟨vb, e, hb, hvb, hat⟩ := hS
  refine XM.of (by decide +kernel) (Nat.le_of_ble_eq_true rfl) ?_
  refine x_gets xw_51 (List.mem_of_getElem? (i := 0) rfl) d_ASB_inflateIfNeededFor_0 ?_
  refine x_if_eq (tgt := 21) d_ASB_inflateIfNeededFor_3 (by decide) (fun ht => absurd ht (by decide)) (fun _ => ?_)
  refine x_aload_n d_ASB_inflateIfNeededFor_6 rfl rfl ?_
  refine x_get xf_ASB_22_SB (Or.inl ha) rfl d_ASB_inflateIfNeededFor_7 ?_
  refine x_aload_n d_ASB_inflateIfNeededFor_10 rfl rfl ?_
  refine x_callV (As := []) (k := k_String) rfl xcv_ASB_40_String hb (c_String_coder hb) rfl rfl (Nat.le_of_ble_eq_true rfl) d_ASB_inflateIfNeededFor_11 ?_
  rintro v h' c' n' ⟨rfl, rfl, rfl, rfl⟩
  refine x_icmp_eq (tgt := 21) d_ASB_inflateIfNeededFor_14 (by decide) (fun _ => ?_) (fun hn => absurd rfl hn)
  refine x_vret d_ASB_inflateIfNeededFor_21 rfl ?_
  exact ⟨rfl, rfl, rfl, rfl⟩
theorem c_putStringAt (hd : 2 ≤ d) {a va b p : Nat} {z k : Value} {u : List Nat} {vs : List Value} (ha : h a = some (k_StringBuilder, [.ref va, .int 0, z, k])) (hS : isS G h b u) (hv : h va = some (k_abyte, vs)) (hp : p + u.length ≤ vs.length) (hl : vs.length < 2 ^ 20) : XM l G d M_ASB_putStringAt [.ref a, .int (nI p), .ref b] h c n (fun v h' c' n' => v = none ∧ h' = xup h va (k_abyte, xcopy (xby u) vs 0 p u.length) ∧ c' = c ∧ n' = n) := by
  obtain ⟨d, rfl⟩ : ∃ q, d = q + 1 := ⟨d - 1, by omega⟩
  obtain ⟨vb, e, hb, hvb, hat⟩ := id hS
  refine XM.of (by decide +kernel) (Nat.le_of_ble_eq_true rfl) ?_
  refine x_aload_n d_ASB_putStringAt_0 rfl rfl ?_
  refine x_aload_n d_ASB_putStringAt_1 rfl rfl ?_
  refine x_callV (As := [_]) (k := k_StringBuilder) rfl xcv_ASB_397_SB (Or.inl ha) (c_inflateIf (by omega) ha hS) rfl rfl (Nat.le_of_ble_eq_true rfl) d_ASB_putStringAt_2 ?_
  rintro v h' c' n' ⟨rfl, rfl, rfl, rfl⟩
  refine x_aload_n d_ASB_putStringAt_5 rfl rfl ?_
  refine x_aload_n d_ASB_putStringAt_6 rfl rfl ?_
  refine x_get xf_ASB_15_SB (Or.inl ha) rfl d_ASB_putStringAt_7 ?_
  refine x_iload_n d_ASB_putStringAt_10 rfl ?_
  refine x_aload_n d_ASB_putStringAt_11 rfl rfl ?_
  refine x_get xf_ASB_22_SB (Or.inl ha) rfl d_ASB_putStringAt_12 ?_
  refine x_callV (As := [_, _, _]) (k := k_String) rfl xcv_ASB_399_String hb (c_getBytes (by omega) hS hv hp hl) rfl rfl (Nat.le_of_ble_eq_true rfl) d_ASB_putStringAt_15 ?_
  rintro v h' c' n' ⟨rfl, rfl, rfl, rfl⟩
  refine x_vret d_ASB_putStringAt_18 rfl ?_
  exact ⟨rfl, rfl, rfl, rfl⟩
theorem xcopy_end {t u : List Nat} {bs : List Value} (hb : u.length ≤ bs.length) : xcopy (xby u) (xby t ++ bs) 0 t.length u.length = xby (t ++ u) ++ bs.drop u.length := by
  unfold xcopy
  rw [List.take_append_of_le_length (by rw [xby_len]; exact Nat.le_refl _), List.take_of_length_le (by rw [xby_len]; exact Nat.le_refl _), List.drop_zero, List.take_of_length_le (by rw [xby_len]; exact Nat.le_refl _)]
  rw [← xby_len t, List.drop_append, xby_len]
  simp [xby]
theorem c_ASB_append_S (hd : 4 ≤ d) {K a va b m : Nat} {t u : List Nat} (hB : isB h a va t m) (hS : isS G h b u) (hK : K < 2 ^ 16) (hm : m ≤ K) (hL : 2 * (t.length + u.length) + 2 ≤ K) (hc : c + K ≤ xCB + m) (hn : n + 2 * K ≤ xSB + 2 * m) : XM l G d M_ASB_append_String [.ref a, .ref b] h c n (fun v h' c' n' => v = some (.ref a) ∧ pB K a va (t ++ u) m h c n h' c' n') := by
  obtain ⟨d, rfl⟩ : ∃ q, d = q + 1 := ⟨d - 1, by omega⟩
  obtain ⟨z, bs, ha, hv, hl, hbf, hat⟩ := hB
  obtain ⟨vb, e, hb, hvb, hbt⟩ := id hS
  have hat' : xasc (t ++ u) := fun x hx => (List.mem_append.mp hx).elim (hat x) (hbt x)
  have hav : a ≠ va := fun e => by rw [e, hv] at ha; cases ha
  have hvl : (xby t ++ bs).length = m := by rw [List.length_append, xby_len]; exact hl
  have fin : ∀ (h1 : XH) (v1 : Nat) (bs1 : List Value) (c1 n1 : Nat), isS G h1 b u → h1 a = some (k_StringBuilder, [.ref v1, .int 0, .int z, .int (nI t.length)]) → h1 v1 = some (k_abyte, xby t ++ bs1) → u.length ≤ bs1.length → bs1.length < 2 ^ 18 → a ≠ v1 →
      pB K a va (t ++ u) m h c n (xup (xup h1 v1 (k_abyte, xby (t ++ u) ++ bs1.drop u.length)) a (k_StringBuilder, [.ref v1, .int 0, .int z, .int (nI (t ++ u).length)])) c1 n1 →
      XW l G M_ASB_append_String (d + 1) 24 [some (.ref a), some (.ref b), some (.int (nI u.length))] [] h1 c1 n1 (fun v h' c' n' => v = some (.ref a) ∧ pB K a va (t ++ u) m h c n h' c' n') := by
    intro h1 v1 bs1 c1 n1 hS1 e1 e2 e3 e3' e4 hP
    obtain ⟨vb1, x1, hb1, -⟩ := id hS1
    refine x_aload_n d_ASB_append_String_24 rfl rfl ?_
    refine x_aload_n d_ASB_append_String_25 rfl rfl ?_
    refine x_get xf_ASB_79_SB (Or.inl e1) rfl d_ASB_append_String_26 ?_
    refine x_aload_n d_ASB_append_String_29 rfl rfl ?_
    refine x_callV (As := [_, _]) (k := k_StringBuilder) rfl xcv_ASB_208_SB (Or.inl e1) (c_putStringAt (by omega) e1 hS1 e2 (p := t.length) (by rw [List.length_append, xby_len]; omega) (by rw [List.length_append, xby_len]; omega)) rfl rfl (Nat.le_of_ble_eq_true rfl) d_ASB_append_String_30 ?_
    rintro v h' c' n' ⟨rfl, rfl, rfl, rfl⟩
    rw [xcopy_end e3]
    refine x_aload_n d_ASB_append_String_33 rfl rfl ?_
    refine x_dup d_ASB_append_String_34 rfl ?_
    refine x_get xf_ASB_79_SB (Or.inl (by rw [xup_ne e4]; exact e1)) rfl d_ASB_append_String_35 ?_
    refine x_iload_n d_ASB_append_String_38 rfl ?_
    refine x_iadd d_ASB_append_String_39 ?_
    refine x_top (w := .int (nI (t ++ u).length)) (by rw [nI_add, List.length_append]) ?_
    refine x_put xf_ASB_79_SB xp_SB_3 rfl rfl (by rw [xup_ne e4]; exact e1) rfl rfl d_ASB_append_String_40 ?_
    refine x_aload_n d_ASB_append_String_43 rfl rfl ?_
    refine x_aret d_ASB_append_String_44 rfl rfl ?_
    exact ⟨rfl, hP⟩
  refine XM.of (by decide +kernel) (Nat.le_of_ble_eq_true rfl) ?_
  refine x_aload_n d_ASB_append_String_0 rfl rfl ?_
  refine x_ifnonnull (tgt := 9) d_ASB_append_String_1 (by decide) ?_
  refine x_aload_n d_ASB_append_String_9 rfl rfl ?_
  refine x_callV (As := []) (k := k_String) rfl xcv_ASB_32_String hb (c_String_length (by omega) hS) rfl rfl (Nat.le_of_ble_eq_true rfl) d_ASB_append_String_10 ?_
  rintro v h' c' n' ⟨rfl, rfl, rfl, rfl⟩
  refine x_istore_n (L' := [_, _, _]) d_ASB_append_String_13 rfl rfl ?_
  refine x_aload_n d_ASB_append_String_14 rfl rfl ?_
  refine x_aload_n d_ASB_append_String_15 rfl rfl ?_
  refine x_get xf_ASB_79_SB (Or.inl ha) rfl d_ASB_append_String_16 ?_
  refine x_iload_n d_ASB_append_String_19 rfl ?_
  refine x_iadd d_ASB_append_String_20 ?_
  refine x_top (w := .int (nI (t.length + u.length))) (by rw [nI_add]) ?_
  by_cases hbs : u.length ≤ bs.length
  · refine x_callV (As := [_]) (k := k_StringBuilder) rfl xcv_ASB_100_SB (Or.inl ha) (c_ensure_no (Nat.zero_le _) ha hv (by rw [hvl]; omega) (by rw [hvl]; omega)) rfl rfl (Nat.le_of_ble_eq_true rfl) d_ASB_append_String_21 ?_
    rintro v h' c' n' ⟨rfl, rfl, rfl, rfl⟩
    refine fin h' va bs c' n' hS ha hv hbs (by omega) hav ⟨va, m, ⟨z, bs.drop u.length, xup_self, by rw [xup_ne (Ne.symm hav), xup_self], by simp; omega, fun v hv => hbf v (List.mem_of_mem_drop hv), hat'⟩, ?_, Or.inl rfl, by omega⟩
    exact (xfr.rf.up (Or.inl (by simp))).up (Or.inl (by simp))
  · have hvs : ∀ v ∈ xby t ++ bs, fits .byte v = true := fun v hv => (List.mem_append.mp hv).elim (xby_fit hat v) (hbf v)
    have hmx : max (t.length + u.length) (2 * (xby t ++ bs).length + 2) = max (t.length + u.length) (2 * m + 2) := by rw [hvl]
    refine x_callV (As := [_]) (k := k_StringBuilder) rfl xcv_ASB_100_SB (Or.inl ha) (c_ensure_yes (by omega) ha hv hvs (by rw [hvl]; omega) (by omega) (by omega) (by rw [hmx]; omega)) rfl rfl (Nat.le_of_ble_eq_true rfl) d_ASB_append_String_21 ?_
    rintro v h' c' n' ⟨rfl, q, hq, rfl, rfl, rfl⟩
    rw [hmx, hvl]
    have haq : a ≠ q := fun e => by rw [e, hq] at ha; cases ha
    refine fin _ q (bs ++ List.replicate (max (t.length + u.length) (2 * m + 2) - m) (.int 0)) _ _ ?_ xup_self (by rw [xup_ne (Ne.symm haq), xup_self]; simp) (by simp; omega) (by simp; omega) haq ⟨q, max (t.length + u.length) (2 * m + 2), ⟨z, (bs ++ List.replicate (max (t.length + u.length) (2 * m + 2) - m) (Value.int 0)).drop u.length, xup_self, by rw [xup_ne (Ne.symm haq), xup_self], by simp; omega, fun v hv => ?_, hat'⟩, ?_, Or.inr hq, by omega⟩
    · refine (hS.up hq).fr (F := [a]) (xfr.rf.up (Or.inl (by simp))) (fun q' hq' e' he' => ?_)
      rw [List.mem_singleton] at hq'
      subst hq'
      rw [xup_ne haq, ha] at he'
      cases he'
      show ¬ k_StringBuilder ∈ [k_String, k_asbyte]
      decide
    · rcases List.mem_append.mp (List.mem_of_mem_drop hv) with q1 | q1
      · exact hbf v q1
      · rw [(List.mem_replicate.mp q1).2]; rfl
    · exact (((xfr.rf.up (Or.inr hq)).up (Or.inl (by simp))).up (Or.inr hq)).up (Or.inl (by simp))
theorem c_SB_append_S (hd : 5 ≤ d) {K a va b m : Nat} {t u : List Nat} (hB : isB h a va t m) (hS : isS G h b u) (hK : K < 2 ^ 16) (hm : m ≤ K) (hL : 2 * (t.length + u.length) + 2 ≤ K) (hc : c + K ≤ xCB + m) (hn : n + 2 * K ≤ xSB + 2 * m) : XM l G d M_SB_append_String [.ref a, .ref b] h c n (fun v h' c' n' => v = some (.ref a) ∧ pB K a va (t ++ u) m h c n h' c' n') := by
  obtain ⟨d, rfl⟩ : ∃ q, d = q + 1 := ⟨d - 1, by omega⟩
  obtain ⟨z, bs, ha, -⟩ := id hB
  refine XM.of (by decide +kernel) (Nat.le_of_ble_eq_true rfl) ?_
  refine x_aload_n d_SB_append_String_0 rfl rfl ?_
  refine x_aload_n d_SB_append_String_1 rfl rfl ?_
  refine x_callU (As := [_]) (k := k_StringBuilder) rfl xcu_SB_29 (Or.inl ha) (c_ASB_append_S (by omega) hB hS hK hm hL hc hn) rfl rfl (Nat.le_of_ble_eq_true rfl) d_SB_append_String_2 ?_
  rintro v h' c' n' ⟨rfl, hp⟩
  refine x_pop d_SB_append_String_5 rfl ?_
  refine x_aload_n d_SB_append_String_6 rfl rfl ?_
  refine x_aret d_SB_append_String_7 rfl rfl ?_
  exact ⟨rfl, hp⟩
/-! indexOf -/
/-- the first place of a character, or -1 -/
def xix (t : List Nat) (ch : Nat) : Int32 := if ch ∈ t then nI (t.idxOf ch) else -1
theorem lp_indexOfChar {va ch : Nat} {t : List Nat} {P : Option Value → XH → Nat → Nat → Prop} (hv : xr G h va k_asbyte (xby t)) (ht : xasc t) (hch : ch < 128) (hl : t.length < 2 ^ 30) (hP : P (some (.int (xix t ch))) h c n) :
    ∀ (k i : Nat), i + k = t.length → ch ∉ t.take i → XW l G M_SL1_indexOfChar d 7 [some (.ref va), some (.int (nI ch)), some (.int (nI 0)), some (.int (nI t.length)), some (.int (nI ch)), some (.int (nI i))] [] h c n P := by
  intro k
  induction k with
  | zero =>
    intro i hi he
    rw [List.take_of_length_le (by omega)] at he
    unfold xix at hP
    rw [if_neg he] at hP
    refine x_iload d_SL1_indexOfChar_7 rfl ?_
    refine x_iload_n d_SL1_indexOfChar_9 rfl ?_
    refine x_icmp_ge (tgt := 31) d_SL1_indexOfChar_10 (by decide) (fun _ => ?_) (fun hn => absurd (nI_le (by omega) (by omega)) hn)
    refine x_iconst (v := (-1)) d_SL1_indexOfChar_31 (by decide) ?_
    refine x_iret d_SL1_indexOfChar_32 rfl ?_
    exact hP
  | succ k ih =>
    intro i hi he
    have hit : i < t.length := by omega
    have e1 := ht t[i] (List.getElem_mem hit)
    refine x_iload d_SL1_indexOfChar_7 rfl ?_
    refine x_iload_n d_SL1_indexOfChar_9 rfl ?_
    refine x_icmp_ge (tgt := 31) d_SL1_indexOfChar_10 (by decide) (fun ht => absurd ht (nI_ge hit (by omega))) (fun _ => ?_)
    refine x_aload_n d_SL1_indexOfChar_13 rfl rfl ?_
    refine x_iload d_SL1_indexOfChar_14 rfl ?_
    refine x_bald (k := k_asbyte) rfl hv (nI_pos (by omega)) (by rw [nI_clamp (by omega)]; exact xby_at hit) d_SL1_indexOfChar_16 ?_
    refine x_iload d_SL1_indexOfChar_17 rfl ?_
    by_cases hq : t[i] = ch
    · have hm : ch ∈ t := by rw [← hq]; exact List.getElem_mem hit
      have hx : t.idxOf ch = i := by
        have h1 : t = t.take i ++ (ch :: t.drop (i + 1)) := by rw [← hq, ← List.drop_eq_getElem_cons hit, List.take_append_drop]
        have hli : (t.take i).length = i := by rw [List.length_take]; omega
        rw [h1, List.idxOf_append, if_neg he, List.idxOf_cons_self, hli, Nat.zero_add]
      unfold xix at hP
      rw [if_pos hm, hx] at hP
      refine x_icmp_ne (tgt := 25) d_SL1_indexOfChar_19 (by decide) (fun ht => absurd (by rw [hq]) ht) (fun _ => ?_)
      refine x_iload d_SL1_indexOfChar_22 rfl ?_
      refine x_iret d_SL1_indexOfChar_24 rfl ?_
      exact hP
    · refine x_icmp_ne (tgt := 25) d_SL1_indexOfChar_19 (by decide) (fun _ => ?_) (fun hn => absurd hn (by rw [nI_eq (by omega) (by omega)]; exact hq))
      refine x_iinc (v := nI (i + 1)) (L' := [_, _, _, _, _, _]) d_SL1_indexOfChar_25 rfl (by exact xw_iinc1) rfl rfl ?_
      refine x_goto (tgt := 7) d_SL1_indexOfChar_28 (by decide) ?_
      refine ih (i + 1) (by omega) ?_
      rw [List.take_succ_eq_append_getElem hit, List.mem_append, List.mem_singleton]
      rintro (q | q)
      · exact he q
      · exact hq q.symm
theorem c_SL1_canEncode_I {q : Nat} (hq : q < 256) : XM l G d M_SL1_canEncode_I [.int (nI q)] h c n (xSame (.int 1) h c n) := by
  refine XM.of (by decide +kernel) (Nat.le_of_ble_eq_true rfl) ?_
  refine x_iload_n d_SL1_canEncode_I_0 rfl ?_
  refine x_if_lt (tgt := 15) d_SL1_canEncode_I_1 (by decide) (fun ht => absurd ht (nI_pos (by omega))) (fun _ => ?_)
  refine x_iload_n d_SL1_canEncode_I_4 rfl ?_
  refine x_sipush (v := 255) d_SL1_canEncode_I_5 (by decide) ?_
  refine x_icmp_gt (tgt := 15) d_SL1_canEncode_I_8 (by decide) (fun ht => absurd ht (by exact nI_nlt (a := 255) (b := q) (by omega) (by omega))) (fun _ => ?_)
  refine x_iconst (v := 1) d_SL1_canEncode_I_11 (by decide) ?_
  refine x_goto (tgt := 16) d_SL1_canEncode_I_12 (by decide) ?_
  refine x_zret d_SL1_canEncode_I_16 rfl rfl ?_
  exact ⟨rfl, rfl, rfl, rfl⟩
theorem c_indexOfChar {va ch : Nat} {t : List Nat} (hv : xr G h va k_asbyte (xby t)) (ht : xasc t) (hch : ch < 128) (hl : t.length < 2 ^ 30) : XM l G d M_SL1_indexOfChar [.ref va, .int (nI ch), .int (nI 0), .int (nI t.length)] h c n (xSame (.int (xix t ch)) h c n) := by
  obtain ⟨-, f2, -⟩ := xfit1 ch hch
  refine XM.of (by decide +kernel) (Nat.le_of_ble_eq_true rfl) ?_
  refine x_iload_n d_SL1_indexOfChar_0 rfl ?_
  refine x_i2b d_SL1_indexOfChar_1 ?_
  refine x_top (w := .int (nI ch)) (by rw [f2]) ?_
  refine x_istore (L' := [_, _, _, _, _, _]) d_SL1_indexOfChar_2 rfl rfl ?_
  refine x_iload_n d_SL1_indexOfChar_4 rfl ?_
  refine x_istore (L' := [_, _, _, _, _, _]) d_SL1_indexOfChar_5 rfl rfl ?_
  exact lp_indexOfChar hv ht hch hl ⟨rfl, rfl, rfl, rfl⟩ t.length 0 (by omega) (by simp)
theorem c_SL1_indexOf (hd : 1 ≤ d) {va ch : Nat} {t : List Nat} (hv : xr G h va k_asbyte (xby t)) (ht : xasc t) (hch : ch < 128) (hl : t.length < 2 ^ 30) : XM l G d M_SL1_indexOf [.ref va, .int (nI ch), .int (nI 0), .int (nI t.length)] h c n (xSame (.int (xix t ch)) h c n) := by
  obtain ⟨d, rfl⟩ : ∃ q, d = q + 1 := ⟨d - 1, by omega⟩
  refine XM.of (by decide +kernel) (Nat.le_of_ble_eq_true rfl) ?_
  refine x_iload_n d_SL1_indexOf_0 rfl ?_
  refine x_callS (As := [_]) xcs_SL1_88 (c_SL1_canEncode_I (by omega)) rfl rfl (Nat.le_of_ble_eq_true rfl) d_SL1_indexOf_1 ?_
  rintro v h' c' n' ⟨rfl, rfl, rfl, rfl⟩
  refine x_if_ne (tgt := 9) d_SL1_indexOf_4 (by decide) (fun _ => ?_) (fun hn => absurd hn (by decide))
  refine x_iload_n d_SL1_indexOf_9 rfl ?_
  refine x_iconst (v := 0) d_SL1_indexOf_10 (by decide) ?_
  refine x_mmax xw_774 xw_198 xw_10 xw_199 (Nat.le_of_ble_eq_true rfl) d_SL1_indexOf_11 ?_
  refine x_top (w := .int (nI 0)) (by rfl) ?_
  refine x_istore_n (L' := [_, _, _, _]) d_SL1_indexOf_14 rfl rfl ?_
  refine x_iload_n d_SL1_indexOf_15 rfl ?_
  refine x_aload_n d_SL1_indexOf_16 rfl rfl ?_
  refine x_alen (k := k_asbyte) rfl hv (v := nI t.length) (by rw [xby_len]; rfl) d_SL1_indexOf_17 ?_
  refine x_mmin xw_775 xw_216 xw_10 xw_217 (Nat.le_of_ble_eq_true rfl) d_SL1_indexOf_18 ?_
  refine x_top (w := .int (nI t.length)) (by rw [nI_min (by omega) (by omega), Nat.min_self]) ?_
  refine x_istore_n (L' := [_, _, _, _]) d_SL1_indexOf_21 rfl rfl ?_
  refine x_iload_n d_SL1_indexOf_22 rfl ?_
  refine x_iload_n d_SL1_indexOf_23 rfl ?_
  by_cases h0 : t.length = 0
  · have e : t = [] := List.eq_nil_of_length_eq_zero h0
    subst e
    refine x_icmp_lt (tgt := 29) d_SL1_indexOf_24 (by decide) (fun ht => absurd ht (by decide)) (fun _ => ?_)
    refine x_iconst (v := (-1)) d_SL1_indexOf_27 (by decide) ?_
    refine x_iret d_SL1_indexOf_28 rfl ?_
    exact ⟨rfl, rfl, rfl, rfl⟩
  · refine x_icmp_lt (tgt := 29) d_SL1_indexOf_24 (by decide) (fun _ => ?_) (fun hn => absurd (nI_lt (by omega) (by omega)) hn)
    refine x_aload_n d_SL1_indexOf_29 rfl rfl ?_
    refine x_iload_n d_SL1_indexOf_30 rfl ?_
    refine x_iload_n d_SL1_indexOf_31 rfl ?_
    refine x_iload_n d_SL1_indexOf_32 rfl ?_
    refine x_callS (As := [_, _, _, _]) xcs_SL1_95 (c_indexOfChar hv ht hch hl) rfl rfl (Nat.le_of_ble_eq_true rfl) d_SL1_indexOf_33 ?_
    rintro v h' c' n' ⟨rfl, rfl, rfl, rfl⟩
    refine x_iret d_SL1_indexOf_36 rfl ?_
    exact ⟨rfl, rfl, rfl, rfl⟩
theorem c_String_indexOf_II (hd : 2 ≤ d) {a ch : Nat} {t : List Nat} (hS : isS G h a t) (hch : ch < 128) (hl : t.length < 2 ^ 30) : XM l G d M_String_indexOf_II [.ref a, .int (nI ch), .int (nI 0)] h c n (xSame (.int (xix t ch)) h c n) := by
  obtain ⟨d, rfl⟩ : ∃ q, d = q + 1 := ⟨d - 1, by omega⟩
  obtain ⟨va, e, ha, hv, hat⟩ := id hS
  refine XM.of (by decide +kernel) (Nat.le_of_ble_eq_true rfl) ?_
  refine x_aload_n d_String_indexOf_II_0 rfl rfl ?_
  refine x_callV (As := []) (k := k_String) rfl xcv_String_492_String ha (c_String_isLatin1 ha) rfl rfl (Nat.le_of_ble_eq_true rfl) d_String_indexOf_II_1 ?_
  rintro v h' c' n' ⟨rfl, rfl, rfl, rfl⟩
  refine x_if_eq (tgt := 23) d_String_indexOf_II_4 (by decide) (fun ht => absurd ht (by decide)) (fun _ => ?_)
  refine x_aload_n d_String_indexOf_II_7 rfl rfl ?_
  refine x_get xf_String_9_String ha rfl d_String_indexOf_II_8 ?_
  refine x_iload_n d_String_indexOf_II_11 rfl ?_
  refine x_iload_n d_String_indexOf_II_12 rfl ?_
  refine x_aload_n d_String_indexOf_II_13 rfl rfl ?_
  refine x_callV (As := []) (k := k_String) rfl xcv_String_505_String ha (c_String_length (by omega) hS) rfl rfl (Nat.le_of_ble_eq_true rfl) d_String_indexOf_II_14 ?_
  rintro v h' c' n' ⟨rfl, rfl, rfl, rfl⟩
  refine x_callS (As := [_, _, _, _]) xcs_String_637 (c_SL1_indexOf (by omega) hv hat hch hl) rfl rfl (Nat.le_of_ble_eq_true rfl) d_String_indexOf_II_17 ?_
  rintro v h' c' n' ⟨rfl, rfl, rfl, rfl⟩
  refine x_goto (tgt := 36) d_String_indexOf_II_20 (by decide) ?_
  refine x_iret d_String_indexOf_II_36 rfl ?_
  exact ⟨rfl, rfl, rfl, rfl⟩
theorem c_String_indexOf (hd : 3 ≤ d) {a ch : Nat} {t : List Nat} (hS : isS G h a t) (hch : ch < 128) (hl : t.length < 2 ^ 30) : XM l G d M_String_indexOf_I [.ref a, .int (nI ch)] h c n (xSame (.int (xix t ch)) h c n) := by
  obtain ⟨d, rfl⟩ : ∃ q, d = q + 1 := ⟨d - 1, by omega⟩
  obtain ⟨va, e, ha, hv, hat⟩ := id hS
  refine XM.of (by decide +kernel) (Nat.le_of_ble_eq_true rfl) ?_
  refine x_aload_n d_String_indexOf_I_0 rfl rfl ?_
  refine x_iload_n d_String_indexOf_I_1 rfl ?_
  refine x_iconst (v := 0) d_String_indexOf_I_2 (by decide) ?_
  refine x_callV (As := [_, _]) (k := k_String) rfl xcv_String_633_String ha (c_String_indexOf_II (by omega) hS hch hl) rfl rfl (Nat.le_of_ble_eq_true rfl) d_String_indexOf_I_3 ?_
  rintro v h' c' n' ⟨rfl, rfl, rfl, rfl⟩
  refine x_iret d_String_indexOf_I_6 rfl ?_
  exact ⟨rfl, rfl, rfl, rfl⟩
end SB5
