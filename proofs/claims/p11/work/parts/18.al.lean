section
abbrev y_AbC_init : MethodName := ⟨"java/util/AbstractCollection", "<init>", "()V"⟩
abbrev M_AbC_init : XMt := (y_AbC_init, prog_31_method_1_code, 1, none)
theorem d_AbC_init_0 : decode M_AbC_init.2.1 0 = .ok (.aload_n 0, 1) := by decide +kernel
theorem d_AbC_init_1 : decode M_AbC_init.2.1 1 = .ok (.invokespecial 1, 3) := by decide +kernel
theorem xw_840 : (Jvm.Cond.methodLink "java/util/AbstractCollection" (1 : Nat) ({ cls := "java/lang/Object", name := "<init>", desc := "()V" } : Jvm.MethodName)) ∈ xT := xT_at 840 (by decide +kernel) (by decide +kernel)
theorem d_AbC_init_4 : decode M_AbC_init.2.1 4 = .ok (.return_, 1) := by decide +kernel
abbrev y_AbL_init : MethodName := ⟨"java/util/AbstractList", "<init>", "()V"⟩
abbrev M_AbL_init : XMt := (y_AbL_init, prog_32_method_1_code, 1, none)
theorem d_AbL_init_0 : decode M_AbL_init.2.1 0 = .ok (.aload_n 0, 1) := by decide +kernel
theorem d_AbL_init_1 : decode M_AbL_init.2.1 1 = .ok (.invokespecial 1, 3) := by decide +kernel
theorem xw_839 : (Jvm.Cond.code ({ cls := "java/util/AbstractCollection", name := "<init>", desc := "()V" } : Jvm.MethodName) prog_31_method_1_code (1 : Nat) (Option.none : Option Jvm.ClassFile.FieldType)) ∈ xT := xT_at 839 (by decide +kernel) (by decide +kernel)
theorem xw_24 : (Jvm.Cond.initialized "java/util/AbstractCollection") ∈ xT := xT_at 24 (by decide +kernel) (by decide +kernel)
theorem xcb_AbC_init : xcb M_AbC_init 0 := ⟨xw_839, xw_24, by decide, by decide, by decide, by decide +kernel⟩
theorem xw_837 : (Jvm.Cond.methodLink "java/util/AbstractList" (1 : Nat) ({ cls := "java/util/AbstractCollection", name := "<init>", desc := "()V" } : Jvm.MethodName)) ∈ xT := xT_at 837 (by decide +kernel) (by decide +kernel)
theorem xw_838 : (Jvm.Cond.instanceMethod ({ cls := "java/util/AbstractCollection", name := "<init>", desc := "()V" } : Jvm.MethodName)) ∈ xT := xT_at 838 (by decide +kernel) (by decide +kernel)
theorem xci_AbL_1 : xCI "java/util/AbstractList" 1 M_AbC_init 0 := ⟨xcb_AbC_init, rfl, rfl, xw_838, Or.inl xw_837⟩
theorem d_AbL_init_4 : decode M_AbL_init.2.1 4 = .ok (.aload_n 0, 1) := by decide +kernel
theorem d_AbL_init_5 : decode M_AbL_init.2.1 5 = .ok (.iconst 0, 1) := by decide +kernel
theorem d_AbL_init_6 : decode M_AbL_init.2.1 6 = .ok (.putfield 7, 3) := by decide +kernel
theorem xw_845 : (Jvm.Cond.fieldLink "java/util/AbstractList" (7 : Nat) "java/util/AbstractList" "modCount" "I") ∈ xT := xT_at 845 (by decide +kernel) (by decide +kernel)
theorem xf_AbL_7_AL : xF "java/util/AbstractList" 7 k_ArrayList 2 := ⟨_, _, _, "java/util/AbstractList", rfl, by decide, Or.inl xw_845, Or.inl rfl⟩
theorem xp_AL_2 : xP k_ArrayList 2 false .int := ⟨_, _, _, rfl, rfl, by decide +kernel⟩
theorem d_AbL_init_9 : decode M_AbL_init.2.1 9 = .ok (.return_, 1) := by decide +kernel
abbrev y_AL_init : MethodName := ⟨"java/util/ArrayList", "<init>", "()V"⟩
abbrev M_AL_init : XMt := (y_AL_init, prog_33_method_2_code, 1, none)
theorem d_AL_init_0 : decode M_AL_init.2.1 0 = .ok (.aload_n 0, 1) := by decide +kernel
theorem d_AL_init_1 : decode M_AL_init.2.1 1 = .ok (.invokespecial 1, 3) := by decide +kernel
theorem xw_836 : (Jvm.Cond.code ({ cls := "java/util/AbstractList", name := "<init>", desc := "()V" } : Jvm.MethodName) prog_32_method_1_code (1 : Nat) (Option.none : Option Jvm.ClassFile.FieldType)) ∈ xT := xT_at 836 (by decide +kernel) (by decide +kernel)
theorem xw_25 : (Jvm.Cond.initialized "java/util/AbstractList") ∈ xT := xT_at 25 (by decide +kernel) (by decide +kernel)
theorem xcb_AbL_init : xcb M_AbL_init 0 := ⟨xw_836, xw_25, by decide, by decide, by decide, by decide +kernel⟩
theorem xw_834 : (Jvm.Cond.methodLink "java/util/ArrayList" (1 : Nat) ({ cls := "java/util/AbstractList", name := "<init>", desc := "()V" } : Jvm.MethodName)) ∈ xT := xT_at 834 (by decide +kernel) (by decide +kernel)
theorem xw_835 : (Jvm.Cond.instanceMethod ({ cls := "java/util/AbstractList", name := "<init>", desc := "()V" } : Jvm.MethodName)) ∈ xT := xT_at 835 (by decide +kernel) (by decide +kernel)
theorem xci_AL_1 : xCI "java/util/ArrayList" 1 M_AbL_init 0 := ⟨xcb_AbL_init, rfl, rfl, xw_835, Or.inl xw_834⟩
theorem d_AL_init_4 : decode M_AL_init.2.1 4 = .ok (.aload_n 0, 1) := by decide +kernel
theorem d_AL_init_5 : decode M_AL_init.2.1 5 = .ok (.getstatic 39, 3) := by decide +kernel
theorem xw_841 : (Jvm.Cond.fieldLink "java/util/ArrayList" (39 : Nat) "java/util/ArrayList" "DEFAULTCAPACITY_EMPTY_ELEMENTDATA" "[Ljava/lang/Object;") ∈ xT := xT_at 841 (by decide +kernel) (by decide +kernel)
theorem d_AL_init_8 : decode M_AL_init.2.1 8 = .ok (.putfield 9, 3) := by decide +kernel
theorem xw_843 : (Jvm.Cond.fieldLink "java/util/ArrayList" (9 : Nat) "java/util/ArrayList" "elementData" "[Ljava/lang/Object;") ∈ xT := xT_at 843 (by decide +kernel) (by decide +kernel)
theorem xf_AL_9_AL : xF "java/util/ArrayList" 9 k_ArrayList 0 := ⟨_, _, _, "java/util/ArrayList", rfl, by decide, Or.inl xw_843, Or.inl rfl⟩
theorem xp_AL_0 : xP k_ArrayList 0 false (.array (.object "java/lang/Object")) := ⟨_, _, _, rfl, rfl, by decide +kernel⟩
theorem d_AL_init_11 : decode M_AL_init.2.1 11 = .ok (.return_, 1) := by decide +kernel
abbrev y_AL_size : MethodName := ⟨"java/util/ArrayList", "size", "()I"⟩
abbrev M_AL_size : XMt := (y_AL_size, prog_33_method_8_code, 1, (some .int))
theorem d_AL_size_0 : decode M_AL_size.2.1 0 = .ok (.aload_n 0, 1) := by decide +kernel
theorem d_AL_size_1 : decode M_AL_size.2.1 1 = .ok (.getfield 48, 3) := by decide +kernel
theorem xw_844 : (Jvm.Cond.fieldLink "java/util/ArrayList" (48 : Nat) "java/util/ArrayList" "size" "I") ∈ xT := xT_at 844 (by decide +kernel) (by decide +kernel)
theorem xf_AL_48_AL : xF "java/util/ArrayList" 48 k_ArrayList 1 := ⟨_, _, _, "java/util/ArrayList", rfl, by decide, Or.inl xw_844, Or.inl rfl⟩
theorem d_AL_size_4 : decode M_AL_size.2.1 4 = .ok (.ireturn, 1) := by decide +kernel
abbrev y_Objects_checkIndex : MethodName := ⟨"java/util/Objects", "checkIndex", "(II)I"⟩
abbrev M_Objects_checkIndex : XMt := (y_Objects_checkIndex, prog_37_method_17_code, 2, (some .int))
theorem d_Objects_checkIndex_0 : decode M_Objects_checkIndex.2.1 0 = .ok (.iload_n 0, 1) := by decide +kernel
theorem d_Objects_checkIndex_1 : decode M_Objects_checkIndex.2.1 1 = .ok (.iload_n 1, 1) := by decide +kernel
theorem d_Objects_checkIndex_2 : decode M_Objects_checkIndex.2.1 2 = .ok (.aconst_null, 1) := by decide +kernel
theorem d_Objects_checkIndex_3 : decode M_Objects_checkIndex.2.1 3 = .ok (.invokestatic 105, 3) := by decide +kernel
theorem xw_333 : (Jvm.Cond.methodLink "java/util/Objects" (105 : Nat) ({ cls := "jdk/internal/util/Preconditions", name := "checkIndex", desc := "(IILjava/util/function/BiFunction;)I" } : Jvm.MethodName)) ∈ xT := xT_at 333 (by decide +kernel) (by decide +kernel)
theorem xcs_Objects_105 : xCS "java/util/Objects" 105 M_Preconditions_checkIndex 3 := ⟨xcb_Preconditions_checkIndex, xw_272, Or.inl xw_333⟩
theorem d_Objects_checkIndex_6 : decode M_Objects_checkIndex.2.1 6 = .ok (.ireturn, 1) := by decide +kernel
abbrev y_AL_elementData : MethodName := ⟨"java/util/ArrayList", "elementData", "(I)Ljava/lang/Object;"⟩
abbrev M_AL_elementData : XMt := (y_AL_elementData, prog_33_method_18_code, 2, (some (.object "java/lang/Object")))
theorem d_AL_elementData_0 : decode M_AL_elementData.2.1 0 = .ok (.aload_n 0, 1) := by decide +kernel
theorem d_AL_elementData_1 : decode M_AL_elementData.2.1 1 = .ok (.getfield 9, 3) := by decide +kernel
theorem d_AL_elementData_4 : decode M_AL_elementData.2.1 4 = .ok (.iload_n 1, 1) := by decide +kernel
theorem d_AL_elementData_5 : decode M_AL_elementData.2.1 5 = .ok (.aaload, 1) := by decide +kernel
theorem d_AL_elementData_6 : decode M_AL_elementData.2.1 6 = .ok (.areturn, 1) := by decide +kernel
abbrev y_AL_get : MethodName := ⟨"java/util/ArrayList", "get", "(I)Ljava/lang/Object;"⟩
abbrev M_AL_get : XMt := (y_AL_get, prog_33_method_20_code, 2, (some (.object "java/lang/Object")))
theorem d_AL_get_0 : decode M_AL_get.2.1 0 = .ok (.iload_n 1, 1) := by decide +kernel
theorem d_AL_get_1 : decode M_AL_get.2.1 1 = .ok (.aload_n 0, 1) := by decide +kernel
theorem d_AL_get_2 : decode M_AL_get.2.1 2 = .ok (.getfield 48, 3) := by decide +kernel
theorem d_AL_get_5 : decode M_AL_get.2.1 5 = .ok (.invokestatic 118, 3) := by decide +kernel
theorem xw_332 : (Jvm.Cond.code ({ cls := "java/util/Objects", name := "checkIndex", desc := "(II)I" } : Jvm.MethodName) prog_37_method_17_code (2 : Nat) (Option.some Jvm.ClassFile.FieldType.int)) ∈ xT := xT_at 332 (by decide +kernel) (by decide +kernel)
theorem xw_33 : (Jvm.Cond.initialized "java/util/Objects") ∈ xT := xT_at 33 (by decide +kernel) (by decide +kernel)
theorem xcb_Objects_checkIndex : xcb M_Objects_checkIndex 2 := ⟨xw_332, xw_33, by decide, by decide, by decide, by decide +kernel⟩
theorem xw_330 : (Jvm.Cond.methodLink "java/util/ArrayList" (118 : Nat) ({ cls := "java/util/Objects", name := "checkIndex", desc := "(II)I" } : Jvm.MethodName)) ∈ xT := xT_at 330 (by decide +kernel) (by decide +kernel)
theorem xw_331 : (Jvm.Cond.static ({ cls := "java/util/Objects", name := "checkIndex", desc := "(II)I" } : Jvm.MethodName)) ∈ xT := xT_at 331 (by decide +kernel) (by decide +kernel)
theorem xcs_AL_118 : xCS "java/util/ArrayList" 118 M_Objects_checkIndex 2 := ⟨xcb_Objects_checkIndex, xw_331, Or.inl xw_330⟩
theorem d_AL_get_8 : decode M_AL_get.2.1 8 = .ok (.pop, 1) := by decide +kernel
theorem d_AL_get_9 : decode M_AL_get.2.1 9 = .ok (.aload_n 0, 1) := by decide +kernel
theorem d_AL_get_10 : decode M_AL_get.2.1 10 = .ok (.iload_n 1, 1) := by decide +kernel
theorem d_AL_get_11 : decode M_AL_get.2.1 11 = .ok (.invokevirtual 123, 3) := by decide +kernel
theorem xw_337 : (Jvm.Cond.code ({ cls := "java/util/ArrayList", name := "elementData", desc := "(I)Ljava/lang/Object;" } : Jvm.MethodName) prog_33_method_18_code (2 : Nat) (Option.some (Jvm.ClassFile.FieldType.object "java/lang/Object"))) ∈ xT := xT_at 337 (by decide +kernel) (by decide +kernel)
theorem xw_26 : (Jvm.Cond.initialized "java/util/ArrayList") ∈ xT := xT_at 26 (by decide +kernel) (by decide +kernel)
theorem xcb_AL_elementData : xcb M_AL_elementData 1 := ⟨xw_337, xw_26, by decide, by decide, by decide, by decide +kernel⟩
theorem xw_335 : (Jvm.Cond.instanceMethod ({ cls := "java/util/ArrayList", name := "elementData", desc := "(I)Ljava/lang/Object;" } : Jvm.MethodName)) ∈ xT := xT_at 335 (by decide +kernel) (by decide +kernel)
theorem xw_334 : (Jvm.Cond.methodLink "java/util/ArrayList" (123 : Nat) ({ cls := "java/util/ArrayList", name := "elementData", desc := "(I)Ljava/lang/Object;" } : Jvm.MethodName)) ∈ xT := xT_at 334 (by decide +kernel) (by decide +kernel)
theorem xw_336 : (Jvm.Cond.selects "java/util/ArrayList" ({ cls := "java/util/ArrayList", name := "elementData", desc := "(I)Ljava/lang/Object;" } : Jvm.MethodName) ({ cls := "java/util/ArrayList", name := "elementData", desc := "(I)Ljava/lang/Object;" } : Jvm.MethodName)) ∈ xT := xT_at 336 (by decide +kernel) (by decide +kernel)
theorem xcv_AL_123_AL : xCV "java/util/ArrayList" 123 "java/util/ArrayList" M_AL_elementData 1 := ⟨xcb_AL_elementData, xw_335, Or.inl ⟨xw_334, Or.inl xw_336⟩⟩
theorem d_AL_get_14 : decode M_AL_get.2.1 14 = .ok (.areturn, 1) := by decide +kernel
abbrev y_Arrays_copyOf_aObjectIClass : MethodName := ⟨"java/util/Arrays", "copyOf", "([Ljava/lang/Object;ILjava/lang/Class;)[Ljava/lang/Object;"⟩
abbrev M_Arrays_copyOf_aObjectIClass : XMt := (y_Arrays_copyOf_aObjectIClass, prog_34_method_120_code, 4, (some (.array (.object "java/lang/Object"))))
theorem d_Arrays_copyOf_aObjectIClass_0 : decode M_Arrays_copyOf_aObjectIClass.2.1 0 = .ok (.aload_n 2, 1) := by decide +kernel
theorem d_Arrays_copyOf_aObjectIClass_1 : decode M_Arrays_copyOf_aObjectIClass.2.1 1 = .ok (.ldc 110, 2) := by decide +kernel
theorem xw_1078 : (Jvm.Cond.classLink "java/util/Arrays" (110 : Nat) "[Ljava/lang/Object;") ∈ xT := xT_at 1078 (by decide +kernel) (by decide +kernel)
theorem d_Arrays_copyOf_aObjectIClass_3 : decode M_Arrays_copyOf_aObjectIClass.2.1 3 = .ok (.if_acmp .ne 10, 3) := by decide +kernel
theorem d_Arrays_copyOf_aObjectIClass_6 : decode M_Arrays_copyOf_aObjectIClass.2.1 6 = .ok (.iload_n 1, 1) := by decide +kernel
theorem d_Arrays_copyOf_aObjectIClass_7 : decode M_Arrays_copyOf_aObjectIClass.2.1 7 = .ok (.anewarray 2, 3) := by decide +kernel
theorem xw_1080 : (Jvm.Cond.classLink "java/util/Arrays" (2 : Nat) "java/lang/Object") ∈ xT := xT_at 1080 (by decide +kernel) (by decide +kernel)
theorem xw_1079 : (Jvm.Cond.arrayOver (Jvm.ClassFile.FieldType.object "java/lang/Object")) ∈ xT := xT_at 1079 (by decide +kernel) (by decide +kernel)
theorem d_Arrays_copyOf_aObjectIClass_10 : decode M_Arrays_copyOf_aObjectIClass.2.1 10 = .ok (.goto 14, 3) := by decide +kernel
theorem d_Arrays_copyOf_aObjectIClass_24 : decode M_Arrays_copyOf_aObjectIClass.2.1 24 = .ok (.astore_n 3, 1) := by decide +kernel
theorem d_Arrays_copyOf_aObjectIClass_25 : decode M_Arrays_copyOf_aObjectIClass.2.1 25 = .ok (.aload_n 0, 1) := by decide +kernel
theorem d_Arrays_copyOf_aObjectIClass_26 : decode M_Arrays_copyOf_aObjectIClass.2.1 26 = .ok (.iconst 0, 1) := by decide +kernel
theorem d_Arrays_copyOf_aObjectIClass_27 : decode M_Arrays_copyOf_aObjectIClass.2.1 27 = .ok (.aload_n 3, 1) := by decide +kernel
theorem d_Arrays_copyOf_aObjectIClass_28 : decode M_Arrays_copyOf_aObjectIClass.2.1 28 = .ok (.iconst 0, 1) := by decide +kernel
theorem d_Arrays_copyOf_aObjectIClass_29 : decode M_Arrays_copyOf_aObjectIClass.2.1 29 = .ok (.aload_n 0, 1) := by decide +kernel
theorem d_Arrays_copyOf_aObjectIClass_30 : decode M_Arrays_copyOf_aObjectIClass.2.1 30 = .ok (.arraylength, 1) := by decide +kernel
theorem d_Arrays_copyOf_aObjectIClass_31 : decode M_Arrays_copyOf_aObjectIClass.2.1 31 = .ok (.iload_n 1, 1) := by decide +kernel
theorem d_Arrays_copyOf_aObjectIClass_32 : decode M_Arrays_copyOf_aObjectIClass.2.1 32 = .ok (.invokestatic 304, 3) := by decide +kernel
theorem d_Arrays_copyOf_aObjectIClass_35 : decode M_Arrays_copyOf_aObjectIClass.2.1 35 = .ok (.invokestatic 150, 3) := by decide +kernel
theorem d_Arrays_copyOf_aObjectIClass_38 : decode M_Arrays_copyOf_aObjectIClass.2.1 38 = .ok (.aload_n 3, 1) := by decide +kernel
theorem d_Arrays_copyOf_aObjectIClass_39 : decode M_Arrays_copyOf_aObjectIClass.2.1 39 = .ok (.areturn, 1) := by decide +kernel
abbrev y_Arrays_copyOf_aObjectI : MethodName := ⟨"java/util/Arrays", "copyOf", "([Ljava/lang/Object;I)[Ljava/lang/Object;"⟩
abbrev M_Arrays_copyOf_aObjectI : XMt := (y_Arrays_copyOf_aObjectI, prog_34_method_119_code, 2, (some (.array (.object "java/lang/Object"))))
theorem d_Arrays_copyOf_aObjectI_0 : decode M_Arrays_copyOf_aObjectI.2.1 0 = .ok (.aload_n 0, 1) := by decide +kernel
theorem d_Arrays_copyOf_aObjectI_1 : decode M_Arrays_copyOf_aObjectI.2.1 1 = .ok (.iload_n 1, 1) := by decide +kernel
theorem d_Arrays_copyOf_aObjectI_2 : decode M_Arrays_copyOf_aObjectI.2.1 2 = .ok (.aload_n 0, 1) := by decide +kernel
theorem d_Arrays_copyOf_aObjectI_3 : decode M_Arrays_copyOf_aObjectI.2.1 3 = .ok (.invokevirtual 86, 3) := by decide +kernel
theorem xw_1055 : (Jvm.Cond.methodLink "java/util/Arrays" (86 : Nat) ({ cls := "java/lang/Object", name := "getClass", desc := "()Ljava/lang/Class;" } : Jvm.MethodName)) ∈ xT := xT_at 1055 (by decide +kernel) (by decide +kernel)
theorem xw_1617 : (Jvm.Cond.declares ({ cls := "java/lang/Object", name := "getClass", desc := "()Ljava/lang/Class;" } : Jvm.MethodName)) ∈ xT := xT_at 1617 (by decide +kernel) (by decide +kernel)
theorem xw_1616 : (Jvm.Cond.selects "[Ljava/lang/Object;" ({ cls := "java/lang/Object", name := "getClass", desc := "()Ljava/lang/Class;" } : Jvm.MethodName) ({ cls := "java/lang/Object", name := "getClass", desc := "()Ljava/lang/Class;" } : Jvm.MethodName)) ∈ xT := xT_at 1616 (by decide +kernel) (by decide +kernel)
theorem xw_1056 : (Jvm.Cond.instanceMethod ({ cls := "java/lang/Object", name := "getClass", desc := "()Ljava/lang/Class;" } : Jvm.MethodName)) ∈ xT := xT_at 1056 (by decide +kernel) (by decide +kernel)
theorem xw_1074 : (Jvm.Cond.native ({ cls := "java/lang/Object", name := "getClass", desc := "()Ljava/lang/Class;" } : Jvm.MethodName)) ∈ xT := xT_at 1074 (by decide +kernel) (by decide +kernel)
theorem d_Arrays_copyOf_aObjectI_6 : decode M_Arrays_copyOf_aObjectI.2.1 6 = .ok (.invokestatic 300, 3) := by decide +kernel
theorem xw_1077 : (Jvm.Cond.code ({ cls := "java/util/Arrays", name := "copyOf", desc := "([Ljava/lang/Object;ILjava/lang/Class;)[Ljava/lang/Object;" } : Jvm.MethodName) prog_34_method_120_code (4 : Nat) (Option.some (Jvm.ClassFile.FieldType.array (Jvm.ClassFile.FieldType.object "java/lang/Object")))) ∈ xT := xT_at 1077 (by decide +kernel) (by decide +kernel)
theorem xcb_Arrays_copyOf_aObjectIClass : xcb M_Arrays_copyOf_aObjectIClass 3 := ⟨xw_1077, xw_11, by decide, by decide, by decide, by decide +kernel⟩
theorem xw_1075 : (Jvm.Cond.methodLink "java/util/Arrays" (300 : Nat) ({ cls := "java/util/Arrays", name := "copyOf", desc := "([Ljava/lang/Object;ILjava/lang/Class;)[Ljava/lang/Object;" } : Jvm.MethodName)) ∈ xT := xT_at 1075 (by decide +kernel) (by decide +kernel)
theorem xw_1076 : (Jvm.Cond.static ({ cls := "java/util/Arrays", name := "copyOf", desc := "([Ljava/lang/Object;ILjava/lang/Class;)[Ljava/lang/Object;" } : Jvm.MethodName)) ∈ xT := xT_at 1076 (by decide +kernel) (by decide +kernel)
theorem xcs_Arrays_300 : xCS "java/util/Arrays" 300 M_Arrays_copyOf_aObjectIClass 3 := ⟨xcb_Arrays_copyOf_aObjectIClass, xw_1076, Or.inl xw_1075⟩
theorem d_Arrays_copyOf_aObjectI_9 : decode M_Arrays_copyOf_aObjectI.2.1 9 = .ok (.areturn, 1) := by decide +kernel
abbrev y_AL_grow_I : MethodName := ⟨"java/util/ArrayList", "grow", "(I)[Ljava/lang/Object;"⟩
abbrev M_AL_grow_I : XMt := (y_AL_grow_I, prog_33_method_6_code, 4, (some (.array (.object "java/lang/Object"))))
theorem d_AL_grow_I_0 : decode M_AL_grow_I.2.1 0 = .ok (.aload_n 0, 1) := by decide +kernel
theorem d_AL_grow_I_1 : decode M_AL_grow_I.2.1 1 = .ok (.getfield 9, 3) := by decide +kernel
theorem d_AL_grow_I_4 : decode M_AL_grow_I.2.1 4 = .ok (.arraylength, 1) := by decide +kernel
theorem d_AL_grow_I_5 : decode M_AL_grow_I.2.1 5 = .ok (.istore_n 2, 1) := by decide +kernel
theorem d_AL_grow_I_6 : decode M_AL_grow_I.2.1 6 = .ok (.iload_n 2, 1) := by decide +kernel
theorem d_AL_grow_I_7 : decode M_AL_grow_I.2.1 7 = .ok (.ifCond .gt 13, 3) := by decide +kernel
theorem d_AL_grow_I_10 : decode M_AL_grow_I.2.1 10 = .ok (.aload_n 0, 1) := by decide +kernel
theorem d_AL_grow_I_11 : decode M_AL_grow_I.2.1 11 = .ok (.getfield 9, 3) := by decide +kernel
theorem d_AL_grow_I_14 : decode M_AL_grow_I.2.1 14 = .ok (.getstatic 39, 3) := by decide +kernel
theorem d_AL_grow_I_17 : decode M_AL_grow_I.2.1 17 = .ok (.if_acmp .eq 28, 3) := by decide +kernel
theorem d_AL_grow_I_45 : decode M_AL_grow_I.2.1 45 = .ok (.aload_n 0, 1) := by decide +kernel
theorem d_AL_grow_I_46 : decode M_AL_grow_I.2.1 46 = .ok (.bipush 10, 2) := by decide +kernel
theorem d_AL_grow_I_48 : decode M_AL_grow_I.2.1 48 = .ok (.iload_n 1, 1) := by decide +kernel
theorem d_AL_grow_I_49 : decode M_AL_grow_I.2.1 49 = .ok (.invokestatic 79, 3) := by decide +kernel
theorem xw_1081 : (Jvm.Cond.methodLink "java/util/ArrayList" (79 : Nat) ({ cls := "java/lang/Math", name := "max", desc := "(II)I" } : Jvm.MethodName)) ∈ xT := xT_at 1081 (by decide +kernel) (by decide +kernel)
theorem d_AL_grow_I_52 : decode M_AL_grow_I.2.1 52 = .ok (.anewarray 7, 3) := by decide +kernel
theorem xw_1082 : (Jvm.Cond.classLink "java/util/ArrayList" (7 : Nat) "java/lang/Object") ∈ xT := xT_at 1082 (by decide +kernel) (by decide +kernel)
theorem d_AL_grow_I_55 : decode M_AL_grow_I.2.1 55 = .ok (.dup_x1, 1) := by decide +kernel
theorem d_AL_grow_I_56 : decode M_AL_grow_I.2.1 56 = .ok (.putfield 9, 3) := by decide +kernel
theorem d_AL_grow_I_59 : decode M_AL_grow_I.2.1 59 = .ok (.areturn, 1) := by decide +kernel
theorem d_AL_grow_I_20 : decode M_AL_grow_I.2.1 20 = .ok (.iload_n 2, 1) := by decide +kernel
theorem d_AL_grow_I_21 : decode M_AL_grow_I.2.1 21 = .ok (.iload_n 1, 1) := by decide +kernel
theorem d_AL_grow_I_22 : decode M_AL_grow_I.2.1 22 = .ok (.iload_n 2, 1) := by decide +kernel
theorem d_AL_grow_I_23 : decode M_AL_grow_I.2.1 23 = .ok (.isub, 1) := by decide +kernel
theorem d_AL_grow_I_24 : decode M_AL_grow_I.2.1 24 = .ok (.iload_n 2, 1) := by decide +kernel
theorem d_AL_grow_I_25 : decode M_AL_grow_I.2.1 25 = .ok (.iconst 1, 1) := by decide +kernel
theorem d_AL_grow_I_26 : decode M_AL_grow_I.2.1 26 = .ok (.ishr, 1) := by decide +kernel
theorem d_AL_grow_I_27 : decode M_AL_grow_I.2.1 27 = .ok (.invokestatic 73, 3) := by decide +kernel
theorem xw_1051 : (Jvm.Cond.methodLink "java/util/ArrayList" (73 : Nat) ({ cls := "jdk/internal/util/ArraysSupport", name := "newLength", desc := "(III)I" } : Jvm.MethodName)) ∈ xT := xT_at 1051 (by decide +kernel) (by decide +kernel)
theorem xcs_AL_73 : xCS "java/util/ArrayList" 73 M_ArraysSupport_newLength 3 := ⟨xcb_ArraysSupport_newLength, xw_195, Or.inl xw_1051⟩
theorem d_AL_grow_I_30 : decode M_AL_grow_I.2.1 30 = .ok (.istore_n 3, 1) := by decide +kernel
theorem d_AL_grow_I_31 : decode M_AL_grow_I.2.1 31 = .ok (.aload_n 0, 1) := by decide +kernel
theorem d_AL_grow_I_32 : decode M_AL_grow_I.2.1 32 = .ok (.aload_n 0, 1) := by decide +kernel
theorem d_AL_grow_I_33 : decode M_AL_grow_I.2.1 33 = .ok (.getfield 9, 3) := by decide +kernel
theorem d_AL_grow_I_36 : decode M_AL_grow_I.2.1 36 = .ok (.iload_n 3, 1) := by decide +kernel
theorem d_AL_grow_I_37 : decode M_AL_grow_I.2.1 37 = .ok (.invokestatic 66, 3) := by decide +kernel
theorem xw_1054 : (Jvm.Cond.code ({ cls := "java/util/Arrays", name := "copyOf", desc := "([Ljava/lang/Object;I)[Ljava/lang/Object;" } : Jvm.MethodName) prog_34_method_119_code (2 : Nat) (Option.some (Jvm.ClassFile.FieldType.array (Jvm.ClassFile.FieldType.object "java/lang/Object")))) ∈ xT := xT_at 1054 (by decide +kernel) (by decide +kernel)
theorem xcb_Arrays_copyOf_aObjectI : xcb M_Arrays_copyOf_aObjectI 2 := ⟨xw_1054, xw_11, by decide, by decide, by decide, by decide +kernel⟩
theorem xw_1052 : (Jvm.Cond.methodLink "java/util/ArrayList" (66 : Nat) ({ cls := "java/util/Arrays", name := "copyOf", desc := "([Ljava/lang/Object;I)[Ljava/lang/Object;" } : Jvm.MethodName)) ∈ xT := xT_at 1052 (by decide +kernel) (by decide +kernel)
theorem xw_1053 : (Jvm.Cond.static ({ cls := "java/util/Arrays", name := "copyOf", desc := "([Ljava/lang/Object;I)[Ljava/lang/Object;" } : Jvm.MethodName)) ∈ xT := xT_at 1053 (by decide +kernel) (by decide +kernel)
theorem xcs_AL_66 : xCS "java/util/ArrayList" 66 M_Arrays_copyOf_aObjectI 2 := ⟨xcb_Arrays_copyOf_aObjectI, xw_1053, Or.inl xw_1052⟩
theorem d_AL_grow_I_40 : decode M_AL_grow_I.2.1 40 = .ok (.dup_x1, 1) := by decide +kernel
theorem d_AL_grow_I_41 : decode M_AL_grow_I.2.1 41 = .ok (.putfield 9, 3) := by decide +kernel
theorem d_AL_grow_I_44 : decode M_AL_grow_I.2.1 44 = .ok (.areturn, 1) := by decide +kernel
abbrev y_AL_grow_ : MethodName := ⟨"java/util/ArrayList", "grow", "()[Ljava/lang/Object;"⟩
abbrev M_AL_grow_ : XMt := (y_AL_grow_, prog_33_method_7_code, 1, (some (.array (.object "java/lang/Object"))))
theorem d_AL_grow__0 : decode M_AL_grow_.2.1 0 = .ok (.aload_n 0, 1) := by decide +kernel
theorem d_AL_grow__1 : decode M_AL_grow_.2.1 1 = .ok (.aload_n 0, 1) := by decide +kernel
theorem d_AL_grow__2 : decode M_AL_grow_.2.1 2 = .ok (.getfield 48, 3) := by decide +kernel
theorem d_AL_grow__5 : decode M_AL_grow_.2.1 5 = .ok (.iconst 1, 1) := by decide +kernel
theorem d_AL_grow__6 : decode M_AL_grow_.2.1 6 = .ok (.iadd, 1) := by decide +kernel
theorem d_AL_grow__7 : decode M_AL_grow_.2.1 7 = .ok (.invokevirtual 69, 3) := by decide +kernel
theorem xw_1050 : (Jvm.Cond.code ({ cls := "java/util/ArrayList", name := "grow", desc := "(I)[Ljava/lang/Object;" } : Jvm.MethodName) prog_33_method_6_code (4 : Nat) (Option.some (Jvm.ClassFile.FieldType.array (Jvm.ClassFile.FieldType.object "java/lang/Object")))) ∈ xT := xT_at 1050 (by decide +kernel) (by decide +kernel)
theorem xcb_AL_grow_I : xcb M_AL_grow_I 1 := ⟨xw_1050, xw_26, by decide, by decide, by decide, by decide +kernel⟩
theorem xw_1049 : (Jvm.Cond.instanceMethod ({ cls := "java/util/ArrayList", name := "grow", desc := "(I)[Ljava/lang/Object;" } : Jvm.MethodName)) ∈ xT := xT_at 1049 (by decide +kernel) (by decide +kernel)
theorem xw_1047 : (Jvm.Cond.methodLink "java/util/ArrayList" (69 : Nat) ({ cls := "java/util/ArrayList", name := "grow", desc := "(I)[Ljava/lang/Object;" } : Jvm.MethodName)) ∈ xT := xT_at 1047 (by decide +kernel) (by decide +kernel)
theorem xsel_AL_grow_I : Cond.selects "java/util/ArrayList" y_AL_grow_I y_AL_grow_I ∈ xT := xT_sel (q := (y_AL_grow_I, 3)) (by decide +kernel) (by decide +kernel)
theorem xcv_AL_69_AL : xCV "java/util/ArrayList" 69 "java/util/ArrayList" M_AL_grow_I 1 := ⟨xcb_AL_grow_I, xw_1049, Or.inl ⟨xw_1047, Or.inl xsel_AL_grow_I⟩⟩
theorem d_AL_grow__10 : decode M_AL_grow_.2.1 10 = .ok (.areturn, 1) := by decide +kernel
end
section ALS
variable {l : Launch} {G : XG} {h : XH} {c n d : Nat}
theorem c_AbC_init (hd : 1 ≤ d) {a : Nat} : XM l G d M_AbC_init [.ref a] h c n (xVoid h c n) := by
  obtain ⟨d, rfl⟩ : ∃ q, d = q + 1 := ⟨d - 1, by omega⟩
  refine XM.of (by decide +kernel) (Nat.le_of_ble_eq_true rfl) ?_
  refine x_aload_n d_AbC_init_0 rfl rfl ?_
  refine x_objInit xw_840 xw_40 xw_41 (Nat.le_of_ble_eq_true rfl) d_AbC_init_1 ?_
  refine x_vret d_AbC_init_4 rfl ?_
  exact ⟨rfl, rfl, rfl, rfl⟩
theorem c_AbL_init (hd : 2 ≤ d) {a : Nat} {x y z : Value} (ha : h a = some (k_ArrayList, [x, y, z])) : XM l G d M_AbL_init [.ref a] h c n (fun v h' c' n' => v = none ∧ h' = xup h a (k_ArrayList, [x, y, .int 0]) ∧ c' = c ∧ n' = n) := by
  obtain ⟨d, rfl⟩ : ∃ q, d = q + 1 := ⟨d - 1, by omega⟩
  refine XM.of (by decide +kernel) (Nat.le_of_ble_eq_true rfl) ?_
  refine x_aload_n d_AbL_init_0 rfl rfl ?_
  refine x_callI (As := []) xci_AbL_1 (c_AbC_init (by omega)) rfl rfl (Nat.le_of_ble_eq_true rfl) d_AbL_init_1 ?_
  rintro v h' c' n' ⟨rfl, rfl, rfl, rfl⟩
  refine x_aload_n d_AbL_init_4 rfl rfl ?_
  refine x_iconst (v := 0) d_AbL_init_5 (by decide) ?_
  refine x_put xf_AbL_7_AL xp_AL_2 rfl rfl ha rfl rfl d_AbL_init_6 ?_
  refine x_vret d_AbL_init_9 rfl ?_
  exact ⟨rfl, rfl, rfl, rfl⟩
/-- A LIST of objects of one kind: at a, its array ea, the objects' places es -/
def isL (G : XG) (h : XH) (a ea : Nat) (es : List Nat) : Prop := ∃ (mc : Int32), h a = some (k_ArrayList, [.ref ea, .int (nI es.length), .int mc]) ∧ ((es = [] ∧ ea = G.2.2.2.1 100) ∨ ∃ k, h ea = some (k_aObject, es.map (.ref ·) ++ List.replicate k .null) ∧ 10 ≤ es.length + k ∧ es.length + k ≤ 100)
theorem c_AL_init (hd : 3 ≤ d) {a : Nat} {z : Value} (ha : h a = some (k_ArrayList, [.null, .int 0, z])) : XM l G d M_AL_init [.ref a] h c n (fun v h' c' n' => v = none ∧ isL G h' a (G.2.2.2.1 100) [] ∧ xfr h h' [a] ∧ c' = c ∧ n' = n) := by
  obtain ⟨d, rfl⟩ : ∃ q, d = q + 1 := ⟨d - 1, by omega⟩
  refine XM.of (by decide +kernel) (Nat.le_of_ble_eq_true rfl) ?_
  refine x_aload_n d_AL_init_0 rfl rfl ?_
  refine x_callI (As := []) xci_AL_1 (c_AbL_init (by omega) ha) rfl rfl (Nat.le_of_ble_eq_true rfl) d_AL_init_1 ?_
  rintro v h' c' n' ⟨rfl, rfl, rfl, rfl⟩
  refine x_aload_n d_AL_init_4 rfl rfl ?_
  refine x_gets xw_841 (List.mem_of_getElem? (i := 4) rfl) d_AL_init_5 ?_
  refine x_put xf_AL_9_AL xp_AL_0 rfl rfl xup_self rfl rfl d_AL_init_8 ?_
  refine x_vret d_AL_init_11 rfl ?_
  exact ⟨rfl, ⟨0, xup_self, Or.inl ⟨rfl, rfl⟩⟩, (xfr.rf.up (Or.inl (by simp))).up (Or.inl (by simp)), rfl, rfl⟩
theorem c_AL_size {a ea : Nat} {es : List Nat} (hL : isL G h a ea es) : XM l G d M_AL_size [.ref a] h c n (xSame (.int (nI es.length)) h c n) := by
  obtain ⟨mc, ha, -⟩ := hL
  refine XM.of (by decide +kernel) (Nat.le_of_ble_eq_true rfl) ?_
  refine x_aload_n d_AL_size_0 rfl rfl ?_
  refine x_get xf_AL_48_AL (Or.inl ha) rfl d_AL_size_1 ?_
  refine x_iret d_AL_size_4 rfl ?_
  exact ⟨rfl, rfl, rfl, rfl⟩
theorem c_Objects_checkIndex (hd : 1 ≤ d) {i m : Nat} (hi : i < m) (hm : m < 2 ^ 31) : XM l G d M_Objects_checkIndex [.int (nI i), .int (nI m)] h c n (xSame (.int (nI i)) h c n) := by
  obtain ⟨d, rfl⟩ : ∃ q, d = q + 1 := ⟨d - 1, by omega⟩
  refine XM.of (by decide +kernel) (Nat.le_of_ble_eq_true rfl) ?_
  refine x_iload_n d_Objects_checkIndex_0 rfl ?_
  refine x_iload_n d_Objects_checkIndex_1 rfl ?_
  refine x_null d_Objects_checkIndex_2 ?_
  refine x_callS (As := [_, _, _]) xcs_Objects_105 (c_checkIndex rfl hi hm) rfl rfl (Nat.le_of_ble_eq_true rfl) d_Objects_checkIndex_3 ?_
  rintro v h' c' n' ⟨rfl, rfl, rfl, rfl⟩
  refine x_iret d_Objects_checkIndex_6 rfl ?_
  exact ⟨rfl, rfl, rfl, rfl⟩
theorem c_AL_get (hd : 2 ≤ d) {a ea i : Nat} {es : List Nat} (hL : isL G h a ea es) (hi : i < es.length) (hl : es.length < 2 ^ 30) : XM l G d M_AL_get [.ref a, .int (nI i)] h c n (xSame (.ref es[i]) h c n) := by
  obtain ⟨d, rfl⟩ : ∃ q, d = q + 1 := ⟨d - 1, by omega⟩
  obtain ⟨mc, ha, hr⟩ := hL
  obtain ⟨k, he, -⟩ : ∃ k, h ea = some (k_aObject, es.map (.ref ·) ++ List.replicate k .null) ∧ True := by
    rcases hr with ⟨q, -⟩ | ⟨k, q, -⟩
    · rw [q] at hi; cases hi
    · exact ⟨k, q, trivial⟩
  have hat : (es.map (Value.ref ·) ++ List.replicate k .null)[i]? = some (.ref es[i]) := by
    rw [List.getElem?_append_left (by simpa using hi), List.getElem?_map, List.getElem?_eq_getElem hi]
    rfl
  have hed : ∀ d, XM l G d M_AL_elementData [.ref a, .int (nI i)] h c n (xSame (.ref es[i]) h c n) := by
    intro d
    refine XM.of (by decide +kernel) (Nat.le_of_ble_eq_true rfl) ?_
    refine x_aload_n d_AL_elementData_0 rfl rfl ?_
    refine x_get xf_AL_9_AL (Or.inl ha) rfl d_AL_elementData_1 ?_
    refine x_iload_n d_AL_elementData_4 rfl ?_
    refine x_aald (k := k_aObject) rfl rfl (Or.inl he) (nI_pos (by omega)) (by rw [nI_clamp (by omega)]; exact hat) d_AL_elementData_5 ?_
    refine x_aret d_AL_elementData_6 rfl rfl ?_
    exact ⟨rfl, rfl, rfl, rfl⟩
  refine XM.of (by decide +kernel) (Nat.le_of_ble_eq_true rfl) ?_
  refine x_iload_n d_AL_get_0 rfl ?_
  refine x_aload_n d_AL_get_1 rfl rfl ?_
  refine x_get xf_AL_48_AL (Or.inl ha) rfl d_AL_get_2 ?_
  refine x_callS (As := [_, _]) xcs_AL_118 (c_Objects_checkIndex (by omega) hi (by omega)) rfl rfl (Nat.le_of_ble_eq_true rfl) d_AL_get_5 ?_
  rintro v h' c' n' ⟨rfl, rfl, rfl, rfl⟩
  refine x_pop d_AL_get_8 rfl ?_
  refine x_aload_n d_AL_get_9 rfl rfl ?_
  refine x_iload_n d_AL_get_10 rfl ?_
  refine x_callV (As := [_]) (k := k_ArrayList) rfl xcv_AL_123_AL (Or.inl ha) (hed _) rfl rfl (Nat.le_of_ble_eq_true rfl) d_AL_get_11 ?_
  rintro v h' c' n' ⟨rfl, rfl, rfl, rfl⟩
  refine x_aret d_AL_get_14 rfl rfl ?_
  exact ⟨rfl, rfl, rfl, rfl⟩
theorem c_copyOf_aOC (hd : 1 ≤ d) {a m : Nat} {vs : List Value} (ha : h a = some (k_aObject, vs)) (hel : ∀ v ∈ vs, xel G h "java/lang/Object" v) (hm : vs.length < m) (hb : m < 2 ^ 20) (hc : c + 1 ≤ xCB) (hn : n + m ≤ xSB) : XM l G d M_Arrays_copyOf_aObjectIClass [.ref a, .int (nI m), .ref (G.2.2.2.1 101)] h c n (xMade k_aObject (vs ++ List.replicate (m - vs.length) .null) h c n) := by
  obtain ⟨d, rfl⟩ : ∃ q, d = q + 1 := ⟨d - 1, by omega⟩
  have hel' : ∀ q, h q = none → ∀ e, ∀ v ∈ vs, xel G (xup h q e) "java/lang/Object" v := by
    intro q hq e v hv
    rcases hel v hv with z | ⟨a', k', N, vs', C, T, z1, z2, z3, z4⟩
    · exact Or.inl z
    · exact Or.inr ⟨a', k', N, vs', C, T, z1, xr_up z2 hq, z3, z4⟩
  refine XM.of (by decide +kernel) (Nat.le_of_ble_eq_true rfl) ?_
  refine x_aload_n d_Arrays_copyOf_aObjectIClass_0 rfl rfl ?_
  refine x_ldcM xw_1078 d_Arrays_copyOf_aObjectIClass_1 ?_
  refine x_acmp_ne (tgt := 13) rfl rfl d_Arrays_copyOf_aObjectIClass_3 (by decide) (fun ht => absurd rfl ht) (fun _ => ?_)
  refine x_iload_n d_Arrays_copyOf_aObjectIClass_6 rfl ?_
  refine x_anew (k := k_aObject) rfl xw_1080 xw_1079 (nI_pos (by omega)) (nI_clamp (by omega)) (by omega) hc hn d_Arrays_copyOf_aObjectIClass_7 (fun q hn_q hk_q => ?_)
  refine x_goto (tgt := 24) d_Arrays_copyOf_aObjectIClass_10 (by decide) ?_
  refine x_astore_n (L' := [_, _, _, _]) d_Arrays_copyOf_aObjectIClass_24 rfl rfl rfl ?_
  refine x_aload_n d_Arrays_copyOf_aObjectIClass_25 rfl rfl ?_
  refine x_iconst (v := 0) d_Arrays_copyOf_aObjectIClass_26 (by decide) ?_
  refine x_aload_n d_Arrays_copyOf_aObjectIClass_27 rfl rfl ?_
  refine x_iconst (v := 0) d_Arrays_copyOf_aObjectIClass_28 (by decide) ?_
  refine x_aload_n d_Arrays_copyOf_aObjectIClass_29 rfl rfl ?_
  refine x_alen (k := k_aObject) rfl (Or.inl (xup_old ha hn_q)) (v := nI vs.length) rfl d_Arrays_copyOf_aObjectIClass_30 ?_
  refine x_iload_n d_Arrays_copyOf_aObjectIClass_31 rfl ?_
  refine x_mmin xw_215 xw_216 xw_10 xw_217 (Nat.le_of_ble_eq_true rfl) d_Arrays_copyOf_aObjectIClass_32 ?_
  refine x_top (w := .int (nI vs.length)) (by rw [nI_min (by omega) (by omega), Nat.min_eq_left (by omega)]) ?_
  refine x_copyR (k := k_aObject) rfl xw_218 xw_220 xw_219 xw_12 (xup_old ha hn_q) xup_self (by decide) (by decide) (nI_pos (by omega)) (by rw [nI_clamp (by omega)]; exact Nat.le_of_eq (by simp)) (by rw [nI_clamp (by omega)]; simp; omega) (hel' q hn_q _) (Nat.le_of_ble_eq_true rfl) d_Arrays_copyOf_aObjectIClass_35 ?_
  refine x_hp (h' := xup h q (k_aObject, vs ++ List.replicate (m - vs.length) .null)) (by rw [xup_up, nI_clamp (by omega), ← xcopy_grow (by omega)]; rfl) ?_
  refine x_aload_n d_Arrays_copyOf_aObjectIClass_38 rfl rfl ?_
  refine x_aret d_Arrays_copyOf_aObjectIClass_39 rfl rfl ?_
  exact ⟨q, rfl, hn_q, rfl, rfl, by simp; omega⟩
theorem c_copyOf_aO (hd : 2 ≤ d) {a m : Nat} {vs : List Value} (ha : h a = some (k_aObject, vs)) (hel : ∀ v ∈ vs, xel G h "java/lang/Object" v) (hm : vs.length < m) (hb : m < 2 ^ 20) (hc : c + 1 ≤ xCB) (hn : n + m ≤ xSB) : XM l G d M_Arrays_copyOf_aObjectI [.ref a, .int (nI m)] h c n (xMade k_aObject (vs ++ List.replicate (m - vs.length) .null) h c n) := by
  obtain ⟨d, rfl⟩ : ∃ q, d = q + 1 := ⟨d - 1, by omega⟩
  refine XM.of (by decide +kernel) (Nat.le_of_ble_eq_true rfl) ?_
  refine x_aload_n d_Arrays_copyOf_aObjectI_0 rfl rfl ?_
  refine x_iload_n d_Arrays_copyOf_aObjectI_1 rfl ?_
  refine x_aload_n d_Arrays_copyOf_aObjectI_2 rfl rfl ?_
  refine x_getC (k := k_aObject) rfl xw_1055 xw_1617 xw_1616 xw_1056 xw_1074 ha (Nat.le_of_ble_eq_true rfl) d_Arrays_copyOf_aObjectI_3 ?_
  refine x_callS (As := [_, _, _]) xcs_Arrays_300 (c_copyOf_aOC (by omega) ha hel hm hb hc hn) rfl rfl (Nat.le_of_ble_eq_true rfl) d_Arrays_copyOf_aObjectI_6 ?_
  rintro v h' c' n' ⟨q, rfl, hq, rfl, rfl, rfl⟩
  refine x_aret d_Arrays_copyOf_aObjectI_9 rfl rfl ?_
  exact ⟨q, rfl, hq, rfl, rfl, rfl⟩
/-- the growth of a full list -/
theorem c_AL_growI (hG : xGk G) (hd : 3 ≤ d) {a ea : Nat} {es : List Nat} {mc : Int32} (ha : h a = some (k_ArrayList, [.ref ea, .int (nI es.length), .int mc])) (he : (es = [] ∧ ea = G.2.2.2.1 100) ∨ (h ea = some (k_aObject, es.map (.ref ·)) ∧ 10 ≤ es.length ∧ es.length ≤ 60)) (hel : ∀ x ∈ es, xel G h "java/lang/Object" (.ref x)) (hc : c + 1 ≤ xCB) (hn : n + 100 ≤ xSB) :
    XM l G d M_AL_grow_I [.ref a, .int (nI (es.length + 1))] h c n (fun v h' c' n' => ∃ q k, v = some (.ref q) ∧ h q = none ∧ h' = xup (xup h q (k_aObject, es.map (.ref ·) ++ List.replicate (k + 1) .null)) a (k_ArrayList, [.ref q, .int (nI es.length), .int mc]) ∧ 10 ≤ es.length + (k + 1) ∧ es.length + (k + 1) ≤ 100 ∧ c' = c + 1 ∧ n' ≤ n + 100) := by
  obtain ⟨d, rfl⟩ : ∃ q, d = q + 1 := ⟨d - 1, by omega⟩
  refine XM.of (by decide +kernel) (Nat.le_of_ble_eq_true rfl) ?_
  rcases he with ⟨rfl, rfl⟩ | ⟨he, h10, h60⟩
  · refine x_aload_n d_AL_grow_I_0 rfl rfl ?_
    refine x_get xf_AL_9_AL (Or.inl ha) rfl d_AL_grow_I_1 ?_
    refine x_alen (k := k_aObject) rfl (Or.inr hG.2.2) (v := nI 0) rfl d_AL_grow_I_4 ?_
    refine x_istore_n (L' := [_, _, _, _]) d_AL_grow_I_5 rfl rfl ?_
    refine x_iload_n d_AL_grow_I_6 rfl ?_
    refine x_if_gt (tgt := 20) d_AL_grow_I_7 (by decide) (fun ht => absurd ht (by decide)) (fun _ => ?_)
    refine x_aload_n d_AL_grow_I_10 rfl rfl ?_
    refine x_get xf_AL_9_AL (Or.inl ha) rfl d_AL_grow_I_11 ?_
    refine x_gets xw_841 (List.mem_of_getElem? (i := 4) rfl) d_AL_grow_I_14 ?_
    refine x_acmp_eq (tgt := 45) rfl rfl d_AL_grow_I_17 (by decide) (fun _ => ?_) (fun hn => absurd rfl hn)
    refine x_aload_n d_AL_grow_I_45 rfl rfl ?_
    refine x_bipush (v := 10) d_AL_grow_I_46 (by decide) ?_
    refine x_iload_n d_AL_grow_I_48 rfl ?_
    refine x_mmax xw_1081 xw_198 xw_10 xw_199 (Nat.le_of_ble_eq_true rfl) d_AL_grow_I_49 ?_
    refine x_top (w := .int (nI 10)) (by rfl) ?_
    refine x_anew (k := k_aObject) rfl xw_1082 xw_1079 (by decide) (z := 10) (by decide) (by decide) hc (by omega) d_AL_grow_I_52 (fun q hn_q hk_q => ?_)
    refine x_dup_x1 d_AL_grow_I_55 rfl rfl ?_
    refine x_put xf_AL_9_AL xp_AL_0 rfl rfl (xup_old ha hn_q) rfl rfl d_AL_grow_I_56 ?_
    refine x_aret d_AL_grow_I_59 rfl rfl ?_
    exact ⟨q, 9, rfl, hn_q, rfl, by simp, by simp, rfl, by omega⟩
  · have hml : (es.map (Value.ref ·)).length = es.length := by simp
    refine x_aload_n d_AL_grow_I_0 rfl rfl ?_
    refine x_get xf_AL_9_AL (Or.inl ha) rfl d_AL_grow_I_1 ?_
    refine x_alen (k := k_aObject) rfl (Or.inl he) (v := nI es.length) (by rw [hml]; rfl) d_AL_grow_I_4 ?_
    refine x_istore_n (L' := [_, _, _, _]) d_AL_grow_I_5 rfl rfl ?_
    refine x_iload_n d_AL_grow_I_6 rfl ?_
    refine x_if_gt (tgt := 20) d_AL_grow_I_7 (by decide) (fun _ => ?_) (fun hn => absurd (by show (0 : Int32) < _; exact nI_lt (a := 0) (by omega) (by omega)) hn)
    refine x_iload_n d_AL_grow_I_20 rfl ?_
    refine x_iload_n d_AL_grow_I_21 rfl ?_
    refine x_iload_n d_AL_grow_I_22 rfl ?_
    refine x_isub d_AL_grow_I_23 ?_
    refine x_top (w := .int (nI 1)) (by rw [pk_sub (by omega)]; congr 1; exact congrArg nI (by omega)) ?_
    refine x_iload_n d_AL_grow_I_24 rfl ?_
    refine x_iconst (v := 1) d_AL_grow_I_25 (by decide) ?_
    refine x_ishr d_AL_grow_I_26 ?_
    refine x_top (w := .int (nI (es.length / 2))) (by rw [pk_shrN (by omega) _ 1 (by decide +kernel)]) ?_
    refine x_callS (As := [_, _, _]) xcs_AL_73 (c_newLength (by omega) (o := es.length) (g := 1) (p := es.length / 2) (by omega) (by omega) (by omega) (by omega)) rfl rfl (Nat.le_of_ble_eq_true rfl) d_AL_grow_I_27 ?_
    rintro v h' c' n' ⟨rfl, rfl, rfl, rfl⟩
    have hM : es.length + max 1 (es.length / 2) = es.length + es.length / 2 := by omega
    rw [hM]
    have hel' : ∀ v ∈ es.map (Value.ref ·), xel G h' "java/lang/Object" v := by
      intro v hv
      obtain ⟨x, hx, rfl⟩ := List.mem_map.mp hv
      exact hel x hx
    refine x_istore_n (L' := [_, _, _, _]) d_AL_grow_I_30 rfl rfl ?_
    refine x_aload_n d_AL_grow_I_31 rfl rfl ?_
    refine x_aload_n d_AL_grow_I_32 rfl rfl ?_
    refine x_get xf_AL_9_AL (Or.inl ha) rfl d_AL_grow_I_33 ?_
    refine x_iload_n d_AL_grow_I_36 rfl ?_
    refine x_callS (As := [_, _]) xcs_AL_66 (c_copyOf_aO (by omega) he hel' (by rw [hml]; omega) (by omega) hc (by omega)) rfl rfl (Nat.le_of_ble_eq_true rfl) d_AL_grow_I_37 ?_
    rintro v h' c' n' ⟨q, rfl, hq, rfl, rfl, rfl⟩
    refine x_dup_x1 d_AL_grow_I_40 rfl rfl ?_
    refine x_put xf_AL_9_AL xp_AL_0 rfl rfl (xup_old ha hq) rfl rfl d_AL_grow_I_41 ?_
    refine x_aret d_AL_grow_I_44 rfl rfl ?_
    obtain ⟨k, hk⟩ : ∃ k, es.length + es.length / 2 - (es.map (Value.ref ·)).length = k + 1 := ⟨es.length / 2 - 1, by rw [hml]; omega⟩
    rw [hk]
    refine ⟨q, k, rfl, hq, rfl, by rw [hml] at hk; omega, by rw [hml] at hk; omega, rfl, ?_⟩
    simp
    rw [hml] at hk
    omega
theorem c_AL_grow (hG : xGk G) (hd : 4 ≤ d) {a ea : Nat} {es : List Nat} {mc : Int32} (ha : h a = some (k_ArrayList, [.ref ea, .int (nI es.length), .int mc])) (he : (es = [] ∧ ea = G.2.2.2.1 100) ∨ (h ea = some (k_aObject, es.map (.ref ·)) ∧ 10 ≤ es.length ∧ es.length ≤ 60)) (hel : ∀ x ∈ es, xel G h "java/lang/Object" (.ref x)) (hc : c + 1 ≤ xCB) (hn : n + 100 ≤ xSB) :
    XM l G d M_AL_grow_ [.ref a] h c n (fun v h' c' n' => ∃ q k, v = some (.ref q) ∧ h q = none ∧ h' = xup (xup h q (k_aObject, es.map (.ref ·) ++ List.replicate (k + 1) .null)) a (k_ArrayList, [.ref q, .int (nI es.length), .int mc]) ∧ 10 ≤ es.length + (k + 1) ∧ es.length + (k + 1) ≤ 100 ∧ c' = c + 1 ∧ n' ≤ n + 100) := by
  obtain ⟨d, rfl⟩ : ∃ q, d = q + 1 := ⟨d - 1, by omega⟩
  refine XM.of (by decide +kernel) (Nat.le_of_ble_eq_true rfl) ?_
  refine x_aload_n d_AL_grow__0 rfl rfl ?_
  refine x_aload_n d_AL_grow__1 rfl rfl ?_
  refine x_get xf_AL_48_AL (Or.inl ha) rfl d_AL_grow__2 ?_
  refine x_iconst (v := 1) d_AL_grow__5 (by decide) ?_
  refine x_iadd d_AL_grow__6 ?_
  refine x_top (w := .int (nI (es.length + 1))) (by rw [show (1 : Int32) = nI 1 from rfl, nI_add]) ?_
  refine x_callV (As := [_]) (k := k_ArrayList) rfl xcv_AL_69_AL (Or.inl ha) (c_AL_growI hG (by omega) ha he hel hc hn) rfl rfl (Nat.le_of_ble_eq_true rfl) d_AL_grow__7 ?_
  rintro v h' c' n' ⟨q, k, rfl, hq⟩
  refine x_aret d_AL_grow__10 rfl rfl ?_
  exact ⟨q, k, rfl, hq⟩
end ALS
