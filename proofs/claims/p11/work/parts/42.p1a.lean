section
abbrev y_MT_takeText : MethodName := ⟨"MarkerText", "takeText", "()Ljava/lang/String;"⟩
abbrev M_MT_takeText : XMt := (y_MT_takeText, prog_1_method_17_code, 2, (some (.object "java/lang/String")))
theorem d_MT_takeText_0 : decode M_MT_takeText.2.1 0 = .ok (.aload_n 0, 1) := by decide +kernel
theorem d_MT_takeText_1 : decode M_MT_takeText.2.1 1 = .ok (.getfield 12, 3) := by decide +kernel
theorem d_MT_takeText_4 : decode M_MT_takeText.2.1 4 = .ok (.invokevirtual 198, 3) := by decide +kernel
theorem xw_461 : (Jvm.Cond.methodLink "MarkerText" (198 : Nat) ({ cls := "java/lang/StringBuilder", name := "toString", desc := "()Ljava/lang/String;" } : Jvm.MethodName)) ∈ xT := xT_at 461 (by decide +kernel) (by decide +kernel)
theorem xcv_MT_198_SB : xCV "MarkerText" 198 "java/lang/StringBuilder" M_SB_toString 0 := ⟨xcb_SB_toString, xw_462, Or.inl ⟨xw_461, Or.inl xw_463⟩⟩
theorem d_MT_takeText_7 : decode M_MT_takeText.2.1 7 = .ok (.astore_n 1, 1) := by decide +kernel
theorem d_MT_takeText_8 : decode M_MT_takeText.2.1 8 = .ok (.aload_n 0, 1) := by decide +kernel
theorem d_MT_takeText_9 : decode M_MT_takeText.2.1 9 = .ok (.getfield 12, 3) := by decide +kernel
theorem d_MT_takeText_12 : decode M_MT_takeText.2.1 12 = .ok (.iconst 0, 1) := by decide +kernel
theorem d_MT_takeText_13 : decode M_MT_takeText.2.1 13 = .ok (.invokevirtual 201, 3) := by decide +kernel
theorem xw_644 : (Jvm.Cond.methodLink "MarkerText" (201 : Nat) ({ cls := "java/lang/StringBuilder", name := "setLength", desc := "(I)V" } : Jvm.MethodName)) ∈ xT := xT_at 644 (by decide +kernel) (by decide +kernel)
theorem xcv_MT_201_SB : xCV "MarkerText" 201 "java/lang/StringBuilder" M_SB_setLength 1 := ⟨xcb_SB_setLength, xw_645, Or.inl ⟨xw_644, Or.inl xw_646⟩⟩
theorem d_MT_takeText_16 : decode M_MT_takeText.2.1 16 = .ok (.aload_n 1, 1) := by decide +kernel
theorem d_MT_takeText_17 : decode M_MT_takeText.2.1 17 = .ok (.areturn, 1) := by decide +kernel
abbrev y_MT_nameAt : MethodName := ⟨"MarkerText", "nameAt", "(I)LMarkerText$Name;"⟩
abbrev M_MT_nameAt : XMt := (y_MT_nameAt, prog_1_method_18_code, 2, (some (.object "MarkerText$Name")))
theorem d_MT_nameAt_0 : decode M_MT_nameAt.2.1 0 = .ok (.iload_n 1, 1) := by decide +kernel
theorem d_MT_nameAt_1 : decode M_MT_nameAt.2.1 1 = .ok (.ifCond .lt 18, 3) := by decide +kernel
theorem d_MT_nameAt_19 : decode M_MT_nameAt.2.1 19 = .ok (.aconst_null, 1) := by decide +kernel
theorem d_MT_nameAt_20 : decode M_MT_nameAt.2.1 20 = .ok (.areturn, 1) := by decide +kernel
theorem d_MT_nameAt_4 : decode M_MT_nameAt.2.1 4 = .ok (.iload_n 1, 1) := by decide +kernel
theorem d_MT_nameAt_5 : decode M_MT_nameAt.2.1 5 = .ok (.bipush 6, 2) := by decide +kernel
theorem d_MT_nameAt_7 : decode M_MT_nameAt.2.1 7 = .ok (.if_icmp .ge 12, 3) := by decide +kernel
theorem d_MT_nameAt_10 : decode M_MT_nameAt.2.1 10 = .ok (.aload_n 0, 1) := by decide +kernel
theorem d_MT_nameAt_11 : decode M_MT_nameAt.2.1 11 = .ok (.getfield 18, 3) := by decide +kernel
theorem d_MT_nameAt_14 : decode M_MT_nameAt.2.1 14 = .ok (.iload_n 1, 1) := by decide +kernel
theorem d_MT_nameAt_15 : decode M_MT_nameAt.2.1 15 = .ok (.aaload, 1) := by decide +kernel
theorem d_MT_nameAt_16 : decode M_MT_nameAt.2.1 16 = .ok (.goto 4, 3) := by decide +kernel
abbrev y_MT_conditionAt : MethodName := ⟨"MarkerText", "conditionAt", "(I)LMarkerText$Condition;"⟩
abbrev M_MT_conditionAt : XMt := (y_MT_conditionAt, prog_1_method_19_code, 2, (some (.object "MarkerText$Condition")))
theorem d_MT_conditionAt_0 : decode M_MT_conditionAt.2.1 0 = .ok (.iload_n 1, 1) := by decide +kernel
theorem d_MT_conditionAt_1 : decode M_MT_conditionAt.2.1 1 = .ok (.ifCond .lt 18, 3) := by decide +kernel
theorem d_MT_conditionAt_19 : decode M_MT_conditionAt.2.1 19 = .ok (.aconst_null, 1) := by decide +kernel
theorem d_MT_conditionAt_20 : decode M_MT_conditionAt.2.1 20 = .ok (.areturn, 1) := by decide +kernel
theorem d_MT_conditionAt_4 : decode M_MT_conditionAt.2.1 4 = .ok (.iload_n 1, 1) := by decide +kernel
theorem d_MT_conditionAt_5 : decode M_MT_conditionAt.2.1 5 = .ok (.bipush 8, 2) := by decide +kernel
theorem d_MT_conditionAt_7 : decode M_MT_conditionAt.2.1 7 = .ok (.if_icmp .ge 12, 3) := by decide +kernel
theorem d_MT_conditionAt_10 : decode M_MT_conditionAt.2.1 10 = .ok (.aload_n 0, 1) := by decide +kernel
theorem d_MT_conditionAt_11 : decode M_MT_conditionAt.2.1 11 = .ok (.getfield 28, 3) := by decide +kernel
theorem d_MT_conditionAt_14 : decode M_MT_conditionAt.2.1 14 = .ok (.iload_n 1, 1) := by decide +kernel
theorem d_MT_conditionAt_15 : decode M_MT_conditionAt.2.1 15 = .ok (.aaload, 1) := by decide +kernel
theorem d_MT_conditionAt_16 : decode M_MT_conditionAt.2.1 16 = .ok (.goto 4, 3) := by decide +kernel
abbrev y_Parting_has : MethodName := ⟨"MarkerText$Parting", "has", "(I)Z"⟩
abbrev M_Parting_has : XMt := (y_Parting_has, prog_9_method_4_code, 2, (some .boolean))
theorem d_Parting_has_0 : decode M_Parting_has.2.1 0 = .ok (.iload_n 1, 1) := by decide +kernel
theorem d_Parting_has_1 : decode M_Parting_has.2.1 1 = .ok (.ifCond .lt 15, 3) := by decide +kernel
theorem d_Parting_has_16 : decode M_Parting_has.2.1 16 = .ok (.iconst 0, 1) := by decide +kernel
theorem d_Parting_has_17 : decode M_Parting_has.2.1 17 = .ok (.ireturn, 1) := by decide +kernel
theorem d_Parting_has_4 : decode M_Parting_has.2.1 4 = .ok (.iload_n 1, 1) := by decide +kernel
theorem d_Parting_has_5 : decode M_Parting_has.2.1 5 = .ok (.aload_n 0, 1) := by decide +kernel
theorem d_Parting_has_6 : decode M_Parting_has.2.1 6 = .ok (.getfield 9, 3) := by decide +kernel
theorem d_Parting_has_9 : decode M_Parting_has.2.1 9 = .ok (.if_icmp .ge 7, 3) := by decide +kernel
abbrev y_MT_type : MethodName := ⟨"MarkerText", "type", "(C)Z"⟩
abbrev M_MT_type : XMt := (y_MT_type, prog_1_method_2_code, 2, (some .boolean))
theorem d_MT_type_0 : decode M_MT_type.2.1 0 = .ok (.iload_n 1, 1) := by decide +kernel
theorem d_MT_type_1 : decode M_MT_type.2.1 1 = .ok (.bipush 32, 2) := by decide +kernel
theorem d_MT_type_3 : decode M_MT_type.2.1 3 = .ok (.if_icmp .lt 22, 3) := by decide +kernel
theorem d_MT_type_6 : decode M_MT_type.2.1 6 = .ok (.iload_n 1, 1) := by decide +kernel
theorem d_MT_type_7 : decode M_MT_type.2.1 7 = .ok (.bipush 126, 2) := by decide +kernel
theorem d_MT_type_9 : decode M_MT_type.2.1 9 = .ok (.if_icmp .gt 16, 3) := by decide +kernel
theorem d_MT_type_12 : decode M_MT_type.2.1 12 = .ok (.aload_n 0, 1) := by decide +kernel
theorem d_MT_type_13 : decode M_MT_type.2.1 13 = .ok (.getfield 12, 3) := by decide +kernel
theorem d_MT_type_16 : decode M_MT_type.2.1 16 = .ok (.invokevirtual 56, 3) := by decide +kernel
theorem xw_172 : (Jvm.Cond.methodLink "MarkerText" (56 : Nat) ({ cls := "java/lang/StringBuilder", name := "length", desc := "()I" } : Jvm.MethodName)) ∈ xT := xT_at 172 (by decide +kernel) (by decide +kernel)
theorem xw_174 : (Jvm.Cond.selects "java/lang/StringBuilder" ({ cls := "java/lang/StringBuilder", name := "length", desc := "()I" } : Jvm.MethodName) ({ cls := "java/lang/StringBuilder", name := "length", desc := "()I" } : Jvm.MethodName)) ∈ xT := xT_at 174 (by decide +kernel) (by decide +kernel)
theorem xcv_MT_56_SB : xCV "MarkerText" 56 "java/lang/StringBuilder" M_SB_length 0 := ⟨xcb_SB_length, xw_173, Or.inl ⟨xw_172, Or.inl xw_174⟩⟩
theorem d_MT_type_19 : decode M_MT_type.2.1 19 = .ok (.sipush 160, 3) := by decide +kernel
theorem d_MT_type_22 : decode M_MT_type.2.1 22 = .ok (.if_icmp .lt 5, 3) := by decide +kernel
theorem d_MT_type_27 : decode M_MT_type.2.1 27 = .ok (.aload_n 0, 1) := by decide +kernel
theorem d_MT_type_28 : decode M_MT_type.2.1 28 = .ok (.getfield 12, 3) := by decide +kernel
theorem d_MT_type_31 : decode M_MT_type.2.1 31 = .ok (.iload_n 1, 1) := by decide +kernel
theorem d_MT_type_32 : decode M_MT_type.2.1 32 = .ok (.invokevirtual 60, 3) := by decide +kernel
theorem xw_179 : (Jvm.Cond.methodLink "MarkerText" (60 : Nat) ({ cls := "java/lang/StringBuilder", name := "append", desc := "(C)Ljava/lang/StringBuilder;" } : Jvm.MethodName)) ∈ xT := xT_at 179 (by decide +kernel) (by decide +kernel)
theorem xcv_MT_60_SB : xCV "MarkerText" 60 "java/lang/StringBuilder" M_SB_append_C 1 := ⟨xcb_SB_append_C, xw_180, Or.inl ⟨xw_179, Or.inl xw_181⟩⟩
theorem d_MT_type_35 : decode M_MT_type.2.1 35 = .ok (.pop, 1) := by decide +kernel
theorem d_MT_type_36 : decode M_MT_type.2.1 36 = .ok (.iconst 1, 1) := by decide +kernel
theorem d_MT_type_37 : decode M_MT_type.2.1 37 = .ok (.ireturn, 1) := by decide +kernel
theorem d_MT_type_25 : decode M_MT_type.2.1 25 = .ok (.iconst 0, 1) := by decide +kernel
theorem d_MT_type_26 : decode M_MT_type.2.1 26 = .ok (.ireturn, 1) := by decide +kernel
abbrev y_MT_place : MethodName := ⟨"MarkerText", "place", "()I"⟩
abbrev M_MT_place : XMt := (y_MT_place, prog_1_method_6_code, 1, (some .int))
theorem d_MT_place_0 : decode M_MT_place.2.1 0 = .ok (.aload_n 0, 1) := by decide +kernel
theorem d_MT_place_1 : decode M_MT_place.2.1 1 = .ok (.getfield 35, 3) := by decide +kernel
theorem d_MT_place_4 : decode M_MT_place.2.1 4 = .ok (.ireturn, 1) := by decide +kernel
abbrev y_MT_holds : MethodName := ⟨"MarkerText", "holds", "(I)Z"⟩
abbrev M_MT_holds : XMt := (y_MT_holds, prog_1_method_8_code, 3, (some .boolean))
theorem d_MT_holds_0 : decode M_MT_holds.2.1 0 = .ok (.aload_n 0, 1) := by decide +kernel
theorem d_MT_holds_1 : decode M_MT_holds.2.1 1 = .ok (.iload_n 1, 1) := by decide +kernel
theorem d_MT_holds_2 : decode M_MT_holds.2.1 2 = .ok (.invokevirtual 143, 3) := by decide +kernel
theorem xw_285 : (Jvm.Cond.code ({ cls := "MarkerText", name := "conditionAt", desc := "(I)LMarkerText$Condition;" } : Jvm.MethodName) prog_1_method_19_code (2 : Nat) (Option.some (Jvm.ClassFile.FieldType.object "MarkerText$Condition"))) ∈ xT := xT_at 285 (by decide +kernel) (by decide +kernel)
theorem xcb_MT_conditionAt : xcb M_MT_conditionAt 1 := ⟨xw_285, xw_1, by decide, by decide, by decide, by decide +kernel⟩
theorem xw_284 : (Jvm.Cond.instanceMethod ({ cls := "MarkerText", name := "conditionAt", desc := "(I)LMarkerText$Condition;" } : Jvm.MethodName)) ∈ xT := xT_at 284 (by decide +kernel) (by decide +kernel)
theorem xw_282 : (Jvm.Cond.methodLink "MarkerText" (143 : Nat) ({ cls := "MarkerText", name := "conditionAt", desc := "(I)LMarkerText$Condition;" } : Jvm.MethodName)) ∈ xT := xT_at 282 (by decide +kernel) (by decide +kernel)
theorem xsel_MT_conditionAt : Cond.selects "MarkerText" y_MT_conditionAt y_MT_conditionAt ∈ xT := xT_sel (q := (y_MT_conditionAt, 9)) (by decide +kernel) (by decide +kernel)
theorem xcv_MT_143_MT : xCV "MarkerText" 143 "MarkerText" M_MT_conditionAt 1 := ⟨xcb_MT_conditionAt, xw_284, Or.inl ⟨xw_282, Or.inl xsel_MT_conditionAt⟩⟩
theorem d_MT_holds_5 : decode M_MT_holds.2.1 5 = .ok (.astore_n 2, 1) := by decide +kernel
theorem d_MT_holds_6 : decode M_MT_holds.2.1 6 = .ok (.aload_n 2, 1) := by decide +kernel
theorem d_MT_holds_7 : decode M_MT_holds.2.1 7 = .ok (.ifnull 21, 3) := by decide +kernel
theorem d_MT_holds_28 : decode M_MT_holds.2.1 28 = .ok (.iconst 0, 1) := by decide +kernel
theorem d_MT_holds_29 : decode M_MT_holds.2.1 29 = .ok (.ireturn, 1) := by decide +kernel
abbrev y_MT_ever : MethodName := ⟨"MarkerText", "ever", "(I)I"⟩
abbrev M_MT_ever : XMt := (y_MT_ever, prog_1_method_9_code, 2, (some .int))
theorem d_MT_ever_0 : decode M_MT_ever.2.1 0 = .ok (.aload_n 0, 1) := by decide +kernel
theorem d_MT_ever_1 : decode M_MT_ever.2.1 1 = .ok (.iload_n 1, 1) := by decide +kernel
theorem d_MT_ever_2 : decode M_MT_ever.2.1 2 = .ok (.invokevirtual 143, 3) := by decide +kernel
theorem d_MT_ever_5 : decode M_MT_ever.2.1 5 = .ok (.ifnonnull 5, 3) := by decide +kernel
theorem d_MT_ever_8 : decode M_MT_ever.2.1 8 = .ok (.iconst (-1), 1) := by decide +kernel
theorem d_MT_ever_9 : decode M_MT_ever.2.1 9 = .ok (.ireturn, 1) := by decide +kernel
abbrev y_MT_implies : MethodName := ⟨"MarkerText", "implies", "(II)I"⟩
abbrev M_MT_implies : XMt := (y_MT_implies, prog_1_method_10_code, 3, (some .int))
theorem d_MT_implies_0 : decode M_MT_implies.2.1 0 = .ok (.aload_n 0, 1) := by decide +kernel
theorem d_MT_implies_1 : decode M_MT_implies.2.1 1 = .ok (.iload_n 1, 1) := by decide +kernel
theorem d_MT_implies_2 : decode M_MT_implies.2.1 2 = .ok (.invokevirtual 143, 3) := by decide +kernel
theorem d_MT_implies_5 : decode M_MT_implies.2.1 5 = .ok (.ifnull 11, 3) := by decide +kernel
theorem d_MT_implies_16 : decode M_MT_implies.2.1 16 = .ok (.iconst (-1), 1) := by decide +kernel
theorem d_MT_implies_17 : decode M_MT_implies.2.1 17 = .ok (.ireturn, 1) := by decide +kernel
abbrev y_MT_apart : MethodName := ⟨"MarkerText", "apart", "(II)I"⟩
abbrev M_MT_apart : XMt := (y_MT_apart, prog_1_method_11_code, 3, (some .int))
theorem d_MT_apart_0 : decode M_MT_apart.2.1 0 = .ok (.aload_n 0, 1) := by decide +kernel
theorem d_MT_apart_1 : decode M_MT_apart.2.1 1 = .ok (.iload_n 1, 1) := by decide +kernel
theorem d_MT_apart_2 : decode M_MT_apart.2.1 2 = .ok (.invokevirtual 143, 3) := by decide +kernel
theorem d_MT_apart_5 : decode M_MT_apart.2.1 5 = .ok (.ifnull 11, 3) := by decide +kernel
theorem d_MT_apart_16 : decode M_MT_apart.2.1 16 = .ok (.iconst (-1), 1) := by decide +kernel
theorem d_MT_apart_17 : decode M_MT_apart.2.1 17 = .ok (.ireturn, 1) := by decide +kernel
abbrev y_MT_many : MethodName := ⟨"MarkerText", "many", "(I)I"⟩
abbrev M_MT_many : XMt := (y_MT_many, prog_1_method_13_code, 2, (some .int))
theorem d_MT_many_0 : decode M_MT_many.2.1 0 = .ok (.aload_n 0, 1) := by decide +kernel
theorem d_MT_many_1 : decode M_MT_many.2.1 1 = .ok (.getfield 52, 3) := by decide +kernel
theorem d_MT_many_4 : decode M_MT_many.2.1 4 = .ok (.iload_n 1, 1) := by decide +kernel
theorem d_MT_many_5 : decode M_MT_many.2.1 5 = .ok (.invokevirtual 176, 3) := by decide +kernel
theorem xw_394 : (Jvm.Cond.code ({ cls := "MarkerText$Parting", name := "has", desc := "(I)Z" } : Jvm.MethodName) prog_9_method_4_code (2 : Nat) (Option.some Jvm.ClassFile.FieldType.boolean)) ∈ xT := xT_at 394 (by decide +kernel) (by decide +kernel)
theorem xcb_Parting_has : xcb M_Parting_has 1 := ⟨xw_394, xw_7, by decide, by decide, by decide, by decide +kernel⟩
theorem xw_392 : (Jvm.Cond.instanceMethod ({ cls := "MarkerText$Parting", name := "has", desc := "(I)Z" } : Jvm.MethodName)) ∈ xT := xT_at 392 (by decide +kernel) (by decide +kernel)
theorem xw_400 : (Jvm.Cond.methodLink "MarkerText" (176 : Nat) ({ cls := "MarkerText$Parting", name := "has", desc := "(I)Z" } : Jvm.MethodName)) ∈ xT := xT_at 400 (by decide +kernel) (by decide +kernel)
theorem xw_393 : (Jvm.Cond.selects "MarkerText$Parting" ({ cls := "MarkerText$Parting", name := "has", desc := "(I)Z" } : Jvm.MethodName) ({ cls := "MarkerText$Parting", name := "has", desc := "(I)Z" } : Jvm.MethodName)) ∈ xT := xT_at 393 (by decide +kernel) (by decide +kernel)
theorem xcv_MT_176_Parting : xCV "MarkerText" 176 "MarkerText$Parting" M_Parting_has 1 := ⟨xcb_Parting_has, xw_392, Or.inl ⟨xw_400, Or.inl xw_393⟩⟩
theorem d_MT_many_8 : decode M_MT_many.2.1 8 = .ok (.ifCond .eq 15, 3) := by decide +kernel
theorem d_MT_many_23 : decode M_MT_many.2.1 23 = .ok (.iconst (-1), 1) := by decide +kernel
theorem d_MT_many_24 : decode M_MT_many.2.1 24 = .ok (.ireturn, 1) := by decide +kernel
abbrev y_MT_inClass : MethodName := ⟨"MarkerText", "inClass", "(II)Z"⟩
abbrev M_MT_inClass : XMt := (y_MT_inClass, prog_1_method_14_code, 3, (some .boolean))
theorem d_MT_inClass_0 : decode M_MT_inClass.2.1 0 = .ok (.aload_n 0, 1) := by decide +kernel
theorem d_MT_inClass_1 : decode M_MT_inClass.2.1 1 = .ok (.getfield 52, 3) := by decide +kernel
theorem d_MT_inClass_4 : decode M_MT_inClass.2.1 4 = .ok (.iload_n 1, 1) := by decide +kernel
theorem d_MT_inClass_5 : decode M_MT_inClass.2.1 5 = .ok (.invokevirtual 176, 3) := by decide +kernel
theorem d_MT_inClass_8 : decode M_MT_inClass.2.1 8 = .ok (.ifCond .eq 32, 3) := by decide +kernel
theorem d_MT_inClass_40 : decode M_MT_inClass.2.1 40 = .ok (.iconst 0, 1) := by decide +kernel
theorem d_MT_inClass_41 : decode M_MT_inClass.2.1 41 = .ok (.ireturn, 1) := by decide +kernel
abbrev y_MT_sample : MethodName := ⟨"MarkerText", "sample", "(II)I"⟩
abbrev M_MT_sample : XMt := (y_MT_sample, prog_1_method_15_code, 3, (some .int))
theorem d_MT_sample_0 : decode M_MT_sample.2.1 0 = .ok (.aload_n 0, 1) := by decide +kernel
theorem d_MT_sample_1 : decode M_MT_sample.2.1 1 = .ok (.getfield 52, 3) := by decide +kernel
theorem d_MT_sample_4 : decode M_MT_sample.2.1 4 = .ok (.iload_n 1, 1) := by decide +kernel
theorem d_MT_sample_5 : decode M_MT_sample.2.1 5 = .ok (.invokevirtual 176, 3) := by decide +kernel
theorem d_MT_sample_8 : decode M_MT_sample.2.1 8 = .ok (.ifCond .eq 23, 3) := by decide +kernel
theorem d_MT_sample_31 : decode M_MT_sample.2.1 31 = .ok (.iconst (-1), 1) := by decide +kernel
theorem d_MT_sample_32 : decode M_MT_sample.2.1 32 = .ok (.ireturn, 1) := by decide +kernel
abbrev y_MT_printed : MethodName := ⟨"MarkerText", "printed", "(II)I"⟩
abbrev M_MT_printed : XMt := (y_MT_printed, prog_1_method_16_code, 4, (some .int))
theorem d_MT_printed_0 : decode M_MT_printed.2.1 0 = .ok (.aload_n 0, 1) := by decide +kernel
theorem d_MT_printed_1 : decode M_MT_printed.2.1 1 = .ok (.iload_n 1, 1) := by decide +kernel
theorem d_MT_printed_2 : decode M_MT_printed.2.1 2 = .ok (.invokevirtual 143, 3) := by decide +kernel
theorem d_MT_printed_5 : decode M_MT_printed.2.1 5 = .ok (.astore_n 3, 1) := by decide +kernel
theorem d_MT_printed_6 : decode M_MT_printed.2.1 6 = .ok (.aload_n 3, 1) := by decide +kernel
theorem d_MT_printed_7 : decode M_MT_printed.2.1 7 = .ok (.ifnull 29, 3) := by decide +kernel
theorem d_MT_printed_36 : decode M_MT_printed.2.1 36 = .ok (.iconst 0, 1) := by decide +kernel
theorem d_MT_printed_37 : decode M_MT_printed.2.1 37 = .ok (.ireturn, 1) := by decide +kernel
end
section P1A
variable {l : Launch} {G : XG} {h : XH} {c n d : Nat}
/-- TEXT is taken -/
theorem c_takeText (hd : 6 ≤ d) {x ta va m : Nat} {t : List Nat} {e : List Value} (hx : h x = some (k_MarkerText, .ref ta :: e)) (hB : isB h ta va t m) (hm : m < 2 ^ 18) (hc : c + 2 ≤ xCB) (hn : n + t.length + 4 ≤ xSB) : XM l G d M_MT_takeText [.ref x] h c n (fun v h' c' n' => ∃ q, v = some (.ref q) ∧ isS G h' q t ∧ isB h' ta va [] m ∧ xfr h h' [ta] ∧ c' ≤ c + 2 ∧ n' ≤ n + t.length + 4) := by
  obtain ⟨d, rfl⟩ : ∃ q, d = q + 1 := ⟨d - 1, by omega⟩
  obtain ⟨z, bs, b1, b2, -⟩ := id hB
  refine XM.of (by decide +kernel) (Nat.le_of_ble_eq_true rfl) ?_
  refine x_aload_n d_MT_takeText_0 rfl rfl ?_
  refine x_get xf_MT_12_MT (Or.inl hx) rfl d_MT_takeText_1 ?_
  refine x_callV (As := []) (k := k_StringBuilder) rfl xcv_MT_198_SB (Or.inl b1) (c_SB_toString (by omega) hB hm hc hn) rfl rfl (Nat.le_of_ble_eq_true rfl) d_MT_takeText_4 ?_
  rintro v h1 c1 n1 ⟨q, rfl, hS, f1, hc1, hn1⟩
  have x1 := f1.1 _ _ hx (by simp)
  have B1 := hB.fr f1 (by simp) (by simp)
  obtain ⟨z1, bs1, b11, b12, -⟩ := id B1
  refine x_astore_n (L' := [_, _]) d_MT_takeText_7 rfl rfl rfl ?_
  refine x_aload_n d_MT_takeText_8 rfl rfl ?_
  refine x_get xf_MT_12_MT (Or.inl x1) rfl d_MT_takeText_9 ?_
  refine x_iconst (v := 0) d_MT_takeText_12 (by decide) ?_
  refine x_callV (As := [_]) (k := k_StringBuilder) rfl xcv_MT_201_SB (Or.inl b11) (c_SB_setLength0 (by omega) B1 hm) rfl rfl (Nat.le_of_ble_eq_true rfl) d_MT_takeText_13 ?_
  rintro v h2 c2 n2 ⟨rfl, B2, f2, rfl, rfl⟩
  refine x_aload_n d_MT_takeText_16 rfl rfl ?_
  refine x_aret d_MT_takeText_17 rfl rfl ?_
  exact ⟨q, rfl, hS.fr f2 (xno1 b11 (by decide)), B2, (f1.mono (by simp)).tr f2 (fun q _ hq => hq), by omega, by omega⟩
theorem i32_cl {k : Int32} {N : Int32} {m : Nat} (hN : N.toInt = m) (h0 : ¬ k < 0) (h1 : ¬ N ≤ k) : k.toNatClampNeg < m := by
  rw [Int32.le_iff_toInt_le] at h1
  rw [Int32.lt_iff_toInt_lt] at h0
  have e0 : (0 : Int32).toInt = 0 := by decide
  show k.toInt.toNat < m
  omega
/-- what the reference and the law keep their numbers in: the class writes into none of it -/
abbrev RK : List Nat := k_MarkerTextModel :: k_aint :: k_along :: k_aboolean :: k_avals :: xrk
def xap (h h' : XH) : Prop := ∃ F, xfr h h' F ∧ xno h F RK
theorem xq.tr {ks : List Nat} {h1 h2 : XH} (a : ∃ F, xfr h h1 F ∧ xno h F ks) (b : ∃ F, xfr h1 h2 F ∧ xno h1 F ks) : ∃ F, xfr h h2 F ∧ xno h F ks := by
  obtain ⟨F1, f1, n1⟩ := a
  obtain ⟨F2, f2, n2⟩ := b
  refine ⟨F1 ++ F2, (f1.mono (fun q hq => List.mem_append_left _ hq)).tr f2 (fun q _ hq => List.mem_append_right _ hq), fun q hq e he hk => ?_⟩
  by_cases hq1 : q ∈ F1
  · exact n1 q hq1 e he hk
  · rcases List.mem_append.mp hq with z | z
    · exact hq1 z
    · exact n2 q z e (f1.1 q e he hq1) hk
theorem xap.rf : xap h h := ⟨[], xfr.rf, fun q hq => by cases hq⟩
end P1A
