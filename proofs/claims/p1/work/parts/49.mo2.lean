section
abbrev y_Mo_in : MethodName := ⟨"MarkerTextModel", "in", "(III)Z"⟩
abbrev M_Mo_in : XMt := (y_Mo_in, prog_13_method_4_code, 3, (some .boolean))
theorem d_Mo_in_0 : decode M_Mo_in.2.1 0 = .ok (.iload_n 0, 1) := by decide +kernel
theorem d_Mo_in_1 : decode M_Mo_in.2.1 1 = .ok (.iload_n 1, 1) := by decide +kernel
theorem d_Mo_in_2 : decode M_Mo_in.2.1 2 = .ok (.if_icmp .lt 12, 3) := by decide +kernel
theorem d_Mo_in_14 : decode M_Mo_in.2.1 14 = .ok (.iconst 0, 1) := by decide +kernel
theorem d_Mo_in_15 : decode M_Mo_in.2.1 15 = .ok (.ireturn, 1) := by decide +kernel
theorem d_Mo_in_5 : decode M_Mo_in.2.1 5 = .ok (.iload_n 0, 1) := by decide +kernel
theorem d_Mo_in_6 : decode M_Mo_in.2.1 6 = .ok (.iload_n 2, 1) := by decide +kernel
theorem d_Mo_in_7 : decode M_Mo_in.2.1 7 = .ok (.if_icmp .gt 7, 3) := by decide +kernel
theorem d_Mo_in_10 : decode M_Mo_in.2.1 10 = .ok (.iconst 1, 1) := by decide +kernel
theorem d_Mo_in_11 : decode M_Mo_in.2.1 11 = .ok (.goto 4, 3) := by decide +kernel
abbrev y_Mo_thrown : MethodName := ⟨"MarkerTextModel", "thrown", "()I"⟩
abbrev M_Mo_thrown : XMt := (y_Mo_thrown, prog_13_method_2_code, 1, (some .int))
theorem d_Mo_thrown_0 : decode M_Mo_thrown.2.1 0 = .ok (.aload_n 0, 1) := by decide +kernel
theorem d_Mo_thrown_1 : decode M_Mo_thrown.2.1 1 = .ok (.getfield 121, 3) := by decide +kernel
theorem xw_1170 : (Jvm.Cond.fieldLink "MarkerTextModel" (121 : Nat) "MarkerTextModel" "thrown" "I") ∈ xT := xT_at 1170 (by decide +kernel) (by decide +kernel)
theorem xf_Mo_121_Mo : xF "MarkerTextModel" 121 k_MarkerTextModel 0 := ⟨_, _, _, "MarkerTextModel", rfl, by decide, Or.inl xw_1170, Or.inl rfl⟩
theorem d_Mo_thrown_4 : decode M_Mo_thrown.2.1 4 = .ok (.ireturn, 1) := by decide +kernel
abbrev y_Mo_fails : MethodName := ⟨"MarkerTextModel", "fails", "(ZZ)Z"⟩
abbrev M_Mo_fails : XMt := (y_Mo_fails, prog_13_method_3_code, 3, (some .boolean))
theorem d_Mo_fails_0 : decode M_Mo_fails.2.1 0 = .ok (.aload_n 0, 1) := by decide +kernel
theorem d_Mo_fails_1 : decode M_Mo_fails.2.1 1 = .ok (.iload_n 1, 1) := by decide +kernel
theorem d_Mo_fails_2 : decode M_Mo_fails.2.1 2 = .ok (.ifCond .eq 7, 3) := by decide +kernel
theorem d_Mo_fails_5 : decode M_Mo_fails.2.1 5 = .ok (.iconst 1, 1) := by decide +kernel
theorem d_Mo_fails_6 : decode M_Mo_fails.2.1 6 = .ok (.goto 12, 3) := by decide +kernel
theorem d_Mo_fails_18 : decode M_Mo_fails.2.1 18 = .ok (.putfield 121, 3) := by decide +kernel
theorem xp_Mo_0 : xP k_MarkerTextModel 0 false .int := ⟨_, _, _, rfl, rfl, by decide +kernel⟩
theorem d_Mo_fails_21 : decode M_Mo_fails.2.1 21 = .ok (.aload_n 0, 1) := by decide +kernel
theorem d_Mo_fails_22 : decode M_Mo_fails.2.1 22 = .ok (.getfield 121, 3) := by decide +kernel
theorem d_Mo_fails_25 : decode M_Mo_fails.2.1 25 = .ok (.ifCond .le 7, 3) := by decide +kernel
theorem d_Mo_fails_28 : decode M_Mo_fails.2.1 28 = .ok (.iconst 1, 1) := by decide +kernel
theorem d_Mo_fails_29 : decode M_Mo_fails.2.1 29 = .ok (.goto 4, 3) := by decide +kernel
theorem d_Mo_fails_33 : decode M_Mo_fails.2.1 33 = .ok (.ireturn, 1) := by decide +kernel
abbrev y_Mo_isName : MethodName := ⟨"MarkerTextModel", "isName", "(I)Z"⟩
abbrev M_Mo_isName : XMt := (y_Mo_isName, prog_13_method_15_code, 2, (some .boolean))
theorem d_Mo_isName_0 : decode M_Mo_isName.2.1 0 = .ok (.iload_n 1, 1) := by decide +kernel
theorem d_Mo_isName_1 : decode M_Mo_isName.2.1 1 = .ok (.iconst 0, 1) := by decide +kernel
theorem d_Mo_isName_2 : decode M_Mo_isName.2.1 2 = .ok (.aload_n 0, 1) := by decide +kernel
theorem d_Mo_isName_3 : decode M_Mo_isName.2.1 3 = .ok (.getfield 147, 3) := by decide +kernel
theorem xw_1173 : (Jvm.Cond.fieldLink "MarkerTextModel" (147 : Nat) "MarkerTextModel" "names" "I") ∈ xT := xT_at 1173 (by decide +kernel) (by decide +kernel)
theorem xf_Mo_147_Mo : xF "MarkerTextModel" 147 k_MarkerTextModel 3 := ⟨_, _, _, "MarkerTextModel", rfl, by decide, Or.inl xw_1173, Or.inl rfl⟩
theorem d_Mo_isName_6 : decode M_Mo_isName.2.1 6 = .ok (.iconst 1, 1) := by decide +kernel
theorem d_Mo_isName_7 : decode M_Mo_isName.2.1 7 = .ok (.isub, 1) := by decide +kernel
theorem d_Mo_isName_8 : decode M_Mo_isName.2.1 8 = .ok (.invokestatic 150, 3) := by decide +kernel
theorem xw_1342 : (Jvm.Cond.code ({ cls := "MarkerTextModel", name := "in", desc := "(III)Z" } : Jvm.MethodName) prog_13_method_4_code (3 : Nat) (Option.some Jvm.ClassFile.FieldType.boolean)) ∈ xT := xT_at 1342 (by decide +kernel) (by decide +kernel)
theorem xw_8 : (Jvm.Cond.initialized "MarkerTextModel") ∈ xT := xT_at 8 (by decide +kernel) (by decide +kernel)
theorem xcb_Mo_in : xcb M_Mo_in 3 := ⟨xw_1342, xw_8, by decide, by decide, by decide, by decide +kernel⟩
theorem xw_1340 : (Jvm.Cond.methodLink "MarkerTextModel" (150 : Nat) ({ cls := "MarkerTextModel", name := "in", desc := "(III)Z" } : Jvm.MethodName)) ∈ xT := xT_at 1340 (by decide +kernel) (by decide +kernel)
theorem xw_1341 : (Jvm.Cond.static ({ cls := "MarkerTextModel", name := "in", desc := "(III)Z" } : Jvm.MethodName)) ∈ xT := xT_at 1341 (by decide +kernel) (by decide +kernel)
theorem xcs_Mo_150 : xCS "MarkerTextModel" 150 M_Mo_in 3 := ⟨xcb_Mo_in, xw_1341, Or.inl xw_1340⟩
theorem d_Mo_isName_11 : decode M_Mo_isName.2.1 11 = .ok (.ireturn, 1) := by decide +kernel
abbrev y_Mo_isCondition : MethodName := ⟨"MarkerTextModel", "isCondition", "(I)Z"⟩
abbrev M_Mo_isCondition : XMt := (y_Mo_isCondition, prog_13_method_41_code, 2, (some .boolean))
theorem d_Mo_isCondition_0 : decode M_Mo_isCondition.2.1 0 = .ok (.iload_n 1, 1) := by decide +kernel
theorem d_Mo_isCondition_1 : decode M_Mo_isCondition.2.1 1 = .ok (.iconst 0, 1) := by decide +kernel
theorem d_Mo_isCondition_2 : decode M_Mo_isCondition.2.1 2 = .ok (.aload_n 0, 1) := by decide +kernel
theorem d_Mo_isCondition_3 : decode M_Mo_isCondition.2.1 3 = .ok (.getfield 268, 3) := by decide +kernel
theorem xw_1181 : (Jvm.Cond.fieldLink "MarkerTextModel" (268 : Nat) "MarkerTextModel" "conditions" "I") ∈ xT := xT_at 1181 (by decide +kernel) (by decide +kernel)
theorem xf_Mo_268_Mo : xF "MarkerTextModel" 268 k_MarkerTextModel 11 := ⟨_, _, _, "MarkerTextModel", rfl, by decide, Or.inl xw_1181, Or.inl rfl⟩
theorem d_Mo_isCondition_6 : decode M_Mo_isCondition.2.1 6 = .ok (.iconst 1, 1) := by decide +kernel
theorem d_Mo_isCondition_7 : decode M_Mo_isCondition.2.1 7 = .ok (.isub, 1) := by decide +kernel
theorem d_Mo_isCondition_8 : decode M_Mo_isCondition.2.1 8 = .ok (.invokestatic 150, 3) := by decide +kernel
theorem d_Mo_isCondition_11 : decode M_Mo_isCondition.2.1 11 = .ok (.ireturn, 1) := by decide +kernel
abbrev y_Mo_type : MethodName := ⟨"MarkerTextModel", "type", "(C)Z"⟩
abbrev M_Mo_type : XMt := (y_Mo_type, prog_13_method_5_code, 2, (some .boolean))
theorem d_Mo_type_0 : decode M_Mo_type.2.1 0 = .ok (.aload_n 0, 1) := by decide +kernel
theorem d_Mo_type_1 : decode M_Mo_type.2.1 1 = .ok (.iconst 0, 1) := by decide +kernel
theorem d_Mo_type_2 : decode M_Mo_type.2.1 2 = .ok (.putfield 121, 3) := by decide +kernel
theorem d_Mo_type_5 : decode M_Mo_type.2.1 5 = .ok (.iload_n 1, 1) := by decide +kernel
theorem d_Mo_type_6 : decode M_Mo_type.2.1 6 = .ok (.bipush 32, 2) := by decide +kernel
theorem d_Mo_type_8 : decode M_Mo_type.2.1 8 = .ok (.if_icmp .lt 19, 3) := by decide +kernel
theorem d_Mo_type_11 : decode M_Mo_type.2.1 11 = .ok (.iload_n 1, 1) := by decide +kernel
theorem d_Mo_type_12 : decode M_Mo_type.2.1 12 = .ok (.bipush 126, 2) := by decide +kernel
theorem d_Mo_type_14 : decode M_Mo_type.2.1 14 = .ok (.if_icmp .gt 13, 3) := by decide +kernel
theorem d_Mo_type_17 : decode M_Mo_type.2.1 17 = .ok (.aload_n 0, 1) := by decide +kernel
theorem d_Mo_type_18 : decode M_Mo_type.2.1 18 = .ok (.getfield 124, 3) := by decide +kernel
theorem xw_1172 : (Jvm.Cond.fieldLink "MarkerTextModel" (124 : Nat) "MarkerTextModel" "size" "I") ∈ xT := xT_at 1172 (by decide +kernel) (by decide +kernel)
theorem xf_Mo_124_Mo : xF "MarkerTextModel" 124 k_MarkerTextModel 2 := ⟨_, _, _, "MarkerTextModel", rfl, by decide, Or.inl xw_1172, Or.inl rfl⟩
theorem d_Mo_type_21 : decode M_Mo_type.2.1 21 = .ok (.sipush 160, 3) := by decide +kernel
theorem d_Mo_type_24 : decode M_Mo_type.2.1 24 = .ok (.if_icmp .ne 5, 3) := by decide +kernel
theorem d_Mo_type_29 : decode M_Mo_type.2.1 29 = .ok (.aload_n 0, 1) := by decide +kernel
theorem d_Mo_type_30 : decode M_Mo_type.2.1 30 = .ok (.getfield 7, 3) := by decide +kernel
theorem d_Mo_type_33 : decode M_Mo_type.2.1 33 = .ok (.aload_n 0, 1) := by decide +kernel
theorem d_Mo_type_34 : decode M_Mo_type.2.1 34 = .ok (.getfield 124, 3) := by decide +kernel
theorem d_Mo_type_37 : decode M_Mo_type.2.1 37 = .ok (.iload_n 1, 1) := by decide +kernel
theorem d_Mo_type_38 : decode M_Mo_type.2.1 38 = .ok (.iastore, 1) := by decide +kernel
theorem d_Mo_type_39 : decode M_Mo_type.2.1 39 = .ok (.aload_n 0, 1) := by decide +kernel
theorem d_Mo_type_40 : decode M_Mo_type.2.1 40 = .ok (.dup, 1) := by decide +kernel
theorem d_Mo_type_41 : decode M_Mo_type.2.1 41 = .ok (.getfield 124, 3) := by decide +kernel
theorem d_Mo_type_44 : decode M_Mo_type.2.1 44 = .ok (.iconst 1, 1) := by decide +kernel
theorem d_Mo_type_45 : decode M_Mo_type.2.1 45 = .ok (.iadd, 1) := by decide +kernel
theorem d_Mo_type_46 : decode M_Mo_type.2.1 46 = .ok (.putfield 124, 3) := by decide +kernel
theorem xp_Mo_2 : xP k_MarkerTextModel 2 false .int := ⟨_, _, _, rfl, rfl, by decide +kernel⟩
theorem d_Mo_type_49 : decode M_Mo_type.2.1 49 = .ok (.iconst 1, 1) := by decide +kernel
theorem d_Mo_type_50 : decode M_Mo_type.2.1 50 = .ok (.ireturn, 1) := by decide +kernel
theorem d_Mo_type_27 : decode M_Mo_type.2.1 27 = .ok (.iconst 0, 1) := by decide +kernel
theorem d_Mo_type_28 : decode M_Mo_type.2.1 28 = .ok (.ireturn, 1) := by decide +kernel
abbrev y_Mo_name : MethodName := ⟨"MarkerTextModel", "name", "(I)I"⟩
abbrev M_Mo_name : XMt := (y_Mo_name, prog_13_method_11_code, 5, (some .int))
theorem d_Mo_name_0 : decode M_Mo_name.2.1 0 = .ok (.aload_n 0, 1) := by decide +kernel
theorem d_Mo_name_1 : decode M_Mo_name.2.1 1 = .ok (.getfield 124, 3) := by decide +kernel
theorem d_Mo_name_4 : decode M_Mo_name.2.1 4 = .ok (.istore_n 2, 1) := by decide +kernel
theorem d_Mo_name_5 : decode M_Mo_name.2.1 5 = .ok (.aload_n 0, 1) := by decide +kernel
theorem d_Mo_name_6 : decode M_Mo_name.2.1 6 = .ok (.iconst 0, 1) := by decide +kernel
theorem d_Mo_name_7 : decode M_Mo_name.2.1 7 = .ok (.putfield 124, 3) := by decide +kernel
theorem d_Mo_name_10 : decode M_Mo_name.2.1 10 = .ok (.iload_n 2, 1) := by decide +kernel
theorem d_Mo_name_11 : decode M_Mo_name.2.1 11 = .ok (.iconst 1, 1) := by decide +kernel
theorem d_Mo_name_12 : decode M_Mo_name.2.1 12 = .ok (.bipush 8, 2) := by decide +kernel
theorem d_Mo_name_14 : decode M_Mo_name.2.1 14 = .ok (.invokestatic 150, 3) := by decide +kernel
theorem d_Mo_name_17 : decode M_Mo_name.2.1 17 = .ok (.ifCond .eq 16, 3) := by decide +kernel
theorem d_Mo_name_33 : decode M_Mo_name.2.1 33 = .ok (.iconst 0, 1) := by decide +kernel
theorem d_Mo_name_34 : decode M_Mo_name.2.1 34 = .ok (.istore_n 3, 1) := by decide +kernel
theorem d_Mo_name_35 : decode M_Mo_name.2.1 35 = .ok (.iconst 0, 1) := by decide +kernel
theorem d_Mo_name_36 : decode M_Mo_name.2.1 36 = .ok (.istore 4, 2) := by decide +kernel
theorem d_Mo_name_38 : decode M_Mo_name.2.1 38 = .ok (.iload 4, 2) := by decide +kernel
theorem d_Mo_name_40 : decode M_Mo_name.2.1 40 = .ok (.iload_n 2, 1) := by decide +kernel
theorem d_Mo_name_41 : decode M_Mo_name.2.1 41 = .ok (.if_icmp .ge 24, 3) := by decide +kernel
theorem d_Mo_name_65 : decode M_Mo_name.2.1 65 = .ok (.iload_n 3, 1) := by decide +kernel
theorem d_Mo_name_66 : decode M_Mo_name.2.1 66 = .ok (.ifCond .eq 20, 3) := by decide +kernel
theorem d_Mo_name_86 : decode M_Mo_name.2.1 86 = .ok (.iconst 0, 1) := by decide +kernel
theorem d_Mo_name_87 : decode M_Mo_name.2.1 87 = .ok (.istore_n 3, 1) := by decide +kernel
theorem d_Mo_name_88 : decode M_Mo_name.2.1 88 = .ok (.aload_n 0, 1) := by decide +kernel
theorem d_Mo_name_89 : decode M_Mo_name.2.1 89 = .ok (.iload_n 3, 1) := by decide +kernel
theorem d_Mo_name_90 : decode M_Mo_name.2.1 90 = .ok (.ifCond .ne 7, 3) := by decide +kernel
theorem d_Mo_name_93 : decode M_Mo_name.2.1 93 = .ok (.iconst 1, 1) := by decide +kernel
theorem d_Mo_name_94 : decode M_Mo_name.2.1 94 = .ok (.goto 4, 3) := by decide +kernel
theorem d_Mo_name_98 : decode M_Mo_name.2.1 98 = .ok (.aload_n 0, 1) := by decide +kernel
theorem d_Mo_name_99 : decode M_Mo_name.2.1 99 = .ok (.getfield 147, 3) := by decide +kernel
theorem d_Mo_name_102 : decode M_Mo_name.2.1 102 = .ok (.bipush 6, 2) := by decide +kernel
theorem d_Mo_name_104 : decode M_Mo_name.2.1 104 = .ok (.if_icmp .ne 7, 3) := by decide +kernel
theorem d_Mo_name_111 : decode M_Mo_name.2.1 111 = .ok (.iconst 0, 1) := by decide +kernel
theorem d_Mo_name_112 : decode M_Mo_name.2.1 112 = .ok (.invokevirtual 162, 3) := by decide +kernel
theorem xw_1365 : (Jvm.Cond.code ({ cls := "MarkerTextModel", name := "fails", desc := "(ZZ)Z" } : Jvm.MethodName) prog_13_method_3_code (3 : Nat) (Option.some Jvm.ClassFile.FieldType.boolean)) ∈ xT := xT_at 1365 (by decide +kernel) (by decide +kernel)
theorem xcb_Mo_fails : xcb M_Mo_fails 2 := ⟨xw_1365, xw_8, by decide, by decide, by decide, by decide +kernel⟩
theorem xw_1364 : (Jvm.Cond.instanceMethod ({ cls := "MarkerTextModel", name := "fails", desc := "(ZZ)Z" } : Jvm.MethodName)) ∈ xT := xT_at 1364 (by decide +kernel) (by decide +kernel)
theorem xw_1362 : (Jvm.Cond.methodLink "MarkerTextModel" (162 : Nat) ({ cls := "MarkerTextModel", name := "fails", desc := "(ZZ)Z" } : Jvm.MethodName)) ∈ xT := xT_at 1362 (by decide +kernel) (by decide +kernel)
theorem xsel_Mo_fails : Cond.selects "MarkerTextModel" y_Mo_fails y_Mo_fails ∈ xT := xT_sel (q := (y_Mo_fails, 52)) (by decide +kernel) (by decide +kernel)
theorem xcv_Mo_162_Mo : xCV "MarkerTextModel" 162 "MarkerTextModel" M_Mo_fails 2 := ⟨xcb_Mo_fails, xw_1364, Or.inl ⟨xw_1362, Or.inl xsel_Mo_fails⟩⟩
theorem d_Mo_name_115 : decode M_Mo_name.2.1 115 = .ok (.ifCond .eq 5, 3) := by decide +kernel
theorem d_Mo_name_118 : decode M_Mo_name.2.1 118 = .ok (.iconst 0, 1) := by decide +kernel
theorem d_Mo_name_119 : decode M_Mo_name.2.1 119 = .ok (.ireturn, 1) := by decide +kernel
abbrev y_Mo_value : MethodName := ⟨"MarkerTextModel", "value", "(I)I"⟩
abbrev M_Mo_value : XMt := (y_Mo_value, prog_13_method_16_code, 5, (some .int))
theorem d_Mo_value_0 : decode M_Mo_value.2.1 0 = .ok (.aload_n 0, 1) := by decide +kernel
theorem d_Mo_value_1 : decode M_Mo_value.2.1 1 = .ok (.getfield 124, 3) := by decide +kernel
theorem d_Mo_value_4 : decode M_Mo_value.2.1 4 = .ok (.istore_n 2, 1) := by decide +kernel
theorem d_Mo_value_5 : decode M_Mo_value.2.1 5 = .ok (.aload_n 0, 1) := by decide +kernel
theorem d_Mo_value_6 : decode M_Mo_value.2.1 6 = .ok (.iconst 0, 1) := by decide +kernel
theorem d_Mo_value_7 : decode M_Mo_value.2.1 7 = .ok (.putfield 124, 3) := by decide +kernel
theorem d_Mo_value_10 : decode M_Mo_value.2.1 10 = .ok (.aload_n 0, 1) := by decide +kernel
theorem d_Mo_value_11 : decode M_Mo_value.2.1 11 = .ok (.iload_n 1, 1) := by decide +kernel
theorem d_Mo_value_12 : decode M_Mo_value.2.1 12 = .ok (.invokevirtual 184, 3) := by decide +kernel
theorem xw_1373 : (Jvm.Cond.code ({ cls := "MarkerTextModel", name := "isName", desc := "(I)Z" } : Jvm.MethodName) prog_13_method_15_code (2 : Nat) (Option.some Jvm.ClassFile.FieldType.boolean)) ∈ xT := xT_at 1373 (by decide +kernel) (by decide +kernel)
theorem xcb_Mo_isName : xcb M_Mo_isName 1 := ⟨xw_1373, xw_8, by decide, by decide, by decide, by decide +kernel⟩
theorem xw_1372 : (Jvm.Cond.instanceMethod ({ cls := "MarkerTextModel", name := "isName", desc := "(I)Z" } : Jvm.MethodName)) ∈ xT := xT_at 1372 (by decide +kernel) (by decide +kernel)
theorem xw_1370 : (Jvm.Cond.methodLink "MarkerTextModel" (184 : Nat) ({ cls := "MarkerTextModel", name := "isName", desc := "(I)Z" } : Jvm.MethodName)) ∈ xT := xT_at 1370 (by decide +kernel) (by decide +kernel)
theorem xsel_Mo_isName : Cond.selects "MarkerTextModel" y_Mo_isName y_Mo_isName ∈ xT := xT_sel (q := (y_Mo_isName, 52)) (by decide +kernel) (by decide +kernel)
theorem xcv_Mo_184_Mo : xCV "MarkerTextModel" 184 "MarkerTextModel" M_Mo_isName 1 := ⟨xcb_Mo_isName, xw_1372, Or.inl ⟨xw_1370, Or.inl xsel_Mo_isName⟩⟩
theorem d_Mo_value_15 : decode M_Mo_value.2.1 15 = .ok (.ifCond .eq 34, 3) := by decide +kernel
theorem d_Mo_value_49 : decode M_Mo_value.2.1 49 = .ok (.iconst 0, 1) := by decide +kernel
theorem d_Mo_value_50 : decode M_Mo_value.2.1 50 = .ok (.istore_n 3, 1) := by decide +kernel
theorem d_Mo_value_51 : decode M_Mo_value.2.1 51 = .ok (.iconst 0, 1) := by decide +kernel
theorem d_Mo_value_52 : decode M_Mo_value.2.1 52 = .ok (.istore 4, 2) := by decide +kernel
theorem d_Mo_value_54 : decode M_Mo_value.2.1 54 = .ok (.iload_n 3, 1) := by decide +kernel
theorem d_Mo_value_55 : decode M_Mo_value.2.1 55 = .ok (.ifCond .eq 46, 3) := by decide +kernel
theorem d_Mo_value_101 : decode M_Mo_value.2.1 101 = .ok (.aload_n 0, 1) := by decide +kernel
theorem d_Mo_value_102 : decode M_Mo_value.2.1 102 = .ok (.iload_n 3, 1) := by decide +kernel
theorem d_Mo_value_103 : decode M_Mo_value.2.1 103 = .ok (.ifCond .ne 7, 3) := by decide +kernel
theorem d_Mo_value_106 : decode M_Mo_value.2.1 106 = .ok (.iconst 1, 1) := by decide +kernel
theorem d_Mo_value_107 : decode M_Mo_value.2.1 107 = .ok (.goto 4, 3) := by decide +kernel
theorem d_Mo_value_111 : decode M_Mo_value.2.1 111 = .ok (.iload_n 3, 1) := by decide +kernel
theorem d_Mo_value_112 : decode M_Mo_value.2.1 112 = .ok (.ifCond .eq 18, 3) := by decide +kernel
theorem d_Mo_value_130 : decode M_Mo_value.2.1 130 = .ok (.iconst 0, 1) := by decide +kernel
theorem d_Mo_value_131 : decode M_Mo_value.2.1 131 = .ok (.invokevirtual 162, 3) := by decide +kernel
theorem d_Mo_value_134 : decode M_Mo_value.2.1 134 = .ok (.ifCond .eq 5, 3) := by decide +kernel
theorem d_Mo_value_137 : decode M_Mo_value.2.1 137 = .ok (.iconst 0, 1) := by decide +kernel
theorem d_Mo_value_138 : decode M_Mo_value.2.1 138 = .ok (.ireturn, 1) := by decide +kernel
abbrev y_Mo_give : MethodName := ⟨"MarkerTextModel", "give", "(I)V"⟩
abbrev M_Mo_give : XMt := (y_Mo_give, prog_13_method_17_code, 4, none)
theorem d_Mo_give_0 : decode M_Mo_give.2.1 0 = .ok (.aload_n 0, 1) := by decide +kernel
theorem d_Mo_give_1 : decode M_Mo_give.2.1 1 = .ok (.getfield 124, 3) := by decide +kernel
theorem d_Mo_give_4 : decode M_Mo_give.2.1 4 = .ok (.istore_n 2, 1) := by decide +kernel
theorem d_Mo_give_5 : decode M_Mo_give.2.1 5 = .ok (.aload_n 0, 1) := by decide +kernel
theorem d_Mo_give_6 : decode M_Mo_give.2.1 6 = .ok (.iconst 0, 1) := by decide +kernel
theorem d_Mo_give_7 : decode M_Mo_give.2.1 7 = .ok (.putfield 124, 3) := by decide +kernel
theorem d_Mo_give_10 : decode M_Mo_give.2.1 10 = .ok (.aload_n 0, 1) := by decide +kernel
theorem d_Mo_give_11 : decode M_Mo_give.2.1 11 = .ok (.iload_n 1, 1) := by decide +kernel
theorem d_Mo_give_12 : decode M_Mo_give.2.1 12 = .ok (.invokevirtual 184, 3) := by decide +kernel
theorem d_Mo_give_15 : decode M_Mo_give.2.1 15 = .ok (.ifCond .eq 38, 3) := by decide +kernel
theorem d_Mo_give_53 : decode M_Mo_give.2.1 53 = .ok (.iconst 0, 1) := by decide +kernel
theorem d_Mo_give_54 : decode M_Mo_give.2.1 54 = .ok (.istore_n 3, 1) := by decide +kernel
theorem d_Mo_give_55 : decode M_Mo_give.2.1 55 = .ok (.aload_n 0, 1) := by decide +kernel
theorem d_Mo_give_56 : decode M_Mo_give.2.1 56 = .ok (.iload_n 3, 1) := by decide +kernel
theorem d_Mo_give_57 : decode M_Mo_give.2.1 57 = .ok (.ifCond .ne 7, 3) := by decide +kernel
theorem d_Mo_give_60 : decode M_Mo_give.2.1 60 = .ok (.iconst 1, 1) := by decide +kernel
theorem d_Mo_give_61 : decode M_Mo_give.2.1 61 = .ok (.goto 4, 3) := by decide +kernel
theorem d_Mo_give_65 : decode M_Mo_give.2.1 65 = .ok (.iconst 0, 1) := by decide +kernel
theorem d_Mo_give_66 : decode M_Mo_give.2.1 66 = .ok (.invokevirtual 162, 3) := by decide +kernel
theorem d_Mo_give_69 : decode M_Mo_give.2.1 69 = .ok (.ifCond .ne 36, 3) := by decide +kernel
theorem d_Mo_give_105 : decode M_Mo_give.2.1 105 = .ok (.return_, 1) := by decide +kernel
abbrev y_Mo_place : MethodName := ⟨"MarkerTextModel", "place", "()I"⟩
abbrev M_Mo_place : XMt := (y_Mo_place, prog_13_method_37_code, 1, (some .int))
theorem d_Mo_place_0 : decode M_Mo_place.2.1 0 = .ok (.aload_n 0, 1) := by decide +kernel
theorem d_Mo_place_1 : decode M_Mo_place.2.1 1 = .ok (.iconst 0, 1) := by decide +kernel
theorem d_Mo_place_2 : decode M_Mo_place.2.1 2 = .ok (.putfield 121, 3) := by decide +kernel
theorem d_Mo_place_5 : decode M_Mo_place.2.1 5 = .ok (.aload_n 0, 1) := by decide +kernel
theorem d_Mo_place_6 : decode M_Mo_place.2.1 6 = .ok (.getfield 81, 3) := by decide +kernel
theorem d_Mo_place_9 : decode M_Mo_place.2.1 9 = .ok (.ireturn, 1) := by decide +kernel
abbrev y_Mo_holds : MethodName := ⟨"MarkerTextModel", "holds", "(I)Z"⟩
abbrev M_Mo_holds : XMt := (y_Mo_holds, prog_13_method_42_code, 2, (some .boolean))
theorem d_Mo_holds_0 : decode M_Mo_holds.2.1 0 = .ok (.aload_n 0, 1) := by decide +kernel
theorem d_Mo_holds_1 : decode M_Mo_holds.2.1 1 = .ok (.iconst 0, 1) := by decide +kernel
theorem d_Mo_holds_2 : decode M_Mo_holds.2.1 2 = .ok (.putfield 121, 3) := by decide +kernel
theorem d_Mo_holds_5 : decode M_Mo_holds.2.1 5 = .ok (.aload_n 0, 1) := by decide +kernel
theorem d_Mo_holds_6 : decode M_Mo_holds.2.1 6 = .ok (.iload_n 1, 1) := by decide +kernel
theorem d_Mo_holds_7 : decode M_Mo_holds.2.1 7 = .ok (.invokevirtual 281, 3) := by decide +kernel
theorem xw_1486 : (Jvm.Cond.code ({ cls := "MarkerTextModel", name := "isCondition", desc := "(I)Z" } : Jvm.MethodName) prog_13_method_41_code (2 : Nat) (Option.some Jvm.ClassFile.FieldType.boolean)) ∈ xT := xT_at 1486 (by decide +kernel) (by decide +kernel)
theorem xcb_Mo_isCondition : xcb M_Mo_isCondition 1 := ⟨xw_1486, xw_8, by decide, by decide, by decide, by decide +kernel⟩
theorem xw_1485 : (Jvm.Cond.instanceMethod ({ cls := "MarkerTextModel", name := "isCondition", desc := "(I)Z" } : Jvm.MethodName)) ∈ xT := xT_at 1485 (by decide +kernel) (by decide +kernel)
theorem xw_1483 : (Jvm.Cond.methodLink "MarkerTextModel" (281 : Nat) ({ cls := "MarkerTextModel", name := "isCondition", desc := "(I)Z" } : Jvm.MethodName)) ∈ xT := xT_at 1483 (by decide +kernel) (by decide +kernel)
theorem xsel_Mo_isCondition : Cond.selects "MarkerTextModel" y_Mo_isCondition y_Mo_isCondition ∈ xT := xT_sel (q := (y_Mo_isCondition, 52)) (by decide +kernel) (by decide +kernel)
theorem xcv_Mo_281_Mo : xCV "MarkerTextModel" 281 "MarkerTextModel" M_Mo_isCondition 1 := ⟨xcb_Mo_isCondition, xw_1485, Or.inl ⟨xw_1483, Or.inl xsel_Mo_isCondition⟩⟩
theorem d_Mo_holds_10 : decode M_Mo_holds.2.1 10 = .ok (.ifCond .eq 16, 3) := by decide +kernel
theorem d_Mo_holds_26 : decode M_Mo_holds.2.1 26 = .ok (.iconst 0, 1) := by decide +kernel
theorem d_Mo_holds_27 : decode M_Mo_holds.2.1 27 = .ok (.ireturn, 1) := by decide +kernel
abbrev y_Mo_ever : MethodName := ⟨"MarkerTextModel", "ever", "(I)I"⟩
abbrev M_Mo_ever : XMt := (y_Mo_ever, prog_13_method_51_code, 2, (some .int))
theorem d_Mo_ever_0 : decode M_Mo_ever.2.1 0 = .ok (.aload_n 0, 1) := by decide +kernel
theorem d_Mo_ever_1 : decode M_Mo_ever.2.1 1 = .ok (.iconst 0, 1) := by decide +kernel
theorem d_Mo_ever_2 : decode M_Mo_ever.2.1 2 = .ok (.putfield 121, 3) := by decide +kernel
theorem d_Mo_ever_5 : decode M_Mo_ever.2.1 5 = .ok (.aload_n 0, 1) := by decide +kernel
theorem d_Mo_ever_6 : decode M_Mo_ever.2.1 6 = .ok (.iload_n 1, 1) := by decide +kernel
theorem d_Mo_ever_7 : decode M_Mo_ever.2.1 7 = .ok (.invokevirtual 281, 3) := by decide +kernel
theorem d_Mo_ever_10 : decode M_Mo_ever.2.1 10 = .ok (.ifCond .eq 17, 3) := by decide +kernel
theorem d_Mo_ever_27 : decode M_Mo_ever.2.1 27 = .ok (.iconst (-1), 1) := by decide +kernel
theorem d_Mo_ever_28 : decode M_Mo_ever.2.1 28 = .ok (.ireturn, 1) := by decide +kernel
abbrev y_Mo_implies : MethodName := ⟨"MarkerTextModel", "implies", "(II)I"⟩
abbrev M_Mo_implies : XMt := (y_Mo_implies, prog_13_method_52_code, 4, (some .int))
theorem d_Mo_implies_0 : decode M_Mo_implies.2.1 0 = .ok (.aload_n 0, 1) := by decide +kernel
theorem d_Mo_implies_1 : decode M_Mo_implies.2.1 1 = .ok (.iconst 0, 1) := by decide +kernel
theorem d_Mo_implies_2 : decode M_Mo_implies.2.1 2 = .ok (.putfield 121, 3) := by decide +kernel
theorem d_Mo_implies_5 : decode M_Mo_implies.2.1 5 = .ok (.aload_n 0, 1) := by decide +kernel
theorem d_Mo_implies_6 : decode M_Mo_implies.2.1 6 = .ok (.iload_n 1, 1) := by decide +kernel
theorem d_Mo_implies_7 : decode M_Mo_implies.2.1 7 = .ok (.invokevirtual 281, 3) := by decide +kernel
theorem d_Mo_implies_10 : decode M_Mo_implies.2.1 10 = .ok (.ifCond .eq 11, 3) := by decide +kernel
theorem d_Mo_implies_21 : decode M_Mo_implies.2.1 21 = .ok (.iconst (-1), 1) := by decide +kernel
theorem d_Mo_implies_22 : decode M_Mo_implies.2.1 22 = .ok (.ireturn, 1) := by decide +kernel
abbrev y_Mo_apart : MethodName := ⟨"MarkerTextModel", "apart", "(II)I"⟩
abbrev M_Mo_apart : XMt := (y_Mo_apart, prog_13_method_53_code, 4, (some .int))
theorem d_Mo_apart_0 : decode M_Mo_apart.2.1 0 = .ok (.aload_n 0, 1) := by decide +kernel
theorem d_Mo_apart_1 : decode M_Mo_apart.2.1 1 = .ok (.iconst 0, 1) := by decide +kernel
theorem d_Mo_apart_2 : decode M_Mo_apart.2.1 2 = .ok (.putfield 121, 3) := by decide +kernel
theorem d_Mo_apart_5 : decode M_Mo_apart.2.1 5 = .ok (.aload_n 0, 1) := by decide +kernel
theorem d_Mo_apart_6 : decode M_Mo_apart.2.1 6 = .ok (.iload_n 1, 1) := by decide +kernel
theorem d_Mo_apart_7 : decode M_Mo_apart.2.1 7 = .ok (.invokevirtual 281, 3) := by decide +kernel
theorem d_Mo_apart_10 : decode M_Mo_apart.2.1 10 = .ok (.ifCond .eq 11, 3) := by decide +kernel
theorem d_Mo_apart_21 : decode M_Mo_apart.2.1 21 = .ok (.iconst (-1), 1) := by decide +kernel
theorem d_Mo_apart_22 : decode M_Mo_apart.2.1 22 = .ok (.ireturn, 1) := by decide +kernel
abbrev y_Mo_many : MethodName := ⟨"MarkerTextModel", "many", "(I)I"⟩
abbrev M_Mo_many : XMt := (y_Mo_many, prog_13_method_55_code, 2, (some .int))
theorem d_Mo_many_0 : decode M_Mo_many.2.1 0 = .ok (.aload_n 0, 1) := by decide +kernel
theorem d_Mo_many_1 : decode M_Mo_many.2.1 1 = .ok (.iconst 0, 1) := by decide +kernel
theorem d_Mo_many_2 : decode M_Mo_many.2.1 2 = .ok (.putfield 121, 3) := by decide +kernel
theorem d_Mo_many_5 : decode M_Mo_many.2.1 5 = .ok (.iload_n 1, 1) := by decide +kernel
theorem d_Mo_many_6 : decode M_Mo_many.2.1 6 = .ok (.iconst 0, 1) := by decide +kernel
theorem d_Mo_many_7 : decode M_Mo_many.2.1 7 = .ok (.aload_n 0, 1) := by decide +kernel
theorem d_Mo_many_8 : decode M_Mo_many.2.1 8 = .ok (.getfield 314, 3) := by decide +kernel
theorem xw_1212 : (Jvm.Cond.fieldLink "MarkerTextModel" (314 : Nat) "MarkerTextModel" "classes" "I") ∈ xT := xT_at 1212 (by decide +kernel) (by decide +kernel)
theorem xf_Mo_314_Mo : xF "MarkerTextModel" 314 k_MarkerTextModel 42 := ⟨_, _, _, "MarkerTextModel", rfl, by decide, Or.inl xw_1212, Or.inl rfl⟩
theorem d_Mo_many_11 : decode M_Mo_many.2.1 11 = .ok (.iconst 1, 1) := by decide +kernel
theorem d_Mo_many_12 : decode M_Mo_many.2.1 12 = .ok (.isub, 1) := by decide +kernel
theorem d_Mo_many_13 : decode M_Mo_many.2.1 13 = .ok (.invokestatic 150, 3) := by decide +kernel
theorem d_Mo_many_16 : decode M_Mo_many.2.1 16 = .ok (.ifCond .eq 12, 3) := by decide +kernel
theorem d_Mo_many_28 : decode M_Mo_many.2.1 28 = .ok (.iconst (-1), 1) := by decide +kernel
theorem d_Mo_many_29 : decode M_Mo_many.2.1 29 = .ok (.ireturn, 1) := by decide +kernel
abbrev y_Mo_inClass : MethodName := ⟨"MarkerTextModel", "inClass", "(II)Z"⟩
abbrev M_Mo_inClass : XMt := (y_Mo_inClass, prog_13_method_56_code, 3, (some .boolean))
theorem d_Mo_inClass_0 : decode M_Mo_inClass.2.1 0 = .ok (.aload_n 0, 1) := by decide +kernel
theorem d_Mo_inClass_1 : decode M_Mo_inClass.2.1 1 = .ok (.iconst 0, 1) := by decide +kernel
theorem d_Mo_inClass_2 : decode M_Mo_inClass.2.1 2 = .ok (.putfield 121, 3) := by decide +kernel
theorem d_Mo_inClass_5 : decode M_Mo_inClass.2.1 5 = .ok (.iload_n 1, 1) := by decide +kernel
theorem d_Mo_inClass_6 : decode M_Mo_inClass.2.1 6 = .ok (.iconst 0, 1) := by decide +kernel
theorem d_Mo_inClass_7 : decode M_Mo_inClass.2.1 7 = .ok (.aload_n 0, 1) := by decide +kernel
theorem d_Mo_inClass_8 : decode M_Mo_inClass.2.1 8 = .ok (.getfield 314, 3) := by decide +kernel
theorem d_Mo_inClass_11 : decode M_Mo_inClass.2.1 11 = .ok (.iconst 1, 1) := by decide +kernel
theorem d_Mo_inClass_12 : decode M_Mo_inClass.2.1 12 = .ok (.isub, 1) := by decide +kernel
theorem d_Mo_inClass_13 : decode M_Mo_inClass.2.1 13 = .ok (.invokestatic 150, 3) := by decide +kernel
theorem d_Mo_inClass_16 : decode M_Mo_inClass.2.1 16 = .ok (.ifCond .eq 31, 3) := by decide +kernel
theorem d_Mo_inClass_47 : decode M_Mo_inClass.2.1 47 = .ok (.iconst 0, 1) := by decide +kernel
theorem d_Mo_inClass_48 : decode M_Mo_inClass.2.1 48 = .ok (.ireturn, 1) := by decide +kernel
abbrev y_Mo_sample : MethodName := ⟨"MarkerTextModel", "sample", "(II)I"⟩
abbrev M_Mo_sample : XMt := (y_Mo_sample, prog_13_method_57_code, 3, (some .int))
theorem d_Mo_sample_0 : decode M_Mo_sample.2.1 0 = .ok (.aload_n 0, 1) := by decide +kernel
theorem d_Mo_sample_1 : decode M_Mo_sample.2.1 1 = .ok (.iconst 0, 1) := by decide +kernel
theorem d_Mo_sample_2 : decode M_Mo_sample.2.1 2 = .ok (.putfield 121, 3) := by decide +kernel
theorem d_Mo_sample_5 : decode M_Mo_sample.2.1 5 = .ok (.iload_n 1, 1) := by decide +kernel
theorem d_Mo_sample_6 : decode M_Mo_sample.2.1 6 = .ok (.iconst 0, 1) := by decide +kernel
theorem d_Mo_sample_7 : decode M_Mo_sample.2.1 7 = .ok (.aload_n 0, 1) := by decide +kernel
theorem d_Mo_sample_8 : decode M_Mo_sample.2.1 8 = .ok (.getfield 314, 3) := by decide +kernel
theorem d_Mo_sample_11 : decode M_Mo_sample.2.1 11 = .ok (.iconst 1, 1) := by decide +kernel
theorem d_Mo_sample_12 : decode M_Mo_sample.2.1 12 = .ok (.isub, 1) := by decide +kernel
theorem d_Mo_sample_13 : decode M_Mo_sample.2.1 13 = .ok (.invokestatic 150, 3) := by decide +kernel
theorem d_Mo_sample_16 : decode M_Mo_sample.2.1 16 = .ok (.ifCond .eq 31, 3) := by decide +kernel
theorem d_Mo_sample_47 : decode M_Mo_sample.2.1 47 = .ok (.iconst (-1), 1) := by decide +kernel
theorem d_Mo_sample_48 : decode M_Mo_sample.2.1 48 = .ok (.ireturn, 1) := by decide +kernel
abbrev y_Mo_printed : MethodName := ⟨"MarkerTextModel", "printed", "(II)I"⟩
abbrev M_Mo_printed : XMt := (y_Mo_printed, prog_13_method_65_code, 3, (some .int))
theorem d_Mo_printed_0 : decode M_Mo_printed.2.1 0 = .ok (.aload_n 0, 1) := by decide +kernel
theorem d_Mo_printed_1 : decode M_Mo_printed.2.1 1 = .ok (.iconst 0, 1) := by decide +kernel
theorem d_Mo_printed_2 : decode M_Mo_printed.2.1 2 = .ok (.putfield 121, 3) := by decide +kernel
theorem d_Mo_printed_5 : decode M_Mo_printed.2.1 5 = .ok (.aload_n 0, 1) := by decide +kernel
theorem d_Mo_printed_6 : decode M_Mo_printed.2.1 6 = .ok (.iload_n 1, 1) := by decide +kernel
theorem d_Mo_printed_7 : decode M_Mo_printed.2.1 7 = .ok (.invokevirtual 281, 3) := by decide +kernel
theorem d_Mo_printed_10 : decode M_Mo_printed.2.1 10 = .ok (.ifCond .eq 7, 3) := by decide +kernel
theorem d_Mo_printed_17 : decode M_Mo_printed.2.1 17 = .ok (.iconst 0, 1) := by decide +kernel
theorem d_Mo_printed_18 : decode M_Mo_printed.2.1 18 = .ok (.ireturn, 1) := by decide +kernel
end
section MO2
variable {l : Launch} {G : XG} {h : XH} {c n d : Nat}
theorem c_Mo_in {v a b : Int32} : XM l G d M_Mo_in [.int v, .int a, .int b] h c n (xSame (.int (if v < a ∨ b < v then 0 else 1)) h c n) := by
  refine XM.of (by decide +kernel) (Nat.le_of_ble_eq_true rfl) ?_
  by_cases h1 : v < a
  · rw [if_pos (Or.inl h1)]
    refine x_iload_n d_Mo_in_0 rfl ?_
    refine x_iload_n d_Mo_in_1 rfl ?_
    refine x_icmp_lt (tgt := 14) d_Mo_in_2 (by decide) (fun _ => ?_) (fun hn => absurd h1 hn)
    refine x_iconst (v := 0) d_Mo_in_14 (by decide) ?_
    refine x_zret d_Mo_in_15 rfl rfl ?_
    exact ⟨rfl, rfl, rfl, rfl⟩
  · by_cases h2 : b < v
    · rw [if_pos (Or.inr h2)]
      refine x_iload_n d_Mo_in_0 rfl ?_
      refine x_iload_n d_Mo_in_1 rfl ?_
      refine x_icmp_lt (tgt := 14) d_Mo_in_2 (by decide) (fun ht => absurd ht h1) (fun _ => ?_)
      refine x_iload_n d_Mo_in_5 rfl ?_
      refine x_iload_n d_Mo_in_6 rfl ?_
      refine x_icmp_gt (tgt := 14) d_Mo_in_7 (by decide) (fun _ => ?_) (fun hn => absurd h2 hn)
      refine x_iconst (v := 0) d_Mo_in_14 (by decide) ?_
      refine x_zret d_Mo_in_15 rfl rfl ?_
      exact ⟨rfl, rfl, rfl, rfl⟩
    · rw [if_neg (fun z => z.elim h1 h2)]
      refine x_iload_n d_Mo_in_0 rfl ?_
      refine x_iload_n d_Mo_in_1 rfl ?_
      refine x_icmp_lt (tgt := 14) d_Mo_in_2 (by decide) (fun ht => absurd ht h1) (fun _ => ?_)
      refine x_iload_n d_Mo_in_5 rfl ?_
      refine x_iload_n d_Mo_in_6 rfl ?_
      refine x_icmp_gt (tgt := 14) d_Mo_in_7 (by decide) (fun ht => absurd ht h2) (fun _ => ?_)
      refine x_iconst (v := 1) d_Mo_in_10 (by decide) ?_
      refine x_goto (tgt := 15) d_Mo_in_11 (by decide) ?_
      refine x_zret d_Mo_in_15 rfl rfl ?_
      exact ⟨rfl, rfl, rfl, rfl⟩
theorem in_no (k : Int32) : (if k < 0 ∨ (0 - 1 : Int32) < k then (0 : Int32) else 1) = 0 := by
  rw [if_pos]
  by_cases hk : k < 0
  · exact Or.inl hk
  · refine Or.inr ?_
    rw [show (0 - 1 : Int32) = -1 from by decide]
    rw [Int32.lt_iff_toInt_lt] at hk ⊢
    have e0 : (0 : Int32).toInt = 0 := by decide
    have e1 : (-1 : Int32).toInt = -1 := by decide
    omega
theorem c_Mo_thrown {o : Nat} {t : Int32} {e : List Value} (ho : h o = some (k_MarkerTextModel, .int t :: e)) : XM l G d M_Mo_thrown [.ref o] h c n (xSame (.int t) h c n) := by
  refine XM.of (by decide +kernel) (Nat.le_of_ble_eq_true rfl) ?_
  refine x_aload_n d_Mo_thrown_0 rfl rfl ?_
  refine x_get xf_Mo_121_Mo (Or.inl ho) rfl d_Mo_thrown_1 ?_
  refine x_iret d_Mo_thrown_4 rfl ?_
  exact ⟨rfl, rfl, rfl, rfl⟩
theorem c_fails1 {o : Nat} {t b : Int32} {e : List Value} (ho : h o = some (k_MarkerTextModel, .int t :: e)) : XM l G d M_Mo_fails [.ref o, .int 1, .int b] h c n (fun v h' c' n' => v = some (.int 1) ∧ h' = xup h o (k_MarkerTextModel, .int 1 :: e) ∧ c' = c ∧ n' = n) := by
  refine XM.of (by decide +kernel) (Nat.le_of_ble_eq_true rfl) ?_
  refine x_aload_n d_Mo_fails_0 rfl rfl ?_
  refine x_iload_n d_Mo_fails_1 rfl ?_
  refine x_if_eq (tgt := 9) d_Mo_fails_2 (by decide) (fun ht => absurd ht (by decide)) (fun _ => ?_)
  refine x_iconst (v := 1) d_Mo_fails_5 (by decide) ?_
  refine x_goto (tgt := 18) d_Mo_fails_6 (by decide) ?_
  refine x_put xf_Mo_121_Mo xp_Mo_0 rfl rfl ho rfl rfl d_Mo_fails_18 ?_
  refine x_aload_n d_Mo_fails_21 rfl rfl ?_
  refine x_get xf_Mo_121_Mo (Or.inl xup_self) rfl d_Mo_fails_22 ?_
  refine x_if_le (tgt := 32) d_Mo_fails_25 (by decide) (fun ht => absurd ht (by decide)) (fun _ => ?_)
  refine x_iconst (v := 1) d_Mo_fails_28 (by decide) ?_
  refine x_goto (tgt := 33) d_Mo_fails_29 (by decide) ?_
  refine x_zret d_Mo_fails_33 rfl rfl ?_
  exact ⟨rfl, rfl, rfl, rfl⟩
variable {rf : Nat → Nat} {th sz wa sl wr pl pi op rm cl cs cn : Int32}
theorem c_isName0 (hd : 1 ≤ d) {o : Nat} {k : Int32} (ho : h o = some (k_MarkerTextModel, moV rf th sz wa sl wr pl pi op rm cl cs cn)) : XM l G d M_Mo_isName [.ref o, .int k] h c n (xSame (.int 0) h c n) := by
  obtain ⟨d, rfl⟩ : ∃ q, d = q + 1 := ⟨d - 1, by omega⟩
  refine XM.of (by decide +kernel) (Nat.le_of_ble_eq_true rfl) ?_
  refine x_iload_n d_Mo_isName_0 rfl ?_
  refine x_iconst (v := 0) d_Mo_isName_1 (by decide) ?_
  refine x_aload_n d_Mo_isName_2 rfl rfl ?_
  refine x_get xf_Mo_147_Mo (Or.inl ho) rfl d_Mo_isName_3 ?_
  refine x_iconst (v := 1) d_Mo_isName_6 (by decide) ?_
  refine x_isub d_Mo_isName_7 ?_
  refine x_callS (As := [_, _, _]) xcs_Mo_150 (c_Mo_in) rfl rfl (Nat.le_of_ble_eq_true rfl) d_Mo_isName_8 ?_
  rintro v h1 c1 n1 ⟨rfl, rfl, rfl, rfl⟩
  refine x_top (w := .int 0) (by rw [in_no]) ?_
  refine x_zret d_Mo_isName_11 rfl rfl ?_
  exact ⟨rfl, rfl, rfl, rfl⟩
theorem c_isCondition0 (hd : 1 ≤ d) {o : Nat} {k : Int32} (ho : h o = some (k_MarkerTextModel, moV rf th sz wa sl wr pl pi op rm cl cs cn)) : XM l G d M_Mo_isCondition [.ref o, .int k] h c n (xSame (.int 0) h c n) := by
  obtain ⟨d, rfl⟩ : ∃ q, d = q + 1 := ⟨d - 1, by omega⟩
  refine XM.of (by decide +kernel) (Nat.le_of_ble_eq_true rfl) ?_
  refine x_iload_n d_Mo_isCondition_0 rfl ?_
  refine x_iconst (v := 0) d_Mo_isCondition_1 (by decide) ?_
  refine x_aload_n d_Mo_isCondition_2 rfl rfl ?_
  refine x_get xf_Mo_268_Mo (Or.inl ho) rfl d_Mo_isCondition_3 ?_
  refine x_iconst (v := 1) d_Mo_isCondition_6 (by decide) ?_
  refine x_isub d_Mo_isCondition_7 ?_
  refine x_callS (As := [_, _, _]) xcs_Mo_150 (c_Mo_in) rfl rfl (Nat.le_of_ble_eq_true rfl) d_Mo_isCondition_8 ?_
  rintro v h1 c1 n1 ⟨rfl, rfl, rfl, rfl⟩
  refine x_top (w := .int 0) (by rw [in_no]) ?_
  refine x_zret d_Mo_isCondition_11 rfl rfl ?_
  exact ⟨rfl, rfl, rfl, rfl⟩
abbrev pK (w : Option Value) (c n : Nat) : Option Value → XH → Nat → Nat → Prop := fun v _ c' n' => v = w ∧ c' = c ∧ n' = n
abbrev pKt (o : Nat) (c n : Nat) (V : Option Value → Prop) : Option Value → XH → Nat → Nat → Prop := fun v h' c' n' => V v ∧ (∃ e, h' o = some (k_MarkerTextModel, .int 1 :: e)) ∧ c' = c ∧ n' = n
theorem m_type {o ch : Nat} (hR : RF0 h o) (hch : ch < 65536) : XM l G d M_Mo_type [.ref o, .int (nI ch)] h c n (pK (some (.int (if 32 ≤ ch ∧ ch ≤ 126 then 1 else 0))) c n) := by
  obtain ⟨rf, ho, hA⟩ := hR
  refine XM.of (by decide +kernel) (Nat.le_of_ble_eq_true rfl) ?_
  refine x_aload_n d_Mo_type_0 rfl rfl ?_
  refine x_iconst (v := 0) d_Mo_type_1 (by decide) ?_
  refine x_put xf_Mo_121_Mo xp_Mo_0 rfl rfl ho rfl rfl d_Mo_type_2 ?_
  refine x_mo hA ho (vs' := moV rf 0 0 0 0 0 (-1) 0 0 0 0 0 0) (fun h2 ho2 hA2 => ?_)
  by_cases g1 : 32 ≤ ch
  · by_cases g2 : ch ≤ 126
    · rw [if_pos ⟨g1, g2⟩]
      refine x_iload_n d_Mo_type_5 rfl ?_
      refine x_bipush (v := 32) d_Mo_type_6 (by decide) ?_
      refine x_icmp_lt (tgt := 27) d_Mo_type_8 (by decide) (fun ht => absurd ht (nI_nlt (b := 32) g1 (by omega))) (fun _ => ?_)
      refine x_iload_n d_Mo_type_11 rfl ?_
      refine x_bipush (v := 126) d_Mo_type_12 (by decide) ?_
      refine x_icmp_gt (tgt := 27) d_Mo_type_14 (by decide) (fun ht => absurd ht (nI_nlt (a := 126) g2 (by omega))) (fun _ => ?_)
      refine x_aload_n d_Mo_type_17 rfl rfl ?_
      refine x_get xf_Mo_124_Mo (Or.inl ho2) rfl d_Mo_type_18 ?_
      refine x_sipush (v := 160) d_Mo_type_21 (by decide) ?_
      refine x_icmp_ne (tgt := 29) d_Mo_type_24 (by decide) (fun _ => ?_) (fun hn => absurd hn (by decide))
      refine x_aload_n d_Mo_type_29 rfl rfl ?_
      refine x_get xf_Mo_7_Mo (Or.inl ho2) rfl d_Mo_type_30 ?_
      refine x_aload_n d_Mo_type_33 rfl rfl ?_
      refine x_get xf_Mo_124_Mo (Or.inl ho2) rfl d_Mo_type_34 ?_
      refine x_iload_n d_Mo_type_37 rfl ?_
      refine x_iast (k := k_aint) rfl hA2.1 (by decide) rfl d_Mo_type_38 ?_
      refine x_aload_n d_Mo_type_39 rfl rfl ?_
      refine x_dup d_Mo_type_40 rfl ?_
      refine x_get xf_Mo_124_Mo (Or.inl (by rw [xup_ne (xne ho2 hA2.1 (by decide))]; exact ho2)) rfl d_Mo_type_41 ?_
      refine x_iconst (v := 1) d_Mo_type_44 (by decide) ?_
      refine x_iadd d_Mo_type_45 ?_
      refine x_put xf_Mo_124_Mo xp_Mo_2 rfl rfl (by rw [xup_ne (xne ho2 hA2.1 (by decide))]; exact ho2) rfl rfl d_Mo_type_46 ?_
      refine x_iconst (v := 1) d_Mo_type_49 (by decide) ?_
      refine x_zret d_Mo_type_50 rfl rfl ?_
      exact ⟨rfl, rfl, rfl⟩
    · rw [if_neg (fun z => g2 z.2)]
      refine x_iload_n d_Mo_type_5 rfl ?_
      refine x_bipush (v := 32) d_Mo_type_6 (by decide) ?_
      refine x_icmp_lt (tgt := 27) d_Mo_type_8 (by decide) (fun ht => absurd ht (nI_nlt (b := 32) g1 (by omega))) (fun _ => ?_)
      refine x_iload_n d_Mo_type_11 rfl ?_
      refine x_bipush (v := 126) d_Mo_type_12 (by decide) ?_
      refine x_icmp_gt (tgt := 27) d_Mo_type_14 (by decide) (fun _ => ?_) (fun hn => absurd (nI_lt (a := 126) (by omega) (by omega)) hn)
      refine x_iconst (v := 0) d_Mo_type_27 (by decide) ?_
      refine x_zret d_Mo_type_28 rfl rfl ?_
      exact ⟨rfl, rfl, rfl⟩
  · rw [if_neg (fun z => g1 z.1)]
    refine x_iload_n d_Mo_type_5 rfl ?_
    refine x_bipush (v := 32) d_Mo_type_6 (by decide) ?_
    refine x_icmp_lt (tgt := 27) d_Mo_type_8 (by decide) (fun _ => ?_) (fun hn => absurd (nI_lt (b := 32) (by omega) (by omega)) hn)
    refine x_iconst (v := 0) d_Mo_type_27 (by decide) ?_
    refine x_zret d_Mo_type_28 rfl rfl ?_
    exact ⟨rfl, rfl, rfl⟩
theorem m_name (hd : 2 ≤ d) {o : Nat} {k : Int32} (hR : RF0 h o) : XM l G d M_Mo_name [.ref o, .int k] h c n (pKt o c n (fun v => ∃ q, v = some (.int q))) := by
  obtain ⟨d, rfl⟩ : ∃ q, d = q + 1 := ⟨d - 1, by omega⟩
  obtain ⟨rf, ho, hA⟩ := hR
  refine XM.of (by decide +kernel) (Nat.le_of_ble_eq_true rfl) ?_
  refine x_aload_n d_Mo_name_0 rfl rfl ?_
  refine x_get xf_Mo_124_Mo (Or.inl ho) rfl d_Mo_name_1 ?_
  refine x_istore_n (L' := [_, _, _, _, _]) d_Mo_name_4 rfl rfl ?_
  refine x_aload_n d_Mo_name_5 rfl rfl ?_
  refine x_iconst (v := 0) d_Mo_name_6 (by decide) ?_
  refine x_put xf_Mo_124_Mo xp_Mo_2 rfl rfl ho rfl rfl d_Mo_name_7 ?_
  refine x_mo hA ho (vs' := moV rf 0 0 0 0 0 (-1) 0 0 0 0 0 0) (fun h2 ho2 hA2 => ?_)
  refine x_iload_n d_Mo_name_10 rfl ?_
  refine x_iconst (v := 1) d_Mo_name_11 (by decide) ?_
  refine x_bipush (v := 8) d_Mo_name_12 (by decide) ?_
  refine x_callS (As := [_, _, _]) xcs_Mo_150 (c_Mo_in) rfl rfl (Nat.le_of_ble_eq_true rfl) d_Mo_name_14 ?_
  rintro v h1 c1 n1 ⟨rfl, rfl, rfl, rfl⟩
  refine x_top (w := .int 0) (by decide) ?_
  refine x_if_eq (tgt := 33) d_Mo_name_17 (by decide) (fun _ => ?_) (fun hn => absurd rfl hn)
  refine x_iconst (v := 0) d_Mo_name_33 (by decide) ?_
  refine x_istore_n (L' := [_, _, _, _, _]) d_Mo_name_34 rfl rfl ?_
  refine x_iconst (v := 0) d_Mo_name_35 (by decide) ?_
  refine x_istore (L' := [_, _, _, _, _]) d_Mo_name_36 rfl rfl ?_
  refine x_iload d_Mo_name_38 rfl ?_
  refine x_iload_n d_Mo_name_40 rfl ?_
  refine x_icmp_ge (tgt := 65) d_Mo_name_41 (by decide) (fun _ => ?_) (fun hn => absurd (by decide) hn)
  refine x_iload_n d_Mo_name_65 rfl ?_
  refine x_if_eq (tgt := 86) d_Mo_name_66 (by decide) (fun _ => ?_) (fun hn => absurd rfl hn)
  refine x_iconst (v := 0) d_Mo_name_86 (by decide) ?_
  refine x_istore_n (L' := [_, _, _, _, _]) d_Mo_name_87 rfl rfl ?_
  refine x_aload_n d_Mo_name_88 rfl rfl ?_
  refine x_iload_n d_Mo_name_89 rfl ?_
  refine x_if_ne (tgt := 97) d_Mo_name_90 (by decide) (fun ht => absurd rfl ht) (fun _ => ?_)
  refine x_iconst (v := 1) d_Mo_name_93 (by decide) ?_
  refine x_goto (tgt := 98) d_Mo_name_94 (by decide) ?_
  refine x_aload_n d_Mo_name_98 rfl rfl ?_
  refine x_get xf_Mo_147_Mo (Or.inl ho2) rfl d_Mo_name_99 ?_
  refine x_bipush (v := 6) d_Mo_name_102 (by decide) ?_
  refine x_icmp_ne (tgt := 111) d_Mo_name_104 (by decide) (fun _ => ?_) (fun hn => absurd hn (by decide))
  refine x_iconst (v := 0) d_Mo_name_111 (by decide) ?_
  refine x_callV (As := [_, _]) (k := k_MarkerTextModel) rfl xcv_Mo_162_Mo (Or.inl ho2) (c_fails1 ho2) rfl rfl (Nat.le_of_ble_eq_true rfl) d_Mo_name_112 ?_
  rintro v h3 c3 n3 ⟨rfl, rfl, rfl, rfl⟩
  refine x_if_eq (tgt := 120) d_Mo_name_115 (by decide) (fun ht => absurd ht (by decide)) (fun _ => ?_)
  refine x_iconst (v := 0) d_Mo_name_118 (by decide) ?_
  refine x_iret d_Mo_name_119 rfl ?_
  exact ⟨⟨0, rfl⟩, ⟨_, xup_self⟩, rfl, rfl⟩
theorem m_value (hd : 3 ≤ d) {o : Nat} {k : Int32} (hR : RF0 h o) : XM l G d M_Mo_value [.ref o, .int k] h c n (pKt o c n (fun v => ∃ q, v = some (.int q))) := by
  obtain ⟨d, rfl⟩ : ∃ q, d = q + 1 := ⟨d - 1, by omega⟩
  obtain ⟨rf, ho, hA⟩ := hR
  refine XM.of (by decide +kernel) (Nat.le_of_ble_eq_true rfl) ?_
  refine x_aload_n d_Mo_value_0 rfl rfl ?_
  refine x_get xf_Mo_124_Mo (Or.inl ho) rfl d_Mo_value_1 ?_
  refine x_istore_n (L' := [_, _, _, _, _]) d_Mo_value_4 rfl rfl ?_
  refine x_aload_n d_Mo_value_5 rfl rfl ?_
  refine x_iconst (v := 0) d_Mo_value_6 (by decide) ?_
  refine x_put xf_Mo_124_Mo xp_Mo_2 rfl rfl ho rfl rfl d_Mo_value_7 ?_
  refine x_mo hA ho (vs' := moV rf 0 0 0 0 0 (-1) 0 0 0 0 0 0) (fun h2 ho2 hA2 => ?_)
  refine x_aload_n d_Mo_value_10 rfl rfl ?_
  refine x_iload_n d_Mo_value_11 rfl ?_
  refine x_callV (As := [_]) (k := k_MarkerTextModel) rfl xcv_Mo_184_Mo (Or.inl ho2) (c_isName0 (by omega) ho2) rfl rfl (Nat.le_of_ble_eq_true rfl) d_Mo_value_12 ?_
  rintro v h1 c1 n1 ⟨rfl, rfl, rfl, rfl⟩
  refine x_if_eq (tgt := 49) d_Mo_value_15 (by decide) (fun _ => ?_) (fun hn => absurd rfl hn)
  refine x_iconst (v := 0) d_Mo_value_49 (by decide) ?_
  refine x_istore_n (L' := [_, _, _, _, _]) d_Mo_value_50 rfl rfl ?_
  refine x_iconst (v := 0) d_Mo_value_51 (by decide) ?_
  refine x_istore (L' := [_, _, _, _, _]) d_Mo_value_52 rfl rfl ?_
  refine x_iload_n d_Mo_value_54 rfl ?_
  refine x_if_eq (tgt := 101) d_Mo_value_55 (by decide) (fun _ => ?_) (fun hn => absurd rfl hn)
  refine x_aload_n d_Mo_value_101 rfl rfl ?_
  refine x_iload_n d_Mo_value_102 rfl ?_
  refine x_if_ne (tgt := 110) d_Mo_value_103 (by decide) (fun ht => absurd rfl ht) (fun _ => ?_)
  refine x_iconst (v := 1) d_Mo_value_106 (by decide) ?_
  refine x_goto (tgt := 111) d_Mo_value_107 (by decide) ?_
  refine x_iload_n d_Mo_value_111 rfl ?_
  refine x_if_eq (tgt := 130) d_Mo_value_112 (by decide) (fun _ => ?_) (fun hn => absurd rfl hn)
  refine x_iconst (v := 0) d_Mo_value_130 (by decide) ?_
  refine x_callV (As := [_, _]) (k := k_MarkerTextModel) rfl xcv_Mo_162_Mo (Or.inl ho2) (c_fails1 ho2) rfl rfl (Nat.le_of_ble_eq_true rfl) d_Mo_value_131 ?_
  rintro v h3 c3 n3 ⟨rfl, rfl, rfl, rfl⟩
  refine x_if_eq (tgt := 139) d_Mo_value_134 (by decide) (fun ht => absurd ht (by decide)) (fun _ => ?_)
  refine x_iconst (v := 0) d_Mo_value_137 (by decide) ?_
  refine x_iret d_Mo_value_138 rfl ?_
  exact ⟨⟨0, rfl⟩, ⟨_, xup_self⟩, rfl, rfl⟩
theorem m_give (hd : 3 ≤ d) {o : Nat} {k : Int32} (hR : RF0 h o) : XM l G d M_Mo_give [.ref o, .int k] h c n (pKt o c n (fun v => v = none)) := by
  obtain ⟨d, rfl⟩ : ∃ q, d = q + 1 := ⟨d - 1, by omega⟩
  obtain ⟨rf, ho, hA⟩ := hR
  refine XM.of (by decide +kernel) (Nat.le_of_ble_eq_true rfl) ?_
  refine x_aload_n d_Mo_give_0 rfl rfl ?_
  refine x_get xf_Mo_124_Mo (Or.inl ho) rfl d_Mo_give_1 ?_
  refine x_istore_n (L' := [_, _, _, _]) d_Mo_give_4 rfl rfl ?_
  refine x_aload_n d_Mo_give_5 rfl rfl ?_
  refine x_iconst (v := 0) d_Mo_give_6 (by decide) ?_
  refine x_put xf_Mo_124_Mo xp_Mo_2 rfl rfl ho rfl rfl d_Mo_give_7 ?_
  refine x_mo hA ho (vs' := moV rf 0 0 0 0 0 (-1) 0 0 0 0 0 0) (fun h2 ho2 hA2 => ?_)
  refine x_aload_n d_Mo_give_10 rfl rfl ?_
  refine x_iload_n d_Mo_give_11 rfl ?_
  refine x_callV (As := [_]) (k := k_MarkerTextModel) rfl xcv_Mo_184_Mo (Or.inl ho2) (c_isName0 (by omega) ho2) rfl rfl (Nat.le_of_ble_eq_true rfl) d_Mo_give_12 ?_
  rintro v h1 c1 n1 ⟨rfl, rfl, rfl, rfl⟩
  refine x_if_eq (tgt := 53) d_Mo_give_15 (by decide) (fun _ => ?_) (fun hn => absurd rfl hn)
  refine x_iconst (v := 0) d_Mo_give_53 (by decide) ?_
  refine x_istore_n (L' := [_, _, _, _]) d_Mo_give_54 rfl rfl ?_
  refine x_aload_n d_Mo_give_55 rfl rfl ?_
  refine x_iload_n d_Mo_give_56 rfl ?_
  refine x_if_ne (tgt := 64) d_Mo_give_57 (by decide) (fun ht => absurd rfl ht) (fun _ => ?_)
  refine x_iconst (v := 1) d_Mo_give_60 (by decide) ?_
  refine x_goto (tgt := 65) d_Mo_give_61 (by decide) ?_
  refine x_iconst (v := 0) d_Mo_give_65 (by decide) ?_
  refine x_callV (As := [_, _]) (k := k_MarkerTextModel) rfl xcv_Mo_162_Mo (Or.inl ho2) (c_fails1 ho2) rfl rfl (Nat.le_of_ble_eq_true rfl) d_Mo_give_66 ?_
  rintro v h3 c3 n3 ⟨rfl, rfl, rfl, rfl⟩
  refine x_if_ne (tgt := 105) d_Mo_give_69 (by decide) (fun _ => ?_) (fun hn => absurd hn (by decide))
  refine x_vret d_Mo_give_105 rfl ?_
  exact ⟨rfl, ⟨_, xup_self⟩, rfl, rfl⟩
theorem m_place {o : Nat} (hR : RF0 h o) : XM l G d M_Mo_place [.ref o] h c n (pK (some (.int (-1))) c n) := by
  obtain ⟨rf, ho, hA⟩ := hR
  refine XM.of (by decide +kernel) (Nat.le_of_ble_eq_true rfl) ?_
  refine x_aload_n d_Mo_place_0 rfl rfl ?_
  refine x_iconst (v := 0) d_Mo_place_1 (by decide) ?_
  refine x_put xf_Mo_121_Mo xp_Mo_0 rfl rfl ho rfl rfl d_Mo_place_2 ?_
  refine x_mo hA ho (vs' := moV rf 0 0 0 0 0 (-1) 0 0 0 0 0 0) (fun h2 ho2 hA2 => ?_)
  refine x_aload_n d_Mo_place_5 rfl rfl ?_
  refine x_get xf_Mo_81_Mo (Or.inl ho2) rfl d_Mo_place_6 ?_
  refine x_iret d_Mo_place_9 rfl ?_
  exact ⟨rfl, rfl, rfl⟩
theorem m_holds (hd : 2 ≤ d) {o : Nat} {k : Int32} (hR : RF0 h o) : XM l G d M_Mo_holds [.ref o, .int k] h c n (pK (some (.int 0)) c n) := by
  obtain ⟨d, rfl⟩ : ∃ q, d = q + 1 := ⟨d - 1, by omega⟩
  obtain ⟨rf, ho, hA⟩ := hR
  refine XM.of (by decide +kernel) (Nat.le_of_ble_eq_true rfl) ?_
  refine x_aload_n d_Mo_holds_0 rfl rfl ?_
  refine x_iconst (v := 0) d_Mo_holds_1 (by decide) ?_
  refine x_put xf_Mo_121_Mo xp_Mo_0 rfl rfl ho rfl rfl d_Mo_holds_2 ?_
  refine x_mo hA ho (vs' := moV rf 0 0 0 0 0 (-1) 0 0 0 0 0 0) (fun h2 ho2 hA2 => ?_)
  refine x_aload_n d_Mo_holds_5 rfl rfl ?_
  refine x_iload_n d_Mo_holds_6 rfl ?_
  refine x_callV (As := [_]) (k := k_MarkerTextModel) rfl xcv_Mo_281_Mo (Or.inl ho2) (c_isCondition0 (by omega) ho2) rfl rfl (Nat.le_of_ble_eq_true rfl) d_Mo_holds_7 ?_
  rintro v h1 c1 n1 ⟨rfl, rfl, rfl, rfl⟩
  refine x_if_eq (tgt := 26) d_Mo_holds_10 (by decide) (fun _ => ?_) (fun hn => absurd rfl hn)
  refine x_iconst (v := 0) d_Mo_holds_26 (by decide) ?_
  refine x_zret d_Mo_holds_27 rfl rfl ?_
  exact ⟨rfl, rfl, rfl⟩
theorem m_ever (hd : 2 ≤ d) {o : Nat} {k : Int32} (hR : RF0 h o) : XM l G d M_Mo_ever [.ref o, .int k] h c n (pK (some (.int (-1))) c n) := by
  obtain ⟨d, rfl⟩ : ∃ q, d = q + 1 := ⟨d - 1, by omega⟩
  obtain ⟨rf, ho, hA⟩ := hR
  refine XM.of (by decide +kernel) (Nat.le_of_ble_eq_true rfl) ?_
  refine x_aload_n d_Mo_ever_0 rfl rfl ?_
  refine x_iconst (v := 0) d_Mo_ever_1 (by decide) ?_
  refine x_put xf_Mo_121_Mo xp_Mo_0 rfl rfl ho rfl rfl d_Mo_ever_2 ?_
  refine x_mo hA ho (vs' := moV rf 0 0 0 0 0 (-1) 0 0 0 0 0 0) (fun h2 ho2 hA2 => ?_)
  refine x_aload_n d_Mo_ever_5 rfl rfl ?_
  refine x_iload_n d_Mo_ever_6 rfl ?_
  refine x_callV (As := [_]) (k := k_MarkerTextModel) rfl xcv_Mo_281_Mo (Or.inl ho2) (c_isCondition0 (by omega) ho2) rfl rfl (Nat.le_of_ble_eq_true rfl) d_Mo_ever_7 ?_
  rintro v h1 c1 n1 ⟨rfl, rfl, rfl, rfl⟩
  refine x_if_eq (tgt := 27) d_Mo_ever_10 (by decide) (fun _ => ?_) (fun hn => absurd rfl hn)
  refine x_iconst (v := (-1)) d_Mo_ever_27 (by decide) ?_
  refine x_iret d_Mo_ever_28 rfl ?_
  exact ⟨rfl, rfl, rfl⟩
theorem m_implies (hd : 2 ≤ d) {o : Nat} {k j : Int32} (hR : RF0 h o) : XM l G d M_Mo_implies [.ref o, .int k, .int j] h c n (pK (some (.int (-1))) c n) := by
  obtain ⟨d, rfl⟩ : ∃ q, d = q + 1 := ⟨d - 1, by omega⟩
  obtain ⟨rf, ho, hA⟩ := hR
  refine XM.of (by decide +kernel) (Nat.le_of_ble_eq_true rfl) ?_
  refine x_aload_n d_Mo_implies_0 rfl rfl ?_
  refine x_iconst (v := 0) d_Mo_implies_1 (by decide) ?_
  refine x_put xf_Mo_121_Mo xp_Mo_0 rfl rfl ho rfl rfl d_Mo_implies_2 ?_
  refine x_mo hA ho (vs' := moV rf 0 0 0 0 0 (-1) 0 0 0 0 0 0) (fun h2 ho2 hA2 => ?_)
  refine x_aload_n d_Mo_implies_5 rfl rfl ?_
  refine x_iload_n d_Mo_implies_6 rfl ?_
  refine x_callV (As := [_]) (k := k_MarkerTextModel) rfl xcv_Mo_281_Mo (Or.inl ho2) (c_isCondition0 (by omega) ho2) rfl rfl (Nat.le_of_ble_eq_true rfl) d_Mo_implies_7 ?_
  rintro v h1 c1 n1 ⟨rfl, rfl, rfl, rfl⟩
  refine x_if_eq (tgt := 21) d_Mo_implies_10 (by decide) (fun _ => ?_) (fun hn => absurd rfl hn)
  refine x_iconst (v := (-1)) d_Mo_implies_21 (by decide) ?_
  refine x_iret d_Mo_implies_22 rfl ?_
  exact ⟨rfl, rfl, rfl⟩
theorem m_apart (hd : 2 ≤ d) {o : Nat} {k j : Int32} (hR : RF0 h o) : XM l G d M_Mo_apart [.ref o, .int k, .int j] h c n (pK (some (.int (-1))) c n) := by
  obtain ⟨d, rfl⟩ : ∃ q, d = q + 1 := ⟨d - 1, by omega⟩
  obtain ⟨rf, ho, hA⟩ := hR
  refine XM.of (by decide +kernel) (Nat.le_of_ble_eq_true rfl) ?_
  refine x_aload_n d_Mo_apart_0 rfl rfl ?_
  refine x_iconst (v := 0) d_Mo_apart_1 (by decide) ?_
  refine x_put xf_Mo_121_Mo xp_Mo_0 rfl rfl ho rfl rfl d_Mo_apart_2 ?_
  refine x_mo hA ho (vs' := moV rf 0 0 0 0 0 (-1) 0 0 0 0 0 0) (fun h2 ho2 hA2 => ?_)
  refine x_aload_n d_Mo_apart_5 rfl rfl ?_
  refine x_iload_n d_Mo_apart_6 rfl ?_
  refine x_callV (As := [_]) (k := k_MarkerTextModel) rfl xcv_Mo_281_Mo (Or.inl ho2) (c_isCondition0 (by omega) ho2) rfl rfl (Nat.le_of_ble_eq_true rfl) d_Mo_apart_7 ?_
  rintro v h1 c1 n1 ⟨rfl, rfl, rfl, rfl⟩
  refine x_if_eq (tgt := 21) d_Mo_apart_10 (by decide) (fun _ => ?_) (fun hn => absurd rfl hn)
  refine x_iconst (v := (-1)) d_Mo_apart_21 (by decide) ?_
  refine x_iret d_Mo_apart_22 rfl ?_
  exact ⟨rfl, rfl, rfl⟩
theorem m_many (hd : 1 ≤ d) {o : Nat} {k : Int32} (hR : RF0 h o) : XM l G d M_Mo_many [.ref o, .int k] h c n (pK (some (.int (-1))) c n) := by
  obtain ⟨d, rfl⟩ : ∃ q, d = q + 1 := ⟨d - 1, by omega⟩
  obtain ⟨rf, ho, hA⟩ := hR
  refine XM.of (by decide +kernel) (Nat.le_of_ble_eq_true rfl) ?_
  refine x_aload_n d_Mo_many_0 rfl rfl ?_
  refine x_iconst (v := 0) d_Mo_many_1 (by decide) ?_
  refine x_put xf_Mo_121_Mo xp_Mo_0 rfl rfl ho rfl rfl d_Mo_many_2 ?_
  refine x_mo hA ho (vs' := moV rf 0 0 0 0 0 (-1) 0 0 0 0 0 0) (fun h2 ho2 hA2 => ?_)
  refine x_iload_n d_Mo_many_5 rfl ?_
  refine x_iconst (v := 0) d_Mo_many_6 (by decide) ?_
  refine x_aload_n d_Mo_many_7 rfl rfl ?_
  refine x_get xf_Mo_314_Mo (Or.inl ho2) rfl d_Mo_many_8 ?_
  refine x_iconst (v := 1) d_Mo_many_11 (by decide) ?_
  refine x_isub d_Mo_many_12 ?_
  refine x_callS (As := [_, _, _]) xcs_Mo_150 (c_Mo_in) rfl rfl (Nat.le_of_ble_eq_true rfl) d_Mo_many_13 ?_
  rintro v h1 c1 n1 ⟨rfl, rfl, rfl, rfl⟩
  refine x_top (w := .int 0) (by rw [in_no]) ?_
  refine x_if_eq (tgt := 28) d_Mo_many_16 (by decide) (fun _ => ?_) (fun hn => absurd rfl hn)
  refine x_iconst (v := (-1)) d_Mo_many_28 (by decide) ?_
  refine x_iret d_Mo_many_29 rfl ?_
  exact ⟨rfl, rfl, rfl⟩
theorem m_inClass (hd : 1 ≤ d) {o : Nat} {k j : Int32} (hR : RF0 h o) : XM l G d M_Mo_inClass [.ref o, .int k, .int j] h c n (pK (some (.int 0)) c n) := by
  obtain ⟨d, rfl⟩ : ∃ q, d = q + 1 := ⟨d - 1, by omega⟩
  obtain ⟨rf, ho, hA⟩ := hR
  refine XM.of (by decide +kernel) (Nat.le_of_ble_eq_true rfl) ?_
  refine x_aload_n d_Mo_inClass_0 rfl rfl ?_
  refine x_iconst (v := 0) d_Mo_inClass_1 (by decide) ?_
  refine x_put xf_Mo_121_Mo xp_Mo_0 rfl rfl ho rfl rfl d_Mo_inClass_2 ?_
  refine x_mo hA ho (vs' := moV rf 0 0 0 0 0 (-1) 0 0 0 0 0 0) (fun h2 ho2 hA2 => ?_)
  refine x_iload_n d_Mo_inClass_5 rfl ?_
  refine x_iconst (v := 0) d_Mo_inClass_6 (by decide) ?_
  refine x_aload_n d_Mo_inClass_7 rfl rfl ?_
  refine x_get xf_Mo_314_Mo (Or.inl ho2) rfl d_Mo_inClass_8 ?_
  refine x_iconst (v := 1) d_Mo_inClass_11 (by decide) ?_
  refine x_isub d_Mo_inClass_12 ?_
  refine x_callS (As := [_, _, _]) xcs_Mo_150 (c_Mo_in) rfl rfl (Nat.le_of_ble_eq_true rfl) d_Mo_inClass_13 ?_
  rintro v h1 c1 n1 ⟨rfl, rfl, rfl, rfl⟩
  refine x_top (w := .int 0) (by rw [in_no]) ?_
  refine x_if_eq (tgt := 47) d_Mo_inClass_16 (by decide) (fun _ => ?_) (fun hn => absurd rfl hn)
  refine x_iconst (v := 0) d_Mo_inClass_47 (by decide) ?_
  refine x_zret d_Mo_inClass_48 rfl rfl ?_
  exact ⟨rfl, rfl, rfl⟩
theorem m_sample (hd : 1 ≤ d) {o : Nat} {k j : Int32} (hR : RF0 h o) : XM l G d M_Mo_sample [.ref o, .int k, .int j] h c n (pK (some (.int (-1))) c n) := by
  obtain ⟨d, rfl⟩ : ∃ q, d = q + 1 := ⟨d - 1, by omega⟩
  obtain ⟨rf, ho, hA⟩ := hR
  refine XM.of (by decide +kernel) (Nat.le_of_ble_eq_true rfl) ?_
  refine x_aload_n d_Mo_sample_0 rfl rfl ?_
  refine x_iconst (v := 0) d_Mo_sample_1 (by decide) ?_
  refine x_put xf_Mo_121_Mo xp_Mo_0 rfl rfl ho rfl rfl d_Mo_sample_2 ?_
  refine x_mo hA ho (vs' := moV rf 0 0 0 0 0 (-1) 0 0 0 0 0 0) (fun h2 ho2 hA2 => ?_)
  refine x_iload_n d_Mo_sample_5 rfl ?_
  refine x_iconst (v := 0) d_Mo_sample_6 (by decide) ?_
  refine x_aload_n d_Mo_sample_7 rfl rfl ?_
  refine x_get xf_Mo_314_Mo (Or.inl ho2) rfl d_Mo_sample_8 ?_
  refine x_iconst (v := 1) d_Mo_sample_11 (by decide) ?_
  refine x_isub d_Mo_sample_12 ?_
  refine x_callS (As := [_, _, _]) xcs_Mo_150 (c_Mo_in) rfl rfl (Nat.le_of_ble_eq_true rfl) d_Mo_sample_13 ?_
  rintro v h1 c1 n1 ⟨rfl, rfl, rfl, rfl⟩
  refine x_top (w := .int 0) (by rw [in_no]) ?_
  refine x_if_eq (tgt := 47) d_Mo_sample_16 (by decide) (fun _ => ?_) (fun hn => absurd rfl hn)
  refine x_iconst (v := (-1)) d_Mo_sample_47 (by decide) ?_
  refine x_iret d_Mo_sample_48 rfl ?_
  exact ⟨rfl, rfl, rfl⟩
theorem m_printed (hd : 2 ≤ d) {o : Nat} {k j : Int32} (hR : RF0 h o) : XM l G d M_Mo_printed [.ref o, .int k, .int j] h c n (pK (some (.int 0)) c n) := by
  obtain ⟨d, rfl⟩ : ∃ q, d = q + 1 := ⟨d - 1, by omega⟩
  obtain ⟨rf, ho, hA⟩ := hR
  refine XM.of (by decide +kernel) (Nat.le_of_ble_eq_true rfl) ?_
  refine x_aload_n d_Mo_printed_0 rfl rfl ?_
  refine x_iconst (v := 0) d_Mo_printed_1 (by decide) ?_
  refine x_put xf_Mo_121_Mo xp_Mo_0 rfl rfl ho rfl rfl d_Mo_printed_2 ?_
  refine x_mo hA ho (vs' := moV rf 0 0 0 0 0 (-1) 0 0 0 0 0 0) (fun h2 ho2 hA2 => ?_)
  refine x_aload_n d_Mo_printed_5 rfl rfl ?_
  refine x_iload_n d_Mo_printed_6 rfl ?_
  refine x_callV (As := [_]) (k := k_MarkerTextModel) rfl xcv_Mo_281_Mo (Or.inl ho2) (c_isCondition0 (by omega) ho2) rfl rfl (Nat.le_of_ble_eq_true rfl) d_Mo_printed_7 ?_
  rintro v h1 c1 n1 ⟨rfl, rfl, rfl, rfl⟩
  refine x_if_eq (tgt := 17) d_Mo_printed_10 (by decide) (fun _ => ?_) (fun hn => absurd rfl hn)
  refine x_iconst (v := 0) d_Mo_printed_17 (by decide) ?_
  refine x_iret d_Mo_printed_18 rfl ?_
  exact ⟨rfl, rfl, rfl⟩
end MO2
