section
abbrev y_Mo_in : MethodName := ⟨"MarkerTextModel", "in", "(III)Z"⟩
abbrev M_Mo_in : XMt := (y_Mo_in, prog_13_method_4_code, 3, (some .boolean))
theorem d_Mo_in_0 : decode M_Mo_in.2.1 0 = .ok (.iload_n 0, 1) := by decide +kernel
theorem d_Mo_in_1 : decode M_Mo_in.2.1 1 = .ok (.iload_n 1, 1) := by decide +kernel
theorem d_Mo_in_2 : decode M_Mo_in.2.1 2 = .ok (.if_icmp .lt 12, 3) := by decide +kernel
theorem d_Mo_in_14 : decode M_Mo_in.2.1 14 = .ok (.iconst 0, 1) := by decide +kernel
theorem d_Mo_in_15 : decode M_Mo_in.2.1 15 = .ok (.ireturn, 1) := by decide +kernel
theorem d_Mo_in_5 : decode M_Mo_in.2.1 5 = .ok (.iload_n 0, 1) := by decide +kernel
theorem d_Mo_in_6 : decode M_Mo_in.2.1 6 = .ok (.iload_n 2, 1) := by decide +kernel
theorem d_Mo_in_7 : decode M_Mo_in.2.1 7 = .ok (.if_icmp .gt 7, 3) := by decide +kernel
theorem d_Mo_in_10 : decode M_Mo_in.2.1 10 = .ok (.iconst 1, 1) := by decide +kernel
theorem d_Mo_in_11 : decode M_Mo_in.2.1 11 = .ok (.goto 4, 3) := by decide +kernel
abbrev y_Mo_isLetter : MethodName := ⟨"MarkerTextModel", "isLetter", "(I)Z"⟩
abbrev M_Mo_isLetter : XMt := (y_Mo_isLetter, prog_13_method_6_code, 1, (some .boolean))
theorem d_Mo_isLetter_0 : decode M_Mo_isLetter.2.1 0 = .ok (.iload_n 0, 1) := by decide +kernel
theorem d_Mo_isLetter_1 : decode M_Mo_isLetter.2.1 1 = .ok (.bipush 97, 2) := by decide +kernel
theorem d_Mo_isLetter_3 : decode M_Mo_isLetter.2.1 3 = .ok (.if_icmp .lt 13, 3) := by decide +kernel
theorem d_Mo_isLetter_16 : decode M_Mo_isLetter.2.1 16 = .ok (.iconst 0, 1) := by decide +kernel
theorem d_Mo_isLetter_17 : decode M_Mo_isLetter.2.1 17 = .ok (.ireturn, 1) := by decide +kernel
theorem d_Mo_isLetter_6 : decode M_Mo_isLetter.2.1 6 = .ok (.iload_n 0, 1) := by decide +kernel
theorem d_Mo_isLetter_7 : decode M_Mo_isLetter.2.1 7 = .ok (.bipush 122, 2) := by decide +kernel
theorem d_Mo_isLetter_9 : decode M_Mo_isLetter.2.1 9 = .ok (.if_icmp .gt 7, 3) := by decide +kernel
theorem d_Mo_isLetter_12 : decode M_Mo_isLetter.2.1 12 = .ok (.iconst 1, 1) := by decide +kernel
theorem d_Mo_isLetter_13 : decode M_Mo_isLetter.2.1 13 = .ok (.goto 4, 3) := by decide +kernel
abbrev y_Mo_isDigit : MethodName := ⟨"MarkerTextModel", "isDigit", "(I)Z"⟩
abbrev M_Mo_isDigit : XMt := (y_Mo_isDigit, prog_13_method_7_code, 1, (some .boolean))
theorem d_Mo_isDigit_0 : decode M_Mo_isDigit.2.1 0 = .ok (.iload_n 0, 1) := by decide +kernel
theorem d_Mo_isDigit_1 : decode M_Mo_isDigit.2.1 1 = .ok (.bipush 48, 2) := by decide +kernel
theorem d_Mo_isDigit_3 : decode M_Mo_isDigit.2.1 3 = .ok (.if_icmp .lt 13, 3) := by decide +kernel
theorem d_Mo_isDigit_16 : decode M_Mo_isDigit.2.1 16 = .ok (.iconst 0, 1) := by decide +kernel
theorem d_Mo_isDigit_17 : decode M_Mo_isDigit.2.1 17 = .ok (.ireturn, 1) := by decide +kernel
theorem d_Mo_isDigit_6 : decode M_Mo_isDigit.2.1 6 = .ok (.iload_n 0, 1) := by decide +kernel
theorem d_Mo_isDigit_7 : decode M_Mo_isDigit.2.1 7 = .ok (.bipush 57, 2) := by decide +kernel
theorem d_Mo_isDigit_9 : decode M_Mo_isDigit.2.1 9 = .ok (.if_icmp .gt 7, 3) := by decide +kernel
theorem d_Mo_isDigit_12 : decode M_Mo_isDigit.2.1 12 = .ok (.iconst 1, 1) := by decide +kernel
theorem d_Mo_isDigit_13 : decode M_Mo_isDigit.2.1 13 = .ok (.goto 4, 3) := by decide +kernel
abbrev y_Mo_fails : MethodName := ⟨"MarkerTextModel", "fails", "(ZZ)Z"⟩
abbrev M_Mo_fails : XMt := (y_Mo_fails, prog_13_method_3_code, 3, (some .boolean))
theorem d_Mo_fails_0 : decode M_Mo_fails.2.1 0 = .ok (.aload_n 0, 1) := by decide +kernel
theorem d_Mo_fails_1 : decode M_Mo_fails.2.1 1 = .ok (.iload_n 1, 1) := by decide +kernel
theorem d_Mo_fails_2 : decode M_Mo_fails.2.1 2 = .ok (.ifCond .eq 7, 3) := by decide +kernel
theorem d_Mo_fails_9 : decode M_Mo_fails.2.1 9 = .ok (.iload_n 2, 1) := by decide +kernel
theorem d_Mo_fails_10 : decode M_Mo_fails.2.1 10 = .ok (.ifCond .eq 7, 3) := by decide +kernel
theorem d_Mo_fails_17 : decode M_Mo_fails.2.1 17 = .ok (.iconst 0, 1) := by decide +kernel
theorem d_Mo_fails_18 : decode M_Mo_fails.2.1 18 = .ok (.putfield 121, 3) := by decide +kernel
theorem xw_1170 : (Jvm.Cond.fieldLink "MarkerTextModel" (121 : Nat) "MarkerTextModel" "thrown" "I") ∈ xT := xT_at 1170 (by decide +kernel) (by decide +kernel)
theorem xf_Mo_121_Mo : xF "MarkerTextModel" 121 k_MarkerTextModel 0 := ⟨_, _, _, "MarkerTextModel", rfl, by decide, Or.inl xw_1170, Or.inl rfl⟩
theorem xp_Mo_0 : xP k_MarkerTextModel 0 false .int := ⟨_, _, _, rfl, rfl, by decide +kernel⟩
theorem d_Mo_fails_21 : decode M_Mo_fails.2.1 21 = .ok (.aload_n 0, 1) := by decide +kernel
theorem d_Mo_fails_22 : decode M_Mo_fails.2.1 22 = .ok (.getfield 121, 3) := by decide +kernel
theorem d_Mo_fails_25 : decode M_Mo_fails.2.1 25 = .ok (.ifCond .le 7, 3) := by decide +kernel
theorem d_Mo_fails_32 : decode M_Mo_fails.2.1 32 = .ok (.iconst 0, 1) := by decide +kernel
theorem d_Mo_fails_33 : decode M_Mo_fails.2.1 33 = .ok (.ireturn, 1) := by decide +kernel
theorem d_Mo_fails_28 : decode M_Mo_fails.2.1 28 = .ok (.iconst 1, 1) := by decide +kernel
theorem d_Mo_fails_29 : decode M_Mo_fails.2.1 29 = .ok (.goto 4, 3) := by decide +kernel
theorem d_Mo_fails_13 : decode M_Mo_fails.2.1 13 = .ok (.iconst 2, 1) := by decide +kernel
theorem d_Mo_fails_14 : decode M_Mo_fails.2.1 14 = .ok (.goto 4, 3) := by decide +kernel
theorem d_Mo_fails_5 : decode M_Mo_fails.2.1 5 = .ok (.iconst 1, 1) := by decide +kernel
theorem d_Mo_fails_6 : decode M_Mo_fails.2.1 6 = .ok (.goto 12, 3) := by decide +kernel
abbrev y_Mo_place : MethodName := ⟨"MarkerTextModel", "place", "()I"⟩
abbrev M_Mo_place : XMt := (y_Mo_place, prog_13_method_37_code, 1, (some .int))
theorem d_Mo_place_0 : decode M_Mo_place.2.1 0 = .ok (.aload_n 0, 1) := by decide +kernel
theorem d_Mo_place_1 : decode M_Mo_place.2.1 1 = .ok (.iconst 0, 1) := by decide +kernel
theorem d_Mo_place_2 : decode M_Mo_place.2.1 2 = .ok (.putfield 121, 3) := by decide +kernel
theorem d_Mo_place_5 : decode M_Mo_place.2.1 5 = .ok (.aload_n 0, 1) := by decide +kernel
theorem d_Mo_place_6 : decode M_Mo_place.2.1 6 = .ok (.getfield 81, 3) := by decide +kernel
theorem d_Mo_place_9 : decode M_Mo_place.2.1 9 = .ok (.ireturn, 1) := by decide +kernel
abbrev y_Mo_type : MethodName := ⟨"MarkerTextModel", "type", "(C)Z"⟩
abbrev M_Mo_type : XMt := (y_Mo_type, prog_13_method_5_code, 2, (some .boolean))
theorem d_Mo_type_0 : decode M_Mo_type.2.1 0 = .ok (.aload_n 0, 1) := by decide +kernel
theorem d_Mo_type_1 : decode M_Mo_type.2.1 1 = .ok (.iconst 0, 1) := by decide +kernel
theorem d_Mo_type_2 : decode M_Mo_type.2.1 2 = .ok (.putfield 121, 3) := by decide +kernel
theorem d_Mo_type_5 : decode M_Mo_type.2.1 5 = .ok (.iload_n 1, 1) := by decide +kernel
theorem d_Mo_type_6 : decode M_Mo_type.2.1 6 = .ok (.bipush 32, 2) := by decide +kernel
theorem d_Mo_type_8 : decode M_Mo_type.2.1 8 = .ok (.if_icmp .lt 19, 3) := by decide +kernel
theorem d_Mo_type_27 : decode M_Mo_type.2.1 27 = .ok (.iconst 0, 1) := by decide +kernel
theorem d_Mo_type_28 : decode M_Mo_type.2.1 28 = .ok (.ireturn, 1) := by decide +kernel
theorem d_Mo_type_11 : decode M_Mo_type.2.1 11 = .ok (.iload_n 1, 1) := by decide +kernel
theorem d_Mo_type_12 : decode M_Mo_type.2.1 12 = .ok (.bipush 126, 2) := by decide +kernel
theorem d_Mo_type_14 : decode M_Mo_type.2.1 14 = .ok (.if_icmp .gt 13, 3) := by decide +kernel
theorem d_Mo_type_17 : decode M_Mo_type.2.1 17 = .ok (.aload_n 0, 1) := by decide +kernel
theorem d_Mo_type_18 : decode M_Mo_type.2.1 18 = .ok (.getfield 124, 3) := by decide +kernel
theorem xw_1172 : (Jvm.Cond.fieldLink "MarkerTextModel" (124 : Nat) "MarkerTextModel" "size" "I") ∈ xT := xT_at 1172 (by decide +kernel) (by decide +kernel)
theorem xf_Mo_124_Mo : xF "MarkerTextModel" 124 k_MarkerTextModel 2 := ⟨_, _, _, "MarkerTextModel", rfl, by decide, Or.inl xw_1172, Or.inl rfl⟩
theorem d_Mo_type_21 : decode M_Mo_type.2.1 21 = .ok (.sipush 160, 3) := by decide +kernel
theorem d_Mo_type_24 : decode M_Mo_type.2.1 24 = .ok (.if_icmp .ne 5, 3) := by decide +kernel
theorem d_Mo_type_29 : decode M_Mo_type.2.1 29 = .ok (.aload_n 0, 1) := by decide +kernel
theorem d_Mo_type_30 : decode M_Mo_type.2.1 30 = .ok (.getfield 7, 3) := by decide +kernel
theorem d_Mo_type_33 : decode M_Mo_type.2.1 33 = .ok (.aload_n 0, 1) := by decide +kernel
theorem d_Mo_type_34 : decode M_Mo_type.2.1 34 = .ok (.getfield 124, 3) := by decide +kernel
theorem d_Mo_type_37 : decode M_Mo_type.2.1 37 = .ok (.iload_n 1, 1) := by decide +kernel
theorem d_Mo_type_38 : decode M_Mo_type.2.1 38 = .ok (.iastore, 1) := by decide +kernel
theorem d_Mo_type_39 : decode M_Mo_type.2.1 39 = .ok (.aload_n 0, 1) := by decide +kernel
theorem d_Mo_type_40 : decode M_Mo_type.2.1 40 = .ok (.dup, 1) := by decide +kernel
theorem d_Mo_type_41 : decode M_Mo_type.2.1 41 = .ok (.getfield 124, 3) := by decide +kernel
theorem d_Mo_type_44 : decode M_Mo_type.2.1 44 = .ok (.iconst 1, 1) := by decide +kernel
theorem d_Mo_type_45 : decode M_Mo_type.2.1 45 = .ok (.iadd, 1) := by decide +kernel
theorem d_Mo_type_46 : decode M_Mo_type.2.1 46 = .ok (.putfield 124, 3) := by decide +kernel
theorem xp_Mo_2 : xP k_MarkerTextModel 2 false .int := ⟨_, _, _, rfl, rfl, by decide +kernel⟩
theorem d_Mo_type_49 : decode M_Mo_type.2.1 49 = .ok (.iconst 1, 1) := by decide +kernel
theorem d_Mo_type_50 : decode M_Mo_type.2.1 50 = .ok (.ireturn, 1) := by decide +kernel
abbrev y_Mo_isName : MethodName := ⟨"MarkerTextModel", "isName", "(I)Z"⟩
abbrev M_Mo_isName : XMt := (y_Mo_isName, prog_13_method_15_code, 2, (some .boolean))
theorem d_Mo_isName_0 : decode M_Mo_isName.2.1 0 = .ok (.iload_n 1, 1) := by decide +kernel
theorem d_Mo_isName_1 : decode M_Mo_isName.2.1 1 = .ok (.iconst 0, 1) := by decide +kernel
theorem d_Mo_isName_2 : decode M_Mo_isName.2.1 2 = .ok (.aload_n 0, 1) := by decide +kernel
theorem d_Mo_isName_3 : decode M_Mo_isName.2.1 3 = .ok (.getfield 147, 3) := by decide +kernel
theorem xw_1173 : (Jvm.Cond.fieldLink "MarkerTextModel" (147 : Nat) "MarkerTextModel" "names" "I") ∈ xT := xT_at 1173 (by decide +kernel) (by decide +kernel)
theorem xf_Mo_147_Mo : xF "MarkerTextModel" 147 k_MarkerTextModel 3 := ⟨_, _, _, "MarkerTextModel", rfl, by decide, Or.inl xw_1173, Or.inl rfl⟩
theorem d_Mo_isName_6 : decode M_Mo_isName.2.1 6 = .ok (.iconst 1, 1) := by decide +kernel
theorem d_Mo_isName_7 : decode M_Mo_isName.2.1 7 = .ok (.isub, 1) := by decide +kernel
theorem d_Mo_isName_8 : decode M_Mo_isName.2.1 8 = .ok (.invokestatic 150, 3) := by decide +kernel
theorem xw_1338 : (Jvm.Cond.code ({ cls := "MarkerTextModel", name := "in", desc := "(III)Z" } : Jvm.MethodName) prog_13_method_4_code (3 : Nat) (Option.some Jvm.ClassFile.FieldType.boolean)) ∈ xT := xT_at 1338 (by decide +kernel) (by decide +kernel)
theorem xw_8 : (Jvm.Cond.initialized "MarkerTextModel") ∈ xT := xT_at 8 (by decide +kernel) (by decide +kernel)
theorem xcb_Mo_in : xcb M_Mo_in 3 := ⟨xw_1338, xw_8, by decide, by decide, by decide, by decide +kernel⟩
theorem xw_1336 : (Jvm.Cond.methodLink "MarkerTextModel" (150 : Nat) ({ cls := "MarkerTextModel", name := "in", desc := "(III)Z" } : Jvm.MethodName)) ∈ xT := xT_at 1336 (by decide +kernel) (by decide +kernel)
theorem xw_1337 : (Jvm.Cond.static ({ cls := "MarkerTextModel", name := "in", desc := "(III)Z" } : Jvm.MethodName)) ∈ xT := xT_at 1337 (by decide +kernel) (by decide +kernel)
theorem xcs_Mo_150 : xCS "MarkerTextModel" 150 M_Mo_in 3 := ⟨xcb_Mo_in, xw_1337, Or.inl xw_1336⟩
theorem d_Mo_isName_11 : decode M_Mo_isName.2.1 11 = .ok (.ireturn, 1) := by decide +kernel
abbrev y_Mo_isCondition : MethodName := ⟨"MarkerTextModel", "isCondition", "(I)Z"⟩
abbrev M_Mo_isCondition : XMt := (y_Mo_isCondition, prog_13_method_41_code, 2, (some .boolean))
theorem d_Mo_isCondition_0 : decode M_Mo_isCondition.2.1 0 = .ok (.iload_n 1, 1) := by decide +kernel
theorem d_Mo_isCondition_1 : decode M_Mo_isCondition.2.1 1 = .ok (.iconst 0, 1) := by decide +kernel
theorem d_Mo_isCondition_2 : decode M_Mo_isCondition.2.1 2 = .ok (.aload_n 0, 1) := by decide +kernel
theorem d_Mo_isCondition_3 : decode M_Mo_isCondition.2.1 3 = .ok (.getfield 268, 3) := by decide +kernel
theorem xw_1181 : (Jvm.Cond.fieldLink "MarkerTextModel" (268 : Nat) "MarkerTextModel" "conditions" "I") ∈ xT := xT_at 1181 (by decide +kernel) (by decide +kernel)
theorem xf_Mo_268_Mo : xF "MarkerTextModel" 268 k_MarkerTextModel 11 := ⟨_, _, _, "MarkerTextModel", rfl, by decide, Or.inl xw_1181, Or.inl rfl⟩
theorem d_Mo_isCondition_6 : decode M_Mo_isCondition.2.1 6 = .ok (.iconst 1, 1) := by decide +kernel
theorem d_Mo_isCondition_7 : decode M_Mo_isCondition.2.1 7 = .ok (.isub, 1) := by decide +kernel
theorem d_Mo_isCondition_8 : decode M_Mo_isCondition.2.1 8 = .ok (.invokestatic 150, 3) := by decide +kernel
theorem d_Mo_isCondition_11 : decode M_Mo_isCondition.2.1 11 = .ok (.ireturn, 1) := by decide +kernel
abbrev y_Mo_fault : MethodName := ⟨"MarkerTextModel", "fault", "(I)V"⟩
abbrev M_Mo_fault : XMt := (y_Mo_fault, prog_13_method_18_code, 2, none)
theorem d_Mo_fault_0 : decode M_Mo_fault.2.1 0 = .ok (.aload_n 0, 1) := by decide +kernel
theorem d_Mo_fault_1 : decode M_Mo_fault.2.1 1 = .ok (.aload_n 0, 1) := by decide +kernel
theorem d_Mo_fault_2 : decode M_Mo_fault.2.1 2 = .ok (.getfield 190, 3) := by decide +kernel
theorem xw_1199 : (Jvm.Cond.fieldLink "MarkerTextModel" (190 : Nat) "MarkerTextModel" "wrong" "I") ∈ xT := xT_at 1199 (by decide +kernel) (by decide +kernel)
theorem xf_Mo_190_Mo : xF "MarkerTextModel" 190 k_MarkerTextModel 29 := ⟨_, _, _, "MarkerTextModel", rfl, by decide, Or.inl xw_1199, Or.inl rfl⟩
theorem d_Mo_fault_5 : decode M_Mo_fault.2.1 5 = .ok (.ifCond .ge 7, 3) := by decide +kernel
theorem d_Mo_fault_12 : decode M_Mo_fault.2.1 12 = .ok (.aload_n 0, 1) := by decide +kernel
theorem d_Mo_fault_13 : decode M_Mo_fault.2.1 13 = .ok (.getfield 190, 3) := by decide +kernel
theorem d_Mo_fault_16 : decode M_Mo_fault.2.1 16 = .ok (.putfield 190, 3) := by decide +kernel
theorem xp_Mo_29 : xP k_MarkerTextModel 29 false .int := ⟨_, _, _, rfl, rfl, by decide +kernel⟩
theorem d_Mo_fault_19 : decode M_Mo_fault.2.1 19 = .ok (.return_, 1) := by decide +kernel
theorem d_Mo_fault_8 : decode M_Mo_fault.2.1 8 = .ok (.iload_n 1, 1) := by decide +kernel
theorem d_Mo_fault_9 : decode M_Mo_fault.2.1 9 = .ok (.goto 7, 3) := by decide +kernel
abbrev y_Mo_now : MethodName := ⟨"MarkerTextModel", "now", "()I"⟩
abbrev M_Mo_now : XMt := (y_Mo_now, prog_13_method_20_code, 1, (some .int))
theorem d_Mo_now_0 : decode M_Mo_now.2.1 0 = .ok (.aload_n 0, 1) := by decide +kernel
theorem d_Mo_now_1 : decode M_Mo_now.2.1 1 = .ok (.getfield 193, 3) := by decide +kernel
theorem xw_1197 : (Jvm.Cond.fieldLink "MarkerTextModel" (193 : Nat) "MarkerTextModel" "at" "I") ∈ xT := xT_at 1197 (by decide +kernel) (by decide +kernel)
theorem xf_Mo_193_Mo : xF "MarkerTextModel" 193 k_MarkerTextModel 27 := ⟨_, _, _, "MarkerTextModel", rfl, by decide, Or.inl xw_1197, Or.inl rfl⟩
theorem d_Mo_now_4 : decode M_Mo_now.2.1 4 = .ok (.aload_n 0, 1) := by decide +kernel
theorem d_Mo_now_5 : decode M_Mo_now.2.1 5 = .ok (.getfield 124, 3) := by decide +kernel
theorem d_Mo_now_8 : decode M_Mo_now.2.1 8 = .ok (.if_icmp .ge 15, 3) := by decide +kernel
theorem d_Mo_now_23 : decode M_Mo_now.2.1 23 = .ok (.iconst (-1), 1) := by decide +kernel
theorem d_Mo_now_24 : decode M_Mo_now.2.1 24 = .ok (.ireturn, 1) := by decide +kernel
theorem d_Mo_now_11 : decode M_Mo_now.2.1 11 = .ok (.aload_n 0, 1) := by decide +kernel
theorem d_Mo_now_12 : decode M_Mo_now.2.1 12 = .ok (.getfield 7, 3) := by decide +kernel
theorem d_Mo_now_15 : decode M_Mo_now.2.1 15 = .ok (.aload_n 0, 1) := by decide +kernel
theorem d_Mo_now_16 : decode M_Mo_now.2.1 16 = .ok (.getfield 193, 3) := by decide +kernel
theorem d_Mo_now_19 : decode M_Mo_now.2.1 19 = .ok (.iaload, 1) := by decide +kernel
theorem d_Mo_now_20 : decode M_Mo_now.2.1 20 = .ok (.goto 4, 3) := by decide +kernel
abbrev y_Mo_skip : MethodName := ⟨"MarkerTextModel", "skip", "()V"⟩
abbrev M_Mo_skip : XMt := (y_Mo_skip, prog_13_method_19_code, 1, none)
theorem d_Mo_skip_0 : decode M_Mo_skip.2.1 0 = .ok (.aload_n 0, 1) := by decide +kernel
theorem d_Mo_skip_1 : decode M_Mo_skip.2.1 1 = .ok (.getfield 193, 3) := by decide +kernel
theorem d_Mo_skip_4 : decode M_Mo_skip.2.1 4 = .ok (.aload_n 0, 1) := by decide +kernel
theorem d_Mo_skip_5 : decode M_Mo_skip.2.1 5 = .ok (.getfield 124, 3) := by decide +kernel
theorem d_Mo_skip_8 : decode M_Mo_skip.2.1 8 = .ok (.if_icmp .ge 30, 3) := by decide +kernel
theorem d_Mo_skip_38 : decode M_Mo_skip.2.1 38 = .ok (.return_, 1) := by decide +kernel
theorem d_Mo_skip_11 : decode M_Mo_skip.2.1 11 = .ok (.aload_n 0, 1) := by decide +kernel
theorem d_Mo_skip_12 : decode M_Mo_skip.2.1 12 = .ok (.getfield 7, 3) := by decide +kernel
theorem d_Mo_skip_15 : decode M_Mo_skip.2.1 15 = .ok (.aload_n 0, 1) := by decide +kernel
theorem d_Mo_skip_16 : decode M_Mo_skip.2.1 16 = .ok (.getfield 193, 3) := by decide +kernel
theorem d_Mo_skip_19 : decode M_Mo_skip.2.1 19 = .ok (.iaload, 1) := by decide +kernel
theorem d_Mo_skip_20 : decode M_Mo_skip.2.1 20 = .ok (.bipush 32, 2) := by decide +kernel
theorem d_Mo_skip_22 : decode M_Mo_skip.2.1 22 = .ok (.if_icmp .ne 16, 3) := by decide +kernel
theorem d_Mo_skip_25 : decode M_Mo_skip.2.1 25 = .ok (.aload_n 0, 1) := by decide +kernel
theorem d_Mo_skip_26 : decode M_Mo_skip.2.1 26 = .ok (.dup, 1) := by decide +kernel
theorem d_Mo_skip_27 : decode M_Mo_skip.2.1 27 = .ok (.getfield 193, 3) := by decide +kernel
theorem d_Mo_skip_30 : decode M_Mo_skip.2.1 30 = .ok (.iconst 1, 1) := by decide +kernel
theorem d_Mo_skip_31 : decode M_Mo_skip.2.1 31 = .ok (.iadd, 1) := by decide +kernel
theorem d_Mo_skip_32 : decode M_Mo_skip.2.1 32 = .ok (.putfield 193, 3) := by decide +kernel
theorem xp_Mo_27 : xP k_MarkerTextModel 27 false .int := ⟨_, _, _, rfl, rfl, by decide +kernel⟩
theorem d_Mo_skip_35 : decode M_Mo_skip.2.1 35 = .ok (.goto (-35), 3) := by decide +kernel
abbrev y_Mo_letters : MethodName := ⟨"MarkerTextModel", "letters", "(I)I"⟩
abbrev M_Mo_letters : XMt := (y_Mo_letters, prog_13_method_8_code, 3, (some .int))
theorem d_Mo_letters_2 : decode M_Mo_letters.2.1 2 = .ok (.iload_n 2, 1) := by decide +kernel
theorem d_Mo_letters_3 : decode M_Mo_letters.2.1 3 = .ok (.aload_n 0, 1) := by decide +kernel
theorem d_Mo_letters_4 : decode M_Mo_letters.2.1 4 = .ok (.getfield 124, 3) := by decide +kernel
theorem d_Mo_letters_7 : decode M_Mo_letters.2.1 7 = .ok (.if_icmp .ge 21, 3) := by decide +kernel
theorem d_Mo_letters_28 : decode M_Mo_letters.2.1 28 = .ok (.iload_n 2, 1) := by decide +kernel
theorem d_Mo_letters_29 : decode M_Mo_letters.2.1 29 = .ok (.iload_n 1, 1) := by decide +kernel
theorem d_Mo_letters_30 : decode M_Mo_letters.2.1 30 = .ok (.isub, 1) := by decide +kernel
theorem d_Mo_letters_31 : decode M_Mo_letters.2.1 31 = .ok (.ireturn, 1) := by decide +kernel
theorem d_Mo_letters_10 : decode M_Mo_letters.2.1 10 = .ok (.aload_n 0, 1) := by decide +kernel
theorem d_Mo_letters_11 : decode M_Mo_letters.2.1 11 = .ok (.getfield 7, 3) := by decide +kernel
theorem d_Mo_letters_14 : decode M_Mo_letters.2.1 14 = .ok (.iload_n 2, 1) := by decide +kernel
theorem d_Mo_letters_15 : decode M_Mo_letters.2.1 15 = .ok (.iaload, 1) := by decide +kernel
theorem d_Mo_letters_16 : decode M_Mo_letters.2.1 16 = .ok (.invokestatic 127, 3) := by decide +kernel
theorem xw_1341 : (Jvm.Cond.code ({ cls := "MarkerTextModel", name := "isLetter", desc := "(I)Z" } : Jvm.MethodName) prog_13_method_6_code (1 : Nat) (Option.some Jvm.ClassFile.FieldType.boolean)) ∈ xT := xT_at 1341 (by decide +kernel) (by decide +kernel)
theorem xcb_Mo_isLetter : xcb M_Mo_isLetter 1 := ⟨xw_1341, xw_8, by decide, by decide, by decide, by decide +kernel⟩
theorem xw_1339 : (Jvm.Cond.methodLink "MarkerTextModel" (127 : Nat) ({ cls := "MarkerTextModel", name := "isLetter", desc := "(I)Z" } : Jvm.MethodName)) ∈ xT := xT_at 1339 (by decide +kernel) (by decide +kernel)
theorem xw_1340 : (Jvm.Cond.static ({ cls := "MarkerTextModel", name := "isLetter", desc := "(I)Z" } : Jvm.MethodName)) ∈ xT := xT_at 1340 (by decide +kernel) (by decide +kernel)
theorem xcs_Mo_127 : xCS "MarkerTextModel" 127 M_Mo_isLetter 1 := ⟨xcb_Mo_isLetter, xw_1340, Or.inl xw_1339⟩
theorem d_Mo_letters_19 : decode M_Mo_letters.2.1 19 = .ok (.ifCond .eq 9, 3) := by decide +kernel
theorem d_Mo_letters_22 : decode M_Mo_letters.2.1 22 = .ok (.iinc 2 1, 3) := by decide +kernel
theorem d_Mo_letters_25 : decode M_Mo_letters.2.1 25 = .ok (.goto (-23), 3) := by decide +kernel
theorem d_Mo_letters_0 : decode M_Mo_letters.2.1 0 = .ok (.iload_n 1, 1) := by decide +kernel
theorem d_Mo_letters_1 : decode M_Mo_letters.2.1 1 = .ok (.istore_n 2, 1) := by decide +kernel
abbrev y_Mo_word : MethodName := ⟨"MarkerTextModel", "word", "(II)J"⟩
abbrev M_Mo_word : XMt := (y_Mo_word, prog_13_method_9_code, 6, (some .long))
theorem d_Mo_word_17 : decode M_Mo_word.2.1 17 = .ok (.iload 5, 2) := by decide +kernel
theorem d_Mo_word_19 : decode M_Mo_word.2.1 19 = .ok (.iload_n 2, 1) := by decide +kernel
theorem d_Mo_word_20 : decode M_Mo_word.2.1 20 = .ok (.if_icmp .ge 35, 3) := by decide +kernel
theorem d_Mo_word_55 : decode M_Mo_word.2.1 55 = .ok (.lload_n 3, 1) := by decide +kernel
theorem d_Mo_word_56 : decode M_Mo_word.2.1 56 = .ok (.lreturn, 1) := by decide +kernel
theorem d_Mo_word_23 : decode M_Mo_word.2.1 23 = .ok (.iload_n 2, 1) := by decide +kernel
theorem d_Mo_word_24 : decode M_Mo_word.2.1 24 = .ok (.bipush 9, 2) := by decide +kernel
theorem d_Mo_word_26 : decode M_Mo_word.2.1 26 = .ok (.if_icmp .ge 29, 3) := by decide +kernel
theorem d_Mo_word_29 : decode M_Mo_word.2.1 29 = .ok (.ldc2_w 133, 3) := by decide +kernel
theorem xw_1347 : (Jvm.Cond.constantLong "MarkerTextModel" (133 : Nat) (32 : Int64)) ∈ xT := xT_at 1347 (by decide +kernel) (by decide +kernel)
theorem d_Mo_word_32 : decode M_Mo_word.2.1 32 = .ok (.lload_n 3, 1) := by decide +kernel
theorem d_Mo_word_33 : decode M_Mo_word.2.1 33 = .ok (.lmul, 1) := by decide +kernel
theorem d_Mo_word_34 : decode M_Mo_word.2.1 34 = .ok (.aload_n 0, 1) := by decide +kernel
theorem d_Mo_word_35 : decode M_Mo_word.2.1 35 = .ok (.getfield 7, 3) := by decide +kernel
theorem d_Mo_word_38 : decode M_Mo_word.2.1 38 = .ok (.iload_n 1, 1) := by decide +kernel
theorem d_Mo_word_39 : decode M_Mo_word.2.1 39 = .ok (.iload 5, 2) := by decide +kernel
theorem d_Mo_word_41 : decode M_Mo_word.2.1 41 = .ok (.iadd, 1) := by decide +kernel
theorem d_Mo_word_42 : decode M_Mo_word.2.1 42 = .ok (.iaload, 1) := by decide +kernel
theorem d_Mo_word_43 : decode M_Mo_word.2.1 43 = .ok (.bipush 96, 2) := by decide +kernel
theorem d_Mo_word_45 : decode M_Mo_word.2.1 45 = .ok (.isub, 1) := by decide +kernel
theorem d_Mo_word_46 : decode M_Mo_word.2.1 46 = .ok (.i2l, 1) := by decide +kernel
theorem d_Mo_word_47 : decode M_Mo_word.2.1 47 = .ok (.ladd, 1) := by decide +kernel
theorem d_Mo_word_48 : decode M_Mo_word.2.1 48 = .ok (.lstore_n 3, 1) := by decide +kernel
theorem d_Mo_word_49 : decode M_Mo_word.2.1 49 = .ok (.iinc 5 1, 3) := by decide +kernel
theorem d_Mo_word_52 : decode M_Mo_word.2.1 52 = .ok (.goto (-35), 3) := by decide +kernel
theorem d_Mo_word_0 : decode M_Mo_word.2.1 0 = .ok (.iload_n 2, 1) := by decide +kernel
theorem d_Mo_word_1 : decode M_Mo_word.2.1 1 = .ok (.bipush 8, 2) := by decide +kernel
theorem d_Mo_word_3 : decode M_Mo_word.2.1 3 = .ok (.if_icmp .le 9, 3) := by decide +kernel
theorem d_Mo_word_12 : decode M_Mo_word.2.1 12 = .ok (.lconst 0, 1) := by decide +kernel
theorem d_Mo_word_13 : decode M_Mo_word.2.1 13 = .ok (.lstore_n 3, 1) := by decide +kernel
theorem d_Mo_word_14 : decode M_Mo_word.2.1 14 = .ok (.iconst 0, 1) := by decide +kernel
theorem d_Mo_word_15 : decode M_Mo_word.2.1 15 = .ok (.istore 5, 2) := by decide +kernel
theorem d_Mo_word_6 : decode M_Mo_word.2.1 6 = .ok (.ldc2_w 131, 3) := by decide +kernel
theorem xw_1346 : (Jvm.Cond.constantLong "MarkerTextModel" (131 : Nat) (-1 : Int64)) ∈ xT := xT_at 1346 (by decide +kernel) (by decide +kernel)
theorem d_Mo_word_9 : decode M_Mo_word.2.1 9 = .ok (.goto 4, 3) := by decide +kernel
abbrev y_Mo_meaning : MethodName := ⟨"MarkerTextModel", "meaning", "(J)I"⟩
abbrev M_Mo_meaning : XMt := (y_Mo_meaning, prog_13_method_10_code, 8, (some .int))
theorem d_Mo_meaning_79 : decode M_Mo_meaning.2.1 79 = .ok (.iload 4, 2) := by decide +kernel
theorem d_Mo_meaning_81 : decode M_Mo_meaning.2.1 81 = .ok (.aload_n 0, 1) := by decide +kernel
theorem d_Mo_meaning_82 : decode M_Mo_meaning.2.1 82 = .ok (.getfield 147, 3) := by decide +kernel
theorem d_Mo_meaning_85 : decode M_Mo_meaning.2.1 85 = .ok (.if_icmp .ge 76, 3) := by decide +kernel
theorem d_Mo_meaning_161 : decode M_Mo_meaning.2.1 161 = .ok (.iload_n 3, 1) := by decide +kernel
theorem d_Mo_meaning_162 : decode M_Mo_meaning.2.1 162 = .ok (.ireturn, 1) := by decide +kernel
theorem d_Mo_meaning_94 : decode M_Mo_meaning.2.1 94 = .ok (.iload 7, 2) := by decide +kernel
theorem d_Mo_meaning_96 : decode M_Mo_meaning.2.1 96 = .ok (.aload_n 0, 1) := by decide +kernel
theorem d_Mo_meaning_97 : decode M_Mo_meaning.2.1 97 = .ok (.getfield 16, 3) := by decide +kernel
theorem d_Mo_meaning_100 : decode M_Mo_meaning.2.1 100 = .ok (.iload 4, 2) := by decide +kernel
theorem d_Mo_meaning_102 : decode M_Mo_meaning.2.1 102 = .ok (.iaload, 1) := by decide +kernel
theorem d_Mo_meaning_103 : decode M_Mo_meaning.2.1 103 = .ok (.if_icmp .ge 35, 3) := by decide +kernel
theorem d_Mo_meaning_138 : decode M_Mo_meaning.2.1 138 = .ok (.lload 5, 2) := by decide +kernel
theorem d_Mo_meaning_140 : decode M_Mo_meaning.2.1 140 = .ok (.lload_n 1, 1) := by decide +kernel
theorem d_Mo_meaning_141 : decode M_Mo_meaning.2.1 141 = .ok (.lcmp, 1) := by decide +kernel
theorem d_Mo_meaning_142 : decode M_Mo_meaning.2.1 142 = .ok (.ifCond .ne 11, 3) := by decide +kernel
theorem d_Mo_meaning_153 : decode M_Mo_meaning.2.1 153 = .ok (.iload_n 3, 1) := by decide +kernel
theorem d_Mo_meaning_154 : decode M_Mo_meaning.2.1 154 = .ok (.istore_n 3, 1) := by decide +kernel
theorem d_Mo_meaning_155 : decode M_Mo_meaning.2.1 155 = .ok (.iinc 4 1, 3) := by decide +kernel
theorem d_Mo_meaning_158 : decode M_Mo_meaning.2.1 158 = .ok (.goto (-79), 3) := by decide +kernel
theorem d_Mo_meaning_145 : decode M_Mo_meaning.2.1 145 = .ok (.iload 4, 2) := by decide +kernel
theorem d_Mo_meaning_147 : decode M_Mo_meaning.2.1 147 = .ok (.bipush 100, 2) := by decide +kernel
theorem d_Mo_meaning_149 : decode M_Mo_meaning.2.1 149 = .ok (.isub, 1) := by decide +kernel
theorem d_Mo_meaning_150 : decode M_Mo_meaning.2.1 150 = .ok (.goto 4, 3) := by decide +kernel
theorem d_Mo_meaning_106 : decode M_Mo_meaning.2.1 106 = .ok (.ldc2_w 133, 3) := by decide +kernel
theorem d_Mo_meaning_109 : decode M_Mo_meaning.2.1 109 = .ok (.lload 5, 2) := by decide +kernel
theorem d_Mo_meaning_111 : decode M_Mo_meaning.2.1 111 = .ok (.lmul, 1) := by decide +kernel
theorem d_Mo_meaning_112 : decode M_Mo_meaning.2.1 112 = .ok (.aload_n 0, 1) := by decide +kernel
theorem d_Mo_meaning_113 : decode M_Mo_meaning.2.1 113 = .ok (.getfield 13, 3) := by decide +kernel
theorem d_Mo_meaning_116 : decode M_Mo_meaning.2.1 116 = .ok (.bipush 8, 2) := by decide +kernel
theorem d_Mo_meaning_118 : decode M_Mo_meaning.2.1 118 = .ok (.iload 4, 2) := by decide +kernel
theorem d_Mo_meaning_120 : decode M_Mo_meaning.2.1 120 = .ok (.imul, 1) := by decide +kernel
theorem d_Mo_meaning_121 : decode M_Mo_meaning.2.1 121 = .ok (.iload 7, 2) := by decide +kernel
theorem d_Mo_meaning_123 : decode M_Mo_meaning.2.1 123 = .ok (.iadd, 1) := by decide +kernel
theorem d_Mo_meaning_124 : decode M_Mo_meaning.2.1 124 = .ok (.iaload, 1) := by decide +kernel
theorem d_Mo_meaning_125 : decode M_Mo_meaning.2.1 125 = .ok (.bipush 96, 2) := by decide +kernel
theorem d_Mo_meaning_127 : decode M_Mo_meaning.2.1 127 = .ok (.isub, 1) := by decide +kernel
theorem d_Mo_meaning_128 : decode M_Mo_meaning.2.1 128 = .ok (.i2l, 1) := by decide +kernel
theorem d_Mo_meaning_129 : decode M_Mo_meaning.2.1 129 = .ok (.ladd, 1) := by decide +kernel
theorem d_Mo_meaning_130 : decode M_Mo_meaning.2.1 130 = .ok (.lstore 5, 2) := by decide +kernel
theorem d_Mo_meaning_132 : decode M_Mo_meaning.2.1 132 = .ok (.iinc 7 1, 3) := by decide +kernel
theorem d_Mo_meaning_135 : decode M_Mo_meaning.2.1 135 = .ok (.goto (-41), 3) := by decide +kernel
theorem d_Mo_meaning_88 : decode M_Mo_meaning.2.1 88 = .ok (.lconst 0, 1) := by decide +kernel
theorem d_Mo_meaning_89 : decode M_Mo_meaning.2.1 89 = .ok (.lstore 5, 2) := by decide +kernel
theorem d_Mo_meaning_91 : decode M_Mo_meaning.2.1 91 = .ok (.iconst 0, 1) := by decide +kernel
theorem d_Mo_meaning_92 : decode M_Mo_meaning.2.1 92 = .ok (.istore 7, 2) := by decide +kernel
theorem d_Mo_meaning_0 : decode M_Mo_meaning.2.1 0 = .ok (.lload_n 1, 1) := by decide +kernel
theorem d_Mo_meaning_1 : decode M_Mo_meaning.2.1 1 = .ok (.ldc2_w 135, 3) := by decide +kernel
theorem xw_1352 : (Jvm.Cond.constantLong "MarkerTextModel" (135 : Nat) (498 : Int64)) ∈ xT := xT_at 1352 (by decide +kernel) (by decide +kernel)
theorem d_Mo_meaning_4 : decode M_Mo_meaning.2.1 4 = .ok (.lcmp, 1) := by decide +kernel
theorem d_Mo_meaning_5 : decode M_Mo_meaning.2.1 5 = .ok (.ifCond .ne 7, 3) := by decide +kernel
theorem d_Mo_meaning_12 : decode M_Mo_meaning.2.1 12 = .ok (.lload_n 1, 1) := by decide +kernel
theorem d_Mo_meaning_13 : decode M_Mo_meaning.2.1 13 = .ok (.ldc2_w 137, 3) := by decide +kernel
theorem xw_1353 : (Jvm.Cond.constantLong "MarkerTextModel" (137 : Nat) (1476 : Int64)) ∈ xT := xT_at 1353 (by decide +kernel) (by decide +kernel)
theorem d_Mo_meaning_16 : decode M_Mo_meaning.2.1 16 = .ok (.lcmp, 1) := by decide +kernel
theorem d_Mo_meaning_17 : decode M_Mo_meaning.2.1 17 = .ok (.ifCond .ne 7, 3) := by decide +kernel
theorem d_Mo_meaning_24 : decode M_Mo_meaning.2.1 24 = .ok (.lload_n 1, 1) := by decide +kernel
theorem d_Mo_meaning_25 : decode M_Mo_meaning.2.1 25 = .ok (.ldc2_w 139, 3) := by decide +kernel
theorem xw_1354 : (Jvm.Cond.constantLong "MarkerTextModel" (139 : Nat) (14836 : Int64)) ∈ xT := xT_at 1354 (by decide +kernel) (by decide +kernel)
theorem d_Mo_meaning_28 : decode M_Mo_meaning.2.1 28 = .ok (.lcmp, 1) := by decide +kernel
theorem d_Mo_meaning_29 : decode M_Mo_meaning.2.1 29 = .ok (.ifCond .ne 7, 3) := by decide +kernel
theorem d_Mo_meaning_36 : decode M_Mo_meaning.2.1 36 = .ok (.lload_n 1, 1) := by decide +kernel
theorem d_Mo_meaning_37 : decode M_Mo_meaning.2.1 37 = .ok (.ldc2_w 141, 3) := by decide +kernel
theorem xw_1355 : (Jvm.Cond.constantLong "MarkerTextModel" (141 : Nat) (302 : Int64)) ∈ xT := xT_at 1355 (by decide +kernel) (by decide +kernel)
theorem d_Mo_meaning_40 : decode M_Mo_meaning.2.1 40 = .ok (.lcmp, 1) := by decide +kernel
theorem d_Mo_meaning_41 : decode M_Mo_meaning.2.1 41 = .ok (.ifCond .ne 8, 3) := by decide +kernel
theorem d_Mo_meaning_49 : decode M_Mo_meaning.2.1 49 = .ok (.lload_n 1, 1) := by decide +kernel
theorem d_Mo_meaning_50 : decode M_Mo_meaning.2.1 50 = .ok (.ldc2_w 143, 3) := by decide +kernel
theorem xw_1356 : (Jvm.Cond.constantLong "MarkerTextModel" (143 : Nat) (674469 : Int64)) ∈ xT := xT_at 1356 (by decide +kernel) (by decide +kernel)
theorem d_Mo_meaning_53 : decode M_Mo_meaning.2.1 53 = .ok (.lcmp, 1) := by decide +kernel
theorem d_Mo_meaning_54 : decode M_Mo_meaning.2.1 54 = .ok (.ifCond .ne 7, 3) := by decide +kernel
theorem d_Mo_meaning_61 : decode M_Mo_meaning.2.1 61 = .ok (.lload_n 1, 1) := by decide +kernel
theorem d_Mo_meaning_62 : decode M_Mo_meaning.2.1 62 = .ok (.ldc2_w 145, 3) := by decide +kernel
theorem xw_1357 : (Jvm.Cond.constantLong "MarkerTextModel" (145 : Nat) (6337125 : Int64)) ∈ xT := xT_at 1357 (by decide +kernel) (by decide +kernel)
theorem d_Mo_meaning_65 : decode M_Mo_meaning.2.1 65 = .ok (.lcmp, 1) := by decide +kernel
theorem d_Mo_meaning_66 : decode M_Mo_meaning.2.1 66 = .ok (.ifCond .ne 8, 3) := by decide +kernel
theorem d_Mo_meaning_74 : decode M_Mo_meaning.2.1 74 = .ok (.iconst 0, 1) := by decide +kernel
theorem d_Mo_meaning_75 : decode M_Mo_meaning.2.1 75 = .ok (.istore_n 3, 1) := by decide +kernel
theorem d_Mo_meaning_76 : decode M_Mo_meaning.2.1 76 = .ok (.iconst 0, 1) := by decide +kernel
theorem d_Mo_meaning_77 : decode M_Mo_meaning.2.1 77 = .ok (.istore 4, 2) := by decide +kernel
theorem d_Mo_meaning_69 : decode M_Mo_meaning.2.1 69 = .ok (.bipush 6, 2) := by decide +kernel
theorem d_Mo_meaning_71 : decode M_Mo_meaning.2.1 71 = .ok (.goto 4, 3) := by decide +kernel
theorem d_Mo_meaning_57 : decode M_Mo_meaning.2.1 57 = .ok (.iconst 5, 1) := by decide +kernel
theorem d_Mo_meaning_58 : decode M_Mo_meaning.2.1 58 = .ok (.goto 17, 3) := by decide +kernel
theorem d_Mo_meaning_44 : decode M_Mo_meaning.2.1 44 = .ok (.bipush 7, 2) := by decide +kernel
theorem d_Mo_meaning_46 : decode M_Mo_meaning.2.1 46 = .ok (.goto 29, 3) := by decide +kernel
theorem d_Mo_meaning_32 : decode M_Mo_meaning.2.1 32 = .ok (.iconst 1, 1) := by decide +kernel
theorem d_Mo_meaning_33 : decode M_Mo_meaning.2.1 33 = .ok (.goto 42, 3) := by decide +kernel
theorem d_Mo_meaning_20 : decode M_Mo_meaning.2.1 20 = .ok (.iconst 2, 1) := by decide +kernel
theorem d_Mo_meaning_21 : decode M_Mo_meaning.2.1 21 = .ok (.goto 54, 3) := by decide +kernel
theorem d_Mo_meaning_8 : decode M_Mo_meaning.2.1 8 = .ok (.iconst 3, 1) := by decide +kernel
theorem d_Mo_meaning_9 : decode M_Mo_meaning.2.1 9 = .ok (.goto 66, 3) := by decide +kernel
end
section RF2
variable {l : Launch} {G : XG} {h : XH} {c n d : Nat} {o : Nat} {rf : Nat → Nat} {S : MS}
/-- nothing changes -/
def zP (h : XH) (c n : Nat) (Q : Option Value → Prop) : Option Value → XH → Nat → Nat → Prop := fun v h' c' n' => h' = h ∧ c' = c ∧ n' = n ∧ Q v
theorem fup_fup {α : Type} {f : Nat → α} {i : Nat} {a b : α} : fup (fup f i a) i b = fup f i b := by
  funext j
  unfold fup
  split <;> rfl
theorem fup_id {α : Type} {f : Nat → α} {i : Nat} : fup f i (f i) = f := by
  funext j
  unfold fup
  split
  · rename_i h
    rw [h]
  · rfl
theorem sp_sp {j : Nat} {a b : Int} : sp (sp S j a) j b = sp S j b := by
  show (fup (fup S.1 j a) j b, S.2) = _
  rw [fup_fup]
theorem sp_id {j : Nat} : sp S j (S.1 j) = S := by
  show (fup S.1 j (S.1 j), S.2) = _
  rw [fup_id]
theorem sa_sa {i : Nat} {a b : List Int} : sa (sa S i a) i b = sa S i b := by
  show (S.1, fup (fup S.2.1 i a) i b, S.2.2) = _
  rw [fup_fup]
theorem sa_id {i : Nat} : sa S i (S.2.1 i) = S := by
  show (S.1, fup S.2.1 i (S.2.1 i), S.2.2) = _
  rw [fup_id]
abbrev rBool (v : Option Value) (p : Prop) : Prop := ∃ r : Int, v = some (.int (zI r)) ∧ ((r = 1 ∧ p) ∨ (r = 0 ∧ ¬ p))
theorem r_in {v a b : Int} (hv : inR v) (ha : inR a) (hb : inR b) : XM l G d M_Mo_in [.int (zI v), .int (zI a), .int (zI b)] h c n (zP h c n (fun w => rBool w (a ≤ v ∧ v ≤ b))) := by
  refine XM.of (by decide +kernel) (Nat.le_of_ble_eq_true rfl) ?_
  refine x_iload_n d_Mo_in_0 rfl ?_
  refine x_iload_n d_Mo_in_1 rfl ?_
  refine z_icmp_lt (tgt := 14) d_Mo_in_2 (by decide) (by omega) (by omega) (fun hc2 => ?_) (fun hc2 => ?_)
  · refine x_iconst (v := zI 0) d_Mo_in_14 (by decide) ?_
    refine x_zret d_Mo_in_15 rfl (z_nb (by omega)) ?_
    exact ⟨rfl, rfl, rfl, 0, rfl, by omega⟩
  · refine x_iload_n d_Mo_in_5 rfl ?_
    refine x_iload_n d_Mo_in_6 rfl ?_
    refine z_icmp_gt (tgt := 14) d_Mo_in_7 (by decide) (by omega) (by omega) (fun hc7 => ?_) (fun hc7 => ?_)
    · refine x_iconst (v := zI 0) d_Mo_in_14 (by decide) ?_
      refine x_zret d_Mo_in_15 rfl (z_nb (by omega)) ?_
      exact ⟨rfl, rfl, rfl, 0, rfl, by omega⟩
    · refine x_iconst (v := zI 1) d_Mo_in_10 (by decide) ?_
      refine x_goto (tgt := 15) d_Mo_in_11 (by decide) ?_
      refine x_zret d_Mo_in_15 rfl (z_nb (by omega)) ?_
      exact ⟨rfl, rfl, rfl, 1, rfl, by omega⟩
theorem r_isLetter {v : Int} (hv : inR v) : XM l G d M_Mo_isLetter [.int (zI v)] h c n (zP h c n (fun w => rBool w (97 ≤ v ∧ v ≤ 122))) := by
  refine XM.of (by decide +kernel) (Nat.le_of_ble_eq_true rfl) ?_
  refine x_iload_n d_Mo_isLetter_0 rfl ?_
  refine x_bipush (v := zI 97) d_Mo_isLetter_1 (by decide) ?_
  refine z_icmp_lt (tgt := 16) d_Mo_isLetter_3 (by decide) (by omega) (by omega) (fun hc3 => ?_) (fun hc3 => ?_)
  · refine x_iconst (v := zI 0) d_Mo_isLetter_16 (by decide) ?_
    refine x_zret d_Mo_isLetter_17 rfl (z_nb (by omega)) ?_
    exact ⟨rfl, rfl, rfl, 0, rfl, by omega⟩
  · refine x_iload_n d_Mo_isLetter_6 rfl ?_
    refine x_bipush (v := zI 122) d_Mo_isLetter_7 (by decide) ?_
    refine z_icmp_gt (tgt := 16) d_Mo_isLetter_9 (by decide) (by omega) (by omega) (fun hc9 => ?_) (fun hc9 => ?_)
    · refine x_iconst (v := zI 0) d_Mo_isLetter_16 (by decide) ?_
      refine x_zret d_Mo_isLetter_17 rfl (z_nb (by omega)) ?_
      exact ⟨rfl, rfl, rfl, 0, rfl, by omega⟩
    · refine x_iconst (v := zI 1) d_Mo_isLetter_12 (by decide) ?_
      refine x_goto (tgt := 17) d_Mo_isLetter_13 (by decide) ?_
      refine x_zret d_Mo_isLetter_17 rfl (z_nb (by omega)) ?_
      exact ⟨rfl, rfl, rfl, 1, rfl, by omega⟩
theorem r_isDigit {v : Int} (hv : inR v) : XM l G d M_Mo_isDigit [.int (zI v)] h c n (zP h c n (fun w => rBool w (48 ≤ v ∧ v ≤ 57))) := by
  refine XM.of (by decide +kernel) (Nat.le_of_ble_eq_true rfl) ?_
  refine x_iload_n d_Mo_isDigit_0 rfl ?_
  refine x_bipush (v := zI 48) d_Mo_isDigit_1 (by decide) ?_
  refine z_icmp_lt (tgt := 16) d_Mo_isDigit_3 (by decide) (by omega) (by omega) (fun hc3 => ?_) (fun hc3 => ?_)
  · refine x_iconst (v := zI 0) d_Mo_isDigit_16 (by decide) ?_
    refine x_zret d_Mo_isDigit_17 rfl (z_nb (by omega)) ?_
    exact ⟨rfl, rfl, rfl, 0, rfl, by omega⟩
  · refine x_iload_n d_Mo_isDigit_6 rfl ?_
    refine x_bipush (v := zI 57) d_Mo_isDigit_7 (by decide) ?_
    refine z_icmp_gt (tgt := 16) d_Mo_isDigit_9 (by decide) (by omega) (by omega) (fun hc9 => ?_) (fun hc9 => ?_)
    · refine x_iconst (v := zI 0) d_Mo_isDigit_16 (by decide) ?_
      refine x_zret d_Mo_isDigit_17 rfl (z_nb (by omega)) ?_
      exact ⟨rfl, rfl, rfl, 0, rfl, by omega⟩
    · refine x_iconst (v := zI 1) d_Mo_isDigit_12 (by decide) ?_
      refine x_goto (tgt := 17) d_Mo_isDigit_13 (by decide) ?_
      refine x_zret d_Mo_isDigit_17 rfl (z_nb (by omega)) ?_
      exact ⟨rfl, rfl, rfl, 1, rfl, by omega⟩
theorem r_fails {a b : Int} (ha : inR a) (hb : inR b) : RM l G d M_Mo_fails [.ref o, .int (zI a), .int (zI b)] o rf S (fun v S' => ∃ t r : Int, S' = sp S 0 t ∧ v = some (.int (zI r)) ∧ ((r = 1 ∧ t = 1 ∧ a ≠ 0) ∨ (r = 1 ∧ t = 2 ∧ a = 0 ∧ b ≠ 0) ∨ (r = 0 ∧ t = 0 ∧ a = 0 ∧ b = 0))) := by
  intro H0 c n hR
  refine XM.of (by decide +kernel) (Nat.le_of_ble_eq_true rfl) ?_
  have hX : xonly H0 H0 RKs := xonly.rf
  refine x_aload_n d_Mo_fails_0 rfl rfl ?_
  refine x_iload_n d_Mo_fails_1 rfl ?_
  refine z_if_eq (tgt := 9) d_Mo_fails_2 (by decide) (by omega) (fun hc2 => ?_) (fun hc2 => ?_)
  · refine x_iload_n d_Mo_fails_9 rfl ?_
    refine z_if_eq (tgt := 17) d_Mo_fails_10 (by decide) (by omega) (fun hc10 => ?_) (fun hc10 => ?_)
    · refine x_iconst (v := zI 0) d_Mo_fails_17 (by decide) ?_
      refine r_put xf_Mo_121_Mo xp_Mo_0 hR hX (by omega) rfl rfl d_Mo_fails_18 ?_
      intro h hR hX
      refine x_aload_n d_Mo_fails_21 rfl rfl ?_
      refine x_get xf_Mo_121_Mo (Or.inl hR.1) (v := .int (zI 0)) rfl d_Mo_fails_22 ?_
      have hb22 : inR 0 := hR.2.2.2 0
      refine z_if_le (tgt := 32) d_Mo_fails_25 (by decide) (by omega) (fun hc25 => ?_) (fun hc25 => ?_)
      · refine x_iconst (v := zI 0) d_Mo_fails_32 (by decide) ?_
        refine x_zret d_Mo_fails_33 rfl (z_nb (by omega)) ?_
        exact ⟨_, hR, hX, rfl, rfl, _, _, rfl, rfl, by omega⟩
      · refine x_iconst (v := zI 1) d_Mo_fails_28 (by decide) ?_
        refine x_goto (tgt := 33) d_Mo_fails_29 (by decide) ?_
        refine x_zret d_Mo_fails_33 rfl (z_nb (by omega)) ?_
        exact ⟨_, hR, hX, rfl, rfl, _, _, rfl, rfl, by omega⟩
    · refine x_iconst (v := zI 2) d_Mo_fails_13 (by decide) ?_
      refine x_goto (tgt := 18) d_Mo_fails_14 (by decide) ?_
      refine r_put xf_Mo_121_Mo xp_Mo_0 hR hX (by omega) rfl rfl d_Mo_fails_18 ?_
      intro h hR hX
      refine x_aload_n d_Mo_fails_21 rfl rfl ?_
      refine x_get xf_Mo_121_Mo (Or.inl hR.1) (v := .int (zI 2)) rfl d_Mo_fails_22 ?_
      have hb22 : inR 2 := hR.2.2.2 0
      refine z_if_le (tgt := 32) d_Mo_fails_25 (by decide) (by omega) (fun hc25 => ?_) (fun hc25 => ?_)
      · refine x_iconst (v := zI 0) d_Mo_fails_32 (by decide) ?_
        refine x_zret d_Mo_fails_33 rfl (z_nb (by omega)) ?_
        exact ⟨_, hR, hX, rfl, rfl, _, _, rfl, rfl, by omega⟩
      · refine x_iconst (v := zI 1) d_Mo_fails_28 (by decide) ?_
        refine x_goto (tgt := 33) d_Mo_fails_29 (by decide) ?_
        refine x_zret d_Mo_fails_33 rfl (z_nb (by omega)) ?_
        exact ⟨_, hR, hX, rfl, rfl, _, _, rfl, rfl, by omega⟩
  · refine x_iconst (v := zI 1) d_Mo_fails_5 (by decide) ?_
    refine x_goto (tgt := 18) d_Mo_fails_6 (by decide) ?_
    refine r_put xf_Mo_121_Mo xp_Mo_0 hR hX (by omega) rfl rfl d_Mo_fails_18 ?_
    intro h hR hX
    refine x_aload_n d_Mo_fails_21 rfl rfl ?_
    refine x_get xf_Mo_121_Mo (Or.inl hR.1) (v := .int (zI 1)) rfl d_Mo_fails_22 ?_
    have hb22 : inR 1 := hR.2.2.2 0
    refine z_if_le (tgt := 32) d_Mo_fails_25 (by decide) (by omega) (fun hc25 => ?_) (fun hc25 => ?_)
    · refine x_iconst (v := zI 0) d_Mo_fails_32 (by decide) ?_
      refine x_zret d_Mo_fails_33 rfl (z_nb (by omega)) ?_
      exact ⟨_, hR, hX, rfl, rfl, _, _, rfl, rfl, by omega⟩
    · refine x_iconst (v := zI 1) d_Mo_fails_28 (by decide) ?_
      refine x_goto (tgt := 33) d_Mo_fails_29 (by decide) ?_
      refine x_zret d_Mo_fails_33 rfl (z_nb (by omega)) ?_
      exact ⟨_, hR, hX, rfl, rfl, _, _, rfl, rfl, by omega⟩
theorem r_place : RM l G d M_Mo_place [.ref o] o rf S (fun v S' => S' = sp S 0 0 ∧ v = some (.int (zI (S.1 30)))) := by
  intro H0 c n hR
  refine XM.of (by decide +kernel) (Nat.le_of_ble_eq_true rfl) ?_
  have hX : xonly H0 H0 RKs := xonly.rf
  refine x_aload_n d_Mo_place_0 rfl rfl ?_
  refine x_iconst (v := zI 0) d_Mo_place_1 (by decide) ?_
  refine r_put xf_Mo_121_Mo xp_Mo_0 hR hX (by omega) rfl rfl d_Mo_place_2 ?_
  intro h hR hX
  refine x_aload_n d_Mo_place_5 rfl rfl ?_
  refine x_get xf_Mo_81_Mo (Or.inl hR.1) (v := .int (zI (S.1 30))) rfl d_Mo_place_6 ?_
  have hb6 : inR (S.1 30) := hR.2.2.2 30
  refine x_iret d_Mo_place_9 rfl ?_
  exact ⟨_, hR, hX, rfl, rfl, rfl, rfl⟩
/-- the bounds of TEXT -/
def szOk (S : MS) : Prop := 0 ≤ S.1 2 ∧ S.1 2 ≤ 160
theorem r_type {v : Int} (hv : inR v) (hz : szOk S) : RM l G d M_Mo_type [.ref o, .int (zI v)] o rf S (fun w S' => (w = some (.int (zI 1)) ∧ (32 ≤ v ∧ v ≤ 126 ∧ S.1 2 < 160) ∧ S' = sp (sa (sp S 0 0) 1 (se (S.2.1 1) (S.1 2) v)) 2 (S.1 2 + 1)) ∨ (w = some (.int (zI 0)) ∧ ¬ (32 ≤ v ∧ v ≤ 126 ∧ S.1 2 < 160) ∧ S' = sp S 0 0)) := by
  intro H0 c n hR
  obtain ⟨z1, z2⟩ := hz
  refine XM.of (by decide +kernel) (Nat.le_of_ble_eq_true rfl) ?_
  have hX : xonly H0 H0 RKs := xonly.rf
  refine x_aload_n d_Mo_type_0 rfl rfl ?_
  refine x_iconst (v := zI 0) d_Mo_type_1 (by decide) ?_
  refine r_put xf_Mo_121_Mo xp_Mo_0 hR hX (by omega) rfl rfl d_Mo_type_2 ?_
  intro h hR hX
  refine x_iload_n d_Mo_type_5 rfl ?_
  refine x_bipush (v := zI 32) d_Mo_type_6 (by decide) ?_
  refine z_icmp_lt (tgt := 27) d_Mo_type_8 (by decide) (by omega) (by omega) (fun hc8 => ?_) (fun hc8 => ?_)
  · refine x_iconst (v := zI 0) d_Mo_type_27 (by decide) ?_
    refine x_zret d_Mo_type_28 rfl (z_nb (by omega)) ?_
    exact ⟨_, hR, hX, rfl, rfl, Or.inr ⟨rfl, by omega, rfl⟩⟩
  · refine x_iload_n d_Mo_type_11 rfl ?_
    refine x_bipush (v := zI 126) d_Mo_type_12 (by decide) ?_
    refine z_icmp_gt (tgt := 27) d_Mo_type_14 (by decide) (by omega) (by omega) (fun hc14 => ?_) (fun hc14 => ?_)
    · refine x_iconst (v := zI 0) d_Mo_type_27 (by decide) ?_
      refine x_zret d_Mo_type_28 rfl (z_nb (by omega)) ?_
      exact ⟨_, hR, hX, rfl, rfl, Or.inr ⟨rfl, by omega, rfl⟩⟩
    · refine x_aload_n d_Mo_type_17 rfl rfl ?_
      refine x_get xf_Mo_124_Mo (Or.inl hR.1) (v := .int (zI (S.1 2))) rfl d_Mo_type_18 ?_
      have hb18 : inR (S.1 2) := hR.2.2.2 2
      refine x_sipush (v := zI 160) d_Mo_type_21 (by decide) ?_
      refine z_icmp_ne (tgt := 29) d_Mo_type_24 (by decide) (by omega) (by omega) (fun hc24 => ?_) (fun hc24 => ?_)
      · refine x_aload_n d_Mo_type_29 rfl rfl ?_
        refine x_get xf_Mo_7_Mo (Or.inl hR.1) (v := .ref (rf 1)) rfl d_Mo_type_30 ?_
        refine x_aload_n d_Mo_type_33 rfl rfl ?_
        refine x_get xf_Mo_124_Mo (Or.inl hR.1) (v := .int (zI (S.1 2))) rfl d_Mo_type_34 ?_
        have hb34 : inR (S.1 2) := hR.2.2.2 2
        refine x_iload_n d_Mo_type_37 rfl ?_
        refine r_iast (i := 1) (us := (S.2.1 1)) ⟨rfl, rfl⟩ (by decide) hR hX rfl (by omega) (by show S.1 2 < 160; omega) (by omega) d_Mo_type_38 ?_
        intro h hR hX
        refine x_aload_n d_Mo_type_39 rfl rfl ?_
        refine x_dup d_Mo_type_40 rfl ?_
        refine x_get xf_Mo_124_Mo (Or.inl hR.1) (v := .int (zI (S.1 2))) rfl d_Mo_type_41 ?_
        have hb41 : inR (S.1 2) := hR.2.2.2 2
        refine x_iconst (v := zI 1) d_Mo_type_44 (by decide) ?_
        refine z_iadd d_Mo_type_45 ?_
        refine r_put xf_Mo_124_Mo xp_Mo_2 hR hX (by omega) rfl rfl d_Mo_type_46 ?_
        intro h hR hX
        refine x_iconst (v := zI 1) d_Mo_type_49 (by decide) ?_
        refine x_zret d_Mo_type_50 rfl (z_nb (by omega)) ?_
        exact ⟨_, hR, hX, rfl, rfl, Or.inl ⟨rfl, by omega, rfl⟩⟩
      · refine x_iconst (v := zI 0) d_Mo_type_27 (by decide) ?_
        refine x_zret d_Mo_type_28 rfl (z_nb (by omega)) ?_
        exact ⟨_, hR, hX, rfl, rfl, Or.inr ⟨rfl, by omega, rfl⟩⟩
theorem r_isName {v : Int} (hd : 1 ≤ d) (hv : inR v) (hn : 0 ≤ S.1 3) : RM l G d M_Mo_isName [.ref o, .int (zI v)] o rf S (fun w S' => S' = S ∧ rBool w (0 ≤ v ∧ v ≤ S.1 3 - 1)) := by
  obtain ⟨d, rfl⟩ : ∃ q, d = q + 1 := ⟨d - 1, by omega⟩
  intro H0 c n hR
  refine XM.of (by decide +kernel) (Nat.le_of_ble_eq_true rfl) ?_
  have hX : xonly H0 H0 RKs := xonly.rf
  refine x_iload_n d_Mo_isName_0 rfl ?_
  refine x_iconst (v := zI 0) d_Mo_isName_1 (by decide) ?_
  refine x_aload_n d_Mo_isName_2 rfl rfl ?_
  refine x_get xf_Mo_147_Mo (Or.inl hR.1) (v := .int (zI (S.1 3))) rfl d_Mo_isName_3 ?_
  have hb3 : inR (S.1 3) := hR.2.2.2 3
  refine x_iconst (v := zI 1) d_Mo_isName_6 (by decide) ?_
  refine z_isub d_Mo_isName_7 ?_
  refine x_callS (As := [_, _, _]) xcs_Mo_150 (r_in hv (by decide) (by omega)) rfl rfl (Nat.le_of_ble_eq_true rfl) d_Mo_isName_8 ?_
  rintro v8 h cq nq ⟨rfl, rfl, rfl, r8, rfl, hr8⟩
  refine x_zret d_Mo_isName_11 rfl (z_nb (by omega)) ?_
  exact ⟨_, hR, hX, rfl, rfl, rfl, _, rfl, hr8⟩
theorem r_isCondition {v : Int} (hd : 1 ≤ d) (hv : inR v) (hn : 0 ≤ S.1 11) : RM l G d M_Mo_isCondition [.ref o, .int (zI v)] o rf S (fun w S' => S' = S ∧ rBool w (0 ≤ v ∧ v ≤ S.1 11 - 1)) := by
  obtain ⟨d, rfl⟩ : ∃ q, d = q + 1 := ⟨d - 1, by omega⟩
  intro H0 c n hR
  refine XM.of (by decide +kernel) (Nat.le_of_ble_eq_true rfl) ?_
  have hX : xonly H0 H0 RKs := xonly.rf
  refine x_iload_n d_Mo_isCondition_0 rfl ?_
  refine x_iconst (v := zI 0) d_Mo_isCondition_1 (by decide) ?_
  refine x_aload_n d_Mo_isCondition_2 rfl rfl ?_
  refine x_get xf_Mo_268_Mo (Or.inl hR.1) (v := .int (zI (S.1 11))) rfl d_Mo_isCondition_3 ?_
  have hb3 : inR (S.1 11) := hR.2.2.2 11
  refine x_iconst (v := zI 1) d_Mo_isCondition_6 (by decide) ?_
  refine z_isub d_Mo_isCondition_7 ?_
  refine x_callS (As := [_, _, _]) xcs_Mo_150 (r_in hv (by decide) (by omega)) rfl rfl (Nat.le_of_ble_eq_true rfl) d_Mo_isCondition_8 ?_
  rintro v8 h cq nq ⟨rfl, rfl, rfl, r8, rfl, hr8⟩
  refine x_zret d_Mo_isCondition_11 rfl (z_nb (by omega)) ?_
  exact ⟨_, hR, hX, rfl, rfl, rfl, _, rfl, hr8⟩
theorem r_fault {v : Int} (hv : inR v) : RM l G d M_Mo_fault [.ref o, .int (zI v)] o rf S (fun w S' => ∃ a : Int, S' = sp S 29 a ∧ w = none ∧ ((S.1 29 < 0 ∧ a = v) ∨ (0 ≤ S.1 29 ∧ a = S.1 29))) := by
  intro H0 c n hR
  refine XM.of (by decide +kernel) (Nat.le_of_ble_eq_true rfl) ?_
  have hX : xonly H0 H0 RKs := xonly.rf
  refine x_aload_n d_Mo_fault_0 rfl rfl ?_
  refine x_aload_n d_Mo_fault_1 rfl rfl ?_
  refine x_get xf_Mo_190_Mo (Or.inl hR.1) (v := .int (zI (S.1 29))) rfl d_Mo_fault_2 ?_
  have hb2 : inR (S.1 29) := hR.2.2.2 29
  refine z_if_ge (tgt := 12) d_Mo_fault_5 (by decide) (by omega) (fun hc5 => ?_) (fun hc5 => ?_)
  · refine x_aload_n d_Mo_fault_12 rfl rfl ?_
    refine x_get xf_Mo_190_Mo (Or.inl hR.1) (v := .int (zI (S.1 29))) rfl d_Mo_fault_13 ?_
    have hb13 : inR (S.1 29) := hR.2.2.2 29
    refine r_put xf_Mo_190_Mo xp_Mo_29 hR hX (by omega) rfl rfl d_Mo_fault_16 ?_
    intro h hR hX
    refine x_vret d_Mo_fault_19 rfl ?_
    exact ⟨_, hR, hX, rfl, rfl, _, rfl, rfl, by omega⟩
  · refine x_iload_n d_Mo_fault_8 rfl ?_
    refine x_goto (tgt := 16) d_Mo_fault_9 (by decide) ?_
    refine r_put xf_Mo_190_Mo xp_Mo_29 hR hX (by omega) rfl rfl d_Mo_fault_16 ?_
    intro h hR hX
    refine x_vret d_Mo_fault_19 rfl ?_
    exact ⟨_, hR, hX, rfl, rfl, _, rfl, rfl, by omega⟩
theorem r_now (h0 : 0 ≤ S.1 27) (hz : szOk S) : RM l G d M_Mo_now [.ref o] o rf S (fun w S' => S' = S ∧ ∃ r : Int, w = some (.int (zI r)) ∧ inR r ∧ ((S.1 27 < S.1 2 ∧ r = gd (S.2.1 1) (S.1 27)) ∨ (S.1 2 ≤ S.1 27 ∧ r = -1))) := by
  intro H0 c n hR
  obtain ⟨z1, z2⟩ := hz
  refine XM.of (by decide +kernel) (Nat.le_of_ble_eq_true rfl) ?_
  have hX : xonly H0 H0 RKs := xonly.rf
  refine x_aload_n d_Mo_now_0 rfl rfl ?_
  refine x_get xf_Mo_193_Mo (Or.inl hR.1) (v := .int (zI (S.1 27))) rfl d_Mo_now_1 ?_
  have hb1 : inR (S.1 27) := hR.2.2.2 27
  refine x_aload_n d_Mo_now_4 rfl rfl ?_
  refine x_get xf_Mo_124_Mo (Or.inl hR.1) (v := .int (zI (S.1 2))) rfl d_Mo_now_5 ?_
  have hb5 : inR (S.1 2) := hR.2.2.2 2
  refine z_icmp_ge (tgt := 23) d_Mo_now_8 (by decide) (by omega) (by omega) (fun hc8 => ?_) (fun hc8 => ?_)
  · refine x_iconst (v := zI (-1)) d_Mo_now_23 (by decide) ?_
    refine x_iret d_Mo_now_24 rfl ?_
    exact ⟨_, hR, hX, rfl, rfl, rfl, _, rfl, by omega, by omega⟩
  · refine x_aload_n d_Mo_now_11 rfl rfl ?_
    refine x_get xf_Mo_7_Mo (Or.inl hR.1) (v := .ref (rf 1)) rfl d_Mo_now_12 ?_
    refine x_aload_n d_Mo_now_15 rfl rfl ?_
    refine x_get xf_Mo_193_Mo (Or.inl hR.1) (v := .int (zI (S.1 27))) rfl d_Mo_now_16 ?_
    have hb16 : inR (S.1 27) := hR.2.2.2 27
    refine r_iald (i := 1) (us := (S.2.1 1)) rfl (by decide) hR rfl (by omega) (by show S.1 27 < 160; omega) d_Mo_now_19 (fun hr19 => ?_)
    refine x_goto (tgt := 24) d_Mo_now_20 (by decide) ?_
    refine x_iret d_Mo_now_24 rfl ?_
    exact ⟨_, hR, hX, rfl, rfl, rfl, _, rfl, by omega, by omega⟩
theorem r_skip (h0 : 0 ≤ S.1 27) (hz : szOk S) : RM l G d M_Mo_skip [.ref o] o rf S (fun w S' => ∃ a : Int, S' = sp S 27 a ∧ w = none ∧ S.1 27 ≤ a ∧ (S.1 27 ≤ S.1 2 → a ≤ S.1 2) ∧ (S.1 2 < S.1 27 → a = S.1 27)) := by
  intro H0 c n hR
  obtain ⟨z1, z2⟩ := hz
  refine XM.of (by decide +kernel) (Nat.le_of_ble_eq_true rfl) ?_
  have lp : ∀ (k : Nat) (a : Int), S.1 27 ≤ a → (S.1 27 ≤ S.1 2 → a ≤ S.1 2) → (S.1 2 < S.1 27 → a = S.1 27) → S.1 2 - a ≤ k → RX l G M_Mo_skip d 0 [some (.ref o)] [] H0 o rf c n (sp S 27 a) (fun w S' => ∃ a : Int, S' = sp S 27 a ∧ w = none ∧ S.1 27 ≤ a ∧ (S.1 27 ≤ S.1 2 → a ≤ S.1 2) ∧ (S.1 2 < S.1 27 → a = S.1 27)) := by
    intro k
    induction k with
    | zero =>
      intro a h1 h2 h3 hk h hR hX
      refine x_aload_n d_Mo_skip_0 rfl rfl ?_
      refine x_get xf_Mo_193_Mo (Or.inl hR.1) (v := .int (zI a)) rfl d_Mo_skip_1 ?_
      have hb1 : inR a := hR.2.2.2 27
      refine x_aload_n d_Mo_skip_4 rfl rfl ?_
      refine x_get xf_Mo_124_Mo (Or.inl hR.1) (v := .int (zI (S.1 2))) rfl d_Mo_skip_5 ?_
      have hb5 : inR (S.1 2) := hR.2.2.2 2
      refine z_icmp_ge (tgt := 38) d_Mo_skip_8 (by decide) (by omega) (by omega) (fun _ => ?_) (fun hq => by omega)
      refine x_vret d_Mo_skip_38 rfl ?_
      exact ⟨_, hR, hX, rfl, rfl, _, rfl, rfl, by omega, by omega, by omega⟩
    | succ k ih =>
      intro a h1 h2 h3 hk h hR hX
      refine x_aload_n d_Mo_skip_0 rfl rfl ?_
      refine x_get xf_Mo_193_Mo (Or.inl hR.1) (v := .int (zI a)) rfl d_Mo_skip_1 ?_
      have hb1 : inR a := hR.2.2.2 27
      refine x_aload_n d_Mo_skip_4 rfl rfl ?_
      refine x_get xf_Mo_124_Mo (Or.inl hR.1) (v := .int (zI (S.1 2))) rfl d_Mo_skip_5 ?_
      have hb5 : inR (S.1 2) := hR.2.2.2 2
      refine z_icmp_ge (tgt := 38) d_Mo_skip_8 (by decide) (by omega) (by omega) (fun hc8 => ?_) (fun hc8 => ?_)
      · refine x_vret d_Mo_skip_38 rfl ?_
        exact ⟨_, hR, hX, rfl, rfl, _, rfl, rfl, by omega, by omega, by omega⟩
      · refine x_aload_n d_Mo_skip_11 rfl rfl ?_
        refine x_get xf_Mo_7_Mo (Or.inl hR.1) (v := .ref (rf 1)) rfl d_Mo_skip_12 ?_
        refine x_aload_n d_Mo_skip_15 rfl rfl ?_
        refine x_get xf_Mo_193_Mo (Or.inl hR.1) (v := .int (zI a)) rfl d_Mo_skip_16 ?_
        have hb16 : inR a := hR.2.2.2 27
        refine r_iald (i := 1) (us := (S.2.1 1)) rfl (by decide) hR rfl (by omega) (by show a < 160; omega) d_Mo_skip_19 (fun hr19 => ?_)
        refine x_bipush (v := zI 32) d_Mo_skip_20 (by decide) ?_
        refine z_icmp_ne (tgt := 38) d_Mo_skip_22 (by decide) (by omega) (by omega) (fun hc22 => ?_) (fun hc22 => ?_)
        · refine x_vret d_Mo_skip_38 rfl ?_
          exact ⟨_, hR, hX, rfl, rfl, _, rfl, rfl, by omega, by omega, by omega⟩
        · refine x_aload_n d_Mo_skip_25 rfl rfl ?_
          refine x_dup d_Mo_skip_26 rfl ?_
          refine x_get xf_Mo_193_Mo (Or.inl hR.1) (v := .int (zI a)) rfl d_Mo_skip_27 ?_
          have hb27 : inR a := hR.2.2.2 27
          refine x_iconst (v := zI 1) d_Mo_skip_30 (by decide) ?_
          refine z_iadd d_Mo_skip_31 ?_
          refine r_put xf_Mo_193_Mo xp_Mo_27 hR hX (by omega) rfl rfl d_Mo_skip_32 ?_
          intro h hR hX
          refine x_goto (tgt := 0) d_Mo_skip_35 (by decide) ?_
          exact ih (a + 1) (by omega) (by omega) (by omega) (by omega) _ (by rw [sp_sp] at hR; exact hR) hX
  exact lp (S.1 2 - S.1 27).toNat (S.1 27) (by omega) (by omega) (by omega) (by omega) _ (by rw [sp_id]; exact hR) xonly.rf
/-- a long out of a number -/
abbrev zL (z : Int) : Int64 := Int64.ofInt z
theorem wd_step {z y : Int} (hy : inR y) : 32 * zL z + (zI y).toInt64 = zL (32 * z + y) := by
  have e : (zI y).toInt64 = zL y := by
    show Int64.ofInt (zI y).toInt = Int64.ofInt y
    rw [Int32.toInt_ofInt_of_le hy.1 (by omega)]
  rw [e, show (32 : Int64) = zL 32 by decide, ← Int64.ofInt_mul, ← Int64.ofInt_add]
theorem zL_eq {a b : Int} (ha : -2 ^ 62 ≤ a ∧ a < 2 ^ 62) (hb : -2 ^ 62 ≤ b ∧ b < 2 ^ 62) (h : zL a = zL b) : a = b := by
  have h1 := congrArg Int64.toInt h
  rw [Int64.toInt_ofInt_of_le (by omega) (by omega), Int64.toInt_ofInt_of_le (by omega) (by omega)] at h1
  exact h1
theorem pw_le {n : Int} {k : Nat} (h : n ≤ k) : (32 : Int) ^ n.toNat ≤ 32 ^ k := by
  have : n.toNat ≤ k := by omega
  exact_mod_cast Nat.pow_le_pow_right (by decide : 0 < 32) this
/-- the number of a word of m letters -/
def wdN (m z : Int) : Prop := (8 < m ∧ z = -1) ∨ (m ≤ 8 ∧ 0 ≤ z ∧ z < 32 ^ m.toNat)
theorem wdN.step {b z y : Int} {B : Int} (hb : 0 ≤ b) (hB : (32 : Int) ^ b.toNat = B) (hz : 0 ≤ z ∧ z < B) (hy : 1 ≤ y ∧ y ≤ 26) : 0 ≤ 32 * z + y ∧ 32 * z + y < 32 ^ (b + 1).toNat := by
  rw [show (b + 1).toNat = b.toNat + 1 by omega, Int.pow_succ, hB]
  omega
theorem wdN.ge {m z : Int} {k : Nat} (h : wdN m z) (hz : 32 ^ k ≤ z) : (k : Int) + 1 ≤ m := by
  rcases h with ⟨h1, h2⟩ | ⟨h1, h2, h3⟩
  · have : (0 : Int) ≤ 32 ^ k := Int.le_of_lt (Int.pow_pos (by decide))
    omega
  · by_cases hk : m ≤ k
    · have := pw_le hk
      omega
    · omega
theorem r_wordL {a m : Int} (h0 : 0 ≤ a) (hb : a ≤ 1000) (hm : 0 ≤ m) (hm2 : m ≤ 1000) (ha : a + m ≤ 160) (hl : ∀ i : Int, a ≤ i → i < a + m → 97 ≤ gd (S.2.1 1) i ∧ gd (S.2.1 1) i ≤ 122) : RM l G d M_Mo_word [.ref o, .int (zI a), .int (zI m)] o rf S (fun w S' => S' = S ∧ ∃ z : Int, w = some (.long (zL z)) ∧ wdN m z) := by
  intro H0 c n hR
  refine XM.of (by decide +kernel) (Nat.le_of_ble_eq_true rfl) ?_
  have lp : ∀ (k : Nat) (z b : Int), 0 ≤ b → b ≤ m → m - b ≤ k → ((8 < m ∧ z = -1) ∨ (m ≤ 8 ∧ 0 ≤ z ∧ z < 32 ^ b.toNat)) → RX l G M_Mo_word d 17 [some (.ref o), some (.int (zI a)), some (.int (zI m)), some (.long (zL z)), none, some (.int (zI b))] [] H0 o rf c n S (fun w S' => S' = S ∧ ∃ z : Int, w = some (.long (zL z)) ∧ wdN m z) := by
    intro k
    induction k with
    | zero =>
      intro z b h1 h2 hk hz h hR hX
      obtain rfl : b = m := by omega
      refine x_iload d_Mo_word_17 rfl ?_
      refine x_iload_n d_Mo_word_19 rfl ?_
      refine z_icmp_ge (tgt := 55) d_Mo_word_20 (by decide) (by omega) (by omega) (fun _ => ?_) (fun hq => by omega)
      refine x_lload_n d_Mo_word_55 rfl ?_
      refine x_lret d_Mo_word_56 rfl ?_
      exact ⟨_, hR, hX, rfl, rfl, rfl, _, rfl, hz⟩
    | succ k ih =>
      intro z b h1 h2 hk hz h hR hX
      by_cases hbm : b = m
      · subst hbm
        refine x_iload d_Mo_word_17 rfl ?_
        refine x_iload_n d_Mo_word_19 rfl ?_
        refine z_icmp_ge (tgt := 55) d_Mo_word_20 (by decide) (by omega) (by omega) (fun _ => ?_) (fun hq => by omega)
        refine x_lload_n d_Mo_word_55 rfl ?_
        refine x_lret d_Mo_word_56 rfl ?_
        exact ⟨_, hR, hX, rfl, rfl, rfl, _, rfl, hz⟩
      · have hlb := hl (a + b) (by omega) (by omega)
        by_cases hm9 : m < 9
        · obtain ⟨B, hB⟩ : ∃ B : Int, (32 : Int) ^ b.toNat = B := ⟨_, rfl⟩
          rw [hB] at hz
          have hst := wdN.step (z := z) (y := gd (S.2.1 1) (a + b) - 96) h1 hB (by omega) (by omega)
          refine x_iload d_Mo_word_17 rfl ?_
          refine x_iload_n d_Mo_word_19 rfl ?_
          refine z_icmp_ge (tgt := 55) d_Mo_word_20 (by decide) (by omega) (by omega) (fun hq => by omega) (fun _ => ?_)
          refine x_iload_n d_Mo_word_23 rfl ?_
          refine x_bipush (v := zI 9) d_Mo_word_24 (by decide) ?_
          refine z_icmp_ge (tgt := 55) d_Mo_word_26 (by decide) (by omega) (by omega) (fun hq => by omega) (fun _ => ?_)
          refine x_ldc2 (v := 32) xw_1347 d_Mo_word_29 ?_
          refine x_lload_n d_Mo_word_32 rfl ?_
          refine x_lmul d_Mo_word_33 ?_
          refine x_aload_n d_Mo_word_34 rfl rfl ?_
          refine x_get xf_Mo_7_Mo (Or.inl hR.1) (v := .ref (rf 1)) rfl d_Mo_word_35 ?_
          refine x_iload_n d_Mo_word_38 rfl ?_
          refine x_iload d_Mo_word_39 rfl ?_
          refine z_iadd d_Mo_word_41 ?_
          refine r_iald (i := 1) (us := (S.2.1 1)) rfl (by decide) hR rfl (by omega) (by show a + b < 160; omega) d_Mo_word_42 (fun hr42 => ?_)
          refine x_bipush (v := zI 96) d_Mo_word_43 (by decide) ?_
          refine z_isub d_Mo_word_45 ?_
          refine x_i2l d_Mo_word_46 ?_
          refine x_ladd d_Mo_word_47 ?_
          refine x_lstore_n (L' := [_, _, _, _, _, _]) d_Mo_word_48 rfl rfl ?_
          refine x_iinc (v := zI (b + 1)) (L' := [_, _, _, _, _, _]) d_Mo_word_49 rfl (zI_add _ _) rfl rfl ?_
          refine x_goto (tgt := 17) d_Mo_word_52 (by decide) ?_
          rw [wd_step (by omega)]
          exact ih _ (b + 1) (by omega) (by omega) (by omega) (Or.inr ⟨by omega, hst⟩) _ hR hX
        · refine x_iload d_Mo_word_17 rfl ?_
          refine x_iload_n d_Mo_word_19 rfl ?_
          refine z_icmp_ge (tgt := 55) d_Mo_word_20 (by decide) (by omega) (by omega) (fun hq => by omega) (fun _ => ?_)
          refine x_iload_n d_Mo_word_23 rfl ?_
          refine x_bipush (v := zI 9) d_Mo_word_24 (by decide) ?_
          refine z_icmp_ge (tgt := 55) d_Mo_word_26 (by decide) (by omega) (by omega) (fun _ => ?_) (fun hq => by omega)
          refine x_lload_n d_Mo_word_55 rfl ?_
          refine x_lret d_Mo_word_56 rfl ?_
          exact ⟨_, hR, hX, rfl, rfl, rfl, _, rfl, Or.inl (by omega)⟩
  have hX : xonly H0 H0 RKs := xonly.rf
  refine x_iload_n d_Mo_word_0 rfl ?_
  refine x_bipush (v := zI 8) d_Mo_word_1 (by decide) ?_
  refine z_icmp_le (tgt := 12) d_Mo_word_3 (by decide) (by omega) (by omega) (fun hc3 => ?_) (fun hc3 => ?_)
  · refine x_lconst (v := 0) d_Mo_word_12 (by decide) ?_
    refine x_lstore_n (L' := [_, _, _, _, _, _]) d_Mo_word_13 rfl rfl ?_
    refine x_iconst (v := zI 0) d_Mo_word_14 (by decide) ?_
    refine x_istore (L' := [_, _, _, _, _, _]) d_Mo_word_15 rfl rfl ?_
    first | exact lp m.toNat (-1) 0 (by omega) (by omega) (by omega) (Or.inl (by omega)) _ hR hX | exact lp m.toNat 0 0 (by omega) (by omega) (by omega) (Or.inr ⟨by omega, by decide⟩) _ hR hX
  · refine x_ldc2 (v := -1) xw_1346 d_Mo_word_6 ?_
    refine x_goto (tgt := 13) d_Mo_word_9 (by decide) ?_
    refine x_lstore_n (L' := [_, _, _, _, _, _]) d_Mo_word_13 rfl rfl ?_
    refine x_iconst (v := zI 0) d_Mo_word_14 (by decide) ?_
    refine x_istore (L' := [_, _, _, _, _, _]) d_Mo_word_15 rfl rfl ?_
    first | exact lp m.toNat (-1) 0 (by omega) (by omega) (by omega) (Or.inl (by omega)) _ hR hX | exact lp m.toNat 0 0 (by omega) (by omega) (by omega) (Or.inr ⟨by omega, by decide⟩) _ hR hX
theorem lgz {x y : Int64} (h : (lg_cmp x y).toInt = 0) : x = y := (lg_cmp_eq _ _).mp (by
  have e := zI_of (lg_cmp x y)
  rw [h] at e
  rw [← e]
  rfl)
/-- the bounds of names and VALUES known -/
def nmOk (S : MS) : Prop := 0 ≤ S.1 3 ∧ S.1 3 ≤ 6 ∧ (∀ i : Int, 0 ≤ i → i < 6 → 0 ≤ gd (S.2.1 5) i ∧ gd (S.2.1 5) i ≤ 8) ∧ ∀ i : Int, 0 ≤ i → i < 6 → 0 ≤ gd (S.2.1 7) i ∧ gd (S.2.1 7) i ≤ 6
end RF2
