section
abbrev y_Mo_now : MethodName := ⟨"MarkerTextModel", "now", "()I"⟩
abbrev M_Mo_now : XMt := (y_Mo_now, prog_13_method_20_code, 1, (some .int))
theorem d_Mo_now_0 : decode M_Mo_now.2.1 0 = .ok (.aload_n 0, 1) := by decide +kernel
theorem d_Mo_now_1 : decode M_Mo_now.2.1 1 = .ok (.getfield 193, 3) := by decide +kernel
theorem xw_1197 : (Jvm.Cond.fieldLink "MarkerTextModel" (193 : Nat) "MarkerTextModel" "at" "I") ∈ xT := xT_at 1197 (by decide +kernel) (by decide +kernel)
theorem xf_Mo_193_Mo : xF "MarkerTextModel" 193 k_MarkerTextModel 27 := ⟨_, _, _, "MarkerTextModel", rfl, by decide, Or.inl xw_1197, Or.inl rfl⟩
theorem d_Mo_now_4 : decode M_Mo_now.2.1 4 = .ok (.aload_n 0, 1) := by decide +kernel
theorem d_Mo_now_5 : decode M_Mo_now.2.1 5 = .ok (.getfield 124, 3) := by decide +kernel
theorem d_Mo_now_8 : decode M_Mo_now.2.1 8 = .ok (.if_icmp .ge 15, 3) := by decide +kernel
theorem d_Mo_now_23 : decode M_Mo_now.2.1 23 = .ok (.iconst (-1), 1) := by decide +kernel
theorem d_Mo_now_24 : decode M_Mo_now.2.1 24 = .ok (.ireturn, 1) := by decide +kernel
abbrev y_Mo_skip : MethodName := ⟨"MarkerTextModel", "skip", "()V"⟩
abbrev M_Mo_skip : XMt := (y_Mo_skip, prog_13_method_19_code, 1, none)
theorem d_Mo_skip_0 : decode M_Mo_skip.2.1 0 = .ok (.aload_n 0, 1) := by decide +kernel
theorem d_Mo_skip_1 : decode M_Mo_skip.2.1 1 = .ok (.getfield 193, 3) := by decide +kernel
theorem d_Mo_skip_4 : decode M_Mo_skip.2.1 4 = .ok (.aload_n 0, 1) := by decide +kernel
theorem d_Mo_skip_5 : decode M_Mo_skip.2.1 5 = .ok (.getfield 124, 3) := by decide +kernel
theorem d_Mo_skip_8 : decode M_Mo_skip.2.1 8 = .ok (.if_icmp .ge 30, 3) := by decide +kernel
theorem d_Mo_skip_38 : decode M_Mo_skip.2.1 38 = .ok (.return_, 1) := by decide +kernel
abbrev y_Mo_letters : MethodName := ⟨"MarkerTextModel", "letters", "(I)I"⟩
abbrev M_Mo_letters : XMt := (y_Mo_letters, prog_13_method_8_code, 3, (some .int))
theorem d_Mo_letters_0 : decode M_Mo_letters.2.1 0 = .ok (.iload_n 1, 1) := by decide +kernel
theorem d_Mo_letters_1 : decode M_Mo_letters.2.1 1 = .ok (.istore_n 2, 1) := by decide +kernel
theorem d_Mo_letters_2 : decode M_Mo_letters.2.1 2 = .ok (.iload_n 2, 1) := by decide +kernel
theorem d_Mo_letters_3 : decode M_Mo_letters.2.1 3 = .ok (.aload_n 0, 1) := by decide +kernel
theorem d_Mo_letters_4 : decode M_Mo_letters.2.1 4 = .ok (.getfield 124, 3) := by decide +kernel
theorem d_Mo_letters_7 : decode M_Mo_letters.2.1 7 = .ok (.if_icmp .ge 21, 3) := by decide +kernel
theorem d_Mo_letters_28 : decode M_Mo_letters.2.1 28 = .ok (.iload_n 2, 1) := by decide +kernel
theorem d_Mo_letters_29 : decode M_Mo_letters.2.1 29 = .ok (.iload_n 1, 1) := by decide +kernel
theorem d_Mo_letters_30 : decode M_Mo_letters.2.1 30 = .ok (.isub, 1) := by decide +kernel
theorem d_Mo_letters_31 : decode M_Mo_letters.2.1 31 = .ok (.ireturn, 1) := by decide +kernel
abbrev y_Mo_fault : MethodName := ⟨"MarkerTextModel", "fault", "(I)V"⟩
abbrev M_Mo_fault : XMt := (y_Mo_fault, prog_13_method_18_code, 2, none)
theorem d_Mo_fault_0 : decode M_Mo_fault.2.1 0 = .ok (.aload_n 0, 1) := by decide +kernel
theorem d_Mo_fault_1 : decode M_Mo_fault.2.1 1 = .ok (.aload_n 0, 1) := by decide +kernel
theorem d_Mo_fault_2 : decode M_Mo_fault.2.1 2 = .ok (.getfield 190, 3) := by decide +kernel
theorem xw_1199 : (Jvm.Cond.fieldLink "MarkerTextModel" (190 : Nat) "MarkerTextModel" "wrong" "I") ∈ xT := xT_at 1199 (by decide +kernel) (by decide +kernel)
theorem xf_Mo_190_Mo : xF "MarkerTextModel" 190 k_MarkerTextModel 29 := ⟨_, _, _, "MarkerTextModel", rfl, by decide, Or.inl xw_1199, Or.inl rfl⟩
theorem d_Mo_fault_5 : decode M_Mo_fault.2.1 5 = .ok (.ifCond .ge 7, 3) := by decide +kernel
theorem d_Mo_fault_8 : decode M_Mo_fault.2.1 8 = .ok (.iload_n 1, 1) := by decide +kernel
theorem d_Mo_fault_9 : decode M_Mo_fault.2.1 9 = .ok (.goto 7, 3) := by decide +kernel
theorem d_Mo_fault_16 : decode M_Mo_fault.2.1 16 = .ok (.putfield 190, 3) := by decide +kernel
theorem xp_Mo_29 : xP k_MarkerTextModel 29 false .int := ⟨_, _, _, rfl, rfl, by decide +kernel⟩
theorem d_Mo_fault_19 : decode M_Mo_fault.2.1 19 = .ok (.return_, 1) := by decide +kernel
abbrev y_Mo_readFirst : MethodName := ⟨"MarkerTextModel", "readFirst", "()V"⟩
abbrev M_Mo_readFirst : XMt := (y_Mo_readFirst, prog_13_method_33_code, 3, none)
theorem d_Mo_readFirst_0 : decode M_Mo_readFirst.2.1 0 = .ok (.aload_n 0, 1) := by decide +kernel
theorem d_Mo_readFirst_1 : decode M_Mo_readFirst.2.1 1 = .ok (.invokevirtual 228, 3) := by decide +kernel
theorem xw_1414 : (Jvm.Cond.code ({ cls := "MarkerTextModel", name := "now", desc := "()I" } : Jvm.MethodName) prog_13_method_20_code (1 : Nat) (Option.some Jvm.ClassFile.FieldType.int)) ∈ xT := xT_at 1414 (by decide +kernel) (by decide +kernel)
theorem xcb_Mo_now : xcb M_Mo_now 0 := ⟨xw_1414, xw_8, by decide, by decide, by decide, by decide +kernel⟩
theorem xw_1413 : (Jvm.Cond.instanceMethod ({ cls := "MarkerTextModel", name := "now", desc := "()I" } : Jvm.MethodName)) ∈ xT := xT_at 1413 (by decide +kernel) (by decide +kernel)
theorem xw_1411 : (Jvm.Cond.methodLink "MarkerTextModel" (228 : Nat) ({ cls := "MarkerTextModel", name := "now", desc := "()I" } : Jvm.MethodName)) ∈ xT := xT_at 1411 (by decide +kernel) (by decide +kernel)
theorem xsel_Mo_now : Cond.selects "MarkerTextModel" y_Mo_now y_Mo_now ∈ xT := xT_sel (q := (y_Mo_now, 52)) (by decide +kernel) (by decide +kernel)
theorem xcv_Mo_228_Mo : xCV "MarkerTextModel" 228 "MarkerTextModel" M_Mo_now 0 := ⟨xcb_Mo_now, xw_1413, Or.inl ⟨xw_1411, Or.inl xsel_Mo_now⟩⟩
theorem d_Mo_readFirst_4 : decode M_Mo_readFirst.2.1 4 = .ok (.bipush 40, 2) := by decide +kernel
theorem d_Mo_readFirst_6 : decode M_Mo_readFirst.2.1 6 = .ok (.if_icmp .ne 10, 3) := by decide +kernel
theorem d_Mo_readFirst_16 : decode M_Mo_readFirst.2.1 16 = .ok (.aload_n 0, 1) := by decide +kernel
theorem d_Mo_readFirst_17 : decode M_Mo_readFirst.2.1 17 = .ok (.aload_n 0, 1) := by decide +kernel
theorem d_Mo_readFirst_18 : decode M_Mo_readFirst.2.1 18 = .ok (.getfield 193, 3) := by decide +kernel
theorem d_Mo_readFirst_21 : decode M_Mo_readFirst.2.1 21 = .ok (.invokevirtual 241, 3) := by decide +kernel
theorem xw_1430 : (Jvm.Cond.code ({ cls := "MarkerTextModel", name := "letters", desc := "(I)I" } : Jvm.MethodName) prog_13_method_8_code (3 : Nat) (Option.some Jvm.ClassFile.FieldType.int)) ∈ xT := xT_at 1430 (by decide +kernel) (by decide +kernel)
theorem xcb_Mo_letters : xcb M_Mo_letters 1 := ⟨xw_1430, xw_8, by decide, by decide, by decide, by decide +kernel⟩
theorem xw_1429 : (Jvm.Cond.instanceMethod ({ cls := "MarkerTextModel", name := "letters", desc := "(I)I" } : Jvm.MethodName)) ∈ xT := xT_at 1429 (by decide +kernel) (by decide +kernel)
theorem xw_1427 : (Jvm.Cond.methodLink "MarkerTextModel" (241 : Nat) ({ cls := "MarkerTextModel", name := "letters", desc := "(I)I" } : Jvm.MethodName)) ∈ xT := xT_at 1427 (by decide +kernel) (by decide +kernel)
theorem xsel_Mo_letters : Cond.selects "MarkerTextModel" y_Mo_letters y_Mo_letters ∈ xT := xT_sel (q := (y_Mo_letters, 52)) (by decide +kernel) (by decide +kernel)
theorem xcv_Mo_241_Mo : xCV "MarkerTextModel" 241 "MarkerTextModel" M_Mo_letters 1 := ⟨xcb_Mo_letters, xw_1429, Or.inl ⟨xw_1427, Or.inl xsel_Mo_letters⟩⟩
theorem d_Mo_readFirst_24 : decode M_Mo_readFirst.2.1 24 = .ok (.istore_n 1, 1) := by decide +kernel
theorem d_Mo_readFirst_25 : decode M_Mo_readFirst.2.1 25 = .ok (.iload_n 1, 1) := by decide +kernel
theorem d_Mo_readFirst_26 : decode M_Mo_readFirst.2.1 26 = .ok (.ifCond .le 19, 3) := by decide +kernel
theorem d_Mo_readFirst_45 : decode M_Mo_readFirst.2.1 45 = .ok (.iconst 0, 1) := by decide +kernel
theorem d_Mo_readFirst_46 : decode M_Mo_readFirst.2.1 46 = .ok (.istore_n 2, 1) := by decide +kernel
theorem d_Mo_readFirst_47 : decode M_Mo_readFirst.2.1 47 = .ok (.iload_n 2, 1) := by decide +kernel
theorem d_Mo_readFirst_48 : decode M_Mo_readFirst.2.1 48 = .ok (.iconst 1, 1) := by decide +kernel
theorem d_Mo_readFirst_49 : decode M_Mo_readFirst.2.1 49 = .ok (.if_icmp .ne 10, 3) := by decide +kernel
theorem d_Mo_readFirst_59 : decode M_Mo_readFirst.2.1 59 = .ok (.iload_n 2, 1) := by decide +kernel
theorem d_Mo_readFirst_60 : decode M_Mo_readFirst.2.1 60 = .ok (.ifCond .lt 14, 3) := by decide +kernel
theorem d_Mo_readFirst_63 : decode M_Mo_readFirst.2.1 63 = .ok (.iload_n 2, 1) := by decide +kernel
theorem d_Mo_readFirst_64 : decode M_Mo_readFirst.2.1 64 = .ok (.iconst 5, 1) := by decide +kernel
theorem d_Mo_readFirst_65 : decode M_Mo_readFirst.2.1 65 = .ok (.if_icmp .eq 9, 3) := by decide +kernel
theorem d_Mo_readFirst_68 : decode M_Mo_readFirst.2.1 68 = .ok (.iload_n 2, 1) := by decide +kernel
theorem d_Mo_readFirst_69 : decode M_Mo_readFirst.2.1 69 = .ok (.bipush 6, 2) := by decide +kernel
theorem d_Mo_readFirst_71 : decode M_Mo_readFirst.2.1 71 = .ok (.if_icmp .ne 17, 3) := by decide +kernel
theorem d_Mo_readFirst_88 : decode M_Mo_readFirst.2.1 88 = .ok (.aload_n 0, 1) := by decide +kernel
theorem d_Mo_readFirst_89 : decode M_Mo_readFirst.2.1 89 = .ok (.aload_n 0, 1) := by decide +kernel
theorem d_Mo_readFirst_90 : decode M_Mo_readFirst.2.1 90 = .ok (.getfield 193, 3) := by decide +kernel
theorem d_Mo_readFirst_93 : decode M_Mo_readFirst.2.1 93 = .ok (.invokevirtual 218, 3) := by decide +kernel
theorem xw_1422 : (Jvm.Cond.code ({ cls := "MarkerTextModel", name := "fault", desc := "(I)V" } : Jvm.MethodName) prog_13_method_18_code (2 : Nat) (Option.none : Option Jvm.ClassFile.FieldType)) ∈ xT := xT_at 1422 (by decide +kernel) (by decide +kernel)
theorem xcb_Mo_fault : xcb M_Mo_fault 1 := ⟨xw_1422, xw_8, by decide, by decide, by decide, by decide +kernel⟩
theorem xw_1421 : (Jvm.Cond.instanceMethod ({ cls := "MarkerTextModel", name := "fault", desc := "(I)V" } : Jvm.MethodName)) ∈ xT := xT_at 1421 (by decide +kernel) (by decide +kernel)
theorem xw_1419 : (Jvm.Cond.methodLink "MarkerTextModel" (218 : Nat) ({ cls := "MarkerTextModel", name := "fault", desc := "(I)V" } : Jvm.MethodName)) ∈ xT := xT_at 1419 (by decide +kernel) (by decide +kernel)
theorem xsel_Mo_fault : Cond.selects "MarkerTextModel" y_Mo_fault y_Mo_fault ∈ xT := xT_sel (q := (y_Mo_fault, 52)) (by decide +kernel) (by decide +kernel)
theorem xcv_Mo_218_Mo : xCV "MarkerTextModel" 218 "MarkerTextModel" M_Mo_fault 1 := ⟨xcb_Mo_fault, xw_1421, Or.inl ⟨xw_1419, Or.inl xsel_Mo_fault⟩⟩
theorem d_Mo_readFirst_96 : decode M_Mo_readFirst.2.1 96 = .ok (.return_, 1) := by decide +kernel
abbrev y_Mo_read : MethodName := ⟨"MarkerTextModel", "read", "()V"⟩
abbrev M_Mo_read : XMt := (y_Mo_read, prog_13_method_35_code, 3, none)
theorem d_Mo_read_0 : decode M_Mo_read.2.1 0 = .ok (.aload_n 0, 1) := by decide +kernel
theorem d_Mo_read_1 : decode M_Mo_read.2.1 1 = .ok (.iconst 0, 1) := by decide +kernel
theorem d_Mo_read_2 : decode M_Mo_read.2.1 2 = .ok (.putfield 193, 3) := by decide +kernel
theorem xp_Mo_27 : xP k_MarkerTextModel 27 false .int := ⟨_, _, _, rfl, rfl, by decide +kernel⟩
theorem d_Mo_read_5 : decode M_Mo_read.2.1 5 = .ok (.aload_n 0, 1) := by decide +kernel
theorem d_Mo_read_6 : decode M_Mo_read.2.1 6 = .ok (.iconst (-1), 1) := by decide +kernel
theorem d_Mo_read_7 : decode M_Mo_read.2.1 7 = .ok (.putfield 190, 3) := by decide +kernel
theorem d_Mo_read_10 : decode M_Mo_read.2.1 10 = .ok (.aload_n 0, 1) := by decide +kernel
theorem d_Mo_read_11 : decode M_Mo_read.2.1 11 = .ok (.iconst 0, 1) := by decide +kernel
theorem d_Mo_read_12 : decode M_Mo_read.2.1 12 = .ok (.putfield 199, 3) := by decide +kernel
theorem xw_1202 : (Jvm.Cond.fieldLink "MarkerTextModel" (199 : Nat) "MarkerTextModel" "pile" "I") ∈ xT := xT_at 1202 (by decide +kernel) (by decide +kernel)
theorem xf_Mo_199_Mo : xF "MarkerTextModel" 199 k_MarkerTextModel 32 := ⟨_, _, _, "MarkerTextModel", rfl, by decide, Or.inl xw_1202, Or.inl rfl⟩
theorem xp_Mo_32 : xP k_MarkerTextModel 32 false .int := ⟨_, _, _, rfl, rfl, by decide +kernel⟩
theorem d_Mo_read_15 : decode M_Mo_read.2.1 15 = .ok (.aload_n 0, 1) := by decide +kernel
theorem d_Mo_read_16 : decode M_Mo_read.2.1 16 = .ok (.iconst 0, 1) := by decide +kernel
theorem d_Mo_read_17 : decode M_Mo_read.2.1 17 = .ok (.putfield 202, 3) := by decide +kernel
theorem xw_1203 : (Jvm.Cond.fieldLink "MarkerTextModel" (202 : Nat) "MarkerTextModel" "opens" "I") ∈ xT := xT_at 1203 (by decide +kernel) (by decide +kernel)
theorem xf_Mo_202_Mo : xF "MarkerTextModel" 202 k_MarkerTextModel 33 := ⟨_, _, _, "MarkerTextModel", rfl, by decide, Or.inl xw_1203, Or.inl rfl⟩
theorem xp_Mo_33 : xP k_MarkerTextModel 33 false .int := ⟨_, _, _, rfl, rfl, by decide +kernel⟩
theorem d_Mo_read_20 : decode M_Mo_read.2.1 20 = .ok (.aload_n 0, 1) := by decide +kernel
theorem d_Mo_read_21 : decode M_Mo_read.2.1 21 = .ok (.iconst 0, 1) := by decide +kernel
theorem d_Mo_read_22 : decode M_Mo_read.2.1 22 = .ok (.putfield 205, 3) := by decide +kernel
theorem xw_1205 : (Jvm.Cond.fieldLink "MarkerTextModel" (205 : Nat) "MarkerTextModel" "readyMany" "I") ∈ xT := xT_at 1205 (by decide +kernel) (by decide +kernel)
theorem xf_Mo_205_Mo : xF "MarkerTextModel" 205 k_MarkerTextModel 35 := ⟨_, _, _, "MarkerTextModel", rfl, by decide, Or.inl xw_1205, Or.inl rfl⟩
theorem xp_Mo_35 : xP k_MarkerTextModel 35 false .int := ⟨_, _, _, rfl, rfl, by decide +kernel⟩
theorem d_Mo_read_25 : decode M_Mo_read.2.1 25 = .ok (.aload_n 0, 1) := by decide +kernel
theorem d_Mo_read_26 : decode M_Mo_read.2.1 26 = .ok (.getfield 45, 3) := by decide +kernel
theorem d_Mo_read_29 : decode M_Mo_read.2.1 29 = .ok (.aload_n 0, 1) := by decide +kernel
theorem d_Mo_read_30 : decode M_Mo_read.2.1 30 = .ok (.getfield 196, 3) := by decide +kernel
theorem xw_1198 : (Jvm.Cond.fieldLink "MarkerTextModel" (196 : Nat) "MarkerTextModel" "slot" "I") ∈ xT := xT_at 1198 (by decide +kernel) (by decide +kernel)
theorem xf_Mo_196_Mo : xF "MarkerTextModel" 196 k_MarkerTextModel 28 := ⟨_, _, _, "MarkerTextModel", rfl, by decide, Or.inl xw_1198, Or.inl rfl⟩
theorem d_Mo_read_33 : decode M_Mo_read.2.1 33 = .ok (.iconst 0, 1) := by decide +kernel
theorem d_Mo_read_34 : decode M_Mo_read.2.1 34 = .ok (.iastore, 1) := by decide +kernel
theorem d_Mo_read_35 : decode M_Mo_read.2.1 35 = .ok (.aload_n 0, 1) := by decide +kernel
theorem d_Mo_read_36 : decode M_Mo_read.2.1 36 = .ok (.getfield 63, 3) := by decide +kernel
theorem d_Mo_read_39 : decode M_Mo_read.2.1 39 = .ok (.aload_n 0, 1) := by decide +kernel
theorem d_Mo_read_40 : decode M_Mo_read.2.1 40 = .ok (.getfield 196, 3) := by decide +kernel
theorem d_Mo_read_43 : decode M_Mo_read.2.1 43 = .ok (.iconst 0, 1) := by decide +kernel
theorem d_Mo_read_44 : decode M_Mo_read.2.1 44 = .ok (.iastore, 1) := by decide +kernel
theorem d_Mo_read_45 : decode M_Mo_read.2.1 45 = .ok (.aload_n 0, 1) := by decide +kernel
theorem d_Mo_read_46 : decode M_Mo_read.2.1 46 = .ok (.getfield 78, 3) := by decide +kernel
theorem d_Mo_read_49 : decode M_Mo_read.2.1 49 = .ok (.aload_n 0, 1) := by decide +kernel
theorem d_Mo_read_50 : decode M_Mo_read.2.1 50 = .ok (.getfield 196, 3) := by decide +kernel
theorem d_Mo_read_53 : decode M_Mo_read.2.1 53 = .ok (.iconst 0, 1) := by decide +kernel
theorem d_Mo_read_54 : decode M_Mo_read.2.1 54 = .ok (.iastore, 1) := by decide +kernel
theorem d_Mo_read_55 : decode M_Mo_read.2.1 55 = .ok (.iconst 1, 1) := by decide +kernel
theorem d_Mo_read_56 : decode M_Mo_read.2.1 56 = .ok (.istore_n 1, 1) := by decide +kernel
theorem d_Mo_read_57 : decode M_Mo_read.2.1 57 = .ok (.aload_n 0, 1) := by decide +kernel
theorem d_Mo_read_58 : decode M_Mo_read.2.1 58 = .ok (.invokevirtual 225, 3) := by decide +kernel
theorem xw_1406 : (Jvm.Cond.code ({ cls := "MarkerTextModel", name := "skip", desc := "()V" } : Jvm.MethodName) prog_13_method_19_code (1 : Nat) (Option.none : Option Jvm.ClassFile.FieldType)) ∈ xT := xT_at 1406 (by decide +kernel) (by decide +kernel)
theorem xcb_Mo_skip : xcb M_Mo_skip 0 := ⟨xw_1406, xw_8, by decide, by decide, by decide, by decide +kernel⟩
theorem xw_1405 : (Jvm.Cond.instanceMethod ({ cls := "MarkerTextModel", name := "skip", desc := "()V" } : Jvm.MethodName)) ∈ xT := xT_at 1405 (by decide +kernel) (by decide +kernel)
theorem xw_1403 : (Jvm.Cond.methodLink "MarkerTextModel" (225 : Nat) ({ cls := "MarkerTextModel", name := "skip", desc := "()V" } : Jvm.MethodName)) ∈ xT := xT_at 1403 (by decide +kernel) (by decide +kernel)
theorem xsel_Mo_skip : Cond.selects "MarkerTextModel" y_Mo_skip y_Mo_skip ∈ xT := xT_sel (q := (y_Mo_skip, 52)) (by decide +kernel) (by decide +kernel)
theorem xcv_Mo_225_Mo : xCV "MarkerTextModel" 225 "MarkerTextModel" M_Mo_skip 0 := ⟨xcb_Mo_skip, xw_1405, Or.inl ⟨xw_1403, Or.inl xsel_Mo_skip⟩⟩
theorem d_Mo_read_61 : decode M_Mo_read.2.1 61 = .ok (.aload_n 0, 1) := by decide +kernel
theorem d_Mo_read_62 : decode M_Mo_read.2.1 62 = .ok (.getfield 190, 3) := by decide +kernel
theorem d_Mo_read_65 : decode M_Mo_read.2.1 65 = .ok (.ifCond .ge 70, 3) := by decide +kernel
theorem d_Mo_read_68 : decode M_Mo_read.2.1 68 = .ok (.iload_n 1, 1) := by decide +kernel
theorem d_Mo_read_69 : decode M_Mo_read.2.1 69 = .ok (.ifCond .ne 14, 3) := by decide +kernel
theorem d_Mo_read_83 : decode M_Mo_read.2.1 83 = .ok (.iload_n 1, 1) := by decide +kernel
theorem d_Mo_read_84 : decode M_Mo_read.2.1 84 = .ok (.ifCond .eq 39, 3) := by decide +kernel
theorem d_Mo_read_87 : decode M_Mo_read.2.1 87 = .ok (.aload_n 0, 1) := by decide +kernel
theorem d_Mo_read_88 : decode M_Mo_read.2.1 88 = .ok (.getfield 63, 3) := by decide +kernel
theorem d_Mo_read_91 : decode M_Mo_read.2.1 91 = .ok (.aload_n 0, 1) := by decide +kernel
theorem d_Mo_read_92 : decode M_Mo_read.2.1 92 = .ok (.getfield 196, 3) := by decide +kernel
theorem d_Mo_read_95 : decode M_Mo_read.2.1 95 = .ok (.iaload, 1) := by decide +kernel
theorem d_Mo_read_96 : decode M_Mo_read.2.1 96 = .ok (.istore_n 2, 1) := by decide +kernel
theorem d_Mo_read_97 : decode M_Mo_read.2.1 97 = .ok (.aload_n 0, 1) := by decide +kernel
theorem d_Mo_read_98 : decode M_Mo_read.2.1 98 = .ok (.invokevirtual 261, 3) := by decide +kernel
theorem xw_1410 : (Jvm.Cond.code ({ cls := "MarkerTextModel", name := "readFirst", desc := "()V" } : Jvm.MethodName) prog_13_method_33_code (3 : Nat) (Option.none : Option Jvm.ClassFile.FieldType)) ∈ xT := xT_at 1410 (by decide +kernel) (by decide +kernel)
theorem xcb_Mo_readFirst : xcb M_Mo_readFirst 0 := ⟨xw_1410, xw_8, by decide, by decide, by decide, by decide +kernel⟩
theorem xw_1409 : (Jvm.Cond.instanceMethod ({ cls := "MarkerTextModel", name := "readFirst", desc := "()V" } : Jvm.MethodName)) ∈ xT := xT_at 1409 (by decide +kernel) (by decide +kernel)
theorem xw_1407 : (Jvm.Cond.methodLink "MarkerTextModel" (261 : Nat) ({ cls := "MarkerTextModel", name := "readFirst", desc := "()V" } : Jvm.MethodName)) ∈ xT := xT_at 1407 (by decide +kernel) (by decide +kernel)
theorem xsel_Mo_readFirst : Cond.selects "MarkerTextModel" y_Mo_readFirst y_Mo_readFirst ∈ xT := xT_sel (q := (y_Mo_readFirst, 52)) (by decide +kernel) (by decide +kernel)
theorem xcv_Mo_261_Mo : xCV "MarkerTextModel" 261 "MarkerTextModel" M_Mo_readFirst 0 := ⟨xcb_Mo_readFirst, xw_1409, Or.inl ⟨xw_1407, Or.inl xsel_Mo_readFirst⟩⟩
theorem d_Mo_read_101 : decode M_Mo_read.2.1 101 = .ok (.aload_n 0, 1) := by decide +kernel
theorem d_Mo_read_102 : decode M_Mo_read.2.1 102 = .ok (.getfield 63, 3) := by decide +kernel
theorem d_Mo_read_105 : decode M_Mo_read.2.1 105 = .ok (.aload_n 0, 1) := by decide +kernel
theorem d_Mo_read_106 : decode M_Mo_read.2.1 106 = .ok (.getfield 196, 3) := by decide +kernel
theorem d_Mo_read_109 : decode M_Mo_read.2.1 109 = .ok (.iaload, 1) := by decide +kernel
theorem d_Mo_read_110 : decode M_Mo_read.2.1 110 = .ok (.iload_n 2, 1) := by decide +kernel
theorem d_Mo_read_111 : decode M_Mo_read.2.1 111 = .ok (.if_icmp .ne 7, 3) := by decide +kernel
theorem d_Mo_read_114 : decode M_Mo_read.2.1 114 = .ok (.iconst 1, 1) := by decide +kernel
theorem d_Mo_read_115 : decode M_Mo_read.2.1 115 = .ok (.goto 4, 3) := by decide +kernel
theorem d_Mo_read_119 : decode M_Mo_read.2.1 119 = .ok (.istore_n 1, 1) := by decide +kernel
theorem d_Mo_read_120 : decode M_Mo_read.2.1 120 = .ok (.goto 8, 3) := by decide +kernel
theorem d_Mo_read_128 : decode M_Mo_read.2.1 128 = .ok (.aload_n 0, 1) := by decide +kernel
theorem d_Mo_read_129 : decode M_Mo_read.2.1 129 = .ok (.invokevirtual 225, 3) := by decide +kernel
theorem d_Mo_read_132 : decode M_Mo_read.2.1 132 = .ok (.goto (-71), 3) := by decide +kernel
theorem d_Mo_read_135 : decode M_Mo_read.2.1 135 = .ok (.aload_n 0, 1) := by decide +kernel
theorem d_Mo_read_136 : decode M_Mo_read.2.1 136 = .ok (.getfield 190, 3) := by decide +kernel
theorem d_Mo_read_139 : decode M_Mo_read.2.1 139 = .ok (.ifCond .ge 26, 3) := by decide +kernel
theorem d_Mo_read_165 : decode M_Mo_read.2.1 165 = .ok (.aload_n 0, 1) := by decide +kernel
theorem d_Mo_read_166 : decode M_Mo_read.2.1 166 = .ok (.getfield 199, 3) := by decide +kernel
theorem d_Mo_read_169 : decode M_Mo_read.2.1 169 = .ok (.ifCond .le 11, 3) := by decide +kernel
theorem d_Mo_read_180 : decode M_Mo_read.2.1 180 = .ok (.return_, 1) := by decide +kernel
abbrev y_Mo_condition : MethodName := ⟨"MarkerTextModel", "condition", "()I"⟩
abbrev M_Mo_condition : XMt := (y_Mo_condition, prog_13_method_36_code, 1, (some .int))
theorem d_Mo_condition_0 : decode M_Mo_condition.2.1 0 = .ok (.aload_n 0, 1) := by decide +kernel
theorem d_Mo_condition_1 : decode M_Mo_condition.2.1 1 = .ok (.aload_n 0, 1) := by decide +kernel
theorem d_Mo_condition_2 : decode M_Mo_condition.2.1 2 = .ok (.getfield 268, 3) := by decide +kernel
theorem d_Mo_condition_5 : decode M_Mo_condition.2.1 5 = .ok (.putfield 196, 3) := by decide +kernel
theorem xp_Mo_28 : xP k_MarkerTextModel 28 false .int := ⟨_, _, _, rfl, rfl, by decide +kernel⟩
theorem d_Mo_condition_8 : decode M_Mo_condition.2.1 8 = .ok (.aload_n 0, 1) := by decide +kernel
theorem d_Mo_condition_9 : decode M_Mo_condition.2.1 9 = .ok (.invokevirtual 271, 3) := by decide +kernel
theorem xw_1402 : (Jvm.Cond.code ({ cls := "MarkerTextModel", name := "read", desc := "()V" } : Jvm.MethodName) prog_13_method_35_code (3 : Nat) (Option.none : Option Jvm.ClassFile.FieldType)) ∈ xT := xT_at 1402 (by decide +kernel) (by decide +kernel)
theorem xcb_Mo_read : xcb M_Mo_read 0 := ⟨xw_1402, xw_8, by decide, by decide, by decide, by decide +kernel⟩
theorem xw_1401 : (Jvm.Cond.instanceMethod ({ cls := "MarkerTextModel", name := "read", desc := "()V" } : Jvm.MethodName)) ∈ xT := xT_at 1401 (by decide +kernel) (by decide +kernel)
theorem xw_1399 : (Jvm.Cond.methodLink "MarkerTextModel" (271 : Nat) ({ cls := "MarkerTextModel", name := "read", desc := "()V" } : Jvm.MethodName)) ∈ xT := xT_at 1399 (by decide +kernel) (by decide +kernel)
theorem xsel_Mo_read : Cond.selects "MarkerTextModel" y_Mo_read y_Mo_read ∈ xT := xT_sel (q := (y_Mo_read, 52)) (by decide +kernel) (by decide +kernel)
theorem xcv_Mo_271_Mo : xCV "MarkerTextModel" 271 "MarkerTextModel" M_Mo_read 0 := ⟨xcb_Mo_read, xw_1401, Or.inl ⟨xw_1399, Or.inl xsel_Mo_read⟩⟩
theorem d_Mo_condition_12 : decode M_Mo_condition.2.1 12 = .ok (.aload_n 0, 1) := by decide +kernel
theorem d_Mo_condition_13 : decode M_Mo_condition.2.1 13 = .ok (.iconst 0, 1) := by decide +kernel
theorem d_Mo_condition_14 : decode M_Mo_condition.2.1 14 = .ok (.putfield 124, 3) := by decide +kernel
theorem d_Mo_condition_17 : decode M_Mo_condition.2.1 17 = .ok (.aload_n 0, 1) := by decide +kernel
theorem d_Mo_condition_18 : decode M_Mo_condition.2.1 18 = .ok (.aload_n 0, 1) := by decide +kernel
theorem d_Mo_condition_19 : decode M_Mo_condition.2.1 19 = .ok (.getfield 190, 3) := by decide +kernel
theorem d_Mo_condition_22 : decode M_Mo_condition.2.1 22 = .ok (.putfield 81, 3) := by decide +kernel
theorem d_Mo_condition_25 : decode M_Mo_condition.2.1 25 = .ok (.aload_n 0, 1) := by decide +kernel
theorem d_Mo_condition_26 : decode M_Mo_condition.2.1 26 = .ok (.aload_n 0, 1) := by decide +kernel
theorem d_Mo_condition_27 : decode M_Mo_condition.2.1 27 = .ok (.getfield 190, 3) := by decide +kernel
theorem d_Mo_condition_30 : decode M_Mo_condition.2.1 30 = .ok (.ifCond .lt 7, 3) := by decide +kernel
theorem d_Mo_condition_33 : decode M_Mo_condition.2.1 33 = .ok (.iconst 1, 1) := by decide +kernel
theorem d_Mo_condition_34 : decode M_Mo_condition.2.1 34 = .ok (.goto 4, 3) := by decide +kernel
theorem d_Mo_condition_38 : decode M_Mo_condition.2.1 38 = .ok (.aload_n 0, 1) := by decide +kernel
theorem d_Mo_condition_39 : decode M_Mo_condition.2.1 39 = .ok (.getfield 268, 3) := by decide +kernel
theorem d_Mo_condition_42 : decode M_Mo_condition.2.1 42 = .ok (.bipush 8, 2) := by decide +kernel
theorem d_Mo_condition_44 : decode M_Mo_condition.2.1 44 = .ok (.if_icmp .ne 7, 3) := by decide +kernel
theorem d_Mo_condition_51 : decode M_Mo_condition.2.1 51 = .ok (.iconst 0, 1) := by decide +kernel
theorem d_Mo_condition_52 : decode M_Mo_condition.2.1 52 = .ok (.invokevirtual 162, 3) := by decide +kernel
theorem d_Mo_condition_55 : decode M_Mo_condition.2.1 55 = .ok (.ifCond .eq 5, 3) := by decide +kernel
theorem d_Mo_condition_58 : decode M_Mo_condition.2.1 58 = .ok (.iconst 0, 1) := by decide +kernel
theorem d_Mo_condition_59 : decode M_Mo_condition.2.1 59 = .ok (.ireturn, 1) := by decide +kernel
abbrev y_Mo_truth : MethodName := ⟨"MarkerTextModel", "truth", "(I)I"⟩
abbrev M_Mo_truth : XMt := (y_Mo_truth, prog_13_method_49_code, 5, (some .int))
theorem d_Mo_truth_0 : decode M_Mo_truth.2.1 0 = .ok (.iconst 0, 1) := by decide +kernel
theorem d_Mo_truth_1 : decode M_Mo_truth.2.1 1 = .ok (.istore_n 2, 1) := by decide +kernel
theorem d_Mo_truth_2 : decode M_Mo_truth.2.1 2 = .ok (.iconst 0, 1) := by decide +kernel
theorem d_Mo_truth_3 : decode M_Mo_truth.2.1 3 = .ok (.istore_n 3, 1) := by decide +kernel
theorem d_Mo_truth_4 : decode M_Mo_truth.2.1 4 = .ok (.iload_n 3, 1) := by decide +kernel
theorem d_Mo_truth_5 : decode M_Mo_truth.2.1 5 = .ok (.aload_n 0, 1) := by decide +kernel
theorem d_Mo_truth_6 : decode M_Mo_truth.2.1 6 = .ok (.getfield 268, 3) := by decide +kernel
theorem d_Mo_truth_9 : decode M_Mo_truth.2.1 9 = .ok (.if_icmp .ge 49, 3) := by decide +kernel
theorem d_Mo_truth_58 : decode M_Mo_truth.2.1 58 = .ok (.iload_n 2, 1) := by decide +kernel
theorem d_Mo_truth_59 : decode M_Mo_truth.2.1 59 = .ok (.ireturn, 1) := by decide +kernel
abbrev y_Mo_advance : MethodName := ⟨"MarkerTextModel", "advance", "()Z"⟩
abbrev M_Mo_advance : XMt := (y_Mo_advance, prog_13_method_48_code, 2, (some .boolean))
theorem d_Mo_advance_0 : decode M_Mo_advance.2.1 0 = .ok (.aload_n 0, 1) := by decide +kernel
theorem d_Mo_advance_1 : decode M_Mo_advance.2.1 1 = .ok (.getfield 147, 3) := by decide +kernel
theorem d_Mo_advance_4 : decode M_Mo_advance.2.1 4 = .ok (.iconst 1, 1) := by decide +kernel
theorem d_Mo_advance_5 : decode M_Mo_advance.2.1 5 = .ok (.isub, 1) := by decide +kernel
theorem d_Mo_advance_6 : decode M_Mo_advance.2.1 6 = .ok (.istore_n 1, 1) := by decide +kernel
theorem d_Mo_advance_7 : decode M_Mo_advance.2.1 7 = .ok (.iload_n 1, 1) := by decide +kernel
theorem d_Mo_advance_8 : decode M_Mo_advance.2.1 8 = .ok (.ifCond .lt 32, 3) := by decide +kernel
theorem d_Mo_advance_40 : decode M_Mo_advance.2.1 40 = .ok (.iload_n 1, 1) := by decide +kernel
theorem d_Mo_advance_41 : decode M_Mo_advance.2.1 41 = .ok (.ifCond .lt 13, 3) := by decide +kernel
theorem d_Mo_advance_54 : decode M_Mo_advance.2.1 54 = .ok (.iload_n 1, 1) := by decide +kernel
theorem d_Mo_advance_55 : decode M_Mo_advance.2.1 55 = .ok (.ifCond .lt 7, 3) := by decide +kernel
theorem d_Mo_advance_62 : decode M_Mo_advance.2.1 62 = .ok (.iconst 0, 1) := by decide +kernel
theorem d_Mo_advance_63 : decode M_Mo_advance.2.1 63 = .ok (.ireturn, 1) := by decide +kernel
abbrev y_Mo_prepare : MethodName := ⟨"MarkerTextModel", "prepare", "(I)Z"⟩
abbrev M_Mo_prepare : XMt := (y_Mo_prepare, prog_13_method_47_code, 6, (some .boolean))
theorem d_Mo_prepare_35 : decode M_Mo_prepare.2.1 35 = .ok (.iconst 0, 1) := by decide +kernel
theorem d_Mo_prepare_36 : decode M_Mo_prepare.2.1 36 = .ok (.istore_n 2, 1) := by decide +kernel
theorem d_Mo_prepare_37 : decode M_Mo_prepare.2.1 37 = .ok (.iload_n 2, 1) := by decide +kernel
theorem d_Mo_prepare_38 : decode M_Mo_prepare.2.1 38 = .ok (.aload_n 0, 1) := by decide +kernel
theorem d_Mo_prepare_39 : decode M_Mo_prepare.2.1 39 = .ok (.getfield 268, 3) := by decide +kernel
theorem d_Mo_prepare_42 : decode M_Mo_prepare.2.1 42 = .ok (.if_icmp .ge 23, 3) := by decide +kernel
theorem d_Mo_prepare_65 : decode M_Mo_prepare.2.1 65 = .ok (.lconst 1, 1) := by decide +kernel
theorem d_Mo_prepare_66 : decode M_Mo_prepare.2.1 66 = .ok (.lstore_n 2, 1) := by decide +kernel
theorem d_Mo_prepare_67 : decode M_Mo_prepare.2.1 67 = .ok (.iconst 0, 1) := by decide +kernel
theorem d_Mo_prepare_68 : decode M_Mo_prepare.2.1 68 = .ok (.istore 4, 2) := by decide +kernel
theorem d_Mo_prepare_70 : decode M_Mo_prepare.2.1 70 = .ok (.iload 4, 2) := by decide +kernel
theorem d_Mo_prepare_72 : decode M_Mo_prepare.2.1 72 = .ok (.aload_n 0, 1) := by decide +kernel
theorem d_Mo_prepare_73 : decode M_Mo_prepare.2.1 73 = .ok (.getfield 147, 3) := by decide +kernel
theorem d_Mo_prepare_76 : decode M_Mo_prepare.2.1 76 = .ok (.if_icmp .ge 81, 3) := by decide +kernel
theorem d_Mo_prepare_157 : decode M_Mo_prepare.2.1 157 = .ok (.iconst 0, 1) := by decide +kernel
theorem d_Mo_prepare_158 : decode M_Mo_prepare.2.1 158 = .ok (.istore 4, 2) := by decide +kernel
theorem d_Mo_prepare_160 : decode M_Mo_prepare.2.1 160 = .ok (.iload 4, 2) := by decide +kernel
theorem d_Mo_prepare_162 : decode M_Mo_prepare.2.1 162 = .ok (.aload_n 0, 1) := by decide +kernel
theorem d_Mo_prepare_163 : decode M_Mo_prepare.2.1 163 = .ok (.getfield 268, 3) := by decide +kernel
theorem d_Mo_prepare_166 : decode M_Mo_prepare.2.1 166 = .ok (.if_icmp .ge 25, 3) := by decide +kernel
theorem d_Mo_prepare_191 : decode M_Mo_prepare.2.1 191 = .ok (.lload_n 2, 1) := by decide +kernel
theorem d_Mo_prepare_192 : decode M_Mo_prepare.2.1 192 = .ok (.ldc2_w 294, 3) := by decide +kernel
theorem xw_1518 : (Jvm.Cond.constantLong "MarkerTextModel" (294 : Nat) (20000 : Int64)) ∈ xT := xT_at 1518 (by decide +kernel) (by decide +kernel)
theorem d_Mo_prepare_195 : decode M_Mo_prepare.2.1 195 = .ok (.lcmp, 1) := by decide +kernel
theorem d_Mo_prepare_196 : decode M_Mo_prepare.2.1 196 = .ok (.ifCond .gt 7, 3) := by decide +kernel
theorem d_Mo_prepare_199 : decode M_Mo_prepare.2.1 199 = .ok (.iconst 1, 1) := by decide +kernel
theorem d_Mo_prepare_200 : decode M_Mo_prepare.2.1 200 = .ok (.goto 4, 3) := by decide +kernel
theorem d_Mo_prepare_204 : decode M_Mo_prepare.2.1 204 = .ok (.ireturn, 1) := by decide +kernel
theorem d_Mo_prepare_2 : decode M_Mo_prepare.2.1 2 = .ok (.iload_n 2, 1) := by decide +kernel
theorem d_Mo_prepare_3 : decode M_Mo_prepare.2.1 3 = .ok (.bipush 6, 2) := by decide +kernel
theorem d_Mo_prepare_5 : decode M_Mo_prepare.2.1 5 = .ok (.if_icmp .ge 30, 3) := by decide +kernel
theorem d_Mo_prepare_8 : decode M_Mo_prepare.2.1 8 = .ok (.aload_n 0, 1) := by decide +kernel
theorem d_Mo_prepare_9 : decode M_Mo_prepare.2.1 9 = .ok (.getfield 94, 3) := by decide +kernel
theorem d_Mo_prepare_12 : decode M_Mo_prepare.2.1 12 = .ok (.iload_n 2, 1) := by decide +kernel
theorem d_Mo_prepare_13 : decode M_Mo_prepare.2.1 13 = .ok (.iconst 0, 1) := by decide +kernel
theorem d_Mo_prepare_14 : decode M_Mo_prepare.2.1 14 = .ok (.iastore, 1) := by decide +kernel
theorem d_Mo_prepare_15 : decode M_Mo_prepare.2.1 15 = .ok (.aload_n 0, 1) := by decide +kernel
theorem d_Mo_prepare_16 : decode M_Mo_prepare.2.1 16 = .ok (.getfield 97, 3) := by decide +kernel
theorem d_Mo_prepare_19 : decode M_Mo_prepare.2.1 19 = .ok (.iload_n 2, 1) := by decide +kernel
theorem d_Mo_prepare_20 : decode M_Mo_prepare.2.1 20 = .ok (.iconst 0, 1) := by decide +kernel
theorem d_Mo_prepare_21 : decode M_Mo_prepare.2.1 21 = .ok (.bastore, 1) := by decide +kernel
theorem d_Mo_prepare_22 : decode M_Mo_prepare.2.1 22 = .ok (.aload_n 0, 1) := by decide +kernel
theorem d_Mo_prepare_23 : decode M_Mo_prepare.2.1 23 = .ok (.getfield 100, 3) := by decide +kernel
theorem d_Mo_prepare_26 : decode M_Mo_prepare.2.1 26 = .ok (.iload_n 2, 1) := by decide +kernel
theorem d_Mo_prepare_27 : decode M_Mo_prepare.2.1 27 = .ok (.iconst 0, 1) := by decide +kernel
theorem d_Mo_prepare_28 : decode M_Mo_prepare.2.1 28 = .ok (.iastore, 1) := by decide +kernel
theorem d_Mo_prepare_29 : decode M_Mo_prepare.2.1 29 = .ok (.iinc 2 1, 3) := by decide +kernel
theorem d_Mo_prepare_32 : decode M_Mo_prepare.2.1 32 = .ok (.goto (-30), 3) := by decide +kernel
theorem d_Mo_prepare_0 : decode M_Mo_prepare.2.1 0 = .ok (.iconst 0, 1) := by decide +kernel
theorem d_Mo_prepare_1 : decode M_Mo_prepare.2.1 1 = .ok (.istore_n 2, 1) := by decide +kernel
abbrev y_Mo_classes : MethodName := ⟨"MarkerTextModel", "classes", "(I)I"⟩
abbrev M_Mo_classes : XMt := (y_Mo_classes, prog_13_method_54_code, 7, (some .int))
theorem d_Mo_classes_0 : decode M_Mo_classes.2.1 0 = .ok (.aload_n 0, 1) := by decide +kernel
theorem d_Mo_classes_1 : decode M_Mo_classes.2.1 1 = .ok (.iconst 0, 1) := by decide +kernel
theorem d_Mo_classes_2 : decode M_Mo_classes.2.1 2 = .ok (.putfield 121, 3) := by decide +kernel
theorem d_Mo_classes_5 : decode M_Mo_classes.2.1 5 = .ok (.iload_n 1, 1) := by decide +kernel
theorem d_Mo_classes_6 : decode M_Mo_classes.2.1 6 = .ok (.iconst 1, 1) := by decide +kernel
theorem d_Mo_classes_7 : decode M_Mo_classes.2.1 7 = .ok (.aload_n 0, 1) := by decide +kernel
theorem d_Mo_classes_8 : decode M_Mo_classes.2.1 8 = .ok (.getfield 268, 3) := by decide +kernel
theorem d_Mo_classes_11 : decode M_Mo_classes.2.1 11 = .ok (.ishl, 1) := by decide +kernel
theorem d_Mo_classes_12 : decode M_Mo_classes.2.1 12 = .ok (.iconst 1, 1) := by decide +kernel
theorem d_Mo_classes_13 : decode M_Mo_classes.2.1 13 = .ok (.isub, 1) := by decide +kernel
theorem d_Mo_classes_14 : decode M_Mo_classes.2.1 14 = .ok (.iand, 1) := by decide +kernel
theorem d_Mo_classes_15 : decode M_Mo_classes.2.1 15 = .ok (.istore_n 2, 1) := by decide +kernel
theorem d_Mo_classes_16 : decode M_Mo_classes.2.1 16 = .ok (.aload_n 0, 1) := by decide +kernel
theorem d_Mo_classes_17 : decode M_Mo_classes.2.1 17 = .ok (.iload_n 2, 1) := by decide +kernel
theorem d_Mo_classes_18 : decode M_Mo_classes.2.1 18 = .ok (.invokevirtual 302, 3) := by decide +kernel
theorem xw_1509 : (Jvm.Cond.code ({ cls := "MarkerTextModel", name := "prepare", desc := "(I)Z" } : Jvm.MethodName) prog_13_method_47_code (6 : Nat) (Option.some Jvm.ClassFile.FieldType.boolean)) ∈ xT := xT_at 1509 (by decide +kernel) (by decide +kernel)
theorem xcb_Mo_prepare : xcb M_Mo_prepare 1 := ⟨xw_1509, xw_8, by decide, by decide, by decide, by decide +kernel⟩
theorem xw_1508 : (Jvm.Cond.instanceMethod ({ cls := "MarkerTextModel", name := "prepare", desc := "(I)Z" } : Jvm.MethodName)) ∈ xT := xT_at 1508 (by decide +kernel) (by decide +kernel)
theorem xw_1506 : (Jvm.Cond.methodLink "MarkerTextModel" (302 : Nat) ({ cls := "MarkerTextModel", name := "prepare", desc := "(I)Z" } : Jvm.MethodName)) ∈ xT := xT_at 1506 (by decide +kernel) (by decide +kernel)
theorem xsel_Mo_prepare : Cond.selects "MarkerTextModel" y_Mo_prepare y_Mo_prepare ∈ xT := xT_sel (q := (y_Mo_prepare, 52)) (by decide +kernel) (by decide +kernel)
theorem xcv_Mo_302_Mo : xCV "MarkerTextModel" 302 "MarkerTextModel" M_Mo_prepare 1 := ⟨xcb_Mo_prepare, xw_1508, Or.inl ⟨xw_1506, Or.inl xsel_Mo_prepare⟩⟩
theorem d_Mo_classes_21 : decode M_Mo_classes.2.1 21 = .ok (.ifCond .ne 5, 3) := by decide +kernel
theorem d_Mo_classes_26 : decode M_Mo_classes.2.1 26 = .ok (.aload_n 0, 1) := by decide +kernel
theorem d_Mo_classes_27 : decode M_Mo_classes.2.1 27 = .ok (.iconst 0, 1) := by decide +kernel
theorem d_Mo_classes_28 : decode M_Mo_classes.2.1 28 = .ok (.putfield 314, 3) := by decide +kernel
theorem xp_Mo_42 : xP k_MarkerTextModel 42 false .int := ⟨_, _, _, rfl, rfl, by decide +kernel⟩
theorem d_Mo_classes_31 : decode M_Mo_classes.2.1 31 = .ok (.aload_n 0, 1) := by decide +kernel
theorem d_Mo_classes_32 : decode M_Mo_classes.2.1 32 = .ok (.iload_n 2, 1) := by decide +kernel
theorem d_Mo_classes_33 : decode M_Mo_classes.2.1 33 = .ok (.putfield 317, 3) := by decide +kernel
theorem xw_1213 : (Jvm.Cond.fieldLink "MarkerTextModel" (317 : Nat) "MarkerTextModel" "classSet" "I") ∈ xT := xT_at 1213 (by decide +kernel) (by decide +kernel)
theorem xf_Mo_317_Mo : xF "MarkerTextModel" 317 k_MarkerTextModel 43 := ⟨_, _, _, "MarkerTextModel", rfl, by decide, Or.inl xw_1213, Or.inl rfl⟩
theorem xp_Mo_43 : xP k_MarkerTextModel 43 false .int := ⟨_, _, _, rfl, rfl, by decide +kernel⟩
theorem d_Mo_classes_36 : decode M_Mo_classes.2.1 36 = .ok (.aload_n 0, 1) := by decide +kernel
theorem d_Mo_classes_37 : decode M_Mo_classes.2.1 37 = .ok (.aload_n 0, 1) := by decide +kernel
theorem d_Mo_classes_38 : decode M_Mo_classes.2.1 38 = .ok (.getfield 147, 3) := by decide +kernel
theorem d_Mo_classes_41 : decode M_Mo_classes.2.1 41 = .ok (.putfield 320, 3) := by decide +kernel
theorem xw_1214 : (Jvm.Cond.fieldLink "MarkerTextModel" (320 : Nat) "MarkerTextModel" "classNames" "I") ∈ xT := xT_at 1214 (by decide +kernel) (by decide +kernel)
theorem xf_Mo_320_Mo : xF "MarkerTextModel" 320 k_MarkerTextModel 44 := ⟨_, _, _, "MarkerTextModel", rfl, by decide, Or.inl xw_1214, Or.inl rfl⟩
theorem xp_Mo_44 : xP k_MarkerTextModel 44 false .int := ⟨_, _, _, rfl, rfl, by decide +kernel⟩
theorem d_Mo_classes_44 : decode M_Mo_classes.2.1 44 = .ok (.iconst 1, 1) := by decide +kernel
theorem d_Mo_classes_45 : decode M_Mo_classes.2.1 45 = .ok (.istore_n 3, 1) := by decide +kernel
theorem d_Mo_classes_46 : decode M_Mo_classes.2.1 46 = .ok (.iload_n 3, 1) := by decide +kernel
theorem d_Mo_classes_47 : decode M_Mo_classes.2.1 47 = .ok (.ifCond .eq 131, 3) := by decide +kernel
theorem d_Mo_classes_50 : decode M_Mo_classes.2.1 50 = .ok (.aload_n 0, 1) := by decide +kernel
theorem d_Mo_classes_51 : decode M_Mo_classes.2.1 51 = .ok (.iload_n 2, 1) := by decide +kernel
theorem d_Mo_classes_52 : decode M_Mo_classes.2.1 52 = .ok (.invokevirtual 305, 3) := by decide +kernel
theorem xw_1530 : (Jvm.Cond.code ({ cls := "MarkerTextModel", name := "truth", desc := "(I)I" } : Jvm.MethodName) prog_13_method_49_code (5 : Nat) (Option.some Jvm.ClassFile.FieldType.int)) ∈ xT := xT_at 1530 (by decide +kernel) (by decide +kernel)
theorem xcb_Mo_truth : xcb M_Mo_truth 1 := ⟨xw_1530, xw_8, by decide, by decide, by decide, by decide +kernel⟩
theorem xw_1529 : (Jvm.Cond.instanceMethod ({ cls := "MarkerTextModel", name := "truth", desc := "(I)I" } : Jvm.MethodName)) ∈ xT := xT_at 1529 (by decide +kernel) (by decide +kernel)
theorem xw_1527 : (Jvm.Cond.methodLink "MarkerTextModel" (305 : Nat) ({ cls := "MarkerTextModel", name := "truth", desc := "(I)I" } : Jvm.MethodName)) ∈ xT := xT_at 1527 (by decide +kernel) (by decide +kernel)
theorem xsel_Mo_truth : Cond.selects "MarkerTextModel" y_Mo_truth y_Mo_truth ∈ xT := xT_sel (q := (y_Mo_truth, 52)) (by decide +kernel) (by decide +kernel)
theorem xcv_Mo_305_Mo : xCV "MarkerTextModel" 305 "MarkerTextModel" M_Mo_truth 1 := ⟨xcb_Mo_truth, xw_1529, Or.inl ⟨xw_1527, Or.inl xsel_Mo_truth⟩⟩
theorem d_Mo_classes_55 : decode M_Mo_classes.2.1 55 = .ok (.istore 4, 2) := by decide +kernel
theorem d_Mo_classes_57 : decode M_Mo_classes.2.1 57 = .ok (.iconst 0, 1) := by decide +kernel
theorem d_Mo_classes_58 : decode M_Mo_classes.2.1 58 = .ok (.istore 5, 2) := by decide +kernel
theorem d_Mo_classes_60 : decode M_Mo_classes.2.1 60 = .ok (.iload 5, 2) := by decide +kernel
theorem d_Mo_classes_62 : decode M_Mo_classes.2.1 62 = .ok (.aload_n 0, 1) := by decide +kernel
theorem d_Mo_classes_63 : decode M_Mo_classes.2.1 63 = .ok (.getfield 314, 3) := by decide +kernel
theorem d_Mo_classes_66 : decode M_Mo_classes.2.1 66 = .ok (.if_icmp .ge 21, 3) := by decide +kernel
theorem d_Mo_classes_87 : decode M_Mo_classes.2.1 87 = .ok (.iload 5, 2) := by decide +kernel
theorem d_Mo_classes_89 : decode M_Mo_classes.2.1 89 = .ok (.aload_n 0, 1) := by decide +kernel
theorem d_Mo_classes_90 : decode M_Mo_classes.2.1 90 = .ok (.getfield 314, 3) := by decide +kernel
theorem d_Mo_classes_93 : decode M_Mo_classes.2.1 93 = .ok (.if_icmp .ne 66, 3) := by decide +kernel
theorem d_Mo_classes_96 : decode M_Mo_classes.2.1 96 = .ok (.aload_n 0, 1) := by decide +kernel
theorem d_Mo_classes_97 : decode M_Mo_classes.2.1 97 = .ok (.getfield 106, 3) := by decide +kernel
theorem d_Mo_classes_100 : decode M_Mo_classes.2.1 100 = .ok (.iload 5, 2) := by decide +kernel
theorem d_Mo_classes_102 : decode M_Mo_classes.2.1 102 = .ok (.iload 4, 2) := by decide +kernel
theorem d_Mo_classes_104 : decode M_Mo_classes.2.1 104 = .ok (.iastore, 1) := by decide +kernel
theorem d_Mo_classes_105 : decode M_Mo_classes.2.1 105 = .ok (.aload_n 0, 1) := by decide +kernel
theorem d_Mo_classes_106 : decode M_Mo_classes.2.1 106 = .ok (.getfield 109, 3) := by decide +kernel
theorem d_Mo_classes_109 : decode M_Mo_classes.2.1 109 = .ok (.iload 5, 2) := by decide +kernel
theorem d_Mo_classes_111 : decode M_Mo_classes.2.1 111 = .ok (.iconst 0, 1) := by decide +kernel
theorem d_Mo_classes_112 : decode M_Mo_classes.2.1 112 = .ok (.iastore, 1) := by decide +kernel
theorem d_Mo_classes_149 : decode M_Mo_classes.2.1 149 = .ok (.aload_n 0, 1) := by decide +kernel
theorem d_Mo_classes_150 : decode M_Mo_classes.2.1 150 = .ok (.dup, 1) := by decide +kernel
theorem d_Mo_classes_151 : decode M_Mo_classes.2.1 151 = .ok (.getfield 314, 3) := by decide +kernel
theorem d_Mo_classes_154 : decode M_Mo_classes.2.1 154 = .ok (.iconst 1, 1) := by decide +kernel
theorem d_Mo_classes_155 : decode M_Mo_classes.2.1 155 = .ok (.iadd, 1) := by decide +kernel
theorem d_Mo_classes_156 : decode M_Mo_classes.2.1 156 = .ok (.putfield 314, 3) := by decide +kernel
theorem d_Mo_classes_159 : decode M_Mo_classes.2.1 159 = .ok (.aload_n 0, 1) := by decide +kernel
theorem d_Mo_classes_160 : decode M_Mo_classes.2.1 160 = .ok (.getfield 109, 3) := by decide +kernel
theorem d_Mo_classes_163 : decode M_Mo_classes.2.1 163 = .ok (.iload 5, 2) := by decide +kernel
theorem d_Mo_classes_165 : decode M_Mo_classes.2.1 165 = .ok (.dup2, 1) := by decide +kernel
theorem d_Mo_classes_166 : decode M_Mo_classes.2.1 166 = .ok (.iaload, 1) := by decide +kernel
theorem d_Mo_classes_167 : decode M_Mo_classes.2.1 167 = .ok (.iconst 1, 1) := by decide +kernel
theorem d_Mo_classes_168 : decode M_Mo_classes.2.1 168 = .ok (.iadd, 1) := by decide +kernel
theorem d_Mo_classes_169 : decode M_Mo_classes.2.1 169 = .ok (.iastore, 1) := by decide +kernel
theorem d_Mo_classes_170 : decode M_Mo_classes.2.1 170 = .ok (.aload_n 0, 1) := by decide +kernel
theorem d_Mo_classes_171 : decode M_Mo_classes.2.1 171 = .ok (.invokevirtual 308, 3) := by decide +kernel
theorem xw_1534 : (Jvm.Cond.code ({ cls := "MarkerTextModel", name := "advance", desc := "()Z" } : Jvm.MethodName) prog_13_method_48_code (2 : Nat) (Option.some Jvm.ClassFile.FieldType.boolean)) ∈ xT := xT_at 1534 (by decide +kernel) (by decide +kernel)
theorem xcb_Mo_advance : xcb M_Mo_advance 0 := ⟨xw_1534, xw_8, by decide, by decide, by decide, by decide +kernel⟩
theorem xw_1533 : (Jvm.Cond.instanceMethod ({ cls := "MarkerTextModel", name := "advance", desc := "()Z" } : Jvm.MethodName)) ∈ xT := xT_at 1533 (by decide +kernel) (by decide +kernel)
theorem xw_1531 : (Jvm.Cond.methodLink "MarkerTextModel" (308 : Nat) ({ cls := "MarkerTextModel", name := "advance", desc := "()Z" } : Jvm.MethodName)) ∈ xT := xT_at 1531 (by decide +kernel) (by decide +kernel)
theorem xsel_Mo_advance : Cond.selects "MarkerTextModel" y_Mo_advance y_Mo_advance ∈ xT := xT_sel (q := (y_Mo_advance, 52)) (by decide +kernel) (by decide +kernel)
theorem xcv_Mo_308_Mo : xCV "MarkerTextModel" 308 "MarkerTextModel" M_Mo_advance 0 := ⟨xcb_Mo_advance, xw_1533, Or.inl ⟨xw_1531, Or.inl xsel_Mo_advance⟩⟩
theorem d_Mo_classes_174 : decode M_Mo_classes.2.1 174 = .ok (.istore_n 3, 1) := by decide +kernel
theorem d_Mo_classes_175 : decode M_Mo_classes.2.1 175 = .ok (.goto (-129), 3) := by decide +kernel
theorem d_Mo_classes_178 : decode M_Mo_classes.2.1 178 = .ok (.aload_n 0, 1) := by decide +kernel
theorem d_Mo_classes_179 : decode M_Mo_classes.2.1 179 = .ok (.getfield 314, 3) := by decide +kernel
theorem d_Mo_classes_182 : decode M_Mo_classes.2.1 182 = .ok (.ireturn, 1) := by decide +kernel
theorem d_Mo_classes_116 : decode M_Mo_classes.2.1 116 = .ok (.iload 6, 2) := by decide +kernel
theorem d_Mo_classes_118 : decode M_Mo_classes.2.1 118 = .ok (.bipush 6, 2) := by decide +kernel
theorem d_Mo_classes_120 : decode M_Mo_classes.2.1 120 = .ok (.if_icmp .ge 29, 3) := by decide +kernel
theorem d_Mo_classes_123 : decode M_Mo_classes.2.1 123 = .ok (.aload_n 0, 1) := by decide +kernel
theorem d_Mo_classes_124 : decode M_Mo_classes.2.1 124 = .ok (.getfield 112, 3) := by decide +kernel
theorem d_Mo_classes_127 : decode M_Mo_classes.2.1 127 = .ok (.bipush 6, 2) := by decide +kernel
theorem d_Mo_classes_129 : decode M_Mo_classes.2.1 129 = .ok (.iload 5, 2) := by decide +kernel
theorem d_Mo_classes_131 : decode M_Mo_classes.2.1 131 = .ok (.imul, 1) := by decide +kernel
theorem d_Mo_classes_132 : decode M_Mo_classes.2.1 132 = .ok (.iload 6, 2) := by decide +kernel
theorem d_Mo_classes_134 : decode M_Mo_classes.2.1 134 = .ok (.iadd, 1) := by decide +kernel
theorem d_Mo_classes_135 : decode M_Mo_classes.2.1 135 = .ok (.aload_n 0, 1) := by decide +kernel
theorem d_Mo_classes_136 : decode M_Mo_classes.2.1 136 = .ok (.getfield 100, 3) := by decide +kernel
theorem d_Mo_classes_139 : decode M_Mo_classes.2.1 139 = .ok (.iload 6, 2) := by decide +kernel
theorem d_Mo_classes_141 : decode M_Mo_classes.2.1 141 = .ok (.iaload, 1) := by decide +kernel
theorem d_Mo_classes_142 : decode M_Mo_classes.2.1 142 = .ok (.iastore, 1) := by decide +kernel
theorem d_Mo_classes_143 : decode M_Mo_classes.2.1 143 = .ok (.iinc 6 1, 3) := by decide +kernel
theorem d_Mo_classes_146 : decode M_Mo_classes.2.1 146 = .ok (.goto (-30), 3) := by decide +kernel
theorem d_Mo_classes_113 : decode M_Mo_classes.2.1 113 = .ok (.iconst 0, 1) := by decide +kernel
theorem d_Mo_classes_114 : decode M_Mo_classes.2.1 114 = .ok (.istore 6, 2) := by decide +kernel
end
section MO3
variable {l : Launch} {G : XG} {h : XH} {c n d : Nat} {rf : Nat → Nat} {th sz wa sl wr pl pi op rm cl cs cn : Int32}
theorem c_now0 {o : Nat} (ho : h o = some (k_MarkerTextModel, moV rf th 0 0 sl wr pl pi op rm cl cs cn)) : XM l G d M_Mo_now [.ref o] h c n (xSame (.int (-1)) h c n) := by
  refine XM.of (by decide +kernel) (Nat.le_of_ble_eq_true rfl) ?_
  refine x_aload_n d_Mo_now_0 rfl rfl ?_
  refine x_get xf_Mo_193_Mo (Or.inl ho) rfl d_Mo_now_1 ?_
  refine x_aload_n d_Mo_now_4 rfl rfl ?_
  refine x_get xf_Mo_124_Mo (Or.inl ho) rfl d_Mo_now_5 ?_
  refine x_icmp_ge (tgt := 23) d_Mo_now_8 (by decide) (fun _ => ?_) (fun hn => absurd (by decide) hn)
  refine x_iconst (v := (-1)) d_Mo_now_23 (by decide) ?_
  refine x_iret d_Mo_now_24 rfl ?_
  exact ⟨rfl, rfl, rfl, rfl⟩
theorem c_skip0 {o : Nat} (ho : h o = some (k_MarkerTextModel, moV rf th 0 0 sl wr pl pi op rm cl cs cn)) : XM l G d M_Mo_skip [.ref o] h c n (xVoid h c n) := by
  refine XM.of (by decide +kernel) (Nat.le_of_ble_eq_true rfl) ?_
  refine x_aload_n d_Mo_skip_0 rfl rfl ?_
  refine x_get xf_Mo_193_Mo (Or.inl ho) rfl d_Mo_skip_1 ?_
  refine x_aload_n d_Mo_skip_4 rfl rfl ?_
  refine x_get xf_Mo_124_Mo (Or.inl ho) rfl d_Mo_skip_5 ?_
  refine x_icmp_ge (tgt := 38) d_Mo_skip_8 (by decide) (fun _ => ?_) (fun hn => absurd (by decide) hn)
  refine x_vret d_Mo_skip_38 rfl ?_
  exact ⟨rfl, rfl, rfl, rfl⟩
theorem c_letters0 {o : Nat} (ho : h o = some (k_MarkerTextModel, moV rf th 0 0 sl wr pl pi op rm cl cs cn)) : XM l G d M_Mo_letters [.ref o, .int 0] h c n (xSame (.int 0) h c n) := by
  refine XM.of (by decide +kernel) (Nat.le_of_ble_eq_true rfl) ?_
  refine x_iload_n d_Mo_letters_0 rfl ?_
  refine x_istore_n (L' := [_, _, _]) d_Mo_letters_1 rfl rfl ?_
  refine x_iload_n d_Mo_letters_2 rfl ?_
  refine x_aload_n d_Mo_letters_3 rfl rfl ?_
  refine x_get xf_Mo_124_Mo (Or.inl ho) rfl d_Mo_letters_4 ?_
  refine x_icmp_ge (tgt := 28) d_Mo_letters_7 (by decide) (fun _ => ?_) (fun hn => absurd (by decide) hn)
  refine x_iload_n d_Mo_letters_28 rfl ?_
  refine x_iload_n d_Mo_letters_29 rfl ?_
  refine x_isub d_Mo_letters_30 ?_
  refine x_top (w := .int 0) (by decide) ?_
  refine x_iret d_Mo_letters_31 rfl ?_
  exact ⟨rfl, rfl, rfl, rfl⟩
theorem c_fault0 {o : Nat} (ho : h o = some (k_MarkerTextModel, moV rf th sz wa sl (-1) pl pi op rm cl cs cn)) : XM l G d M_Mo_fault [.ref o, .int 0] h c n (fun v h' c' n' => v = none ∧ h' = xup h o (k_MarkerTextModel, moV rf th sz wa sl 0 pl pi op rm cl cs cn) ∧ c' = c ∧ n' = n) := by
  refine XM.of (by decide +kernel) (Nat.le_of_ble_eq_true rfl) ?_
  refine x_aload_n d_Mo_fault_0 rfl rfl ?_
  refine x_aload_n d_Mo_fault_1 rfl rfl ?_
  refine x_get xf_Mo_190_Mo (Or.inl ho) rfl d_Mo_fault_2 ?_
  refine x_if_ge (tgt := 12) d_Mo_fault_5 (by decide) (fun ht => absurd ht (by decide)) (fun _ => ?_)
  refine x_iload_n d_Mo_fault_8 rfl ?_
  refine x_goto (tgt := 16) d_Mo_fault_9 (by decide) ?_
  refine x_put xf_Mo_190_Mo xp_Mo_29 rfl rfl ho rfl rfl d_Mo_fault_16 ?_
  refine x_vret d_Mo_fault_19 rfl ?_
  exact ⟨rfl, rfl, rfl, rfl⟩
theorem c_readFirst0 (hd : 1 ≤ d) {o : Nat} (ho : h o = some (k_MarkerTextModel, moV rf th 0 0 0 (-1) pl pi op rm cl cs cn)) : XM l G d M_Mo_readFirst [.ref o] h c n (fun v h' c' n' => v = none ∧ h' = xup h o (k_MarkerTextModel, moV rf th 0 0 0 0 pl pi op rm cl cs cn) ∧ c' = c ∧ n' = n) := by
  obtain ⟨d, rfl⟩ : ∃ q, d = q + 1 := ⟨d - 1, by omega⟩
  refine XM.of (by decide +kernel) (Nat.le_of_ble_eq_true rfl) ?_
  refine x_aload_n d_Mo_readFirst_0 rfl rfl ?_
  refine x_callV (As := []) (k := k_MarkerTextModel) rfl xcv_Mo_228_Mo (Or.inl ho) (c_now0 ho) rfl rfl (Nat.le_of_ble_eq_true rfl) d_Mo_readFirst_1 ?_
  rintro v h1 c1 n1 ⟨rfl, rfl, rfl, rfl⟩
  refine x_bipush (v := 40) d_Mo_readFirst_4 (by decide) ?_
  refine x_icmp_ne (tgt := 16) d_Mo_readFirst_6 (by decide) (fun _ => ?_) (fun hn => absurd hn (by decide))
  refine x_aload_n d_Mo_readFirst_16 rfl rfl ?_
  refine x_aload_n d_Mo_readFirst_17 rfl rfl ?_
  refine x_get xf_Mo_193_Mo (Or.inl ho) rfl d_Mo_readFirst_18 ?_
  refine x_callV (As := [_]) (k := k_MarkerTextModel) rfl xcv_Mo_241_Mo (Or.inl ho) (c_letters0 ho) rfl rfl (Nat.le_of_ble_eq_true rfl) d_Mo_readFirst_21 ?_
  rintro v h1 c1 n1 ⟨rfl, rfl, rfl, rfl⟩
  refine x_istore_n (L' := [_, _, _]) d_Mo_readFirst_24 rfl rfl ?_
  refine x_iload_n d_Mo_readFirst_25 rfl ?_
  refine x_if_le (tgt := 45) d_Mo_readFirst_26 (by decide) (fun _ => ?_) (fun hn => absurd (by decide) hn)
  refine x_iconst (v := 0) d_Mo_readFirst_45 (by decide) ?_
  refine x_istore_n (L' := [_, _, _]) d_Mo_readFirst_46 rfl rfl ?_
  refine x_iload_n d_Mo_readFirst_47 rfl ?_
  refine x_iconst (v := 1) d_Mo_readFirst_48 (by decide) ?_
  refine x_icmp_ne (tgt := 59) d_Mo_readFirst_49 (by decide) (fun _ => ?_) (fun hn => absurd hn (by decide))
  refine x_iload_n d_Mo_readFirst_59 rfl ?_
  refine x_if_lt (tgt := 74) d_Mo_readFirst_60 (by decide) (fun ht => absurd ht (by decide)) (fun _ => ?_)
  refine x_iload_n d_Mo_readFirst_63 rfl ?_
  refine x_iconst (v := 5) d_Mo_readFirst_64 (by decide) ?_
  refine x_icmp_eq (tgt := 74) d_Mo_readFirst_65 (by decide) (fun ht => absurd ht (by decide)) (fun _ => ?_)
  refine x_iload_n d_Mo_readFirst_68 rfl ?_
  refine x_bipush (v := 6) d_Mo_readFirst_69 (by decide) ?_
  refine x_icmp_ne (tgt := 88) d_Mo_readFirst_71 (by decide) (fun _ => ?_) (fun hn => absurd hn (by decide))
  refine x_aload_n d_Mo_readFirst_88 rfl rfl ?_
  refine x_aload_n d_Mo_readFirst_89 rfl rfl ?_
  refine x_get xf_Mo_193_Mo (Or.inl ho) rfl d_Mo_readFirst_90 ?_
  refine x_callV (As := [_]) (k := k_MarkerTextModel) rfl xcv_Mo_218_Mo (Or.inl ho) (c_fault0 ho) rfl rfl (Nat.le_of_ble_eq_true rfl) d_Mo_readFirst_93 ?_
  rintro v h1 c1 n1 ⟨rfl, rfl, rfl, rfl⟩
  refine x_vret d_Mo_readFirst_96 rfl ?_
  exact ⟨rfl, rfl, rfl, rfl⟩
theorem z9 {w : Value} : (List.replicate 9 w)[(0 : Int32).toNatClampNeg]? = some w := rfl
theorem c_read0 (hd : 2 ≤ d) {o : Nat} (ho : h o = some (k_MarkerTextModel, moV rf 0 0 0 0 0 (-1) 0 0 0 0 0 0)) (hA : moA h rf) : XM l G d M_Mo_read [.ref o] h c n (fun v h' c' n' => v = none ∧ h' o = some (k_MarkerTextModel, moV rf 0 0 0 0 0 (-1) 0 0 0 0 0 0) ∧ moA h' rf ∧ c' = c ∧ n' = n) := by
  obtain ⟨d, rfl⟩ : ∃ q, d = q + 1 := ⟨d - 1, by omega⟩
  refine XM.of (by decide +kernel) (Nat.le_of_ble_eq_true rfl) ?_
  refine x_aload_n d_Mo_read_0 rfl rfl ?_
  refine x_iconst (v := 0) d_Mo_read_1 (by decide) ?_
  refine x_put xf_Mo_193_Mo xp_Mo_27 rfl rfl ho rfl rfl d_Mo_read_2 ?_
  refine x_mo hA ho (vs' := moV rf 0 0 0 0 0 (-1) 0 0 0 0 0 0) (fun h1 ho1 hA1 => ?_)
  refine x_aload_n d_Mo_read_5 rfl rfl ?_
  refine x_iconst (v := (-1)) d_Mo_read_6 (by decide) ?_
  refine x_put xf_Mo_190_Mo xp_Mo_29 rfl rfl ho1 rfl rfl d_Mo_read_7 ?_
  refine x_mo hA1 ho1 (vs' := moV rf 0 0 0 0 (-1) (-1) 0 0 0 0 0 0) (fun h2 ho2 hA2 => ?_)
  refine x_aload_n d_Mo_read_10 rfl rfl ?_
  refine x_iconst (v := 0) d_Mo_read_11 (by decide) ?_
  refine x_put xf_Mo_199_Mo xp_Mo_32 rfl rfl ho2 rfl rfl d_Mo_read_12 ?_
  refine x_mo hA2 ho2 (vs' := moV rf 0 0 0 0 (-1) (-1) 0 0 0 0 0 0) (fun h3 ho3 hA3 => ?_)
  refine x_aload_n d_Mo_read_15 rfl rfl ?_
  refine x_iconst (v := 0) d_Mo_read_16 (by decide) ?_
  refine x_put xf_Mo_202_Mo xp_Mo_33 rfl rfl ho3 rfl rfl d_Mo_read_17 ?_
  refine x_mo hA3 ho3 (vs' := moV rf 0 0 0 0 (-1) (-1) 0 0 0 0 0 0) (fun h4 ho4 hA4 => ?_)
  refine x_aload_n d_Mo_read_20 rfl rfl ?_
  refine x_iconst (v := 0) d_Mo_read_21 (by decide) ?_
  refine x_put xf_Mo_205_Mo xp_Mo_35 rfl rfl ho4 rfl rfl d_Mo_read_22 ?_
  refine x_mo hA4 ho4 (vs' := moV rf 0 0 0 0 (-1) (-1) 0 0 0 0 0 0) (fun h5 ho5 hA5 => ?_)
  refine x_aload_n d_Mo_read_25 rfl rfl ?_
  refine x_get xf_Mo_45_Mo (Or.inl ho5) rfl d_Mo_read_26 ?_
  refine x_aload_n d_Mo_read_29 rfl rfl ?_
  refine x_get xf_Mo_196_Mo (Or.inl ho5) rfl d_Mo_read_30 ?_
  refine x_iconst (v := 0) d_Mo_read_33 (by decide) ?_
  refine x_iast (k := k_aint) rfl hA5.2.1 (by decide) z9 d_Mo_read_34 ?_
  refine x_hp (h' := h5) (by rw [set_rep]; exact xup_id hA5.2.1) ?_
  refine x_aload_n d_Mo_read_35 rfl rfl ?_
  refine x_get xf_Mo_63_Mo (Or.inl ho5) rfl d_Mo_read_36 ?_
  refine x_aload_n d_Mo_read_39 rfl rfl ?_
  refine x_get xf_Mo_196_Mo (Or.inl ho5) rfl d_Mo_read_40 ?_
  refine x_iconst (v := 0) d_Mo_read_43 (by decide) ?_
  refine x_iast (k := k_aint) rfl hA5.2.2.1 (by decide) z9 d_Mo_read_44 ?_
  refine x_hp (h' := h5) (by rw [set_rep]; exact xup_id hA5.2.2.1) ?_
  refine x_aload_n d_Mo_read_45 rfl rfl ?_
  refine x_get xf_Mo_78_Mo (Or.inl ho5) rfl d_Mo_read_46 ?_
  refine x_aload_n d_Mo_read_49 rfl rfl ?_
  refine x_get xf_Mo_196_Mo (Or.inl ho5) rfl d_Mo_read_50 ?_
  refine x_iconst (v := 0) d_Mo_read_53 (by decide) ?_
  refine x_iast (k := k_aint) rfl hA5.2.2.2.1 (by decide) z9 d_Mo_read_54 ?_
  refine x_hp (h' := h5) (by rw [set_rep]; exact xup_id hA5.2.2.2.1) ?_
  refine x_iconst (v := 1) d_Mo_read_55 (by decide) ?_
  refine x_istore_n (L' := [_, _, _]) d_Mo_read_56 rfl rfl ?_
  refine x_aload_n d_Mo_read_57 rfl rfl ?_
  refine x_callV (As := []) (k := k_MarkerTextModel) rfl xcv_Mo_225_Mo (Or.inl ho5) (c_skip0 ho5) rfl rfl (Nat.le_of_ble_eq_true rfl) d_Mo_read_58 ?_
  rintro v h6 c6 n6 ⟨rfl, rfl, rfl, rfl⟩
  refine x_aload_n d_Mo_read_61 rfl rfl ?_
  refine x_get xf_Mo_190_Mo (Or.inl ho5) rfl d_Mo_read_62 ?_
  refine x_if_ge (tgt := 135) d_Mo_read_65 (by decide) (fun ht => absurd ht (by decide)) (fun _ => ?_)
  refine x_iload_n d_Mo_read_68 rfl ?_
  refine x_if_ne (tgt := 83) d_Mo_read_69 (by decide) (fun _ => ?_) (fun hn => absurd hn (by decide))
  refine x_iload_n d_Mo_read_83 rfl ?_
  refine x_if_eq (tgt := 123) d_Mo_read_84 (by decide) (fun ht => absurd ht (by decide)) (fun _ => ?_)
  refine x_aload_n d_Mo_read_87 rfl rfl ?_
  refine x_get xf_Mo_63_Mo (Or.inl ho5) rfl d_Mo_read_88 ?_
  refine x_aload_n d_Mo_read_91 rfl rfl ?_
  refine x_get xf_Mo_196_Mo (Or.inl ho5) rfl d_Mo_read_92 ?_
  refine x_iald (k := k_aint) rfl (Or.inl hA5.2.2.1) (by decide) z9 d_Mo_read_95 ?_
  refine x_istore_n (L' := [_, _, _]) d_Mo_read_96 rfl rfl ?_
  refine x_aload_n d_Mo_read_97 rfl rfl ?_
  refine x_callV (As := []) (k := k_MarkerTextModel) rfl xcv_Mo_261_Mo (Or.inl ho5) (c_readFirst0 (by omega) ho5) rfl rfl (Nat.le_of_ble_eq_true rfl) d_Mo_read_98 ?_
  rintro v h7 c7 n7 ⟨rfl, rfl, rfl, rfl⟩
  refine x_mo hA5 ho5 (fun h8 ho8 hA8 => ?_)
  refine x_aload_n d_Mo_read_101 rfl rfl ?_
  refine x_get xf_Mo_63_Mo (Or.inl ho8) rfl d_Mo_read_102 ?_
  refine x_aload_n d_Mo_read_105 rfl rfl ?_
  refine x_get xf_Mo_196_Mo (Or.inl ho8) rfl d_Mo_read_106 ?_
  refine x_iald (k := k_aint) rfl (Or.inl hA8.2.2.1) (by decide) z9 d_Mo_read_109 ?_
  refine x_iload_n d_Mo_read_110 rfl ?_
  refine x_icmp_ne (tgt := 118) d_Mo_read_111 (by decide) (fun ht => absurd rfl ht) (fun _ => ?_)
  refine x_iconst (v := 1) d_Mo_read_114 (by decide) ?_
  refine x_goto (tgt := 119) d_Mo_read_115 (by decide) ?_
  refine x_istore_n (L' := [_, _, _]) d_Mo_read_119 rfl rfl ?_
  refine x_goto (tgt := 128) d_Mo_read_120 (by decide) ?_
  refine x_aload_n d_Mo_read_128 rfl rfl ?_
  refine x_callV (As := []) (k := k_MarkerTextModel) rfl xcv_Mo_225_Mo (Or.inl ho8) (c_skip0 ho8) rfl rfl (Nat.le_of_ble_eq_true rfl) d_Mo_read_129 ?_
  rintro v h9 c9 n9 ⟨rfl, rfl, rfl, rfl⟩
  refine x_goto (tgt := 61) d_Mo_read_132 (by decide) ?_
  refine x_aload_n d_Mo_read_61 rfl rfl ?_
  refine x_get xf_Mo_190_Mo (Or.inl ho8) rfl d_Mo_read_62 ?_
  refine x_if_ge (tgt := 135) d_Mo_read_65 (by decide) (fun _ => ?_) (fun hn => absurd (by decide) hn)
  refine x_aload_n d_Mo_read_135 rfl rfl ?_
  refine x_get xf_Mo_190_Mo (Or.inl ho8) rfl d_Mo_read_136 ?_
  refine x_if_ge (tgt := 165) d_Mo_read_139 (by decide) (fun _ => ?_) (fun hn => absurd (by decide) hn)
  refine x_aload_n d_Mo_read_165 rfl rfl ?_
  refine x_get xf_Mo_199_Mo (Or.inl ho8) rfl d_Mo_read_166 ?_
  refine x_if_le (tgt := 180) d_Mo_read_169 (by decide) (fun _ => ?_) (fun hn => absurd (by decide) hn)
  refine x_vret d_Mo_read_180 rfl ?_
  exact ⟨rfl, ho8, hA8, rfl, rfl⟩
theorem m_condition (hd : 3 ≤ d) {o : Nat} (hR : RF0 h o) : XM l G d M_Mo_condition [.ref o] h c n (pKt o c n (fun v => ∃ q, v = some (.int q))) := by
  obtain ⟨d, rfl⟩ : ∃ q, d = q + 1 := ⟨d - 1, by omega⟩
  obtain ⟨rf, ho, hA⟩ := hR
  refine XM.of (by decide +kernel) (Nat.le_of_ble_eq_true rfl) ?_
  refine x_aload_n d_Mo_condition_0 rfl rfl ?_
  refine x_aload_n d_Mo_condition_1 rfl rfl ?_
  refine x_get xf_Mo_268_Mo (Or.inl ho) rfl d_Mo_condition_2 ?_
  refine x_put xf_Mo_196_Mo xp_Mo_28 rfl rfl ho rfl rfl d_Mo_condition_5 ?_
  refine x_mo hA ho (vs' := moV rf 0 0 0 0 0 (-1) 0 0 0 0 0 0) (fun h2 ho2 hA2 => ?_)
  refine x_aload_n d_Mo_condition_8 rfl rfl ?_
  refine x_callV (As := []) (k := k_MarkerTextModel) rfl xcv_Mo_271_Mo (Or.inl ho2) (c_read0 (by omega) ho2 hA2) rfl rfl (Nat.le_of_ble_eq_true rfl) d_Mo_condition_9 ?_
  rintro v h3 c3 n3 ⟨rfl, ho3, hA3, rfl, rfl⟩
  refine x_aload_n d_Mo_condition_12 rfl rfl ?_
  refine x_iconst (v := 0) d_Mo_condition_13 (by decide) ?_
  refine x_put xf_Mo_124_Mo xp_Mo_2 rfl rfl ho3 rfl rfl d_Mo_condition_14 ?_
  refine x_mo hA3 ho3 (vs' := moV rf 0 0 0 0 0 (-1) 0 0 0 0 0 0) (fun h4 ho4 hA4 => ?_)
  refine x_aload_n d_Mo_condition_17 rfl rfl ?_
  refine x_aload_n d_Mo_condition_18 rfl rfl ?_
  refine x_get xf_Mo_190_Mo (Or.inl ho4) rfl d_Mo_condition_19 ?_
  refine x_put xf_Mo_81_Mo xp_Mo_30 rfl rfl ho4 rfl rfl d_Mo_condition_22 ?_
  refine x_mo hA4 ho4 (vs' := moV rf 0 0 0 0 0 0 0 0 0 0 0 0) (fun h5 ho5 hA5 => ?_)
  refine x_aload_n d_Mo_condition_25 rfl rfl ?_
  refine x_aload_n d_Mo_condition_26 rfl rfl ?_
  refine x_get xf_Mo_190_Mo (Or.inl ho5) rfl d_Mo_condition_27 ?_
  refine x_if_lt (tgt := 37) d_Mo_condition_30 (by decide) (fun ht => absurd ht (by decide)) (fun _ => ?_)
  refine x_iconst (v := 1) d_Mo_condition_33 (by decide) ?_
  refine x_goto (tgt := 38) d_Mo_condition_34 (by decide) ?_
  refine x_aload_n d_Mo_condition_38 rfl rfl ?_
  refine x_get xf_Mo_268_Mo (Or.inl ho5) rfl d_Mo_condition_39 ?_
  refine x_bipush (v := 8) d_Mo_condition_42 (by decide) ?_
  refine x_icmp_ne (tgt := 51) d_Mo_condition_44 (by decide) (fun _ => ?_) (fun hn => absurd hn (by decide))
  refine x_iconst (v := 0) d_Mo_condition_51 (by decide) ?_
  refine x_callV (As := [_, _]) (k := k_MarkerTextModel) rfl xcv_Mo_162_Mo (Or.inl ho5) (c_fails1 ho5) rfl rfl (Nat.le_of_ble_eq_true rfl) d_Mo_condition_52 ?_
  rintro v h6 c6 n6 ⟨rfl, rfl, rfl, rfl⟩
  refine x_if_eq (tgt := 60) d_Mo_condition_55 (by decide) (fun ht => absurd ht (by decide)) (fun _ => ?_)
  refine x_iconst (v := 0) d_Mo_condition_58 (by decide) ?_
  refine x_iret d_Mo_condition_59 rfl ?_
  exact ⟨⟨0, rfl⟩, ⟨_, xup_self⟩, rfl, rfl⟩
/-! classes -/
theorem c_truth0 {o : Nat} (ho : h o = some (k_MarkerTextModel, moV rf th sz wa sl wr pl pi op rm cl cs cn)) : XM l G d M_Mo_truth [.ref o, .int 0] h c n (xSame (.int 0) h c n) := by
  refine XM.of (by decide +kernel) (Nat.le_of_ble_eq_true rfl) ?_
  refine x_iconst (v := 0) d_Mo_truth_0 (by decide) ?_
  refine x_istore_n (L' := [_, _, _, _, _]) d_Mo_truth_1 rfl rfl ?_
  refine x_iconst (v := 0) d_Mo_truth_2 (by decide) ?_
  refine x_istore_n (L' := [_, _, _, _, _]) d_Mo_truth_3 rfl rfl ?_
  refine x_iload_n d_Mo_truth_4 rfl ?_
  refine x_aload_n d_Mo_truth_5 rfl rfl ?_
  refine x_get xf_Mo_268_Mo (Or.inl ho) rfl d_Mo_truth_6 ?_
  refine x_icmp_ge (tgt := 58) d_Mo_truth_9 (by decide) (fun _ => ?_) (fun hn => absurd (by decide) hn)
  refine x_iload_n d_Mo_truth_58 rfl ?_
  refine x_iret d_Mo_truth_59 rfl ?_
  exact ⟨rfl, rfl, rfl, rfl⟩
theorem c_advM0 {o : Nat} (ho : h o = some (k_MarkerTextModel, moV rf th sz wa sl wr pl pi op rm cl cs cn)) : XM l G d M_Mo_advance [.ref o] h c n (xSame (.int 0) h c n) := by
  refine XM.of (by decide +kernel) (Nat.le_of_ble_eq_true rfl) ?_
  refine x_aload_n d_Mo_advance_0 rfl rfl ?_
  refine x_get xf_Mo_147_Mo (Or.inl ho) rfl d_Mo_advance_1 ?_
  refine x_iconst (v := 1) d_Mo_advance_4 (by decide) ?_
  refine x_isub d_Mo_advance_5 ?_
  refine x_istore_n (L' := [_, _]) d_Mo_advance_6 rfl rfl ?_
  refine x_iload_n d_Mo_advance_7 rfl ?_
  refine x_if_lt (tgt := 40) d_Mo_advance_8 (by decide) (fun _ => ?_) (fun hn => absurd (by decide) hn)
  refine x_iload_n d_Mo_advance_40 rfl ?_
  refine x_if_lt (tgt := 54) d_Mo_advance_41 (by decide) (fun _ => ?_) (fun hn => absurd (by decide) hn)
  refine x_iload_n d_Mo_advance_54 rfl ?_
  refine x_if_lt (tgt := 62) d_Mo_advance_55 (by decide) (fun _ => ?_) (fun hn => absurd (by decide) hn)
  refine x_iconst (v := 0) d_Mo_advance_62 (by decide) ?_
  refine x_zret d_Mo_advance_63 rfl rfl ?_
  exact ⟨rfl, rfl, rfl, rfl⟩
theorem c_prepare0 {o : Nat} (ho : h o = some (k_MarkerTextModel, moV rf th sz wa sl wr pl pi op rm cl cs cn)) (hA : moA h rf) : XM l G d M_Mo_prepare [.ref o, .int 0] h c n (xSame (.int 1) h c n) := by
  refine XM.of (by decide +kernel) (Nat.le_of_ble_eq_true rfl) ?_
  obtain ⟨-, -, -, -, eM, eA, eC, -⟩ := id hA
  have at35 : ∀ L2, XW l G M_Mo_prepare d 35 [some (.ref o), some (.int 0), L2, none, none, none] [] h c n (xSame (.int 1) h c n) := by
    intro L2
    refine x_iconst (v := 0) d_Mo_prepare_35 (by decide) ?_
    refine x_istore_n (L' := [_, _, _, _, _, _]) d_Mo_prepare_36 rfl rfl ?_
    refine x_iload_n d_Mo_prepare_37 rfl ?_
    refine x_aload_n d_Mo_prepare_38 rfl rfl ?_
    refine x_get xf_Mo_268_Mo (Or.inl ho) rfl d_Mo_prepare_39 ?_
    refine x_icmp_ge (tgt := 65) d_Mo_prepare_42 (by decide) (fun _ => ?_) (fun hn => absurd (by decide) hn)
    refine x_lconst (v := 1) d_Mo_prepare_65 (by decide) ?_
    refine x_lstore_n (L' := [_, _, _, _, _, _]) d_Mo_prepare_66 rfl rfl ?_
    refine x_iconst (v := 0) d_Mo_prepare_67 (by decide) ?_
    refine x_istore (L' := [_, _, _, _, _, _]) d_Mo_prepare_68 rfl rfl ?_
    refine x_iload d_Mo_prepare_70 rfl ?_
    refine x_aload_n d_Mo_prepare_72 rfl rfl ?_
    refine x_get xf_Mo_147_Mo (Or.inl ho) rfl d_Mo_prepare_73 ?_
    refine x_icmp_ge (tgt := 157) d_Mo_prepare_76 (by decide) (fun _ => ?_) (fun hn => absurd (by decide) hn)
    refine x_iconst (v := 0) d_Mo_prepare_157 (by decide) ?_
    refine x_istore (L' := [_, _, _, _, _, _]) d_Mo_prepare_158 rfl rfl ?_
    refine x_iload d_Mo_prepare_160 rfl ?_
    refine x_aload_n d_Mo_prepare_162 rfl rfl ?_
    refine x_get xf_Mo_268_Mo (Or.inl ho) rfl d_Mo_prepare_163 ?_
    refine x_icmp_ge (tgt := 191) d_Mo_prepare_166 (by decide) (fun _ => ?_) (fun hn => absurd (by decide) hn)
    refine x_lload_n d_Mo_prepare_191 rfl ?_
    refine x_ldc2 (v := 20000) xw_1518 d_Mo_prepare_192 ?_
    refine x_lcmp d_Mo_prepare_195 ?_
    refine x_if_gt (tgt := 203) d_Mo_prepare_196 (by decide) (fun ht => absurd ht (by decide)) (fun _ => ?_)
    refine x_iconst (v := 1) d_Mo_prepare_199 (by decide) ?_
    refine x_goto (tgt := 204) d_Mo_prepare_200 (by decide) ?_
    refine x_zret d_Mo_prepare_204 rfl rfl ?_
    exact ⟨rfl, rfl, rfl, rfl⟩
  have lp : ∀ (k i : Nat), i + k = 6 → XW l G M_Mo_prepare d 2 [some (.ref o), some (.int 0), some (.int (nI i)), none, none, none] [] h c n (xSame (.int 1) h c n) := by
    intro k
    induction k with
    | zero =>
      intro i hi
      refine x_iload_n d_Mo_prepare_2 rfl ?_
      refine x_bipush (v := 6) d_Mo_prepare_3 (by decide) ?_
      refine x_icmp_ge (tgt := 35) d_Mo_prepare_5 (by decide) (fun _ => ?_) (fun hn => absurd (nI_le (a := 6) (by omega) (by omega)) hn)
      exact at35 _
    | succ k ih =>
      intro i hi
      have at6 : ∀ w : Value, (List.replicate 6 w)[(nI i).toNatClampNeg]? = some w := fun w => by rw [nI_clamp (by omega), List.getElem?_replicate, if_pos (by omega)]
      refine x_iload_n d_Mo_prepare_2 rfl ?_
      refine x_bipush (v := 6) d_Mo_prepare_3 (by decide) ?_
      refine x_icmp_ge (tgt := 35) d_Mo_prepare_5 (by decide) (fun ht => absurd ht (nI_ge (b := 6) (by omega) (by omega))) (fun _ => ?_)
      refine x_aload_n d_Mo_prepare_8 rfl rfl ?_
      refine x_get xf_Mo_94_Mo (Or.inl ho) rfl d_Mo_prepare_9 ?_
      refine x_iload_n d_Mo_prepare_12 rfl ?_
      refine x_iconst (v := 0) d_Mo_prepare_13 (by decide) ?_
      refine x_iast (k := k_aint) rfl eM (nI_pos (by omega)) (at6 _) d_Mo_prepare_14 ?_
      refine x_hp (h' := h) (by rw [set_rep]; exact xup_id eM) ?_
      refine x_aload_n d_Mo_prepare_15 rfl rfl ?_
      refine x_get xf_Mo_97_Mo (Or.inl ho) rfl d_Mo_prepare_16 ?_
      refine x_iload_n d_Mo_prepare_19 rfl ?_
      refine x_iconst (v := 0) d_Mo_prepare_20 (by decide) ?_
      refine x_zast (k := k_aboolean) rfl eA (nI_pos (by omega)) (at6 _) (y := 0) rfl d_Mo_prepare_21 ?_
      refine x_hp (h' := h) (by rw [set_rep]; exact xup_id eA) ?_
      refine x_aload_n d_Mo_prepare_22 rfl rfl ?_
      refine x_get xf_Mo_100_Mo (Or.inl ho) rfl d_Mo_prepare_23 ?_
      refine x_iload_n d_Mo_prepare_26 rfl ?_
      refine x_iconst (v := 0) d_Mo_prepare_27 (by decide) ?_
      refine x_iast (k := k_aint) rfl eC (nI_pos (by omega)) (at6 _) d_Mo_prepare_28 ?_
      refine x_hp (h' := h) (by rw [set_rep]; exact xup_id eC) ?_
      refine x_iinc (v := nI (i + 1)) (L' := [_, _, _, _, _, _]) d_Mo_prepare_29 rfl (by exact xw_iinc1) rfl rfl ?_
      refine x_goto (tgt := 2) d_Mo_prepare_32 (by decide) ?_
      exact ih (i + 1) (by omega)
  refine x_iconst (v := 0) d_Mo_prepare_0 (by decide) ?_
  refine x_istore_n (L' := [_, _, _, _, _, _]) d_Mo_prepare_1 rfl rfl ?_
  exact lp 6 0 (by omega)
theorem m_classes (hd : 2 ≤ d) {o : Nat} {k : Int32} (hR : RF0 h o) : XM l G d M_Mo_classes [.ref o, .int k] h c n (pK (some (.int 1)) c n) := by
  obtain ⟨d, rfl⟩ : ∃ q, d = q + 1 := ⟨d - 1, by omega⟩
  obtain ⟨rf, ho, hA⟩ := hR
  refine XM.of (by decide +kernel) (Nat.le_of_ble_eq_true rfl) ?_
  refine x_aload_n d_Mo_classes_0 rfl rfl ?_
  refine x_iconst (v := 0) d_Mo_classes_1 (by decide) ?_
  refine x_put xf_Mo_121_Mo xp_Mo_0 rfl rfl ho rfl rfl d_Mo_classes_2 ?_
  refine x_mo hA ho (vs' := moV rf 0 0 0 0 0 (-1) 0 0 0 0 0 0) (fun h2 ho2 hA2 => ?_)
  refine x_iload_n d_Mo_classes_5 rfl ?_
  refine x_iconst (v := 1) d_Mo_classes_6 (by decide) ?_
  refine x_aload_n d_Mo_classes_7 rfl rfl ?_
  refine x_get xf_Mo_268_Mo (Or.inl ho2) rfl d_Mo_classes_8 ?_
  refine x_ishl d_Mo_classes_11 ?_
  refine x_iconst (v := 1) d_Mo_classes_12 (by decide) ?_
  refine x_isub d_Mo_classes_13 ?_
  refine x_iand d_Mo_classes_14 ?_
  refine x_st (st' := [.int 0]) (by rw [show ((1 : Int32) <<< ((0 : Int32) &&& 31)) - 1 = 0 from by decide, Int32.and_zero]) ?_
  refine x_istore_n (L' := [_, _, _, _, _, _, _]) d_Mo_classes_15 rfl rfl ?_
  refine x_aload_n d_Mo_classes_16 rfl rfl ?_
  refine x_iload_n d_Mo_classes_17 rfl ?_
  refine x_callV (As := [_]) (k := k_MarkerTextModel) rfl xcv_Mo_302_Mo (Or.inl ho2) (c_prepare0 ho2 hA2) rfl rfl (Nat.le_of_ble_eq_true rfl) d_Mo_classes_18 ?_
  rintro v h3 c3 n3 ⟨rfl, rfl, rfl, rfl⟩
  refine x_if_ne (tgt := 26) d_Mo_classes_21 (by decide) (fun _ => ?_) (fun hn => absurd hn (by decide))
  refine x_aload_n d_Mo_classes_26 rfl rfl ?_
  refine x_iconst (v := 0) d_Mo_classes_27 (by decide) ?_
  refine x_put xf_Mo_314_Mo xp_Mo_42 rfl rfl ho2 rfl rfl d_Mo_classes_28 ?_
  refine x_mo hA2 ho2 (vs' := moV rf 0 0 0 0 0 (-1) 0 0 0 0 0 0) (fun h4 ho4 hA4 => ?_)
  refine x_aload_n d_Mo_classes_31 rfl rfl ?_
  refine x_iload_n d_Mo_classes_32 rfl ?_
  refine x_put xf_Mo_317_Mo xp_Mo_43 rfl rfl ho4 rfl rfl d_Mo_classes_33 ?_
  refine x_mo hA4 ho4 (vs' := moV rf 0 0 0 0 0 (-1) 0 0 0 0 0 0) (fun h5 ho5 hA5 => ?_)
  refine x_aload_n d_Mo_classes_36 rfl rfl ?_
  refine x_aload_n d_Mo_classes_37 rfl rfl ?_
  refine x_get xf_Mo_147_Mo (Or.inl ho5) rfl d_Mo_classes_38 ?_
  refine x_put xf_Mo_320_Mo xp_Mo_44 rfl rfl ho5 rfl rfl d_Mo_classes_41 ?_
  refine x_mo hA5 ho5 (vs' := moV rf 0 0 0 0 0 (-1) 0 0 0 0 0 0) (fun h6 ho6 hA6 => ?_)
  obtain ⟨-, -, -, -, -, -, eC, eB, eM, eS⟩ := id hA6
  refine x_iconst (v := 1) d_Mo_classes_44 (by decide) ?_
  refine x_istore_n (L' := [_, _, _, _, _, _, _]) d_Mo_classes_45 rfl rfl ?_
  refine x_iload_n d_Mo_classes_46 rfl ?_
  refine x_if_eq (tgt := 178) d_Mo_classes_47 (by decide) (fun ht => absurd ht (by decide)) (fun _ => ?_)
  refine x_aload_n d_Mo_classes_50 rfl rfl ?_
  refine x_iload_n d_Mo_classes_51 rfl ?_
  refine x_callV (As := [_]) (k := k_MarkerTextModel) rfl xcv_Mo_305_Mo (Or.inl ho6) (c_truth0 ho6) rfl rfl (Nat.le_of_ble_eq_true rfl) d_Mo_classes_52 ?_
  rintro v h7 c7 n7 ⟨rfl, rfl, rfl, rfl⟩
  refine x_istore (L' := [_, _, _, _, _, _, _]) d_Mo_classes_55 rfl rfl ?_
  refine x_iconst (v := 0) d_Mo_classes_57 (by decide) ?_
  refine x_istore (L' := [_, _, _, _, _, _, _]) d_Mo_classes_58 rfl rfl ?_
  refine x_iload d_Mo_classes_60 rfl ?_
  refine x_aload_n d_Mo_classes_62 rfl rfl ?_
  refine x_get xf_Mo_314_Mo (Or.inl ho6) rfl d_Mo_classes_63 ?_
  refine x_icmp_ge (tgt := 87) d_Mo_classes_66 (by decide) (fun _ => ?_) (fun hn => absurd (by decide) hn)
  have z256 : ∀ w : Value, (List.replicate 256 w)[(0 : Int32).toNatClampNeg]? = some w := fun w => rfl
  refine x_iload d_Mo_classes_87 rfl ?_
  refine x_aload_n d_Mo_classes_89 rfl rfl ?_
  refine x_get xf_Mo_314_Mo (Or.inl ho6) rfl d_Mo_classes_90 ?_
  refine x_icmp_ne (tgt := 159) d_Mo_classes_93 (by decide) (fun ht => absurd rfl ht) (fun _ => ?_)
  refine x_aload_n d_Mo_classes_96 rfl rfl ?_
  refine x_get xf_Mo_106_Mo (Or.inl ho6) rfl d_Mo_classes_97 ?_
  refine x_iload d_Mo_classes_100 rfl ?_
  refine x_iload d_Mo_classes_102 rfl ?_
  refine x_iast (k := k_aint) rfl eB (by decide) (z256 _) d_Mo_classes_104 ?_
  refine x_hp (h' := h7) (by rw [set_rep]; exact xup_id eB) ?_
  refine x_aload_n d_Mo_classes_105 rfl rfl ?_
  refine x_get xf_Mo_109_Mo (Or.inl ho6) rfl d_Mo_classes_106 ?_
  refine x_iload d_Mo_classes_109 rfl ?_
  refine x_iconst (v := 0) d_Mo_classes_111 (by decide) ?_
  refine x_iast (k := k_aint) rfl eM (by decide) (z256 _) d_Mo_classes_112 ?_
  refine x_hp (h' := h7) (by rw [set_rep]; exact xup_id eM) ?_
  have at149 : XW l G M_Mo_classes (d + 1) 149 [some (.ref o), some (.int k), some (.int 0), some (.int 1), some (.int 0), some (.int 0), some (.int (nI 6))] [] h7 c7 n7 (pK (some (.int 1)) c7 n7) := by
    refine x_aload_n d_Mo_classes_149 rfl rfl ?_
    refine x_dup d_Mo_classes_150 rfl ?_
    refine x_get xf_Mo_314_Mo (Or.inl ho6) rfl d_Mo_classes_151 ?_
    refine x_iconst (v := 1) d_Mo_classes_154 (by decide) ?_
    refine x_iadd d_Mo_classes_155 ?_
    refine x_top (w := .int 1) (by decide) ?_
    refine x_put xf_Mo_314_Mo xp_Mo_42 rfl rfl ho6 rfl rfl d_Mo_classes_156 ?_
    refine x_mo hA6 ho6 (vs' := moV rf 0 0 0 0 0 (-1) 0 0 0 1 0 0) (fun h8 ho8 hA8 => ?_)
    obtain ⟨-, -, -, -, -, -, -, -, eM8, -⟩ := id hA8
    refine x_aload_n d_Mo_classes_159 rfl rfl ?_
    refine x_get xf_Mo_109_Mo (Or.inl ho8) rfl d_Mo_classes_160 ?_
    refine x_iload d_Mo_classes_163 rfl ?_
    refine x_dup2_11 d_Mo_classes_165 rfl rfl ?_
    refine x_iald (k := k_aint) rfl (Or.inl eM8) (by decide) (z256 _) d_Mo_classes_166 ?_
    refine x_iconst (v := 1) d_Mo_classes_167 (by decide) ?_
    refine x_iadd d_Mo_classes_168 ?_
    refine x_iast (k := k_aint) rfl eM8 (by decide) (z256 _) d_Mo_classes_169 ?_
    have ho9 : ∀ w, xup h8 (rf 46) w o = some (k_MarkerTextModel, moV rf 0 0 0 0 0 (-1) 0 0 0 1 0 0) := fun w => by rw [xup_ne (xne ho8 eM8 (by decide))]; exact ho8
    refine x_aload_n d_Mo_classes_170 rfl rfl ?_
    refine x_callV (As := []) (k := k_MarkerTextModel) rfl xcv_Mo_308_Mo (Or.inl (ho9 _)) (c_advM0 (ho9 _)) rfl rfl (Nat.le_of_ble_eq_true rfl) d_Mo_classes_171 ?_
    rintro v h10 c10 n10 ⟨rfl, rfl, rfl, rfl⟩
    refine x_istore_n (L' := [_, _, _, _, _, _, _]) d_Mo_classes_174 rfl rfl ?_
    refine x_goto (tgt := 46) d_Mo_classes_175 (by decide) ?_
    refine x_iload_n d_Mo_classes_46 rfl ?_
    refine x_if_eq (tgt := 178) d_Mo_classes_47 (by decide) (fun _ => ?_) (fun hn => absurd rfl hn)
    refine x_aload_n d_Mo_classes_178 rfl rfl ?_
    refine x_get xf_Mo_314_Mo (Or.inl (ho9 _)) rfl d_Mo_classes_179 ?_
    refine x_iret d_Mo_classes_182 rfl ?_
    exact ⟨rfl, rfl, rfl⟩
  have lp : ∀ (q j : Nat), j + q = 6 → XW l G M_Mo_classes (d + 1) 116 [some (.ref o), some (.int k), some (.int 0), some (.int 1), some (.int 0), some (.int 0), some (.int (nI j))] [] h7 c7 n7 (pK (some (.int 1)) c7 n7) := by
    intro q
    induction q with
    | zero =>
      intro j hj
      obtain rfl : j = 6 := by omega
      refine x_iload d_Mo_classes_116 rfl ?_
      refine x_bipush (v := 6) d_Mo_classes_118 (by decide) ?_
      refine x_icmp_ge (tgt := 149) d_Mo_classes_120 (by decide) (fun _ => ?_) (fun hn => absurd (nI_le (a := 6) (by omega) (by omega)) hn)
      exact at149
    | succ q ih =>
      intro j hj
      have at6 : ∀ w : Value, (List.replicate 6 w)[(nI j).toNatClampNeg]? = some w := fun w => by rw [nI_clamp (by omega), List.getElem?_replicate, if_pos (by omega)]
      have e6 : (6 * 0 + nI j : Int32) = nI j := by rw [show (6 * 0 : Int32) = 0 from by decide, Int32.zero_add]
      refine x_iload d_Mo_classes_116 rfl ?_
      refine x_bipush (v := 6) d_Mo_classes_118 (by decide) ?_
      refine x_icmp_ge (tgt := 149) d_Mo_classes_120 (by decide) (fun ht => absurd ht (nI_ge (b := 6) (by omega) (by omega))) (fun _ => ?_)
      refine x_aload_n d_Mo_classes_123 rfl rfl ?_
      refine x_get xf_Mo_112_Mo (Or.inl ho6) rfl d_Mo_classes_124 ?_
      refine x_bipush (v := 6) d_Mo_classes_127 (by decide) ?_
      refine x_iload d_Mo_classes_129 rfl ?_
      refine x_imul d_Mo_classes_131 ?_
      refine x_iload d_Mo_classes_132 rfl ?_
      refine x_iadd d_Mo_classes_134 ?_
      refine x_aload_n d_Mo_classes_135 rfl rfl ?_
      refine x_get xf_Mo_100_Mo (Or.inl ho6) rfl d_Mo_classes_136 ?_
      refine x_iload d_Mo_classes_139 rfl ?_
      refine x_iald (k := k_aint) rfl (Or.inl eC) (nI_pos (by omega)) (at6 _) d_Mo_classes_141 ?_
      refine x_iast (k := k_aint) rfl eS (by rw [e6]; exact nI_pos (by omega)) (by rw [e6, nI_clamp (by omega), List.getElem?_replicate, if_pos (by omega)]) d_Mo_classes_142 ?_
      refine x_hp (h' := h7) (by rw [set_rep]; exact xup_id eS) ?_
      refine x_iinc (v := nI (j + 1)) (L' := [_, _, _, _, _, _, _]) d_Mo_classes_143 rfl (by exact xw_iinc1) rfl rfl ?_
      refine x_goto (tgt := 116) d_Mo_classes_146 (by decide) ?_
      exact ih (j + 1) (by omega)
  refine x_iconst (v := 0) d_Mo_classes_113 (by decide) ?_
  refine x_istore (L' := [_, _, _, _, _, _, _]) d_Mo_classes_114 rfl rfl ?_
  exact lp 6 0 (by omega)
end MO3
