section
theorem d_Node_showInside_0 : decode M_Node_showInside.2.1 0 = .ok (.iload_n 2, 1) := by decide +kernel
theorem d_Node_showInside_1 : decode M_Node_showInside.2.1 1 = .ok (.ifCond .eq 10, 3) := by decide +kernel
theorem d_Node_showInside_11 : decode M_Node_showInside.2.1 11 = .ok (.aload_n 0, 1) := by decide +kernel
theorem d_Node_showInside_12 : decode M_Node_showInside.2.1 12 = .ok (.aload_n 1, 1) := by decide +kernel
theorem d_Node_showInside_13 : decode M_Node_showInside.2.1 13 = .ok (.invokevirtual 19, 3) := by decide +kernel
theorem xw_1127 : (Jvm.Cond.code ({ cls := "MarkerText$Test", name := "show", desc := "(Ljava/lang/StringBuilder;)V" } : Jvm.MethodName) prog_11_method_4_code (2 : Nat) (Option.none : Option Jvm.ClassFile.FieldType)) ∈ xT := xT_at 1127 (by decide +kernel) (by decide +kernel)
theorem xcb_Test_show : xcb M_Test_show 1 := ⟨xw_1127, xw_30, by decide, by decide, by decide, by decide +kernel⟩
theorem xw_1126 : (Jvm.Cond.instanceMethod ({ cls := "MarkerText$Test", name := "show", desc := "(Ljava/lang/StringBuilder;)V" } : Jvm.MethodName)) ∈ xT := xT_at 1126 (by decide +kernel) (by decide +kernel)
theorem xw_1100 : (Jvm.Cond.declares ({ cls := "MarkerText$Node", name := "show", desc := "(Ljava/lang/StringBuilder;)V" } : Jvm.MethodName)) ∈ xT := xT_at 1100 (by decide +kernel) (by decide +kernel)
theorem xw_1120 : (Jvm.Cond.methodLink "MarkerText$Node" (19 : Nat) ({ cls := "MarkerText$Node", name := "show", desc := "(Ljava/lang/StringBuilder;)V" } : Jvm.MethodName)) ∈ xT := xT_at 1120 (by decide +kernel) (by decide +kernel)
theorem xw_1101 : (Jvm.Cond.sameMethod "MarkerText$Node" "MarkerText$Node" "show" "(Ljava/lang/StringBuilder;)V") ∈ xT := xT_at 1101 (by decide +kernel) (by decide +kernel)
theorem xw_1133 : (Jvm.Cond.selects "MarkerText$Test" ({ cls := "MarkerText$Node", name := "show", desc := "(Ljava/lang/StringBuilder;)V" } : Jvm.MethodName) ({ cls := "MarkerText$Test", name := "show", desc := "(Ljava/lang/StringBuilder;)V" } : Jvm.MethodName)) ∈ xT := xT_at 1133 (by decide +kernel) (by decide +kernel)
theorem xcv_Node_19_Test : xCV "MarkerText$Node" 19 "MarkerText$Test" M_Test_show 1 := ⟨xcb_Test_show, xw_1126, Or.inr (Or.inr ⟨⟨"MarkerText$Node", "show", "(Ljava/lang/StringBuilder;)V"⟩, "MarkerText$Node", xw_1120, xw_1101, xw_1133, rfl, ⟨by decide, by decide⟩, Or.inl xw_1100⟩)⟩
theorem xw_1110 : (Jvm.Cond.code ({ cls := "MarkerText$Join", name := "show", desc := "(Ljava/lang/StringBuilder;)V" } : Jvm.MethodName) prog_5_method_3_code (2 : Nat) (Option.none : Option Jvm.ClassFile.FieldType)) ∈ xT := xT_at 1110 (by decide +kernel) (by decide +kernel)
theorem xcb_Join_show : xcb M_Join_show 1 := ⟨xw_1110, xw_31, by decide, by decide, by decide, by decide +kernel⟩
theorem xw_1109 : (Jvm.Cond.instanceMethod ({ cls := "MarkerText$Join", name := "show", desc := "(Ljava/lang/StringBuilder;)V" } : Jvm.MethodName)) ∈ xT := xT_at 1109 (by decide +kernel) (by decide +kernel)
theorem xw_1108 : (Jvm.Cond.selects "MarkerText$Join" ({ cls := "MarkerText$Node", name := "show", desc := "(Ljava/lang/StringBuilder;)V" } : Jvm.MethodName) ({ cls := "MarkerText$Join", name := "show", desc := "(Ljava/lang/StringBuilder;)V" } : Jvm.MethodName)) ∈ xT := xT_at 1108 (by decide +kernel) (by decide +kernel)
theorem xcv_Node_19_Join : xCV "MarkerText$Node" 19 "MarkerText$Join" M_Join_show 1 := ⟨xcb_Join_show, xw_1109, Or.inr (Or.inr ⟨⟨"MarkerText$Node", "show", "(Ljava/lang/StringBuilder;)V"⟩, "MarkerText$Node", xw_1120, xw_1101, xw_1108, rfl, ⟨by decide, by decide⟩, Or.inl xw_1100⟩)⟩
theorem xw_1122 : (Jvm.Cond.code ({ cls := "MarkerText$Negation", name := "show", desc := "(Ljava/lang/StringBuilder;)V" } : Jvm.MethodName) prog_7_method_3_code (2 : Nat) (Option.none : Option Jvm.ClassFile.FieldType)) ∈ xT := xT_at 1122 (by decide +kernel) (by decide +kernel)
theorem xcb_Negation_show : xcb M_Negation_show 1 := ⟨xw_1122, xw_28, by decide, by decide, by decide, by decide +kernel⟩
theorem xw_1121 : (Jvm.Cond.instanceMethod ({ cls := "MarkerText$Negation", name := "show", desc := "(Ljava/lang/StringBuilder;)V" } : Jvm.MethodName)) ∈ xT := xT_at 1121 (by decide +kernel) (by decide +kernel)
theorem xw_1132 : (Jvm.Cond.selects "MarkerText$Negation" ({ cls := "MarkerText$Node", name := "show", desc := "(Ljava/lang/StringBuilder;)V" } : Jvm.MethodName) ({ cls := "MarkerText$Negation", name := "show", desc := "(Ljava/lang/StringBuilder;)V" } : Jvm.MethodName)) ∈ xT := xT_at 1132 (by decide +kernel) (by decide +kernel)
theorem xcv_Node_19_Negation : xCV "MarkerText$Node" 19 "MarkerText$Negation" M_Negation_show 1 := ⟨xcb_Negation_show, xw_1121, Or.inr (Or.inr ⟨⟨"MarkerText$Node", "show", "(Ljava/lang/StringBuilder;)V"⟩, "MarkerText$Node", xw_1120, xw_1101, xw_1132, rfl, ⟨by decide, by decide⟩, Or.inl xw_1100⟩)⟩
theorem xw_1104 : (Jvm.Cond.code ({ cls := "MarkerText$Constant", name := "show", desc := "(Ljava/lang/StringBuilder;)V" } : Jvm.MethodName) prog_4_method_3_code (2 : Nat) (Option.none : Option Jvm.ClassFile.FieldType)) ∈ xT := xT_at 1104 (by decide +kernel) (by decide +kernel)
theorem xcb_Constant_show : xcb M_Constant_show 1 := ⟨xw_1104, xw_29, by decide, by decide, by decide, by decide +kernel⟩
theorem xw_1103 : (Jvm.Cond.instanceMethod ({ cls := "MarkerText$Constant", name := "show", desc := "(Ljava/lang/StringBuilder;)V" } : Jvm.MethodName)) ∈ xT := xT_at 1103 (by decide +kernel) (by decide +kernel)
theorem xw_1102 : (Jvm.Cond.selects "MarkerText$Constant" ({ cls := "MarkerText$Node", name := "show", desc := "(Ljava/lang/StringBuilder;)V" } : Jvm.MethodName) ({ cls := "MarkerText$Constant", name := "show", desc := "(Ljava/lang/StringBuilder;)V" } : Jvm.MethodName)) ∈ xT := xT_at 1102 (by decide +kernel) (by decide +kernel)
theorem xcv_Node_19_Constant : xCV "MarkerText$Node" 19 "MarkerText$Constant" M_Constant_show 1 := ⟨xcb_Constant_show, xw_1103, Or.inr (Or.inr ⟨⟨"MarkerText$Node", "show", "(Ljava/lang/StringBuilder;)V"⟩, "MarkerText$Node", xw_1120, xw_1101, xw_1102, rfl, ⟨by decide, by decide⟩, Or.inl xw_1100⟩)⟩
theorem xD_Node_19 : ∀ q ∈ ([(k_Test, M_Test_show), (k_Join, M_Join_show), (k_Negation, M_Negation_show), (k_Constant, M_Constant_show)] : List (Nat × XMt)), ∃ C T N, xk[q.1]? = some (.inl (C, T, N)) ∧ xCV "MarkerText$Node" 19 C q.2 1 := List.forall_mem_cons.mpr ⟨⟨_, _, _, rfl, xcv_Node_19_Test⟩, List.forall_mem_cons.mpr ⟨⟨_, _, _, rfl, xcv_Node_19_Join⟩, List.forall_mem_cons.mpr ⟨⟨_, _, _, rfl, xcv_Node_19_Negation⟩, List.forall_mem_cons.mpr ⟨⟨_, _, _, rfl, xcv_Node_19_Constant⟩, fun _ hz => by cases hz⟩⟩⟩⟩
theorem d_Node_showInside_16 : decode M_Node_showInside.2.1 16 = .ok (.iload_n 2, 1) := by decide +kernel
theorem d_Node_showInside_17 : decode M_Node_showInside.2.1 17 = .ok (.ifCond .eq 10, 3) := by decide +kernel
theorem d_Node_showInside_27 : decode M_Node_showInside.2.1 27 = .ok (.return_, 1) := by decide +kernel
theorem d_Node_showInside_4 : decode M_Node_showInside.2.1 4 = .ok (.aload_n 1, 1) := by decide +kernel
theorem d_Node_showInside_5 : decode M_Node_showInside.2.1 5 = .ok (.bipush 40, 2) := by decide +kernel
theorem d_Node_showInside_7 : decode M_Node_showInside.2.1 7 = .ok (.invokevirtual 13, 3) := by decide +kernel
theorem xw_182 : (Jvm.Cond.code ({ cls := "java/lang/StringBuilder", name := "append", desc := "(C)Ljava/lang/StringBuilder;" } : Jvm.MethodName) prog_26_method_14_code (2 : Nat) (Option.some (Jvm.ClassFile.FieldType.object "java/lang/StringBuilder"))) ∈ xT := xT_at 182 (by decide +kernel) (by decide +kernel)
theorem xcb_SB_append_C : xcb M_SB_append_C 1 := ⟨xw_182, xw_3, by decide, by decide, by decide, by decide +kernel⟩
theorem xw_180 : (Jvm.Cond.instanceMethod ({ cls := "java/lang/StringBuilder", name := "append", desc := "(C)Ljava/lang/StringBuilder;" } : Jvm.MethodName)) ∈ xT := xT_at 180 (by decide +kernel) (by decide +kernel)
theorem xw_1119 : (Jvm.Cond.methodLink "MarkerText$Node" (13 : Nat) ({ cls := "java/lang/StringBuilder", name := "append", desc := "(C)Ljava/lang/StringBuilder;" } : Jvm.MethodName)) ∈ xT := xT_at 1119 (by decide +kernel) (by decide +kernel)
theorem xw_181 : (Jvm.Cond.selects "java/lang/StringBuilder" ({ cls := "java/lang/StringBuilder", name := "append", desc := "(C)Ljava/lang/StringBuilder;" } : Jvm.MethodName) ({ cls := "java/lang/StringBuilder", name := "append", desc := "(C)Ljava/lang/StringBuilder;" } : Jvm.MethodName)) ∈ xT := xT_at 181 (by decide +kernel) (by decide +kernel)
theorem xcv_Node_13_SB : xCV "MarkerText$Node" 13 "java/lang/StringBuilder" M_SB_append_C 1 := ⟨xcb_SB_append_C, xw_180, Or.inl ⟨xw_1119, Or.inl xw_181⟩⟩
theorem d_Node_showInside_10 : decode M_Node_showInside.2.1 10 = .ok (.pop, 1) := by decide +kernel
theorem d_Node_showInside_20 : decode M_Node_showInside.2.1 20 = .ok (.aload_n 1, 1) := by decide +kernel
theorem d_Node_showInside_21 : decode M_Node_showInside.2.1 21 = .ok (.bipush 41, 2) := by decide +kernel
theorem d_Node_showInside_23 : decode M_Node_showInside.2.1 23 = .ok (.invokevirtual 13, 3) := by decide +kernel
theorem d_Node_showInside_26 : decode M_Node_showInside.2.1 26 = .ok (.pop, 1) := by decide +kernel
theorem d_Test_show_0 : decode M_Test_show.2.1 0 = .ok (.aload_n 1, 1) := by decide +kernel
theorem d_Test_show_1 : decode M_Test_show.2.1 1 = .ok (.aload_n 0, 1) := by decide +kernel
theorem d_Test_show_2 : decode M_Test_show.2.1 2 = .ok (.getfield 22, 3) := by decide +kernel
theorem xw_1024 : (Jvm.Cond.fieldLink "MarkerText$Test" (22 : Nat) "MarkerText$Test" "shown" "Ljava/lang/String;") ∈ xT := xT_at 1024 (by decide +kernel) (by decide +kernel)
theorem xf_Test_22_Test : xF "MarkerText$Test" 22 k_Test 3 := ⟨_, _, _, "MarkerText$Test", rfl, by decide, Or.inl xw_1024, Or.inl rfl⟩
theorem d_Test_show_5 : decode M_Test_show.2.1 5 = .ok (.invokevirtual 30, 3) := by decide +kernel
theorem xw_570 : (Jvm.Cond.code ({ cls := "java/lang/StringBuilder", name := "append", desc := "(Ljava/lang/String;)Ljava/lang/StringBuilder;" } : Jvm.MethodName) prog_26_method_7_code (2 : Nat) (Option.some (Jvm.ClassFile.FieldType.object "java/lang/StringBuilder"))) ∈ xT := xT_at 570 (by decide +kernel) (by decide +kernel)
theorem xcb_SB_append_String : xcb M_SB_append_String 1 := ⟨xw_570, xw_3, by decide, by decide, by decide, by decide +kernel⟩
theorem xw_568 : (Jvm.Cond.instanceMethod ({ cls := "java/lang/StringBuilder", name := "append", desc := "(Ljava/lang/String;)Ljava/lang/StringBuilder;" } : Jvm.MethodName)) ∈ xT := xT_at 568 (by decide +kernel) (by decide +kernel)
theorem xw_1128 : (Jvm.Cond.methodLink "MarkerText$Test" (30 : Nat) ({ cls := "java/lang/StringBuilder", name := "append", desc := "(Ljava/lang/String;)Ljava/lang/StringBuilder;" } : Jvm.MethodName)) ∈ xT := xT_at 1128 (by decide +kernel) (by decide +kernel)
theorem xw_569 : (Jvm.Cond.selects "java/lang/StringBuilder" ({ cls := "java/lang/StringBuilder", name := "append", desc := "(Ljava/lang/String;)Ljava/lang/StringBuilder;" } : Jvm.MethodName) ({ cls := "java/lang/StringBuilder", name := "append", desc := "(Ljava/lang/String;)Ljava/lang/StringBuilder;" } : Jvm.MethodName)) ∈ xT := xT_at 569 (by decide +kernel) (by decide +kernel)
theorem xcv_Test_30_SB : xCV "MarkerText$Test" 30 "java/lang/StringBuilder" M_SB_append_String 1 := ⟨xcb_SB_append_String, xw_568, Or.inl ⟨xw_1128, Or.inl xw_569⟩⟩
theorem d_Test_show_8 : decode M_Test_show.2.1 8 = .ok (.pop, 1) := by decide +kernel
theorem d_Test_show_9 : decode M_Test_show.2.1 9 = .ok (.return_, 1) := by decide +kernel
theorem d_Constant_show_0 : decode M_Constant_show.2.1 0 = .ok (.aload_n 1, 1) := by decide +kernel
theorem d_Constant_show_1 : decode M_Constant_show.2.1 1 = .ok (.aload_n 0, 1) := by decide +kernel
theorem d_Constant_show_2 : decode M_Constant_show.2.1 2 = .ok (.getfield 7, 3) := by decide +kernel
theorem d_Constant_show_5 : decode M_Constant_show.2.1 5 = .ok (.ifCond .eq 8, 3) := by decide +kernel
theorem d_Constant_show_8 : decode M_Constant_show.2.1 8 = .ok (.ldc 13, 2) := by decide +kernel
theorem d_Constant_show_10 : decode M_Constant_show.2.1 10 = .ok (.goto 5, 3) := by decide +kernel
theorem d_Constant_show_15 : decode M_Constant_show.2.1 15 = .ok (.invokevirtual 17, 3) := by decide +kernel
theorem xw_1107 : (Jvm.Cond.methodLink "MarkerText$Constant" (17 : Nat) ({ cls := "java/lang/StringBuilder", name := "append", desc := "(Ljava/lang/String;)Ljava/lang/StringBuilder;" } : Jvm.MethodName)) ∈ xT := xT_at 1107 (by decide +kernel) (by decide +kernel)
theorem xcv_Constant_17_SB : xCV "MarkerText$Constant" 17 "java/lang/StringBuilder" M_SB_append_String 1 := ⟨xcb_SB_append_String, xw_568, Or.inl ⟨xw_1107, Or.inl xw_569⟩⟩
theorem d_Constant_show_18 : decode M_Constant_show.2.1 18 = .ok (.pop, 1) := by decide +kernel
theorem d_Constant_show_19 : decode M_Constant_show.2.1 19 = .ok (.return_, 1) := by decide +kernel
theorem d_Constant_show_13 : decode M_Constant_show.2.1 13 = .ok (.ldc 15, 2) := by decide +kernel
theorem d_Negation_show_0 : decode M_Negation_show.2.1 0 = .ok (.aload_n 1, 1) := by decide +kernel
theorem d_Negation_show_1 : decode M_Negation_show.2.1 1 = .ok (.ldc 17, 2) := by decide +kernel
theorem d_Negation_show_3 : decode M_Negation_show.2.1 3 = .ok (.invokevirtual 19, 3) := by decide +kernel
theorem xw_1124 : (Jvm.Cond.methodLink "MarkerText$Negation" (19 : Nat) ({ cls := "java/lang/StringBuilder", name := "append", desc := "(Ljava/lang/String;)Ljava/lang/StringBuilder;" } : Jvm.MethodName)) ∈ xT := xT_at 1124 (by decide +kernel) (by decide +kernel)
theorem xcv_Negation_19_SB : xCV "MarkerText$Negation" 19 "java/lang/StringBuilder" M_SB_append_String 1 := ⟨xcb_SB_append_String, xw_568, Or.inl ⟨xw_1124, Or.inl xw_569⟩⟩
theorem d_Negation_show_28 : decode M_Negation_show.2.1 28 = .ok (.invokevirtual 29, 3) := by decide +kernel
theorem xw_1118 : (Jvm.Cond.code ({ cls := "MarkerText$Node", name := "showInside", desc := "(Ljava/lang/StringBuilder;Z)V" } : Jvm.MethodName) prog_8_method_4_code (3 : Nat) (Option.none : Option Jvm.ClassFile.FieldType)) ∈ xT := xT_at 1118 (by decide +kernel) (by decide +kernel)
theorem xw_27 : (Jvm.Cond.initialized "MarkerText$Node") ∈ xT := xT_at 27 (by decide +kernel) (by decide +kernel)
theorem xcb_Node_showInside : xcb M_Node_showInside 2 := ⟨xw_1118, xw_27, by decide, by decide, by decide, by decide +kernel⟩
theorem xw_1112 : (Jvm.Cond.instanceMethod ({ cls := "MarkerText$Node", name := "showInside", desc := "(Ljava/lang/StringBuilder;Z)V" } : Jvm.MethodName)) ∈ xT := xT_at 1112 (by decide +kernel) (by decide +kernel)
theorem xw_1125 : (Jvm.Cond.methodLink "MarkerText$Negation" (29 : Nat) ({ cls := "MarkerText$Node", name := "showInside", desc := "(Ljava/lang/StringBuilder;Z)V" } : Jvm.MethodName)) ∈ xT := xT_at 1125 (by decide +kernel) (by decide +kernel)
theorem xw_1117 : (Jvm.Cond.selects "MarkerText$Test" ({ cls := "MarkerText$Node", name := "showInside", desc := "(Ljava/lang/StringBuilder;Z)V" } : Jvm.MethodName) ({ cls := "MarkerText$Node", name := "showInside", desc := "(Ljava/lang/StringBuilder;Z)V" } : Jvm.MethodName)) ∈ xT := xT_at 1117 (by decide +kernel) (by decide +kernel)
theorem xcv_Negation_29_Test : xCV "MarkerText$Negation" 29 "MarkerText$Test" M_Node_showInside 2 := ⟨xcb_Node_showInside, xw_1112, Or.inl ⟨xw_1125, Or.inl xw_1117⟩⟩
theorem xw_1115 : (Jvm.Cond.selects "MarkerText$Join" ({ cls := "MarkerText$Node", name := "showInside", desc := "(Ljava/lang/StringBuilder;Z)V" } : Jvm.MethodName) ({ cls := "MarkerText$Node", name := "showInside", desc := "(Ljava/lang/StringBuilder;Z)V" } : Jvm.MethodName)) ∈ xT := xT_at 1115 (by decide +kernel) (by decide +kernel)
theorem xcv_Negation_29_Join : xCV "MarkerText$Negation" 29 "MarkerText$Join" M_Node_showInside 2 := ⟨xcb_Node_showInside, xw_1112, Or.inl ⟨xw_1125, Or.inl xw_1115⟩⟩
theorem xw_1116 : (Jvm.Cond.selects "MarkerText$Negation" ({ cls := "MarkerText$Node", name := "showInside", desc := "(Ljava/lang/StringBuilder;Z)V" } : Jvm.MethodName) ({ cls := "MarkerText$Node", name := "showInside", desc := "(Ljava/lang/StringBuilder;Z)V" } : Jvm.MethodName)) ∈ xT := xT_at 1116 (by decide +kernel) (by decide +kernel)
theorem xcv_Negation_29_Negation : xCV "MarkerText$Negation" 29 "MarkerText$Negation" M_Node_showInside 2 := ⟨xcb_Node_showInside, xw_1112, Or.inl ⟨xw_1125, Or.inl xw_1116⟩⟩
theorem xw_1114 : (Jvm.Cond.selects "MarkerText$Constant" ({ cls := "MarkerText$Node", name := "showInside", desc := "(Ljava/lang/StringBuilder;Z)V" } : Jvm.MethodName) ({ cls := "MarkerText$Node", name := "showInside", desc := "(Ljava/lang/StringBuilder;Z)V" } : Jvm.MethodName)) ∈ xT := xT_at 1114 (by decide +kernel) (by decide +kernel)
theorem xcv_Negation_29_Constant : xCV "MarkerText$Negation" 29 "MarkerText$Constant" M_Node_showInside 2 := ⟨xcb_Node_showInside, xw_1112, Or.inl ⟨xw_1125, Or.inl xw_1114⟩⟩
theorem xD_Negation_29 : ∀ q ∈ ([(k_Test, M_Node_showInside), (k_Join, M_Node_showInside), (k_Negation, M_Node_showInside), (k_Constant, M_Node_showInside)] : List (Nat × XMt)), ∃ C T N, xk[q.1]? = some (.inl (C, T, N)) ∧ xCV "MarkerText$Negation" 29 C q.2 2 := List.forall_mem_cons.mpr ⟨⟨_, _, _, rfl, xcv_Negation_29_Test⟩, List.forall_mem_cons.mpr ⟨⟨_, _, _, rfl, xcv_Negation_29_Join⟩, List.forall_mem_cons.mpr ⟨⟨_, _, _, rfl, xcv_Negation_29_Negation⟩, List.forall_mem_cons.mpr ⟨⟨_, _, _, rfl, xcv_Negation_29_Constant⟩, fun _ hz => by cases hz⟩⟩⟩⟩
theorem d_Negation_show_31 : decode M_Negation_show.2.1 31 = .ok (.return_, 1) := by decide +kernel
theorem d_Negation_show_6 : decode M_Negation_show.2.1 6 = .ok (.pop, 1) := by decide +kernel
theorem d_Negation_show_7 : decode M_Negation_show.2.1 7 = .ok (.aload_n 0, 1) := by decide +kernel
theorem d_Negation_show_8 : decode M_Negation_show.2.1 8 = .ok (.getfield 7, 3) := by decide +kernel
theorem d_Negation_show_11 : decode M_Negation_show.2.1 11 = .ok (.aload_n 1, 1) := by decide +kernel
theorem d_Negation_show_12 : decode M_Negation_show.2.1 12 = .ok (.aload_n 0, 1) := by decide +kernel
theorem d_Negation_show_13 : decode M_Negation_show.2.1 13 = .ok (.getfield 7, 3) := by decide +kernel
theorem d_Negation_show_16 : decode M_Negation_show.2.1 16 = .ok (.getfield 25, 3) := by decide +kernel
theorem xw_950 : (Jvm.Cond.fieldLink "MarkerText$Negation" (25 : Nat) "MarkerText$Node" "strength" "I") ∈ xT := xT_at 950 (by decide +kernel) (by decide +kernel)
theorem xf_Negation_25_Test : xF "MarkerText$Negation" 25 k_Test 4 := ⟨_, _, _, "MarkerText$Node", rfl, by decide, Or.inl xw_950, Or.inl rfl⟩
theorem xf_Negation_25_Join : xF "MarkerText$Negation" 25 k_Join 2 := ⟨_, _, _, "MarkerText$Node", rfl, by decide, Or.inl xw_950, Or.inl rfl⟩
theorem xf_Negation_25_Negation : xF "MarkerText$Negation" 25 k_Negation 1 := ⟨_, _, _, "MarkerText$Node", rfl, by decide, Or.inl xw_950, Or.inl rfl⟩
theorem xf_Negation_25_Constant : xF "MarkerText$Negation" 25 k_Constant 1 := ⟨_, _, _, "MarkerText$Node", rfl, by decide, Or.inl xw_950, Or.inl rfl⟩
theorem xG_Negation_25 : xGD "MarkerText$Negation" 25 := ⟨xf_Negation_25_Test, xf_Negation_25_Join, xf_Negation_25_Negation, xf_Negation_25_Constant⟩
theorem d_Negation_show_19 : decode M_Negation_show.2.1 19 = .ok (.iconst 3, 1) := by decide +kernel
theorem d_Negation_show_20 : decode M_Negation_show.2.1 20 = .ok (.if_icmp .ge 7, 3) := by decide +kernel
theorem d_Negation_show_23 : decode M_Negation_show.2.1 23 = .ok (.iconst 1, 1) := by decide +kernel
theorem d_Negation_show_24 : decode M_Negation_show.2.1 24 = .ok (.goto 4, 3) := by decide +kernel
theorem d_Negation_show_27 : decode M_Negation_show.2.1 27 = .ok (.iconst 0, 1) := by decide +kernel
theorem d_Join_show_71 : decode M_Join_show.2.1 71 = .ok (.invokevirtual 25, 3) := by decide +kernel
theorem xw_1111 : (Jvm.Cond.methodLink "MarkerText$Join" (25 : Nat) ({ cls := "MarkerText$Node", name := "showInside", desc := "(Ljava/lang/StringBuilder;Z)V" } : Jvm.MethodName)) ∈ xT := xT_at 1111 (by decide +kernel) (by decide +kernel)
theorem xcv_Join_25_Test : xCV "MarkerText$Join" 25 "MarkerText$Test" M_Node_showInside 2 := ⟨xcb_Node_showInside, xw_1112, Or.inl ⟨xw_1111, Or.inl xw_1117⟩⟩
theorem xcv_Join_25_Join : xCV "MarkerText$Join" 25 "MarkerText$Join" M_Node_showInside 2 := ⟨xcb_Node_showInside, xw_1112, Or.inl ⟨xw_1111, Or.inl xw_1115⟩⟩
theorem xcv_Join_25_Negation : xCV "MarkerText$Join" 25 "MarkerText$Negation" M_Node_showInside 2 := ⟨xcb_Node_showInside, xw_1112, Or.inl ⟨xw_1111, Or.inl xw_1116⟩⟩
theorem xcv_Join_25_Constant : xCV "MarkerText$Join" 25 "MarkerText$Constant" M_Node_showInside 2 := ⟨xcb_Node_showInside, xw_1112, Or.inl ⟨xw_1111, Or.inl xw_1114⟩⟩
theorem xD_Join_25 : ∀ q ∈ ([(k_Test, M_Node_showInside), (k_Join, M_Node_showInside), (k_Negation, M_Node_showInside), (k_Constant, M_Node_showInside)] : List (Nat × XMt)), ∃ C T N, xk[q.1]? = some (.inl (C, T, N)) ∧ xCV "MarkerText$Join" 25 C q.2 2 := List.forall_mem_cons.mpr ⟨⟨_, _, _, rfl, xcv_Join_25_Test⟩, List.forall_mem_cons.mpr ⟨⟨_, _, _, rfl, xcv_Join_25_Join⟩, List.forall_mem_cons.mpr ⟨⟨_, _, _, rfl, xcv_Join_25_Negation⟩, List.forall_mem_cons.mpr ⟨⟨_, _, _, rfl, xcv_Join_25_Constant⟩, fun _ hz => by cases hz⟩⟩⟩⟩
theorem d_Join_show_74 : decode M_Join_show.2.1 74 = .ok (.return_, 1) := by decide +kernel
theorem d_Join_show_46 : decode M_Join_show.2.1 46 = .ok (.pop, 1) := by decide +kernel
theorem d_Join_show_47 : decode M_Join_show.2.1 47 = .ok (.aload_n 0, 1) := by decide +kernel
theorem d_Join_show_48 : decode M_Join_show.2.1 48 = .ok (.getfield 13, 3) := by decide +kernel
theorem d_Join_show_51 : decode M_Join_show.2.1 51 = .ok (.aload_n 1, 1) := by decide +kernel
theorem d_Join_show_52 : decode M_Join_show.2.1 52 = .ok (.aload_n 0, 1) := by decide +kernel
theorem d_Join_show_53 : decode M_Join_show.2.1 53 = .ok (.getfield 13, 3) := by decide +kernel
theorem d_Join_show_56 : decode M_Join_show.2.1 56 = .ok (.getfield 24, 3) := by decide +kernel
theorem xw_949 : (Jvm.Cond.fieldLink "MarkerText$Join" (24 : Nat) "MarkerText$Node" "strength" "I") ∈ xT := xT_at 949 (by decide +kernel) (by decide +kernel)
theorem xf_Join_24_Test : xF "MarkerText$Join" 24 k_Test 4 := ⟨_, _, _, "MarkerText$Node", rfl, by decide, Or.inl xw_949, Or.inl rfl⟩
theorem xf_Join_24_Join : xF "MarkerText$Join" 24 k_Join 2 := ⟨_, _, _, "MarkerText$Node", rfl, by decide, Or.inl xw_949, Or.inl rfl⟩
theorem xf_Join_24_Negation : xF "MarkerText$Join" 24 k_Negation 1 := ⟨_, _, _, "MarkerText$Node", rfl, by decide, Or.inl xw_949, Or.inl rfl⟩
theorem xf_Join_24_Constant : xF "MarkerText$Join" 24 k_Constant 1 := ⟨_, _, _, "MarkerText$Node", rfl, by decide, Or.inl xw_949, Or.inl rfl⟩
theorem xG_Join_24 : xGD "MarkerText$Join" 24 := ⟨xf_Join_24_Test, xf_Join_24_Join, xf_Join_24_Negation, xf_Join_24_Constant⟩
theorem d_Join_show_59 : decode M_Join_show.2.1 59 = .ok (.aload_n 0, 1) := by decide +kernel
theorem d_Join_show_60 : decode M_Join_show.2.1 60 = .ok (.getfield 16, 3) := by decide +kernel
theorem d_Join_show_63 : decode M_Join_show.2.1 63 = .ok (.if_icmp .gt 7, 3) := by decide +kernel
theorem d_Join_show_66 : decode M_Join_show.2.1 66 = .ok (.iconst 1, 1) := by decide +kernel
theorem d_Join_show_67 : decode M_Join_show.2.1 67 = .ok (.goto 4, 3) := by decide +kernel
theorem d_Join_show_70 : decode M_Join_show.2.1 70 = .ok (.iconst 0, 1) := by decide +kernel
theorem d_Join_show_24 : decode M_Join_show.2.1 24 = .ok (.invokevirtual 25, 3) := by decide +kernel
theorem d_Join_show_27 : decode M_Join_show.2.1 27 = .ok (.aload_n 1, 1) := by decide +kernel
theorem d_Join_show_28 : decode M_Join_show.2.1 28 = .ok (.aload_n 0, 1) := by decide +kernel
theorem d_Join_show_29 : decode M_Join_show.2.1 29 = .ok (.getfield 16, 3) := by decide +kernel
theorem d_Join_show_32 : decode M_Join_show.2.1 32 = .ok (.iconst 1, 1) := by decide +kernel
theorem d_Join_show_33 : decode M_Join_show.2.1 33 = .ok (.if_icmp .ne 8, 3) := by decide +kernel
theorem d_Join_show_36 : decode M_Join_show.2.1 36 = .ok (.ldc 29, 2) := by decide +kernel
theorem d_Join_show_38 : decode M_Join_show.2.1 38 = .ok (.goto 5, 3) := by decide +kernel
theorem d_Join_show_43 : decode M_Join_show.2.1 43 = .ok (.invokevirtual 33, 3) := by decide +kernel
theorem xw_1131 : (Jvm.Cond.methodLink "MarkerText$Join" (33 : Nat) ({ cls := "java/lang/StringBuilder", name := "append", desc := "(Ljava/lang/String;)Ljava/lang/StringBuilder;" } : Jvm.MethodName)) ∈ xT := xT_at 1131 (by decide +kernel) (by decide +kernel)
theorem xcv_Join_33_SB : xCV "MarkerText$Join" 33 "java/lang/StringBuilder" M_SB_append_String 1 := ⟨xcb_SB_append_String, xw_568, Or.inl ⟨xw_1131, Or.inl xw_569⟩⟩
theorem d_Join_show_41 : decode M_Join_show.2.1 41 = .ok (.ldc 31, 2) := by decide +kernel
theorem d_Join_show_0 : decode M_Join_show.2.1 0 = .ok (.aload_n 0, 1) := by decide +kernel
theorem d_Join_show_1 : decode M_Join_show.2.1 1 = .ok (.getfield 7, 3) := by decide +kernel
theorem d_Join_show_4 : decode M_Join_show.2.1 4 = .ok (.aload_n 1, 1) := by decide +kernel
theorem d_Join_show_5 : decode M_Join_show.2.1 5 = .ok (.aload_n 0, 1) := by decide +kernel
theorem d_Join_show_6 : decode M_Join_show.2.1 6 = .ok (.getfield 7, 3) := by decide +kernel
theorem d_Join_show_9 : decode M_Join_show.2.1 9 = .ok (.getfield 24, 3) := by decide +kernel
theorem d_Join_show_12 : decode M_Join_show.2.1 12 = .ok (.aload_n 0, 1) := by decide +kernel
theorem d_Join_show_13 : decode M_Join_show.2.1 13 = .ok (.getfield 16, 3) := by decide +kernel
theorem d_Join_show_16 : decode M_Join_show.2.1 16 = .ok (.if_icmp .ge 7, 3) := by decide +kernel
theorem d_Join_show_19 : decode M_Join_show.2.1 19 = .ok (.iconst 1, 1) := by decide +kernel
theorem d_Join_show_20 : decode M_Join_show.2.1 20 = .ok (.goto 4, 3) := by decide +kernel
theorem d_Join_show_23 : decode M_Join_show.2.1 23 = .ok (.iconst 0, 1) := by decide +kernel
end
section ND2
variable {l : Launch} {G : XG} {h : XH} {c n d : Nat}
theorem isB.k1 {a va m : Nat} {t : List Nat} {ks : List Nat} (hB : isB h a va t m) (h1 : k_StringBuilder ∉ ks) (h2 : k_abyte ∉ ks) : xno h [a, va] ks := by
  obtain ⟨z, bs, e1, e2, -⟩ := hB
  exact xno2 e1 e2 h1 h2
/-- what append(String) leaves, for a text that isn't changed by it -/
theorem brk_len (b : Bool) (t : List Nat) : (brk b t).length = t.length + (if b then 2 else 0) := by
  unfold brk
  cases b <;> simp
abbrev pShow (K a va : Nat) (t u : List Nat) (m : Nat) (h : XH) (c n : Nat) : Option Value → XH → Nat → Nat → Prop := fun v h' c' n' => v = none ∧ pB K a va (t ++ u) m h c n h' c' n'
/-- showInside, once show is known -/
theorem c_inside {K : Nat} (hK : K < 2 ^ 16) {k : Nat} (hS : ∀ {h : XH} {c n d a sb va m : Nat} {t : List Nat} {D : Den}, 2 * k + 6 ≤ d → isNode G h k a D → isB h sb va t m → m ≤ K → 2 * (t.length + D.2.2.length) + 4 ≤ K → c + K ≤ xCB + m → n + 2 * K ≤ xSB + 2 * m → XD l G d msS a [.ref sb] h c n (pShow K sb va t D.2.2 m h c n)) :
    ∀ {h : XH} {c n d a sb va m : Nat} {t : List Nat} {D : Den} {b : Bool}, 2 * k + 7 ≤ d → isNode G h k a D → isB h sb va t m → m ≤ K → 2 * (t.length + (brk b D.2.2).length) + 4 ≤ K → c + K ≤ xCB + m → n + 2 * K ≤ xSB + 2 * m → XM l G d M_Node_showInside [.ref a, .ref sb, .int (bI b)] h c n (pShow K sb va t (brk b D.2.2) m h c n) := by
  intro h c n d a sb va m t D b hd hN hB hm hL hc hn
  obtain ⟨d, rfl⟩ : ∃ q, d = q + 1 := ⟨d - 1, by omega⟩
  rw [brk_len] at hL
  refine XM.of (by decide +kernel) (Nat.le_of_ble_eq_true rfl) ?_
  cases b with
  | false =>
    refine x_iload_n d_Node_showInside_0 rfl ?_
    refine x_if_eq (tgt := 11) d_Node_showInside_1 (by decide) (fun _ => ?_) (fun hn => absurd rfl hn)
    refine x_aload_n d_Node_showInside_11 rfl rfl ?_
    refine x_aload_n d_Node_showInside_12 rfl rfl ?_
    refine x_callD (As := [_]) xD_Node_19 (hS (by omega) hN hB hm (by simp at hL; omega) hc hn) rfl rfl (Nat.le_of_ble_eq_true rfl) d_Node_showInside_13 ?_
    rintro v h' c' n' ⟨rfl, hp⟩
    refine x_iload_n d_Node_showInside_16 rfl ?_
    refine x_if_eq (tgt := 27) d_Node_showInside_17 (by decide) (fun _ => ?_) (fun hn => absurd rfl hn)
    refine x_vret d_Node_showInside_27 rfl ?_
    exact ⟨rfl, hp⟩
  | true =>
    simp only [if_true] at hL
    obtain ⟨z, bs, hsb, -⟩ := id hB
    refine x_iload_n d_Node_showInside_0 rfl ?_
    refine x_if_eq (tgt := 11) d_Node_showInside_1 (by decide) (fun ht => absurd ht (by decide)) (fun _ => ?_)
    refine x_aload_n d_Node_showInside_4 rfl rfl ?_
    refine x_bipush (v := 40) d_Node_showInside_5 (by decide) ?_
    refine x_callV (As := [_]) (k := k_StringBuilder) rfl xcv_Node_13_SB (Or.inl hsb) (c_SB_append_C (K := K) (ch := 40) (by omega) hB (by decide) hK hm (by omega) hc hn) rfl rfl (Nat.le_of_ble_eq_true rfl) d_Node_showInside_7 ?_
    rintro v h1 c1 n1 ⟨rfl, va1, m1, b1, f1, e1, g1⟩
    refine x_pop d_Node_showInside_10 rfl ?_
    refine x_aload_n d_Node_showInside_11 rfl rfl ?_
    refine x_aload_n d_Node_showInside_12 rfl rfl ?_
    refine x_callD (As := [_]) xD_Node_19 (hS (by omega) (hN.fr f1 (hB.k1 (by decide) (by decide))) b1 g1.2.1 (by simp; omega) (by omega) (by omega)) rfl rfl (Nat.le_of_ble_eq_true rfl) d_Node_showInside_13 ?_
    rintro v h2 c2 n2 ⟨rfl, p2⟩
    obtain ⟨va2, m2, b2, f2, e2, g2⟩ := pB.tr b1 f1 e1 g1 p2
    obtain ⟨z2, bs2, hsb2, -⟩ := id b2
    refine x_iload_n d_Node_showInside_16 rfl ?_
    refine x_if_eq (tgt := 27) d_Node_showInside_17 (by decide) (fun ht => absurd ht (by decide)) (fun _ => ?_)
    refine x_aload_n d_Node_showInside_20 rfl rfl ?_
    refine x_bipush (v := 41) d_Node_showInside_21 (by decide) ?_
    refine x_callV (As := [_]) (k := k_StringBuilder) rfl xcv_Node_13_SB (Or.inl hsb2) (c_SB_append_C (K := K) (ch := 41) (by omega) b2 (by decide) hK g2.2.1 (by simp; omega) (by omega) (by omega)) rfl rfl (Nat.le_of_ble_eq_true rfl) d_Node_showInside_23 ?_
    rintro v h3 c3 n3 ⟨rfl, p3⟩
    refine x_pop d_Node_showInside_26 rfl ?_
    refine x_vret d_Node_showInside_27 rfl ?_
    refine ⟨rfl, ?_⟩
    have := pB.tr b2 f2 e2 g2 p3
    simpa [brk] using this
theorem XD.ofI {a sb : Nat} {v : Value} {As : List Value} {P : Option Value → XH → Nat → Nat → Prop} (hs : hasSt G h a v) (hX : XM l G d M_Node_showInside (.ref a :: As) h c n P) : XD l G d msI a As h c n P := by
  rcases hs with ⟨x, y, z, w, ha⟩ | ⟨x, y, ha⟩ | ⟨x, ha⟩ | ⟨x, ha⟩
  · exact ⟨(k_Test, M_Node_showInside), List.mem_of_getElem? (i := 0) rfl, _, ha, hX⟩
  · exact ⟨(k_Join, M_Node_showInside), List.mem_of_getElem? (i := 1) rfl, _, ha, hX⟩
  · exact ⟨(k_Negation, M_Node_showInside), List.mem_of_getElem? (i := 2) rfl, _, ha, hX⟩
  · exact ⟨(k_Constant, M_Node_showInside), List.mem_of_getElem? (i := 3) rfl, _, ha, hX⟩
theorem c_show (hG : xGk G) {K : Nat} (hK : K < 2 ^ 16) : ∀ {k : Nat} {h : XH} {c n d a sb va m : Nat} {t : List Nat} {D : Den}, 2 * k + 6 ≤ d → isNode G h k a D → isB h sb va t m → m ≤ K → 2 * (t.length + D.2.2.length) + 4 ≤ K → c + K ≤ xCB + m → n + 2 * K ≤ xSB + 2 * m → XD l G d msS a [.ref sb] h c n (pShow K sb va t D.2.2 m h c n) := by
  intro k
  induction k with
  | zero =>
    rintro h c n d a sb va m t D hd (⟨t1, hT, rfl⟩ | ⟨b, h1, rfl⟩) hB hm hL hc hn
    · obtain ⟨d, rfl⟩ : ∃ q, d = q + 1 := ⟨d - 1, by omega⟩
      obtain ⟨z, bs, hsb, -⟩ := id hB
      obtain ⟨ta, sa, ha, -, hsa, -⟩ := id hT
      refine XD.ofT (i := 0) rfl ha ?_
      refine XM.of (by decide +kernel) (Nat.le_of_ble_eq_true rfl) ?_
      have hL' : 2 * (t.length + t1.2.2.2.length) + 4 ≤ K := hL
      refine x_aload_n d_Test_show_0 rfl rfl ?_
      refine x_aload_n d_Test_show_1 rfl rfl ?_
      refine x_get xf_Test_22_Test (Or.inl ha) rfl d_Test_show_2 ?_
      refine x_callV (As := [_]) (k := k_StringBuilder) rfl xcv_Test_30_SB (Or.inl hsb) (c_SB_append_S (K := K) (by omega) hB hsa hK hm (by omega) hc hn) rfl rfl (Nat.le_of_ble_eq_true rfl) d_Test_show_5 ?_
      rintro v h' c' n' ⟨rfl, hp⟩
      refine x_pop d_Test_show_8 rfl ?_
      refine x_vret d_Test_show_9 rfl ?_
      exact ⟨rfl, hp⟩
    · obtain ⟨d, rfl⟩ : ∃ q, d = q + 1 := ⟨d - 1, by omega⟩
      obtain ⟨z, bs, hsb, -⟩ := id hB
      refine XD.ofT (i := 3) rfl h1 ?_
      refine XM.of (by decide +kernel) (Nat.le_of_ble_eq_true rfl) ?_
      cases b with
      | true =>
        have hL' : 2 * (t.length + (xtx 26).length) + 4 ≤ K := hL
        refine x_aload_n d_Constant_show_0 rfl rfl ?_
        refine x_aload_n d_Constant_show_1 rfl rfl ?_
        refine x_get xf_Constant_7_Constant (Or.inl h1) rfl d_Constant_show_2 ?_
        refine x_if_eq (tgt := 13) d_Constant_show_5 (by decide) (fun ht => absurd ht (by decide)) (fun _ => ?_)
        refine x_ldcS (i := 26) (tx := "true") (by decide +kernel) d_Constant_show_8 ?_
        refine x_goto (tgt := 15) d_Constant_show_10 (by decide) ?_
        refine x_callV (As := [_]) (k := k_StringBuilder) rfl xcv_Constant_17_SB (Or.inl hsb) (c_SB_append_S (K := K) (by omega) hB (hG.str (by decide)) hK hm (by omega) hc hn) rfl rfl (Nat.le_of_ble_eq_true rfl) d_Constant_show_15 ?_
        rintro v h' c' n' ⟨rfl, hp⟩
        refine x_pop d_Constant_show_18 rfl ?_
        refine x_vret d_Constant_show_19 rfl ?_
        exact ⟨rfl, hp⟩
      | false =>
        have hL' : 2 * (t.length + (xtx 27).length) + 4 ≤ K := hL
        refine x_aload_n d_Constant_show_0 rfl rfl ?_
        refine x_aload_n d_Constant_show_1 rfl rfl ?_
        refine x_get xf_Constant_7_Constant (Or.inl h1) rfl d_Constant_show_2 ?_
        refine x_if_eq (tgt := 13) d_Constant_show_5 (by decide) (fun _ => ?_) (fun hn => absurd rfl hn)
        refine x_ldcS (i := 27) (tx := "false") (by decide +kernel) d_Constant_show_13 ?_
        refine x_callV (As := [_]) (k := k_StringBuilder) rfl xcv_Constant_17_SB (Or.inl hsb) (c_SB_append_S (K := K) (by omega) hB (hG.str (by decide)) hK hm (by omega) hc hn) rfl rfl (Nat.le_of_ble_eq_true rfl) d_Constant_show_15 ?_
        rintro v h' c' n' ⟨rfl, hp⟩
        refine x_pop d_Constant_show_18 rfl ?_
        refine x_vret d_Constant_show_19 rfl ?_
        exact ⟨rfl, hp⟩
  | succ k ih =>
    have hin := fun {h : XH} {c n d a sb va m : Nat} {t : List Nat} {D : Den} {b : Bool} => c_inside (l := l) (G := G) hK (k := k) ih (h := h) (c := c) (n := n) (d := d) (a := a) (sb := sb) (va := va) (m := m) (t := t) (D := D) (b := b)
    rintro h c n d a sb va m t D hd (h1 | ⟨x, A, h1, h2, rfl⟩ | ⟨s, x, y, A, B, h0, h1, h2, h3, rfl⟩) hB hm hL hc hn
    · exact ih (by omega) h1 hB hm hL hc hn
    · obtain ⟨d, rfl⟩ : ∃ q, d = q + 1 := ⟨d - 1, by omega⟩
      obtain ⟨z, bs, hsb, -⟩ := id hB
      have hL' : 2 * (t.length + (xtx 28 ++ brk (decide (A.1 < 3)) A.2.2).length) + 4 ≤ K := hL
      rw [List.length_append] at hL'
      have h23 := h2.s3
      refine XD.ofT (i := 2) rfl h1 ?_
      refine XM.of (by decide +kernel) (Nat.le_of_ble_eq_true rfl) ?_
      refine x_aload_n d_Negation_show_0 rfl rfl ?_
      refine x_ldcS (i := 28) (tx := "not ") (by decide +kernel) d_Negation_show_1 ?_
      refine x_callV (As := [_]) (k := k_StringBuilder) rfl xcv_Negation_19_SB (Or.inl hsb) (c_SB_append_S (K := K) (by omega) hB (hG.str (by decide)) hK hm (by omega) hc hn) rfl rfl (Nat.le_of_ble_eq_true rfl) d_Negation_show_3 ?_
      rintro v h' c' n' ⟨rfl, va1, m1, b1, f1, e1, g1⟩
      have hk := hB.k1 (ks := kNd) (by decide) (by decide)
      have h1' := f1.1 _ _ h1 (hk.at h1 (by decide))
      have h2' := h2.fr f1 hk
      have at28 : XW l G M_Negation_show (d + 1) 28 [some (.ref a), some (.ref sb)] [.int (bI (decide (A.1 < 3))), .ref sb, .ref x] h' c' n' (pShow K sb va t (dNot A).2.2 m h c n) := by
        refine x_callD (As := [_, _]) xD_Negation_29 (XD.ofI (sb := sb) h2'.st (hin (by omega) h2' b1 g1.2.1 (by rw [List.length_append]; omega) (by omega) (by omega))) rfl rfl (Nat.le_of_ble_eq_true rfl) d_Negation_show_28 ?_
        rintro v h2 c2 n2 ⟨rfl, p2⟩
        refine x_vret d_Negation_show_31 rfl ?_
        have := pB.tr b1 f1 e1 g1 p2
        rw [List.append_assoc] at this
        exact ⟨rfl, this⟩
      refine x_pop d_Negation_show_6 rfl ?_
      refine x_aload_n d_Negation_show_7 rfl rfl ?_
      refine x_get xf_Negation_7_Negation (Or.inl h1') rfl d_Negation_show_8 ?_
      refine x_aload_n d_Negation_show_11 rfl rfl ?_
      refine x_aload_n d_Negation_show_12 rfl rfl ?_
      refine x_get xf_Negation_7_Negation (Or.inl h1') rfl d_Negation_show_13 ?_
      refine x_getD xG_Negation_25 h2'.st d_Negation_show_16 ?_
      refine x_iconst (v := 3) d_Negation_show_19 (by decide) ?_
      by_cases hs : A.1 < 3
      · refine x_icmp_ge (tgt := 27) d_Negation_show_20 (by decide) (fun ht => absurd ht (nI_ge (b := 3) hs (by omega))) (fun _ => ?_)
        refine x_iconst (v := 1) d_Negation_show_23 (by decide) ?_
        refine x_goto (tgt := 28) d_Negation_show_24 (by decide) ?_
        rw [show decide (A.1 < 3) = true from decide_eq_true hs] at at28
        exact at28
      · refine x_icmp_ge (tgt := 27) d_Negation_show_20 (by decide) (fun _ => ?_) (fun hn => absurd (nI_le (a := 3) (by omega) (by omega)) hn)
        refine x_iconst (v := 0) d_Negation_show_27 (by decide) ?_
        rw [show decide (A.1 < 3) = false from decide_eq_false hs] at at28
        exact at28
    · obtain ⟨d, rfl⟩ : ∃ q, d = q + 1 := ⟨d - 1, by omega⟩
      obtain ⟨z, bs, hsb, -⟩ := id hB
      have hs3 : s < 3 := by omega
      have hA3 := h2.s3
      have hB3 := h3.s3
      have hk := hB.k1 (ks := kNd) (by decide) (by decide)
      have hL' : 2 * (t.length + (brk (decide (A.1 < s)) A.2.2 ++ (if s = 1 then xtx 29 else xtx 30) ++ brk (decide (B.1 ≤ s)) B.2.2).length) + 4 ≤ K := hL
      rw [List.length_append, List.length_append] at hL'
      refine XD.ofT (i := 1) rfl h1 ?_
      refine XM.of (by decide +kernel) (Nat.le_of_ble_eq_true rfl) ?_
      have at71 : ∀ (h2' : XH) (va2 m2 c2 n2 : Nat), isB h2' sb va2 ((t ++ brk (decide (A.1 < s)) A.2.2) ++ (if s = 1 then xtx 29 else xtx 30)) m2 → xfr h h2' [sb, va] → (va2 = va ∨ h va2 = none) → xgr K m m2 c n c2 n2 → XW l G M_Join_show (d + 1) 71 [some (.ref a), some (.ref sb)] [.int (bI (decide (B.1 ≤ s))), .ref sb, .ref y] h2' c2 n2 (pShow K sb va t (dJoin s A B).2.2 m h c n) := by
        intro h2' va2 m2 c2 n2 b2 f2 e2 g2
        have h3' := h3.fr f2 hk
        refine x_callD (As := [_, _]) xD_Join_25 (XD.ofI (sb := sb) h3'.st (hin (by omega) h3' b2 g2.2.1 (by rw [List.length_append, List.length_append]; omega) (by omega) (by omega))) rfl rfl (Nat.le_of_ble_eq_true rfl) d_Join_show_71 ?_
        rintro v h4 c4 n4 ⟨rfl, p4⟩
        refine x_vret d_Join_show_74 rfl ?_
        have := pB.tr b2 f2 e2 g2 p4
        rw [List.append_assoc, List.append_assoc, ← List.append_assoc (brk _ _)] at this
        exact ⟨rfl, this⟩
      have at46 : ∀ (h2' : XH) (va2 m2 c2 n2 : Nat), isB h2' sb va2 ((t ++ brk (decide (A.1 < s)) A.2.2) ++ (if s = 1 then xtx 29 else xtx 30)) m2 → xfr h h2' [sb, va] → (va2 = va ∨ h va2 = none) → xgr K m m2 c n c2 n2 → XW l G M_Join_show (d + 1) 46 [some (.ref a), some (.ref sb)] [.ref sb] h2' c2 n2 (pShow K sb va t (dJoin s A B).2.2 m h c n) := by
        intro h2' va2 m2 c2 n2 b2 f2 e2 g2
        have at71 := at71 h2' va2 m2 c2 n2 b2 f2 e2 g2
        have h3' := h3.fr f2 hk
        have h1' := f2.1 _ _ h1 (hk.at h1 (by decide))
        refine x_pop d_Join_show_46 rfl ?_
        refine x_aload_n d_Join_show_47 rfl rfl ?_
        refine x_get xf_Join_13_Join (Or.inl h1') rfl d_Join_show_48 ?_
        refine x_aload_n d_Join_show_51 rfl rfl ?_
        refine x_aload_n d_Join_show_52 rfl rfl ?_
        refine x_get xf_Join_13_Join (Or.inl h1') rfl d_Join_show_53 ?_
        refine x_getD xG_Join_24 h3'.st d_Join_show_56 ?_
        refine x_aload_n d_Join_show_59 rfl rfl ?_
        refine x_get xf_Join_16_Join (Or.inl h1') rfl d_Join_show_60 ?_
        by_cases hs : B.1 ≤ s
        · refine x_icmp_gt (tgt := 70) d_Join_show_63 (by decide) (fun ht => absurd ht (nI_nlt hs (by omega))) (fun _ => ?_)
          refine x_iconst (v := 1) d_Join_show_66 (by decide) ?_
          refine x_goto (tgt := 71) d_Join_show_67 (by decide) ?_
          rw [show decide (B.1 ≤ s) = true from decide_eq_true hs] at at71
          exact at71
        · refine x_icmp_gt (tgt := 70) d_Join_show_63 (by decide) (fun _ => ?_) (fun hn => absurd (nI_lt (by omega) (by omega)) hn)
          refine x_iconst (v := 0) d_Join_show_70 (by decide) ?_
          rw [show decide (B.1 ≤ s) = false from decide_eq_false hs] at at71
          exact at71
      have at24 : XW l G M_Join_show (d + 1) 24 [some (.ref a), some (.ref sb)] [.int (bI (decide (A.1 < s))), .ref sb, .ref x] h c n (pShow K sb va t (dJoin s A B).2.2 m h c n) := by
        refine x_callD (As := [_, _]) xD_Join_25 (XD.ofI (sb := sb) h2.st (hin (by omega) h2 hB hm (by omega) hc hn)) rfl rfl (Nat.le_of_ble_eq_true rfl) d_Join_show_24 ?_
        rintro v h1' c1 n1 ⟨rfl, va1, m1, b1, f1, e1, g1⟩
        obtain ⟨z1, bs1, hsb1, -⟩ := id b1
        have h1'' := f1.1 _ _ h1 (hk.at h1 (by decide))
        rcases h0 with rfl | rfl
        · rw [if_pos rfl] at hL'
          refine x_aload_n d_Join_show_27 rfl rfl ?_
          refine x_aload_n d_Join_show_28 rfl rfl ?_
          refine x_get xf_Join_16_Join (Or.inl h1'') rfl d_Join_show_29 ?_
          refine x_iconst (v := 1) d_Join_show_32 (by decide) ?_
          refine x_icmp_ne (tgt := 41) d_Join_show_33 (by decide) (fun ht => absurd rfl ht) (fun _ => ?_)
          refine x_ldcS (i := 29) (tx := " or ") (by decide +kernel) d_Join_show_36 ?_
          refine x_goto (tgt := 43) d_Join_show_38 (by decide) ?_
          refine x_callV (As := [_]) (k := k_StringBuilder) rfl xcv_Join_33_SB (Or.inl hsb1) (c_SB_append_S (K := K) (by omega) b1 (hG.str (by decide)) hK g1.2.1 (by rw [List.length_append]; omega) (by omega) (by omega)) rfl rfl (Nat.le_of_ble_eq_true rfl) d_Join_show_43 ?_
          rintro v h2' c2 n2 ⟨rfl, p2⟩
          obtain ⟨va2, m2, b2, f2, e2, g2⟩ := pB.tr b1 f1 e1 g1 p2
          exact at46 h2' va2 m2 c2 n2 (by rw [if_pos rfl]; exact b2) f2 e2 g2
        · rw [if_neg (by decide)] at hL'
          refine x_aload_n d_Join_show_27 rfl rfl ?_
          refine x_aload_n d_Join_show_28 rfl rfl ?_
          refine x_get xf_Join_16_Join (Or.inl h1'') rfl d_Join_show_29 ?_
          refine x_iconst (v := 1) d_Join_show_32 (by decide) ?_
          refine x_icmp_ne (tgt := 41) d_Join_show_33 (by decide) (fun _ => ?_) (fun hn => absurd hn (by decide))
          refine x_ldcS (i := 30) (tx := " and ") (by decide +kernel) d_Join_show_41 ?_
          refine x_callV (As := [_]) (k := k_StringBuilder) rfl xcv_Join_33_SB (Or.inl hsb1) (c_SB_append_S (K := K) (by omega) b1 (hG.str (by decide)) hK g1.2.1 (by rw [List.length_append]; omega) (by omega) (by omega)) rfl rfl (Nat.le_of_ble_eq_true rfl) d_Join_show_43 ?_
          rintro v h2' c2 n2 ⟨rfl, p2⟩
          obtain ⟨va2, m2, b2, f2, e2, g2⟩ := pB.tr b1 f1 e1 g1 p2
          exact at46 h2' va2 m2 c2 n2 (by rw [if_neg (by decide)]; exact b2) f2 e2 g2
      refine x_aload_n d_Join_show_0 rfl rfl ?_
      refine x_get xf_Join_7_Join (Or.inl h1) rfl d_Join_show_1 ?_
      refine x_aload_n d_Join_show_4 rfl rfl ?_
      refine x_aload_n d_Join_show_5 rfl rfl ?_
      refine x_get xf_Join_7_Join (Or.inl h1) rfl d_Join_show_6 ?_
      refine x_getD xG_Join_24 h2.st d_Join_show_9 ?_
      refine x_aload_n d_Join_show_12 rfl rfl ?_
      refine x_get xf_Join_16_Join (Or.inl h1) rfl d_Join_show_13 ?_
      by_cases hs : A.1 < s
      · refine x_icmp_ge (tgt := 23) d_Join_show_16 (by decide) (fun ht => absurd ht (nI_ge hs (by omega))) (fun _ => ?_)
        refine x_iconst (v := 1) d_Join_show_19 (by decide) ?_
        refine x_goto (tgt := 24) d_Join_show_20 (by decide) ?_
        rw [show decide (A.1 < s) = true from decide_eq_true hs] at at24
        exact at24
      · refine x_icmp_ge (tgt := 23) d_Join_show_16 (by decide) (fun _ => ?_) (fun hn => absurd (nI_le (by omega) (by omega)) hn)
        refine x_iconst (v := 0) d_Join_show_23 (by decide) ?_
        rw [show decide (A.1 < s) = false from decide_eq_false hs] at at24
        exact at24
end ND2
