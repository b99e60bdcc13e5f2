section
abbrev y_Test_outcome : MethodName := ⟨"MarkerText$Test", "outcome", "(JJ)I"⟩
abbrev M_Test_outcome : XMt := (y_Test_outcome, prog_11_method_3_code, 4, (some .int))
theorem d_Test_outcome_0 : decode M_Test_outcome.2.1 0 = .ok (.lload_n 0, 1) := by decide +kernel
theorem d_Test_outcome_1 : decode M_Test_outcome.2.1 1 = .ok (.lconst 0, 1) := by decide +kernel
theorem d_Test_outcome_2 : decode M_Test_outcome.2.1 2 = .ok (.lcmp, 1) := by decide +kernel
theorem d_Test_outcome_3 : decode M_Test_outcome.2.1 3 = .ok (.ifCond .ne 6, 3) := by decide +kernel
theorem d_Test_outcome_6 : decode M_Test_outcome.2.1 6 = .ok (.bipush 8, 2) := by decide +kernel
theorem d_Test_outcome_8 : decode M_Test_outcome.2.1 8 = .ok (.ireturn, 1) := by decide +kernel
theorem d_Test_outcome_9 : decode M_Test_outcome.2.1 9 = .ok (.lload_n 0, 1) := by decide +kernel
theorem d_Test_outcome_10 : decode M_Test_outcome.2.1 10 = .ok (.lload_n 2, 1) := by decide +kernel
theorem d_Test_outcome_11 : decode M_Test_outcome.2.1 11 = .ok (.lcmp, 1) := by decide +kernel
theorem d_Test_outcome_12 : decode M_Test_outcome.2.1 12 = .ok (.ifCond .ne 5, 3) := by decide +kernel
theorem d_Test_outcome_15 : decode M_Test_outcome.2.1 15 = .ok (.iconst 2, 1) := by decide +kernel
theorem d_Test_outcome_16 : decode M_Test_outcome.2.1 16 = .ok (.ireturn, 1) := by decide +kernel
theorem d_Test_outcome_17 : decode M_Test_outcome.2.1 17 = .ok (.lload_n 0, 1) := by decide +kernel
theorem d_Test_outcome_18 : decode M_Test_outcome.2.1 18 = .ok (.lload_n 2, 1) := by decide +kernel
theorem d_Test_outcome_19 : decode M_Test_outcome.2.1 19 = .ok (.lcmp, 1) := by decide +kernel
theorem d_Test_outcome_20 : decode M_Test_outcome.2.1 20 = .ok (.ifCond .ge 7, 3) := by decide +kernel
theorem d_Test_outcome_23 : decode M_Test_outcome.2.1 23 = .ok (.iconst 1, 1) := by decide +kernel
theorem d_Test_outcome_24 : decode M_Test_outcome.2.1 24 = .ok (.goto 4, 3) := by decide +kernel
theorem d_Test_outcome_28 : decode M_Test_outcome.2.1 28 = .ok (.ireturn, 1) := by decide +kernel
theorem d_Test_outcome_27 : decode M_Test_outcome.2.1 27 = .ok (.iconst 4, 1) := by decide +kernel
theorem d_Test_isTrueAt_30 : decode M_Test_isTrueAt.2.1 30 = .ok (.iload 4, 2) := by decide +kernel
theorem d_Test_isTrueAt_32 : decode M_Test_isTrueAt.2.1 32 = .ok (.aload_n 0, 1) := by decide +kernel
theorem d_Test_isTrueAt_33 : decode M_Test_isTrueAt.2.1 33 = .ok (.getfield 18, 3) := by decide +kernel
theorem xw_1022 : (Jvm.Cond.fieldLink "MarkerText$Test" (18 : Nat) "MarkerText$Test" "values" "[J") ∈ xT := xT_at 1022 (by decide +kernel) (by decide +kernel)
theorem xf_Test_18_Test : xF "MarkerText$Test" 18 k_Test 2 := ⟨_, _, _, "MarkerText$Test", rfl, by decide, Or.inl xw_1022, Or.inl rfl⟩
theorem d_Test_isTrueAt_36 : decode M_Test_isTrueAt.2.1 36 = .ok (.arraylength, 1) := by decide +kernel
theorem d_Test_isTrueAt_37 : decode M_Test_isTrueAt.2.1 37 = .ok (.if_icmp .ge 30, 3) := by decide +kernel
theorem d_Test_isTrueAt_67 : decode M_Test_isTrueAt.2.1 67 = .ok (.iconst 0, 1) := by decide +kernel
theorem d_Test_isTrueAt_68 : decode M_Test_isTrueAt.2.1 68 = .ok (.ireturn, 1) := by decide +kernel
theorem d_Test_isTrueAt_40 : decode M_Test_isTrueAt.2.1 40 = .ok (.aload_n 0, 1) := by decide +kernel
theorem d_Test_isTrueAt_41 : decode M_Test_isTrueAt.2.1 41 = .ok (.getfield 15, 3) := by decide +kernel
theorem xw_1021 : (Jvm.Cond.fieldLink "MarkerText$Test" (15 : Nat) "MarkerText$Test" "accepted" "I") ∈ xT := xT_at 1021 (by decide +kernel) (by decide +kernel)
theorem xf_Test_15_Test : xF "MarkerText$Test" 15 k_Test 1 := ⟨_, _, _, "MarkerText$Test", rfl, by decide, Or.inl xw_1021, Or.inl rfl⟩
theorem d_Test_isTrueAt_44 : decode M_Test_isTrueAt.2.1 44 = .ok (.lload_n 2, 1) := by decide +kernel
theorem d_Test_isTrueAt_45 : decode M_Test_isTrueAt.2.1 45 = .ok (.aload_n 0, 1) := by decide +kernel
theorem d_Test_isTrueAt_46 : decode M_Test_isTrueAt.2.1 46 = .ok (.getfield 18, 3) := by decide +kernel
theorem d_Test_isTrueAt_49 : decode M_Test_isTrueAt.2.1 49 = .ok (.iload 4, 2) := by decide +kernel
theorem d_Test_isTrueAt_51 : decode M_Test_isTrueAt.2.1 51 = .ok (.laload, 1) := by decide +kernel
theorem d_Test_isTrueAt_52 : decode M_Test_isTrueAt.2.1 52 = .ok (.invokestatic 26, 3) := by decide +kernel
theorem xw_303 : (Jvm.Cond.code ({ cls := "MarkerText$Test", name := "outcome", desc := "(JJ)I" } : Jvm.MethodName) prog_11_method_3_code (4 : Nat) (Option.some Jvm.ClassFile.FieldType.int)) ∈ xT := xT_at 303 (by decide +kernel) (by decide +kernel)
theorem xw_30 : (Jvm.Cond.initialized "MarkerText$Test") ∈ xT := xT_at 30 (by decide +kernel) (by decide +kernel)
theorem xcb_Test_outcome : xcb M_Test_outcome 2 := ⟨xw_303, xw_30, by decide, by decide, by decide, by decide +kernel⟩
theorem xw_301 : (Jvm.Cond.methodLink "MarkerText$Test" (26 : Nat) ({ cls := "MarkerText$Test", name := "outcome", desc := "(JJ)I" } : Jvm.MethodName)) ∈ xT := xT_at 301 (by decide +kernel) (by decide +kernel)
theorem xw_302 : (Jvm.Cond.static ({ cls := "MarkerText$Test", name := "outcome", desc := "(JJ)I" } : Jvm.MethodName)) ∈ xT := xT_at 302 (by decide +kernel) (by decide +kernel)
theorem xcs_Test_26 : xCS "MarkerText$Test" 26 M_Test_outcome 2 := ⟨xcb_Test_outcome, xw_302, Or.inl xw_301⟩
theorem d_Test_isTrueAt_55 : decode M_Test_isTrueAt.2.1 55 = .ok (.iand, 1) := by decide +kernel
theorem d_Test_isTrueAt_56 : decode M_Test_isTrueAt.2.1 56 = .ok (.ifCond .eq 5, 3) := by decide +kernel
theorem d_Test_isTrueAt_61 : decode M_Test_isTrueAt.2.1 61 = .ok (.iinc 4 1, 3) := by decide +kernel
theorem d_Test_isTrueAt_64 : decode M_Test_isTrueAt.2.1 64 = .ok (.goto (-34), 3) := by decide +kernel
theorem d_Test_isTrueAt_59 : decode M_Test_isTrueAt.2.1 59 = .ok (.iconst 1, 1) := by decide +kernel
theorem d_Test_isTrueAt_60 : decode M_Test_isTrueAt.2.1 60 = .ok (.ireturn, 1) := by decide +kernel
theorem d_Test_isTrueAt_0 : decode M_Test_isTrueAt.2.1 0 = .ok (.aload_n 0, 1) := by decide +kernel
theorem d_Test_isTrueAt_1 : decode M_Test_isTrueAt.2.1 1 = .ok (.getfield 9, 3) := by decide +kernel
theorem xw_1019 : (Jvm.Cond.fieldLink "MarkerText$Test" (9 : Nat) "MarkerText$Test" "name" "I") ∈ xT := xT_at 1019 (by decide +kernel) (by decide +kernel)
theorem xf_Test_9_Test : xF "MarkerText$Test" 9 k_Test 0 := ⟨_, _, _, "MarkerText$Test", rfl, by decide, Or.inl xw_1019, Or.inl rfl⟩
theorem d_Test_isTrueAt_4 : decode M_Test_isTrueAt.2.1 4 = .ok (.ifCond .lt 21, 3) := by decide +kernel
theorem d_Test_isTrueAt_7 : decode M_Test_isTrueAt.2.1 7 = .ok (.aload_n 0, 1) := by decide +kernel
theorem d_Test_isTrueAt_8 : decode M_Test_isTrueAt.2.1 8 = .ok (.getfield 9, 3) := by decide +kernel
theorem d_Test_isTrueAt_11 : decode M_Test_isTrueAt.2.1 11 = .ok (.aload_n 1, 1) := by decide +kernel
theorem d_Test_isTrueAt_12 : decode M_Test_isTrueAt.2.1 12 = .ok (.arraylength, 1) := by decide +kernel
theorem d_Test_isTrueAt_13 : decode M_Test_isTrueAt.2.1 13 = .ok (.if_icmp .ge 12, 3) := by decide +kernel
theorem d_Test_isTrueAt_16 : decode M_Test_isTrueAt.2.1 16 = .ok (.aload_n 1, 1) := by decide +kernel
theorem d_Test_isTrueAt_17 : decode M_Test_isTrueAt.2.1 17 = .ok (.aload_n 0, 1) := by decide +kernel
theorem d_Test_isTrueAt_18 : decode M_Test_isTrueAt.2.1 18 = .ok (.getfield 9, 3) := by decide +kernel
theorem d_Test_isTrueAt_21 : decode M_Test_isTrueAt.2.1 21 = .ok (.laload, 1) := by decide +kernel
theorem d_Test_isTrueAt_22 : decode M_Test_isTrueAt.2.1 22 = .ok (.goto 4, 3) := by decide +kernel
theorem d_Test_isTrueAt_26 : decode M_Test_isTrueAt.2.1 26 = .ok (.lstore_n 2, 1) := by decide +kernel
theorem d_Test_isTrueAt_27 : decode M_Test_isTrueAt.2.1 27 = .ok (.iconst 0, 1) := by decide +kernel
theorem d_Test_isTrueAt_28 : decode M_Test_isTrueAt.2.1 28 = .ok (.istore 4, 2) := by decide +kernel
theorem d_Constant_isTrueAt_0 : decode M_Constant_isTrueAt.2.1 0 = .ok (.aload_n 0, 1) := by decide +kernel
theorem d_Constant_isTrueAt_1 : decode M_Constant_isTrueAt.2.1 1 = .ok (.getfield 7, 3) := by decide +kernel
theorem xw_969 : (Jvm.Cond.fieldLink "MarkerText$Constant" (7 : Nat) "MarkerText$Constant" "truth" "Z") ∈ xT := xT_at 969 (by decide +kernel) (by decide +kernel)
theorem xf_Constant_7_Constant : xF "MarkerText$Constant" 7 k_Constant 0 := ⟨_, _, _, "MarkerText$Constant", rfl, by decide, Or.inl xw_969, Or.inl rfl⟩
theorem d_Constant_isTrueAt_4 : decode M_Constant_isTrueAt.2.1 4 = .ok (.ireturn, 1) := by decide +kernel
theorem d_Negation_isTrueAt_0 : decode M_Negation_isTrueAt.2.1 0 = .ok (.aload_n 0, 1) := by decide +kernel
theorem d_Negation_isTrueAt_1 : decode M_Negation_isTrueAt.2.1 1 = .ok (.getfield 7, 3) := by decide +kernel
theorem xw_945 : (Jvm.Cond.fieldLink "MarkerText$Negation" (7 : Nat) "MarkerText$Negation" "inner" "LMarkerText$Node;") ∈ xT := xT_at 945 (by decide +kernel) (by decide +kernel)
theorem xf_Negation_7_Negation : xF "MarkerText$Negation" 7 k_Negation 0 := ⟨_, _, _, "MarkerText$Negation", rfl, by decide, Or.inl xw_945, Or.inl rfl⟩
theorem d_Negation_isTrueAt_4 : decode M_Negation_isTrueAt.2.1 4 = .ok (.aload_n 1, 1) := by decide +kernel
theorem d_Negation_isTrueAt_5 : decode M_Negation_isTrueAt.2.1 5 = .ok (.invokevirtual 13, 3) := by decide +kernel
theorem xw_300 : (Jvm.Cond.code ({ cls := "MarkerText$Test", name := "isTrueAt", desc := "([J)Z" } : Jvm.MethodName) prog_11_method_2_code (5 : Nat) (Option.some Jvm.ClassFile.FieldType.boolean)) ∈ xT := xT_at 300 (by decide +kernel) (by decide +kernel)
theorem xcb_Test_isTrueAt : xcb M_Test_isTrueAt 1 := ⟨xw_300, xw_30, by decide, by decide, by decide, by decide +kernel⟩
theorem xw_299 : (Jvm.Cond.instanceMethod ({ cls := "MarkerText$Test", name := "isTrueAt", desc := "([J)Z" } : Jvm.MethodName)) ∈ xT := xT_at 299 (by decide +kernel) (by decide +kernel)
theorem xw_287 : (Jvm.Cond.declares ({ cls := "MarkerText$Node", name := "isTrueAt", desc := "([J)Z" } : Jvm.MethodName)) ∈ xT := xT_at 287 (by decide +kernel) (by decide +kernel)
theorem xw_298 : (Jvm.Cond.methodLink "MarkerText$Negation" (13 : Nat) ({ cls := "MarkerText$Node", name := "isTrueAt", desc := "([J)Z" } : Jvm.MethodName)) ∈ xT := xT_at 298 (by decide +kernel) (by decide +kernel)
theorem xw_288 : (Jvm.Cond.sameMethod "MarkerText$Node" "MarkerText$Node" "isTrueAt" "([J)Z") ∈ xT := xT_at 288 (by decide +kernel) (by decide +kernel)
theorem xw_305 : (Jvm.Cond.selects "MarkerText$Test" ({ cls := "MarkerText$Node", name := "isTrueAt", desc := "([J)Z" } : Jvm.MethodName) ({ cls := "MarkerText$Test", name := "isTrueAt", desc := "([J)Z" } : Jvm.MethodName)) ∈ xT := xT_at 305 (by decide +kernel) (by decide +kernel)
theorem xcv_Negation_13_Test : xCV "MarkerText$Negation" 13 "MarkerText$Test" M_Test_isTrueAt 1 := ⟨xcb_Test_isTrueAt, xw_299, Or.inr (Or.inr ⟨⟨"MarkerText$Node", "isTrueAt", "([J)Z"⟩, "MarkerText$Node", xw_298, xw_288, xw_305, rfl, ⟨by decide, by decide⟩, Or.inl xw_287⟩)⟩
theorem xw_294 : (Jvm.Cond.code ({ cls := "MarkerText$Join", name := "isTrueAt", desc := "([J)Z" } : Jvm.MethodName) prog_5_method_2_code (2 : Nat) (Option.some Jvm.ClassFile.FieldType.boolean)) ∈ xT := xT_at 294 (by decide +kernel) (by decide +kernel)
theorem xw_31 : (Jvm.Cond.initialized "MarkerText$Join") ∈ xT := xT_at 31 (by decide +kernel) (by decide +kernel)
theorem xcb_Join_isTrueAt : xcb M_Join_isTrueAt 1 := ⟨xw_294, xw_31, by decide, by decide, by decide, by decide +kernel⟩
theorem xw_293 : (Jvm.Cond.instanceMethod ({ cls := "MarkerText$Join", name := "isTrueAt", desc := "([J)Z" } : Jvm.MethodName)) ∈ xT := xT_at 293 (by decide +kernel) (by decide +kernel)
theorem xw_292 : (Jvm.Cond.selects "MarkerText$Join" ({ cls := "MarkerText$Node", name := "isTrueAt", desc := "([J)Z" } : Jvm.MethodName) ({ cls := "MarkerText$Join", name := "isTrueAt", desc := "([J)Z" } : Jvm.MethodName)) ∈ xT := xT_at 292 (by decide +kernel) (by decide +kernel)
theorem xcv_Negation_13_Join : xCV "MarkerText$Negation" 13 "MarkerText$Join" M_Join_isTrueAt 1 := ⟨xcb_Join_isTrueAt, xw_293, Or.inr (Or.inr ⟨⟨"MarkerText$Node", "isTrueAt", "([J)Z"⟩, "MarkerText$Node", xw_298, xw_288, xw_292, rfl, ⟨by decide, by decide⟩, Or.inl xw_287⟩)⟩
theorem xw_297 : (Jvm.Cond.code ({ cls := "MarkerText$Negation", name := "isTrueAt", desc := "([J)Z" } : Jvm.MethodName) prog_7_method_2_code (2 : Nat) (Option.some Jvm.ClassFile.FieldType.boolean)) ∈ xT := xT_at 297 (by decide +kernel) (by decide +kernel)
theorem xw_28 : (Jvm.Cond.initialized "MarkerText$Negation") ∈ xT := xT_at 28 (by decide +kernel) (by decide +kernel)
theorem xcb_Negation_isTrueAt : xcb M_Negation_isTrueAt 1 := ⟨xw_297, xw_28, by decide, by decide, by decide, by decide +kernel⟩
theorem xw_296 : (Jvm.Cond.instanceMethod ({ cls := "MarkerText$Negation", name := "isTrueAt", desc := "([J)Z" } : Jvm.MethodName)) ∈ xT := xT_at 296 (by decide +kernel) (by decide +kernel)
theorem xw_304 : (Jvm.Cond.selects "MarkerText$Negation" ({ cls := "MarkerText$Node", name := "isTrueAt", desc := "([J)Z" } : Jvm.MethodName) ({ cls := "MarkerText$Negation", name := "isTrueAt", desc := "([J)Z" } : Jvm.MethodName)) ∈ xT := xT_at 304 (by decide +kernel) (by decide +kernel)
theorem xcv_Negation_13_Negation : xCV "MarkerText$Negation" 13 "MarkerText$Negation" M_Negation_isTrueAt 1 := ⟨xcb_Negation_isTrueAt, xw_296, Or.inr (Or.inr ⟨⟨"MarkerText$Node", "isTrueAt", "([J)Z"⟩, "MarkerText$Node", xw_298, xw_288, xw_304, rfl, ⟨by decide, by decide⟩, Or.inl xw_287⟩)⟩
theorem xw_291 : (Jvm.Cond.code ({ cls := "MarkerText$Constant", name := "isTrueAt", desc := "([J)Z" } : Jvm.MethodName) prog_4_method_2_code (2 : Nat) (Option.some Jvm.ClassFile.FieldType.boolean)) ∈ xT := xT_at 291 (by decide +kernel) (by decide +kernel)
theorem xw_29 : (Jvm.Cond.initialized "MarkerText$Constant") ∈ xT := xT_at 29 (by decide +kernel) (by decide +kernel)
theorem xcb_Constant_isTrueAt : xcb M_Constant_isTrueAt 1 := ⟨xw_291, xw_29, by decide, by decide, by decide, by decide +kernel⟩
theorem xw_290 : (Jvm.Cond.instanceMethod ({ cls := "MarkerText$Constant", name := "isTrueAt", desc := "([J)Z" } : Jvm.MethodName)) ∈ xT := xT_at 290 (by decide +kernel) (by decide +kernel)
theorem xw_289 : (Jvm.Cond.selects "MarkerText$Constant" ({ cls := "MarkerText$Node", name := "isTrueAt", desc := "([J)Z" } : Jvm.MethodName) ({ cls := "MarkerText$Constant", name := "isTrueAt", desc := "([J)Z" } : Jvm.MethodName)) ∈ xT := xT_at 289 (by decide +kernel) (by decide +kernel)
theorem xcv_Negation_13_Constant : xCV "MarkerText$Negation" 13 "MarkerText$Constant" M_Constant_isTrueAt 1 := ⟨xcb_Constant_isTrueAt, xw_290, Or.inr (Or.inr ⟨⟨"MarkerText$Node", "isTrueAt", "([J)Z"⟩, "MarkerText$Node", xw_298, xw_288, xw_289, rfl, ⟨by decide, by decide⟩, Or.inl xw_287⟩)⟩
theorem xD_Negation_13 : ∀ q ∈ ([(k_Test, M_Test_isTrueAt), (k_Join, M_Join_isTrueAt), (k_Negation, M_Negation_isTrueAt), (k_Constant, M_Constant_isTrueAt)] : List (Nat × XMt)), ∃ C T N, xk[q.1]? = some (.inl (C, T, N)) ∧ xCV "MarkerText$Negation" 13 C q.2 1 := List.forall_mem_cons.mpr ⟨⟨_, _, _, rfl, xcv_Negation_13_Test⟩, List.forall_mem_cons.mpr ⟨⟨_, _, _, rfl, xcv_Negation_13_Join⟩, List.forall_mem_cons.mpr ⟨⟨_, _, _, rfl, xcv_Negation_13_Negation⟩, List.forall_mem_cons.mpr ⟨⟨_, _, _, rfl, xcv_Negation_13_Constant⟩, fun _ hz => by cases hz⟩⟩⟩⟩
theorem d_Negation_isTrueAt_8 : decode M_Negation_isTrueAt.2.1 8 = .ok (.ifCond .ne 7, 3) := by decide +kernel
theorem d_Negation_isTrueAt_11 : decode M_Negation_isTrueAt.2.1 11 = .ok (.iconst 1, 1) := by decide +kernel
theorem d_Negation_isTrueAt_12 : decode M_Negation_isTrueAt.2.1 12 = .ok (.goto 4, 3) := by decide +kernel
theorem d_Negation_isTrueAt_16 : decode M_Negation_isTrueAt.2.1 16 = .ok (.ireturn, 1) := by decide +kernel
theorem d_Negation_isTrueAt_15 : decode M_Negation_isTrueAt.2.1 15 = .ok (.iconst 0, 1) := by decide +kernel
theorem d_Join_isTrueAt_0 : decode M_Join_isTrueAt.2.1 0 = .ok (.aload_n 0, 1) := by decide +kernel
theorem d_Join_isTrueAt_1 : decode M_Join_isTrueAt.2.1 1 = .ok (.getfield 16, 3) := by decide +kernel
theorem xw_948 : (Jvm.Cond.sameField "MarkerText$Join" "MarkerText$Node" "strength" "I") ∈ xT := xT_at 948 (by decide +kernel) (by decide +kernel)
theorem xw_947 : (Jvm.Cond.fieldLink "MarkerText$Join" (16 : Nat) "MarkerText$Join" "strength" "I") ∈ xT := xT_at 947 (by decide +kernel) (by decide +kernel)
theorem xf_Join_16_Join : xF "MarkerText$Join" 16 k_Join 2 := ⟨_, _, _, "MarkerText$Join", rfl, by decide, Or.inl xw_947, Or.inr xw_948⟩
theorem d_Join_isTrueAt_4 : decode M_Join_isTrueAt.2.1 4 = .ok (.iconst 1, 1) := by decide +kernel
theorem d_Join_isTrueAt_5 : decode M_Join_isTrueAt.2.1 5 = .ok (.if_icmp .ne 33, 3) := by decide +kernel
theorem d_Join_isTrueAt_8 : decode M_Join_isTrueAt.2.1 8 = .ok (.aload_n 0, 1) := by decide +kernel
theorem d_Join_isTrueAt_9 : decode M_Join_isTrueAt.2.1 9 = .ok (.getfield 7, 3) := by decide +kernel
theorem xw_1091 : (Jvm.Cond.fieldLink "MarkerText$Join" (7 : Nat) "MarkerText$Join" "first" "LMarkerText$Node;") ∈ xT := xT_at 1091 (by decide +kernel) (by decide +kernel)
theorem xf_Join_7_Join : xF "MarkerText$Join" 7 k_Join 0 := ⟨_, _, _, "MarkerText$Join", rfl, by decide, Or.inl xw_1091, Or.inl rfl⟩
theorem d_Join_isTrueAt_12 : decode M_Join_isTrueAt.2.1 12 = .ok (.aload_n 1, 1) := by decide +kernel
theorem d_Join_isTrueAt_13 : decode M_Join_isTrueAt.2.1 13 = .ok (.invokevirtual 20, 3) := by decide +kernel
theorem xw_295 : (Jvm.Cond.methodLink "MarkerText$Join" (20 : Nat) ({ cls := "MarkerText$Node", name := "isTrueAt", desc := "([J)Z" } : Jvm.MethodName)) ∈ xT := xT_at 295 (by decide +kernel) (by decide +kernel)
theorem xcv_Join_20_Test : xCV "MarkerText$Join" 20 "MarkerText$Test" M_Test_isTrueAt 1 := ⟨xcb_Test_isTrueAt, xw_299, Or.inr (Or.inr ⟨⟨"MarkerText$Node", "isTrueAt", "([J)Z"⟩, "MarkerText$Node", xw_295, xw_288, xw_305, rfl, ⟨by decide, by decide⟩, Or.inl xw_287⟩)⟩
theorem xcv_Join_20_Join : xCV "MarkerText$Join" 20 "MarkerText$Join" M_Join_isTrueAt 1 := ⟨xcb_Join_isTrueAt, xw_293, Or.inr (Or.inr ⟨⟨"MarkerText$Node", "isTrueAt", "([J)Z"⟩, "MarkerText$Node", xw_295, xw_288, xw_292, rfl, ⟨by decide, by decide⟩, Or.inl xw_287⟩)⟩
theorem xcv_Join_20_Negation : xCV "MarkerText$Join" 20 "MarkerText$Negation" M_Negation_isTrueAt 1 := ⟨xcb_Negation_isTrueAt, xw_296, Or.inr (Or.inr ⟨⟨"MarkerText$Node", "isTrueAt", "([J)Z"⟩, "MarkerText$Node", xw_295, xw_288, xw_304, rfl, ⟨by decide, by decide⟩, Or.inl xw_287⟩)⟩
theorem xcv_Join_20_Constant : xCV "MarkerText$Join" 20 "MarkerText$Constant" M_Constant_isTrueAt 1 := ⟨xcb_Constant_isTrueAt, xw_290, Or.inr (Or.inr ⟨⟨"MarkerText$Node", "isTrueAt", "([J)Z"⟩, "MarkerText$Node", xw_295, xw_288, xw_289, rfl, ⟨by decide, by decide⟩, Or.inl xw_287⟩)⟩
theorem xD_Join_20 : ∀ q ∈ ([(k_Test, M_Test_isTrueAt), (k_Join, M_Join_isTrueAt), (k_Negation, M_Negation_isTrueAt), (k_Constant, M_Constant_isTrueAt)] : List (Nat × XMt)), ∃ C T N, xk[q.1]? = some (.inl (C, T, N)) ∧ xCV "MarkerText$Join" 20 C q.2 1 := List.forall_mem_cons.mpr ⟨⟨_, _, _, rfl, xcv_Join_20_Test⟩, List.forall_mem_cons.mpr ⟨⟨_, _, _, rfl, xcv_Join_20_Join⟩, List.forall_mem_cons.mpr ⟨⟨_, _, _, rfl, xcv_Join_20_Negation⟩, List.forall_mem_cons.mpr ⟨⟨_, _, _, rfl, xcv_Join_20_Constant⟩, fun _ hz => by cases hz⟩⟩⟩⟩
theorem d_Join_isTrueAt_16 : decode M_Join_isTrueAt.2.1 16 = .ok (.ifCond .ne 14, 3) := by decide +kernel
theorem d_Join_isTrueAt_19 : decode M_Join_isTrueAt.2.1 19 = .ok (.aload_n 0, 1) := by decide +kernel
theorem d_Join_isTrueAt_20 : decode M_Join_isTrueAt.2.1 20 = .ok (.getfield 13, 3) := by decide +kernel
theorem xw_1092 : (Jvm.Cond.fieldLink "MarkerText$Join" (13 : Nat) "MarkerText$Join" "second" "LMarkerText$Node;") ∈ xT := xT_at 1092 (by decide +kernel) (by decide +kernel)
theorem xf_Join_13_Join : xF "MarkerText$Join" 13 k_Join 1 := ⟨_, _, _, "MarkerText$Join", rfl, by decide, Or.inl xw_1092, Or.inl rfl⟩
theorem d_Join_isTrueAt_23 : decode M_Join_isTrueAt.2.1 23 = .ok (.aload_n 1, 1) := by decide +kernel
theorem d_Join_isTrueAt_24 : decode M_Join_isTrueAt.2.1 24 = .ok (.invokevirtual 20, 3) := by decide +kernel
theorem d_Join_isTrueAt_27 : decode M_Join_isTrueAt.2.1 27 = .ok (.ifCond .eq 7, 3) := by decide +kernel
theorem d_Join_isTrueAt_34 : decode M_Join_isTrueAt.2.1 34 = .ok (.iconst 0, 1) := by decide +kernel
theorem d_Join_isTrueAt_35 : decode M_Join_isTrueAt.2.1 35 = .ok (.goto 30, 3) := by decide +kernel
theorem d_Join_isTrueAt_65 : decode M_Join_isTrueAt.2.1 65 = .ok (.ireturn, 1) := by decide +kernel
theorem d_Join_isTrueAt_30 : decode M_Join_isTrueAt.2.1 30 = .ok (.iconst 1, 1) := by decide +kernel
theorem d_Join_isTrueAt_31 : decode M_Join_isTrueAt.2.1 31 = .ok (.goto 34, 3) := by decide +kernel
theorem d_Join_isTrueAt_38 : decode M_Join_isTrueAt.2.1 38 = .ok (.aload_n 0, 1) := by decide +kernel
theorem d_Join_isTrueAt_39 : decode M_Join_isTrueAt.2.1 39 = .ok (.getfield 7, 3) := by decide +kernel
theorem d_Join_isTrueAt_42 : decode M_Join_isTrueAt.2.1 42 = .ok (.aload_n 1, 1) := by decide +kernel
theorem d_Join_isTrueAt_43 : decode M_Join_isTrueAt.2.1 43 = .ok (.invokevirtual 20, 3) := by decide +kernel
theorem d_Join_isTrueAt_46 : decode M_Join_isTrueAt.2.1 46 = .ok (.ifCond .eq 18, 3) := by decide +kernel
theorem d_Join_isTrueAt_64 : decode M_Join_isTrueAt.2.1 64 = .ok (.iconst 0, 1) := by decide +kernel
theorem d_Join_isTrueAt_49 : decode M_Join_isTrueAt.2.1 49 = .ok (.aload_n 0, 1) := by decide +kernel
theorem d_Join_isTrueAt_50 : decode M_Join_isTrueAt.2.1 50 = .ok (.getfield 13, 3) := by decide +kernel
theorem d_Join_isTrueAt_53 : decode M_Join_isTrueAt.2.1 53 = .ok (.aload_n 1, 1) := by decide +kernel
theorem d_Join_isTrueAt_54 : decode M_Join_isTrueAt.2.1 54 = .ok (.invokevirtual 20, 3) := by decide +kernel
theorem d_Join_isTrueAt_57 : decode M_Join_isTrueAt.2.1 57 = .ok (.ifCond .eq 7, 3) := by decide +kernel
theorem d_Join_isTrueAt_60 : decode M_Join_isTrueAt.2.1 60 = .ok (.iconst 1, 1) := by decide +kernel
theorem d_Join_isTrueAt_61 : decode M_Join_isTrueAt.2.1 61 = .ok (.goto 4, 3) := by decide +kernel
end
section ND1
variable {l : Launch} {G : XG} {h : XH} {c n d : Nat}
def bI (b : Bool) : Int32 := if b then 1 else 0
/-- how a level compares with another one -/
def tout (x v : Nat) : Nat := if x = 0 then 8 else if x = v then 2 else if x < v then 1 else 4
/-- a test: its name, what it accepts, its levels, as it is shown -/
abbrev TsT : Type := Nat × Nat × List Nat × List Nat
def tst (t : TsT) (lv : Nat → Nat) : Bool := t.2.2.1.any (fun v => decide (t.2.1 &&& tout (lv t.1) v ≠ 0))
def isTs (G : XG) (h : XH) (a : Nat) (t : TsT) : Prop := ∃ va sa, h a = some (k_Test, [.int (nI t.1), .int (nI t.2.1), .ref va, .ref sa, .int 3]) ∧ h va = some (k_avals, t.2.2.1.map (fun v => .long (lN v))) ∧ isS G h sa t.2.2.2 ∧ t.1 < 6 ∧ t.2.1 < 16 ∧ (∀ v ∈ t.2.2.1, v < 2 ^ 63) ∧ t.2.2.1.length ≤ 6
/-- a level for each name -/
def isLv (h : XH) (kl r : Nat) (lv : Nat → Nat) : Prop := xk[kl]? = some (.inr .long) ∧ h r = some (kl, (List.range 6).map (fun i => .long (lN (lv i)))) ∧ ∀ i, lv i < 2 ^ 63
theorem c_outcome {x v : Nat} (hx : x < 2 ^ 63) (hv : v < 2 ^ 63) : XM l G d M_Test_outcome [.long (lN x), .long (lN v)] h c n (xSame (.int (nI (tout x v))) h c n) := by
  refine XM.of (by decide +kernel) (Nat.le_of_ble_eq_true rfl) ?_
  refine x_lload_n d_Test_outcome_0 rfl ?_
  refine x_lconst (v := 0) d_Test_outcome_1 (by decide) ?_
  refine x_lcmp d_Test_outcome_2 ?_
  unfold tout
  by_cases h0 : x = 0
  · rw [if_pos h0]
    refine x_if_ne (tgt := 9) d_Test_outcome_3 (by decide) (fun ht => absurd ((lg_cmp_eq _ _).mpr (by rw [h0]; rfl)) ht) (fun _ => ?_)
    refine x_bipush (v := 8) d_Test_outcome_6 (by decide) ?_
    refine x_iret d_Test_outcome_8 rfl ?_
    exact ⟨rfl, rfl, rfl, rfl⟩
  rw [if_neg h0]
  refine x_if_ne (tgt := 9) d_Test_outcome_3 (by decide) (fun _ => ?_) (fun hn => absurd hn (fun z => h0 ((pk_lEQ (b := 0) hx (by decide)).mp ((lg_cmp_eq _ _).mp z))))
  refine x_lload_n d_Test_outcome_9 rfl ?_
  refine x_lload_n d_Test_outcome_10 rfl ?_
  refine x_lcmp d_Test_outcome_11 ?_
  by_cases h1 : x = v
  · rw [if_pos h1]
    refine x_if_ne (tgt := 17) d_Test_outcome_12 (by decide) (fun ht => absurd ((lg_cmp_eq _ _).mpr (by rw [h1])) ht) (fun _ => ?_)
    refine x_iconst (v := 2) d_Test_outcome_15 (by decide) ?_
    refine x_iret d_Test_outcome_16 rfl ?_
    exact ⟨rfl, rfl, rfl, rfl⟩
  rw [if_neg h1]
  refine x_if_ne (tgt := 17) d_Test_outcome_12 (by decide) (fun _ => ?_) (fun hn => absurd hn (fun z => h1 ((pk_lEQ hx hv).mp ((lg_cmp_eq _ _).mp z))))
  refine x_lload_n d_Test_outcome_17 rfl ?_
  refine x_lload_n d_Test_outcome_18 rfl ?_
  refine x_lcmp d_Test_outcome_19 ?_
  by_cases h2 : x < v
  · rw [if_pos h2]
    refine x_if_ge (tgt := 27) d_Test_outcome_20 (by decide) (fun ht => absurd ht (fun z => absurd ((pk_lLE hv hx).mp ((lg_cmp_ge _ _).mp z)) (by omega))) (fun _ => ?_)
    refine x_iconst (v := 1) d_Test_outcome_23 (by decide) ?_
    refine x_goto (tgt := 28) d_Test_outcome_24 (by decide) ?_
    refine x_iret d_Test_outcome_28 rfl ?_
    exact ⟨rfl, rfl, rfl, rfl⟩
  · rw [if_neg h2]
    refine x_if_ge (tgt := 27) d_Test_outcome_20 (by decide) (fun _ => ?_) (fun hn => absurd ((lg_cmp_ge _ _).mpr ((pk_lLE hv hx).mpr (by omega))) hn)
    refine x_iconst (v := 4) d_Test_outcome_27 (by decide) ?_
    refine x_iret d_Test_outcome_28 rfl ?_
    exact ⟨rfl, rfl, rfl, rfl⟩
theorem acc_and : ∀ a, a < 16 → ∀ b, b < 16 → (nI a &&& nI b = 0 ↔ a &&& b = 0) := by decide +kernel
theorem tout_lt (x v : Nat) : tout x v < 16 := by
  unfold tout
  split
  · decide
  split
  · decide
  split <;> decide
theorem c_Test_isTrueAt (hd : 1 ≤ d) {a kl r : Nat} {t : TsT} {lv : Nat → Nat} (hT : isTs G h a t) (hL : isLv h kl r lv) : XM l G d M_Test_isTrueAt [.ref a, .ref r] h c n (xSame (.int (bI (tst t lv))) h c n) := by
  obtain ⟨d, rfl⟩ : ∃ q, d = q + 1 := ⟨d - 1, by omega⟩
  obtain ⟨va, sa, ha, hva, -, h6, h16, hb, hl⟩ := hT
  obtain ⟨hkl, hr, hlb⟩ := hL
  have hlen : ((List.range 6).map (fun i => Value.long (lN (lv i)))).length = 6 := by simp
  have hat : ((List.range 6).map (fun i => Value.long (lN (lv i))))[(nI t.1).toNatClampNeg]? = some (.long (lN (lv t.1))) := by
    rw [nI_clamp (by omega), List.getElem?_map, List.getElem?_range h6]
    rfl
  have hvl : (t.2.2.1.map (fun v => Value.long (lN v))).length = t.2.2.1.length := by simp
  refine XM.of (by decide +kernel) (Nat.le_of_ble_eq_true rfl) ?_
  have lp : ∀ (k i : Nat), i + k = t.2.2.1.length → (∀ j (hj : j < t.2.2.1.length), j < i → t.2.1 &&& tout (lv t.1) t.2.2.1[j] = 0) → XW l G M_Test_isTrueAt (d + 1) 30 [some (.ref a), some (.ref r), some (.long (lN (lv t.1))), none, some (.int (nI i))] [] h c n (xSame (.int (bI (tst t lv))) h c n) := by
    intro k
    induction k with
    | zero =>
      intro i hi hj
      have hno : tst t lv = false := by
        refine List.any_eq_false.mpr (fun v hv => ?_)
        obtain ⟨j, h1, h2⟩ := List.getElem_of_mem hv
        rw [← h2]
        simpa using hj j h1 (by omega)
      refine x_iload d_Test_isTrueAt_30 rfl ?_
      refine x_aload_n d_Test_isTrueAt_32 rfl rfl ?_
      refine x_get xf_Test_18_Test (Or.inl ha) rfl d_Test_isTrueAt_33 ?_
      refine x_alen (k := k_avals) rfl (Or.inl hva) (v := nI t.2.2.1.length) (by rw [hvl]; rfl) d_Test_isTrueAt_36 ?_
      refine x_icmp_ge (tgt := 67) d_Test_isTrueAt_37 (by decide) (fun _ => ?_) (fun hn => absurd (nI_le (by omega) (by omega)) hn)
      refine x_iconst (v := 0) d_Test_isTrueAt_67 (by decide) ?_
      refine x_zret d_Test_isTrueAt_68 rfl rfl ?_
      exact ⟨by rw [hno]; rfl, rfl, rfl, rfl⟩
    | succ k ih =>
      intro i hi hj
      have hil : i < t.2.2.1.length := by omega
      have hvi : (t.2.2.1.map (fun v => Value.long (lN v)))[(nI i).toNatClampNeg]? = some (.long (lN t.2.2.1[i])) := by
        rw [nI_clamp (by omega), List.getElem?_map, List.getElem?_eq_getElem hil]
        rfl
      refine x_iload d_Test_isTrueAt_30 rfl ?_
      refine x_aload_n d_Test_isTrueAt_32 rfl rfl ?_
      refine x_get xf_Test_18_Test (Or.inl ha) rfl d_Test_isTrueAt_33 ?_
      refine x_alen (k := k_avals) rfl (Or.inl hva) (v := nI t.2.2.1.length) (by rw [hvl]; rfl) d_Test_isTrueAt_36 ?_
      refine x_icmp_ge (tgt := 67) d_Test_isTrueAt_37 (by decide) (fun ht => absurd ht (nI_ge (by omega) (by omega))) (fun _ => ?_)
      refine x_aload_n d_Test_isTrueAt_40 rfl rfl ?_
      refine x_get xf_Test_15_Test (Or.inl ha) rfl d_Test_isTrueAt_41 ?_
      refine x_lload_n d_Test_isTrueAt_44 rfl ?_
      refine x_aload_n d_Test_isTrueAt_45 rfl rfl ?_
      refine x_get xf_Test_18_Test (Or.inl ha) rfl d_Test_isTrueAt_46 ?_
      refine x_iload d_Test_isTrueAt_49 rfl ?_
      refine x_lald (k := k_avals) rfl (Or.inl hva) (nI_pos (by omega)) hvi d_Test_isTrueAt_51 ?_
      refine x_callS (As := [_, _]) xcs_Test_26 (c_outcome (hlb _) (hb _ (List.getElem_mem hil))) rfl rfl (Nat.le_of_ble_eq_true rfl) d_Test_isTrueAt_52 ?_
      rintro v h' c' n' ⟨rfl, rfl, rfl, rfl⟩
      refine x_iand d_Test_isTrueAt_55 ?_
      by_cases he : t.2.1 &&& tout (lv t.1) t.2.2.1[i] = 0
      · refine x_if_eq (tgt := 61) d_Test_isTrueAt_56 (by decide) (fun _ => ?_) (fun hn => absurd ((acc_and _ h16 _ (tout_lt _ _)).mpr he) hn)
        refine x_iinc (v := nI (i + 1)) (L' := [_, _, _, _, _]) d_Test_isTrueAt_61 rfl (by exact xw_iinc1) rfl rfl ?_
        refine x_goto (tgt := 30) d_Test_isTrueAt_64 (by decide) ?_
        refine ih (i + 1) (by omega) (fun j h1 h2 => ?_)
        by_cases hji : j = i
        · subst hji; exact he
        · exact hj j h1 (by omega)
      · have hyes : tst t lv = true := List.any_eq_true.mpr ⟨t.2.2.1[i], List.getElem_mem hil, by simpa using he⟩
        refine x_if_eq (tgt := 61) d_Test_isTrueAt_56 (by decide) (fun ht => absurd ht (fun z => he ((acc_and _ h16 _ (tout_lt _ _)).mp z))) (fun _ => ?_)
        refine x_iconst (v := 1) d_Test_isTrueAt_59 (by decide) ?_
        refine x_zret d_Test_isTrueAt_60 rfl rfl ?_
        exact ⟨by rw [hyes]; rfl, rfl, rfl, rfl⟩
  refine x_aload_n d_Test_isTrueAt_0 rfl rfl ?_
  refine x_get xf_Test_9_Test (Or.inl ha) rfl d_Test_isTrueAt_1 ?_
  refine x_if_lt (tgt := 25) d_Test_isTrueAt_4 (by decide) (fun ht => absurd ht (nI_pos (by omega))) (fun _ => ?_)
  refine x_aload_n d_Test_isTrueAt_7 rfl rfl ?_
  refine x_get xf_Test_9_Test (Or.inl ha) rfl d_Test_isTrueAt_8 ?_
  refine x_aload_n d_Test_isTrueAt_11 rfl rfl ?_
  refine x_alen (k := kl) hkl (Or.inl hr) (v := nI 6) (by rw [hlen]; rfl) d_Test_isTrueAt_12 ?_
  refine x_icmp_ge (tgt := 25) d_Test_isTrueAt_13 (by decide) (fun ht => absurd ht (nI_ge (b := 6) (by omega) (by omega))) (fun _ => ?_)
  refine x_aload_n d_Test_isTrueAt_16 rfl rfl ?_
  refine x_aload_n d_Test_isTrueAt_17 rfl rfl ?_
  refine x_get xf_Test_9_Test (Or.inl ha) rfl d_Test_isTrueAt_18 ?_
  refine x_lald (k := kl) hkl (Or.inl hr) (nI_pos (by omega)) hat d_Test_isTrueAt_21 ?_
  refine x_goto (tgt := 26) d_Test_isTrueAt_22 (by decide) ?_
  refine x_lstore_n (L' := [_, _, _, _, _]) d_Test_isTrueAt_26 rfl rfl ?_
  refine x_iconst (v := 0) d_Test_isTrueAt_27 (by decide) ?_
  refine x_istore (L' := [_, _, _, _, _]) d_Test_isTrueAt_28 rfl rfl ?_
  exact lp t.2.2.1.length 0 (by omega) (fun j h1 h2 => by omega)
/-! what a part of a condition means: its strength, its truth at levels, its text -/
abbrev Den : Type := Nat × ((Nat → Nat) → Bool) × List Nat
def brk (b : Bool) (t : List Nat) : List Nat := if b then 40 :: t ++ [41] else t
def dTst (t : TsT) : Den := (3, tst t, t.2.2.2)
def dCon (b : Bool) : Den := (3, fun _ => b, if b then xtx 26 else xtx 27)
def dNot (A : Den) : Den := (3, fun lv => !A.2.1 lv, xtx 28 ++ brk (decide (A.1 < 3)) A.2.2)
def dJoin (s : Nat) (A B : Den) : Den := (s, fun lv => if s = 1 then A.2.1 lv || B.2.1 lv else A.2.1 lv && B.2.1 lv, brk (decide (A.1 < s)) A.2.2 ++ (if s = 1 then xtx 29 else xtx 30) ++ brk (decide (B.1 ≤ s)) B.2.2)
/-- a part of a condition of at most a depth -/
def isNode (G : XG) (h : XH) : Nat → Nat → Den → Prop
  | 0, a, D => (∃ t, isTs G h a t ∧ D = dTst t) ∨ (∃ b : Bool, h a = some (k_Constant, [.int (bI b), .int 3]) ∧ D = dCon b)
  | k + 1, a, D => isNode G h k a D ∨ (∃ x A, h a = some (k_Negation, [.ref x, .int 3]) ∧ isNode G h k x A ∧ D = dNot A) ∨ (∃ s x y A B, (s = 1 ∨ s = 2) ∧ h a = some (k_Join, [.ref x, .ref y, .int (nI s)]) ∧ isNode G h k x A ∧ isNode G h k y B ∧ D = dJoin s A B)
abbrev kNd : List Nat := [k_Test, k_Join, k_Negation, k_Constant, k_avals, k_String, k_asbyte]
theorem isTs.fr {h' : XH} {F : List Nat} {a : Nat} {t : TsT} (hT : isTs G h a t) (hf : xfr h h' F) (hn : xno h F kNd) : isTs G h' a t := by
  obtain ⟨va, sa, e1, e2, e3, e4⟩ := hT
  exact ⟨va, sa, hf.1 _ _ e1 (hn.at e1 (by decide)), hf.1 _ _ e2 (hn.at e2 (by decide)), e3.fr hf (hn.sub (by decide)), e4⟩
theorem isNode.fr {h' : XH} {F : List Nat} (hf : xfr h h' F) (hn : xno h F kNd) : ∀ {k a : Nat} {D : Den}, isNode G h k a D → isNode G h' k a D := by
  intro k
  induction k with
  | zero =>
    rintro a D (⟨t, h1, h2⟩ | ⟨b, h1, h2⟩)
    · exact Or.inl ⟨t, h1.fr hf hn, h2⟩
    · exact Or.inr ⟨b, hf.1 _ _ h1 (hn.at h1 (by decide)), h2⟩
  | succ k ih =>
    rintro a D (h1 | ⟨x, A, h1, h2, h3⟩ | ⟨s, x, y, A, B, h0, h1, h2, h3, h4⟩)
    · exact Or.inl (ih h1)
    · exact Or.inr (Or.inl ⟨x, A, hf.1 _ _ h1 (hn.at h1 (by decide)), ih h2, h3⟩)
    · exact Or.inr (Or.inr ⟨s, x, y, A, B, h0, hf.1 _ _ h1 (hn.at h1 (by decide)), ih h2, ih h3, h4⟩)
theorem isNode.st : ∀ {k a : Nat} {D : Den}, isNode G h k a D → hasSt G h a (.int (nI D.1)) := by
  intro k
  induction k with
  | zero =>
    rintro a D (⟨t, ⟨va, sa, e1, -⟩, rfl⟩ | ⟨b, h1, rfl⟩)
    · exact Or.inl ⟨_, _, _, _, Or.inl e1⟩
    · exact Or.inr (Or.inr (Or.inr ⟨_, Or.inl h1⟩))
  | succ k ih =>
    rintro a D (h1 | ⟨x, A, h1, h2, rfl⟩ | ⟨s, x, y, A, B, h0, h1, h2, h3, rfl⟩)
    · exact ih h1
    · exact Or.inr (Or.inr (Or.inl ⟨_, Or.inl h1⟩))
    · exact Or.inr (Or.inl ⟨_, _, Or.inl h1⟩)
theorem isNode.s3 : ∀ {k a : Nat} {D : Den}, isNode G h k a D → D.1 ≤ 3 := by
  intro k
  induction k with
  | zero =>
    rintro a D (⟨t, -, rfl⟩ | ⟨b, h1, rfl⟩) <;> exact Nat.le_refl _
  | succ k ih =>
    rintro a D (h1 | ⟨x, A, h1, h2, rfl⟩ | ⟨s, x, y, A, B, h0, h1, h2, h3, rfl⟩)
    · exact ih h1
    · exact Nat.le_refl _
    · show s ≤ 3
      omega
theorem XD.ofT {a : Nat} {As : List Value} {vs : List Value} {P : Option Value → XH → Nat → Nat → Prop} {ms : List (Nat × XMt)} {i : Nat} {q : Nat × XMt} (hq : ms[i]? = some q) (ha : h a = some (q.1, vs)) (hX : XM l G d q.2 (.ref a :: As) h c n P) : XD l G d ms a As h c n P := ⟨q, List.mem_of_getElem? hq, vs, Or.inl ha, hX⟩
theorem c_isTrueAt {kl r : Nat} {lv : Nat → Nat} (hL : isLv h kl r lv) : ∀ {k d a : Nat} {D : Den}, k + 1 ≤ d → isNode G h k a D → XD l G d msT a [.ref r] h c n (xSame (.int (bI (D.2.1 lv))) h c n) := by
  intro k
  induction k with
  | zero =>
    rintro d a D hd (⟨t, hT, rfl⟩ | ⟨b, h1, rfl⟩)
    · obtain ⟨va, sa, ha, -⟩ := id hT
      exact XD.ofT (i := 0) rfl ha (c_Test_isTrueAt (by omega) hT hL)
    · refine XD.ofT (i := 3) rfl h1 ?_
      refine XM.of (by decide +kernel) (Nat.le_of_ble_eq_true rfl) ?_
      refine x_aload_n d_Constant_isTrueAt_0 rfl rfl ?_
      refine x_get xf_Constant_7_Constant (Or.inl h1) rfl d_Constant_isTrueAt_1 ?_
      refine x_zret d_Constant_isTrueAt_4 rfl (by cases b <;> rfl) ?_
      exact ⟨rfl, rfl, rfl, rfl⟩
  | succ k ih =>
    rintro d a D hd (h1 | ⟨x, A, h1, h2, rfl⟩ | ⟨s, x, y, A, B, h0, h1, h2, h3, rfl⟩)
    · exact ih (by omega) h1
    · obtain ⟨d, rfl⟩ : ∃ q, d = q + 1 := ⟨d - 1, by omega⟩
      refine XD.ofT (i := 2) rfl h1 ?_
      refine XM.of (by decide +kernel) (Nat.le_of_ble_eq_true rfl) ?_
      refine x_aload_n d_Negation_isTrueAt_0 rfl rfl ?_
      refine x_get xf_Negation_7_Negation (Or.inl h1) rfl d_Negation_isTrueAt_1 ?_
      refine x_aload_n d_Negation_isTrueAt_4 rfl rfl ?_
      refine x_callD (As := [_]) xD_Negation_13 (ih (by omega) h2) rfl rfl (Nat.le_of_ble_eq_true rfl) d_Negation_isTrueAt_5 ?_
      rintro v h' c' n' ⟨rfl, rfl, rfl, rfl⟩
      show XW _ _ _ _ _ _ _ _ _ _ (xSame (.int (bI (!A.2.1 lv))) _ _ _)
      cases hA : A.2.1 lv
      · refine x_if_ne (tgt := 15) d_Negation_isTrueAt_8 (by decide) (fun ht => absurd rfl ht) (fun _ => ?_)
        refine x_iconst (v := 1) d_Negation_isTrueAt_11 (by decide) ?_
        refine x_goto (tgt := 16) d_Negation_isTrueAt_12 (by decide) ?_
        refine x_zret d_Negation_isTrueAt_16 rfl rfl ?_
        exact ⟨rfl, rfl, rfl, rfl⟩
      · refine x_if_ne (tgt := 15) d_Negation_isTrueAt_8 (by decide) (fun _ => ?_) (fun hn => absurd hn (by decide))
        refine x_iconst (v := 0) d_Negation_isTrueAt_15 (by decide) ?_
        refine x_zret d_Negation_isTrueAt_16 rfl rfl ?_
        exact ⟨rfl, rfl, rfl, rfl⟩
    · obtain ⟨d, rfl⟩ : ∃ q, d = q + 1 := ⟨d - 1, by omega⟩
      refine XD.ofT (i := 1) rfl h1 ?_
      refine XM.of (by decide +kernel) (Nat.le_of_ble_eq_true rfl) ?_
      show XW _ _ _ _ _ _ _ _ _ _ (xSame (.int (bI (if s = 1 then A.2.1 lv || B.2.1 lv else A.2.1 lv && B.2.1 lv))) _ _ _)
      rcases h0 with rfl | rfl
      · rw [if_pos rfl]
        refine x_aload_n d_Join_isTrueAt_0 rfl rfl ?_
        refine x_get xf_Join_16_Join (Or.inl h1) rfl d_Join_isTrueAt_1 ?_
        refine x_iconst (v := 1) d_Join_isTrueAt_4 (by decide) ?_
        refine x_icmp_ne (tgt := 38) d_Join_isTrueAt_5 (by decide) (fun ht => absurd rfl ht) (fun _ => ?_)
        refine x_aload_n d_Join_isTrueAt_8 rfl rfl ?_
        refine x_get xf_Join_7_Join (Or.inl h1) rfl d_Join_isTrueAt_9 ?_
        refine x_aload_n d_Join_isTrueAt_12 rfl rfl ?_
        refine x_callD (As := [_]) xD_Join_20 (ih (by omega) h2) rfl rfl (Nat.le_of_ble_eq_true rfl) d_Join_isTrueAt_13 ?_
        rintro v h' c' n' ⟨rfl, rfl, rfl, rfl⟩
        cases hA : A.2.1 lv
        · refine x_if_ne (tgt := 30) d_Join_isTrueAt_16 (by decide) (fun ht => absurd rfl ht) (fun _ => ?_)
          refine x_aload_n d_Join_isTrueAt_19 rfl rfl ?_
          refine x_get xf_Join_13_Join (Or.inl h1) rfl d_Join_isTrueAt_20 ?_
          refine x_aload_n d_Join_isTrueAt_23 rfl rfl ?_
          refine x_callD (As := [_]) xD_Join_20 (ih (by omega) h3) rfl rfl (Nat.le_of_ble_eq_true rfl) d_Join_isTrueAt_24 ?_
          rintro v h' c' n' ⟨rfl, rfl, rfl, rfl⟩
          cases hB : B.2.1 lv
          · refine x_if_eq (tgt := 34) d_Join_isTrueAt_27 (by decide) (fun _ => ?_) (fun hn => absurd rfl hn)
            refine x_iconst (v := 0) d_Join_isTrueAt_34 (by decide) ?_
            refine x_goto (tgt := 65) d_Join_isTrueAt_35 (by decide) ?_
            refine x_zret d_Join_isTrueAt_65 rfl rfl ?_
            exact ⟨rfl, rfl, rfl, rfl⟩
          · refine x_if_eq (tgt := 34) d_Join_isTrueAt_27 (by decide) (fun ht => absurd ht (by decide)) (fun _ => ?_)
            refine x_iconst (v := 1) d_Join_isTrueAt_30 (by decide) ?_
            refine x_goto (tgt := 65) d_Join_isTrueAt_31 (by decide) ?_
            refine x_zret d_Join_isTrueAt_65 rfl rfl ?_
            exact ⟨rfl, rfl, rfl, rfl⟩
        · refine x_if_ne (tgt := 30) d_Join_isTrueAt_16 (by decide) (fun _ => ?_) (fun hn => absurd hn (by decide))
          refine x_iconst (v := 1) d_Join_isTrueAt_30 (by decide) ?_
          refine x_goto (tgt := 65) d_Join_isTrueAt_31 (by decide) ?_
          refine x_zret d_Join_isTrueAt_65 rfl rfl ?_
          exact ⟨rfl, rfl, rfl, rfl⟩
      · rw [if_neg (by decide)]
        refine x_aload_n d_Join_isTrueAt_0 rfl rfl ?_
        refine x_get xf_Join_16_Join (Or.inl h1) rfl d_Join_isTrueAt_1 ?_
        refine x_iconst (v := 1) d_Join_isTrueAt_4 (by decide) ?_
        refine x_icmp_ne (tgt := 38) d_Join_isTrueAt_5 (by decide) (fun _ => ?_) (fun hn => absurd hn (by decide))
        refine x_aload_n d_Join_isTrueAt_38 rfl rfl ?_
        refine x_get xf_Join_7_Join (Or.inl h1) rfl d_Join_isTrueAt_39 ?_
        refine x_aload_n d_Join_isTrueAt_42 rfl rfl ?_
        refine x_callD (As := [_]) xD_Join_20 (ih (by omega) h2) rfl rfl (Nat.le_of_ble_eq_true rfl) d_Join_isTrueAt_43 ?_
        rintro v h' c' n' ⟨rfl, rfl, rfl, rfl⟩
        cases hA : A.2.1 lv
        · refine x_if_eq (tgt := 64) d_Join_isTrueAt_46 (by decide) (fun _ => ?_) (fun hn => absurd rfl hn)
          refine x_iconst (v := 0) d_Join_isTrueAt_64 (by decide) ?_
          refine x_zret d_Join_isTrueAt_65 rfl rfl ?_
          exact ⟨rfl, rfl, rfl, rfl⟩
        · refine x_if_eq (tgt := 64) d_Join_isTrueAt_46 (by decide) (fun ht => absurd ht (by decide)) (fun _ => ?_)
          refine x_aload_n d_Join_isTrueAt_49 rfl rfl ?_
          refine x_get xf_Join_13_Join (Or.inl h1) rfl d_Join_isTrueAt_50 ?_
          refine x_aload_n d_Join_isTrueAt_53 rfl rfl ?_
          refine x_callD (As := [_]) xD_Join_20 (ih (by omega) h3) rfl rfl (Nat.le_of_ble_eq_true rfl) d_Join_isTrueAt_54 ?_
          rintro v h' c' n' ⟨rfl, rfl, rfl, rfl⟩
          cases hB : B.2.1 lv
          · refine x_if_eq (tgt := 64) d_Join_isTrueAt_57 (by decide) (fun _ => ?_) (fun hn => absurd rfl hn)
            refine x_iconst (v := 0) d_Join_isTrueAt_64 (by decide) ?_
            refine x_zret d_Join_isTrueAt_65 rfl rfl ?_
            exact ⟨rfl, rfl, rfl, rfl⟩
          · refine x_if_eq (tgt := 64) d_Join_isTrueAt_57 (by decide) (fun ht => absurd ht (by decide)) (fun _ => ?_)
            refine x_iconst (v := 1) d_Join_isTrueAt_60 (by decide) ?_
            refine x_goto (tgt := 65) d_Join_isTrueAt_61 (by decide) ?_
            refine x_zret d_Join_isTrueAt_65 rfl rfl ?_
            exact ⟨rfl, rfl, rfl, rfl⟩
end ND1
