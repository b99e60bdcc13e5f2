section
abbrev y_Arrays_fill_aII : MethodName := ⟨"java/util/Arrays", "fill", "([II)V"⟩
abbrev M_Arrays_fill_aII : XMt := (y_Arrays_fill_aII, prog_34_method_103_code, 4, none)
theorem d_Arrays_fill_aII_5 : decode M_Arrays_fill_aII.2.1 5 = .ok (.iload_n 2, 1) := by decide +kernel
theorem d_Arrays_fill_aII_6 : decode M_Arrays_fill_aII.2.1 6 = .ok (.iload_n 3, 1) := by decide +kernel
theorem d_Arrays_fill_aII_7 : decode M_Arrays_fill_aII.2.1 7 = .ok (.if_icmp .ge 13, 3) := by decide +kernel
theorem d_Arrays_fill_aII_20 : decode M_Arrays_fill_aII.2.1 20 = .ok (.return_, 1) := by decide +kernel
theorem d_Arrays_fill_aII_10 : decode M_Arrays_fill_aII.2.1 10 = .ok (.aload_n 0, 1) := by decide +kernel
theorem d_Arrays_fill_aII_11 : decode M_Arrays_fill_aII.2.1 11 = .ok (.iload_n 2, 1) := by decide +kernel
theorem d_Arrays_fill_aII_12 : decode M_Arrays_fill_aII.2.1 12 = .ok (.iload_n 1, 1) := by decide +kernel
theorem d_Arrays_fill_aII_13 : decode M_Arrays_fill_aII.2.1 13 = .ok (.iastore, 1) := by decide +kernel
theorem d_Arrays_fill_aII_14 : decode M_Arrays_fill_aII.2.1 14 = .ok (.iinc 2 1, 3) := by decide +kernel
theorem d_Arrays_fill_aII_17 : decode M_Arrays_fill_aII.2.1 17 = .ok (.goto (-12), 3) := by decide +kernel
theorem d_Arrays_fill_aII_0 : decode M_Arrays_fill_aII.2.1 0 = .ok (.iconst 0, 1) := by decide +kernel
theorem d_Arrays_fill_aII_1 : decode M_Arrays_fill_aII.2.1 1 = .ok (.istore_n 2, 1) := by decide +kernel
theorem d_Arrays_fill_aII_2 : decode M_Arrays_fill_aII.2.1 2 = .ok (.aload_n 0, 1) := by decide +kernel
theorem d_Arrays_fill_aII_3 : decode M_Arrays_fill_aII.2.1 3 = .ok (.arraylength, 1) := by decide +kernel
theorem d_Arrays_fill_aII_4 : decode M_Arrays_fill_aII.2.1 4 = .ok (.istore_n 3, 1) := by decide +kernel
abbrev y_Parting_part : MethodName := ⟨"MarkerText$Parting", "part", "(LMarkerText$Choices;[LMarkerText$Condition;I)V"⟩
abbrev M_Parting_part : XMt := (y_Parting_part, prog_9_method_2_code, 5, none)
theorem d_Parting_part_0 : decode M_Parting_part.2.1 0 = .ok (.aload_n 0, 1) := by decide +kernel
theorem d_Parting_part_1 : decode M_Parting_part.2.1 1 = .ok (.iconst 0, 1) := by decide +kernel
theorem d_Parting_part_2 : decode M_Parting_part.2.1 2 = .ok (.putfield 9, 3) := by decide +kernel
theorem d_Parting_part_5 : decode M_Parting_part.2.1 5 = .ok (.aload_n 0, 1) := by decide +kernel
theorem d_Parting_part_6 : decode M_Parting_part.2.1 6 = .ok (.getfield 25, 3) := by decide +kernel
theorem d_Parting_part_9 : decode M_Parting_part.2.1 9 = .ok (.iconst 0, 1) := by decide +kernel
theorem d_Parting_part_10 : decode M_Parting_part.2.1 10 = .ok (.invokestatic 31, 3) := by decide +kernel
theorem xw_384 : (Jvm.Cond.code ({ cls := "java/util/Arrays", name := "fill", desc := "([II)V" } : Jvm.MethodName) prog_34_method_103_code (4 : Nat) (Option.none : Option Jvm.ClassFile.FieldType)) ∈ xT := xT_at 384 (by decide +kernel) (by decide +kernel)
theorem xcb_Arrays_fill_aII : xcb M_Arrays_fill_aII 2 := ⟨xw_384, xw_11, by decide, by decide, by decide, by decide +kernel⟩
theorem xw_382 : (Jvm.Cond.methodLink "MarkerText$Parting" (31 : Nat) ({ cls := "java/util/Arrays", name := "fill", desc := "([II)V" } : Jvm.MethodName)) ∈ xT := xT_at 382 (by decide +kernel) (by decide +kernel)
theorem xw_383 : (Jvm.Cond.static ({ cls := "java/util/Arrays", name := "fill", desc := "([II)V" } : Jvm.MethodName)) ∈ xT := xT_at 383 (by decide +kernel) (by decide +kernel)
theorem xcs_Parting_31 : xCS "MarkerText$Parting" 31 M_Arrays_fill_aII 2 := ⟨xcb_Arrays_fill_aII, xw_383, Or.inl xw_382⟩
theorem d_Parting_part_13 : decode M_Parting_part.2.1 13 = .ok (.aload_n 1, 1) := by decide +kernel
theorem d_Parting_part_14 : decode M_Parting_part.2.1 14 = .ok (.getfield 37, 3) := by decide +kernel
theorem xw_89 : (Jvm.Cond.fieldLinkNest "MarkerText$Parting" (37 : Nat) "MarkerText$Choices" "samples" "[I" "MarkerText") ∈ xT := xT_at 89 (by decide +kernel) (by decide +kernel)
theorem xf_Parting_37_Choices : xF "MarkerText$Parting" 37 k_Choices 3 := ⟨_, _, _, "MarkerText$Choices", rfl, by decide, Or.inr ⟨_, xw_89⟩, Or.inl rfl⟩
theorem d_Parting_part_17 : decode M_Parting_part.2.1 17 = .ok (.iconst 0, 1) := by decide +kernel
theorem d_Parting_part_18 : decode M_Parting_part.2.1 18 = .ok (.aload_n 0, 1) := by decide +kernel
theorem d_Parting_part_19 : decode M_Parting_part.2.1 19 = .ok (.getfield 28, 3) := by decide +kernel
theorem d_Parting_part_22 : decode M_Parting_part.2.1 22 = .ok (.iconst 0, 1) := by decide +kernel
theorem d_Parting_part_23 : decode M_Parting_part.2.1 23 = .ok (.bipush 6, 2) := by decide +kernel
theorem d_Parting_part_25 : decode M_Parting_part.2.1 25 = .ok (.invokestatic 40, 3) := by decide +kernel
theorem xw_385 : (Jvm.Cond.methodLink "MarkerText$Parting" (40 : Nat) ({ cls := "java/lang/System", name := "arraycopy", desc := "(Ljava/lang/Object;ILjava/lang/Object;II)V" } : Jvm.MethodName)) ∈ xT := xT_at 385 (by decide +kernel) (by decide +kernel)
theorem d_Parting_part_28 : decode M_Parting_part.2.1 28 = .ok (.iconst 0, 1) := by decide +kernel
theorem d_Parting_part_29 : decode M_Parting_part.2.1 29 = .ok (.istore 4, 2) := by decide +kernel
theorem d_Parting_part_31 : decode M_Parting_part.2.1 31 = .ok (.iload 4, 2) := by decide +kernel
theorem d_Parting_part_33 : decode M_Parting_part.2.1 33 = .ok (.aload_n 1, 1) := by decide +kernel
theorem d_Parting_part_34 : decode M_Parting_part.2.1 34 = .ok (.getfield 46, 3) := by decide +kernel
theorem xw_93 : (Jvm.Cond.fieldLinkNest "MarkerText$Parting" (46 : Nat) "MarkerText$Choices" "count" "I" "MarkerText") ∈ xT := xT_at 93 (by decide +kernel) (by decide +kernel)
theorem xf_Parting_46_Choices : xF "MarkerText$Parting" 46 k_Choices 6 := ⟨_, _, _, "MarkerText$Choices", rfl, by decide, Or.inr ⟨_, xw_93⟩, Or.inl rfl⟩
theorem d_Parting_part_37 : decode M_Parting_part.2.1 37 = .ok (.if_icmp .ge 25, 3) := by decide +kernel
theorem d_Parting_part_40 : decode M_Parting_part.2.1 40 = .ok (.aload_n 0, 1) := by decide +kernel
theorem d_Parting_part_41 : decode M_Parting_part.2.1 41 = .ok (.aload_n 1, 1) := by decide +kernel
theorem d_Parting_part_42 : decode M_Parting_part.2.1 42 = .ok (.aload_n 2, 1) := by decide +kernel
theorem d_Parting_part_43 : decode M_Parting_part.2.1 43 = .ok (.iload_n 3, 1) := by decide +kernel
theorem d_Parting_part_44 : decode M_Parting_part.2.1 44 = .ok (.invokevirtual 47, 3) := by decide +kernel
theorem xw_352 : (Jvm.Cond.code ({ cls := "MarkerText$Choices", name := "truths", desc := "([LMarkerText$Condition;I)I" } : Jvm.MethodName) prog_2_method_8_code (5 : Nat) (Option.some Jvm.ClassFile.FieldType.int)) ∈ xT := xT_at 352 (by decide +kernel) (by decide +kernel)
theorem xcb_Choices_truths : xcb M_Choices_truths 2 := ⟨xw_352, xw_6, by decide, by decide, by decide, by decide +kernel⟩
theorem xw_350 : (Jvm.Cond.instanceMethod ({ cls := "MarkerText$Choices", name := "truths", desc := "([LMarkerText$Condition;I)I" } : Jvm.MethodName)) ∈ xT := xT_at 350 (by decide +kernel) (by decide +kernel)
theorem xw_386 : (Jvm.Cond.methodLink "MarkerText$Parting" (47 : Nat) ({ cls := "MarkerText$Choices", name := "truths", desc := "([LMarkerText$Condition;I)I" } : Jvm.MethodName)) ∈ xT := xT_at 386 (by decide +kernel) (by decide +kernel)
theorem xw_351 : (Jvm.Cond.selects "MarkerText$Choices" ({ cls := "MarkerText$Choices", name := "truths", desc := "([LMarkerText$Condition;I)I" } : Jvm.MethodName) ({ cls := "MarkerText$Choices", name := "truths", desc := "([LMarkerText$Condition;I)I" } : Jvm.MethodName)) ∈ xT := xT_at 351 (by decide +kernel) (by decide +kernel)
theorem xcv_Parting_47_Choices : xCV "MarkerText$Parting" 47 "MarkerText$Choices" M_Choices_truths 2 := ⟨xcb_Choices_truths, xw_350, Or.inl ⟨xw_386, Or.inl xw_351⟩⟩
theorem d_Parting_part_47 : decode M_Parting_part.2.1 47 = .ok (.iload 4, 2) := by decide +kernel
theorem d_Parting_part_49 : decode M_Parting_part.2.1 49 = .ok (.invokevirtual 50, 3) := by decide +kernel
theorem xw_390 : (Jvm.Cond.code ({ cls := "MarkerText$Parting", name := "countIn", desc := "(II)V" } : Jvm.MethodName) prog_9_method_3_code (4 : Nat) (Option.none : Option Jvm.ClassFile.FieldType)) ∈ xT := xT_at 390 (by decide +kernel) (by decide +kernel)
theorem xcb_Parting_countIn : xcb M_Parting_countIn 2 := ⟨xw_390, xw_7, by decide, by decide, by decide, by decide +kernel⟩
theorem xw_389 : (Jvm.Cond.instanceMethod ({ cls := "MarkerText$Parting", name := "countIn", desc := "(II)V" } : Jvm.MethodName)) ∈ xT := xT_at 389 (by decide +kernel) (by decide +kernel)
theorem xw_387 : (Jvm.Cond.methodLink "MarkerText$Parting" (50 : Nat) ({ cls := "MarkerText$Parting", name := "countIn", desc := "(II)V" } : Jvm.MethodName)) ∈ xT := xT_at 387 (by decide +kernel) (by decide +kernel)
theorem xsel_Parting_countIn : Cond.selects "MarkerText$Parting" y_Parting_countIn y_Parting_countIn ∈ xT := xT_sel (q := (y_Parting_countIn, 6)) (by decide +kernel) (by decide +kernel)
theorem xcv_Parting_50_Parting : xCV "MarkerText$Parting" 50 "MarkerText$Parting" M_Parting_countIn 2 := ⟨xcb_Parting_countIn, xw_389, Or.inl ⟨xw_387, Or.inl xsel_Parting_countIn⟩⟩
theorem d_Parting_part_52 : decode M_Parting_part.2.1 52 = .ok (.aload_n 1, 1) := by decide +kernel
theorem d_Parting_part_53 : decode M_Parting_part.2.1 53 = .ok (.invokevirtual 54, 3) := by decide +kernel
theorem xw_357 : (Jvm.Cond.code ({ cls := "MarkerText$Choices", name := "advance", desc := "()V" } : Jvm.MethodName) prog_2_method_6_code (3 : Nat) (Option.none : Option Jvm.ClassFile.FieldType)) ∈ xT := xT_at 357 (by decide +kernel) (by decide +kernel)
theorem xcb_Choices_advance : xcb M_Choices_advance 0 := ⟨xw_357, xw_6, by decide, by decide, by decide, by decide +kernel⟩
theorem xw_355 : (Jvm.Cond.instanceMethod ({ cls := "MarkerText$Choices", name := "advance", desc := "()V" } : Jvm.MethodName)) ∈ xT := xT_at 355 (by decide +kernel) (by decide +kernel)
theorem xw_395 : (Jvm.Cond.methodLink "MarkerText$Parting" (54 : Nat) ({ cls := "MarkerText$Choices", name := "advance", desc := "()V" } : Jvm.MethodName)) ∈ xT := xT_at 395 (by decide +kernel) (by decide +kernel)
theorem xw_356 : (Jvm.Cond.selects "MarkerText$Choices" ({ cls := "MarkerText$Choices", name := "advance", desc := "()V" } : Jvm.MethodName) ({ cls := "MarkerText$Choices", name := "advance", desc := "()V" } : Jvm.MethodName)) ∈ xT := xT_at 356 (by decide +kernel) (by decide +kernel)
theorem xcv_Parting_54_Choices : xCV "MarkerText$Parting" 54 "MarkerText$Choices" M_Choices_advance 0 := ⟨xcb_Choices_advance, xw_355, Or.inl ⟨xw_395, Or.inl xw_356⟩⟩
theorem d_Parting_part_56 : decode M_Parting_part.2.1 56 = .ok (.iinc 4 1, 3) := by decide +kernel
theorem d_Parting_part_59 : decode M_Parting_part.2.1 59 = .ok (.goto (-28), 3) := by decide +kernel
theorem d_Parting_part_62 : decode M_Parting_part.2.1 62 = .ok (.return_, 1) := by decide +kernel
abbrev y_MT_classes : MethodName := ⟨"MarkerText", "classes", "(I)I"⟩
abbrev M_MT_classes : XMt := (y_MT_classes, prog_1_method_12_code, 3, (some .int))
theorem d_MT_classes_0 : decode M_MT_classes.2.1 0 = .ok (.iload_n 1, 1) := by decide +kernel
theorem d_MT_classes_1 : decode M_MT_classes.2.1 1 = .ok (.iconst 1, 1) := by decide +kernel
theorem d_MT_classes_2 : decode M_MT_classes.2.1 2 = .ok (.aload_n 0, 1) := by decide +kernel
theorem d_MT_classes_3 : decode M_MT_classes.2.1 3 = .ok (.getfield 32, 3) := by decide +kernel
theorem d_MT_classes_6 : decode M_MT_classes.2.1 6 = .ok (.ishl, 1) := by decide +kernel
theorem d_MT_classes_7 : decode M_MT_classes.2.1 7 = .ok (.iconst 1, 1) := by decide +kernel
theorem d_MT_classes_8 : decode M_MT_classes.2.1 8 = .ok (.isub, 1) := by decide +kernel
theorem d_MT_classes_9 : decode M_MT_classes.2.1 9 = .ok (.iand, 1) := by decide +kernel
theorem d_MT_classes_10 : decode M_MT_classes.2.1 10 = .ok (.istore_n 2, 1) := by decide +kernel
theorem d_MT_classes_11 : decode M_MT_classes.2.1 11 = .ok (.aload_n 0, 1) := by decide +kernel
theorem d_MT_classes_12 : decode M_MT_classes.2.1 12 = .ok (.getfield 45, 3) := by decide +kernel
theorem d_MT_classes_15 : decode M_MT_classes.2.1 15 = .ok (.aload_n 0, 1) := by decide +kernel
theorem d_MT_classes_16 : decode M_MT_classes.2.1 16 = .ok (.getfield 18, 3) := by decide +kernel
theorem d_MT_classes_19 : decode M_MT_classes.2.1 19 = .ok (.aload_n 0, 1) := by decide +kernel
theorem d_MT_classes_20 : decode M_MT_classes.2.1 20 = .ok (.getfield 28, 3) := by decide +kernel
theorem d_MT_classes_23 : decode M_MT_classes.2.1 23 = .ok (.iload_n 2, 1) := by decide +kernel
theorem d_MT_classes_24 : decode M_MT_classes.2.1 24 = .ok (.invokevirtual 165, 3) := by decide +kernel
theorem xw_317 : (Jvm.Cond.code ({ cls := "MarkerText$Choices", name := "layOut", desc := "([LMarkerText$Name;[LMarkerText$Condition;I)Z" } : Jvm.MethodName) prog_2_method_2_code (6 : Nat) (Option.some Jvm.ClassFile.FieldType.boolean)) ∈ xT := xT_at 317 (by decide +kernel) (by decide +kernel)
theorem xcb_Choices_layOut : xcb M_Choices_layOut 3 := ⟨xw_317, xw_6, by decide, by decide, by decide, by decide +kernel⟩
theorem xw_315 : (Jvm.Cond.instanceMethod ({ cls := "MarkerText$Choices", name := "layOut", desc := "([LMarkerText$Name;[LMarkerText$Condition;I)Z" } : Jvm.MethodName)) ∈ xT := xT_at 315 (by decide +kernel) (by decide +kernel)
theorem xw_314 : (Jvm.Cond.methodLink "MarkerText" (165 : Nat) ({ cls := "MarkerText$Choices", name := "layOut", desc := "([LMarkerText$Name;[LMarkerText$Condition;I)Z" } : Jvm.MethodName)) ∈ xT := xT_at 314 (by decide +kernel) (by decide +kernel)
theorem xw_316 : (Jvm.Cond.selects "MarkerText$Choices" ({ cls := "MarkerText$Choices", name := "layOut", desc := "([LMarkerText$Name;[LMarkerText$Condition;I)Z" } : Jvm.MethodName) ({ cls := "MarkerText$Choices", name := "layOut", desc := "([LMarkerText$Name;[LMarkerText$Condition;I)Z" } : Jvm.MethodName)) ∈ xT := xT_at 316 (by decide +kernel) (by decide +kernel)
theorem xcv_MT_165_Choices : xCV "MarkerText" 165 "MarkerText$Choices" M_Choices_layOut 3 := ⟨xcb_Choices_layOut, xw_315, Or.inl ⟨xw_314, Or.inl xw_316⟩⟩
theorem d_MT_classes_27 : decode M_MT_classes.2.1 27 = .ok (.ifCond .ne 5, 3) := by decide +kernel
theorem d_MT_classes_32 : decode M_MT_classes.2.1 32 = .ok (.aload_n 0, 1) := by decide +kernel
theorem d_MT_classes_33 : decode M_MT_classes.2.1 33 = .ok (.getfield 52, 3) := by decide +kernel
theorem d_MT_classes_36 : decode M_MT_classes.2.1 36 = .ok (.aload_n 0, 1) := by decide +kernel
theorem d_MT_classes_37 : decode M_MT_classes.2.1 37 = .ok (.getfield 45, 3) := by decide +kernel
theorem d_MT_classes_40 : decode M_MT_classes.2.1 40 = .ok (.aload_n 0, 1) := by decide +kernel
theorem d_MT_classes_41 : decode M_MT_classes.2.1 41 = .ok (.getfield 28, 3) := by decide +kernel
theorem d_MT_classes_44 : decode M_MT_classes.2.1 44 = .ok (.iload_n 2, 1) := by decide +kernel
theorem d_MT_classes_45 : decode M_MT_classes.2.1 45 = .ok (.invokevirtual 169, 3) := by decide +kernel
theorem xw_381 : (Jvm.Cond.code ({ cls := "MarkerText$Parting", name := "part", desc := "(LMarkerText$Choices;[LMarkerText$Condition;I)V" } : Jvm.MethodName) prog_9_method_2_code (5 : Nat) (Option.none : Option Jvm.ClassFile.FieldType)) ∈ xT := xT_at 381 (by decide +kernel) (by decide +kernel)
theorem xcb_Parting_part : xcb M_Parting_part 3 := ⟨xw_381, xw_7, by decide, by decide, by decide, by decide +kernel⟩
theorem xw_379 : (Jvm.Cond.instanceMethod ({ cls := "MarkerText$Parting", name := "part", desc := "(LMarkerText$Choices;[LMarkerText$Condition;I)V" } : Jvm.MethodName)) ∈ xT := xT_at 379 (by decide +kernel) (by decide +kernel)
theorem xw_378 : (Jvm.Cond.methodLink "MarkerText" (169 : Nat) ({ cls := "MarkerText$Parting", name := "part", desc := "(LMarkerText$Choices;[LMarkerText$Condition;I)V" } : Jvm.MethodName)) ∈ xT := xT_at 378 (by decide +kernel) (by decide +kernel)
theorem xw_380 : (Jvm.Cond.selects "MarkerText$Parting" ({ cls := "MarkerText$Parting", name := "part", desc := "(LMarkerText$Choices;[LMarkerText$Condition;I)V" } : Jvm.MethodName) ({ cls := "MarkerText$Parting", name := "part", desc := "(LMarkerText$Choices;[LMarkerText$Condition;I)V" } : Jvm.MethodName)) ∈ xT := xT_at 380 (by decide +kernel) (by decide +kernel)
theorem xcv_MT_169_Parting : xCV "MarkerText" 169 "MarkerText$Parting" M_Parting_part 3 := ⟨xcb_Parting_part, xw_379, Or.inl ⟨xw_378, Or.inl xw_380⟩⟩
theorem d_MT_classes_48 : decode M_MT_classes.2.1 48 = .ok (.aload_n 0, 1) := by decide +kernel
theorem d_MT_classes_49 : decode M_MT_classes.2.1 49 = .ok (.getfield 52, 3) := by decide +kernel
theorem d_MT_classes_52 : decode M_MT_classes.2.1 52 = .ok (.getfield 173, 3) := by decide +kernel
theorem xw_119 : (Jvm.Cond.fieldLinkNest "MarkerText" (173 : Nat) "MarkerText$Parting" "count" "I" "MarkerText") ∈ xT := xT_at 119 (by decide +kernel) (by decide +kernel)
theorem xf_MT_173_Parting : xF "MarkerText" 173 k_Parting 0 := ⟨_, _, _, "MarkerText$Parting", rfl, by decide, Or.inr ⟨_, xw_119⟩, Or.inl rfl⟩
theorem d_MT_classes_55 : decode M_MT_classes.2.1 55 = .ok (.ireturn, 1) := by decide +kernel
end
section P1F
variable {l : Launch} {G : XG} {h : XH} {c n d : Nat}
theorem chL.fr {h' : XH} {F : List Nat} {o v st sa pk lv na ca : Nat} {cnt : Int32} {ss : List Value} (hL : chL h o v st sa pk lv na ca cnt ss) (hf : xfr h h' F) (hn : xno h F [k_Choices, k_astarts, k_asamples, k_apicks, k_achl, k_aName, k_aCondition]) : chL h' o v st sa pk lv na ca cnt ss := by
  obtain ⟨e0, e1, e2, e3, e4, e5, e6⟩ := hL
  exact ⟨hf.1 _ _ e0 (hn.at e0 (by decide)), hf.1 _ _ e1 (hn.at e1 (by decide)), hf.1 _ _ e2 (hn.at e2 (by decide)), hf.1 _ _ e3 (hn.at e3 (by decide)), hf.1 _ _ e4 (hn.at e4 (by decide)), hf.1 _ _ e5 (hn.at e5 (by decide)), hf.1 _ _ e6 (hn.at e6 (by decide))⟩
/-- Arrays.fill(int[], 0) of zeros -/
theorem c_fill0 {a m : Nat} (ha : h a = some (k_apcl, List.replicate m (.int 0))) (hm : m < 2 ^ 20) : XM l G d M_Arrays_fill_aII [.ref a, .int 0] h c n (fun r h' c' n' => r = none ∧ h' = h ∧ c' = c ∧ n' = n) := by
  refine XM.of (by decide +kernel) (Nat.le_of_ble_eq_true rfl) ?_
  have lp : ∀ (k i : Nat), i + k = m → XW l G M_Arrays_fill_aII d 5 [some (.ref a), some (.int 0), some (.int (nI i)), some (.int (nI m))] [] h c n (fun r h' c' n' => r = none ∧ h' = h ∧ c' = c ∧ n' = n) := by
    intro k
    induction k with
    | zero =>
      intro i hi
      refine x_iload_n d_Arrays_fill_aII_5 rfl ?_
      refine x_iload_n d_Arrays_fill_aII_6 rfl ?_
      refine x_icmp_ge (tgt := 20) d_Arrays_fill_aII_7 (by decide) (fun _ => ?_) (fun hn => absurd (nI_le (by omega) (by omega)) hn)
      refine x_vret d_Arrays_fill_aII_20 rfl ?_
      exact ⟨rfl, rfl, rfl, rfl⟩
    | succ k ih =>
      intro i hi
      refine x_iload_n d_Arrays_fill_aII_5 rfl ?_
      refine x_iload_n d_Arrays_fill_aII_6 rfl ?_
      refine x_icmp_ge (tgt := 20) d_Arrays_fill_aII_7 (by decide) (fun ht => absurd ht (nI_ge (by omega) (by omega))) (fun _ => ?_)
      refine x_aload_n d_Arrays_fill_aII_10 rfl rfl ?_
      refine x_iload_n d_Arrays_fill_aII_11 rfl ?_
      refine x_iload_n d_Arrays_fill_aII_12 rfl ?_
      refine x_iast (k := k_apcl) rfl ha (nI_pos (by omega)) (by rw [nI_clamp (by omega), List.getElem?_replicate, if_pos (by omega)]) d_Arrays_fill_aII_13 ?_
      refine x_hp (h' := h) (by funext q; by_cases hq : q = a; (subst hq; rw [xup_self, set_rep, ha]); rw [xup_ne hq]) ?_
      refine x_iinc (v := nI (i + 1)) (L' := [_, _, _, _]) d_Arrays_fill_aII_14 rfl (by exact xw_iinc1) rfl rfl ?_
      refine x_goto (tgt := 5) d_Arrays_fill_aII_17 (by decide) ?_
      exact ih (i + 1) (by omega)
  refine x_iconst (v := 0) d_Arrays_fill_aII_0 (by decide) ?_
  refine x_istore_n (L' := [_, _, _, _]) d_Arrays_fill_aII_1 rfl rfl ?_
  refine x_aload_n d_Arrays_fill_aII_2 rfl rfl ?_
  refine x_alen (k := k_apcl) rfl (Or.inl ha) (v := nI m) (by rw [List.length_replicate]; rfl) d_Arrays_fill_aII_3 ?_
  refine x_istore_n (L' := [_, _, _, _]) d_Arrays_fill_aII_4 rfl rfl ?_
  exact lp m 0 (by omega)
abbrev kX : List Nat := [k_MarkerText, k_MarkerTextModel, k_aint, k_along, k_aboolean, k_avals]
theorem c_part0 (hd : 3 ≤ d) {p o v st sa pk lv na ca : Nat} (hp : pa0 h p) (hL : chL h o v st sa pk lv na ca 1 (List.replicate 6 (.int 1))) : XM l G d M_Parting_part [.ref p, .ref o, .ref ca, .int 0] h c n (fun r h' c' n' => r = none ∧ (∃ e, h' p = some (k_Parting, .int 1 :: e)) ∧ (∃ F, xfr h h' F ∧ xno h F kX) ∧ c' = c ∧ n' = n) := by
  obtain ⟨d, rfl⟩ : ∃ q, d = q + 1 := ⟨d - 1, by omega⟩
  obtain ⟨tr, sz, fi, cl, sp, ep, etr, esz, efi, ecl, esp⟩ := hp
  refine XM.of (by decide +kernel) (Nat.le_of_ble_eq_true rfl) ?_
  refine x_aload_n d_Parting_part_0 rfl rfl ?_
  refine x_iconst (v := 0) d_Parting_part_1 (by decide) ?_
  refine x_put xf_Parting_9_Parting xp_Parting_0 rfl rfl ep rfl rfl d_Parting_part_2 ?_
  have f1 : xfr h (xup h p (k_Parting, [.int 0, .ref tr, .ref sz, .ref fi, .ref cl, .ref sp])) [p, sp] := xfr.rf.up (Or.inl (by simp))
  refine x_any (R := fun h2 => paL h2 p tr sz fi cl sp 0 (List.replicate 256 (.int 0)) (List.replicate 256 (.int 0)) (List.replicate 256 (.int 0)) (List.replicate 256 (.int 0)) ∧ h2 sp = some (k_apsa, List.replicate 6 (.int 0)) ∧ chL h2 o v st sa pk lv na ca 1 (List.replicate 6 (.int 1)) ∧ xfr h h2 [p, sp]) ⟨⟨xup_self, (by rw [xup_ne (xne etr ep (by decide))]; exact etr), (by rw [xup_ne (xne esz ep (by decide))]; exact esz), (by rw [xup_ne (xne efi ep (by decide))]; exact efi), (by rw [xup_ne (xne ecl ep (by decide))]; exact ecl)⟩, (by rw [xup_ne (xne esp ep (by decide))]; exact esp), hL.fr (F := [p]) (xfr.rf.up (Or.inl (by simp))) (xno1 ep (by decide)), f1⟩ (fun h2 ⟨hP2, esp2, hL2, f2⟩ => ?_)
  obtain ⟨ep2, etr2, esz2, efi2, ecl2⟩ := id hP2
  refine x_aload_n d_Parting_part_5 rfl rfl ?_
  refine x_get xf_Parting_25_Parting (Or.inl ep2) rfl d_Parting_part_6 ?_
  refine x_iconst (v := 0) d_Parting_part_9 (by decide) ?_
  refine x_callS (As := [_, _]) xcs_Parting_31 (c_fill0 ecl2 (by omega)) rfl rfl (Nat.le_of_ble_eq_true rfl) d_Parting_part_10 ?_
  rintro r h3 c3 n3 ⟨rfl, rfl, rfl, rfl⟩
  refine x_aload_n d_Parting_part_13 rfl rfl ?_
  refine x_get xf_Parting_37_Choices (Or.inl hL2.1) rfl d_Parting_part_14 ?_
  refine x_iconst (v := 0) d_Parting_part_17 (by decide) ?_
  refine x_aload_n d_Parting_part_18 rfl rfl ?_
  refine x_get xf_Parting_28_Parting (Or.inl ep2) rfl d_Parting_part_19 ?_
  refine x_iconst (v := 0) d_Parting_part_22 (by decide) ?_
  refine x_bipush (v := 6) d_Parting_part_23 (by decide) ?_
  refine x_copyP (k0 := k_asamples) (k := k_apsa) rfl rfl rfl xw_385 xw_220 xw_219 xw_12 (Or.inl hL2.2.2.1) esp2 (by decide) (by decide) (by decide) (by decide) (by decide) (fun v hv => by rw [(List.mem_replicate.mp hv).2]; rfl) (Nat.le_of_ble_eq_true rfl) d_Parting_part_25 ?_
  have g3 : ∀ w, xfr h3 (xup h3 sp w) [sp] := fun w => xfr.rf.up (Or.inl (by simp))
  have ns : ∀ ks, k_apsa ∉ ks → xno h3 [sp] ks := fun ks hk => xno1 esp2 hk
  refine x_any (R := fun h4 => paL h4 p tr sz fi cl sp 0 (List.replicate 256 (.int 0)) (List.replicate 256 (.int 0)) (List.replicate 256 (.int 0)) (List.replicate 256 (.int 0)) ∧ chL h4 o v st sa pk lv na ca 1 (List.replicate 6 (.int 1)) ∧ xfr h h4 [p, sp]) ⟨⟨(g3 _).1 _ _ ep2 (by simp; exact xne ep2 esp2 (by decide)), (g3 _).1 _ _ etr2 (by simp; exact xne etr2 esp2 (by decide)), (g3 _).1 _ _ esz2 (by simp; exact xne esz2 esp2 (by decide)), (g3 _).1 _ _ efi2 (by simp; exact xne efi2 esp2 (by decide)), (g3 _).1 _ _ ecl2 (by simp; exact xne ecl2 esp2 (by decide))⟩, hL2.fr (g3 _) (ns _ (by decide)), f2.up (Or.inl (by simp))⟩ (fun h4 ⟨hP4, hL4, f4⟩ => ?_)
  refine x_iconst (v := 0) d_Parting_part_28 (by decide) ?_
  refine x_istore (L' := [_, _, _, _, _]) d_Parting_part_29 rfl rfl ?_
  refine x_iload d_Parting_part_31 rfl ?_
  refine x_aload_n d_Parting_part_33 rfl rfl ?_
  refine x_get xf_Parting_46_Choices (Or.inl hL4.1) rfl d_Parting_part_34 ?_
  refine x_icmp_ge (tgt := 62) d_Parting_part_37 (by decide) (fun ht => absurd ht (by decide)) (fun _ => ?_)
  refine x_aload_n d_Parting_part_40 rfl rfl ?_
  refine x_aload_n d_Parting_part_41 rfl rfl ?_
  refine x_aload_n d_Parting_part_42 rfl rfl ?_
  refine x_iload_n d_Parting_part_43 rfl ?_
  refine x_callV (As := [_, _]) (k := k_Choices) rfl xcv_Parting_47_Choices (Or.inl hL4.1) (c_truths0 hL4.2.2.2.2.2.2) rfl rfl (Nat.le_of_ble_eq_true rfl) d_Parting_part_44 ?_
  rintro r h5 c5 n5 ⟨rfl, rfl, rfl, rfl⟩
  refine x_iload d_Parting_part_47 rfl ?_
  refine x_callV (As := [_, _]) (k := k_Parting) rfl xcv_Parting_50_Parting (Or.inl hP4.1) (c_countIn0 (by omega) hP4) rfl rfl (Nat.le_of_ble_eq_true rfl) d_Parting_part_49 ?_
  rintro r h6 c6 n6 ⟨rfl, ep6, ⟨F6, f6, n6'⟩, rfl, rfl⟩
  have hL6 := hL4.fr f6 (n6'.sub (by decide))
  refine x_aload_n d_Parting_part_52 rfl rfl ?_
  refine x_callV (As := []) (k := k_Choices) rfl xcv_Parting_54_Choices (Or.inl hL6.1) (c_advance0 (by omega) hL6) rfl rfl (Nat.le_of_ble_eq_true rfl) d_Parting_part_53 ?_
  rintro r h7 c7 n7 ⟨rfl, ⟨F7, f7, n7'⟩, eo7, rfl, rfl⟩
  refine x_iinc (v := 1) (L' := [_, _, _, _, _]) d_Parting_part_56 rfl (by decide) rfl rfl ?_
  refine x_goto (tgt := 31) d_Parting_part_59 (by decide) ?_
  refine x_iload d_Parting_part_31 rfl ?_
  refine x_aload_n d_Parting_part_33 rfl rfl ?_
  refine x_get xf_Parting_46_Choices (Or.inl eo7) rfl d_Parting_part_34 ?_
  refine x_icmp_ge (tgt := 62) d_Parting_part_37 (by decide) (fun _ => ?_) (fun hn => absurd (by decide) hn)
  refine x_vret d_Parting_part_62 rfl ?_
  have ep7 := f7.1 _ _ ep6 (n7'.at ep6 (by decide))
  exact ⟨rfl, ⟨_, ep7⟩, xq.tr (xq.tr ⟨_, f4, xno2 ep esp (by decide) (by decide)⟩ ⟨_, f6, n6'.sub (by decide)⟩) ⟨_, f7, n7'.sub (by decide)⟩, rfl, rfl⟩
theorem c_classes0 (hd : 4 ≤ d) {x : Nat} {k : Int32} (hx : mt0 h x) : XM l G d M_MT_classes [.ref x, .int k] h c n (pA (some (.int 1)) h c n) := by
  obtain ⟨d, rfl⟩ : ∃ q, d = q + 1 := ⟨d - 1, by omega⟩
  obtain ⟨ta, va, na, ca, ea, co, pa, e0, hB, e1, e2, e3, hch, hpa⟩ := hx
  obtain ⟨cv, cs, cm, cp, cl, k0, -⟩ := id hch
  refine XM.of (by decide +kernel) (Nat.le_of_ble_eq_true rfl) ?_
  refine x_iload_n d_MT_classes_0 rfl ?_
  refine x_iconst (v := 1) d_MT_classes_1 (by decide) ?_
  refine x_aload_n d_MT_classes_2 rfl rfl ?_
  refine x_get xf_MT_32_MT (Or.inl e0) rfl d_MT_classes_3 ?_
  refine x_ishl d_MT_classes_6 ?_
  refine x_iconst (v := 1) d_MT_classes_7 (by decide) ?_
  refine x_isub d_MT_classes_8 ?_
  refine x_iand d_MT_classes_9 ?_
  refine x_st (st' := [.int 0]) (by rw [show ((1 : Int32) <<< ((0 : Int32) &&& 31)) - 1 = 0 from by decide, Int32.and_zero]) ?_
  refine x_istore_n (L' := [_, _, _]) d_MT_classes_10 rfl rfl ?_
  refine x_aload_n d_MT_classes_11 rfl rfl ?_
  refine x_get xf_MT_45_MT (Or.inl e0) rfl d_MT_classes_12 ?_
  refine x_aload_n d_MT_classes_15 rfl rfl ?_
  refine x_get xf_MT_18_MT (Or.inl e0) rfl d_MT_classes_16 ?_
  refine x_aload_n d_MT_classes_19 rfl rfl ?_
  refine x_get xf_MT_28_MT (Or.inl e0) rfl d_MT_classes_20 ?_
  refine x_iload_n d_MT_classes_23 rfl ?_
  refine x_callV (As := [_, _, _]) (k := k_Choices) rfl xcv_MT_165_Choices (Or.inl k0) (c_layOut0 (by omega) hch e1 e2) rfl rfl (Nat.le_of_ble_eq_true rfl) d_MT_classes_24 ?_
  rintro v h1 c1 n1 ⟨rfl, ⟨v, st, sa, pk, lv, hL, F1, f1, n1'⟩, rfl, rfl⟩
  have e0' := f1.1 _ _ e0 (n1'.at e0 (by decide))
  have hpa' := hpa.fr f1 (n1'.sub (by decide))
  obtain ⟨p1, p2, p3, p4, p5, p0, -⟩ := id hpa'
  refine x_if_ne (tgt := 32) d_MT_classes_27 (by decide) (fun _ => ?_) (fun hn => absurd hn (by decide))
  refine x_aload_n d_MT_classes_32 rfl rfl ?_
  refine x_get xf_MT_52_MT (Or.inl e0') rfl d_MT_classes_33 ?_
  refine x_aload_n d_MT_classes_36 rfl rfl ?_
  refine x_get xf_MT_45_MT (Or.inl e0') rfl d_MT_classes_37 ?_
  refine x_aload_n d_MT_classes_40 rfl rfl ?_
  refine x_get xf_MT_28_MT (Or.inl e0') rfl d_MT_classes_41 ?_
  refine x_iload_n d_MT_classes_44 rfl ?_
  refine x_callV (As := [_, _, _]) (k := k_Parting) rfl xcv_MT_169_Parting (Or.inl p0) (c_part0 (by omega) hpa' hL) rfl rfl (Nat.le_of_ble_eq_true rfl) d_MT_classes_45 ?_
  rintro v h2 c2 n2 ⟨rfl, ⟨e, q2⟩, ⟨F2, f2, n2'⟩, rfl, rfl⟩
  have e0'' := f2.1 _ _ e0' (n2'.at e0' (by decide))
  refine x_aload_n d_MT_classes_48 rfl rfl ?_
  refine x_get xf_MT_52_MT (Or.inl e0'') rfl d_MT_classes_49 ?_
  refine x_get xf_MT_173_Parting (Or.inl q2) rfl d_MT_classes_52 ?_
  refine x_iret d_MT_classes_55 rfl ?_
  exact ⟨rfl, xq.tr ⟨_, f1, n1'.sub (by decide)⟩ ⟨_, f2, n2'.sub (by decide)⟩, by omega, by omega⟩
end P1F
