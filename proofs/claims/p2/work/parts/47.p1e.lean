section
abbrev y_MT_name : MethodName := ⟨"MarkerText", "name", "(I)I"⟩
abbrev M_MT_name : XMt := (y_MT_name, prog_1_method_3_code, 3, (some .int))
theorem d_MT_name_0 : decode M_MT_name.2.1 0 = .ok (.aload_n 0, 1) := by decide +kernel
theorem d_MT_name_1 : decode M_MT_name.2.1 1 = .ok (.invokevirtual 64, 3) := by decide +kernel
theorem xw_460 : (Jvm.Cond.code ({ cls := "MarkerText", name := "takeText", desc := "()Ljava/lang/String;" } : Jvm.MethodName) prog_1_method_17_code (2 : Nat) (Option.some (Jvm.ClassFile.FieldType.object "java/lang/String"))) ∈ xT := xT_at 460 (by decide +kernel) (by decide +kernel)
theorem xcb_MT_takeText : xcb M_MT_takeText 0 := ⟨xw_460, xw_1, by decide, by decide, by decide, by decide +kernel⟩
theorem xw_459 : (Jvm.Cond.instanceMethod ({ cls := "MarkerText", name := "takeText", desc := "()Ljava/lang/String;" } : Jvm.MethodName)) ∈ xT := xT_at 459 (by decide +kernel) (by decide +kernel)
theorem xw_457 : (Jvm.Cond.methodLink "MarkerText" (64 : Nat) ({ cls := "MarkerText", name := "takeText", desc := "()Ljava/lang/String;" } : Jvm.MethodName)) ∈ xT := xT_at 457 (by decide +kernel) (by decide +kernel)
theorem xsel_MT_takeText : Cond.selects "MarkerText" y_MT_takeText y_MT_takeText ∈ xT := xT_sel (q := (y_MT_takeText, 9)) (by decide +kernel) (by decide +kernel)
theorem xcv_MT_64_MT : xCV "MarkerText" 64 "MarkerText" M_MT_takeText 0 := ⟨xcb_MT_takeText, xw_459, Or.inl ⟨xw_457, Or.inl xsel_MT_takeText⟩⟩
theorem d_MT_name_4 : decode M_MT_name.2.1 4 = .ok (.astore_n 2, 1) := by decide +kernel
theorem d_MT_name_5 : decode M_MT_name.2.1 5 = .ok (.aload_n 2, 1) := by decide +kernel
theorem d_MT_name_6 : decode M_MT_name.2.1 6 = .ok (.invokestatic 68, 3) := by decide +kernel
theorem xw_669 : (Jvm.Cond.code ({ cls := "MarkerText", name := "isSpelledAsName", desc := "(Ljava/lang/String;)Z" } : Jvm.MethodName) prog_1_method_23_code (2 : Nat) (Option.some Jvm.ClassFile.FieldType.boolean)) ∈ xT := xT_at 669 (by decide +kernel) (by decide +kernel)
theorem xcb_MT_isSpelledAsName : xcb M_MT_isSpelledAsName 1 := ⟨xw_669, xw_1, by decide, by decide, by decide, by decide +kernel⟩
theorem xw_667 : (Jvm.Cond.methodLink "MarkerText" (68 : Nat) ({ cls := "MarkerText", name := "isSpelledAsName", desc := "(Ljava/lang/String;)Z" } : Jvm.MethodName)) ∈ xT := xT_at 667 (by decide +kernel) (by decide +kernel)
theorem xw_668 : (Jvm.Cond.static ({ cls := "MarkerText", name := "isSpelledAsName", desc := "(Ljava/lang/String;)Z" } : Jvm.MethodName)) ∈ xT := xT_at 668 (by decide +kernel) (by decide +kernel)
theorem xcs_MT_68 : xCS "MarkerText" 68 M_MT_isSpelledAsName 1 := ⟨xcb_MT_isSpelledAsName, xw_668, Or.inl xw_667⟩
theorem d_MT_name_9 : decode M_MT_name.2.1 9 = .ok (.ifCond .eq 15, 3) := by decide +kernel
theorem d_MT_name_24 : decode M_MT_name.2.1 24 = .ok (.new 76, 3) := by decide +kernel
theorem xw_694 : (Jvm.Cond.classLink "MarkerText" (76 : Nat) "java/lang/IllegalArgumentException") ∈ xT := xT_at 694 (by decide +kernel) (by decide +kernel)
theorem xw_491 : (Jvm.Cond.instantiable "java/lang/IllegalArgumentException" (6 : Nat)) ∈ xT := xT_at 491 (by decide +kernel) (by decide +kernel)
theorem xw_18 : (Jvm.Cond.initialized "java/lang/IllegalArgumentException") ∈ xT := xT_at 18 (by decide +kernel) (by decide +kernel)
theorem xnw_MT_76 : xNw "MarkerText" 76 k_IllegalArgumentException 6 [.null, .null, .null, .null, .null, .int 0] := ⟨_, _, _, rfl, rfl, by decide +kernel, xw_694, xw_491, xw_18⟩
theorem xw_15 : (Jvm.Cond.initialized "java/lang/Throwable") ∈ xT := xT_at 15 (by decide +kernel) (by decide +kernel)
theorem xw_512 : (Jvm.Cond.superclass "java/lang/Throwable" "java/lang/Object") ∈ xT := xT_at 512 (by decide +kernel) (by decide +kernel)
theorem xw_521 : (Jvm.Cond.instanceMethod ({ cls := "java/lang/Throwable", name := "fillInStackTrace", desc := "()Ljava/lang/Throwable;" } : Jvm.MethodName)) ∈ xT := xT_at 521 (by decide +kernel) (by decide +kernel)
theorem xw_524 : (Jvm.Cond.codeSync ({ cls := "java/lang/Throwable", name := "fillInStackTrace", desc := "()Ljava/lang/Throwable;" } : Jvm.MethodName) prog_30_method_18_code (1 : Nat) (Option.some (Jvm.ClassFile.FieldType.object "java/lang/Throwable"))) ∈ xT := xT_at 524 (by decide +kernel) (by decide +kernel)
theorem xw_527 : (Jvm.Cond.instanceMethod ({ cls := "java/lang/Throwable", name := "fillInStackTrace", desc := "(I)Ljava/lang/Throwable;" } : Jvm.MethodName)) ∈ xT := xT_at 527 (by decide +kernel) (by decide +kernel)
theorem xw_529 : (Jvm.Cond.native ({ cls := "java/lang/Throwable", name := "fillInStackTrace", desc := "(I)Ljava/lang/Throwable;" } : Jvm.MethodName)) ∈ xT := xT_at 529 (by decide +kernel) (by decide +kernel)
theorem xw_513 : (Jvm.Cond.instanceMethod ({ cls := "java/lang/Throwable", name := "<init>", desc := "()V" } : Jvm.MethodName)) ∈ xT := xT_at 513 (by decide +kernel) (by decide +kernel)
theorem xw_514 : (Jvm.Cond.code ({ cls := "java/lang/Throwable", name := "<init>", desc := "()V" } : Jvm.MethodName) prog_30_method_1_code (1 : Nat) (Option.none : Option Jvm.ClassFile.FieldType)) ∈ xT := xT_at 514 (by decide +kernel) (by decide +kernel)
theorem xw_515 : (Jvm.Cond.methodLink "java/lang/Throwable" (1 : Nat) ({ cls := "java/lang/Object", name := "<init>", desc := "()V" } : Jvm.MethodName)) ∈ xT := xT_at 515 (by decide +kernel) (by decide +kernel)
theorem xw_520 : (Jvm.Cond.methodLink "java/lang/Throwable" (27 : Nat) ({ cls := "java/lang/Throwable", name := "fillInStackTrace", desc := "()Ljava/lang/Throwable;" } : Jvm.MethodName)) ∈ xT := xT_at 520 (by decide +kernel) (by decide +kernel)
theorem xw_525 : (Jvm.Cond.methodLink "java/lang/Throwable" (202 : Nat) ({ cls := "java/lang/Throwable", name := "fillInStackTrace", desc := "(I)Ljava/lang/Throwable;" } : Jvm.MethodName)) ∈ xT := xT_at 525 (by decide +kernel) (by decide +kernel)
theorem xw_612 : (Jvm.Cond.fieldLink "java/lang/Throwable" (7 : Nat) "java/lang/Throwable" "cause" "Ljava/lang/Throwable;") ∈ xT := xT_at 612 (by decide +kernel) (by decide +kernel)
theorem xw_502 : (Jvm.Cond.lays "java/lang/Throwable" "java/lang/Throwable" "cause" "Ljava/lang/Throwable;") ∈ xT := xT_at 502 (by decide +kernel) (by decide +kernel)
theorem xw_613 : (Jvm.Cond.fieldLink "java/lang/Throwable" (17 : Nat) "java/lang/Throwable" "stackTrace" "[Ljava/lang/StackTraceElement;") ∈ xT := xT_at 613 (by decide +kernel) (by decide +kernel)
theorem xw_504 : (Jvm.Cond.lays "java/lang/Throwable" "java/lang/Throwable" "stackTrace" "[Ljava/lang/StackTraceElement;") ∈ xT := xT_at 504 (by decide +kernel) (by decide +kernel)
theorem xw_614 : (Jvm.Cond.fieldLink "java/lang/Throwable" (24 : Nat) "java/lang/Throwable" "suppressedExceptions" "Ljava/util/List;") ∈ xT := xT_at 614 (by decide +kernel) (by decide +kernel)
theorem xw_506 : (Jvm.Cond.lays "java/lang/Throwable" "java/lang/Throwable" "suppressedExceptions" "Ljava/util/List;") ∈ xT := xT_at 506 (by decide +kernel) (by decide +kernel)
theorem xw_516 : (Jvm.Cond.fieldLink "java/lang/Throwable" (13 : Nat) "java/lang/Throwable" "UNASSIGNED_STACK" "[Ljava/lang/StackTraceElement;") ∈ xT := xT_at 516 (by decide +kernel) (by decide +kernel)
theorem xw_518 : (Jvm.Cond.fieldLink "java/lang/Throwable" (20 : Nat) "java/lang/Throwable" "SUPPRESSED_SENTINEL" "Ljava/util/List;") ∈ xT := xT_at 518 (by decide +kernel) (by decide +kernel)
theorem xw_508 : (Jvm.Cond.lays "java/lang/Throwable" "java/lang/Throwable" "detailMessage" "Ljava/lang/String;") ∈ xT := xT_at 508 (by decide +kernel) (by decide +kernel)
theorem xw_608 : (Jvm.Cond.instanceMethod ({ cls := "java/lang/Throwable", name := "<init>", desc := "(Ljava/lang/String;)V" } : Jvm.MethodName)) ∈ xT := xT_at 608 (by decide +kernel) (by decide +kernel)
theorem xw_609 : (Jvm.Cond.code ({ cls := "java/lang/Throwable", name := "<init>", desc := "(Ljava/lang/String;)V" } : Jvm.MethodName) prog_30_method_2_code (2 : Nat) (Option.none : Option Jvm.ClassFile.FieldType)) ∈ xT := xT_at 609 (by decide +kernel) (by decide +kernel)
theorem xw_611 : (Jvm.Cond.fieldLink "java/lang/Throwable" (31 : Nat) "java/lang/Throwable" "detailMessage" "Ljava/lang/String;") ∈ xT := xT_at 611 (by decide +kernel) (by decide +kernel)
theorem xw_599 : (Jvm.Cond.instanceMethod ({ cls := "java/lang/IllegalArgumentException", name := "<init>", desc := "(Ljava/lang/String;)V" } : Jvm.MethodName)) ∈ xT := xT_at 599 (by decide +kernel) (by decide +kernel)
theorem xw_600 : (Jvm.Cond.code ({ cls := "java/lang/IllegalArgumentException", name := "<init>", desc := "(Ljava/lang/String;)V" } : Jvm.MethodName) prog_19_method_2_code (2 : Nat) (Option.none : Option Jvm.ClassFile.FieldType)) ∈ xT := xT_at 600 (by decide +kernel) (by decide +kernel)
theorem xw_601 : (Jvm.Cond.methodLink "java/lang/IllegalArgumentException" (7 : Nat) ({ cls := "java/lang/RuntimeException", name := "<init>", desc := "(Ljava/lang/String;)V" } : Jvm.MethodName)) ∈ xT := xT_at 601 (by decide +kernel) (by decide +kernel)
theorem xw_602 : (Jvm.Cond.instanceMethod ({ cls := "java/lang/RuntimeException", name := "<init>", desc := "(Ljava/lang/String;)V" } : Jvm.MethodName)) ∈ xT := xT_at 602 (by decide +kernel) (by decide +kernel)
theorem xw_494 : (Jvm.Cond.declares ({ cls := "java/lang/RuntimeException", name := "<init>", desc := "(Ljava/lang/String;)V" } : Jvm.MethodName)) ∈ xT := xT_at 494 (by decide +kernel) (by decide +kernel)
theorem xw_603 : (Jvm.Cond.code ({ cls := "java/lang/RuntimeException", name := "<init>", desc := "(Ljava/lang/String;)V" } : Jvm.MethodName) prog_24_method_2_code (2 : Nat) (Option.none : Option Jvm.ClassFile.FieldType)) ∈ xT := xT_at 603 (by decide +kernel) (by decide +kernel)
theorem xw_604 : (Jvm.Cond.methodLink "java/lang/RuntimeException" (7 : Nat) ({ cls := "java/lang/Exception", name := "<init>", desc := "(Ljava/lang/String;)V" } : Jvm.MethodName)) ∈ xT := xT_at 604 (by decide +kernel) (by decide +kernel)
theorem xw_605 : (Jvm.Cond.instanceMethod ({ cls := "java/lang/Exception", name := "<init>", desc := "(Ljava/lang/String;)V" } : Jvm.MethodName)) ∈ xT := xT_at 605 (by decide +kernel) (by decide +kernel)
theorem xw_496 : (Jvm.Cond.declares ({ cls := "java/lang/Exception", name := "<init>", desc := "(Ljava/lang/String;)V" } : Jvm.MethodName)) ∈ xT := xT_at 496 (by decide +kernel) (by decide +kernel)
theorem xw_606 : (Jvm.Cond.code ({ cls := "java/lang/Exception", name := "<init>", desc := "(Ljava/lang/String;)V" } : Jvm.MethodName) prog_18_method_2_code (2 : Nat) (Option.none : Option Jvm.ClassFile.FieldType)) ∈ xT := xT_at 606 (by decide +kernel) (by decide +kernel)
theorem xw_607 : (Jvm.Cond.methodLink "java/lang/Exception" (7 : Nat) ({ cls := "java/lang/Throwable", name := "<init>", desc := "(Ljava/lang/String;)V" } : Jvm.MethodName)) ∈ xT := xT_at 607 (by decide +kernel) (by decide +kernel)
theorem xw_498 : (Jvm.Cond.declares ({ cls := "java/lang/Throwable", name := "<init>", desc := "(Ljava/lang/String;)V" } : Jvm.MethodName)) ∈ xT := xT_at 498 (by decide +kernel) (by decide +kernel)
theorem xw_696 : (Jvm.Cond.methodLink "MarkerText" (80 : Nat) ({ cls := "java/lang/IllegalArgumentException", name := "<init>", desc := "(Ljava/lang/String;)V" } : Jvm.MethodName)) ∈ xT := xT_at 696 (by decide +kernel) (by decide +kernel)
theorem xw_499 : (Jvm.Cond.selects "java/lang/IllegalArgumentException" ({ cls := "java/lang/Throwable", name := "fillInStackTrace", desc := "(I)Ljava/lang/Throwable;" } : Jvm.MethodName) ({ cls := "java/lang/Throwable", name := "fillInStackTrace", desc := "(I)Ljava/lang/Throwable;" } : Jvm.MethodName)) ∈ xT := xT_at 499 (by decide +kernel) (by decide +kernel)
theorem xw_500 : (Jvm.Cond.selects "java/lang/IllegalArgumentException" ({ cls := "java/lang/Throwable", name := "fillInStackTrace", desc := "()Ljava/lang/Throwable;" } : Jvm.MethodName) ({ cls := "java/lang/Throwable", name := "fillInStackTrace", desc := "()Ljava/lang/Throwable;" } : Jvm.MethodName)) ∈ xT := xT_at 500 (by decide +kernel) (by decide +kernel)
theorem xw_501 : (Jvm.Cond.lays "java/lang/IllegalArgumentException" "java/lang/Throwable" "cause" "Ljava/lang/Throwable;") ∈ xT := xT_at 501 (by decide +kernel) (by decide +kernel)
theorem xw_503 : (Jvm.Cond.lays "java/lang/IllegalArgumentException" "java/lang/Throwable" "stackTrace" "[Ljava/lang/StackTraceElement;") ∈ xT := xT_at 503 (by decide +kernel) (by decide +kernel)
theorem xw_505 : (Jvm.Cond.lays "java/lang/IllegalArgumentException" "java/lang/Throwable" "suppressedExceptions" "Ljava/util/List;") ∈ xT := xT_at 505 (by decide +kernel) (by decide +kernel)
theorem xw_507 : (Jvm.Cond.lays "java/lang/IllegalArgumentException" "java/lang/Throwable" "detailMessage" "Ljava/lang/String;") ∈ xT := xT_at 507 (by decide +kernel) (by decide +kernel)
theorem xw_511 : (Jvm.Cond.fieldLink "java/lang/Throwable" (198 : Nat) "java/lang/Throwable" "backtrace" "Ljava/lang/Object;") ∈ xT := xT_at 511 (by decide +kernel) (by decide +kernel)
theorem xw_510 : (Jvm.Cond.lays "java/lang/Throwable" "java/lang/Throwable" "backtrace" "Ljava/lang/Object;") ∈ xT := xT_at 510 (by decide +kernel) (by decide +kernel)
theorem xw_509 : (Jvm.Cond.lays "java/lang/IllegalArgumentException" "java/lang/Throwable" "backtrace" "Ljava/lang/Object;") ∈ xT := xT_at 509 (by decide +kernel) (by decide +kernel)
theorem xthr_MT_80 : ∀ w ∈ xThr "MarkerText" 80 "java/lang/IllegalArgumentException" ["java/lang/RuntimeException", "java/lang/Exception"], w ∈ xT ∨ ∃ q ∈ xThS, w = Cond.laysStatic q.1 q.2.1 q.2.2 := List.forall_mem_cons.mpr ⟨Or.inl xw_15, List.forall_mem_cons.mpr ⟨Or.inl xw_512, List.forall_mem_cons.mpr ⟨Or.inl xw_521, List.forall_mem_cons.mpr ⟨Or.inl xw_524, List.forall_mem_cons.mpr ⟨Or.inl xw_527, List.forall_mem_cons.mpr ⟨Or.inl xw_529, List.forall_mem_cons.mpr ⟨Or.inl xw_513, List.forall_mem_cons.mpr ⟨Or.inl xw_514, List.forall_mem_cons.mpr ⟨Or.inl xw_40, List.forall_mem_cons.mpr ⟨Or.inl xw_41, List.forall_mem_cons.mpr ⟨Or.inl xw_515, List.forall_mem_cons.mpr ⟨Or.inl xw_520, List.forall_mem_cons.mpr ⟨Or.inl xw_525, List.forall_mem_cons.mpr ⟨Or.inl xw_612, List.forall_mem_cons.mpr ⟨Or.inl xw_502, List.forall_mem_cons.mpr ⟨Or.inl xw_613, List.forall_mem_cons.mpr ⟨Or.inl xw_504, List.forall_mem_cons.mpr ⟨Or.inl xw_614, List.forall_mem_cons.mpr ⟨Or.inl xw_506, List.forall_mem_cons.mpr ⟨Or.inl xw_516, List.forall_mem_cons.mpr ⟨Or.inr ⟨_, List.mem_of_getElem? (i := 0) rfl, rfl⟩, List.forall_mem_cons.mpr ⟨Or.inl xw_518, List.forall_mem_cons.mpr ⟨Or.inr ⟨_, List.mem_of_getElem? (i := 1) rfl, rfl⟩, List.forall_mem_cons.mpr ⟨Or.inl xw_508, List.forall_mem_cons.mpr ⟨Or.inl xw_608, List.forall_mem_cons.mpr ⟨Or.inl xw_609, List.forall_mem_cons.mpr ⟨Or.inl xw_611, List.forall_mem_cons.mpr ⟨Or.inl xw_508, List.forall_mem_cons.mpr ⟨Or.inl xw_599, List.forall_mem_cons.mpr ⟨Or.inl xw_600, List.forall_mem_cons.mpr ⟨Or.inl xw_601, List.forall_mem_cons.mpr ⟨Or.inl xw_602, List.forall_mem_cons.mpr ⟨Or.inl xw_494, List.forall_mem_cons.mpr ⟨Or.inl xw_602, List.forall_mem_cons.mpr ⟨Or.inl xw_603, List.forall_mem_cons.mpr ⟨Or.inl xw_604, List.forall_mem_cons.mpr ⟨Or.inl xw_605, List.forall_mem_cons.mpr ⟨Or.inl xw_496, List.forall_mem_cons.mpr ⟨Or.inl xw_605, List.forall_mem_cons.mpr ⟨Or.inl xw_606, List.forall_mem_cons.mpr ⟨Or.inl xw_607, List.forall_mem_cons.mpr ⟨Or.inl xw_608, List.forall_mem_cons.mpr ⟨Or.inl xw_498, List.forall_mem_cons.mpr ⟨Or.inl xw_696, List.forall_mem_cons.mpr ⟨Or.inl xw_491, List.forall_mem_cons.mpr ⟨Or.inl xw_499, List.forall_mem_cons.mpr ⟨Or.inl xw_500, List.forall_mem_cons.mpr ⟨Or.inl xw_501, List.forall_mem_cons.mpr ⟨Or.inl xw_503, List.forall_mem_cons.mpr ⟨Or.inl xw_505, List.forall_mem_cons.mpr ⟨Or.inl xw_507, List.forall_mem_cons.mpr ⟨Or.inl xw_511, List.forall_mem_cons.mpr ⟨Or.inl xw_510, List.forall_mem_cons.mpr ⟨Or.inl xw_509, fun _ hz => by cases hz⟩⟩⟩⟩⟩⟩⟩⟩⟩⟩⟩⟩⟩⟩⟩⟩⟩⟩⟩⟩⟩⟩⟩⟩⟩⟩⟩⟩⟩⟩⟩⟩⟩⟩⟩⟩⟩⟩⟩⟩⟩⟩⟩⟩⟩⟩⟩⟩⟩⟩⟩⟩⟩⟩
theorem d_MT_name_27 : decode M_MT_name.2.1 27 = .ok (.dup, 1) := by decide +kernel
theorem d_MT_name_28 : decode M_MT_name.2.1 28 = .ok (.ldc 78, 2) := by decide +kernel
theorem d_MT_name_30 : decode M_MT_name.2.1 30 = .ok (.invokespecial 80, 3) := by decide +kernel
theorem d_MT_name_33 : decode M_MT_name.2.1 33 = .ok (.athrow, 1) := by decide +kernel
theorem xw_456 : (Jvm.Cond.code ({ cls := "MarkerText", name := "name", desc := "(I)I" } : Jvm.MethodName) prog_1_method_3_code (3 : Nat) (Option.some Jvm.ClassFile.FieldType.int)) ∈ xT := xT_at 456 (by decide +kernel) (by decide +kernel)
abbrev y_MT_value : MethodName := ⟨"MarkerText", "value", "(I)I"⟩
abbrev M_MT_value : XMt := (y_MT_value, prog_1_method_4_code, 6, (some .int))
theorem d_MT_value_0 : decode M_MT_value.2.1 0 = .ok (.aload_n 0, 1) := by decide +kernel
theorem d_MT_value_1 : decode M_MT_value.2.1 1 = .ok (.invokevirtual 64, 3) := by decide +kernel
theorem d_MT_value_4 : decode M_MT_value.2.1 4 = .ok (.astore_n 2, 1) := by decide +kernel
theorem d_MT_value_5 : decode M_MT_value.2.1 5 = .ok (.aload_n 0, 1) := by decide +kernel
theorem d_MT_value_6 : decode M_MT_value.2.1 6 = .ok (.iload_n 1, 1) := by decide +kernel
theorem d_MT_value_7 : decode M_MT_value.2.1 7 = .ok (.invokevirtual 93, 3) := by decide +kernel
theorem xw_412 : (Jvm.Cond.code ({ cls := "MarkerText", name := "nameAt", desc := "(I)LMarkerText$Name;" } : Jvm.MethodName) prog_1_method_18_code (2 : Nat) (Option.some (Jvm.ClassFile.FieldType.object "MarkerText$Name"))) ∈ xT := xT_at 412 (by decide +kernel) (by decide +kernel)
theorem xcb_MT_nameAt : xcb M_MT_nameAt 1 := ⟨xw_412, xw_1, by decide, by decide, by decide, by decide +kernel⟩
theorem xw_411 : (Jvm.Cond.instanceMethod ({ cls := "MarkerText", name := "nameAt", desc := "(I)LMarkerText$Name;" } : Jvm.MethodName)) ∈ xT := xT_at 411 (by decide +kernel) (by decide +kernel)
theorem xw_409 : (Jvm.Cond.methodLink "MarkerText" (93 : Nat) ({ cls := "MarkerText", name := "nameAt", desc := "(I)LMarkerText$Name;" } : Jvm.MethodName)) ∈ xT := xT_at 409 (by decide +kernel) (by decide +kernel)
theorem xsel_MT_nameAt : Cond.selects "MarkerText" y_MT_nameAt y_MT_nameAt ∈ xT := xT_sel (q := (y_MT_nameAt, 9)) (by decide +kernel) (by decide +kernel)
theorem xcv_MT_93_MT : xCV "MarkerText" 93 "MarkerText" M_MT_nameAt 1 := ⟨xcb_MT_nameAt, xw_411, Or.inl ⟨xw_409, Or.inl xsel_MT_nameAt⟩⟩
theorem d_MT_value_10 : decode M_MT_value.2.1 10 = .ok (.astore_n 3, 1) := by decide +kernel
theorem d_MT_value_11 : decode M_MT_value.2.1 11 = .ok (.aload_n 3, 1) := by decide +kernel
theorem d_MT_value_12 : decode M_MT_value.2.1 12 = .ok (.ifnonnull 13, 3) := by decide +kernel
theorem d_MT_value_15 : decode M_MT_value.2.1 15 = .ok (.new 76, 3) := by decide +kernel
theorem d_MT_value_18 : decode M_MT_value.2.1 18 = .ok (.dup, 1) := by decide +kernel
theorem d_MT_value_19 : decode M_MT_value.2.1 19 = .ok (.ldc 97, 2) := by decide +kernel
theorem d_MT_value_21 : decode M_MT_value.2.1 21 = .ok (.invokespecial 80, 3) := by decide +kernel
theorem d_MT_value_24 : decode M_MT_value.2.1 24 = .ok (.athrow, 1) := by decide +kernel
theorem xw_743 : (Jvm.Cond.code ({ cls := "MarkerText", name := "value", desc := "(I)I" } : Jvm.MethodName) prog_1_method_4_code (6 : Nat) (Option.some Jvm.ClassFile.FieldType.int)) ∈ xT := xT_at 743 (by decide +kernel) (by decide +kernel)
abbrev y_MT_give : MethodName := ⟨"MarkerText", "give", "(I)V"⟩
abbrev M_MT_give : XMt := (y_MT_give, prog_1_method_7_code, 6, none)
theorem d_MT_give_0 : decode M_MT_give.2.1 0 = .ok (.aload_n 0, 1) := by decide +kernel
theorem d_MT_give_1 : decode M_MT_give.2.1 1 = .ok (.invokevirtual 64, 3) := by decide +kernel
theorem d_MT_give_4 : decode M_MT_give.2.1 4 = .ok (.astore_n 2, 1) := by decide +kernel
theorem d_MT_give_5 : decode M_MT_give.2.1 5 = .ok (.aload_n 0, 1) := by decide +kernel
theorem d_MT_give_6 : decode M_MT_give.2.1 6 = .ok (.iload_n 1, 1) := by decide +kernel
theorem d_MT_give_7 : decode M_MT_give.2.1 7 = .ok (.invokevirtual 93, 3) := by decide +kernel
theorem d_MT_give_10 : decode M_MT_give.2.1 10 = .ok (.astore_n 3, 1) := by decide +kernel
theorem d_MT_give_11 : decode M_MT_give.2.1 11 = .ok (.aload_n 3, 1) := by decide +kernel
theorem d_MT_give_12 : decode M_MT_give.2.1 12 = .ok (.ifnonnull 13, 3) := by decide +kernel
theorem d_MT_give_15 : decode M_MT_give.2.1 15 = .ok (.new 76, 3) := by decide +kernel
theorem d_MT_give_18 : decode M_MT_give.2.1 18 = .ok (.dup, 1) := by decide +kernel
theorem d_MT_give_19 : decode M_MT_give.2.1 19 = .ok (.ldc 97, 2) := by decide +kernel
theorem d_MT_give_21 : decode M_MT_give.2.1 21 = .ok (.invokespecial 80, 3) := by decide +kernel
theorem d_MT_give_24 : decode M_MT_give.2.1 24 = .ok (.athrow, 1) := by decide +kernel
theorem xw_1162 : (Jvm.Cond.code ({ cls := "MarkerText", name := "give", desc := "(I)V" } : Jvm.MethodName) prog_1_method_7_code (6 : Nat) (Option.none : Option Jvm.ClassFile.FieldType)) ∈ xT := xT_at 1162 (by decide +kernel) (by decide +kernel)
abbrev y_MT_condition : MethodName := ⟨"MarkerText", "condition", "()I"⟩
abbrev M_MT_condition : XMt := (y_MT_condition, prog_1_method_5_code, 3, (some .int))
theorem d_MT_condition_0 : decode M_MT_condition.2.1 0 = .ok (.new 121, 3) := by decide +kernel
theorem xw_823 : (Jvm.Cond.classLink "MarkerText" (121 : Nat) "MarkerText$Reader") ∈ xT := xT_at 823 (by decide +kernel) (by decide +kernel)
theorem xw_824 : (Jvm.Cond.instantiable "MarkerText$Reader" (7 : Nat)) ∈ xT := xT_at 824 (by decide +kernel) (by decide +kernel)
theorem xnw_MT_121 : xNw "MarkerText" 121 k_Reader 7 [.null, .null, .null, .null, .int 0, .int 0, .int 0] := ⟨_, _, _, rfl, rfl, by decide +kernel, xw_823, xw_824, xw_23⟩
theorem d_MT_condition_3 : decode M_MT_condition.2.1 3 = .ok (.dup, 1) := by decide +kernel
theorem d_MT_condition_4 : decode M_MT_condition.2.1 4 = .ok (.aload_n 0, 1) := by decide +kernel
theorem d_MT_condition_5 : decode M_MT_condition.2.1 5 = .ok (.invokevirtual 64, 3) := by decide +kernel
theorem d_MT_condition_8 : decode M_MT_condition.2.1 8 = .ok (.aload_n 0, 1) := by decide +kernel
theorem d_MT_condition_9 : decode M_MT_condition.2.1 9 = .ok (.getfield 18, 3) := by decide +kernel
theorem d_MT_condition_12 : decode M_MT_condition.2.1 12 = .ok (.invokespecial 123, 3) := by decide +kernel
theorem xw_827 : (Jvm.Cond.code ({ cls := "MarkerText$Reader", name := "<init>", desc := "(Ljava/lang/String;[LMarkerText$Name;)V" } : Jvm.MethodName) prog_10_method_1_code (3 : Nat) (Option.none : Option Jvm.ClassFile.FieldType)) ∈ xT := xT_at 827 (by decide +kernel) (by decide +kernel)
theorem xcb_Reader_init : xcb M_Reader_init 2 := ⟨xw_827, xw_23, by decide, by decide, by decide, by decide +kernel⟩
theorem xw_825 : (Jvm.Cond.methodLink "MarkerText" (123 : Nat) ({ cls := "MarkerText$Reader", name := "<init>", desc := "(Ljava/lang/String;[LMarkerText$Name;)V" } : Jvm.MethodName)) ∈ xT := xT_at 825 (by decide +kernel) (by decide +kernel)
theorem xw_826 : (Jvm.Cond.instanceMethod ({ cls := "MarkerText$Reader", name := "<init>", desc := "(Ljava/lang/String;[LMarkerText$Name;)V" } : Jvm.MethodName)) ∈ xT := xT_at 826 (by decide +kernel) (by decide +kernel)
theorem xci_MT_123 : xCI "MarkerText" 123 M_Reader_init 2 := ⟨xcb_Reader_init, rfl, rfl, xw_826, Or.inl xw_825⟩
theorem d_MT_condition_15 : decode M_MT_condition.2.1 15 = .ok (.astore_n 1, 1) := by decide +kernel
theorem d_MT_condition_16 : decode M_MT_condition.2.1 16 = .ok (.aload_n 1, 1) := by decide +kernel
theorem d_MT_condition_17 : decode M_MT_condition.2.1 17 = .ok (.invokevirtual 126, 3) := by decide +kernel
theorem xw_883 : (Jvm.Cond.code ({ cls := "MarkerText$Reader", name := "readWhole", desc := "()LMarkerText$Condition;" } : Jvm.MethodName) prog_10_method_2_code (2 : Nat) (Option.some (Jvm.ClassFile.FieldType.object "MarkerText$Condition"))) ∈ xT := xT_at 883 (by decide +kernel) (by decide +kernel)
theorem xcb_Reader_readWhole : xcb M_Reader_readWhole 0 := ⟨xw_883, xw_23, by decide, by decide, by decide, by decide +kernel⟩
theorem xw_881 : (Jvm.Cond.instanceMethod ({ cls := "MarkerText$Reader", name := "readWhole", desc := "()LMarkerText$Condition;" } : Jvm.MethodName)) ∈ xT := xT_at 881 (by decide +kernel) (by decide +kernel)
theorem xw_880 : (Jvm.Cond.methodLink "MarkerText" (126 : Nat) ({ cls := "MarkerText$Reader", name := "readWhole", desc := "()LMarkerText$Condition;" } : Jvm.MethodName)) ∈ xT := xT_at 880 (by decide +kernel) (by decide +kernel)
theorem xw_882 : (Jvm.Cond.selects "MarkerText$Reader" ({ cls := "MarkerText$Reader", name := "readWhole", desc := "()LMarkerText$Condition;" } : Jvm.MethodName) ({ cls := "MarkerText$Reader", name := "readWhole", desc := "()LMarkerText$Condition;" } : Jvm.MethodName)) ∈ xT := xT_at 882 (by decide +kernel) (by decide +kernel)
theorem xcv_MT_126_Reader : xCV "MarkerText" 126 "MarkerText$Reader" M_Reader_readWhole 0 := ⟨xcb_Reader_readWhole, xw_881, Or.inl ⟨xw_880, Or.inl xw_882⟩⟩
theorem d_MT_condition_20 : decode M_MT_condition.2.1 20 = .ok (.astore_n 2, 1) := by decide +kernel
theorem d_MT_condition_21 : decode M_MT_condition.2.1 21 = .ok (.aload_n 0, 1) := by decide +kernel
theorem d_MT_condition_22 : decode M_MT_condition.2.1 22 = .ok (.aload_n 2, 1) := by decide +kernel
theorem d_MT_condition_23 : decode M_MT_condition.2.1 23 = .ok (.ifnonnull 10, 3) := by decide +kernel
theorem d_MT_condition_26 : decode M_MT_condition.2.1 26 = .ok (.aload_n 1, 1) := by decide +kernel
theorem d_MT_condition_27 : decode M_MT_condition.2.1 27 = .ok (.getfield 130, 3) := by decide +kernel
theorem xw_862 : (Jvm.Cond.fieldLinkNest "MarkerText" (130 : Nat) "MarkerText$Reader" "at" "I" "MarkerText") ∈ xT := xT_at 862 (by decide +kernel) (by decide +kernel)
theorem xf_MT_130_Reader : xF "MarkerText" 130 k_Reader 4 := ⟨_, _, _, "MarkerText$Reader", rfl, by decide, Or.inr ⟨_, xw_862⟩, Or.inl rfl⟩
theorem d_MT_condition_30 : decode M_MT_condition.2.1 30 = .ok (.goto 4, 3) := by decide +kernel
theorem d_MT_condition_34 : decode M_MT_condition.2.1 34 = .ok (.putfield 35, 3) := by decide +kernel
theorem d_MT_condition_37 : decode M_MT_condition.2.1 37 = .ok (.aload_n 2, 1) := by decide +kernel
theorem d_MT_condition_38 : decode M_MT_condition.2.1 38 = .ok (.ifnonnull 13, 3) := by decide +kernel
theorem d_MT_condition_41 : decode M_MT_condition.2.1 41 = .ok (.new 76, 3) := by decide +kernel
theorem d_MT_condition_44 : decode M_MT_condition.2.1 44 = .ok (.dup, 1) := by decide +kernel
theorem d_MT_condition_45 : decode M_MT_condition.2.1 45 = .ok (.ldc 133, 2) := by decide +kernel
theorem d_MT_condition_47 : decode M_MT_condition.2.1 47 = .ok (.invokespecial 80, 3) := by decide +kernel
theorem d_MT_condition_50 : decode M_MT_condition.2.1 50 = .ok (.athrow, 1) := by decide +kernel
theorem xw_822 : (Jvm.Cond.code ({ cls := "MarkerText", name := "condition", desc := "()I" } : Jvm.MethodName) prog_1_method_5_code (3 : Nat) (Option.some Jvm.ClassFile.FieldType.int)) ∈ xT := xT_at 822 (by decide +kernel) (by decide +kernel)
end
section P1E
variable {l : Launch} {G : XG} {h : XH} {c n d : Nat}
/-- it throws an IllegalArgumentException -/
abbrev pThr (h : XH) (c n : Nat) : Option Value → XH → Nat → Nat → Prop := fun v h' c' n' => ∃ a, v = some (.retAddr a) ∧ h' a = some (k_IllegalArgumentException, []) ∧ xap h h' ∧ c' ≤ c + 200 ∧ n' ≤ n + 3000
theorem c_name0 (hG : xGk G) (htr : l.stackTraces = false) (hd : 12 ≤ d) {x : Nat} {k : Int32} (hx : mt0 h x) (hc : c + 200 ≤ xCB) (hn : n + 3000 ≤ xSB) : XMT l G d M_MT_name [.ref x, .int k] h c n (pThr h c n) := by
  obtain ⟨d, rfl⟩ : ∃ q, d = q + 1 := ⟨d - 1, by omega⟩
  obtain ⟨ta, va, na, ca, ea, co, pa, e0, hB, -⟩ := hx
  obtain ⟨z, bs, b1, b2, -⟩ := id hB
  refine XMT.of (by decide +kernel) (Nat.le_of_ble_eq_true rfl) ?_
  refine x_aload_n d_MT_name_0 rfl rfl ?_
  refine x_callV (As := []) (k := k_MarkerText) rfl xcv_MT_64_MT (Or.inl e0) (c_takeText (by omega) e0 hB (by omega) (by omega) (by simp; omega)) rfl rfl (Nat.le_of_ble_eq_true rfl) d_MT_name_1 ?_
  rintro v h1 c1 n1 ⟨q, rfl, hS, hB1, f1, hc1, hn1⟩
  refine x_astore_n (L' := [_, _, _]) d_MT_name_4 rfl rfl rfl ?_
  refine x_aload_n d_MT_name_5 rfl rfl ?_
  refine x_callS (As := [_]) xcs_MT_68 (c_isSpelled hG (by omega) hS (by simp)) rfl rfl (Nat.le_of_ble_eq_true rfl) d_MT_name_6 ?_
  rintro v h2 c2 n2 ⟨rfl, rfl, rfl, rfl⟩
  rw [if_neg (fun z => z.1.1 rfl)]
  refine x_if_eq (tgt := 24) d_MT_name_9 (by decide) (fun _ => ?_) (fun hn => absurd rfl hn)
  simp only [List.length_nil] at hn1
  refine x_throwS (k := k_IllegalArgumentException) (i := 10) (tx := "no new name") hG.1 htr xw_456 rfl (by decide +kernel) (by decide +kernel) (by decide) xnw_MT_76 xthr_MT_80 (by decide +kernel) (by omega) (Nat.le_of_ble_eq_true rfl) (by omega) (by omega) d_MT_name_24 d_MT_name_27 d_MT_name_28 d_MT_name_30 d_MT_name_33 (fun a hn_a hk_a => ?_)
  exact ⟨a, rfl, xup_self, ⟨[ta], f1.up (Or.inr (f1.2 _ hn_a)), xno1 b1 (by decide)⟩, by omega, by omega⟩
theorem c_value0 (hG : xGk G) (htr : l.stackTraces = false) (hd : 12 ≤ d) {x : Nat} {k : Int32} (hx : mt0 h x) (hc : c + 200 ≤ xCB) (hn : n + 3000 ≤ xSB) : XMT l G d M_MT_value [.ref x, .int k] h c n (pThr h c n) := by
  obtain ⟨d, rfl⟩ : ∃ q, d = q + 1 := ⟨d - 1, by omega⟩
  obtain ⟨ta, va, na, ca, ea, co, pa, e0, hB, e1, -⟩ := hx
  obtain ⟨z, bs, b1, b2, -⟩ := id hB
  refine XMT.of (by decide +kernel) (Nat.le_of_ble_eq_true rfl) ?_
  refine x_aload_n d_MT_value_0 rfl rfl ?_
  refine x_callV (As := []) (k := k_MarkerText) rfl xcv_MT_64_MT (Or.inl e0) (c_takeText (by omega) e0 hB (by omega) (by omega) (by simp; omega)) rfl rfl (Nat.le_of_ble_eq_true rfl) d_MT_value_1 ?_
  rintro v h1 c1 n1 ⟨q, rfl, hS, hB1, f1, hc1, hn1⟩
  have e0' := f1.1 _ _ e0 (by simp; exact xne e0 b1 (by decide))
  have e1' := f1.1 _ _ e1 (by simp; exact xne e1 b1 (by decide))
  refine x_astore_n (L' := [_, _, _, _, _, _]) d_MT_value_4 rfl rfl rfl ?_
  refine x_aload_n d_MT_value_5 rfl rfl ?_
  refine x_iload_n d_MT_value_6 rfl ?_
  refine x_callV (As := [_]) (k := k_MarkerText) rfl xcv_MT_93_MT (Or.inl e0') (c_nameAt0 e0' e1') rfl rfl (Nat.le_of_ble_eq_true rfl) d_MT_value_7 ?_
  rintro v h2 c2 n2 ⟨rfl, rfl, rfl, rfl⟩
  simp only [List.length_nil] at hn1
  refine x_astore_n (L' := [_, _, _, _, _, _]) d_MT_value_10 rfl rfl rfl ?_
  refine x_aload_n d_MT_value_11 rfl rfl ?_
  refine x_ifnonnullN d_MT_value_12 ?_
  refine x_throwS (k := k_IllegalArgumentException) (i := 13) (tx := "no such name") hG.1 htr xw_743 rfl (by decide +kernel) (by decide +kernel) (by decide) xnw_MT_76 xthr_MT_80 (by decide +kernel) (by omega) (Nat.le_of_ble_eq_true rfl) (by omega) (by omega) d_MT_value_15 d_MT_value_18 d_MT_value_19 d_MT_value_21 d_MT_value_24 (fun a hn_a hk_a => ?_)
  exact ⟨a, rfl, xup_self, ⟨[ta], f1.up (Or.inr (f1.2 _ hn_a)), xno1 b1 (by decide)⟩, by omega, by omega⟩
theorem c_give0 (hG : xGk G) (htr : l.stackTraces = false) (hd : 12 ≤ d) {x : Nat} {k : Int32} (hx : mt0 h x) (hc : c + 200 ≤ xCB) (hn : n + 3000 ≤ xSB) : XMT l G d M_MT_give [.ref x, .int k] h c n (pThr h c n) := by
  obtain ⟨d, rfl⟩ : ∃ q, d = q + 1 := ⟨d - 1, by omega⟩
  obtain ⟨ta, va, na, ca, ea, co, pa, e0, hB, e1, -⟩ := hx
  obtain ⟨z, bs, b1, b2, -⟩ := id hB
  refine XMT.of (by decide +kernel) (Nat.le_of_ble_eq_true rfl) ?_
  refine x_aload_n d_MT_give_0 rfl rfl ?_
  refine x_callV (As := []) (k := k_MarkerText) rfl xcv_MT_64_MT (Or.inl e0) (c_takeText (by omega) e0 hB (by omega) (by omega) (by simp; omega)) rfl rfl (Nat.le_of_ble_eq_true rfl) d_MT_give_1 ?_
  rintro v h1 c1 n1 ⟨q, rfl, hS, hB1, f1, hc1, hn1⟩
  have e0' := f1.1 _ _ e0 (by simp; exact xne e0 b1 (by decide))
  have e1' := f1.1 _ _ e1 (by simp; exact xne e1 b1 (by decide))
  refine x_astore_n (L' := [_, _, _, _, _, _]) d_MT_give_4 rfl rfl rfl ?_
  refine x_aload_n d_MT_give_5 rfl rfl ?_
  refine x_iload_n d_MT_give_6 rfl ?_
  refine x_callV (As := [_]) (k := k_MarkerText) rfl xcv_MT_93_MT (Or.inl e0') (c_nameAt0 e0' e1') rfl rfl (Nat.le_of_ble_eq_true rfl) d_MT_give_7 ?_
  rintro v h2 c2 n2 ⟨rfl, rfl, rfl, rfl⟩
  simp only [List.length_nil] at hn1
  refine x_astore_n (L' := [_, _, _, _, _, _]) d_MT_give_10 rfl rfl rfl ?_
  refine x_aload_n d_MT_give_11 rfl rfl ?_
  refine x_ifnonnullN d_MT_give_12 ?_
  refine x_throwS (k := k_IllegalArgumentException) (i := 13) (tx := "no such name") hG.1 htr xw_1162 rfl (by decide +kernel) (by decide +kernel) (by decide) xnw_MT_76 xthr_MT_80 (by decide +kernel) (by omega) (Nat.le_of_ble_eq_true rfl) (by omega) (by omega) d_MT_give_15 d_MT_give_18 d_MT_give_19 d_MT_give_21 d_MT_give_24 (fun a hn_a hk_a => ?_)
  exact ⟨a, rfl, xup_self, ⟨[ta], f1.up (Or.inr (f1.2 _ hn_a)), xno1 b1 (by decide)⟩, by omega, by omega⟩
theorem c_condition0 (hG : xGk G) (htr : l.stackTraces = false) (hd : 12 ≤ d) {x : Nat} (hx : mt0 h x) (hc : c + 200 ≤ xCB) (hn : n + 3000 ≤ xSB) : XMT l G d M_MT_condition [.ref x] h c n (pThr h c n) := by
  obtain ⟨d, rfl⟩ : ∃ q, d = q + 1 := ⟨d - 1, by omega⟩
  obtain ⟨ta, va, na, ca, ea, co, pa, e0, hB, e1, -⟩ := hx
  obtain ⟨z, bs, b1, b2, -⟩ := id hB
  refine XMT.of (by decide +kernel) (Nat.le_of_ble_eq_true rfl) ?_
  refine x_new xnw_MT_121 (by omega) (by omega) d_MT_condition_0 (fun r hn_r hk_r => ?_)
  refine x_dup d_MT_condition_3 rfl ?_
  refine x_aload_n d_MT_condition_4 rfl rfl ?_
  have fr : ∀ w, xfr h (xup h r w) [] := fun w => xfr.rf.up (Or.inr hn_r)
  refine x_callV (As := []) (k := k_MarkerText) rfl xcv_MT_64_MT (Or.inl (xup_old e0 hn_r)) (c_takeText (by omega) (xup_old e0 hn_r) (hB.fr (fr _) (by simp) (by simp)) (by omega) (by omega) (by simp; omega)) rfl rfl (Nat.le_of_ble_eq_true rfl) d_MT_condition_5 ?_
  rintro v h1 c1 n1 ⟨q, rfl, hS, hB1, f1, hc1, hn1⟩
  simp only [List.length_nil] at hn1
  have e0' := f1.1 _ _ (xup_old e0 hn_r) (by simp; exact xne e0 b1 (by decide))
  have e1' := f1.1 _ _ (xup_old e1 hn_r) (by simp; exact xne e1 b1 (by decide))
  have r1 := f1.1 _ _ xup_self (by simp; exact Ne.symm (xneN b1 hn_r))
  refine x_aload_n d_MT_condition_8 rfl rfl ?_
  refine x_get xf_MT_18_MT (Or.inl e0') rfl d_MT_condition_9 ?_
  refine x_callI (As := [_, _]) xci_MT_123 (c_Reader_init hG (by omega) r1 (by omega) (by omega)) rfl rfl (Nat.le_of_ble_eq_true rfl) d_MT_condition_12 ?_
  rintro v h2 c2 n2 ⟨rfl, ⟨la, ba, va2, r2, hL2, hB2⟩, f2, hc2, hn2⟩
  have e0'' := f2.1 _ _ e0' (by simp; exact xne e0' r1 (by decide))
  have e1'' := f2.1 _ _ e1' (by simp; exact xne e1' r1 (by decide))
  have S2 := hS.fr f2 (xno1 r1 (by decide))
  refine x_astore_n (L' := [_, _, _]) d_MT_condition_15 rfl rfl rfl ?_
  refine x_aload_n d_MT_condition_16 rfl rfl ?_
  refine x_callV (As := []) (k := k_Reader) rfl xcv_MT_126_Reader (Or.inl r2) (c_readWhole0 hG (by omega) r2 S2 e1'' (by omega) (by omega)) rfl rfl (Nat.le_of_ble_eq_true rfl) d_MT_condition_17 ?_
  rintro v h3 c3 n3 ⟨rfl, r3, f3, hc3, hn3⟩
  have e03 := f3.1 _ _ e0'' (by simp; exact xne e0'' r2 (by decide))
  refine x_astore_n (L' := [_, _, _]) d_MT_condition_20 rfl rfl rfl ?_
  refine x_aload_n d_MT_condition_21 rfl rfl ?_
  refine x_aload_n d_MT_condition_22 rfl rfl ?_
  refine x_ifnonnullN d_MT_condition_23 ?_
  refine x_aload_n d_MT_condition_26 rfl rfl ?_
  refine x_get xf_MT_130_Reader (Or.inl r3) rfl d_MT_condition_27 ?_
  refine x_goto (tgt := 34) d_MT_condition_30 (by decide) ?_
  refine x_put xf_MT_35_MT xp_MT_5 rfl rfl e03 rfl rfl d_MT_condition_34 ?_
  refine x_aload_n d_MT_condition_37 rfl rfl ?_
  refine x_ifnonnullN d_MT_condition_38 ?_
  have ff : ∀ w, xfr h (xup h3 x w) [ta, x] := fun w => (((((fr _).mono (by simp)).tr f1 (fun q _ hq => by simp at hq; simp [hq])).tr f2 (fun q hq hq2 => by rw [List.mem_singleton] at hq2; subst hq2; exact absurd hn_r hq)).tr f3 (fun q hq hq2 => by rw [List.mem_singleton] at hq2; subst hq2; exact absurd hn_r hq)).up (Or.inl (by simp))
  refine x_throwS (k := k_IllegalArgumentException) (i := 31) (tx := "the text is ill") hG.1 htr xw_822 rfl (by decide +kernel) (by decide +kernel) (by decide) xnw_MT_76 xthr_MT_80 (by decide +kernel) (by omega) (Nat.le_of_ble_eq_true rfl) (by omega) (by omega) d_MT_condition_41 d_MT_condition_44 d_MT_condition_45 d_MT_condition_47 d_MT_condition_50 (fun a hn_a hk_a => ?_)
  exact ⟨a, rfl, xup_self, ⟨[ta, x], (ff _).up (Or.inr ((ff _).2 _ hn_a)), xno2 b1 e0 (by decide) (by decide)⟩, by omega, by omega⟩
end P1E
