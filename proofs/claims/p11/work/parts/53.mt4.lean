section
theorem d_MT_printed_10 : decode M_MT_printed.2.1 10 = .ok (.iload_n 2, 1) := by decide +kernel
theorem d_MT_printed_11 : decode M_MT_printed.2.1 11 = .ok (.ifCond .lt 25, 3) := by decide +kernel
theorem d_MT_printed_14 : decode M_MT_printed.2.1 14 = .ok (.iload_n 2, 1) := by decide +kernel
theorem d_MT_printed_15 : decode M_MT_printed.2.1 15 = .ok (.aload_n 3, 1) := by decide +kernel
theorem d_MT_printed_16 : decode M_MT_printed.2.1 16 = .ok (.getfield 190, 3) := by decide +kernel
theorem xw_1146 : (Jvm.Cond.fieldLinkNest "MarkerText" (190 : Nat) "MarkerText$Condition" "shown" "Ljava/lang/String;" "MarkerText") ∈ xT := xT_at 1146 (by decide +kernel) (by decide +kernel)
theorem xf_MT_190_Condition : xF "MarkerText" 190 k_Condition 2 := ⟨_, _, _, "MarkerText$Condition", rfl, by decide, Or.inr ⟨_, xw_1146⟩, Or.inl rfl⟩
theorem d_MT_printed_19 : decode M_MT_printed.2.1 19 = .ok (.invokevirtual 99, 3) := by decide +kernel
theorem d_MT_printed_22 : decode M_MT_printed.2.1 22 = .ok (.if_icmp .ge 14, 3) := by decide +kernel
theorem d_MT_printed_25 : decode M_MT_printed.2.1 25 = .ok (.aload_n 3, 1) := by decide +kernel
theorem d_MT_printed_26 : decode M_MT_printed.2.1 26 = .ok (.getfield 190, 3) := by decide +kernel
theorem d_MT_printed_29 : decode M_MT_printed.2.1 29 = .ok (.iload_n 2, 1) := by decide +kernel
theorem d_MT_printed_30 : decode M_MT_printed.2.1 30 = .ok (.invokevirtual 194, 3) := by decide +kernel
theorem d_MT_printed_33 : decode M_MT_printed.2.1 33 = .ok (.goto 4, 3) := by decide +kernel
abbrev y_MT_give : MethodName := ⟨"MarkerText", "give", "(I)V"⟩
abbrev M_MT_give : XMt := (y_MT_give, prog_1_method_7_code, 6, none)
theorem d_MT_give_0 : decode M_MT_give.2.1 0 = .ok (.aload_n 0, 1) := by decide +kernel
theorem d_MT_give_1 : decode M_MT_give.2.1 1 = .ok (.invokevirtual 64, 3) := by decide +kernel
theorem xw_460 : (Jvm.Cond.code ({ cls := "MarkerText", name := "takeText", desc := "()Ljava/lang/String;" } : Jvm.MethodName) prog_1_method_17_code (2 : Nat) (Option.some (Jvm.ClassFile.FieldType.object "java/lang/String"))) ∈ xT := xT_at 460 (by decide +kernel) (by decide +kernel)
theorem xcb_MT_takeText : xcb M_MT_takeText 0 := ⟨xw_460, xw_1, by decide, by decide, by decide, by decide +kernel⟩
theorem xw_459 : (Jvm.Cond.instanceMethod ({ cls := "MarkerText", name := "takeText", desc := "()Ljava/lang/String;" } : Jvm.MethodName)) ∈ xT := xT_at 459 (by decide +kernel) (by decide +kernel)
theorem xw_457 : (Jvm.Cond.methodLink "MarkerText" (64 : Nat) ({ cls := "MarkerText", name := "takeText", desc := "()Ljava/lang/String;" } : Jvm.MethodName)) ∈ xT := xT_at 457 (by decide +kernel) (by decide +kernel)
theorem xsel_MT_takeText : Cond.selects "MarkerText" y_MT_takeText y_MT_takeText ∈ xT := xT_sel (q := (y_MT_takeText, 9)) (by decide +kernel) (by decide +kernel)
theorem xcv_MT_64_MT : xCV "MarkerText" 64 "MarkerText" M_MT_takeText 0 := ⟨xcb_MT_takeText, xw_459, Or.inl ⟨xw_457, Or.inl xsel_MT_takeText⟩⟩
theorem d_MT_give_4 : decode M_MT_give.2.1 4 = .ok (.astore_n 2, 1) := by decide +kernel
theorem d_MT_give_5 : decode M_MT_give.2.1 5 = .ok (.aload_n 0, 1) := by decide +kernel
theorem d_MT_give_6 : decode M_MT_give.2.1 6 = .ok (.iload_n 1, 1) := by decide +kernel
theorem d_MT_give_7 : decode M_MT_give.2.1 7 = .ok (.invokevirtual 93, 3) := by decide +kernel
theorem xw_412 : (Jvm.Cond.code ({ cls := "MarkerText", name := "nameAt", desc := "(I)LMarkerText$Name;" } : Jvm.MethodName) prog_1_method_18_code (2 : Nat) (Option.some (Jvm.ClassFile.FieldType.object "MarkerText$Name"))) ∈ xT := xT_at 412 (by decide +kernel) (by decide +kernel)
theorem xcb_MT_nameAt : xcb M_MT_nameAt 1 := ⟨xw_412, xw_1, by decide, by decide, by decide, by decide +kernel⟩
theorem xw_411 : (Jvm.Cond.instanceMethod ({ cls := "MarkerText", name := "nameAt", desc := "(I)LMarkerText$Name;" } : Jvm.MethodName)) ∈ xT := xT_at 411 (by decide +kernel) (by decide +kernel)
theorem xw_409 : (Jvm.Cond.methodLink "MarkerText" (93 : Nat) ({ cls := "MarkerText", name := "nameAt", desc := "(I)LMarkerText$Name;" } : Jvm.MethodName)) ∈ xT := xT_at 409 (by decide +kernel) (by decide +kernel)
theorem xsel_MT_nameAt : Cond.selects "MarkerText" y_MT_nameAt y_MT_nameAt ∈ xT := xT_sel (q := (y_MT_nameAt, 9)) (by decide +kernel) (by decide +kernel)
theorem xcv_MT_93_MT : xCV "MarkerText" 93 "MarkerText" M_MT_nameAt 1 := ⟨xcb_MT_nameAt, xw_411, Or.inl ⟨xw_409, Or.inl xsel_MT_nameAt⟩⟩
theorem d_MT_give_10 : decode M_MT_give.2.1 10 = .ok (.astore_n 3, 1) := by decide +kernel
theorem d_MT_give_11 : decode M_MT_give.2.1 11 = .ok (.aload_n 3, 1) := by decide +kernel
theorem d_MT_give_12 : decode M_MT_give.2.1 12 = .ok (.ifnonnull 13, 3) := by decide +kernel
theorem d_MT_give_15 : decode M_MT_give.2.1 15 = .ok (.new 76, 3) := by decide +kernel
theorem xw_694 : (Jvm.Cond.classLink "MarkerText" (76 : Nat) "java/lang/IllegalArgumentException") ∈ xT := xT_at 694 (by decide +kernel) (by decide +kernel)
theorem xw_491 : (Jvm.Cond.instantiable "java/lang/IllegalArgumentException" (6 : Nat)) ∈ xT := xT_at 491 (by decide +kernel) (by decide +kernel)
theorem xw_18 : (Jvm.Cond.initialized "java/lang/IllegalArgumentException") ∈ xT := xT_at 18 (by decide +kernel) (by decide +kernel)
theorem xnw_MT_76 : xNw "MarkerText" 76 k_IllegalArgumentException 6 [.null, .null, .null, .null, .null, .int 0] := ⟨_, _, _, rfl, rfl, by decide +kernel, xw_694, xw_491, xw_18⟩
theorem xw_15 : (Jvm.Cond.initialized "java/lang/Throwable") ∈ xT := xT_at 15 (by decide +kernel) (by decide +kernel)
theorem xw_512 : (Jvm.Cond.superclass "java/lang/Throwable" "java/lang/Object") ∈ xT := xT_at 512 (by decide +kernel) (by decide +kernel)
theorem xw_521 : (Jvm.Cond.instanceMethod ({ cls := "java/lang/Throwable", name := "fillInStackTrace", desc := "()Ljava/lang/Throwable;" } : Jvm.MethodName)) ∈ xT := xT_at 521 (by decide +kernel) (by decide +kernel)
theorem xw_524 : (Jvm.Cond.codeSync ({ cls := "java/lang/Throwable", name := "fillInStackTrace", desc := "()Ljava/lang/Throwable;" } : Jvm.MethodName) prog_30_method_18_code (1 : Nat) (Option.some (Jvm.ClassFile.FieldType.object "java/lang/Throwable"))) ∈ xT := xT_at 524 (by decide +kernel) (by decide +kernel)
theorem xw_527 : (Jvm.Cond.instanceMethod ({ cls := "java/lang/Throwable", name := "fillInStackTrace", desc := "(I)Ljava/lang/Throwable;" } : Jvm.MethodName)) ∈ xT := xT_at 527 (by decide +kernel) (by decide +kernel)
theorem xw_529 : (Jvm.Cond.native ({ cls := "java/lang/Throwable", name := "fillInStackTrace", desc := "(I)Ljava/lang/Throwable;" } : Jvm.MethodName)) ∈ xT := xT_at 529 (by decide +kernel) (by decide +kernel)
theorem xw_513 : (Jvm.Cond.instanceMethod ({ cls := "java/lang/Throwable", name := "<init>", desc := "()V" } : Jvm.MethodName)) ∈ xT := xT_at 513 (by decide +kernel) (by decide +kernel)
theorem xw_514 : (Jvm.Cond.code ({ cls := "java/lang/Throwable", name := "<init>", desc := "()V" } : Jvm.MethodName) prog_30_method_1_code (1 : Nat) (Option.none : Option Jvm.ClassFile.FieldType)) ∈ xT := xT_at 514 (by decide +kernel) (by decide +kernel)
theorem xw_515 : (Jvm.Cond.methodLink "java/lang/Throwable" (1 : Nat) ({ cls := "java/lang/Object", name := "<init>", desc := "()V" } : Jvm.MethodName)) ∈ xT := xT_at 515 (by decide +kernel) (by decide +kernel)
theorem xw_520 : (Jvm.Cond.methodLink "java/lang/Throwable" (27 : Nat) ({ cls := "java/lang/Throwable", name := "fillInStackTrace", desc := "()Ljava/lang/Throwable;" } : Jvm.MethodName)) ∈ xT := xT_at 520 (by decide +kernel) (by decide +kernel)
theorem xw_525 : (Jvm.Cond.methodLink "java/lang/Throwable" (202 : Nat) ({ cls := "java/lang/Throwable", name := "fillInStackTrace", desc := "(I)Ljava/lang/Throwable;" } : Jvm.MethodName)) ∈ xT := xT_at 525 (by decide +kernel) (by decide +kernel)
theorem xw_612 : (Jvm.Cond.fieldLink "java/lang/Throwable" (7 : Nat) "java/lang/Throwable" "cause" "Ljava/lang/Throwable;") ∈ xT := xT_at 612 (by decide +kernel) (by decide +kernel)
theorem xw_502 : (Jvm.Cond.lays "java/lang/Throwable" "java/lang/Throwable" "cause" "Ljava/lang/Throwable;") ∈ xT := xT_at 502 (by decide +kernel) (by decide +kernel)
theorem xw_613 : (Jvm.Cond.fieldLink "java/lang/Throwable" (17 : Nat) "java/lang/Throwable" "stackTrace" "[Ljava/lang/StackTraceElement;") ∈ xT := xT_at 613 (by decide +kernel) (by decide +kernel)
theorem xw_504 : (Jvm.Cond.lays "java/lang/Throwable" "java/lang/Throwable" "stackTrace" "[Ljava/lang/StackTraceElement;") ∈ xT := xT_at 504 (by decide +kernel) (by decide +kernel)
theorem xw_614 : (Jvm.Cond.fieldLink "java/lang/Throwable" (24 : Nat) "java/lang/Throwable" "suppressedExceptions" "Ljava/util/List;") ∈ xT := xT_at 614 (by decide +kernel) (by decide +kernel)
theorem xw_506 : (Jvm.Cond.lays "java/lang/Throwable" "java/lang/Throwable" "suppressedExceptions" "Ljava/util/List;") ∈ xT := xT_at 506 (by decide +kernel) (by decide +kernel)
theorem xw_516 : (Jvm.Cond.fieldLink "java/lang/Throwable" (13 : Nat) "java/lang/Throwable" "UNASSIGNED_STACK" "[Ljava/lang/StackTraceElement;") ∈ xT := xT_at 516 (by decide +kernel) (by decide +kernel)
theorem xw_518 : (Jvm.Cond.fieldLink "java/lang/Throwable" (20 : Nat) "java/lang/Throwable" "SUPPRESSED_SENTINEL" "Ljava/util/List;") ∈ xT := xT_at 518 (by decide +kernel) (by decide +kernel)
theorem xw_508 : (Jvm.Cond.lays "java/lang/Throwable" "java/lang/Throwable" "detailMessage" "Ljava/lang/String;") ∈ xT := xT_at 508 (by decide +kernel) (by decide +kernel)
theorem xw_608 : (Jvm.Cond.instanceMethod ({ cls := "java/lang/Throwable", name := "<init>", desc := "(Ljava/lang/String;)V" } : Jvm.MethodName)) ∈ xT := xT_at 608 (by decide +kernel) (by decide +kernel)
theorem xw_609 : (Jvm.Cond.code ({ cls := "java/lang/Throwable", name := "<init>", desc := "(Ljava/lang/String;)V" } : Jvm.MethodName) prog_30_method_2_code (2 : Nat) (Option.none : Option Jvm.ClassFile.FieldType)) ∈ xT := xT_at 609 (by decide +kernel) (by decide +kernel)
theorem xw_611 : (Jvm.Cond.fieldLink "java/lang/Throwable" (31 : Nat) "java/lang/Throwable" "detailMessage" "Ljava/lang/String;") ∈ xT := xT_at 611 (by decide +kernel) (by decide +kernel)
theorem xw_599 : (Jvm.Cond.instanceMethod ({ cls := "java/lang/IllegalArgumentException", name := "<init>", desc := "(Ljava/lang/String;)V" } : Jvm.MethodName)) ∈ xT := xT_at 599 (by decide +kernel) (by decide +kernel)
theorem xw_600 : (Jvm.Cond.code ({ cls := "java/lang/IllegalArgumentException", name := "<init>", desc := "(Ljava/lang/String;)V" } : Jvm.MethodName) prog_19_method_2_code (2 : Nat) (Option.none : Option Jvm.ClassFile.FieldType)) ∈ xT := xT_at 600 (by decide +kernel) (by decide +kernel)
theorem xw_601 : (Jvm.Cond.methodLink "java/lang/IllegalArgumentException" (7 : Nat) ({ cls := "java/lang/RuntimeException", name := "<init>", desc := "(Ljava/lang/String;)V" } : Jvm.MethodName)) ∈ xT := xT_at 601 (by decide +kernel) (by decide +kernel)
theorem xw_602 : (Jvm.Cond.instanceMethod ({ cls := "java/lang/RuntimeException", name := "<init>", desc := "(Ljava/lang/String;)V" } : Jvm.MethodName)) ∈ xT := xT_at 602 (by decide +kernel) (by decide +kernel)
theorem xw_494 : (Jvm.Cond.declares ({ cls := "java/lang/RuntimeException", name := "<init>", desc := "(Ljava/lang/String;)V" } : Jvm.MethodName)) ∈ xT := xT_at 494 (by decide +kernel) (by decide +kernel)
theorem xw_603 : (Jvm.Cond.code ({ cls := "java/lang/RuntimeException", name := "<init>", desc := "(Ljava/lang/String;)V" } : Jvm.MethodName) prog_24_method_2_code (2 : Nat) (Option.none : Option Jvm.ClassFile.FieldType)) ∈ xT := xT_at 603 (by decide +kernel) (by decide +kernel)
theorem xw_604 : (Jvm.Cond.methodLink "java/lang/RuntimeException" (7 : Nat) ({ cls := "java/lang/Exception", name := "<init>", desc := "(Ljava/lang/String;)V" } : Jvm.MethodName)) ∈ xT := xT_at 604 (by decide +kernel) (by decide +kernel)
theorem xw_605 : (Jvm.Cond.instanceMethod ({ cls := "java/lang/Exception", name := "<init>", desc := "(Ljava/lang/String;)V" } : Jvm.MethodName)) ∈ xT := xT_at 605 (by decide +kernel) (by decide +kernel)
theorem xw_496 : (Jvm.Cond.declares ({ cls := "java/lang/Exception", name := "<init>", desc := "(Ljava/lang/String;)V" } : Jvm.MethodName)) ∈ xT := xT_at 496 (by decide +kernel) (by decide +kernel)
theorem xw_606 : (Jvm.Cond.code ({ cls := "java/lang/Exception", name := "<init>", desc := "(Ljava/lang/String;)V" } : Jvm.MethodName) prog_18_method_2_code (2 : Nat) (Option.none : Option Jvm.ClassFile.FieldType)) ∈ xT := xT_at 606 (by decide +kernel) (by decide +kernel)
theorem xw_607 : (Jvm.Cond.methodLink "java/lang/Exception" (7 : Nat) ({ cls := "java/lang/Throwable", name := "<init>", desc := "(Ljava/lang/String;)V" } : Jvm.MethodName)) ∈ xT := xT_at 607 (by decide +kernel) (by decide +kernel)
theorem xw_498 : (Jvm.Cond.declares ({ cls := "java/lang/Throwable", name := "<init>", desc := "(Ljava/lang/String;)V" } : Jvm.MethodName)) ∈ xT := xT_at 498 (by decide +kernel) (by decide +kernel)
theorem xw_696 : (Jvm.Cond.methodLink "MarkerText" (80 : Nat) ({ cls := "java/lang/IllegalArgumentException", name := "<init>", desc := "(Ljava/lang/String;)V" } : Jvm.MethodName)) ∈ xT := xT_at 696 (by decide +kernel) (by decide +kernel)
theorem xw_499 : (Jvm.Cond.selects "java/lang/IllegalArgumentException" ({ cls := "java/lang/Throwable", name := "fillInStackTrace", desc := "(I)Ljava/lang/Throwable;" } : Jvm.MethodName) ({ cls := "java/lang/Throwable", name := "fillInStackTrace", desc := "(I)Ljava/lang/Throwable;" } : Jvm.MethodName)) ∈ xT := xT_at 499 (by decide +kernel) (by decide +kernel)
theorem xw_500 : (Jvm.Cond.selects "java/lang/IllegalArgumentException" ({ cls := "java/lang/Throwable", name := "fillInStackTrace", desc := "()Ljava/lang/Throwable;" } : Jvm.MethodName) ({ cls := "java/lang/Throwable", name := "fillInStackTrace", desc := "()Ljava/lang/Throwable;" } : Jvm.MethodName)) ∈ xT := xT_at 500 (by decide +kernel) (by decide +kernel)
theorem xw_501 : (Jvm.Cond.lays "java/lang/IllegalArgumentException" "java/lang/Throwable" "cause" "Ljava/lang/Throwable;") ∈ xT := xT_at 501 (by decide +kernel) (by decide +kernel)
theorem xw_503 : (Jvm.Cond.lays "java/lang/IllegalArgumentException" "java/lang/Throwable" "stackTrace" "[Ljava/lang/StackTraceElement;") ∈ xT := xT_at 503 (by decide +kernel) (by decide +kernel)
theorem xw_505 : (Jvm.Cond.lays "java/lang/IllegalArgumentException" "java/lang/Throwable" "suppressedExceptions" "Ljava/util/List;") ∈ xT := xT_at 505 (by decide +kernel) (by decide +kernel)
theorem xw_507 : (Jvm.Cond.lays "java/lang/IllegalArgumentException" "java/lang/Throwable" "detailMessage" "Ljava/lang/String;") ∈ xT := xT_at 507 (by decide +kernel) (by decide +kernel)
theorem xw_511 : (Jvm.Cond.fieldLink "java/lang/Throwable" (198 : Nat) "java/lang/Throwable" "backtrace" "Ljava/lang/Object;") ∈ xT := xT_at 511 (by decide +kernel) (by decide +kernel)
theorem xw_510 : (Jvm.Cond.lays "java/lang/Throwable" "java/lang/Throwable" "backtrace" "Ljava/lang/Object;") ∈ xT := xT_at 510 (by decide +kernel) (by decide +kernel)
theorem xw_509 : (Jvm.Cond.lays "java/lang/IllegalArgumentException" "java/lang/Throwable" "backtrace" "Ljava/lang/Object;") ∈ xT := xT_at 509 (by decide +kernel) (by decide +kernel)
theorem xthr_MT_80 : ∀ w ∈ xThr "MarkerText" 80 "java/lang/IllegalArgumentException" ["java/lang/RuntimeException", "java/lang/Exception"], w ∈ xT ∨ ∃ q ∈ xThS, w = Cond.laysStatic q.1 q.2.1 q.2.2 := List.forall_mem_cons.mpr ⟨Or.inl xw_15, List.forall_mem_cons.mpr ⟨Or.inl xw_512, List.forall_mem_cons.mpr ⟨Or.inl xw_521, List.forall_mem_cons.mpr ⟨Or.inl xw_524, List.forall_mem_cons.mpr ⟨Or.inl xw_527, List.forall_mem_cons.mpr ⟨Or.inl xw_529, List.forall_mem_cons.mpr ⟨Or.inl xw_513, List.forall_mem_cons.mpr ⟨Or.inl xw_514, List.forall_mem_cons.mpr ⟨Or.inl xw_40, List.forall_mem_cons.mpr ⟨Or.inl xw_41, List.forall_mem_cons.mpr ⟨Or.inl xw_515, List.forall_mem_cons.mpr ⟨Or.inl xw_520, List.forall_mem_cons.mpr ⟨Or.inl xw_525, List.forall_mem_cons.mpr ⟨Or.inl xw_612, List.forall_mem_cons.mpr ⟨Or.inl xw_502, List.forall_mem_cons.mpr ⟨Or.inl xw_613, List.forall_mem_cons.mpr ⟨Or.inl xw_504, List.forall_mem_cons.mpr ⟨Or.inl xw_614, List.forall_mem_cons.mpr ⟨Or.inl xw_506, List.forall_mem_cons.mpr ⟨Or.inl xw_516, List.forall_mem_cons.mpr ⟨Or.inr ⟨_, List.mem_of_getElem? (i := 0) rfl, rfl⟩, List.forall_mem_cons.mpr ⟨Or.inl xw_518, List.forall_mem_cons.mpr ⟨Or.inr ⟨_, List.mem_of_getElem? (i := 1) rfl, rfl⟩, List.forall_mem_cons.mpr ⟨Or.inl xw_508, List.forall_mem_cons.mpr ⟨Or.inl xw_608, List.forall_mem_cons.mpr ⟨Or.inl xw_609, List.forall_mem_cons.mpr ⟨Or.inl xw_611, List.forall_mem_cons.mpr ⟨Or.inl xw_508, List.forall_mem_cons.mpr ⟨Or.inl xw_599, List.forall_mem_cons.mpr ⟨Or.inl xw_600, List.forall_mem_cons.mpr ⟨Or.inl xw_601, List.forall_mem_cons.mpr ⟨Or.inl xw_602, List.forall_mem_cons.mpr ⟨Or.inl xw_494, List.forall_mem_cons.mpr ⟨Or.inl xw_602, List.forall_mem_cons.mpr ⟨Or.inl xw_603, List.forall_mem_cons.mpr ⟨Or.inl xw_604, List.forall_mem_cons.mpr ⟨Or.inl xw_605, List.forall_mem_cons.mpr ⟨Or.inl xw_496, List.forall_mem_cons.mpr ⟨Or.inl xw_605, List.forall_mem_cons.mpr ⟨Or.inl xw_606, List.forall_mem_cons.mpr ⟨Or.inl xw_607, List.forall_mem_cons.mpr ⟨Or.inl xw_608, List.forall_mem_cons.mpr ⟨Or.inl xw_498, List.forall_mem_cons.mpr ⟨Or.inl xw_696, List.forall_mem_cons.mpr ⟨Or.inl xw_491, List.forall_mem_cons.mpr ⟨Or.inl xw_499, List.forall_mem_cons.mpr ⟨Or.inl xw_500, List.forall_mem_cons.mpr ⟨Or.inl xw_501, List.forall_mem_cons.mpr ⟨Or.inl xw_503, List.forall_mem_cons.mpr ⟨Or.inl xw_505, List.forall_mem_cons.mpr ⟨Or.inl xw_507, List.forall_mem_cons.mpr ⟨Or.inl xw_511, List.forall_mem_cons.mpr ⟨Or.inl xw_510, List.forall_mem_cons.mpr ⟨Or.inl xw_509, fun _ hz => by cases hz⟩⟩⟩⟩⟩⟩⟩⟩⟩⟩⟩⟩⟩⟩⟩⟩⟩⟩⟩⟩⟩⟩⟩⟩⟩⟩⟩⟩⟩⟩⟩⟩⟩⟩⟩⟩⟩⟩⟩⟩⟩⟩⟩⟩⟩⟩⟩⟩⟩⟩⟩⟩⟩⟩
theorem d_MT_give_18 : decode M_MT_give.2.1 18 = .ok (.dup, 1) := by decide +kernel
theorem d_MT_give_19 : decode M_MT_give.2.1 19 = .ok (.ldc 97, 2) := by decide +kernel
theorem d_MT_give_21 : decode M_MT_give.2.1 21 = .ok (.invokespecial 80, 3) := by decide +kernel
theorem d_MT_give_24 : decode M_MT_give.2.1 24 = .ok (.athrow, 1) := by decide +kernel
theorem xw_1162 : (Jvm.Cond.code ({ cls := "MarkerText", name := "give", desc := "(I)V" } : Jvm.MethodName) prog_1_method_7_code (6 : Nat) (Option.none : Option Jvm.ClassFile.FieldType)) ∈ xT := xT_at 1162 (by decide +kernel) (by decide +kernel)
theorem d_MT_give_25 : decode M_MT_give.2.1 25 = .ok (.aload_n 3, 1) := by decide +kernel
theorem d_MT_give_26 : decode M_MT_give.2.1 26 = .ok (.aload_n 2, 1) := by decide +kernel
theorem d_MT_give_27 : decode M_MT_give.2.1 27 = .ok (.iconst 0, 1) := by decide +kernel
theorem d_MT_give_28 : decode M_MT_give.2.1 28 = .ok (.aload_n 2, 1) := by decide +kernel
theorem d_MT_give_29 : decode M_MT_give.2.1 29 = .ok (.invokevirtual 99, 3) := by decide +kernel
theorem d_MT_give_32 : decode M_MT_give.2.1 32 = .ok (.invokevirtual 102, 3) := by decide +kernel
theorem xw_745 : (Jvm.Cond.methodLink "MarkerText" (102 : Nat) ({ cls := "MarkerText$Name", name := "levelOf", desc := "(Ljava/lang/String;II)J" } : Jvm.MethodName)) ∈ xT := xT_at 745 (by decide +kernel) (by decide +kernel)
theorem xcv_MT_102_Name : xCV "MarkerText" 102 "MarkerText$Name" M_Name_levelOf 3 := ⟨xcb_Name_levelOf, xw_746, Or.inl ⟨xw_745, Or.inl xw_747⟩⟩
theorem d_MT_give_35 : decode M_MT_give.2.1 35 = .ok (.lstore 4, 2) := by decide +kernel
theorem d_MT_give_37 : decode M_MT_give.2.1 37 = .ok (.lload 4, 2) := by decide +kernel
theorem d_MT_give_39 : decode M_MT_give.2.1 39 = .ok (.lconst 0, 1) := by decide +kernel
theorem d_MT_give_40 : decode M_MT_give.2.1 40 = .ok (.lcmp, 1) := by decide +kernel
theorem d_MT_give_41 : decode M_MT_give.2.1 41 = .ok (.ifCond .ne 20, 3) := by decide +kernel
theorem d_MT_give_44 : decode M_MT_give.2.1 44 = .ok (.aload_n 2, 1) := by decide +kernel
theorem d_MT_give_45 : decode M_MT_give.2.1 45 = .ok (.invokevirtual 137, 3) := by decide +kernel
theorem d_MT_give_48 : decode M_MT_give.2.1 48 = .ok (.ifCond .ne 13, 3) := by decide +kernel
theorem d_MT_give_61 : decode M_MT_give.2.1 61 = .ok (.aload_n 0, 1) := by decide +kernel
theorem d_MT_give_62 : decode M_MT_give.2.1 62 = .ok (.getfield 38, 3) := by decide +kernel
theorem d_MT_give_65 : decode M_MT_give.2.1 65 = .ok (.iload_n 1, 1) := by decide +kernel
theorem d_MT_give_66 : decode M_MT_give.2.1 66 = .ok (.lload 4, 2) := by decide +kernel
theorem d_MT_give_68 : decode M_MT_give.2.1 68 = .ok (.lastore, 1) := by decide +kernel
theorem d_MT_give_69 : decode M_MT_give.2.1 69 = .ok (.return_, 1) := by decide +kernel
theorem d_MT_give_51 : decode M_MT_give.2.1 51 = .ok (.new 76, 3) := by decide +kernel
theorem d_MT_give_54 : decode M_MT_give.2.1 54 = .ok (.dup, 1) := by decide +kernel
theorem d_MT_give_55 : decode M_MT_give.2.1 55 = .ok (.ldc 141, 2) := by decide +kernel
theorem d_MT_give_57 : decode M_MT_give.2.1 57 = .ok (.invokespecial 80, 3) := by decide +kernel
theorem d_MT_give_60 : decode M_MT_give.2.1 60 = .ok (.athrow, 1) := by decide +kernel
end
section MT4
variable {l : Launch} {G : XG} {h : XH} {c n d : Nat}
theorem i32_nI {k : Int32} (h0 : ¬ k < 0) : nI k.toNatClampNeg = k := by
  rw [Int32.lt_iff_toInt_lt] at h0
  have e0 : (0 : Int32).toInt = 0 := by decide
  have h1 := Int32.toInt_lt k
  rw [← Int32.toInt_inj]
  show (Int32.ofNat k.toInt.toNat).toInt = k.toInt
  rw [Int32.toInt_ofNat_of_lt (by omega)]
  omega
theorem i32_ex {k : Int32} (h0 : ¬ k < 0) : ∃ j, j < 2 ^ 31 ∧ k = nI j := by
  have h1 := Int32.toInt_lt k
  exact ⟨k.toNatClampNeg, (by show k.toInt.toNat < 2 ^ 31; omega), (i32_nI h0).symm⟩
theorem iAt_nI {α : Type} {j : Nat} {xs : List α} (hj : j < 2 ^ 31) : iAt (nI j) xs = xs[j]? := by rw [iAt_ge (nI_pos hj), nI_clamp hj]
/-- what printed() answers -/
def prt (Cs : List CnT) (k i : Int32) : Nat := match iAt k Cs with
  | none => 0
  | some D => (iAt i D.1.2.2).getD 0
theorem c_printed (hG : xGk G) (hd : 4 ≤ d) {x ta va m na ca ea ch pa : Nat} {as kas cas t : List Nat} {Ns : List NmT} {Cs : List CnT} {il : Option Nat} {lv : Nat → Nat} {Pt : PtT} {k i : Int32} (hM : isMT G h x ta va m na ca ea ch pa as kas cas t Ns Cs il lv Pt) : XM l G d M_MT_printed [.ref x, .int k, .int i] h c n (xSame (.int (nI (prt Cs k i))) h c n) := by
  obtain ⟨d, rfl⟩ : ∃ q, d = q + 1 := ⟨d - 1, by omega⟩
  obtain ⟨e0, hB, hm, hl, hN, hC, hL, -⟩ := id hM
  refine XM.of (by decide +kernel) (Nat.le_of_ble_eq_true rfl) ?_
  refine x_aload_n d_MT_printed_0 rfl rfl ?_
  refine x_iload_n d_MT_printed_1 rfl ?_
  refine x_callV (As := [_]) (k := k_MarkerText) rfl xcv_MT_143_MT (Or.inl e0) (c_conditionAt e0 hC) rfl rfl (Nat.le_of_ble_eq_true rfl) d_MT_printed_2 ?_
  rintro v h1 c1 n1 ⟨rfl, rfl, rfl, rfl⟩
  rcases hC.at (k := k) with ⟨g1, g2⟩ | ⟨a, D, g1, g2, g3⟩
  · rw [g1, show prt Cs k i = 0 by unfold prt; rw [g2]]
    refine x_astore_n (L' := [_, _, _, _]) d_MT_printed_5 rfl rfl rfl ?_
    refine x_aload_n d_MT_printed_6 rfl rfl ?_
    refine x_ifnullN (tgt := 36) d_MT_printed_7 (by decide) ?_
    refine x_iconst (v := 0) d_MT_printed_36 (by decide) ?_
    refine x_iret d_MT_printed_37 rfl ?_
    exact ⟨rfl, rfl, rfl, rfl⟩
  · rw [g1, show prt Cs k i = (iAt i D.1.2.2).getD 0 by unfold prt; rw [g2]]
    obtain ⟨ra, la, sa, ea', es, y1, y2, y3, y4, y5, y6, y7⟩ := id g3
    obtain ⟨vs, es', hsa, -⟩ := id y5
    by_cases h0 : i < 0
    · rw [iAt_lt h0]
      refine x_astore_n (L' := [_, _, _, _]) d_MT_printed_5 rfl rfl rfl ?_
      refine x_aload_n d_MT_printed_6 rfl rfl ?_
      refine x_ifnull d_MT_printed_7 ?_
      refine x_iload_n d_MT_printed_10 rfl ?_
      refine x_if_lt (tgt := 36) d_MT_printed_11 (by decide) (fun _ => ?_) (fun hn => absurd h0 hn)
      refine x_iconst (v := 0) d_MT_printed_36 (by decide) ?_
      refine x_iret d_MT_printed_37 rfl ?_
      exact ⟨rfl, rfl, rfl, rfl⟩
    · obtain ⟨j, hj, rfl⟩ := i32_ex h0
      rw [iAt_nI hj]
      by_cases hlt : j < D.1.2.2.length
      · rw [List.getElem?_eq_getElem hlt]
        refine x_astore_n (L' := [_, _, _, _]) d_MT_printed_5 rfl rfl rfl ?_
        refine x_aload_n d_MT_printed_6 rfl rfl ?_
        refine x_ifnull d_MT_printed_7 ?_
        refine x_iload_n d_MT_printed_10 rfl ?_
        refine x_if_lt (tgt := 36) d_MT_printed_11 (by decide) (fun ht => absurd ht (nI_pos hj)) (fun _ => ?_)
        refine x_iload_n d_MT_printed_14 rfl ?_
        refine x_aload_n d_MT_printed_15 rfl rfl ?_
        refine x_get xf_MT_190_Condition (Or.inl y1) rfl d_MT_printed_16 ?_
        refine x_callV (As := []) (k := k_String) rfl xcv_MT_99_String hsa (c_String_length (by omega) y5) rfl rfl (Nat.le_of_ble_eq_true rfl) d_MT_printed_19 ?_
        rintro v h2 c2 n2 ⟨rfl, rfl, rfl, rfl⟩
        refine x_icmp_ge (tgt := 36) d_MT_printed_22 (by decide) (fun ht => absurd ht (nI_ge (by omega) (by omega))) (fun _ => ?_)
        refine x_aload_n d_MT_printed_25 rfl rfl ?_
        refine x_get xf_MT_190_Condition (Or.inl y1) rfl d_MT_printed_26 ?_
        refine x_iload_n d_MT_printed_29 rfl ?_
        refine x_callV (As := [_]) (k := k_String) rfl xcv_MT_194_String hsa (c_String_charAt hG (by omega) y5 hlt (by omega)) rfl rfl (Nat.le_of_ble_eq_true rfl) d_MT_printed_30 ?_
        rintro v h3 c3 n3 ⟨rfl, rfl, rfl, rfl⟩
        refine x_goto (tgt := 37) d_MT_printed_33 (by decide) ?_
        refine x_iret d_MT_printed_37 rfl ?_
        exact ⟨rfl, rfl, rfl, rfl⟩
      · rw [List.getElem?_eq_none (by omega)]
        refine x_astore_n (L' := [_, _, _, _]) d_MT_printed_5 rfl rfl rfl ?_
        refine x_aload_n d_MT_printed_6 rfl rfl ?_
        refine x_ifnull d_MT_printed_7 ?_
        refine x_iload_n d_MT_printed_10 rfl ?_
        refine x_if_lt (tgt := 36) d_MT_printed_11 (by decide) (fun ht => absurd ht (nI_pos hj)) (fun _ => ?_)
        refine x_iload_n d_MT_printed_14 rfl ?_
        refine x_aload_n d_MT_printed_15 rfl rfl ?_
        refine x_get xf_MT_190_Condition (Or.inl y1) rfl d_MT_printed_16 ?_
        refine x_callV (As := []) (k := k_String) rfl xcv_MT_99_String hsa (c_String_length (by omega) y5) rfl rfl (Nat.le_of_ble_eq_true rfl) d_MT_printed_19 ?_
        rintro v h2 c2 n2 ⟨rfl, rfl, rfl, rfl⟩
        refine x_icmp_ge (tgt := 36) d_MT_printed_22 (by decide) (fun _ => ?_) (fun hn => absurd (nI_le (by omega) (by omega)) hn)
        refine x_iconst (v := 0) d_MT_printed_36 (by decide) ?_
        refine x_iret d_MT_printed_37 rfl ?_
        exact ⟨rfl, rfl, rfl, rfl⟩
theorem isNs.at {r : Nat} {k : Int32} {as kas : List Nat} {Ns : List NmT} (hN : isNs G h r as kas Ns) : (iAt k as = none ∧ iAt k Ns = none) ∨ ∃ a ka x j, j < Ns.length ∧ k = nI j ∧ iAt k as = some a ∧ as[j]? = some a ∧ kas[j]? = some ka ∧ iAt k Ns = some x ∧ Ns[j]? = some x ∧ isN G h a ka x.1 x.2.1 x.2.2 ∧ x.1.length ≤ 8 := by
  obtain ⟨e1, e2, e3, e4, e5, e6, e7⟩ := hN
  by_cases h0 : k < 0
  · exact Or.inl ⟨iAt_lt h0, iAt_lt h0⟩
  · obtain ⟨j, hj, rfl⟩ := i32_ex h0
    rw [iAt_nI hj, iAt_nI hj]
    by_cases h1 : j < Ns.length
    · have a1 : as[j]? = some (as[j]'(by omega)) := List.getElem?_eq_getElem (by omega)
      have a2 : kas[j]? = some (kas[j]'(by omega)) := List.getElem?_eq_getElem (by omega)
      have a3 : Ns[j]? = some (Ns[j]'(by omega)) := List.getElem?_eq_getElem (by omega)
      exact Or.inr ⟨_, _, _, j, h1, rfl, a1, a1, a2, a3, a3, e7 _ _ _ _ a3 a1 a2⟩
    · exact Or.inl ⟨List.getElem?_eq_none (by omega), List.getElem?_eq_none (by omega)⟩
def lvSet (lv : Nat → Nat) (i v : Nat) : Nat → Nat := fun j => if j = i then v else lv j
theorem isLv.set {kl r i v : Nat} {lv : Nat → Nat} (hL : isLv h kl r lv) (hi : i < 6) (hv : v < 2 ^ 63) {vs : List Value} (hvs : vs = ((List.range 6).map (fun i => Value.long (lN (lv i)))).set i (.long (lN v))) : isLv (xup h r (kl, vs)) kl r (lvSet lv i v) := by
  obtain ⟨e1, e2, e3⟩ := hL
  refine ⟨e1, ?_, fun j => ?_⟩
  · rw [xup_self, hvs]
    refine congrArg (fun z => some (kl, z)) (List.ext_getElem (by simp) (fun j h1 h2 => ?_))
    simp only [List.getElem_set, List.getElem_map, List.getElem_range, lvSet]
    by_cases hj : i = j
    · rw [if_pos hj, if_pos hj.symm]
    · rw [if_neg hj, if_neg (fun z => hj z.symm)]
  · unfold lvSet
    split
    · exact hv
    · exact e3 j
/-- all but the environment stays -/
theorem isMT.frE {h' : XH} {F : List Nat} {x ta va m na ca ea ch pa : Nat} {as kas cas t : List Nat} {Ns : List NmT} {Cs : List CnT} {il : Option Nat} {lv lv' : Nat → Nat} {Pt : PtT} (hM : isMT G h x ta va m na ca ea ch pa as kas cas t Ns Cs il lv Pt) (hf : xfr h h' F) (hn : xno h F [k_MarkerText, k_aName, k_Name, k_aknown, k_String, k_asbyte, k_aCondition, k_Condition, k_Test, k_Join, k_Negation, k_Constant, k_avals, k_ArrayList, k_aObject, k_Choices, k_achv, k_astarts, k_asamples, k_apicks, k_achl, k_Parting, k_aptr, k_apsz, k_apfi, k_apcl, k_apsa, k_StringBuilder, k_abyte]) (hL : isLv h' k_aenv ea lv') : isMT G h' x ta va m na ca ea ch pa as kas cas t Ns Cs il lv' Pt := by
  obtain ⟨e1, e2, e3, e4, e5, e6, e7, e8, e9, e10⟩ := hM
  obtain ⟨z, bs, b1, b2, -⟩ := id e2
  exact ⟨hf.1 _ _ e1 (hn.at e1 (by decide)), e2.fr hf (hn.at b1 (by decide)) (hn.at b2 (by decide)), e3, e4, e5.fr hf (hn.sub (by decide)), e6.fr hf (hn.sub (by decide)), hL, e8.fr hf (hn.sub (by decide)), e9.fr hf (hn.sub (by decide)), e10⟩
/-- the level that give() takes -/
def gvl (Ns : List NmT) (t : List Nat) (k : Int32) : Option Nat := match iAt k Ns with
  | none => none
  | some x => if klv x.2.1 t = 0 ∧ ¬ t = [] then none else some (klv x.2.1 t)
theorem c_give (hG : xGk G) (htr : l.stackTraces = false) (hd : 12 ≤ d) {x ta va m na ca ea ch pa : Nat} {as kas cas t : List Nat} {Ns : List NmT} {Cs : List CnT} {il : Option Nat} {lv : Nat → Nat} {Pt : PtT} {k : Int32} (hM : isMT G h x ta va m na ca ea ch pa as kas cas t Ns Cs il lv Pt) (hc : c + 3 ≤ xCB) (hn : n + t.length + 10 ≤ xSB) :
    XMT l G d M_MT_give [.ref x, .int k] h c n (fun v h' c' n' => c' ≤ c + 3 ∧ n' ≤ n + t.length + 10 ∧ xfr h h' [ta, ea] ∧ match gvl Ns t k with
      | none => (∃ a, v = some (.retAddr a) ∧ h' a = some (k_IllegalArgumentException, [])) ∧ isMT G h' x ta va m na ca ea ch pa as kas cas [] Ns Cs il lv Pt
      | some u => v = none ∧ isMT G h' x ta va m na ca ea ch pa as kas cas [] Ns Cs il (lvSet lv k.toNatClampNeg u) Pt) := by
  obtain ⟨d, rfl⟩ : ∃ q, d = q + 1 := ⟨d - 1, by omega⟩
  obtain ⟨e0, hB, hm, hl, -⟩ := id hM
  obtain ⟨z, bs, b1, b2, -⟩ := id hB
  refine XMT.of (by decide +kernel) (Nat.le_of_ble_eq_true rfl) ?_
  refine x_aload_n d_MT_give_0 rfl rfl ?_
  refine x_callV (As := []) (k := k_MarkerText) rfl xcv_MT_64_MT (Or.inl e0) (c_takeText (by omega) e0 hB (by omega) (by omega) (by omega)) rfl rfl (Nat.le_of_ble_eq_true rfl) d_MT_give_1 ?_
  rintro v h1 c1 n1 ⟨q, rfl, hS, hB1, f1, hc1, hn1⟩
  have hM1 := hM.frB f1 (xno1 b1 (by decide)) hB1 hm (by simp)
  obtain ⟨e1, -, -, -, hN1, hC1, hL1, -⟩ := id hM1
  have hthr : ∀ a, h1 a = none → xfr h (xup h1 a (k_IllegalArgumentException, [])) [ta, ea] ∧ isMT G (xup h1 a (k_IllegalArgumentException, [])) x ta va m na ca ea ch pa as kas cas [] Ns Cs il lv Pt := fun a ha => ⟨(f1.mono (by simp)).up (Or.inr (f1.2 _ ha)), hM1.frB (F := []) (xfr.rf.up (Or.inr ha)) (fun q hq => by cases hq) (hB1.up ha) hm (by simp)⟩
  refine x_astore_n (L' := [_, _, _, _, _, _]) d_MT_give_4 rfl rfl rfl ?_
  refine x_aload_n d_MT_give_5 rfl rfl ?_
  refine x_iload_n d_MT_give_6 rfl ?_
  refine x_callV (As := [_]) (k := k_MarkerText) rfl xcv_MT_93_MT (Or.inl e1) (c_nameAt e1 hN1) rfl rfl (Nat.le_of_ble_eq_true rfl) d_MT_give_7 ?_
  rintro v h2 c2 n2 ⟨rfl, rfl, rfl, rfl⟩
  rcases hN1.at (k := k) with ⟨g1, g2⟩ | ⟨a, ka, X, j, hj, rfl, g1, g1', g1'', g2, g2', g3, g4⟩
  · rw [g1, show gvl Ns t k = none by unfold gvl; rw [g2]]
    refine x_astore_n (L' := [_, _, _, _, _, _]) d_MT_give_10 rfl rfl rfl ?_
    refine x_aload_n d_MT_give_11 rfl rfl ?_
    refine x_ifnonnullN d_MT_give_12 ?_
    refine x_throwS (k := k_IllegalArgumentException) (i := 13) (tx := "no such name") hG.1 htr xw_1162 rfl (by decide +kernel) (by decide +kernel) (by decide) xnw_MT_76 xthr_MT_80 (by decide +kernel) (by omega) (Nat.le_of_ble_eq_true rfl) (by omega) (by omega) d_MT_give_15 d_MT_give_18 d_MT_give_19 d_MT_give_21 d_MT_give_24 (fun a hn_a hk_a => ?_)
    exact ⟨by omega, by omega, (hthr a hn_a).1, ⟨a, rfl, xup_self⟩, (hthr a hn_a).2⟩
  · rw [g1, show gvl Ns t (nI j) = if klv X.2.1 t = 0 ∧ ¬ t = [] then none else some (klv X.2.1 t) by unfold gvl; rw [g2]]
    obtain ⟨vq, eq, hqa, -⟩ := id hS
    obtain ⟨sw, ha1, -⟩ := id g3
    refine x_astore_n (L' := [_, _, _, _, _, _]) d_MT_give_10 rfl rfl rfl ?_
    refine x_aload_n d_MT_give_11 rfl rfl ?_
    refine x_ifnonnull (tgt := 25) d_MT_give_12 (by decide) ?_
    refine x_aload_n d_MT_give_25 rfl rfl ?_
    refine x_aload_n d_MT_give_26 rfl rfl ?_
    refine x_iconst (v := 0) d_MT_give_27 (by decide) ?_
    refine x_aload_n d_MT_give_28 rfl rfl ?_
    refine x_callV (As := []) (k := k_String) rfl xcv_MT_99_String hqa (c_String_length (by omega) hS) rfl rfl (Nat.le_of_ble_eq_true rfl) d_MT_give_29 ?_
    rintro v h3 c3 n3 ⟨rfl, rfl, rfl, rfl⟩
    refine x_top (w := .int (nI (0 + t.length))) (by rw [Nat.zero_add]) ?_
    refine x_callV (As := [_, _, _]) (k := k_Name) rfl xcv_MT_102_Name (Or.inl ha1) (c_levelOf (f := 0) (m := t.length) hG (by omega) g3 hS (by omega) (by omega)) rfl rfl (Nat.le_of_ble_eq_true rfl) d_MT_give_32 ?_
    rintro v h4 c4 n4 ⟨rfl, rfl, rfl, rfl⟩
    rw [List.drop_zero, List.take_length]
    have hx := klv_lt (kd := X.2.1) hS.asc
    have hN6 : Ns.length ≤ 6 := hN1.2.2.2.1
    by_cases hz : klv X.2.1 t = 0
    · by_cases he : t = []
      · rw [if_neg (fun z => z.2 he)]
        refine x_lstore (L' := [_, _, _, _, _, _]) d_MT_give_35 rfl rfl ?_
        refine x_lload d_MT_give_37 rfl ?_
        refine x_lconst (v := 0) d_MT_give_39 (by decide) ?_
        refine x_lcmp d_MT_give_40 ?_
        refine x_if_ne (tgt := 61) d_MT_give_41 (by decide) (fun ht => absurd ((lg_cmp_eq _ _).mpr (by rw [hz]; rfl)) ht) (fun _ => ?_)
        refine x_aload_n d_MT_give_44 rfl rfl ?_
        refine x_callV (As := []) (k := k_String) rfl xcv_MT_137_String hqa (c_String_isEmpty hS (by omega)) rfl rfl (Nat.le_of_ble_eq_true rfl) d_MT_give_45 ?_
        rintro v h4 c4 n4 ⟨rfl, rfl, rfl, rfl⟩
        refine x_if_ne (tgt := 61) d_MT_give_48 (by decide) (fun _ => ?_) (fun hn => absurd hn (by rw [if_pos he]; decide))
        have f5 : ∀ w, xfr h4 (xup h4 ea w) [ea] := fun w => xfr.rf.up (Or.inl (by simp))
        obtain ⟨-, hE, -⟩ := id hL1
        refine x_aload_n d_MT_give_61 rfl rfl ?_
        refine x_get xf_MT_38_MT (Or.inl e1) rfl d_MT_give_62 ?_
        refine x_iload_n d_MT_give_65 rfl ?_
        refine x_lload d_MT_give_66 rfl ?_
        refine x_last (k := k_aenv) rfl hE (nI_pos (by omega)) (by rw [nI_clamp (by omega), List.getElem?_map, List.getElem?_range (by omega)]; rfl) d_MT_give_68 ?_
        refine x_ret2 ?_
        refine x_vret d_MT_give_69 rfl ?_
        refine ⟨fun a z => (by cases z), by omega, by omega, (f1.mono (by simp)).tr (f5 _) (fun q _ hq => by rw [List.mem_singleton] at hq; simp [hq]), rfl, ?_⟩
        rw [nI_clamp (by omega)]
        exact hM1.frE (f5 _) (xno1 hE (by decide)) (hL1.set (by omega) hx rfl)
      · rw [if_pos ⟨hz, he⟩]
        refine x_lstore (L' := [_, _, _, _, _, _]) d_MT_give_35 rfl rfl ?_
        refine x_lload d_MT_give_37 rfl ?_
        refine x_lconst (v := 0) d_MT_give_39 (by decide) ?_
        refine x_lcmp d_MT_give_40 ?_
        refine x_if_ne (tgt := 61) d_MT_give_41 (by decide) (fun ht => absurd ((lg_cmp_eq _ _).mpr (by rw [hz]; rfl)) ht) (fun _ => ?_)
        refine x_aload_n d_MT_give_44 rfl rfl ?_
        refine x_callV (As := []) (k := k_String) rfl xcv_MT_137_String hqa (c_String_isEmpty hS (by omega)) rfl rfl (Nat.le_of_ble_eq_true rfl) d_MT_give_45 ?_
        rintro v h5 c5 n5 ⟨rfl, rfl, rfl, rfl⟩
        refine x_if_ne (tgt := 61) d_MT_give_48 (by decide) (fun ht => absurd (by rw [if_neg he]) ht) (fun _ => ?_)
        refine x_throwS (k := k_IllegalArgumentException) (i := 33) (tx := "no value of the name's kind") hG.1 htr xw_1162 rfl (by decide +kernel) (by decide +kernel) (by decide) xnw_MT_76 xthr_MT_80 (by decide +kernel) (by omega) (Nat.le_of_ble_eq_true rfl) (by omega) (by omega) d_MT_give_51 d_MT_give_54 d_MT_give_55 d_MT_give_57 d_MT_give_60 (fun b hn_b hk_b => ?_)
        exact ⟨by omega, by omega, (hthr b hn_b).1, ⟨b, rfl, xup_self⟩, (hthr b hn_b).2⟩
    · rw [if_neg (fun z => hz z.1)]
      refine x_lstore (L' := [_, _, _, _, _, _]) d_MT_give_35 rfl rfl ?_
      refine x_lload d_MT_give_37 rfl ?_
      refine x_lconst (v := 0) d_MT_give_39 (by decide) ?_
      refine x_lcmp d_MT_give_40 ?_
      refine x_if_ne (tgt := 61) d_MT_give_41 (by decide) (fun _ => ?_) (fun hn => absurd hn (fun z => hz ((pk_lEQ (b := 0) hx (by decide)).mp ((lg_cmp_eq _ _).mp z))))
      have f5 : ∀ w, xfr h4 (xup h4 ea w) [ea] := fun w => xfr.rf.up (Or.inl (by simp))
      obtain ⟨-, hE, -⟩ := id hL1
      refine x_aload_n d_MT_give_61 rfl rfl ?_
      refine x_get xf_MT_38_MT (Or.inl e1) rfl d_MT_give_62 ?_
      refine x_iload_n d_MT_give_65 rfl ?_
      refine x_lload d_MT_give_66 rfl ?_
      refine x_last (k := k_aenv) rfl hE (nI_pos (by omega)) (by rw [nI_clamp (by omega), List.getElem?_map, List.getElem?_range (by omega)]; rfl) d_MT_give_68 ?_
      refine x_ret2 ?_
      refine x_vret d_MT_give_69 rfl ?_
      refine ⟨fun a z => (by cases z), by omega, by omega, (f1.mono (by simp)).tr (f5 _) (fun q _ hq => by rw [List.mem_singleton] at hq; simp [hq]), rfl, ?_⟩
      rw [nI_clamp (by omega)]
      exact hM1.frE (f5 _) (xno1 hE (by decide)) (hL1.set (by omega) hx rfl)
end MT4
