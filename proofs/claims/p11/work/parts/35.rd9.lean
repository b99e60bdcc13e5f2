section
abbrev y_Reader_readComparison : MethodName := ⟨"MarkerText$Reader", "readComparison", "(I)LMarkerText$Node;"⟩
abbrev M_Reader_readComparison : XMt := (y_Reader_readComparison, prog_10_method_6_code, 7, (some (.object "MarkerText$Node")))
theorem d_Reader_readComparison_125 : decode M_Reader_readComparison.2.1 125 = .ok (.astore 5, 2) := by decide +kernel
theorem d_Reader_readComparison_127 : decode M_Reader_readComparison.2.1 127 = .ok (.aload 5, 2) := by decide +kernel
theorem d_Reader_readComparison_129 : decode M_Reader_readComparison.2.1 129 = .ok (.ifnonnull 5, 3) := by decide +kernel
theorem d_Reader_readComparison_132 : decode M_Reader_readComparison.2.1 132 = .ok (.aconst_null, 1) := by decide +kernel
theorem d_Reader_readComparison_133 : decode M_Reader_readComparison.2.1 133 = .ok (.areturn, 1) := by decide +kernel
theorem d_Reader_readComparison_134 : decode M_Reader_readComparison.2.1 134 = .ok (.new 148, 3) := by decide +kernel
theorem xw_1012 : (Jvm.Cond.classLink "MarkerText$Reader" (148 : Nat) "MarkerText$Test") ∈ xT := xT_at 1012 (by decide +kernel) (by decide +kernel)
theorem xw_1013 : (Jvm.Cond.instantiable "MarkerText$Test" (5 : Nat)) ∈ xT := xT_at 1013 (by decide +kernel) (by decide +kernel)
theorem xnw_Reader_148 : xNw "MarkerText$Reader" 148 k_Test 5 [.int 0, .int 0, .null, .null, .int 0] := ⟨_, _, _, rfl, rfl, by decide +kernel, xw_1012, xw_1013, xw_30⟩
theorem d_Reader_readComparison_137 : decode M_Reader_readComparison.2.1 137 = .ok (.dup, 1) := by decide +kernel
theorem d_Reader_readComparison_138 : decode M_Reader_readComparison.2.1 138 = .ok (.iload_n 1, 1) := by decide +kernel
theorem d_Reader_readComparison_139 : decode M_Reader_readComparison.2.1 139 = .ok (.iload 4, 2) := by decide +kernel
theorem d_Reader_readComparison_141 : decode M_Reader_readComparison.2.1 141 = .ok (.aload 5, 2) := by decide +kernel
theorem d_Reader_readComparison_143 : decode M_Reader_readComparison.2.1 143 = .ok (.aload_n 0, 1) := by decide +kernel
theorem d_Reader_readComparison_144 : decode M_Reader_readComparison.2.1 144 = .ok (.getfield 21, 3) := by decide +kernel
theorem d_Reader_readComparison_147 : decode M_Reader_readComparison.2.1 147 = .ok (.invokevirtual 68, 3) := by decide +kernel
theorem xw_464 : (Jvm.Cond.code ({ cls := "java/lang/StringBuilder", name := "toString", desc := "()Ljava/lang/String;" } : Jvm.MethodName) prog_26_method_42_code (1 : Nat) (Option.some (Jvm.ClassFile.FieldType.object "java/lang/String"))) ∈ xT := xT_at 464 (by decide +kernel) (by decide +kernel)
theorem xcb_SB_toString : xcb M_SB_toString 0 := ⟨xw_464, xw_3, by decide, by decide, by decide, by decide +kernel⟩
theorem xw_462 : (Jvm.Cond.instanceMethod ({ cls := "java/lang/StringBuilder", name := "toString", desc := "()Ljava/lang/String;" } : Jvm.MethodName)) ∈ xT := xT_at 462 (by decide +kernel) (by decide +kernel)
theorem xw_1014 : (Jvm.Cond.methodLink "MarkerText$Reader" (68 : Nat) ({ cls := "java/lang/StringBuilder", name := "toString", desc := "()Ljava/lang/String;" } : Jvm.MethodName)) ∈ xT := xT_at 1014 (by decide +kernel) (by decide +kernel)
theorem xw_463 : (Jvm.Cond.selects "java/lang/StringBuilder" ({ cls := "java/lang/StringBuilder", name := "toString", desc := "()Ljava/lang/String;" } : Jvm.MethodName) ({ cls := "java/lang/StringBuilder", name := "toString", desc := "()Ljava/lang/String;" } : Jvm.MethodName)) ∈ xT := xT_at 463 (by decide +kernel) (by decide +kernel)
theorem xcv_Reader_68_SB : xCV "MarkerText$Reader" 68 "java/lang/StringBuilder" M_SB_toString 0 := ⟨xcb_SB_toString, xw_462, Or.inl ⟨xw_1014, Or.inl xw_463⟩⟩
theorem d_Reader_readComparison_150 : decode M_Reader_readComparison.2.1 150 = .ok (.invokespecial 160, 3) := by decide +kernel
theorem xw_1017 : (Jvm.Cond.code ({ cls := "MarkerText$Test", name := "<init>", desc := "(II[JLjava/lang/String;)V" } : Jvm.MethodName) prog_11_method_1_code (5 : Nat) (Option.none : Option Jvm.ClassFile.FieldType)) ∈ xT := xT_at 1017 (by decide +kernel) (by decide +kernel)
theorem xcb_Test_init : xcb M_Test_init 4 := ⟨xw_1017, xw_30, by decide, by decide, by decide, by decide +kernel⟩
theorem xw_1015 : (Jvm.Cond.methodLink "MarkerText$Reader" (160 : Nat) ({ cls := "MarkerText$Test", name := "<init>", desc := "(II[JLjava/lang/String;)V" } : Jvm.MethodName)) ∈ xT := xT_at 1015 (by decide +kernel) (by decide +kernel)
theorem xw_1016 : (Jvm.Cond.instanceMethod ({ cls := "MarkerText$Test", name := "<init>", desc := "(II[JLjava/lang/String;)V" } : Jvm.MethodName)) ∈ xT := xT_at 1016 (by decide +kernel) (by decide +kernel)
theorem xci_Reader_160 : xCI "MarkerText$Reader" 160 M_Test_init 4 := ⟨xcb_Test_init, rfl, rfl, xw_1016, Or.inl xw_1015⟩
theorem d_Reader_readComparison_153 : decode M_Reader_readComparison.2.1 153 = .ok (.astore 6, 2) := by decide +kernel
theorem d_Reader_readComparison_155 : decode M_Reader_readComparison.2.1 155 = .ok (.aload_n 0, 1) := by decide +kernel
theorem d_Reader_readComparison_156 : decode M_Reader_readComparison.2.1 156 = .ok (.getfield 12, 3) := by decide +kernel
theorem xw_859 : (Jvm.Cond.fieldLink "MarkerText$Reader" (12 : Nat) "MarkerText$Reader" "tests" "Ljava/util/ArrayList;") ∈ xT := xT_at 859 (by decide +kernel) (by decide +kernel)
theorem xf_Reader_12_Reader : xF "MarkerText$Reader" 12 k_Reader 2 := ⟨_, _, _, "MarkerText$Reader", rfl, by decide, Or.inl xw_859, Or.inl rfl⟩
theorem d_Reader_readComparison_159 : decode M_Reader_readComparison.2.1 159 = .ok (.aload 6, 2) := by decide +kernel
theorem d_Reader_readComparison_161 : decode M_Reader_readComparison.2.1 161 = .ok (.invokevirtual 163, 3) := by decide +kernel
theorem xw_1038 : (Jvm.Cond.code ({ cls := "java/util/ArrayList", name := "add", desc := "(Ljava/lang/Object;)Z" } : Jvm.MethodName) prog_33_method_25_code (2 : Nat) (Option.some Jvm.ClassFile.FieldType.boolean)) ∈ xT := xT_at 1038 (by decide +kernel) (by decide +kernel)
theorem xcb_AL_add_Object : xcb M_AL_add_Object 1 := ⟨xw_1038, xw_26, by decide, by decide, by decide, by decide +kernel⟩
theorem xw_1036 : (Jvm.Cond.instanceMethod ({ cls := "java/util/ArrayList", name := "add", desc := "(Ljava/lang/Object;)Z" } : Jvm.MethodName)) ∈ xT := xT_at 1036 (by decide +kernel) (by decide +kernel)
theorem xw_1035 : (Jvm.Cond.methodLink "MarkerText$Reader" (163 : Nat) ({ cls := "java/util/ArrayList", name := "add", desc := "(Ljava/lang/Object;)Z" } : Jvm.MethodName)) ∈ xT := xT_at 1035 (by decide +kernel) (by decide +kernel)
theorem xw_1037 : (Jvm.Cond.selects "java/util/ArrayList" ({ cls := "java/util/ArrayList", name := "add", desc := "(Ljava/lang/Object;)Z" } : Jvm.MethodName) ({ cls := "java/util/ArrayList", name := "add", desc := "(Ljava/lang/Object;)Z" } : Jvm.MethodName)) ∈ xT := xT_at 1037 (by decide +kernel) (by decide +kernel)
theorem xcv_Reader_163_AL : xCV "MarkerText$Reader" 163 "java/util/ArrayList" M_AL_add_Object 1 := ⟨xcb_AL_add_Object, xw_1036, Or.inl ⟨xw_1035, Or.inl xw_1037⟩⟩
theorem d_Reader_readComparison_164 : decode M_Reader_readComparison.2.1 164 = .ok (.pop, 1) := by decide +kernel
theorem d_Reader_readComparison_165 : decode M_Reader_readComparison.2.1 165 = .ok (.aload 6, 2) := by decide +kernel
theorem d_Reader_readComparison_167 : decode M_Reader_readComparison.2.1 167 = .ok (.areturn, 1) := by decide +kernel
theorem d_Reader_readComparison_0 : decode M_Reader_readComparison.2.1 0 = .ok (.iload_n 1, 1) := by decide +kernel
theorem d_Reader_readComparison_1 : decode M_Reader_readComparison.2.1 1 = .ok (.ifCond .lt 21, 3) := by decide +kernel
theorem d_Reader_readComparison_4 : decode M_Reader_readComparison.2.1 4 = .ok (.iload_n 1, 1) := by decide +kernel
theorem d_Reader_readComparison_5 : decode M_Reader_readComparison.2.1 5 = .ok (.aload_n 0, 1) := by decide +kernel
theorem d_Reader_readComparison_6 : decode M_Reader_readComparison.2.1 6 = .ok (.getfield 39, 3) := by decide +kernel
theorem xw_858 : (Jvm.Cond.fieldLink "MarkerText$Reader" (39 : Nat) "MarkerText$Reader" "names" "[LMarkerText$Name;") ∈ xT := xT_at 858 (by decide +kernel) (by decide +kernel)
theorem xf_Reader_39_Reader : xF "MarkerText$Reader" 39 k_Reader 1 := ⟨_, _, _, "MarkerText$Reader", rfl, by decide, Or.inl xw_858, Or.inl rfl⟩
theorem d_Reader_readComparison_9 : decode M_Reader_readComparison.2.1 9 = .ok (.arraylength, 1) := by decide +kernel
theorem d_Reader_readComparison_10 : decode M_Reader_readComparison.2.1 10 = .ok (.if_icmp .ge 12, 3) := by decide +kernel
theorem d_Reader_readComparison_13 : decode M_Reader_readComparison.2.1 13 = .ok (.aload_n 0, 1) := by decide +kernel
theorem d_Reader_readComparison_14 : decode M_Reader_readComparison.2.1 14 = .ok (.getfield 39, 3) := by decide +kernel
theorem d_Reader_readComparison_17 : decode M_Reader_readComparison.2.1 17 = .ok (.iload_n 1, 1) := by decide +kernel
theorem d_Reader_readComparison_18 : decode M_Reader_readComparison.2.1 18 = .ok (.aaload, 1) := by decide +kernel
theorem d_Reader_readComparison_19 : decode M_Reader_readComparison.2.1 19 = .ok (.goto 4, 3) := by decide +kernel
theorem d_Reader_readComparison_23 : decode M_Reader_readComparison.2.1 23 = .ok (.astore_n 2, 1) := by decide +kernel
theorem d_Reader_readComparison_24 : decode M_Reader_readComparison.2.1 24 = .ok (.aload_n 2, 1) := by decide +kernel
theorem d_Reader_readComparison_25 : decode M_Reader_readComparison.2.1 25 = .ok (.ifnonnull 5, 3) := by decide +kernel
theorem d_Reader_readComparison_30 : decode M_Reader_readComparison.2.1 30 = .ok (.aload_n 0, 1) := by decide +kernel
theorem d_Reader_readComparison_31 : decode M_Reader_readComparison.2.1 31 = .ok (.getfield 21, 3) := by decide +kernel
theorem d_Reader_readComparison_34 : decode M_Reader_readComparison.2.1 34 = .ok (.iconst 0, 1) := by decide +kernel
theorem d_Reader_readComparison_35 : decode M_Reader_readComparison.2.1 35 = .ok (.invokevirtual 58, 3) := by decide +kernel
theorem xw_647 : (Jvm.Cond.code ({ cls := "java/lang/StringBuilder", name := "setLength", desc := "(I)V" } : Jvm.MethodName) prog_26_method_89_code (2 : Nat) (Option.none : Option Jvm.ClassFile.FieldType)) ∈ xT := xT_at 647 (by decide +kernel) (by decide +kernel)
theorem xcb_SB_setLength : xcb M_SB_setLength 1 := ⟨xw_647, xw_3, by decide, by decide, by decide, by decide +kernel⟩
theorem xw_645 : (Jvm.Cond.instanceMethod ({ cls := "java/lang/StringBuilder", name := "setLength", desc := "(I)V" } : Jvm.MethodName)) ∈ xT := xT_at 645 (by decide +kernel) (by decide +kernel)
theorem xw_978 : (Jvm.Cond.methodLink "MarkerText$Reader" (58 : Nat) ({ cls := "java/lang/StringBuilder", name := "setLength", desc := "(I)V" } : Jvm.MethodName)) ∈ xT := xT_at 978 (by decide +kernel) (by decide +kernel)
theorem xw_646 : (Jvm.Cond.selects "java/lang/StringBuilder" ({ cls := "java/lang/StringBuilder", name := "setLength", desc := "(I)V" } : Jvm.MethodName) ({ cls := "java/lang/StringBuilder", name := "setLength", desc := "(I)V" } : Jvm.MethodName)) ∈ xT := xT_at 646 (by decide +kernel) (by decide +kernel)
theorem xcv_Reader_58_SB : xCV "MarkerText$Reader" 58 "java/lang/StringBuilder" M_SB_setLength 1 := ⟨xcb_SB_setLength, xw_645, Or.inl ⟨xw_978, Or.inl xw_646⟩⟩
theorem d_Reader_readComparison_38 : decode M_Reader_readComparison.2.1 38 = .ok (.aload_n 0, 1) := by decide +kernel
theorem d_Reader_readComparison_39 : decode M_Reader_readComparison.2.1 39 = .ok (.getfield 21, 3) := by decide +kernel
theorem d_Reader_readComparison_42 : decode M_Reader_readComparison.2.1 42 = .ok (.aload_n 2, 1) := by decide +kernel
theorem d_Reader_readComparison_43 : decode M_Reader_readComparison.2.1 43 = .ok (.getfield 134, 3) := by decide +kernel
theorem xw_720 : (Jvm.Cond.fieldLinkNest "MarkerText$Reader" (134 : Nat) "MarkerText$Name" "spelling" "Ljava/lang/String;" "MarkerText") ∈ xT := xT_at 720 (by decide +kernel) (by decide +kernel)
theorem xf_Reader_134_Name : xF "MarkerText$Reader" 134 k_Name 0 := ⟨_, _, _, "MarkerText$Name", rfl, by decide, Or.inr ⟨_, xw_720⟩, Or.inl rfl⟩
theorem d_Reader_readComparison_46 : decode M_Reader_readComparison.2.1 46 = .ok (.invokevirtual 139, 3) := by decide +kernel
theorem d_Reader_readComparison_49 : decode M_Reader_readComparison.2.1 49 = .ok (.bipush 32, 2) := by decide +kernel
theorem d_Reader_readComparison_51 : decode M_Reader_readComparison.2.1 51 = .ok (.invokevirtual 143, 3) := by decide +kernel
theorem d_Reader_readComparison_54 : decode M_Reader_readComparison.2.1 54 = .ok (.pop, 1) := by decide +kernel
theorem d_Reader_readComparison_55 : decode M_Reader_readComparison.2.1 55 = .ok (.aload_n 0, 1) := by decide +kernel
theorem d_Reader_readComparison_56 : decode M_Reader_readComparison.2.1 56 = .ok (.ldc 146, 2) := by decide +kernel
theorem d_Reader_readComparison_58 : decode M_Reader_readComparison.2.1 58 = .ok (.invokevirtual 83, 3) := by decide +kernel
theorem xw_985 : (Jvm.Cond.code ({ cls := "MarkerText$Reader", name := "takesWord", desc := "(Ljava/lang/String;)Z" } : Jvm.MethodName) prog_10_method_14_code (2 : Nat) (Option.some Jvm.ClassFile.FieldType.boolean)) ∈ xT := xT_at 985 (by decide +kernel) (by decide +kernel)
theorem xcb_Reader_takesWord : xcb M_Reader_takesWord 1 := ⟨xw_985, xw_23, by decide, by decide, by decide, by decide +kernel⟩
theorem xw_984 : (Jvm.Cond.instanceMethod ({ cls := "MarkerText$Reader", name := "takesWord", desc := "(Ljava/lang/String;)Z" } : Jvm.MethodName)) ∈ xT := xT_at 984 (by decide +kernel) (by decide +kernel)
theorem xw_982 : (Jvm.Cond.methodLink "MarkerText$Reader" (83 : Nat) ({ cls := "MarkerText$Reader", name := "takesWord", desc := "(Ljava/lang/String;)Z" } : Jvm.MethodName)) ∈ xT := xT_at 982 (by decide +kernel) (by decide +kernel)
theorem xsel_Reader_takesWord : Cond.selects "MarkerText$Reader" y_Reader_takesWord y_Reader_takesWord ∈ xT := xT_sel (q := (y_Reader_takesWord, 7)) (by decide +kernel) (by decide +kernel)
theorem xcv_Reader_83_Reader : xCV "MarkerText$Reader" 83 "MarkerText$Reader" M_Reader_takesWord 1 := ⟨xcb_Reader_takesWord, xw_984, Or.inl ⟨xw_982, Or.inl xsel_Reader_takesWord⟩⟩
theorem d_Reader_readComparison_61 : decode M_Reader_readComparison.2.1 61 = .ok (.istore_n 3, 1) := by decide +kernel
theorem d_Reader_readComparison_62 : decode M_Reader_readComparison.2.1 62 = .ok (.iload_n 3, 1) := by decide +kernel
theorem d_Reader_readComparison_63 : decode M_Reader_readComparison.2.1 63 = .ok (.ifCond .eq 7, 3) := by decide +kernel
theorem d_Reader_readComparison_66 : decode M_Reader_readComparison.2.1 66 = .ok (.iconst 2, 1) := by decide +kernel
theorem d_Reader_readComparison_67 : decode M_Reader_readComparison.2.1 67 = .ok (.goto 7, 3) := by decide +kernel
theorem d_Reader_readComparison_74 : decode M_Reader_readComparison.2.1 74 = .ok (.istore 4, 2) := by decide +kernel
theorem d_Reader_readComparison_76 : decode M_Reader_readComparison.2.1 76 = .ok (.iload 4, 2) := by decide +kernel
theorem d_Reader_readComparison_78 : decode M_Reader_readComparison.2.1 78 = .ok (.iconst (-1), 1) := by decide +kernel
theorem d_Reader_readComparison_79 : decode M_Reader_readComparison.2.1 79 = .ok (.if_icmp .ne 5, 3) := by decide +kernel
theorem d_Reader_readComparison_84 : decode M_Reader_readComparison.2.1 84 = .ok (.iload_n 3, 1) := by decide +kernel
theorem d_Reader_readComparison_85 : decode M_Reader_readComparison.2.1 85 = .ok (.ifCond .eq 13, 3) := by decide +kernel
theorem d_Reader_readComparison_88 : decode M_Reader_readComparison.2.1 88 = .ok (.aload_n 0, 1) := by decide +kernel
theorem d_Reader_readComparison_89 : decode M_Reader_readComparison.2.1 89 = .ok (.getfield 21, 3) := by decide +kernel
theorem d_Reader_readComparison_92 : decode M_Reader_readComparison.2.1 92 = .ok (.ldc 146, 2) := by decide +kernel
theorem d_Reader_readComparison_94 : decode M_Reader_readComparison.2.1 94 = .ok (.invokevirtual 139, 3) := by decide +kernel
theorem d_Reader_readComparison_97 : decode M_Reader_readComparison.2.1 97 = .ok (.pop, 1) := by decide +kernel
theorem d_Reader_readComparison_98 : decode M_Reader_readComparison.2.1 98 = .ok (.aload_n 0, 1) := by decide +kernel
theorem d_Reader_readComparison_99 : decode M_Reader_readComparison.2.1 99 = .ok (.getfield 21, 3) := by decide +kernel
theorem d_Reader_readComparison_102 : decode M_Reader_readComparison.2.1 102 = .ok (.bipush 32, 2) := by decide +kernel
theorem d_Reader_readComparison_104 : decode M_Reader_readComparison.2.1 104 = .ok (.invokevirtual 143, 3) := by decide +kernel
theorem d_Reader_readComparison_107 : decode M_Reader_readComparison.2.1 107 = .ok (.pop, 1) := by decide +kernel
theorem d_Reader_readComparison_108 : decode M_Reader_readComparison.2.1 108 = .ok (.iload_n 3, 1) := by decide +kernel
theorem d_Reader_readComparison_109 : decode M_Reader_readComparison.2.1 109 = .ok (.ifCond .eq 11, 3) := by decide +kernel
theorem d_Reader_readComparison_112 : decode M_Reader_readComparison.2.1 112 = .ok (.aload_n 0, 1) := by decide +kernel
theorem d_Reader_readComparison_113 : decode M_Reader_readComparison.2.1 113 = .ok (.aload_n 2, 1) := by decide +kernel
theorem d_Reader_readComparison_114 : decode M_Reader_readComparison.2.1 114 = .ok (.invokevirtual 153, 3) := by decide +kernel
theorem xw_993 : (Jvm.Cond.code ({ cls := "MarkerText$Reader", name := "readList", desc := "(LMarkerText$Name;)[J" } : Jvm.MethodName) prog_10_method_9_code (4 : Nat) (Option.some (Jvm.ClassFile.FieldType.array Jvm.ClassFile.FieldType.long))) ∈ xT := xT_at 993 (by decide +kernel) (by decide +kernel)
theorem xcb_Reader_readList : xcb M_Reader_readList 1 := ⟨xw_993, xw_23, by decide, by decide, by decide, by decide +kernel⟩
theorem xw_992 : (Jvm.Cond.instanceMethod ({ cls := "MarkerText$Reader", name := "readList", desc := "(LMarkerText$Name;)[J" } : Jvm.MethodName)) ∈ xT := xT_at 992 (by decide +kernel) (by decide +kernel)
theorem xw_990 : (Jvm.Cond.methodLink "MarkerText$Reader" (153 : Nat) ({ cls := "MarkerText$Reader", name := "readList", desc := "(LMarkerText$Name;)[J" } : Jvm.MethodName)) ∈ xT := xT_at 990 (by decide +kernel) (by decide +kernel)
theorem xsel_Reader_readList : Cond.selects "MarkerText$Reader" y_Reader_readList y_Reader_readList ∈ xT := xT_sel (q := (y_Reader_readList, 7)) (by decide +kernel) (by decide +kernel)
theorem xcv_Reader_153_Reader : xCV "MarkerText$Reader" 153 "MarkerText$Reader" M_Reader_readList 1 := ⟨xcb_Reader_readList, xw_992, Or.inl ⟨xw_990, Or.inl xsel_Reader_readList⟩⟩
theorem d_Reader_readComparison_117 : decode M_Reader_readComparison.2.1 117 = .ok (.goto 8, 3) := by decide +kernel
theorem d_Reader_readComparison_70 : decode M_Reader_readComparison.2.1 70 = .ok (.aload_n 0, 1) := by decide +kernel
theorem d_Reader_readComparison_71 : decode M_Reader_readComparison.2.1 71 = .ok (.invokevirtual 150, 3) := by decide +kernel
theorem xw_989 : (Jvm.Cond.code ({ cls := "MarkerText$Reader", name := "readOperator", desc := "()I" } : Jvm.MethodName) prog_10_method_7_code (4 : Nat) (Option.some Jvm.ClassFile.FieldType.int)) ∈ xT := xT_at 989 (by decide +kernel) (by decide +kernel)
theorem xcb_Reader_readOperator : xcb M_Reader_readOperator 0 := ⟨xw_989, xw_23, by decide, by decide, by decide, by decide +kernel⟩
theorem xw_988 : (Jvm.Cond.instanceMethod ({ cls := "MarkerText$Reader", name := "readOperator", desc := "()I" } : Jvm.MethodName)) ∈ xT := xT_at 988 (by decide +kernel) (by decide +kernel)
theorem xw_986 : (Jvm.Cond.methodLink "MarkerText$Reader" (150 : Nat) ({ cls := "MarkerText$Reader", name := "readOperator", desc := "()I" } : Jvm.MethodName)) ∈ xT := xT_at 986 (by decide +kernel) (by decide +kernel)
theorem xsel_Reader_readOperator : Cond.selects "MarkerText$Reader" y_Reader_readOperator y_Reader_readOperator ∈ xT := xT_sel (q := (y_Reader_readOperator, 7)) (by decide +kernel) (by decide +kernel)
theorem xcv_Reader_150_Reader : xCV "MarkerText$Reader" 150 "MarkerText$Reader" M_Reader_readOperator 0 := ⟨xcb_Reader_readOperator, xw_988, Or.inl ⟨xw_986, Or.inl xsel_Reader_readOperator⟩⟩
theorem d_Reader_readComparison_82 : decode M_Reader_readComparison.2.1 82 = .ok (.aconst_null, 1) := by decide +kernel
theorem d_Reader_readComparison_83 : decode M_Reader_readComparison.2.1 83 = .ok (.areturn, 1) := by decide +kernel
theorem d_Reader_readComparison_120 : decode M_Reader_readComparison.2.1 120 = .ok (.aload_n 0, 1) := by decide +kernel
theorem d_Reader_readComparison_121 : decode M_Reader_readComparison.2.1 121 = .ok (.aload_n 2, 1) := by decide +kernel
theorem d_Reader_readComparison_122 : decode M_Reader_readComparison.2.1 122 = .ok (.invokevirtual 157, 3) := by decide +kernel
theorem xw_1011 : (Jvm.Cond.code ({ cls := "MarkerText$Reader", name := "readSingle", desc := "(LMarkerText$Name;)[J" } : Jvm.MethodName) prog_10_method_8_code (5 : Nat) (Option.some (Jvm.ClassFile.FieldType.array Jvm.ClassFile.FieldType.long))) ∈ xT := xT_at 1011 (by decide +kernel) (by decide +kernel)
theorem xcb_Reader_readSingle : xcb M_Reader_readSingle 1 := ⟨xw_1011, xw_23, by decide, by decide, by decide, by decide +kernel⟩
theorem xw_1010 : (Jvm.Cond.instanceMethod ({ cls := "MarkerText$Reader", name := "readSingle", desc := "(LMarkerText$Name;)[J" } : Jvm.MethodName)) ∈ xT := xT_at 1010 (by decide +kernel) (by decide +kernel)
theorem xw_1008 : (Jvm.Cond.methodLink "MarkerText$Reader" (157 : Nat) ({ cls := "MarkerText$Reader", name := "readSingle", desc := "(LMarkerText$Name;)[J" } : Jvm.MethodName)) ∈ xT := xT_at 1008 (by decide +kernel) (by decide +kernel)
theorem xsel_Reader_readSingle : Cond.selects "MarkerText$Reader" y_Reader_readSingle y_Reader_readSingle ∈ xT := xT_sel (q := (y_Reader_readSingle, 7)) (by decide +kernel) (by decide +kernel)
theorem xcv_Reader_157_Reader : xCV "MarkerText$Reader" 157 "MarkerText$Reader" M_Reader_readSingle 1 := ⟨xcb_Reader_readSingle, xw_1010, Or.inl ⟨xw_1008, Or.inl xsel_Reader_readSingle⟩⟩
end
section RD9
variable {l : Launch} {G : XG} {h : XH} {c n d : Nat}
theorem c_readComparison (hG : xGk G) (hd : 10 ≤ d) {K r ta na la ba ea va p o tc m k kd : Nat} {t as kas es ln w ks : List Nat} {Ns : List NmT} {ts : List TsT} (hR : isRd G h r ta na la ba t as kas Ns ea va p o tc es ts ln m) (hl : t.length < 2 ^ 12) (hp : p ≤ t.length) (hk : Ns[k]? = some (w, kd, ks)) (h60 : es.length ≤ 60) (hK : K < 2 ^ 16) (hK2 : 4 * t.length + 60 ≤ K) (hm : m ≤ K) (hc : c + K + 20 ≤ xCB + m) (hn : n + 2 * K + (9 * t.length + 200) ≤ xSB + 2 * m) :
    XM l G d M_Reader_readComparison [.ref r, .int (nI k)] h c n (pX G 20 (9 * t.length + 200) K r ta na la ba t as kas Ns ea va (rcm t k w kd p).1 o tc ts m h c n (rcm t k w kd p).2) := by
  obtain ⟨d, rfl⟩ : ∃ q, d = q + 1 := ⟨d - 1, by omega⟩
  obtain ⟨hr, hS, hNs, hLi, hT, hB⟩ := id hR
  obtain ⟨hna, e1, e2, e3, -, -, hx⟩ := id hNs
  have hkl : k < Ns.length := (List.getElem?_eq_some_iff.mp hk).1
  have hka : k < as.length := by omega
  have hkk : k < kas.length := by omega
  obtain ⟨oa, hoa⟩ : ∃ oa, as[k]? = some oa := ⟨_, List.getElem?_eq_getElem hka⟩
  obtain ⟨ka, hkas⟩ : ∃ ka, kas[k]? = some ka := ⟨_, List.getElem?_eq_getElem hkk⟩
  obtain ⟨hN, hw8⟩ := hx k _ oa ka hk hoa hkas
  have hw8 : w.length ≤ 8 := hw8
  have hN : isN G h oa ka w kd ks := hN
  have hlen6 : (as.map (Value.ref ·) ++ List.replicate (6 - as.length) Value.null).length = 6 := by simp; omega
  have hat : (as.map (Value.ref ·) ++ List.replicate (6 - as.length) Value.null)[(nI k).toNatClampNeg]? = some (.ref oa) := by
    rw [nI_clamp (by omega), List.getElem?_append_left (by simpa using hka), List.getElem?_map, hoa]
    rfl
  have hkr : xno h [r, ba, va] kRd := hB.kR hr (by decide) (by decide) (by decide)
  have hSf : ∀ {h1 : XH}, xfr h h1 [r, ba, va] → isS G h1 ta t := fun f => hS.fr f (hkr.sub (by decide))
  have hNf : ∀ {h1 : XH}, xfr h h1 [r, ba, va] → isN G h1 oa ka w kd ks := fun f => by
    obtain ⟨sa, y1, -, y3, -⟩ := id hN
    exact hN.fr f (hkr.sub (by decide)) (hkr.at y1 (by decide)) (hkr.at y3 (by decide))
  -- once the VALUES are read
  have tail : ∀ (h1 : XH) (c1 n1 C1 N1 p1 acc : Nat) (ln1 : List Nat) (ous : Option (List Nat)) (v : Value) (e3 e5 e6 : Option Value), pR C1 N1 K r ba va (rdO ta na la ba p1 o tc) ln1 m h c n h1 c1 n1 → pVs h h1 (some v) ous → (∀ us, ous = some us → us.length ≤ 6 ∧ ∀ x ∈ us, x < 2 ^ 63) → acc < 16 → ln1.length ≤ 2 * t.length + 20 → C1 ≤ 16 → N1 ≤ 7 * t.length + 60 →
      XW l G M_Reader_readComparison (d + 1) 125 [some (.ref r), some (.int (nI k)), some (.ref oa), e3, some (.int (nI acc)), e5, e6] [v] h1 c1 n1 (pX G 20 (9 * t.length + 200) K r ta na la ba t as kas Ns ea va p1 o tc ts m h c n (ous.map (fun us => (k, acc, us, ln1)))) := by
    intro h1 c1 n1 C1 N1 p1 acc ln1 ous v e3 e5 e6 q1 q2 q3 q4 q5 q6 q7
    obtain ⟨va1, m1, r1, b1, f1, w1, g1⟩ := id q1
    cases ous with
    | none =>
      cases q2
      refine x_astore (L' := [_, _, _, _, _, _, _]) d_Reader_readComparison_125 rfl rfl rfl ?_
      refine x_aload d_Reader_readComparison_127 rfl rfl ?_
      refine x_ifnonnullN d_Reader_readComparison_129 ?_
      refine x_null d_Reader_readComparison_132 ?_
      refine x_aret d_Reader_readComparison_133 rfl rfl ?_
      exact ⟨rfl, pT.ofR hR (q1.mono (by omega) (by omega))⟩
    | some us =>
      obtain ⟨q, hv, hq, hq1⟩ := q2
      cases hv
      obtain ⟨q3, q3'⟩ := q3 us rfl
      obtain ⟨z1, bs1, hb1, -⟩ := id b1
      refine x_astore (L' := [_, _, _, _, _, _, _]) d_Reader_readComparison_125 rfl rfl rfl ?_
      refine x_aload d_Reader_readComparison_127 rfl rfl ?_
      refine x_ifnonnull (tgt := 134) d_Reader_readComparison_129 (by decide) ?_
      refine x_new xnw_Reader_148 (by omega) (by omega) d_Reader_readComparison_134 (fun x hn_x hk_x => ?_)
      have hb1' : xup h1 x (k_Test, [.int 0, .int 0, .null, .null, .int 0]) ba = some (k_StringBuilder, _) := xup_old hb1 hn_x
      have r1' : xup h1 x (k_Test, [.int 0, .int 0, .null, .null, .int 0]) r = some (rdO ta na la ba p1 o tc) := xup_old r1 hn_x
      refine x_dup d_Reader_readComparison_137 rfl ?_
      refine x_iload_n d_Reader_readComparison_138 rfl ?_
      refine x_iload d_Reader_readComparison_139 rfl ?_
      refine x_aload d_Reader_readComparison_141 rfl rfl ?_
      refine x_aload_n d_Reader_readComparison_143 rfl rfl ?_
      refine x_get xf_Reader_21_Reader (Or.inl r1') rfl d_Reader_readComparison_144 ?_
      refine x_callV (As := []) (k := k_StringBuilder) rfl xcv_Reader_68_SB (Or.inl hb1') (c_SB_toString (by omega) (b1.up hn_x) (by omega) (by omega) (by omega)) rfl rfl (Nat.le_of_ble_eq_true rfl) d_Reader_readComparison_147 ?_
      rintro v h2 c2 n2 ⟨sa, rfl, s2, f2, k2, k2'⟩
      have hx2 := f2.1 _ _ (xup_self : xup h1 x (k_Test, [.int 0, .int 0, .null, .null, .int 0]) x = _) (by simp)
      refine x_callI (As := [_, _, _, _]) xci_Reader_160 (c_Test_init (by omega) hx2) rfl rfl (Nat.le_of_ble_eq_true rfl) d_Reader_readComparison_150 ?_
      rintro v h3 c3 n3 ⟨rfl, rfl, rfl, rfl⟩
      have f13 : xfr h1 (xup h2 x (k_Test, [.int (nI k), .int (nI acc), .ref q, .ref sa, .int 3])) [] := ((xfr.rf.up (Or.inr hn_x) : xfr h1 (xup h1 x _) []).tr f2 (fun _ _ z => by cases z)).up (Or.inr hn_x)
      have hT3 : isTs G (xup h2 x (k_Test, [.int (nI k), .int (nI acc), .ref q, .ref sa, .int 3])) x (k, acc, us, ln1) := ⟨q, sa, xup_self, f13.1 _ _ hq1 (by simp), s2.upR hx2 (by decide), (by show k < 6; omega), q4, q3', q3⟩
      have q3r := pR.tr r1 b1 f1 w1 g1 (pR.ofN (C := 3) (N := ln1.length + 9) (c := c1) (n := n1) (c' := c3) (n' := n3) r1 b1 g1.2.1 f13 (by omega) (by omega))
      revert hT3 q3r
      generalize xup h2 x (k_Test, [.int (nI k), .int (nI acc), .ref q, .ref sa, .int 3]) = h4
      intro hT3 q3r
      obtain ⟨va4, m4, R4, f4, w4, g4⟩ := hR.ofR q3r
      obtain ⟨hr4, hS4, hNs4, hL4, hT4, hB4⟩ := id R4
      obtain ⟨mc4, hla4, -⟩ := id hL4
      obtain ⟨vx, sx, hx4, -⟩ := id hT3
      refine x_wf fun hwf => ?_
      refine x_astore (L' := [_, _, _, _, _, _, _]) d_Reader_readComparison_153 rfl rfl rfl ?_
      refine x_aload_n d_Reader_readComparison_155 rfl rfl ?_
      refine x_get xf_Reader_12_Reader (Or.inl hr4) rfl d_Reader_readComparison_156 ?_
      refine x_aload d_Reader_readComparison_159 rfl rfl ?_
      refine x_callV (As := [_]) (k := k_ArrayList) rfl xcv_Reader_163_AL (Or.inl hla4) (c_AL_add hG (by omega) hL4 (Or.inl hx4) hT4.el h60 (by omega) (by omega)) rfl rfl (Nat.le_of_ble_eq_true rfl) d_Reader_readComparison_161 ?_
      rintro v h5 c5 n5 ⟨rfl, ea5, y1, y2, y3, y4, y5⟩
      refine x_pop d_Reader_readComparison_164 rfl ?_
      refine x_aload d_Reader_readComparison_165 rfl rfl ?_
      refine x_aret d_Reader_readComparison_167 rfl rfl ?_
      have hk5 : xno h4 [la, ea] [k_aName, k_Name, k_aknown, k_String, k_asbyte, k_Test, k_Join, k_Negation, k_Constant, k_avals, k_Reader, k_StringBuilder, k_abyte] := hL4.kn hG hwf (by decide) (by decide)
      obtain ⟨z4, bs4, hb4, hv4, -⟩ := id hB4
      refine ⟨x, rfl, f1.2 _ hn_x, hT3.fr y2 (hk5.sub (by decide)), ea5, va4, es ++ [x], ln1, m4, ⟨y2.1 _ _ hr4 (hk5.at hr4 (by decide)), hS4.fr y2 (hk5.sub (by decide)), hNs4.fr y2 (hk5.sub (by decide)), y1, (hT4.fr y2 (hk5.sub (by decide))).push (hT3.fr y2 (hk5.sub (by decide))), hB4.fr y2 (hk5.at hb4 (by decide)) (hk5.at hv4 (by decide))⟩, (f4.mono (by simp)).tr (y2.mono (F' := [r, la, ea, ba, va]) (by simp)) (fun _ _ z => z), ?_, w4, by omega⟩
      exact y3.imp id (fun z => f4.2 _ z)
  have hskp := skp_le hp
  have htkw : tkW t p (xtx 22) ≤ t.length := tkW_le hp
  obtain ⟨sw, hoa1, hsw, -⟩ := id hN
  obtain ⟨z, bs, hba, -⟩ := id hB
  refine XM.of (by decide +kernel) (Nat.le_of_ble_eq_true rfl) ?_
  refine x_iload_n d_Reader_readComparison_0 rfl ?_
  refine x_if_lt (tgt := 22) d_Reader_readComparison_1 (by decide) (fun ht => absurd ht (nI_pos (by omega))) (fun _ => ?_)
  refine x_iload_n d_Reader_readComparison_4 rfl ?_
  refine x_aload_n d_Reader_readComparison_5 rfl rfl ?_
  refine x_get xf_Reader_39_Reader (Or.inl hr) rfl d_Reader_readComparison_6 ?_
  refine x_alen (k := k_aName) rfl (Or.inl hna) (v := nI 6) (by rw [hlen6]; rfl) d_Reader_readComparison_9 ?_
  refine x_icmp_ge (tgt := 22) d_Reader_readComparison_10 (by decide) (fun ht => absurd ht (nI_ge (b := 6) (by omega) (by omega))) (fun _ => ?_)
  refine x_aload_n d_Reader_readComparison_13 rfl rfl ?_
  refine x_get xf_Reader_39_Reader (Or.inl hr) rfl d_Reader_readComparison_14 ?_
  refine x_iload_n d_Reader_readComparison_17 rfl ?_
  refine x_aald (k := k_aName) rfl rfl (Or.inl hna) (nI_pos (by omega)) hat d_Reader_readComparison_18 ?_
  refine x_goto (tgt := 23) d_Reader_readComparison_19 (by decide) ?_
  refine x_astore_n (L' := [_, _, _, _, _, _, _]) d_Reader_readComparison_23 rfl rfl rfl ?_
  refine x_aload_n d_Reader_readComparison_24 rfl rfl ?_
  refine x_ifnonnull (tgt := 30) d_Reader_readComparison_25 (by decide) ?_
  refine x_aload_n d_Reader_readComparison_30 rfl rfl ?_
  refine x_get xf_Reader_21_Reader (Or.inl hr) rfl d_Reader_readComparison_31 ?_
  refine x_iconst (v := 0) d_Reader_readComparison_34 (by decide) ?_
  refine x_callV (As := [_]) (k := k_StringBuilder) rfl xcv_Reader_58_SB (Or.inl hba) (c_SB_setLength0 (by omega) hB (by omega)) rfl rfl (Nat.le_of_ble_eq_true rfl) d_Reader_readComparison_35 ?_
  rintro v h1 c1 n1 ⟨rfl, y1, y2, rfl, rfl⟩
  obtain ⟨va1, m1, r1, b1, f1, w1, g1⟩ := pR.ofS (K := K) (c := c1) (n := n1) hr hB hm y1 y2
  obtain ⟨z1, bs1, hb1, -⟩ := id b1
  obtain ⟨sw1, hoa1, hsw1, -⟩ := hNf f1
  refine x_aload_n d_Reader_readComparison_38 rfl rfl ?_
  refine x_get xf_Reader_21_Reader (Or.inl r1) rfl d_Reader_readComparison_39 ?_
  refine x_aload_n d_Reader_readComparison_42 rfl rfl ?_
  refine x_get xf_Reader_134_Name (Or.inl hoa1) rfl d_Reader_readComparison_43 ?_
  refine x_callV (As := [_]) (k := k_StringBuilder) rfl xcv_Reader_139_SB (Or.inl hb1) (c_SB_append_S (K := K) (by omega) b1 hsw1 hK g1.2.1 (by simp; omega) (by omega) (by omega)) rfl rfl (Nat.le_of_ble_eq_true rfl) d_Reader_readComparison_46 ?_
  rintro v h2 c2 n2 ⟨rfl, p2⟩
  obtain ⟨va2, m2, r2, b2, f2, w2, g2⟩ := pR.tr r1 b1 f1 w1 g1 (pR.ofB r1 b1 p2)
  rw [List.nil_append] at b2
  obtain ⟨z2, bs2, hb2, -⟩ := id b2
  refine x_bipush (v := 32) d_Reader_readComparison_49 (by decide) ?_
  refine x_callV (As := [_]) (k := k_StringBuilder) rfl xcv_Reader_143_SB (Or.inl hb2) (c_SB_append_C (K := K) (ch := 32) (by omega) b2 (by decide) hK g2.2.1 (by omega) (by omega) (by omega)) rfl rfl (Nat.le_of_ble_eq_true rfl) d_Reader_readComparison_51 ?_
  rintro v h3 c3 n3 ⟨rfl, p3⟩
  obtain ⟨va3, m3, r3, b3, f3, w3, g3⟩ := pR.tr r2 b2 f2 w2 g2 (pR.ofB r2 b2 p3)
  refine x_pop d_Reader_readComparison_54 rfl ?_
  refine x_aload_n d_Reader_readComparison_55 rfl rfl ?_
  refine x_ldcS (i := 22) (tx := "in") (by decide +kernel) d_Reader_readComparison_56 ?_
  refine x_callV (As := [_]) (k := k_Reader) rfl xcv_Reader_83_Reader (Or.inl r3) (c_takesWord hG (by omega) r3 (hSf f3) (by omega) hp (hG.str (by decide)) (by decide) (by omega) (by omega)) rfl rfl (Nat.le_of_ble_eq_true rfl) d_Reader_readComparison_58 ?_
  rintro v h4 c4 n4 ⟨rfl, r4, f4, k4, k4'⟩
  have hne3 := b3.neR r3
  simp only [List.mem_cons, List.not_mem_nil, or_false, not_or] at hne3
  have b4 : isB h4 ba va3 (w ++ [32]) m3 := b3.fr f4 (by simpa using Ne.symm hne3.1) (by simpa using Ne.symm hne3.2)
  obtain ⟨va4, m4, r4, b4, f4, w4, g4⟩ := pR.tr r3 b3 f3 w3 g3 (⟨va3, m3, r4, b4, f4.mono (by simp), Or.inl rfl, by omega⟩ : pR 2 (t.length + 4) K r ba va3 (rdO ta na la ba (tkW t p (xtx 22)) o tc) (w ++ [32]) m3 h3 c3 n3 h4 c4 n4)
  by_cases hin : wrd t (skp t p) = xtx 22
  · have hrc : rcm t k w kd p = ((rlist t kd (tkW t p (xtx 22))).1, (rlist t kd (tkW t p (xtx 22))).2.1.map (fun us => (k, 2, us, (((w ++ [32]) ++ xtx 22) ++ [32]) ++ (rlist t kd (tkW t p (xtx 22))).2.2))) := if_pos hin
    rw [hrc]
    obtain ⟨l1, l2⟩ := rlist_le (kd := kd) htkw
    obtain ⟨z4, bs4, hb4, -⟩ := id b4
    have hinl : (xtx 22).length = 2 := rfl
    refine x_istore_n (L' := [_, _, _, _, _, _, _]) d_Reader_readComparison_61 rfl rfl ?_
    refine x_iload_n d_Reader_readComparison_62 rfl ?_
    refine x_if_eq (tgt := 70) d_Reader_readComparison_63 (by decide) (fun ht => absurd ht (by rw [decide_eq_true hin]; decide)) (fun _ => ?_)
    refine x_iconst (v := 2) d_Reader_readComparison_66 (by decide) ?_
    refine x_goto (tgt := 74) d_Reader_readComparison_67 (by decide) ?_
    refine x_istore (L' := [_, _, _, _, _, _, _]) d_Reader_readComparison_74 rfl rfl ?_
    refine x_iload d_Reader_readComparison_76 rfl ?_
    refine x_iconst (v := (-1)) d_Reader_readComparison_78 (by decide) ?_
    refine x_icmp_ne (tgt := 84) d_Reader_readComparison_79 (by decide) (fun _ => ?_) (fun hn => absurd hn (by decide))
    refine x_iload_n d_Reader_readComparison_84 rfl ?_
    refine x_if_eq (tgt := 98) d_Reader_readComparison_85 (by decide) (fun ht => absurd ht (by rw [decide_eq_true hin]; decide)) (fun _ => ?_)
    refine x_aload_n d_Reader_readComparison_88 rfl rfl ?_
    refine x_get xf_Reader_21_Reader (Or.inl r4) rfl d_Reader_readComparison_89 ?_
    refine x_ldcS (i := 22) (tx := "in") (by decide +kernel) d_Reader_readComparison_92 ?_
    refine x_callV (As := [_]) (k := k_StringBuilder) rfl xcv_Reader_139_SB (Or.inl hb4) (c_SB_append_S (K := K) (by omega) b4 (hG.str (by decide)) hK g4.2.1 (by simp; omega) (by omega) (by omega)) rfl rfl (Nat.le_of_ble_eq_true rfl) d_Reader_readComparison_94 ?_
    rintro v h5 c5 n5 ⟨rfl, p5⟩
    obtain ⟨va5, m5, r5, b5, f5, w5, g5⟩ := pR.tr r4 b4 f4 w4 g4 (pR.ofB r4 b4 p5)
    obtain ⟨z5, bs5, hb5, -⟩ := id b5
    refine x_pop d_Reader_readComparison_97 rfl ?_
    refine x_aload_n d_Reader_readComparison_98 rfl rfl ?_
    refine x_get xf_Reader_21_Reader (Or.inl r5) rfl d_Reader_readComparison_99 ?_
    refine x_bipush (v := 32) d_Reader_readComparison_102 (by decide) ?_
    refine x_callV (As := [_]) (k := k_StringBuilder) rfl xcv_Reader_143_SB (Or.inl hb5) (c_SB_append_C (K := K) (ch := 32) (by omega) b5 (by decide) hK g5.2.1 (by simp; omega) (by omega) (by omega)) rfl rfl (Nat.le_of_ble_eq_true rfl) d_Reader_readComparison_104 ?_
    rintro v h6 c6 n6 ⟨rfl, p6⟩
    obtain ⟨va6, m6, r6, b6, f6, w6, g6⟩ := pR.tr r5 b5 f5 w5 g5 (pR.ofB r5 b5 p6)
    have hlb : (((w ++ [32]) ++ xtx 22) ++ [32]).length = w.length + 4 := by simp [hinl]
    refine x_pop d_Reader_readComparison_107 rfl ?_
    refine x_iload_n d_Reader_readComparison_108 rfl ?_
    refine x_if_eq (tgt := 120) d_Reader_readComparison_109 (by decide) (fun ht => absurd ht (by rw [decide_eq_true hin]; decide)) (fun _ => ?_)
    refine x_aload_n d_Reader_readComparison_112 rfl rfl ?_
    refine x_aload_n d_Reader_readComparison_113 rfl rfl ?_
    refine x_callV (As := [_]) (k := k_Reader) rfl xcv_Reader_153_Reader (Or.inl r6) (c_readList (K := K) hG (by omega) r6 (hSf f6) (by omega) htkw b6 (hNf f6) hK g6.2.1 (by omega) (by omega) (by omega)) rfl rfl (Nat.le_of_ble_eq_true rfl) d_Reader_readComparison_114 ?_
    rintro v h7 c7 n7 ⟨pv, p7⟩
    have p8 := pR.tr r6 b6 f6 w6 g6 p7
    have pv' : pVs h h7 v (rlist t kd (tkW t p (xtx 22))).2.1 := by
      cases hq : (rlist t kd (tkW t p (xtx 22))).2.1 with
      | none => rw [hq] at pv; exact pv
      | some us =>
        rw [hq] at pv
        obtain ⟨q, q1, q2, q3⟩ := pv
        exact ⟨q, q1, f6.2 _ q2, q3⟩
    have hok := fun us => rlist_ok (kd := kd) (p := tkW t p (xtx 22)) (vs := us) hS.asc
    have : ∃ v', v = some v' := by
      cases hq : (rlist t kd (tkW t p (xtx 22))).2.1 with
      | none => rw [hq] at pv'; exact ⟨_, pv'⟩
      | some us =>
        rw [hq] at pv'
        obtain ⟨q, q1, -⟩ := pv'
        exact ⟨_, q1⟩
    obtain ⟨v', rfl⟩ := this
    refine x_goto (tgt := 125) d_Reader_readComparison_117 (by decide) ?_
    exact tail h7 c7 n7 _ _ _ 2 _ _ v' _ _ _ p8 pv' hok (by decide) (by rw [List.length_append]; omega) (by omega) (by omega)
  · obtain ⟨o1, o2, o3⟩ := opr_le hskp
    have htk : tkW t p (xtx 22) = skp t p := if_neg hin
    rw [htk] at r4
    refine x_istore_n (L' := [_, _, _, _, _, _, _]) d_Reader_readComparison_61 rfl rfl ?_
    refine x_iload_n d_Reader_readComparison_62 rfl ?_
    refine x_if_eq (tgt := 70) d_Reader_readComparison_63 (by decide) (fun _ => ?_) (fun hn => absurd (by rw [decide_eq_false hin]; rfl) hn)
    refine x_aload_n d_Reader_readComparison_70 rfl rfl ?_
    refine x_callV (As := []) (k := k_Reader) rfl xcv_Reader_150_Reader (Or.inl r4) (c_readOperator (K := K) hG (by omega) r4 (hSf f4) (by omega) hskp b4 hK g4.2.1 (by simp; omega) (by omega) (by omega)) rfl rfl (Nat.le_of_ble_eq_true rfl) d_Reader_readComparison_71 ?_
    rintro v h5 c5 n5 ⟨rfl, p5⟩
    have p5' := pR.tr r4 b4 f4 w4 g4 p5
    obtain ⟨va5, m5, r5, b5, f5, w5, g5⟩ := id p5'
    cases hop : (opr t (skp t p)).2.1 with
    | none =>
      have hrc : rcm t k w kd p = ((opr t (skp t p)).1, none) := by
        unfold rcm
        rw [if_neg hin, hop]
      rw [hrc]
      refine x_istore (L' := [_, _, _, _, _, _, _]) d_Reader_readComparison_74 rfl rfl ?_
      refine x_iload d_Reader_readComparison_76 rfl ?_
      refine x_iconst (v := (-1)) d_Reader_readComparison_78 (by decide) ?_
      refine x_icmp_ne (tgt := 84) d_Reader_readComparison_79 (by decide) (fun ht => absurd rfl ht) (fun _ => ?_)
      refine x_null d_Reader_readComparison_82 ?_
      refine x_aret d_Reader_readComparison_83 rfl rfl ?_
      exact ⟨rfl, pT.ofR hR (p5'.mono (by omega) (by omega))⟩
    | some acc =>
      have hrc : rcm t k w kd p = ((rvl t kd (opr t (skp t p)).1).1, (rsg t kd (opr t (skp t p)).1).map (fun us => (k, acc, us, (((w ++ [32]) ++ (opr t (skp t p)).2.2) ++ [32]) ++ (rvl t kd (opr t (skp t p)).1).2.2))) := by
        unfold rcm
        rw [if_neg hin, hop]
      rw [hrc]
      have hacc := opr_lt hop
      have v1 := rvl_le (kd := kd) o1
      have v2 := rvl_ge (kd := kd) o1
      obtain ⟨z5, bs5, hb5, -⟩ := id b5
      have hne1 : ¬ (nI acc = -1) := fun z => by
        have : ¬ (nI acc < 0) := nI_pos (by omega)
        rw [z] at this
        exact this (by decide)
      refine x_istore (L' := [_, _, _, _, _, _, _]) d_Reader_readComparison_74 rfl rfl ?_
      refine x_iload d_Reader_readComparison_76 rfl ?_
      refine x_iconst (v := (-1)) d_Reader_readComparison_78 (by decide) ?_
      refine x_icmp_ne (tgt := 84) d_Reader_readComparison_79 (by decide) (fun _ => ?_) (fun hn => absurd hn hne1)
      refine x_iload_n d_Reader_readComparison_84 rfl ?_
      refine x_if_eq (tgt := 98) d_Reader_readComparison_85 (by decide) (fun _ => ?_) (fun hn => absurd (by rw [decide_eq_false hin]; rfl) hn)
      refine x_aload_n d_Reader_readComparison_98 rfl rfl ?_
      refine x_get xf_Reader_21_Reader (Or.inl r5) rfl d_Reader_readComparison_99 ?_
      refine x_bipush (v := 32) d_Reader_readComparison_102 (by decide) ?_
      refine x_callV (As := [_]) (k := k_StringBuilder) rfl xcv_Reader_143_SB (Or.inl hb5) (c_SB_append_C (K := K) (ch := 32) (by omega) b5 (by decide) hK g5.2.1 (by simp; omega) (by omega) (by omega)) rfl rfl (Nat.le_of_ble_eq_true rfl) d_Reader_readComparison_104 ?_
      rintro v h6 c6 n6 ⟨rfl, p6⟩
      obtain ⟨va6, m6, r6, b6, f6, w6, g6⟩ := pR.tr r5 b5 f5 w5 g5 (pR.ofB r5 b5 p6)
      have hlb : (((w ++ [32]) ++ (opr t (skp t p)).2.2) ++ [32]).length = w.length + 2 + (opr t (skp t p)).2.2.length := by simp; omega
      refine x_pop d_Reader_readComparison_107 rfl ?_
      refine x_iload_n d_Reader_readComparison_108 rfl ?_
      refine x_if_eq (tgt := 120) d_Reader_readComparison_109 (by decide) (fun _ => ?_) (fun hn => absurd (by rw [decide_eq_false hin]; rfl) hn)
      refine x_aload_n d_Reader_readComparison_120 rfl rfl ?_
      refine x_aload_n d_Reader_readComparison_121 rfl rfl ?_
      refine x_callV (As := [_]) (k := k_Reader) rfl xcv_Reader_157_Reader (Or.inl r6) (c_readSingle (K := K) hG (by omega) r6 (hSf f6) (by omega) o1 b6 (hNf f6) hK g6.2.1 (by omega) (by omega) (by omega)) rfl rfl (Nat.le_of_ble_eq_true rfl) d_Reader_readComparison_122 ?_
      rintro v h7 c7 n7 ⟨pv, p7⟩
      have p8 := pR.tr r6 b6 f6 w6 g6 p7
      have pv' : pVs h h7 v (rsg t kd (opr t (skp t p)).1) := by
        cases hq : rsg t kd (opr t (skp t p)).1 with
        | none => rw [hq] at pv; exact pv
        | some us =>
          rw [hq] at pv
          obtain ⟨q, q1, q2, q3⟩ := pv
          exact ⟨q, q1, f6.2 _ q2, q3⟩
      have hok := fun us => rsg_ok (kd := kd) (p := (opr t (skp t p)).1) (vs := us) hS.asc
      have : ∃ v', v = some v' := by
        cases hq : rsg t kd (opr t (skp t p)).1 with
        | none => rw [hq] at pv'; exact ⟨_, pv'⟩
        | some us =>
          rw [hq] at pv'
          obtain ⟨q, q1, -⟩ := pv'
          exact ⟨_, q1⟩
      obtain ⟨v', rfl⟩ := this
      exact tail h7 c7 n7 _ _ _ acc _ _ v' _ _ _ p8 pv' hok hacc (by rw [List.length_append]; omega) (by omega) (by omega)
end RD9
