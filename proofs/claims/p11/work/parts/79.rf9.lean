section
abbrev y_Mo_readTest : MethodName := ⟨"MarkerTextModel", "readTest", "(I)V"⟩
abbrev M_Mo_readTest : XMt := (y_Mo_readTest, prog_13_method_32_code, 5, none)
theorem d_Mo_readTest_109 : decode M_Mo_readTest.2.1 109 = .ok (.aload_n 0, 1) := by decide +kernel
theorem d_Mo_readTest_110 : decode M_Mo_readTest.2.1 110 = .ok (.iload_n 1, 1) := by decide +kernel
theorem d_Mo_readTest_111 : decode M_Mo_readTest.2.1 111 = .ok (.iload 4, 2) := by decide +kernel
theorem d_Mo_readTest_113 : decode M_Mo_readTest.2.1 113 = .ok (.iload_n 2, 1) := by decide +kernel
theorem d_Mo_readTest_114 : decode M_Mo_readTest.2.1 114 = .ok (.invokevirtual 250, 3) := by decide +kernel
theorem xw_1450 : (Jvm.Cond.code ({ cls := "MarkerTextModel", name := "addTest", desc := "(III)V" } : Jvm.MethodName) prog_13_method_31_code (5 : Nat) (Option.none : Option Jvm.ClassFile.FieldType)) ∈ xT := xT_at 1450 (by decide +kernel) (by decide +kernel)
theorem xcb_Mo_addTest : xcb M_Mo_addTest 3 := ⟨xw_1450, xw_8, by decide, by decide, by decide, by decide +kernel⟩
theorem xw_1449 : (Jvm.Cond.instanceMethod ({ cls := "MarkerTextModel", name := "addTest", desc := "(III)V" } : Jvm.MethodName)) ∈ xT := xT_at 1449 (by decide +kernel) (by decide +kernel)
theorem xw_1447 : (Jvm.Cond.methodLink "MarkerTextModel" (250 : Nat) ({ cls := "MarkerTextModel", name := "addTest", desc := "(III)V" } : Jvm.MethodName)) ∈ xT := xT_at 1447 (by decide +kernel) (by decide +kernel)
theorem xsel_Mo_addTest : Cond.selects "MarkerTextModel" y_Mo_addTest y_Mo_addTest ∈ xT := xT_sel (q := (y_Mo_addTest, 52)) (by decide +kernel) (by decide +kernel)
theorem xcv_Mo_250_Mo : xCV "MarkerTextModel" 250 "MarkerTextModel" M_Mo_addTest 3 := ⟨xcb_Mo_addTest, xw_1449, Or.inl ⟨xw_1447, Or.inl xsel_Mo_addTest⟩⟩
theorem d_Mo_readTest_117 : decode M_Mo_readTest.2.1 117 = .ok (.return_, 1) := by decide +kernel
theorem d_Mo_readTest_102 : decode M_Mo_readTest.2.1 102 = .ok (.aload_n 0, 1) := by decide +kernel
theorem d_Mo_readTest_103 : decode M_Mo_readTest.2.1 103 = .ok (.getfield 190, 3) := by decide +kernel
theorem d_Mo_readTest_106 : decode M_Mo_readTest.2.1 106 = .ok (.ifCond .ge 11, 3) := by decide +kernel
theorem d_Mo_readTest_0 : decode M_Mo_readTest.2.1 0 = .ok (.aload_n 0, 1) := by decide +kernel
theorem d_Mo_readTest_1 : decode M_Mo_readTest.2.1 1 = .ok (.invokevirtual 225, 3) := by decide +kernel
theorem d_Mo_readTest_4 : decode M_Mo_readTest.2.1 4 = .ok (.bipush 64, 2) := by decide +kernel
theorem d_Mo_readTest_6 : decode M_Mo_readTest.2.1 6 = .ok (.aload_n 0, 1) := by decide +kernel
theorem d_Mo_readTest_7 : decode M_Mo_readTest.2.1 7 = .ok (.getfield 196, 3) := by decide +kernel
theorem d_Mo_readTest_10 : decode M_Mo_readTest.2.1 10 = .ok (.imul, 1) := by decide +kernel
theorem d_Mo_readTest_11 : decode M_Mo_readTest.2.1 11 = .ok (.aload_n 0, 1) := by decide +kernel
theorem d_Mo_readTest_12 : decode M_Mo_readTest.2.1 12 = .ok (.getfield 78, 3) := by decide +kernel
theorem d_Mo_readTest_15 : decode M_Mo_readTest.2.1 15 = .ok (.aload_n 0, 1) := by decide +kernel
theorem d_Mo_readTest_16 : decode M_Mo_readTest.2.1 16 = .ok (.getfield 196, 3) := by decide +kernel
theorem d_Mo_readTest_19 : decode M_Mo_readTest.2.1 19 = .ok (.iaload, 1) := by decide +kernel
theorem d_Mo_readTest_20 : decode M_Mo_readTest.2.1 20 = .ok (.iadd, 1) := by decide +kernel
theorem d_Mo_readTest_21 : decode M_Mo_readTest.2.1 21 = .ok (.istore_n 2, 1) := by decide +kernel
theorem d_Mo_readTest_22 : decode M_Mo_readTest.2.1 22 = .ok (.aload_n 0, 1) := by decide +kernel
theorem d_Mo_readTest_23 : decode M_Mo_readTest.2.1 23 = .ok (.aload_n 0, 1) := by decide +kernel
theorem d_Mo_readTest_24 : decode M_Mo_readTest.2.1 24 = .ok (.getfield 193, 3) := by decide +kernel
theorem d_Mo_readTest_27 : decode M_Mo_readTest.2.1 27 = .ok (.invokevirtual 241, 3) := by decide +kernel
theorem xw_1426 : (Jvm.Cond.code ({ cls := "MarkerTextModel", name := "letters", desc := "(I)I" } : Jvm.MethodName) prog_13_method_8_code (3 : Nat) (Option.some Jvm.ClassFile.FieldType.int)) ∈ xT := xT_at 1426 (by decide +kernel) (by decide +kernel)
theorem xcb_Mo_letters : xcb M_Mo_letters 1 := ⟨xw_1426, xw_8, by decide, by decide, by decide, by decide +kernel⟩
theorem xw_1425 : (Jvm.Cond.instanceMethod ({ cls := "MarkerTextModel", name := "letters", desc := "(I)I" } : Jvm.MethodName)) ∈ xT := xT_at 1425 (by decide +kernel) (by decide +kernel)
theorem xw_1423 : (Jvm.Cond.methodLink "MarkerTextModel" (241 : Nat) ({ cls := "MarkerTextModel", name := "letters", desc := "(I)I" } : Jvm.MethodName)) ∈ xT := xT_at 1423 (by decide +kernel) (by decide +kernel)
theorem xsel_Mo_letters : Cond.selects "MarkerTextModel" y_Mo_letters y_Mo_letters ∈ xT := xT_sel (q := (y_Mo_letters, 52)) (by decide +kernel) (by decide +kernel)
theorem xcv_Mo_241_Mo : xCV "MarkerTextModel" 241 "MarkerTextModel" M_Mo_letters 1 := ⟨xcb_Mo_letters, xw_1425, Or.inl ⟨xw_1423, Or.inl xsel_Mo_letters⟩⟩
theorem d_Mo_readTest_30 : decode M_Mo_readTest.2.1 30 = .ok (.istore_n 3, 1) := by decide +kernel
theorem d_Mo_readTest_31 : decode M_Mo_readTest.2.1 31 = .ok (.bipush 6, 2) := by decide +kernel
theorem d_Mo_readTest_33 : decode M_Mo_readTest.2.1 33 = .ok (.istore 4, 2) := by decide +kernel
theorem d_Mo_readTest_35 : decode M_Mo_readTest.2.1 35 = .ok (.iload_n 3, 1) := by decide +kernel
theorem d_Mo_readTest_36 : decode M_Mo_readTest.2.1 36 = .ok (.ifCond .le 48, 3) := by decide +kernel
theorem d_Mo_readTest_84 : decode M_Mo_readTest.2.1 84 = .ok (.aload_n 0, 1) := by decide +kernel
theorem d_Mo_readTest_85 : decode M_Mo_readTest.2.1 85 = .ok (.invokevirtual 247, 3) := by decide +kernel
theorem xw_1446 : (Jvm.Cond.code ({ cls := "MarkerTextModel", name := "operator", desc := "()I" } : Jvm.MethodName) prog_13_method_29_code (3 : Nat) (Option.some Jvm.ClassFile.FieldType.int)) ∈ xT := xT_at 1446 (by decide +kernel) (by decide +kernel)
theorem xcb_Mo_operator : xcb M_Mo_operator 0 := ⟨xw_1446, xw_8, by decide, by decide, by decide, by decide +kernel⟩
theorem xw_1445 : (Jvm.Cond.instanceMethod ({ cls := "MarkerTextModel", name := "operator", desc := "()I" } : Jvm.MethodName)) ∈ xT := xT_at 1445 (by decide +kernel) (by decide +kernel)
theorem xw_1443 : (Jvm.Cond.methodLink "MarkerTextModel" (247 : Nat) ({ cls := "MarkerTextModel", name := "operator", desc := "()I" } : Jvm.MethodName)) ∈ xT := xT_at 1443 (by decide +kernel) (by decide +kernel)
theorem xsel_Mo_operator : Cond.selects "MarkerTextModel" y_Mo_operator y_Mo_operator ∈ xT := xT_sel (q := (y_Mo_operator, 52)) (by decide +kernel) (by decide +kernel)
theorem xcv_Mo_247_Mo : xCV "MarkerTextModel" 247 "MarkerTextModel" M_Mo_operator 0 := ⟨xcb_Mo_operator, xw_1445, Or.inl ⟨xw_1443, Or.inl xsel_Mo_operator⟩⟩
theorem d_Mo_readTest_88 : decode M_Mo_readTest.2.1 88 = .ok (.istore 4, 2) := by decide +kernel
theorem d_Mo_readTest_90 : decode M_Mo_readTest.2.1 90 = .ok (.aload_n 0, 1) := by decide +kernel
theorem d_Mo_readTest_91 : decode M_Mo_readTest.2.1 91 = .ok (.getfield 190, 3) := by decide +kernel
theorem d_Mo_readTest_94 : decode M_Mo_readTest.2.1 94 = .ok (.ifCond .ge 8, 3) := by decide +kernel
theorem d_Mo_readTest_97 : decode M_Mo_readTest.2.1 97 = .ok (.aload_n 0, 1) := by decide +kernel
theorem d_Mo_readTest_98 : decode M_Mo_readTest.2.1 98 = .ok (.iload_n 1, 1) := by decide +kernel
theorem d_Mo_readTest_99 : decode M_Mo_readTest.2.1 99 = .ok (.invokevirtual 235, 3) := by decide +kernel
theorem d_Mo_readTest_39 : decode M_Mo_readTest.2.1 39 = .ok (.aload_n 0, 1) := by decide +kernel
theorem d_Mo_readTest_40 : decode M_Mo_readTest.2.1 40 = .ok (.aload_n 0, 1) := by decide +kernel
theorem d_Mo_readTest_41 : decode M_Mo_readTest.2.1 41 = .ok (.aload_n 0, 1) := by decide +kernel
theorem d_Mo_readTest_42 : decode M_Mo_readTest.2.1 42 = .ok (.getfield 193, 3) := by decide +kernel
theorem d_Mo_readTest_45 : decode M_Mo_readTest.2.1 45 = .ok (.iload_n 3, 1) := by decide +kernel
theorem d_Mo_readTest_46 : decode M_Mo_readTest.2.1 46 = .ok (.invokevirtual 154, 3) := by decide +kernel
theorem d_Mo_readTest_49 : decode M_Mo_readTest.2.1 49 = .ok (.invokevirtual 158, 3) := by decide +kernel
theorem d_Mo_readTest_52 : decode M_Mo_readTest.2.1 52 = .ok (.bipush 7, 2) := by decide +kernel
theorem d_Mo_readTest_54 : decode M_Mo_readTest.2.1 54 = .ok (.if_icmp .eq 12, 3) := by decide +kernel
theorem d_Mo_readTest_66 : decode M_Mo_readTest.2.1 66 = .ok (.aload_n 0, 1) := by decide +kernel
theorem d_Mo_readTest_67 : decode M_Mo_readTest.2.1 67 = .ok (.dup, 1) := by decide +kernel
theorem d_Mo_readTest_68 : decode M_Mo_readTest.2.1 68 = .ok (.getfield 193, 3) := by decide +kernel
theorem d_Mo_readTest_71 : decode M_Mo_readTest.2.1 71 = .ok (.iload_n 3, 1) := by decide +kernel
theorem d_Mo_readTest_72 : decode M_Mo_readTest.2.1 72 = .ok (.iadd, 1) := by decide +kernel
theorem d_Mo_readTest_73 : decode M_Mo_readTest.2.1 73 = .ok (.putfield 193, 3) := by decide +kernel
theorem d_Mo_readTest_76 : decode M_Mo_readTest.2.1 76 = .ok (.aload_n 0, 1) := by decide +kernel
theorem d_Mo_readTest_77 : decode M_Mo_readTest.2.1 77 = .ok (.iload_n 1, 1) := by decide +kernel
theorem d_Mo_readTest_78 : decode M_Mo_readTest.2.1 78 = .ok (.invokevirtual 244, 3) := by decide +kernel
theorem xw_1434 : (Jvm.Cond.code ({ cls := "MarkerTextModel", name := "readList", desc := "(I)V" } : Jvm.MethodName) prog_13_method_30_code (4 : Nat) (Option.none : Option Jvm.ClassFile.FieldType)) ∈ xT := xT_at 1434 (by decide +kernel) (by decide +kernel)
theorem xcb_Mo_readList : xcb M_Mo_readList 1 := ⟨xw_1434, xw_8, by decide, by decide, by decide, by decide +kernel⟩
theorem xw_1433 : (Jvm.Cond.instanceMethod ({ cls := "MarkerTextModel", name := "readList", desc := "(I)V" } : Jvm.MethodName)) ∈ xT := xT_at 1433 (by decide +kernel) (by decide +kernel)
theorem xw_1431 : (Jvm.Cond.methodLink "MarkerTextModel" (244 : Nat) ({ cls := "MarkerTextModel", name := "readList", desc := "(I)V" } : Jvm.MethodName)) ∈ xT := xT_at 1431 (by decide +kernel) (by decide +kernel)
theorem xsel_Mo_readList : Cond.selects "MarkerTextModel" y_Mo_readList y_Mo_readList ∈ xT := xT_sel (q := (y_Mo_readList, 52)) (by decide +kernel) (by decide +kernel)
theorem xcv_Mo_244_Mo : xCV "MarkerTextModel" 244 "MarkerTextModel" M_Mo_readList 1 := ⟨xcb_Mo_readList, xw_1433, Or.inl ⟨xw_1431, Or.inl xsel_Mo_readList⟩⟩
theorem d_Mo_readTest_81 : decode M_Mo_readTest.2.1 81 = .ok (.goto 21, 3) := by decide +kernel
theorem d_Mo_readTest_57 : decode M_Mo_readTest.2.1 57 = .ok (.aload_n 0, 1) := by decide +kernel
theorem d_Mo_readTest_58 : decode M_Mo_readTest.2.1 58 = .ok (.aload_n 0, 1) := by decide +kernel
theorem d_Mo_readTest_59 : decode M_Mo_readTest.2.1 59 = .ok (.getfield 193, 3) := by decide +kernel
theorem d_Mo_readTest_62 : decode M_Mo_readTest.2.1 62 = .ok (.invokevirtual 218, 3) := by decide +kernel
theorem d_Mo_readTest_65 : decode M_Mo_readTest.2.1 65 = .ok (.return_, 1) := by decide +kernel
abbrev y_Mo_readFirst : MethodName := ⟨"MarkerTextModel", "readFirst", "()V"⟩
abbrev M_Mo_readFirst : XMt := (y_Mo_readFirst, prog_13_method_33_code, 3, none)
theorem d_Mo_readFirst_46 : decode M_Mo_readFirst.2.1 46 = .ok (.istore_n 2, 1) := by decide +kernel
theorem d_Mo_readFirst_47 : decode M_Mo_readFirst.2.1 47 = .ok (.iload_n 2, 1) := by decide +kernel
theorem d_Mo_readFirst_48 : decode M_Mo_readFirst.2.1 48 = .ok (.iconst 1, 1) := by decide +kernel
theorem d_Mo_readFirst_49 : decode M_Mo_readFirst.2.1 49 = .ok (.if_icmp .ne 10, 3) := by decide +kernel
theorem d_Mo_readFirst_59 : decode M_Mo_readFirst.2.1 59 = .ok (.iload_n 2, 1) := by decide +kernel
theorem d_Mo_readFirst_60 : decode M_Mo_readFirst.2.1 60 = .ok (.ifCond .lt 14, 3) := by decide +kernel
theorem d_Mo_readFirst_74 : decode M_Mo_readFirst.2.1 74 = .ok (.aload_n 0, 1) := by decide +kernel
theorem d_Mo_readFirst_75 : decode M_Mo_readFirst.2.1 75 = .ok (.getfield 63, 3) := by decide +kernel
theorem d_Mo_readFirst_78 : decode M_Mo_readFirst.2.1 78 = .ok (.aload_n 0, 1) := by decide +kernel
theorem d_Mo_readFirst_79 : decode M_Mo_readFirst.2.1 79 = .ok (.getfield 196, 3) := by decide +kernel
theorem d_Mo_readFirst_82 : decode M_Mo_readFirst.2.1 82 = .ok (.iaload, 1) := by decide +kernel
theorem d_Mo_readFirst_83 : decode M_Mo_readFirst.2.1 83 = .ok (.bipush 40, 2) := by decide +kernel
theorem d_Mo_readFirst_85 : decode M_Mo_readFirst.2.1 85 = .ok (.if_icmp .ne 12, 3) := by decide +kernel
theorem d_Mo_readFirst_97 : decode M_Mo_readFirst.2.1 97 = .ok (.aload_n 0, 1) := by decide +kernel
theorem d_Mo_readFirst_98 : decode M_Mo_readFirst.2.1 98 = .ok (.dup, 1) := by decide +kernel
theorem d_Mo_readFirst_99 : decode M_Mo_readFirst.2.1 99 = .ok (.getfield 193, 3) := by decide +kernel
theorem d_Mo_readFirst_102 : decode M_Mo_readFirst.2.1 102 = .ok (.iload_n 1, 1) := by decide +kernel
theorem d_Mo_readFirst_103 : decode M_Mo_readFirst.2.1 103 = .ok (.iadd, 1) := by decide +kernel
theorem d_Mo_readFirst_104 : decode M_Mo_readFirst.2.1 104 = .ok (.putfield 193, 3) := by decide +kernel
theorem d_Mo_readFirst_107 : decode M_Mo_readFirst.2.1 107 = .ok (.iload_n 2, 1) := by decide +kernel
theorem d_Mo_readFirst_108 : decode M_Mo_readFirst.2.1 108 = .ok (.ifCond .ge 14, 3) := by decide +kernel
theorem d_Mo_readFirst_122 : decode M_Mo_readFirst.2.1 122 = .ok (.aload_n 0, 1) := by decide +kernel
theorem d_Mo_readFirst_123 : decode M_Mo_readFirst.2.1 123 = .ok (.iconst (-1), 1) := by decide +kernel
theorem d_Mo_readFirst_124 : decode M_Mo_readFirst.2.1 124 = .ok (.iload_n 2, 1) := by decide +kernel
theorem d_Mo_readFirst_125 : decode M_Mo_readFirst.2.1 125 = .ok (.iconst 5, 1) := by decide +kernel
theorem d_Mo_readFirst_126 : decode M_Mo_readFirst.2.1 126 = .ok (.if_icmp .ne 8, 3) := by decide +kernel
theorem d_Mo_readFirst_134 : decode M_Mo_readFirst.2.1 134 = .ok (.bipush 8, 2) := by decide +kernel
theorem d_Mo_readFirst_136 : decode M_Mo_readFirst.2.1 136 = .ok (.bipush 64, 2) := by decide +kernel
theorem d_Mo_readFirst_138 : decode M_Mo_readFirst.2.1 138 = .ok (.aload_n 0, 1) := by decide +kernel
theorem d_Mo_readFirst_139 : decode M_Mo_readFirst.2.1 139 = .ok (.getfield 196, 3) := by decide +kernel
theorem d_Mo_readFirst_142 : decode M_Mo_readFirst.2.1 142 = .ok (.imul, 1) := by decide +kernel
theorem d_Mo_readFirst_143 : decode M_Mo_readFirst.2.1 143 = .ok (.aload_n 0, 1) := by decide +kernel
theorem d_Mo_readFirst_144 : decode M_Mo_readFirst.2.1 144 = .ok (.getfield 78, 3) := by decide +kernel
theorem d_Mo_readFirst_147 : decode M_Mo_readFirst.2.1 147 = .ok (.aload_n 0, 1) := by decide +kernel
theorem d_Mo_readFirst_148 : decode M_Mo_readFirst.2.1 148 = .ok (.getfield 196, 3) := by decide +kernel
theorem d_Mo_readFirst_151 : decode M_Mo_readFirst.2.1 151 = .ok (.iaload, 1) := by decide +kernel
theorem d_Mo_readFirst_152 : decode M_Mo_readFirst.2.1 152 = .ok (.iadd, 1) := by decide +kernel
theorem d_Mo_readFirst_153 : decode M_Mo_readFirst.2.1 153 = .ok (.invokevirtual 250, 3) := by decide +kernel
theorem d_Mo_readFirst_156 : decode M_Mo_readFirst.2.1 156 = .ok (.return_, 1) := by decide +kernel
theorem d_Mo_readFirst_129 : decode M_Mo_readFirst.2.1 129 = .ok (.bipush 7, 2) := by decide +kernel
theorem d_Mo_readFirst_131 : decode M_Mo_readFirst.2.1 131 = .ok (.goto 5, 3) := by decide +kernel
theorem d_Mo_readFirst_111 : decode M_Mo_readFirst.2.1 111 = .ok (.aload_n 0, 1) := by decide +kernel
theorem d_Mo_readFirst_112 : decode M_Mo_readFirst.2.1 112 = .ok (.iload_n 2, 1) := by decide +kernel
theorem d_Mo_readFirst_113 : decode M_Mo_readFirst.2.1 113 = .ok (.bipush 100, 2) := by decide +kernel
theorem d_Mo_readFirst_115 : decode M_Mo_readFirst.2.1 115 = .ok (.iadd, 1) := by decide +kernel
theorem d_Mo_readFirst_116 : decode M_Mo_readFirst.2.1 116 = .ok (.invokevirtual 258, 3) := by decide +kernel
theorem xw_1430 : (Jvm.Cond.code ({ cls := "MarkerTextModel", name := "readTest", desc := "(I)V" } : Jvm.MethodName) prog_13_method_32_code (5 : Nat) (Option.none : Option Jvm.ClassFile.FieldType)) ∈ xT := xT_at 1430 (by decide +kernel) (by decide +kernel)
theorem xcb_Mo_readTest : xcb M_Mo_readTest 1 := ⟨xw_1430, xw_8, by decide, by decide, by decide, by decide +kernel⟩
theorem xw_1429 : (Jvm.Cond.instanceMethod ({ cls := "MarkerTextModel", name := "readTest", desc := "(I)V" } : Jvm.MethodName)) ∈ xT := xT_at 1429 (by decide +kernel) (by decide +kernel)
theorem xw_1427 : (Jvm.Cond.methodLink "MarkerTextModel" (258 : Nat) ({ cls := "MarkerTextModel", name := "readTest", desc := "(I)V" } : Jvm.MethodName)) ∈ xT := xT_at 1427 (by decide +kernel) (by decide +kernel)
theorem xsel_Mo_readTest : Cond.selects "MarkerTextModel" y_Mo_readTest y_Mo_readTest ∈ xT := xT_sel (q := (y_Mo_readTest, 52)) (by decide +kernel) (by decide +kernel)
theorem xcv_Mo_258_Mo : xCV "MarkerTextModel" 258 "MarkerTextModel" M_Mo_readTest 1 := ⟨xcb_Mo_readTest, xw_1429, Or.inl ⟨xw_1427, Or.inl xsel_Mo_readTest⟩⟩
theorem d_Mo_readFirst_119 : decode M_Mo_readFirst.2.1 119 = .ok (.goto 37, 3) := by decide +kernel
theorem d_Mo_readFirst_88 : decode M_Mo_readFirst.2.1 88 = .ok (.aload_n 0, 1) := by decide +kernel
theorem d_Mo_readFirst_89 : decode M_Mo_readFirst.2.1 89 = .ok (.aload_n 0, 1) := by decide +kernel
theorem d_Mo_readFirst_90 : decode M_Mo_readFirst.2.1 90 = .ok (.getfield 193, 3) := by decide +kernel
theorem d_Mo_readFirst_93 : decode M_Mo_readFirst.2.1 93 = .ok (.invokevirtual 218, 3) := by decide +kernel
theorem d_Mo_readFirst_96 : decode M_Mo_readFirst.2.1 96 = .ok (.return_, 1) := by decide +kernel
theorem d_Mo_readFirst_63 : decode M_Mo_readFirst.2.1 63 = .ok (.iload_n 2, 1) := by decide +kernel
theorem d_Mo_readFirst_64 : decode M_Mo_readFirst.2.1 64 = .ok (.iconst 5, 1) := by decide +kernel
theorem d_Mo_readFirst_65 : decode M_Mo_readFirst.2.1 65 = .ok (.if_icmp .eq 9, 3) := by decide +kernel
theorem d_Mo_readFirst_68 : decode M_Mo_readFirst.2.1 68 = .ok (.iload_n 2, 1) := by decide +kernel
theorem d_Mo_readFirst_69 : decode M_Mo_readFirst.2.1 69 = .ok (.bipush 6, 2) := by decide +kernel
theorem d_Mo_readFirst_71 : decode M_Mo_readFirst.2.1 71 = .ok (.if_icmp .ne 17, 3) := by decide +kernel
theorem d_Mo_readFirst_52 : decode M_Mo_readFirst.2.1 52 = .ok (.aload_n 0, 1) := by decide +kernel
theorem d_Mo_readFirst_53 : decode M_Mo_readFirst.2.1 53 = .ok (.iconst 1, 1) := by decide +kernel
theorem d_Mo_readFirst_54 : decode M_Mo_readFirst.2.1 54 = .ok (.iconst 3, 1) := by decide +kernel
theorem d_Mo_readFirst_55 : decode M_Mo_readFirst.2.1 55 = .ok (.invokevirtual 254, 3) := by decide +kernel
theorem xw_1414 : (Jvm.Cond.code ({ cls := "MarkerTextModel", name := "open", desc := "(II)V" } : Jvm.MethodName) prog_13_method_26_code (3 : Nat) (Option.none : Option Jvm.ClassFile.FieldType)) ∈ xT := xT_at 1414 (by decide +kernel) (by decide +kernel)
theorem xcb_Mo_open : xcb M_Mo_open 2 := ⟨xw_1414, xw_8, by decide, by decide, by decide, by decide +kernel⟩
theorem xw_1413 : (Jvm.Cond.instanceMethod ({ cls := "MarkerTextModel", name := "open", desc := "(II)V" } : Jvm.MethodName)) ∈ xT := xT_at 1413 (by decide +kernel) (by decide +kernel)
theorem xw_1411 : (Jvm.Cond.methodLink "MarkerTextModel" (254 : Nat) ({ cls := "MarkerTextModel", name := "open", desc := "(II)V" } : Jvm.MethodName)) ∈ xT := xT_at 1411 (by decide +kernel) (by decide +kernel)
theorem xsel_Mo_open : Cond.selects "MarkerTextModel" y_Mo_open y_Mo_open ∈ xT := xT_sel (q := (y_Mo_open, 52)) (by decide +kernel) (by decide +kernel)
theorem xcv_Mo_254_Mo : xCV "MarkerTextModel" 254 "MarkerTextModel" M_Mo_open 2 := ⟨xcb_Mo_open, xw_1413, Or.inl ⟨xw_1411, Or.inl xsel_Mo_open⟩⟩
theorem d_Mo_readFirst_58 : decode M_Mo_readFirst.2.1 58 = .ok (.return_, 1) := by decide +kernel
theorem d_Mo_readFirst_0 : decode M_Mo_readFirst.2.1 0 = .ok (.aload_n 0, 1) := by decide +kernel
theorem d_Mo_readFirst_1 : decode M_Mo_readFirst.2.1 1 = .ok (.invokevirtual 228, 3) := by decide +kernel
theorem d_Mo_readFirst_4 : decode M_Mo_readFirst.2.1 4 = .ok (.bipush 40, 2) := by decide +kernel
theorem d_Mo_readFirst_6 : decode M_Mo_readFirst.2.1 6 = .ok (.if_icmp .ne 10, 3) := by decide +kernel
theorem d_Mo_readFirst_16 : decode M_Mo_readFirst.2.1 16 = .ok (.aload_n 0, 1) := by decide +kernel
theorem d_Mo_readFirst_17 : decode M_Mo_readFirst.2.1 17 = .ok (.aload_n 0, 1) := by decide +kernel
theorem d_Mo_readFirst_18 : decode M_Mo_readFirst.2.1 18 = .ok (.getfield 193, 3) := by decide +kernel
theorem d_Mo_readFirst_21 : decode M_Mo_readFirst.2.1 21 = .ok (.invokevirtual 241, 3) := by decide +kernel
theorem d_Mo_readFirst_24 : decode M_Mo_readFirst.2.1 24 = .ok (.istore_n 1, 1) := by decide +kernel
theorem d_Mo_readFirst_25 : decode M_Mo_readFirst.2.1 25 = .ok (.iload_n 1, 1) := by decide +kernel
theorem d_Mo_readFirst_26 : decode M_Mo_readFirst.2.1 26 = .ok (.ifCond .le 19, 3) := by decide +kernel
theorem d_Mo_readFirst_45 : decode M_Mo_readFirst.2.1 45 = .ok (.iconst 0, 1) := by decide +kernel
theorem d_Mo_readFirst_29 : decode M_Mo_readFirst.2.1 29 = .ok (.aload_n 0, 1) := by decide +kernel
theorem d_Mo_readFirst_30 : decode M_Mo_readFirst.2.1 30 = .ok (.aload_n 0, 1) := by decide +kernel
theorem d_Mo_readFirst_31 : decode M_Mo_readFirst.2.1 31 = .ok (.aload_n 0, 1) := by decide +kernel
theorem d_Mo_readFirst_32 : decode M_Mo_readFirst.2.1 32 = .ok (.getfield 193, 3) := by decide +kernel
theorem d_Mo_readFirst_35 : decode M_Mo_readFirst.2.1 35 = .ok (.iload_n 1, 1) := by decide +kernel
theorem d_Mo_readFirst_36 : decode M_Mo_readFirst.2.1 36 = .ok (.invokevirtual 154, 3) := by decide +kernel
theorem d_Mo_readFirst_39 : decode M_Mo_readFirst.2.1 39 = .ok (.invokevirtual 158, 3) := by decide +kernel
theorem d_Mo_readFirst_42 : decode M_Mo_readFirst.2.1 42 = .ok (.goto 4, 3) := by decide +kernel
theorem d_Mo_readFirst_9 : decode M_Mo_readFirst.2.1 9 = .ok (.aload_n 0, 1) := by decide +kernel
theorem d_Mo_readFirst_10 : decode M_Mo_readFirst.2.1 10 = .ok (.iconst 4, 1) := by decide +kernel
theorem d_Mo_readFirst_11 : decode M_Mo_readFirst.2.1 11 = .ok (.iconst 1, 1) := by decide +kernel
theorem d_Mo_readFirst_12 : decode M_Mo_readFirst.2.1 12 = .ok (.invokevirtual 254, 3) := by decide +kernel
theorem d_Mo_readFirst_15 : decode M_Mo_readFirst.2.1 15 = .ok (.return_, 1) := by decide +kernel
end
section RF9
variable {l : Launch} {G : XG} {h : XH} {c n d : Nat} {o : Nat} {rf : Nat → Nat} {S : MS}
abbrev rtJ : List Nat := [27, 29, 32, 33, 35]
abbrev rtA : List Nat := [12, 13, 14, 15, 17, 18, 19, 20, 21, 23, 24, 26, 34]
end RF9
