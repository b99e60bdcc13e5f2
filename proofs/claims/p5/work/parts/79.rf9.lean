section
abbrev y_Mo_readTest : MethodName := ⟨"MarkerTextModel", "readTest", "(I)V"⟩
abbrev M_Mo_readTest : XMt := (y_Mo_readTest, prog_13_method_32_code, 5, none)
theorem d_Mo_readTest_109 : decode M_Mo_readTest.2.1 109 = .ok (.aload_n 0, 1) := by decide +kernel
theorem d_Mo_readTest_110 : decode M_Mo_readTest.2.1 110 = .ok (.iload_n 1, 1) := by decide +kernel
theorem d_Mo_readTest_111 : decode M_Mo_readTest.2.1 111 = .ok (.iload 4, 2) := by decide +kernel
theorem d_Mo_readTest_113 : decode M_Mo_readTest.2.1 113 = .ok (.iload_n 2, 1) := by decide +kernel
theorem d_Mo_readTest_114 : decode M_Mo_readTest.2.1 114 = .ok (.invokevirtual 250, 3) := by decide +kernel
theorem xw_1454 : (Jvm.Cond.code ({ cls := "MarkerTextModel", name := "addTest", desc := "(III)V" } : Jvm.MethodName) prog_13_method_31_code (5 : Nat) (Option.none : Option Jvm.ClassFile.FieldType)) ∈ xT := xT_at 1454 (by decide +kernel) (by decide +kernel)
theorem xcb_Mo_addTest : xcb M_Mo_addTest 3 := ⟨xw_1454, xw_8, by decide, by decide, by decide, by decide +kernel⟩
theorem xw_1453 : (Jvm.Cond.instanceMethod ({ cls := "MarkerTextModel", name := "addTest", desc := "(III)V" } : Jvm.MethodName)) ∈ xT := xT_at 1453 (by decide +kernel) (by decide +kernel)
theorem xw_1451 : (Jvm.Cond.methodLink "MarkerTextModel" (250 : Nat) ({ cls := "MarkerTextModel", name := "addTest", desc := "(III)V" } : Jvm.MethodName)) ∈ xT := xT_at 1451 (by decide +kernel) (by decide +kernel)
theorem xsel_Mo_addTest : Cond.selects "MarkerTextModel" y_Mo_addTest y_Mo_addTest ∈ xT := xT_sel (q := (y_Mo_addTest, 52)) (by decide +kernel) (by decide +kernel)
theorem xcv_Mo_250_Mo : xCV "MarkerTextModel" 250 "MarkerTextModel" M_Mo_addTest 3 := ⟨xcb_Mo_addTest, xw_1453, Or.inl ⟨xw_1451, Or.inl xsel_Mo_addTest⟩⟩
theorem d_Mo_readTest_117 : decode M_Mo_readTest.2.1 117 = .ok (.return_, 1) := by decide +kernel
theorem d_Mo_readTest_102 : decode M_Mo_readTest.2.1 102 = .ok (.aload_n 0, 1) := by decide +kernel
theorem d_Mo_readTest_103 : decode M_Mo_readTest.2.1 103 = .ok (.getfield 190, 3) := by decide +kernel
theorem d_Mo_readTest_106 : decode M_Mo_readTest.2.1 106 = .ok (.ifCond .ge 11, 3) := by decide +kernel
theorem d_Mo_readTest_0 : decode M_Mo_readTest.2.1 0 = .ok (.aload_n 0, 1) := by decide +kernel
theorem d_Mo_readTest_1 : decode M_Mo_readTest.2.1 1 = .ok (.invokevirtual 225, 3) := by decide +kernel
theorem d_Mo_readTest_4 : decode M_Mo_readTest.2.1 4 = .ok (.bipush 64, 2) := by decide +kernel
theorem d_Mo_readTest_6 : decode M_Mo_readTest.2.1 6 = .ok (.aload_n 0, 1) := by decide +kernel
theorem d_Mo_readTest_7 : decode M_Mo_readTest.2.1 7 = .ok (.getfield 196, 3) := by decide +kernel
theorem d_Mo_readTest_10 : decode M_Mo_readTest.2.1 10 = .ok (.imul, 1) := by decide +kernel
theorem d_Mo_readTest_11 : decode M_Mo_readTest.2.1 11 = .ok (.aload_n 0, 1) := by decide +kernel
theorem d_Mo_readTest_12 : decode M_Mo_readTest.2.1 12 = .ok (.getfield 78, 3) := by decide +kernel
theorem d_Mo_readTest_15 : decode M_Mo_readTest.2.1 15 = .ok (.aload_n 0, 1) := by decide +kernel
theorem d_Mo_readTest_16 : decode M_Mo_readTest.2.1 16 = .ok (.getfield 196, 3) := by decide +kernel
theorem d_Mo_readTest_19 : decode M_Mo_readTest.2.1 19 = .ok (.iaload, 1) := by decide +kernel
theorem d_Mo_readTest_20 : decode M_Mo_readTest.2.1 20 = .ok (.iadd, 1) := by decide +kernel
theorem d_Mo_readTest_21 : decode M_Mo_readTest.2.1 21 = .ok (.istore_n 2, 1) := by decide +kernel
theorem d_Mo_readTest_22 : decode M_Mo_readTest.2.1 22 = .ok (.aload_n 0, 1) := by decide +kernel
theorem d_Mo_readTest_23 : decode M_Mo_readTest.2.1 23 = .ok (.aload_n 0, 1) := by decide +kernel
theorem d_Mo_readTest_24 : decode M_Mo_readTest.2.1 24 = .ok (.getfield 193, 3) := by decide +kernel
theorem d_Mo_readTest_27 : decode M_Mo_readTest.2.1 27 = .ok (.invokevirtual 241, 3) := by decide +kernel
theorem xw_1430 : (Jvm.Cond.code ({ cls := "MarkerTextModel", name := "letters", desc := "(I)I" } : Jvm.MethodName) prog_13_method_8_code (3 : Nat) (Option.some Jvm.ClassFile.FieldType.int)) ∈ xT := xT_at 1430 (by decide +kernel) (by decide +kernel)
theorem xcb_Mo_letters : xcb M_Mo_letters 1 := ⟨xw_1430, xw_8, by decide, by decide, by decide, by decide +kernel⟩
theorem xw_1429 : (Jvm.Cond.instanceMethod ({ cls := "MarkerTextModel", name := "letters", desc := "(I)I" } : Jvm.MethodName)) ∈ xT := xT_at 1429 (by decide +kernel) (by decide +kernel)
theorem xw_1427 : (Jvm.Cond.methodLink "MarkerTextModel" (241 : Nat) ({ cls := "MarkerTextModel", name := "letters", desc := "(I)I" } : Jvm.MethodName)) ∈ xT := xT_at 1427 (by decide +kernel) (by decide +kernel)
theorem xsel_Mo_letters : Cond.selects "MarkerTextModel" y_Mo_letters y_Mo_letters ∈ xT := xT_sel (q := (y_Mo_letters, 52)) (by decide +kernel) (by decide +kernel)
theorem xcv_Mo_241_Mo : xCV "MarkerTextModel" 241 "MarkerTextModel" M_Mo_letters 1 := ⟨xcb_Mo_letters, xw_1429, Or.inl ⟨xw_1427, Or.inl xsel_Mo_letters⟩⟩
theorem d_Mo_readTest_30 : decode M_Mo_readTest.2.1 30 = .ok (.istore_n 3, 1) := by decide +kernel
theorem d_Mo_readTest_31 : decode M_Mo_readTest.2.1 31 = .ok (.bipush 6, 2) := by decide +kernel
theorem d_Mo_readTest_33 : decode M_Mo_readTest.2.1 33 = .ok (.istore 4, 2) := by decide +kernel
theorem d_Mo_readTest_35 : decode M_Mo_readTest.2.1 35 = .ok (.iload_n 3, 1) := by decide +kernel
theorem d_Mo_readTest_36 : decode M_Mo_readTest.2.1 36 = .ok (.ifCond .le 48, 3) := by decide +kernel
theorem d_Mo_readTest_84 : decode M_Mo_readTest.2.1 84 = .ok (.aload_n 0, 1) := by decide +kernel
theorem d_Mo_readTest_85 : decode M_Mo_readTest.2.1 85 = .ok (.invokevirtual 247, 3) := by decide +kernel
theorem xw_1450 : (Jvm.Cond.code ({ cls := "MarkerTextModel", name := "operator", desc := "()I" } : Jvm.MethodName) prog_13_method_29_code (3 : Nat) (Option.some Jvm.ClassFile.FieldType.int)) ∈ xT := xT_at 1450 (by decide +kernel) (by decide +kernel)
theorem xcb_Mo_operator : xcb M_Mo_operator 0 := ⟨xw_1450, xw_8, by decide, by decide, by decide, by decide +kernel⟩
theorem xw_1449 : (Jvm.Cond.instanceMethod ({ cls := "MarkerTextModel", name := "operator", desc := "()I" } : Jvm.MethodName)) ∈ xT := xT_at 1449 (by decide +kernel) (by decide +kernel)
theorem xw_1447 : (Jvm.Cond.methodLink "MarkerTextModel" (247 : Nat) ({ cls := "MarkerTextModel", name := "operator", desc := "()I" } : Jvm.MethodName)) ∈ xT := xT_at 1447 (by decide +kernel) (by decide +kernel)
theorem xsel_Mo_operator : Cond.selects "MarkerTextModel" y_Mo_operator y_Mo_operator ∈ xT := xT_sel (q := (y_Mo_operator, 52)) (by decide +kernel) (by decide +kernel)
theorem xcv_Mo_247_Mo : xCV "MarkerTextModel" 247 "MarkerTextModel" M_Mo_operator 0 := ⟨xcb_Mo_operator, xw_1449, Or.inl ⟨xw_1447, Or.inl xsel_Mo_operator⟩⟩
theorem d_Mo_readTest_88 : decode M_Mo_readTest.2.1 88 = .ok (.istore 4, 2) := by decide +kernel
theorem d_Mo_readTest_90 : decode M_Mo_readTest.2.1 90 = .ok (.aload_n 0, 1) := by decide +kernel
theorem d_Mo_readTest_91 : decode M_Mo_readTest.2.1 91 = .ok (.getfield 190, 3) := by decide +kernel
theorem d_Mo_readTest_94 : decode M_Mo_readTest.2.1 94 = .ok (.ifCond .ge 8, 3) := by decide +kernel
theorem d_Mo_readTest_97 : decode M_Mo_readTest.2.1 97 = .ok (.aload_n 0, 1) := by decide +kernel
theorem d_Mo_readTest_98 : decode M_Mo_readTest.2.1 98 = .ok (.iload_n 1, 1) := by decide +kernel
theorem d_Mo_readTest_99 : decode M_Mo_readTest.2.1 99 = .ok (.invokevirtual 235, 3) := by decide +kernel
theorem d_Mo_readTest_39 : decode M_Mo_readTest.2.1 39 = .ok (.aload_n 0, 1) := by decide +kernel
theorem d_Mo_readTest_40 : decode M_Mo_readTest.2.1 40 = .ok (.aload_n 0, 1) := by decide +kernel
theorem d_Mo_readTest_41 : decode M_Mo_readTest.2.1 41 = .ok (.aload_n 0, 1) := by decide +kernel
theorem d_Mo_readTest_42 : decode M_Mo_readTest.2.1 42 = .ok (.getfield 193, 3) := by decide +kernel
theorem d_Mo_readTest_45 : decode M_Mo_readTest.2.1 45 = .ok (.iload_n 3, 1) := by decide +kernel
theorem d_Mo_readTest_46 : decode M_Mo_readTest.2.1 46 = .ok (.invokevirtual 154, 3) := by decide +kernel
theorem d_Mo_readTest_49 : decode M_Mo_readTest.2.1 49 = .ok (.invokevirtual 158, 3) := by decide +kernel
theorem d_Mo_readTest_52 : decode M_Mo_readTest.2.1 52 = .ok (.bipush 7, 2) := by decide +kernel
theorem d_Mo_readTest_54 : decode M_Mo_readTest.2.1 54 = .ok (.if_icmp .eq 12, 3) := by decide +kernel
theorem d_Mo_readTest_66 : decode M_Mo_readTest.2.1 66 = .ok (.aload_n 0, 1) := by decide +kernel
theorem d_Mo_readTest_67 : decode M_Mo_readTest.2.1 67 = .ok (.dup, 1) := by decide +kernel
theorem d_Mo_readTest_68 : decode M_Mo_readTest.2.1 68 = .ok (.getfield 193, 3) := by decide +kernel
theorem d_Mo_readTest_71 : decode M_Mo_readTest.2.1 71 = .ok (.iload_n 3, 1) := by decide +kernel
theorem d_Mo_readTest_72 : decode M_Mo_readTest.2.1 72 = .ok (.iadd, 1) := by decide +kernel
theorem d_Mo_readTest_73 : decode M_Mo_readTest.2.1 73 = .ok (.putfield 193, 3) := by decide +kernel
theorem d_Mo_readTest_76 : decode M_Mo_readTest.2.1 76 = .ok (.aload_n 0, 1) := by decide +kernel
theorem d_Mo_readTest_77 : decode M_Mo_readTest.2.1 77 = .ok (.iload_n 1, 1) := by decide +kernel
theorem d_Mo_readTest_78 : decode M_Mo_readTest.2.1 78 = .ok (.invokevirtual 244, 3) := by decide +kernel
theorem xw_1438 : (Jvm.Cond.code ({ cls := "MarkerTextModel", name := "readList", desc := "(I)V" } : Jvm.MethodName) prog_13_method_30_code (4 : Nat) (Option.none : Option Jvm.ClassFile.FieldType)) ∈ xT := xT_at 1438 (by decide +kernel) (by decide +kernel)
theorem xcb_Mo_readList : xcb M_Mo_readList 1 := ⟨xw_1438, xw_8, by decide, by decide, by decide, by decide +kernel⟩
theorem xw_1437 : (Jvm.Cond.instanceMethod ({ cls := "MarkerTextModel", name := "readList", desc := "(I)V" } : Jvm.MethodName)) ∈ xT := xT_at 1437 (by decide +kernel) (by decide +kernel)
theorem xw_1435 : (Jvm.Cond.methodLink "MarkerTextModel" (244 : Nat) ({ cls := "MarkerTextModel", name := "readList", desc := "(I)V" } : Jvm.MethodName)) ∈ xT := xT_at 1435 (by decide +kernel) (by decide +kernel)
theorem xsel_Mo_readList : Cond.selects "MarkerTextModel" y_Mo_readList y_Mo_readList ∈ xT := xT_sel (q := (y_Mo_readList, 52)) (by decide +kernel) (by decide +kernel)
theorem xcv_Mo_244_Mo : xCV "MarkerTextModel" 244 "MarkerTextModel" M_Mo_readList 1 := ⟨xcb_Mo_readList, xw_1437, Or.inl ⟨xw_1435, Or.inl xsel_Mo_readList⟩⟩
theorem d_Mo_readTest_81 : decode M_Mo_readTest.2.1 81 = .ok (.goto 21, 3) := by decide +kernel
theorem d_Mo_readTest_57 : decode M_Mo_readTest.2.1 57 = .ok (.aload_n 0, 1) := by decide +kernel
theorem d_Mo_readTest_58 : decode M_Mo_readTest.2.1 58 = .ok (.aload_n 0, 1) := by decide +kernel
theorem d_Mo_readTest_59 : decode M_Mo_readTest.2.1 59 = .ok (.getfield 193, 3) := by decide +kernel
theorem d_Mo_readTest_62 : decode M_Mo_readTest.2.1 62 = .ok (.invokevirtual 218, 3) := by decide +kernel
theorem d_Mo_readTest_65 : decode M_Mo_readTest.2.1 65 = .ok (.return_, 1) := by decide +kernel
abbrev y_Mo_readFirst : MethodName := ⟨"MarkerTextModel", "readFirst", "()V"⟩
abbrev M_Mo_readFirst : XMt := (y_Mo_readFirst, prog_13_method_33_code, 3, none)
theorem d_Mo_readFirst_46 : decode M_Mo_readFirst.2.1 46 = .ok (.istore_n 2, 1) := by decide +kernel
theorem d_Mo_readFirst_47 : decode M_Mo_readFirst.2.1 47 = .ok (.iload_n 2, 1) := by decide +kernel
theorem d_Mo_readFirst_48 : decode M_Mo_readFirst.2.1 48 = .ok (.iconst 1, 1) := by decide +kernel
theorem d_Mo_readFirst_49 : decode M_Mo_readFirst.2.1 49 = .ok (.if_icmp .ne 10, 3) := by decide +kernel
theorem d_Mo_readFirst_59 : decode M_Mo_readFirst.2.1 59 = .ok (.iload_n 2, 1) := by decide +kernel
theorem d_Mo_readFirst_60 : decode M_Mo_readFirst.2.1 60 = .ok (.ifCond .lt 14, 3) := by decide +kernel
theorem d_Mo_readFirst_74 : decode M_Mo_readFirst.2.1 74 = .ok (.aload_n 0, 1) := by decide +kernel
theorem d_Mo_readFirst_75 : decode M_Mo_readFirst.2.1 75 = .ok (.getfield 63, 3) := by decide +kernel
theorem d_Mo_readFirst_78 : decode M_Mo_readFirst.2.1 78 = .ok (.aload_n 0, 1) := by decide +kernel
theorem d_Mo_readFirst_79 : decode M_Mo_readFirst.2.1 79 = .ok (.getfield 196, 3) := by decide +kernel
theorem d_Mo_readFirst_82 : decode M_Mo_readFirst.2.1 82 = .ok (.iaload, 1) := by decide +kernel
theorem d_Mo_readFirst_83 : decode M_Mo_readFirst.2.1 83 = .ok (.bipush 40, 2) := by decide +kernel
theorem d_Mo_readFirst_85 : decode M_Mo_readFirst.2.1 85 = .ok (.if_icmp .ne 12, 3) := by decide +kernel
theorem d_Mo_readFirst_97 : decode M_Mo_readFirst.2.1 97 = .ok (.aload_n 0, 1) := by decide +kernel
theorem d_Mo_readFirst_98 : decode M_Mo_readFirst.2.1 98 = .ok (.dup, 1) := by decide +kernel
theorem d_Mo_readFirst_99 : decode M_Mo_readFirst.2.1 99 = .ok (.getfield 193, 3) := by decide +kernel
theorem d_Mo_readFirst_102 : decode M_Mo_readFirst.2.1 102 = .ok (.iload_n 1, 1) := by decide +kernel
theorem d_Mo_readFirst_103 : decode M_Mo_readFirst.2.1 103 = .ok (.iadd, 1) := by decide +kernel
theorem d_Mo_readFirst_104 : decode M_Mo_readFirst.2.1 104 = .ok (.putfield 193, 3) := by decide +kernel
theorem d_Mo_readFirst_107 : decode M_Mo_readFirst.2.1 107 = .ok (.iload_n 2, 1) := by decide +kernel
theorem d_Mo_readFirst_108 : decode M_Mo_readFirst.2.1 108 = .ok (.ifCond .ge 14, 3) := by decide +kernel
theorem d_Mo_readFirst_122 : decode M_Mo_readFirst.2.1 122 = .ok (.aload_n 0, 1) := by decide +kernel
theorem d_Mo_readFirst_123 : decode M_Mo_readFirst.2.1 123 = .ok (.iconst (-1), 1) := by decide +kernel
theorem d_Mo_readFirst_124 : decode M_Mo_readFirst.2.1 124 = .ok (.iload_n 2, 1) := by decide +kernel
theorem d_Mo_readFirst_125 : decode M_Mo_readFirst.2.1 125 = .ok (.iconst 5, 1) := by decide +kernel
theorem d_Mo_readFirst_126 : decode M_Mo_readFirst.2.1 126 = .ok (.if_icmp .ne 8, 3) := by decide +kernel
theorem d_Mo_readFirst_134 : decode M_Mo_readFirst.2.1 134 = .ok (.bipush 8, 2) := by decide +kernel
theorem d_Mo_readFirst_136 : decode M_Mo_readFirst.2.1 136 = .ok (.bipush 64, 2) := by decide +kernel
theorem d_Mo_readFirst_138 : decode M_Mo_readFirst.2.1 138 = .ok (.aload_n 0, 1) := by decide +kernel
theorem d_Mo_readFirst_139 : decode M_Mo_readFirst.2.1 139 = .ok (.getfield 196, 3) := by decide +kernel
theorem d_Mo_readFirst_142 : decode M_Mo_readFirst.2.1 142 = .ok (.imul, 1) := by decide +kernel
theorem d_Mo_readFirst_143 : decode M_Mo_readFirst.2.1 143 = .ok (.aload_n 0, 1) := by decide +kernel
theorem d_Mo_readFirst_144 : decode M_Mo_readFirst.2.1 144 = .ok (.getfield 78, 3) := by decide +kernel
theorem d_Mo_readFirst_147 : decode M_Mo_readFirst.2.1 147 = .ok (.aload_n 0, 1) := by decide +kernel
theorem d_Mo_readFirst_148 : decode M_Mo_readFirst.2.1 148 = .ok (.getfield 196, 3) := by decide +kernel
theorem d_Mo_readFirst_151 : decode M_Mo_readFirst.2.1 151 = .ok (.iaload, 1) := by decide +kernel
theorem d_Mo_readFirst_152 : decode M_Mo_readFirst.2.1 152 = .ok (.iadd, 1) := by decide +kernel
theorem d_Mo_readFirst_153 : decode M_Mo_readFirst.2.1 153 = .ok (.invokevirtual 250, 3) := by decide +kernel
theorem d_Mo_readFirst_156 : decode M_Mo_readFirst.2.1 156 = .ok (.return_, 1) := by decide +kernel
theorem d_Mo_readFirst_129 : decode M_Mo_readFirst.2.1 129 = .ok (.bipush 7, 2) := by decide +kernel
theorem d_Mo_readFirst_131 : decode M_Mo_readFirst.2.1 131 = .ok (.goto 5, 3) := by decide +kernel
theorem d_Mo_readFirst_111 : decode M_Mo_readFirst.2.1 111 = .ok (.aload_n 0, 1) := by decide +kernel
theorem d_Mo_readFirst_112 : decode M_Mo_readFirst.2.1 112 = .ok (.iload_n 2, 1) := by decide +kernel
theorem d_Mo_readFirst_113 : decode M_Mo_readFirst.2.1 113 = .ok (.bipush 100, 2) := by decide +kernel
theorem d_Mo_readFirst_115 : decode M_Mo_readFirst.2.1 115 = .ok (.iadd, 1) := by decide +kernel
theorem d_Mo_readFirst_116 : decode M_Mo_readFirst.2.1 116 = .ok (.invokevirtual 258, 3) := by decide +kernel
theorem xw_1434 : (Jvm.Cond.code ({ cls := "MarkerTextModel", name := "readTest", desc := "(I)V" } : Jvm.MethodName) prog_13_method_32_code (5 : Nat) (Option.none : Option Jvm.ClassFile.FieldType)) ∈ xT := xT_at 1434 (by decide +kernel) (by decide +kernel)
theorem xcb_Mo_readTest : xcb M_Mo_readTest 1 := ⟨xw_1434, xw_8, by decide, by decide, by decide, by decide +kernel⟩
theorem xw_1433 : (Jvm.Cond.instanceMethod ({ cls := "MarkerTextModel", name := "readTest", desc := "(I)V" } : Jvm.MethodName)) ∈ xT := xT_at 1433 (by decide +kernel) (by decide +kernel)
theorem xw_1431 : (Jvm.Cond.methodLink "MarkerTextModel" (258 : Nat) ({ cls := "MarkerTextModel", name := "readTest", desc := "(I)V" } : Jvm.MethodName)) ∈ xT := xT_at 1431 (by decide +kernel) (by decide +kernel)
theorem xsel_Mo_readTest : Cond.selects "MarkerTextModel" y_Mo_readTest y_Mo_readTest ∈ xT := xT_sel (q := (y_Mo_readTest, 52)) (by decide +kernel) (by decide +kernel)
theorem xcv_Mo_258_Mo : xCV "MarkerTextModel" 258 "MarkerTextModel" M_Mo_readTest 1 := ⟨xcb_Mo_readTest, xw_1433, Or.inl ⟨xw_1431, Or.inl xsel_Mo_readTest⟩⟩
theorem d_Mo_readFirst_119 : decode M_Mo_readFirst.2.1 119 = .ok (.goto 37, 3) := by decide +kernel
theorem d_Mo_readFirst_88 : decode M_Mo_readFirst.2.1 88 = .ok (.aload_n 0, 1) := by decide +kernel
theorem d_Mo_readFirst_89 : decode M_Mo_readFirst.2.1 89 = .ok (.aload_n 0, 1) := by decide +kernel
theorem d_Mo_readFirst_90 : decode M_Mo_readFirst.2.1 90 = .ok (.getfield 193, 3) := by decide +kernel
theorem d_Mo_readFirst_93 : decode M_Mo_readFirst.2.1 93 = .ok (.invokevirtual 218, 3) := by decide +kernel
theorem d_Mo_readFirst_96 : decode M_Mo_readFirst.2.1 96 = .ok (.return_, 1) := by decide +kernel
theorem d_Mo_readFirst_63 : decode M_Mo_readFirst.2.1 63 = .ok (.iload_n 2, 1) := by decide +kernel
theorem d_Mo_readFirst_64 : decode M_Mo_readFirst.2.1 64 = .ok (.iconst 5, 1) := by decide +kernel
theorem d_Mo_readFirst_65 : decode M_Mo_readFirst.2.1 65 = .ok (.if_icmp .eq 9, 3) := by decide +kernel
theorem d_Mo_readFirst_68 : decode M_Mo_readFirst.2.1 68 = .ok (.iload_n 2, 1) := by decide +kernel
theorem d_Mo_readFirst_69 : decode M_Mo_readFirst.2.1 69 = .ok (.bipush 6, 2) := by decide +kernel
theorem d_Mo_readFirst_71 : decode M_Mo_readFirst.2.1 71 = .ok (.if_icmp .ne 17, 3) := by decide +kernel
theorem d_Mo_readFirst_52 : decode M_Mo_readFirst.2.1 52 = .ok (.aload_n 0, 1) := by decide +kernel
theorem d_Mo_readFirst_53 : decode M_Mo_readFirst.2.1 53 = .ok (.iconst 1, 1) := by decide +kernel
theorem d_Mo_readFirst_54 : decode M_Mo_readFirst.2.1 54 = .ok (.iconst 3, 1) := by decide +kernel
theorem d_Mo_readFirst_55 : decode M_Mo_readFirst.2.1 55 = .ok (.invokevirtual 254, 3) := by decide +kernel
theorem xw_1418 : (Jvm.Cond.code ({ cls := "MarkerTextModel", name := "open", desc := "(II)V" } : Jvm.MethodName) prog_13_method_26_code (3 : Nat) (Option.none : Option Jvm.ClassFile.FieldType)) ∈ xT := xT_at 1418 (by decide +kernel) (by decide +kernel)
theorem xcb_Mo_open : xcb M_Mo_open 2 := ⟨xw_1418, xw_8, by decide, by decide, by decide, by decide +kernel⟩
theorem xw_1417 : (Jvm.Cond.instanceMethod ({ cls := "MarkerTextModel", name := "open", desc := "(II)V" } : Jvm.MethodName)) ∈ xT := xT_at 1417 (by decide +kernel) (by decide +kernel)
theorem xw_1415 : (Jvm.Cond.methodLink "MarkerTextModel" (254 : Nat) ({ cls := "MarkerTextModel", name := "open", desc := "(II)V" } : Jvm.MethodName)) ∈ xT := xT_at 1415 (by decide +kernel) (by decide +kernel)
theorem xsel_Mo_open : Cond.selects "MarkerTextModel" y_Mo_open y_Mo_open ∈ xT := xT_sel (q := (y_Mo_open, 52)) (by decide +kernel) (by decide +kernel)
theorem xcv_Mo_254_Mo : xCV "MarkerTextModel" 254 "MarkerTextModel" M_Mo_open 2 := ⟨xcb_Mo_open, xw_1417, Or.inl ⟨xw_1415, Or.inl xsel_Mo_open⟩⟩
theorem d_Mo_readFirst_58 : decode M_Mo_readFirst.2.1 58 = .ok (.return_, 1) := by decide +kernel
theorem d_Mo_readFirst_0 : decode M_Mo_readFirst.2.1 0 = .ok (.aload_n 0, 1) := by decide +kernel
theorem d_Mo_readFirst_1 : decode M_Mo_readFirst.2.1 1 = .ok (.invokevirtual 228, 3) := by decide +kernel
theorem d_Mo_readFirst_4 : decode M_Mo_readFirst.2.1 4 = .ok (.bipush 40, 2) := by decide +kernel
theorem d_Mo_readFirst_6 : decode M_Mo_readFirst.2.1 6 = .ok (.if_icmp .ne 10, 3) := by decide +kernel
theorem d_Mo_readFirst_16 : decode M_Mo_readFirst.2.1 16 = .ok (.aload_n 0, 1) := by decide +kernel
theorem d_Mo_readFirst_17 : decode M_Mo_readFirst.2.1 17 = .ok (.aload_n 0, 1) := by decide +kernel
theorem d_Mo_readFirst_18 : decode M_Mo_readFirst.2.1 18 = .ok (.getfield 193, 3) := by decide +kernel
theorem d_Mo_readFirst_21 : decode M_Mo_readFirst.2.1 21 = .ok (.invokevirtual 241, 3) := by decide +kernel
theorem d_Mo_readFirst_24 : decode M_Mo_readFirst.2.1 24 = .ok (.istore_n 1, 1) := by decide +kernel
theorem d_Mo_readFirst_25 : decode M_Mo_readFirst.2.1 25 = .ok (.iload_n 1, 1) := by decide +kernel
theorem d_Mo_readFirst_26 : decode M_Mo_readFirst.2.1 26 = .ok (.ifCond .le 19, 3) := by decide +kernel
theorem d_Mo_readFirst_45 : decode M_Mo_readFirst.2.1 45 = .ok (.iconst 0, 1) := by decide +kernel
theorem d_Mo_readFirst_29 : decode M_Mo_readFirst.2.1 29 = .ok (.aload_n 0, 1) := by decide +kernel
theorem d_Mo_readFirst_30 : decode M_Mo_readFirst.2.1 30 = .ok (.aload_n 0, 1) := by decide +kernel
theorem d_Mo_readFirst_31 : decode M_Mo_readFirst.2.1 31 = .ok (.aload_n 0, 1) := by decide +kernel
theorem d_Mo_readFirst_32 : decode M_Mo_readFirst.2.1 32 = .ok (.getfield 193, 3) := by decide +kernel
theorem d_Mo_readFirst_35 : decode M_Mo_readFirst.2.1 35 = .ok (.iload_n 1, 1) := by decide +kernel
theorem d_Mo_readFirst_36 : decode M_Mo_readFirst.2.1 36 = .ok (.invokevirtual 154, 3) := by decide +kernel
theorem d_Mo_readFirst_39 : decode M_Mo_readFirst.2.1 39 = .ok (.invokevirtual 158, 3) := by decide +kernel
theorem d_Mo_readFirst_42 : decode M_Mo_readFirst.2.1 42 = .ok (.goto 4, 3) := by decide +kernel
theorem d_Mo_readFirst_9 : decode M_Mo_readFirst.2.1 9 = .ok (.aload_n 0, 1) := by decide +kernel
theorem d_Mo_readFirst_10 : decode M_Mo_readFirst.2.1 10 = .ok (.iconst 4, 1) := by decide +kernel
theorem d_Mo_readFirst_11 : decode M_Mo_readFirst.2.1 11 = .ok (.iconst 1, 1) := by decide +kernel
theorem d_Mo_readFirst_12 : decode M_Mo_readFirst.2.1 12 = .ok (.invokevirtual 254, 3) := by decide +kernel
theorem d_Mo_readFirst_15 : decode M_Mo_readFirst.2.1 15 = .ok (.return_, 1) := by decide +kernel
end
section RF9
variable {l : Launch} {G : XG} {h : XH} {c n d : Nat} {o : Nat} {rf : Nat → Nat} {S : MS}
abbrev rtJ : List Nat := [27, 29, 32, 33, 35]
abbrev rtA : List Nat := [12, 13, 14, 15, 17, 18, 19, 20, 21, 23, 24, 26, 34]
/-- how readTest() ends -/
abbrev rtQ (S : MS) (P R : List Int) : Option Value → MS → Prop := fun v S' => v = none ∧ rSm S S' rtJ rtA [22] ∧ agO S S' (S.1 28) ∧ S'.1 33 ≤ S.1 33 ∧ S.1 27 ≤ S'.1 27 ∧ ((0 ≤ S'.1 29 ∧ S'.1 27 ≤ S.1 2 + 1) ∨ (S'.1 29 < 0 ∧ S'.1 27 ≤ S.1 2 ∧ gd (S'.2.1 21) (S.1 28) = gd (S.2.1 21) (S.1 28) + 1 ∧ ∃ P' R' w', rdOk S' P' R' w' ∧ R'.length = R.length + 1 ∧ cnt 2 P' = cnt 2 P ∧ cnt 3 P' = cnt 3 P))
theorem r_readTest (hd : 5 ≤ d) {P R : List Int} {w : Int → Int} {nm a0 : Int} (hn : 0 ≤ nm ∧ nm < 6) (hS : rdOk S P R w) (h27 : S.1 27 ≤ S.1 2) (hw : S.1 29 < 0) (hT : gd (S.2.1 21) (S.1 28) < 40) (h15 : 2 * (gd (S.2.1 15) (S.1 28) + cnt 1 P + cnt 2 P + cnt 3 P) ≤ a0) (h4 : 4 * gd (S.2.1 26) (S.1 28) ≤ a0) (h17 : 2 * (wsm w R + 7 * cnt 1 P + 10 * cnt 2 P + 7 * cnt 3 P) ≤ 7 * a0) (ha : a0 + 1 ≤ S.1 27) : RM l G d M_Mo_readTest [.ref o, .int (zI nm)] o rf S (rtQ S P R) := by
  obtain ⟨d, rfl⟩ : ∃ q, d = q + 1 := ⟨d - 1, by omega⟩
  intro H0 c n hR
  refine XM.of (by decide +kernel) (Nat.le_of_ble_eq_true rfl) ?_
  have hX : xonly H0 H0 RKs := xonly.rf
  obtain ⟨s1, s2, s3, s4, -, ⟨s8, s9⟩, -⟩ := id hS
  obtain ⟨p1, p2, p3, p4, p5, p6, p7, p8, p9, p10⟩ := id hS.2.2.2.2.2.2.2.2.1
  obtain ⟨z1, z2⟩ := id s1
  have l24 : _ = 576 := hR.len 24 (by decide)
  have l26 : _ = 9 := hR.len 26 (by decide)
  have hx3 : vnN S = 64 * S.1 28 + gd (S.2.1 26) (S.1 28) := rfl
  have hsp : ∀ a : Int, rSm S (sp S 27 a) rtJ rtA [22] := fun a => rSm.r0.sp (by decide)
  -- the test is added
  have j109 : ∀ (S1 : MS) (op n3 U : Int), 0 ≤ op → op ≤ 6 → rdOk S1 P R w → rSm S S1 [27, 29] [23, 24, 26] [22] → agO S S1 (S.1 28) → S.1 27 ≤ S1.1 27 → S1.1 27 ≤ S.1 2 → S1.1 29 < 0 → vnN S ≤ vnN S1 → U = sm (fun v => gd (S1.2.1 24) v + 4) (vnN S) (vnN S1 - vnN S).toNat → 2 * (14 + U) ≤ 7 * (S1.1 27 - a0) ∨ (op ≠ 6 ∧ 2 * (12 + U) ≤ 7 * (S1.1 27 - a0)) → a0 + 2 ≤ S1.1 27 → RX l G M_Mo_readTest (d + 1) 109 [some (.ref o), some (.int (zI nm)), some (.int (zI (vnN S))), some (.int (zI n3)), some (.int (zI op))] [] H0 o rf c n S1 (rtQ S P R) := by
    intro S1 op n3 U h0 h6 hS1 hsm hag h27' h1 hw1 hvn hU hor ha2 h hR hX
    have f2 := hsm.1 2 (by decide)
    have f28 := hsm.1 28 (by decide)
    have g15 := hsm.2.1 15 (by decide)
    have g20 := hsm.2.1 20 (by decide)
    have g21 := hsm.2.1 21 (by decide)
    have hb1 := hS1.2.2.2.2.2.2.2.2.1
    have hcon := r_addTest (l := l) (G := G) (o := o) (rf := rf) (d := d) (nm := nm) (op := op) (f := vnN S) (by omega) hS1 (by rw [f28, g21]; exact hT) ⟨h0, by omega⟩ (by omega) (fun _ => hn) ⟨by rw [f28]; omega, hvn⟩ (fun z => by omega) (by rw [f28, g20, g21]; omega) (by rw [f28, g15]; omega) (by
      have e : tsU S1 op (vnN S) = (if op = 6 then 14 else 12) + U := by
        rw [hU]
        exact if_neg (by omega)
      rw [e]
      split <;> omega)
    refine x_aload_n d_Mo_readTest_109 rfl rfl ?_
    refine x_iload_n d_Mo_readTest_110 rfl ?_
    refine x_iload d_Mo_readTest_111 rfl ?_
    refine x_iload_n d_Mo_readTest_113 rfl ?_
    refine x_callV (As := [_, _, _]) (k := k_MarkerTextModel) rfl xcv_Mo_250_Mo (Or.inl hR.1) (RM.ap hR hcon) rfl rfl (Nat.le_of_ble_eq_true rfl) d_Mo_readTest_114 ?_
    rintro v114 h cq nq ⟨S114, hR, hX114, rfl, rfl, rfl, ⟨P', R', w', hS', hr', hc2, hc3⟩, h33, hsm', hag', ht'⟩
    replace hX := hX.tr hX114
    refine x_vret d_Mo_readTest_117 rfl ?_
    have f27' := hsm'.1 27 (by decide)
    have f29' := hsm'.1 29 (by decide)
    have f33' := hsm.1 33 (by decide)
    rw [f28] at hag' ht'
    exact ⟨_, hR, hX, rfl, rfl, rfl, (hsm.mono (by decide) (by decide) (by decide)).tr (hsm'.mono (by decide) (by decide) (by decide)), hag.tr hag', by omega, by omega, Or.inr ⟨by omega, by omega, by rw [ht', g21], P', R', w', hS', hr', hc2, hc3⟩⟩
  have j102 : ∀ (S1 : MS) (op n3 : Int), rSm S S1 [27, 29] [23, 24, 26] [22] → agO S S1 (S.1 28) → S.1 27 ≤ S1.1 27 → S1.1 27 ≤ S.1 2 + 1 → (0 ≤ S1.1 29 ∨ (S1.1 29 < 0 ∧ 0 ≤ op ∧ op ≤ 6 ∧ rdOk S1 P R w ∧ S1.1 27 ≤ S.1 2 ∧ vnN S ≤ vnN S1 ∧ a0 + 2 ≤ S1.1 27 ∧ ∃ U : Int, U = sm (fun v => gd (S1.2.1 24) v + 4) (vnN S) (vnN S1 - vnN S).toNat ∧ (2 * (14 + U) ≤ 7 * (S1.1 27 - a0) ∨ (op ≠ 6 ∧ 2 * (12 + U) ≤ 7 * (S1.1 27 - a0))))) → RX l G M_Mo_readTest (d + 1) 102 [some (.ref o), some (.int (zI nm)), some (.int (zI (vnN S))), some (.int (zI n3)), some (.int (zI op))] [] H0 o rf c n S1 (rtQ S P R) := by
    intro S1 op n3 hsm hag h27' h1 hor h hR hX
    have f33 := hsm.1 33 (by decide)
    rcases hor with hor | ⟨e1, e2, e3, e4, e5, e6, e7, U, e8, e9⟩
    · refine x_aload_n d_Mo_readTest_102 rfl rfl ?_
      refine x_get xf_Mo_190_Mo (Or.inl hR.1) (v := .int (zI (S1.1 29))) rfl d_Mo_readTest_103 ?_
      have hb103 : inR (S1.1 29) := hR.2.2.2 29
      refine z_if_ge (tgt := 117) d_Mo_readTest_106 (by decide) (by omega) (fun _ => ?_) (fun hq => by omega)
      refine x_vret d_Mo_readTest_117 rfl ?_
      exact ⟨_, hR, hX, rfl, rfl, rfl, hsm.mono (by decide) (by decide) (by decide), hag, by omega, h27', Or.inl ⟨hor, h1⟩⟩
    · refine x_aload_n d_Mo_readTest_102 rfl rfl ?_
      refine x_get xf_Mo_190_Mo (Or.inl hR.1) (v := .int (zI (S1.1 29))) rfl d_Mo_readTest_103 ?_
      have hb103 : inR (S1.1 29) := hR.2.2.2 29
      refine z_if_ge (tgt := 117) d_Mo_readTest_106 (by decide) (by omega) (fun hq => by omega) (fun _ => ?_)
      exact j109 S1 op n3 U e2 e3 e4 hsm hag h27' e5 e1 e6 e8 e9 e7 _ hR hX
  have jList : ∀ (a r : Int) (S1 : MS), S.1 27 ≤ a → 0 ≤ r → rlQ (sp (sp S 27 a) 27 (a + r)) P R w a0 none S1 → RX l G M_Mo_readTest (d + 1) 102 [some (.ref o), some (.int (zI nm)), some (.int (zI (vnN S))), some (.int (zI r)), some (.int (zI 6))] [] H0 o rf c n S1 (rtQ S P R) := by
    intro a r S1 h1 h2 hq
    obtain ⟨-, hS1, hsm1, hag1, hl1, hor1⟩ := hq
    have hsmA : rSm S (sp (sp S 27 a) 27 (a + r)) [27, 29] [23, 24, 26] [22] := (rSm.r0.sp (by decide)).sp (by decide)
    have hagA : agO S (sp (sp S 27 a) 27 (a + r)) (S.1 28) := agO.sm (((rSm.r0 (js := [27]) (is := []) (ls := [])).sp (by decide)).sp (by decide)) (by decide)
    have hsm := hsmA.tr hsm1
    have f2 := hsm.1 2 (by decide)
    have f28 := hsm.1 28 (by decide)
    replace hl1 : a + r ≤ S1.1 27 := hl1
    have h27b := hS1.2.2.2.1
    refine j102 S1 6 r hsm (hagA.tr hag1) (by omega) (by omega) ?_
    rcases hor1 with hor1 | ⟨e1, e2, k, U, e3, e4, e5, e6, e7⟩
    · exact Or.inl hor1
    · replace e3 : gd (S1.2.1 26) (S.1 28) = gd (S.2.1 26) (S.1 28) + k := e3
      replace e2 : S1.1 27 ≤ S.1 2 := e2
      replace e5 : U = sm (fun v => gd (S1.2.1 24) v + 4) (vnN S) k.toNat := e5
      have hv : vnN S1 = vnN S + k := by
        show 64 * S1.1 28 + gd (S1.2.1 26) (S1.1 28) = _
        rw [f28, e3]
        omega
      exact Or.inr ⟨e1, by omega, by omega, hS1, e2, by omega, by omega, U, by rw [hv, show vnN S + k - vnN S = k by omega]; exact e5, Or.inl (by omega)⟩
  have jOpF : ∀ (a r op : Int) (S1 : MS), S.1 27 ≤ a → a ≤ S.1 2 → rSm (sp S 27 a) S1 [27, 29] [] [] → a + 1 ≤ S1.1 27 → S1.1 27 ≤ S.1 2 + 1 → 0 ≤ S1.1 29 → RX l G M_Mo_readTest (d + 1) 102 [some (.ref o), some (.int (zI nm)), some (.int (zI (vnN S))), some (.int (zI r)), some (.int (zI op))] [] H0 o rf c n S1 (rtQ S P R) := by
    intro a r op S1 h1 h2 hsm1 hl1 hu1 hw1
    have hsm : rSm S S1 [27, 29] [] [] := (rSm.r0.sp (by decide)).tr hsm1
    exact j102 S1 op r (hsm.mono (by decide) (by decide) (by decide)) (agO.sm hsm (by decide)) (by omega) hu1 (Or.inl hw1)
  have jVal : ∀ (a r op : Int) (S1 S2 : MS), S.1 27 ≤ a → a ≤ S.1 2 → 0 ≤ op → op ≤ 5 → rSm (sp S 27 a) S1 [27, 29] [] [] → a + 1 ≤ S1.1 27 → S1.1 27 ≤ S.1 2 → S1.1 29 < 0 → rvQ S1 none S2 → RX l G M_Mo_readTest (d + 1) 102 [some (.ref o), some (.int (zI nm)), some (.int (zI (vnN S))), some (.int (zI r)), some (.int (zI op))] [] H0 o rf c n S2 (rtQ S P R) := by
    intro a r op S1 S2 h1 h2 ho1 ho2 hsm1 hl1 hu1 hw1 hq
    have hsm : rSm S S1 [27, 29] [] [] := (rSm.r0.sp (by decide)).tr hsm1
    obtain ⟨-, hsm2, hl2, hu2, hor2⟩ := hq
    have f2 := hsm.1 2 (by decide)
    have f28 := hsm.1 28 (by decide)
    have g24 := hsm.2.1 24 (by decide)
    have g26 := hsm.2.1 26 (by decide)
    have hS1 : rdOk S1 P R w := rd_at hS hsm (by decide) (by decide) (by omega) (by omega)
    have hsm3 : rSm S S2 [27, 29] [23, 24, 26] [22] := (hsm.mono (by decide) (by decide) (by decide)).tr hsm2
    have hag1 : agO S S1 (S.1 28) := agO.sm hsm (by decide)
    rcases hor2 with ⟨e1, e2, e3⟩ | ⟨e1, ws, e2, e3, e4, e5, e6⟩
    · have hsmB : rSm S1 S2 [27, 29] [23] [22] := ⟨hsm2.1, fun i hi => by
          by_cases h24 : i = 24
          · rw [h24]; exact e2
          by_cases h26 : i = 26
          · rw [h26]; exact e3
          exact hsm2.2.1 i (fun z => by
            rcases List.mem_cons.mp z with rfl | z
            · exact hi (by decide)
            rcases List.mem_cons.mp z with rfl | z
            · exact h24 rfl
            rcases List.mem_cons.mp z with rfl | z
            · exact h26 rfl
            · cases z), hsm2.2.2⟩
      exact j102 S2 op r hsm3 (hag1.tr (agO.sm hsmB (by decide))) (by omega) (by omega) (Or.inl e1)
    · have hV1 : gd (S1.2.1 26) (S1.1 28) = gd (S.2.1 26) (S.1 28) := by rw [f28, g26]
      have l24' : (S1.2.1 24).length = 576 := by rw [g24]; exact l24
      have l26' : (S1.2.1 26).length = 9 := by rw [g26]; exact l26
      obtain ⟨r1, r2, r3, r4⟩ := rd_val hS1 hsm2 (by decide) (by decide) l24' l26' (ws := ws) (by omega) e5 e6 (by omega) (by omega) (by omega)
      have hg : agO S1 S2 (S.1 28) := by
        have := agO_val l24' l26' hsm2 (by omega) (by omega) e5 e6
        rw [f28] at this
        exact this
      have hvn : 64 * S1.1 28 + gd (S1.2.1 26) (S1.1 28) = vnN S := by rw [hV1, f28]
      rw [hvn] at r4
      have hv2 : vnN S2 = vnN S + 1 := by
        show 64 * S2.1 28 + gd (S2.2.1 26) (S2.1 28) = _
        rw [r2, hV1, hsm3.1 28 (by decide)]
        omega
      refine j102 S2 op r hsm3 (hag1.tr hg) (by omega) (by omega) (Or.inr ⟨e1, ho1, by omega, r1, by omega, by omega, by omega, ws + 4, ?_, Or.inr ⟨by omega, by omega⟩⟩)
      rw [hv2, show vnN S + 1 - vnN S = 1 by omega]
      show ws + 4 = 0 + (gd (S2.2.1 24) (vnN S + ((0 : Nat) : Int)) + 4)
      rw [show vnN S + ((0 : Nat) : Int) = vnN S by simp, r4]
      omega
  refine x_aload_n d_Mo_readTest_0 rfl rfl ?_
  refine x_callV (As := []) (k := k_MarkerTextModel) rfl xcv_Mo_225_Mo (Or.inl hR.1) (RM.ap hR (r_skip (by omega) s1)) rfl rfl (Nat.le_of_ble_eq_true rfl) d_Mo_readTest_1 ?_
  rintro v1 h cq nq ⟨S1, hR, hX1, rfl, rfl, a1, rfl, rfl, ha1, hb1, hc1⟩
  replace hX := hX.tr hX1
  refine x_bipush (v := zI 64) d_Mo_readTest_4 (by decide) ?_
  refine x_aload_n d_Mo_readTest_6 rfl rfl ?_
  refine x_get xf_Mo_196_Mo (Or.inl hR.1) (v := .int (zI (S.1 28))) rfl d_Mo_readTest_7 ?_
  have hb7 : inR (S.1 28) := hR.2.2.2 28
  refine z_imul d_Mo_readTest_10 ?_
  refine x_aload_n d_Mo_readTest_11 rfl rfl ?_
  refine x_get xf_Mo_78_Mo (Or.inl hR.1) (v := .ref (rf 26)) rfl d_Mo_readTest_12 ?_
  refine x_aload_n d_Mo_readTest_15 rfl rfl ?_
  refine x_get xf_Mo_196_Mo (Or.inl hR.1) (v := .int (zI (S.1 28))) rfl d_Mo_readTest_16 ?_
  have hb16 : inR (S.1 28) := hR.2.2.2 28
  refine r_iald (i := 26) (us := (S.2.1 26)) rfl (by decide) hR rfl (by omega) (by show S.1 28 < 9; omega) d_Mo_readTest_19 (fun hr19 => ?_)
  refine z_iadd d_Mo_readTest_20 ?_
  refine x_istore_n (L' := [_, _, _, _, _]) d_Mo_readTest_21 rfl rfl ?_
  refine x_aload_n d_Mo_readTest_22 rfl rfl ?_
  refine x_aload_n d_Mo_readTest_23 rfl rfl ?_
  refine x_get xf_Mo_193_Mo (Or.inl hR.1) (v := .int (zI a1)) rfl d_Mo_readTest_24 ?_
  have hb24 : inR a1 := hR.2.2.2 27
  refine x_callV (As := [_]) (k := k_MarkerTextModel) rfl xcv_Mo_241_Mo (Or.inl hR.1) (RM.ap hR (r_letters (by omega) (by omega) (by omega) s1)) rfl rfl (Nat.le_of_ble_eq_true rfl) d_Mo_readTest_27 ?_
  rintro v27 h cq nq ⟨S27, hR, hX27, rfl, rfl, hE27, r27, rfl, hr27a, hr27b, hr27c, hr27d⟩
  replace hE27 := Eq.symm hE27
  subst hE27
  replace hX := hX.tr hX27
  refine x_istore_n (L' := [_, _, _, _, _]) d_Mo_readTest_30 rfl rfl ?_
  refine x_bipush (v := zI 6) d_Mo_readTest_31 (by decide) ?_
  refine x_istore (L' := [_, _, _, _, _]) d_Mo_readTest_33 rfl rfl ?_
  replace hr27b : a1 ≤ S.1 2 → a1 + r27 ≤ S.1 2 := hr27b
  refine x_iload_n d_Mo_readTest_35 rfl ?_
  refine z_if_le (tgt := 84) d_Mo_readTest_36 (by decide) (by omega) (fun hc36 => ?_) (fun hc36 => ?_)
  · refine x_aload_n d_Mo_readTest_84 rfl rfl ?_
    refine x_callV (As := []) (k := k_MarkerTextModel) rfl xcv_Mo_247_Mo (Or.inl hR.1) (RM.ap hR (r_operator (by omega) s1 (by show 0 ≤ a1 ∧ a1 ≤ S.1 2; omega) hw)) rfl rfl (Nat.le_of_ble_eq_true rfl) d_Mo_readTest_85 ?_
    rintro v85 h cq nq ⟨S85, hR, hX85, rfl, rfl, ⟨r85, rfl, hr85a, hr85b⟩, hsm85, hl85, hor85⟩
    replace hX := hX.tr hX85
    replace hl85 : a1 + 1 ≤ S85.1 27 := hl85
    replace hor85 : (S85.1 29 < 0 ∧ S85.1 27 ≤ S.1 2) ∨ (0 ≤ S85.1 29 ∧ S85.1 27 ≤ S.1 2 + 1) := hor85
    refine x_istore (L' := [_, _, _, _, _]) d_Mo_readTest_88 rfl rfl ?_
    refine x_aload_n d_Mo_readTest_90 rfl rfl ?_
    refine x_get xf_Mo_190_Mo (Or.inl hR.1) (v := .int (zI (S85.1 29))) rfl d_Mo_readTest_91 ?_
    have hb91 : inR (S85.1 29) := hR.2.2.2 29
    refine z_if_ge (tgt := 102) d_Mo_readTest_94 (by decide) (by omega) (fun hc94 => ?_) (fun hc94 => ?_)
    · first | exact jList a1 r27 _ (by omega) (by omega) ⟨rfl, hq78⟩ _ hR hX | exact jVal a1 r27 r85 _ _ (by omega) (by omega) hr85a hr85b hsm85 hl85 (by omega) (by omega) ⟨rfl, hq99⟩ _ hR hX | exact jOpF a1 r27 r85 _ (by omega) (by omega) hsm85 hl85 (by omega) (by omega) _ hR hX
    · refine x_aload_n d_Mo_readTest_97 rfl rfl ?_
      refine x_iload_n d_Mo_readTest_98 rfl ?_
      have f2_ : S85.1 2 = S.1 2 := hsm85.1 2 (by decide)
      have f28_ : S85.1 28 = S.1 28 := hsm85.1 28 (by decide)
      have g26_ : S85.2.1 26 = S.2.1 26 := hsm85.2.1 26 (by decide)
      have hz85 : szOk S85 := ⟨by omega, by omega⟩
      have hV85 : gd (S85.2.1 26) (S85.1 28) = gd (S.2.1 26) (S.1 28) := by rw [f28_, g26_]
      refine x_callV (As := [_]) (k := k_MarkerTextModel) rfl xcv_Mo_235_Mo (Or.inl hR.1) (RM.ap hR (r_readValue (by omega) hn hz85 (by omega) (by omega) (by omega) (by omega))) rfl rfl (Nat.le_of_ble_eq_true rfl) d_Mo_readTest_99 ?_
      rintro v99 h cq nq ⟨S99, hR, hX99, rfl, rfl, rfl, hq99⟩
      replace hX := hX.tr hX99
      first | exact jList a1 r27 _ (by omega) (by omega) ⟨rfl, hq78⟩ _ hR hX | exact jVal a1 r27 r85 _ _ (by omega) (by omega) hr85a hr85b hsm85 hl85 (by omega) (by omega) ⟨rfl, hq99⟩ _ hR hX | exact jOpF a1 r27 r85 _ (by omega) (by omega) hsm85 hl85 (by omega) (by omega) _ hR hX
  · refine x_aload_n d_Mo_readTest_39 rfl rfl ?_
    refine x_aload_n d_Mo_readTest_40 rfl rfl ?_
    refine x_aload_n d_Mo_readTest_41 rfl rfl ?_
    refine x_get xf_Mo_193_Mo (Or.inl hR.1) (v := .int (zI a1)) rfl d_Mo_readTest_42 ?_
    have hb42 : inR a1 := hR.2.2.2 27
    refine x_iload_n d_Mo_readTest_45 rfl ?_
    refine x_callV (As := [_, _]) (k := k_MarkerTextModel) rfl xcv_Mo_154_Mo (Or.inl hR.1) (RM.ap hR (r_wordL (by omega) (by omega) (by omega) (by omega) (by omega) hr27d)) rfl rfl (Nat.le_of_ble_eq_true rfl) d_Mo_readTest_46 ?_
    rintro v46 h cq nq ⟨S46, hR, hX46, rfl, rfl, hE46, z46, rfl, hz46⟩
    replace hE46 := Eq.symm hE46
    subst hE46
    replace hX := hX.tr hX46
    refine x_callV (As := [_]) (k := k_MarkerTextModel) rfl xcv_Mo_158_Mo (Or.inl hR.1) (RM.ap hR (r_meaning s2)) rfl rfl (Nat.le_of_ble_eq_true rfl) d_Mo_readTest_49 ?_
    rintro v49 h cq nq ⟨S49, hR, hX49, rfl, rfl, hE49, r49, rfl, hr49, hk49⟩
    replace hE49 := Eq.symm hE49
    subst hE49
    replace hX := hX.tr hX49
    have hm49 := mF_of hz46 hk49
    replace hr49 : (0 ≤ r49 ∧ r49 ≤ 7 ∧ r49 ≠ 4) ∨ (-100 ≤ r49 ∧ r49 < S.1 3 - 100) := hr49
    have hn3 := s2.2.1
    refine x_bipush (v := zI 7) d_Mo_readTest_52 (by decide) ?_
    refine z_icmp_eq (tgt := 66) d_Mo_readTest_54 (by decide) (by omega) (by omega) (fun hc54 => ?_) (fun hc54 => ?_)
    · refine x_aload_n d_Mo_readTest_66 rfl rfl ?_
      refine x_dup d_Mo_readTest_67 rfl ?_
      refine x_get xf_Mo_193_Mo (Or.inl hR.1) (v := .int (zI a1)) rfl d_Mo_readTest_68 ?_
      have hb68 : inR a1 := hR.2.2.2 27
      refine x_iload_n d_Mo_readTest_71 rfl ?_
      refine z_iadd d_Mo_readTest_72 ?_
      refine r_put xf_Mo_193_Mo xp_Mo_27 hR hX (by omega) rfl rfl d_Mo_readTest_73 ?_
      intro h hR hX
      refine x_aload_n d_Mo_readTest_76 rfl rfl ?_
      refine x_iload_n d_Mo_readTest_77 rfl ?_
      have hS2 : rdOk (sp (sp S 27 a1) 27 (a1 + r27)) P R w := rd_at hS (((rSm.r0 (js := [27]) (is := []) (ls := [])).sp (by decide)).sp (by decide)) (by decide) (by decide) (by show S.1 27 ≤ a1 + r27; omega) (by show a1 + r27 ≤ S.1 2 + 1; omega)
      refine x_callV (As := [_]) (k := k_MarkerTextModel) rfl xcv_Mo_244_Mo (Or.inl hR.1) (RM.ap hR (r_readList (S := sp (sp S 27 a1) 27 (a1 + r27)) (a0 := a0) (by omega) hn hS2 (by show a1 + r27 ≤ S.1 2; omega) hw h4 (by show a0 + 3 ≤ a1 + r27; omega))) rfl rfl (Nat.le_of_ble_eq_true rfl) d_Mo_readTest_78 ?_
      rintro v78 h cq nq ⟨S78, hR, hX78, rfl, rfl, rfl, hq78⟩
      replace hX := hX.tr hX78
      refine x_goto (tgt := 102) d_Mo_readTest_81 (by decide) ?_
      first | exact jList a1 r27 _ (by omega) (by omega) ⟨rfl, hq78⟩ _ hR hX | exact jVal a1 r27 r85 _ _ (by omega) (by omega) hr85a hr85b hsm85 hl85 (by omega) (by omega) ⟨rfl, hq99⟩ _ hR hX | exact jOpF a1 r27 r85 _ (by omega) (by omega) hsm85 hl85 (by omega) (by omega) _ hR hX
    · refine x_aload_n d_Mo_readTest_57 rfl rfl ?_
      refine x_aload_n d_Mo_readTest_58 rfl rfl ?_
      refine x_get xf_Mo_193_Mo (Or.inl hR.1) (v := .int (zI a1)) rfl d_Mo_readTest_59 ?_
      have hb59 : inR a1 := hR.2.2.2 27
      refine x_callV (As := [_]) (k := k_MarkerTextModel) rfl xcv_Mo_218_Mo (Or.inl hR.1) (RM.ap hR (r_fault (by omega))) rfl rfl (Nat.le_of_ble_eq_true rfl) d_Mo_readTest_62 ?_
      rintro v62 h cq nq ⟨S62, hR, hX62, rfl, rfl, a62, rfl, rfl, ha62⟩
      replace hX := hX.tr hX62
      replace ha62 : (S.1 29 < 0 ∧ a62 = a1) ∨ (0 ≤ S.1 29 ∧ a62 = S.1 29) := ha62
      refine x_vret d_Mo_readTest_65 rfl ?_
      exact ⟨_, hR, hX, rfl, rfl, rfl, (rSm.r0.sp (by decide)).sp (by decide), agO.sm (((rSm.r0 (js := [27, 29]) (is := []) (ls := [])).sp (by decide)).sp (by decide)) (by decide), by show S.1 33 ≤ S.1 33; omega, by show S.1 27 ≤ a1; omega, Or.inl ⟨by show 0 ≤ a62; omega, by show a1 ≤ S.1 2 + 1; omega⟩⟩
/-- how readFirst() ends -/
abbrev rfQ (S : MS) (P R : List Int) : Option Value → MS → Prop := fun v S' => v = none ∧ rSm S S' rtJ (31 :: rtA) [22] ∧ agO S S' (S.1 28) ∧ S.1 27 ≤ S'.1 27 ∧ ((0 ≤ S'.1 29 ∧ S'.1 27 ≤ S.1 2 + 1) ∨ (S'.1 29 < 0 ∧ S'.1 27 ≤ S.1 2 ∧ S.1 27 + 1 ≤ S'.1 27 ∧ S'.1 33 ≤ 12 ∧ ∃ P' R' w', rdOk S' P' R' w' ∧ ((gd (S'.2.1 21) (S.1 28) = gd (S.2.1 21) (S.1 28) ∧ R'.length = R.length ∧ cnt 2 P' = cnt 2 P ∧ cnt 3 P' = cnt 3 P) ∨ (gd (S'.2.1 21) (S.1 28) = gd (S.2.1 21) (S.1 28) + 1 ∧ R'.length = R.length + 1 ∧ cnt 2 P' = cnt 2 P ∧ cnt 3 P' = cnt 3 P))))
theorem r_readFirst (hd : 6 ≤ d) {P R : List Int} {w : Int → Int} (hS : rdOk S P R w) (h27 : S.1 27 ≤ S.1 2) (hw : S.1 29 < 0) (h33 : S.1 33 ≤ 12) : RM l G d M_Mo_readFirst [.ref o] o rf S (rfQ S P R) := by
  obtain ⟨d, rfl⟩ : ∃ q, d = q + 1 := ⟨d - 1, by omega⟩
  intro H0 c n hR
  refine XM.of (by decide +kernel) (Nat.le_of_ble_eq_true rfl) ?_
  have hX : xonly H0 H0 RKs := xonly.rf
  obtain ⟨s1, s2, s3, s4, ⟨s5, s6, s7⟩, ⟨s8, s9⟩, ⟨s10, s11, s12⟩, ⟨s13, s13b⟩, s14, s15, s16, s17⟩ := id hS
  obtain ⟨p1, p2, p3, p4, p5, p6, p7, p8, p9, p10⟩ := id s14
  obtain ⟨z1, z2⟩ := id s1
  have hx3 : vnN S = 64 * S.1 28 + gd (S.2.1 26) (S.1 28) := rfl
  -- behind an opening
  have jo : ∀ (S' : MS) (k e : Int), 1 ≤ e → S.1 27 + e ≤ S.1 2 → (k = 1 ∨ k = 4) → opQ S P R w k e none S' → rfQ S P R none S' := by
    rintro S' k e he1 he2 hk ⟨-, h1, h2, h3, h4⟩
    refine ⟨rfl, h2.mono (by decide) (by decide) (by decide), agO.sm h2 (by decide), by omega, ?_⟩
    have g21 := h2.2.1 21 (by decide)
    have hs8 := h1.2.2.2.2.2.1.1
    rcases h4 with ⟨q1, q2⟩ | ⟨q1, q2⟩
    · exact Or.inl ⟨q2, by omega⟩
    · refine Or.inr ⟨by omega, by omega, by omega, ?_, _, _, _, h1, Or.inl ⟨by rw [g21], rfl, ?_, ?_⟩⟩
      · simp only [cnt] at hs8
        rcases hk with rfl | rfl <;> simp at hs8 <;> omega
      · simp only [cnt]
        rcases hk with rfl | rfl <;> simp
      · simp only [cnt]
        rcases hk with rfl | rfl <;> simp
  have jt : ∀ (r : Int) (S' : MS), 1 ≤ r → S.1 27 + r ≤ S.1 2 → rtQ (sp S 27 (S.1 27 + r)) P R none S' → rfQ S P R none S' := by
    rintro r S' h1 h2 ⟨-, g1, g2, g3, g4, g5⟩
    replace g3 : S'.1 33 ≤ S.1 33 := g3
    replace g4 : S.1 27 + r ≤ S'.1 27 := g4
    refine ⟨rfl, ((rSm.r0 (js := rtJ) (is := rtA) (ls := [22])).sp (j := 27) (z := S.1 27 + r) (by decide)).tr g1 |>.mono (by decide) (by decide) (by decide), (agO.sm ((rSm.r0 (js := [27]) (is := []) (ls := [])).sp (by decide)) (by decide)).tr g2, by omega, ?_⟩
    rcases g5 with ⟨q1, q2⟩ | ⟨q1, q2, q3, P', R', w', q4, q5, q6, q7⟩
    · exact Or.inl ⟨q1, q2⟩
    · exact Or.inr ⟨q1, q2, by omega, by omega, P', R', w', q4, Or.inr ⟨q3, q5, q6, q7⟩⟩
  have jc : ∀ (r : Int) (S' : MS), 1 ≤ r → S.1 27 + r ≤ S.1 2 → adQ (sp S 27 (S.1 27 + r)) P R none S' → rfQ S P R none S' := by
    rintro r S' h1 h2 ⟨-, ⟨P', R', w', q4, q5, q6, q7⟩, g3, g1, g2, q3⟩
    have f27 : S'.1 27 = S.1 27 + r := g1.1 27 (by decide)
    have f29 : S'.1 29 = S.1 29 := g1.1 29 (by decide)
    replace g3 : S'.1 33 ≤ S.1 33 := g3
    refine ⟨rfl, ((rSm.r0 (js := rtJ) (is := 31 :: rtA) (ls := [22])).sp (j := 27) (z := S.1 27 + r) (by decide)).tr (g1.mono (by decide) (by decide) (by decide)), (agO.sm ((rSm.r0 (js := [27]) (is := []) (ls := [])).sp (by decide)) (by decide)).tr g2, by omega, ?_⟩
    exact Or.inr ⟨by omega, by omega, by omega, by omega, P', R', w', q4, Or.inr ⟨q3, q5, q6, q7⟩⟩
  have hfl : ∀ (a : Int), 0 ≤ a → rfQ S P R none (sp S 29 a) := fun a ha => ⟨rfl, rSm.r0.sp (by decide), agO.sm ((rSm.r0 (js := [29]) (is := []) (ls := [])).sp (by decide)) (by decide), Int.le_refl _, Or.inl ⟨ha, s4.2⟩⟩
  have j46 : ∀ (r m : Int), 0 ≤ r → S.1 27 + r ≤ S.1 2 → mnR S m → mF r m → (m < 0 → 1 ≤ r) → RX l G M_Mo_readFirst (d + 1) 46 [some (.ref o), some (.int (zI r)), none] [.int (zI m)] H0 o rf c n S (rfQ S P R) := by
    intro r m hr1 hr2 hm hmf hmn h hR hX
    have hn3 := s2.2.1
    have hS2 : ∀ e : Int, 0 ≤ e → e ≤ r → rdOk (sp S 27 (S.1 27 + e)) P R w := fun e h1 h2 => rd_at hS ((rSm.r0 (js := [27]) (is := []) (ls := [])).sp (by decide)) (by decide) (by decide) (by show S.1 27 ≤ S.1 27 + e; omega) (by show S.1 27 + e ≤ S.1 2 + 1; omega)
    refine x_istore_n (L' := [_, _, _]) d_Mo_readFirst_46 rfl rfl ?_
    refine x_iload_n d_Mo_readFirst_47 rfl ?_
    refine x_iconst (v := zI 1) d_Mo_readFirst_48 (by decide) ?_
    refine z_icmp_ne (tgt := 59) d_Mo_readFirst_49 (by decide) (by omega) (by omega) (fun hc49 => ?_) (fun hc49 => ?_)
    · refine x_iload_n d_Mo_readFirst_59 rfl ?_
      refine z_if_lt (tgt := 74) d_Mo_readFirst_60 (by decide) (by omega) (fun hc60 => ?_) (fun hc60 => ?_)
      · refine x_aload_n d_Mo_readFirst_74 rfl rfl ?_
        refine x_get xf_Mo_63_Mo (Or.inl hR.1) (v := .ref (rf 21)) rfl d_Mo_readFirst_75 ?_
        refine x_aload_n d_Mo_readFirst_78 rfl rfl ?_
        refine x_get xf_Mo_196_Mo (Or.inl hR.1) (v := .int (zI (S.1 28))) rfl d_Mo_readFirst_79 ?_
        have hb79 : inR (S.1 28) := hR.2.2.2 28
        refine r_iald (i := 21) (us := (S.2.1 21)) rfl (by decide) hR rfl (by omega) (by show S.1 28 < 9; omega) d_Mo_readFirst_82 (fun hr82 => ?_)
        refine x_bipush (v := zI 40) d_Mo_readFirst_83 (by decide) ?_
        refine z_icmp_ne (tgt := 97) d_Mo_readFirst_85 (by decide) (by omega) (by omega) (fun hc85 => ?_) (fun hc85 => ?_)
        · refine x_aload_n d_Mo_readFirst_97 rfl rfl ?_
          refine x_dup d_Mo_readFirst_98 rfl ?_
          refine x_get xf_Mo_193_Mo (Or.inl hR.1) (v := .int (zI (S.1 27))) rfl d_Mo_readFirst_99 ?_
          have hb99 : inR (S.1 27) := hR.2.2.2 27
          refine x_iload_n d_Mo_readFirst_102 rfl ?_
          refine z_iadd d_Mo_readFirst_103 ?_
          refine r_put xf_Mo_193_Mo xp_Mo_27 hR hX (by omega) rfl rfl d_Mo_readFirst_104 ?_
          intro h hR hX
          refine x_iload_n d_Mo_readFirst_107 rfl ?_
          refine z_if_ge (tgt := 122) d_Mo_readFirst_108 (by decide) (by omega) (fun hc108 => ?_) (fun hc108 => ?_)
          · refine x_aload_n d_Mo_readFirst_122 rfl rfl ?_
            refine x_iconst (v := zI (-1)) d_Mo_readFirst_123 (by decide) ?_
            refine x_iload_n d_Mo_readFirst_124 rfl ?_
            refine x_iconst (v := zI 5) d_Mo_readFirst_125 (by decide) ?_
            refine z_icmp_ne (tgt := 134) d_Mo_readFirst_126 (by decide) (by omega) (by omega) (fun hc126 => ?_) (fun hc126 => ?_)
            · refine x_bipush (v := zI 8) d_Mo_readFirst_134 (by decide) ?_
              refine x_bipush (v := zI 64) d_Mo_readFirst_136 (by decide) ?_
              refine x_aload_n d_Mo_readFirst_138 rfl rfl ?_
              refine x_get xf_Mo_196_Mo (Or.inl hR.1) (v := .int (zI (S.1 28))) rfl d_Mo_readFirst_139 ?_
              have hb139 : inR (S.1 28) := hR.2.2.2 28
              refine z_imul d_Mo_readFirst_142 ?_
              refine x_aload_n d_Mo_readFirst_143 rfl rfl ?_
              refine x_get xf_Mo_78_Mo (Or.inl hR.1) (v := .ref (rf 26)) rfl d_Mo_readFirst_144 ?_
              refine x_aload_n d_Mo_readFirst_147 rfl rfl ?_
              refine x_get xf_Mo_196_Mo (Or.inl hR.1) (v := .int (zI (S.1 28))) rfl d_Mo_readFirst_148 ?_
              have hb148 : inR (S.1 28) := hR.2.2.2 28
              refine r_iald (i := 26) (us := (S.2.1 26)) rfl (by decide) hR rfl (by omega) (by show S.1 28 < 9; omega) d_Mo_readFirst_151 (fun hr151 => ?_)
              refine z_iadd d_Mo_readFirst_152 ?_
              refine x_callV (As := [_, _, _]) (k := k_MarkerTextModel) rfl xcv_Mo_250_Mo (Or.inl hR.1) (RM.ap hR (r_addTest (S := sp S 27 (S.1 27 + r)) (by omega) (hS2 r (by omega) (by omega)) (by show gd (S.2.1 21) (S.1 28) < 40; omega) (by omega) (by decide) (fun z => by omega) ⟨by show 64 * S.1 28 ≤ vnN S; omega, Int.le_refl _⟩ (fun _ => rfl) (by show sm (gd (S.2.1 20)) (40 * S.1 28) (gd (S.2.1 21) (S.1 28)).toNat ≤ vnN S - 64 * S.1 28; omega) (by show 2 * (gd (S.2.1 15) (S.1 28) + 1 + cnt 1 P + cnt 2 P + cnt 3 P) ≤ S.1 27 + r; omega) (by rw [show tsU (sp S 27 (S.1 27 + r)) _ _ = 5 from if_pos (by omega)]; show 2 * (wsm w R + 5 + 7 * cnt 1 P + 10 * cnt 2 P + 7 * cnt 3 P) ≤ 7 * (S.1 27 + r); omega))) rfl rfl (Nat.le_of_ble_eq_true rfl) d_Mo_readFirst_153 ?_
              rintro v153 h cq nq ⟨S153, hR, hX153, rfl, rfl, rfl, hq153⟩
              replace hX := hX.tr hX153
              refine x_vret d_Mo_readFirst_156 rfl ?_
              first | exact ⟨_, hR, hX, rfl, rfl, jt r _ (by omega) (by omega) ⟨rfl, hq116⟩⟩ | exact ⟨_, hR, hX, rfl, rfl, jc r _ (by omega) (by omega) ⟨rfl, hq153⟩⟩
            · refine x_bipush (v := zI 7) d_Mo_readFirst_129 (by decide) ?_
              refine x_goto (tgt := 136) d_Mo_readFirst_131 (by decide) ?_
              refine x_bipush (v := zI 64) d_Mo_readFirst_136 (by decide) ?_
              refine x_aload_n d_Mo_readFirst_138 rfl rfl ?_
              refine x_get xf_Mo_196_Mo (Or.inl hR.1) (v := .int (zI (S.1 28))) rfl d_Mo_readFirst_139 ?_
              have hb139 : inR (S.1 28) := hR.2.2.2 28
              refine z_imul d_Mo_readFirst_142 ?_
              refine x_aload_n d_Mo_readFirst_143 rfl rfl ?_
              refine x_get xf_Mo_78_Mo (Or.inl hR.1) (v := .ref (rf 26)) rfl d_Mo_readFirst_144 ?_
              refine x_aload_n d_Mo_readFirst_147 rfl rfl ?_
              refine x_get xf_Mo_196_Mo (Or.inl hR.1) (v := .int (zI (S.1 28))) rfl d_Mo_readFirst_148 ?_
              have hb148 : inR (S.1 28) := hR.2.2.2 28
              refine r_iald (i := 26) (us := (S.2.1 26)) rfl (by decide) hR rfl (by omega) (by show S.1 28 < 9; omega) d_Mo_readFirst_151 (fun hr151 => ?_)
              refine z_iadd d_Mo_readFirst_152 ?_
              refine x_callV (As := [_, _, _]) (k := k_MarkerTextModel) rfl xcv_Mo_250_Mo (Or.inl hR.1) (RM.ap hR (r_addTest (S := sp S 27 (S.1 27 + r)) (by omega) (hS2 r (by omega) (by omega)) (by show gd (S.2.1 21) (S.1 28) < 40; omega) (by omega) (by decide) (fun z => by omega) ⟨by show 64 * S.1 28 ≤ vnN S; omega, Int.le_refl _⟩ (fun _ => rfl) (by show sm (gd (S.2.1 20)) (40 * S.1 28) (gd (S.2.1 21) (S.1 28)).toNat ≤ vnN S - 64 * S.1 28; omega) (by show 2 * (gd (S.2.1 15) (S.1 28) + 1 + cnt 1 P + cnt 2 P + cnt 3 P) ≤ S.1 27 + r; omega) (by rw [show tsU (sp S 27 (S.1 27 + r)) _ _ = 5 from if_pos (by omega)]; show 2 * (wsm w R + 5 + 7 * cnt 1 P + 10 * cnt 2 P + 7 * cnt 3 P) ≤ 7 * (S.1 27 + r); omega))) rfl rfl (Nat.le_of_ble_eq_true rfl) d_Mo_readFirst_153 ?_
              rintro v153 h cq nq ⟨S153, hR, hX153, rfl, rfl, rfl, hq153⟩
              replace hX := hX.tr hX153
              refine x_vret d_Mo_readFirst_156 rfl ?_
              first | exact ⟨_, hR, hX, rfl, rfl, jt r _ (by omega) (by omega) ⟨rfl, hq116⟩⟩ | exact ⟨_, hR, hX, rfl, rfl, jc r _ (by omega) (by omega) ⟨rfl, hq153⟩⟩
          · refine x_aload_n d_Mo_readFirst_111 rfl rfl ?_
            refine x_iload_n d_Mo_readFirst_112 rfl ?_
            refine x_bipush (v := zI 100) d_Mo_readFirst_113 (by decide) ?_
            refine z_iadd d_Mo_readFirst_115 ?_
            refine x_callV (As := [_]) (k := k_MarkerTextModel) rfl xcv_Mo_258_Mo (Or.inl hR.1) (RM.ap hR (r_readTest (S := sp S 27 (S.1 27 + r)) (a0 := S.1 27) (by omega) (by omega) (hS2 r (by omega) (by omega)) (by show S.1 27 + r ≤ S.1 2; omega) hw (by show gd (S.2.1 21) (S.1 28) < 40; omega) s15 s16 s17 (by show S.1 27 + 1 ≤ S.1 27 + r; omega))) rfl rfl (Nat.le_of_ble_eq_true rfl) d_Mo_readFirst_116 ?_
            rintro v116 h cq nq ⟨S116, hR, hX116, rfl, rfl, rfl, hq116⟩
            replace hX := hX.tr hX116
            refine x_goto (tgt := 156) d_Mo_readFirst_119 (by decide) ?_
            refine x_vret d_Mo_readFirst_156 rfl ?_
            first | exact ⟨_, hR, hX, rfl, rfl, jt r _ (by omega) (by omega) ⟨rfl, hq116⟩⟩ | exact ⟨_, hR, hX, rfl, rfl, jc r _ (by omega) (by omega) ⟨rfl, hq153⟩⟩
        · refine x_aload_n d_Mo_readFirst_88 rfl rfl ?_
          refine x_aload_n d_Mo_readFirst_89 rfl rfl ?_
          refine x_get xf_Mo_193_Mo (Or.inl hR.1) (v := .int (zI (S.1 27))) rfl d_Mo_readFirst_90 ?_
          have hb90 : inR (S.1 27) := hR.2.2.2 27
          refine x_callV (As := [_]) (k := k_MarkerTextModel) rfl xcv_Mo_218_Mo (Or.inl hR.1) (RM.ap hR (r_fault (by omega))) rfl rfl (Nat.le_of_ble_eq_true rfl) d_Mo_readFirst_93 ?_
          rintro v93 h cq nq ⟨S93, hR, hX93, rfl, rfl, a93, rfl, rfl, ha93⟩
          replace hX := hX.tr hX93
          refine x_vret d_Mo_readFirst_96 rfl ?_
          exact ⟨_, hR, hX, rfl, rfl, hfl a93 (by omega)⟩
      · refine x_iload_n d_Mo_readFirst_63 rfl ?_
        refine x_iconst (v := zI 5) d_Mo_readFirst_64 (by decide) ?_
        refine z_icmp_eq (tgt := 74) d_Mo_readFirst_65 (by decide) (by omega) (by omega) (fun hc65 => ?_) (fun hc65 => ?_)
        · refine x_aload_n d_Mo_readFirst_74 rfl rfl ?_
          refine x_get xf_Mo_63_Mo (Or.inl hR.1) (v := .ref (rf 21)) rfl d_Mo_readFirst_75 ?_
          refine x_aload_n d_Mo_readFirst_78 rfl rfl ?_
          refine x_get xf_Mo_196_Mo (Or.inl hR.1) (v := .int (zI (S.1 28))) rfl d_Mo_readFirst_79 ?_
          have hb79 : inR (S.1 28) := hR.2.2.2 28
          refine r_iald (i := 21) (us := (S.2.1 21)) rfl (by decide) hR rfl (by omega) (by show S.1 28 < 9; omega) d_Mo_readFirst_82 (fun hr82 => ?_)
          refine x_bipush (v := zI 40) d_Mo_readFirst_83 (by decide) ?_
          refine z_icmp_ne (tgt := 97) d_Mo_readFirst_85 (by decide) (by omega) (by omega) (fun hc85 => ?_) (fun hc85 => ?_)
          · refine x_aload_n d_Mo_readFirst_97 rfl rfl ?_
            refine x_dup d_Mo_readFirst_98 rfl ?_
            refine x_get xf_Mo_193_Mo (Or.inl hR.1) (v := .int (zI (S.1 27))) rfl d_Mo_readFirst_99 ?_
            have hb99 : inR (S.1 27) := hR.2.2.2 27
            refine x_iload_n d_Mo_readFirst_102 rfl ?_
            refine z_iadd d_Mo_readFirst_103 ?_
            refine r_put xf_Mo_193_Mo xp_Mo_27 hR hX (by omega) rfl rfl d_Mo_readFirst_104 ?_
            intro h hR hX
            refine x_iload_n d_Mo_readFirst_107 rfl ?_
            refine z_if_ge (tgt := 122) d_Mo_readFirst_108 (by decide) (by omega) (fun hc108 => ?_) (fun hc108 => ?_)
            · refine x_aload_n d_Mo_readFirst_122 rfl rfl ?_
              refine x_iconst (v := zI (-1)) d_Mo_readFirst_123 (by decide) ?_
              refine x_iload_n d_Mo_readFirst_124 rfl ?_
              refine x_iconst (v := zI 5) d_Mo_readFirst_125 (by decide) ?_
              refine z_icmp_ne (tgt := 134) d_Mo_readFirst_126 (by decide) (by omega) (by omega) (fun hc126 => ?_) (fun hc126 => ?_)
              · refine x_bipush (v := zI 8) d_Mo_readFirst_134 (by decide) ?_
                refine x_bipush (v := zI 64) d_Mo_readFirst_136 (by decide) ?_
                refine x_aload_n d_Mo_readFirst_138 rfl rfl ?_
                refine x_get xf_Mo_196_Mo (Or.inl hR.1) (v := .int (zI (S.1 28))) rfl d_Mo_readFirst_139 ?_
                have hb139 : inR (S.1 28) := hR.2.2.2 28
                refine z_imul d_Mo_readFirst_142 ?_
                refine x_aload_n d_Mo_readFirst_143 rfl rfl ?_
                refine x_get xf_Mo_78_Mo (Or.inl hR.1) (v := .ref (rf 26)) rfl d_Mo_readFirst_144 ?_
                refine x_aload_n d_Mo_readFirst_147 rfl rfl ?_
                refine x_get xf_Mo_196_Mo (Or.inl hR.1) (v := .int (zI (S.1 28))) rfl d_Mo_readFirst_148 ?_
                have hb148 : inR (S.1 28) := hR.2.2.2 28
                refine r_iald (i := 26) (us := (S.2.1 26)) rfl (by decide) hR rfl (by omega) (by show S.1 28 < 9; omega) d_Mo_readFirst_151 (fun hr151 => ?_)
                refine z_iadd d_Mo_readFirst_152 ?_
                refine x_callV (As := [_, _, _]) (k := k_MarkerTextModel) rfl xcv_Mo_250_Mo (Or.inl hR.1) (RM.ap hR (r_addTest (S := sp S 27 (S.1 27 + r)) (by omega) (hS2 r (by omega) (by omega)) (by show gd (S.2.1 21) (S.1 28) < 40; omega) (by omega) (by decide) (fun z => by omega) ⟨by show 64 * S.1 28 ≤ vnN S; omega, Int.le_refl _⟩ (fun _ => rfl) (by show sm (gd (S.2.1 20)) (40 * S.1 28) (gd (S.2.1 21) (S.1 28)).toNat ≤ vnN S - 64 * S.1 28; omega) (by show 2 * (gd (S.2.1 15) (S.1 28) + 1 + cnt 1 P + cnt 2 P + cnt 3 P) ≤ S.1 27 + r; omega) (by rw [show tsU (sp S 27 (S.1 27 + r)) _ _ = 5 from if_pos (by omega)]; show 2 * (wsm w R + 5 + 7 * cnt 1 P + 10 * cnt 2 P + 7 * cnt 3 P) ≤ 7 * (S.1 27 + r); omega))) rfl rfl (Nat.le_of_ble_eq_true rfl) d_Mo_readFirst_153 ?_
                rintro v153 h cq nq ⟨S153, hR, hX153, rfl, rfl, rfl, hq153⟩
                replace hX := hX.tr hX153
                refine x_vret d_Mo_readFirst_156 rfl ?_
                first | exact ⟨_, hR, hX, rfl, rfl, jt r _ (by omega) (by omega) ⟨rfl, hq116⟩⟩ | exact ⟨_, hR, hX, rfl, rfl, jc r _ (by omega) (by omega) ⟨rfl, hq153⟩⟩
              · refine x_bipush (v := zI 7) d_Mo_readFirst_129 (by decide) ?_
                refine x_goto (tgt := 136) d_Mo_readFirst_131 (by decide) ?_
                refine x_bipush (v := zI 64) d_Mo_readFirst_136 (by decide) ?_
                refine x_aload_n d_Mo_readFirst_138 rfl rfl ?_
                refine x_get xf_Mo_196_Mo (Or.inl hR.1) (v := .int (zI (S.1 28))) rfl d_Mo_readFirst_139 ?_
                have hb139 : inR (S.1 28) := hR.2.2.2 28
                refine z_imul d_Mo_readFirst_142 ?_
                refine x_aload_n d_Mo_readFirst_143 rfl rfl ?_
                refine x_get xf_Mo_78_Mo (Or.inl hR.1) (v := .ref (rf 26)) rfl d_Mo_readFirst_144 ?_
                refine x_aload_n d_Mo_readFirst_147 rfl rfl ?_
                refine x_get xf_Mo_196_Mo (Or.inl hR.1) (v := .int (zI (S.1 28))) rfl d_Mo_readFirst_148 ?_
                have hb148 : inR (S.1 28) := hR.2.2.2 28
                refine r_iald (i := 26) (us := (S.2.1 26)) rfl (by decide) hR rfl (by omega) (by show S.1 28 < 9; omega) d_Mo_readFirst_151 (fun hr151 => ?_)
                refine z_iadd d_Mo_readFirst_152 ?_
                refine x_callV (As := [_, _, _]) (k := k_MarkerTextModel) rfl xcv_Mo_250_Mo (Or.inl hR.1) (RM.ap hR (r_addTest (S := sp S 27 (S.1 27 + r)) (by omega) (hS2 r (by omega) (by omega)) (by show gd (S.2.1 21) (S.1 28) < 40; omega) (by omega) (by decide) (fun z => by omega) ⟨by show 64 * S.1 28 ≤ vnN S; omega, Int.le_refl _⟩ (fun _ => rfl) (by show sm (gd (S.2.1 20)) (40 * S.1 28) (gd (S.2.1 21) (S.1 28)).toNat ≤ vnN S - 64 * S.1 28; omega) (by show 2 * (gd (S.2.1 15) (S.1 28) + 1 + cnt 1 P + cnt 2 P + cnt 3 P) ≤ S.1 27 + r; omega) (by rw [show tsU (sp S 27 (S.1 27 + r)) _ _ = 5 from if_pos (by omega)]; show 2 * (wsm w R + 5 + 7 * cnt 1 P + 10 * cnt 2 P + 7 * cnt 3 P) ≤ 7 * (S.1 27 + r); omega))) rfl rfl (Nat.le_of_ble_eq_true rfl) d_Mo_readFirst_153 ?_
                rintro v153 h cq nq ⟨S153, hR, hX153, rfl, rfl, rfl, hq153⟩
                replace hX := hX.tr hX153
                refine x_vret d_Mo_readFirst_156 rfl ?_
                first | exact ⟨_, hR, hX, rfl, rfl, jt r _ (by omega) (by omega) ⟨rfl, hq116⟩⟩ | exact ⟨_, hR, hX, rfl, rfl, jc r _ (by omega) (by omega) ⟨rfl, hq153⟩⟩
            · refine x_aload_n d_Mo_readFirst_111 rfl rfl ?_
              refine x_iload_n d_Mo_readFirst_112 rfl ?_
              refine x_bipush (v := zI 100) d_Mo_readFirst_113 (by decide) ?_
              refine z_iadd d_Mo_readFirst_115 ?_
              refine x_callV (As := [_]) (k := k_MarkerTextModel) rfl xcv_Mo_258_Mo (Or.inl hR.1) (RM.ap hR (r_readTest (S := sp S 27 (S.1 27 + r)) (a0 := S.1 27) (by omega) (by omega) (hS2 r (by omega) (by omega)) (by show S.1 27 + r ≤ S.1 2; omega) hw (by show gd (S.2.1 21) (S.1 28) < 40; omega) s15 s16 s17 (by show S.1 27 + 1 ≤ S.1 27 + r; omega))) rfl rfl (Nat.le_of_ble_eq_true rfl) d_Mo_readFirst_116 ?_
              rintro v116 h cq nq ⟨S116, hR, hX116, rfl, rfl, rfl, hq116⟩
              replace hX := hX.tr hX116
              refine x_goto (tgt := 156) d_Mo_readFirst_119 (by decide) ?_
              refine x_vret d_Mo_readFirst_156 rfl ?_
              first | exact ⟨_, hR, hX, rfl, rfl, jt r _ (by omega) (by omega) ⟨rfl, hq116⟩⟩ | exact ⟨_, hR, hX, rfl, rfl, jc r _ (by omega) (by omega) ⟨rfl, hq153⟩⟩
          · refine x_aload_n d_Mo_readFirst_88 rfl rfl ?_
            refine x_aload_n d_Mo_readFirst_89 rfl rfl ?_
            refine x_get xf_Mo_193_Mo (Or.inl hR.1) (v := .int (zI (S.1 27))) rfl d_Mo_readFirst_90 ?_
            have hb90 : inR (S.1 27) := hR.2.2.2 27
            refine x_callV (As := [_]) (k := k_MarkerTextModel) rfl xcv_Mo_218_Mo (Or.inl hR.1) (RM.ap hR (r_fault (by omega))) rfl rfl (Nat.le_of_ble_eq_true rfl) d_Mo_readFirst_93 ?_
            rintro v93 h cq nq ⟨S93, hR, hX93, rfl, rfl, a93, rfl, rfl, ha93⟩
            replace hX := hX.tr hX93
            refine x_vret d_Mo_readFirst_96 rfl ?_
            exact ⟨_, hR, hX, rfl, rfl, hfl a93 (by omega)⟩
        · refine x_iload_n d_Mo_readFirst_68 rfl ?_
          refine x_bipush (v := zI 6) d_Mo_readFirst_69 (by decide) ?_
          refine z_icmp_ne (tgt := 88) d_Mo_readFirst_71 (by decide) (by omega) (by omega) (fun hc71 => ?_) (fun hc71 => ?_)
          · refine x_aload_n d_Mo_readFirst_88 rfl rfl ?_
            refine x_aload_n d_Mo_readFirst_89 rfl rfl ?_
            refine x_get xf_Mo_193_Mo (Or.inl hR.1) (v := .int (zI (S.1 27))) rfl d_Mo_readFirst_90 ?_
            have hb90 : inR (S.1 27) := hR.2.2.2 27
            refine x_callV (As := [_]) (k := k_MarkerTextModel) rfl xcv_Mo_218_Mo (Or.inl hR.1) (RM.ap hR (r_fault (by omega))) rfl rfl (Nat.le_of_ble_eq_true rfl) d_Mo_readFirst_93 ?_
            rintro v93 h cq nq ⟨S93, hR, hX93, rfl, rfl, a93, rfl, rfl, ha93⟩
            replace hX := hX.tr hX93
            refine x_vret d_Mo_readFirst_96 rfl ?_
            exact ⟨_, hR, hX, rfl, rfl, hfl a93 (by omega)⟩
          · refine x_aload_n d_Mo_readFirst_74 rfl rfl ?_
            refine x_get xf_Mo_63_Mo (Or.inl hR.1) (v := .ref (rf 21)) rfl d_Mo_readFirst_75 ?_
            refine x_aload_n d_Mo_readFirst_78 rfl rfl ?_
            refine x_get xf_Mo_196_Mo (Or.inl hR.1) (v := .int (zI (S.1 28))) rfl d_Mo_readFirst_79 ?_
            have hb79 : inR (S.1 28) := hR.2.2.2 28
            refine r_iald (i := 21) (us := (S.2.1 21)) rfl (by decide) hR rfl (by omega) (by show S.1 28 < 9; omega) d_Mo_readFirst_82 (fun hr82 => ?_)
            refine x_bipush (v := zI 40) d_Mo_readFirst_83 (by decide) ?_
            refine z_icmp_ne (tgt := 97) d_Mo_readFirst_85 (by decide) (by omega) (by omega) (fun hc85 => ?_) (fun hc85 => ?_)
            · refine x_aload_n d_Mo_readFirst_97 rfl rfl ?_
              refine x_dup d_Mo_readFirst_98 rfl ?_
              refine x_get xf_Mo_193_Mo (Or.inl hR.1) (v := .int (zI (S.1 27))) rfl d_Mo_readFirst_99 ?_
              have hb99 : inR (S.1 27) := hR.2.2.2 27
              refine x_iload_n d_Mo_readFirst_102 rfl ?_
              refine z_iadd d_Mo_readFirst_103 ?_
              refine r_put xf_Mo_193_Mo xp_Mo_27 hR hX (by omega) rfl rfl d_Mo_readFirst_104 ?_
              intro h hR hX
              refine x_iload_n d_Mo_readFirst_107 rfl ?_
              refine z_if_ge (tgt := 122) d_Mo_readFirst_108 (by decide) (by omega) (fun hc108 => ?_) (fun hc108 => ?_)
              · refine x_aload_n d_Mo_readFirst_122 rfl rfl ?_
                refine x_iconst (v := zI (-1)) d_Mo_readFirst_123 (by decide) ?_
                refine x_iload_n d_Mo_readFirst_124 rfl ?_
                refine x_iconst (v := zI 5) d_Mo_readFirst_125 (by decide) ?_
                refine z_icmp_ne (tgt := 134) d_Mo_readFirst_126 (by decide) (by omega) (by omega) (fun hc126 => ?_) (fun hc126 => ?_)
                · refine x_bipush (v := zI 8) d_Mo_readFirst_134 (by decide) ?_
                  refine x_bipush (v := zI 64) d_Mo_readFirst_136 (by decide) ?_
                  refine x_aload_n d_Mo_readFirst_138 rfl rfl ?_
                  refine x_get xf_Mo_196_Mo (Or.inl hR.1) (v := .int (zI (S.1 28))) rfl d_Mo_readFirst_139 ?_
                  have hb139 : inR (S.1 28) := hR.2.2.2 28
                  refine z_imul d_Mo_readFirst_142 ?_
                  refine x_aload_n d_Mo_readFirst_143 rfl rfl ?_
                  refine x_get xf_Mo_78_Mo (Or.inl hR.1) (v := .ref (rf 26)) rfl d_Mo_readFirst_144 ?_
                  refine x_aload_n d_Mo_readFirst_147 rfl rfl ?_
                  refine x_get xf_Mo_196_Mo (Or.inl hR.1) (v := .int (zI (S.1 28))) rfl d_Mo_readFirst_148 ?_
                  have hb148 : inR (S.1 28) := hR.2.2.2 28
                  refine r_iald (i := 26) (us := (S.2.1 26)) rfl (by decide) hR rfl (by omega) (by show S.1 28 < 9; omega) d_Mo_readFirst_151 (fun hr151 => ?_)
                  refine z_iadd d_Mo_readFirst_152 ?_
                  refine x_callV (As := [_, _, _]) (k := k_MarkerTextModel) rfl xcv_Mo_250_Mo (Or.inl hR.1) (RM.ap hR (r_addTest (S := sp S 27 (S.1 27 + r)) (by omega) (hS2 r (by omega) (by omega)) (by show gd (S.2.1 21) (S.1 28) < 40; omega) (by omega) (by decide) (fun z => by omega) ⟨by show 64 * S.1 28 ≤ vnN S; omega, Int.le_refl _⟩ (fun _ => rfl) (by show sm (gd (S.2.1 20)) (40 * S.1 28) (gd (S.2.1 21) (S.1 28)).toNat ≤ vnN S - 64 * S.1 28; omega) (by show 2 * (gd (S.2.1 15) (S.1 28) + 1 + cnt 1 P + cnt 2 P + cnt 3 P) ≤ S.1 27 + r; omega) (by rw [show tsU (sp S 27 (S.1 27 + r)) _ _ = 5 from if_pos (by omega)]; show 2 * (wsm w R + 5 + 7 * cnt 1 P + 10 * cnt 2 P + 7 * cnt 3 P) ≤ 7 * (S.1 27 + r); omega))) rfl rfl (Nat.le_of_ble_eq_true rfl) d_Mo_readFirst_153 ?_
                  rintro v153 h cq nq ⟨S153, hR, hX153, rfl, rfl, rfl, hq153⟩
                  replace hX := hX.tr hX153
                  refine x_vret d_Mo_readFirst_156 rfl ?_
                  first | exact ⟨_, hR, hX, rfl, rfl, jt r _ (by omega) (by omega) ⟨rfl, hq116⟩⟩ | exact ⟨_, hR, hX, rfl, rfl, jc r _ (by omega) (by omega) ⟨rfl, hq153⟩⟩
                · refine x_bipush (v := zI 7) d_Mo_readFirst_129 (by decide) ?_
                  refine x_goto (tgt := 136) d_Mo_readFirst_131 (by decide) ?_
                  refine x_bipush (v := zI 64) d_Mo_readFirst_136 (by decide) ?_
                  refine x_aload_n d_Mo_readFirst_138 rfl rfl ?_
                  refine x_get xf_Mo_196_Mo (Or.inl hR.1) (v := .int (zI (S.1 28))) rfl d_Mo_readFirst_139 ?_
                  have hb139 : inR (S.1 28) := hR.2.2.2 28
                  refine z_imul d_Mo_readFirst_142 ?_
                  refine x_aload_n d_Mo_readFirst_143 rfl rfl ?_
                  refine x_get xf_Mo_78_Mo (Or.inl hR.1) (v := .ref (rf 26)) rfl d_Mo_readFirst_144 ?_
                  refine x_aload_n d_Mo_readFirst_147 rfl rfl ?_
                  refine x_get xf_Mo_196_Mo (Or.inl hR.1) (v := .int (zI (S.1 28))) rfl d_Mo_readFirst_148 ?_
                  have hb148 : inR (S.1 28) := hR.2.2.2 28
                  refine r_iald (i := 26) (us := (S.2.1 26)) rfl (by decide) hR rfl (by omega) (by show S.1 28 < 9; omega) d_Mo_readFirst_151 (fun hr151 => ?_)
                  refine z_iadd d_Mo_readFirst_152 ?_
                  refine x_callV (As := [_, _, _]) (k := k_MarkerTextModel) rfl xcv_Mo_250_Mo (Or.inl hR.1) (RM.ap hR (r_addTest (S := sp S 27 (S.1 27 + r)) (by omega) (hS2 r (by omega) (by omega)) (by show gd (S.2.1 21) (S.1 28) < 40; omega) (by omega) (by decide) (fun z => by omega) ⟨by show 64 * S.1 28 ≤ vnN S; omega, Int.le_refl _⟩ (fun _ => rfl) (by show sm (gd (S.2.1 20)) (40 * S.1 28) (gd (S.2.1 21) (S.1 28)).toNat ≤ vnN S - 64 * S.1 28; omega) (by show 2 * (gd (S.2.1 15) (S.1 28) + 1 + cnt 1 P + cnt 2 P + cnt 3 P) ≤ S.1 27 + r; omega) (by rw [show tsU (sp S 27 (S.1 27 + r)) _ _ = 5 from if_pos (by omega)]; show 2 * (wsm w R + 5 + 7 * cnt 1 P + 10 * cnt 2 P + 7 * cnt 3 P) ≤ 7 * (S.1 27 + r); omega))) rfl rfl (Nat.le_of_ble_eq_true rfl) d_Mo_readFirst_153 ?_
                  rintro v153 h cq nq ⟨S153, hR, hX153, rfl, rfl, rfl, hq153⟩
                  replace hX := hX.tr hX153
                  refine x_vret d_Mo_readFirst_156 rfl ?_
                  first | exact ⟨_, hR, hX, rfl, rfl, jt r _ (by omega) (by omega) ⟨rfl, hq116⟩⟩ | exact ⟨_, hR, hX, rfl, rfl, jc r _ (by omega) (by omega) ⟨rfl, hq153⟩⟩
              · refine x_aload_n d_Mo_readFirst_111 rfl rfl ?_
                refine x_iload_n d_Mo_readFirst_112 rfl ?_
                refine x_bipush (v := zI 100) d_Mo_readFirst_113 (by decide) ?_
                refine z_iadd d_Mo_readFirst_115 ?_
                refine x_callV (As := [_]) (k := k_MarkerTextModel) rfl xcv_Mo_258_Mo (Or.inl hR.1) (RM.ap hR (r_readTest (S := sp S 27 (S.1 27 + r)) (a0 := S.1 27) (by omega) (by omega) (hS2 r (by omega) (by omega)) (by show S.1 27 + r ≤ S.1 2; omega) hw (by show gd (S.2.1 21) (S.1 28) < 40; omega) s15 s16 s17 (by show S.1 27 + 1 ≤ S.1 27 + r; omega))) rfl rfl (Nat.le_of_ble_eq_true rfl) d_Mo_readFirst_116 ?_
                rintro v116 h cq nq ⟨S116, hR, hX116, rfl, rfl, rfl, hq116⟩
                replace hX := hX.tr hX116
                refine x_goto (tgt := 156) d_Mo_readFirst_119 (by decide) ?_
                refine x_vret d_Mo_readFirst_156 rfl ?_
                first | exact ⟨_, hR, hX, rfl, rfl, jt r _ (by omega) (by omega) ⟨rfl, hq116⟩⟩ | exact ⟨_, hR, hX, rfl, rfl, jc r _ (by omega) (by omega) ⟨rfl, hq153⟩⟩
            · refine x_aload_n d_Mo_readFirst_88 rfl rfl ?_
              refine x_aload_n d_Mo_readFirst_89 rfl rfl ?_
              refine x_get xf_Mo_193_Mo (Or.inl hR.1) (v := .int (zI (S.1 27))) rfl d_Mo_readFirst_90 ?_
              have hb90 : inR (S.1 27) := hR.2.2.2 27
              refine x_callV (As := [_]) (k := k_MarkerTextModel) rfl xcv_Mo_218_Mo (Or.inl hR.1) (RM.ap hR (r_fault (by omega))) rfl rfl (Nat.le_of_ble_eq_true rfl) d_Mo_readFirst_93 ?_
              rintro v93 h cq nq ⟨S93, hR, hX93, rfl, rfl, a93, rfl, rfl, ha93⟩
              replace hX := hX.tr hX93
              refine x_vret d_Mo_readFirst_96 rfl ?_
              exact ⟨_, hR, hX, rfl, rfl, hfl a93 (by omega)⟩
    · refine x_aload_n d_Mo_readFirst_52 rfl rfl ?_
      refine x_iconst (v := zI 1) d_Mo_readFirst_53 (by decide) ?_
      refine x_iconst (v := zI 3) d_Mo_readFirst_54 (by decide) ?_
      refine x_callV (As := [_, _]) (k := k_MarkerTextModel) rfl xcv_Mo_254_Mo (Or.inl hR.1) (RM.ap hR (r_open (by omega) hS (Or.inr ⟨rfl, rfl⟩) (by omega) hw h33)) rfl rfl (Nat.le_of_ble_eq_true rfl) d_Mo_readFirst_55 ?_
      rintro v55 h cq nq ⟨S55, hR, hX55, rfl, rfl, rfl, hq55⟩
      replace hX := hX.tr hX55
      refine x_vret d_Mo_readFirst_58 rfl ?_
      exact ⟨_, hR, hX, rfl, rfl, jo _ 1 3 (by omega) (by omega) (Or.inl rfl) ⟨rfl, hq55⟩⟩
  refine x_aload_n d_Mo_readFirst_0 rfl rfl ?_
  refine x_callV (As := []) (k := k_MarkerTextModel) rfl xcv_Mo_228_Mo (Or.inl hR.1) (RM.ap hR (r_now (by omega) s1)) rfl rfl (Nat.le_of_ble_eq_true rfl) d_Mo_readFirst_1 ?_
  rintro v1 h cq nq ⟨S1, hR, hX1, rfl, rfl, hE1, r1, rfl, hi1, hr1⟩
  replace hE1 := Eq.symm hE1
  subst hE1
  replace hX := hX.tr hX1
  refine x_bipush (v := zI 40) d_Mo_readFirst_4 (by decide) ?_
  refine z_icmp_ne (tgt := 16) d_Mo_readFirst_6 (by decide) (by omega) (by omega) (fun hc6 => ?_) (fun hc6 => ?_)
  · refine x_aload_n d_Mo_readFirst_16 rfl rfl ?_
    refine x_aload_n d_Mo_readFirst_17 rfl rfl ?_
    refine x_get xf_Mo_193_Mo (Or.inl hR.1) (v := .int (zI (S.1 27))) rfl d_Mo_readFirst_18 ?_
    have hb18 : inR (S.1 27) := hR.2.2.2 27
    refine x_callV (As := [_]) (k := k_MarkerTextModel) rfl xcv_Mo_241_Mo (Or.inl hR.1) (RM.ap hR (r_letters (by omega) (by omega) (by omega) s1)) rfl rfl (Nat.le_of_ble_eq_true rfl) d_Mo_readFirst_21 ?_
    rintro v21 h cq nq ⟨S21, hR, hX21, rfl, rfl, hE21, r21, rfl, hr21a, hr21b, hr21c, hr21d⟩
    replace hE21 := Eq.symm hE21
    subst hE21
    replace hX := hX.tr hX21
    refine x_istore_n (L' := [_, _, _]) d_Mo_readFirst_24 rfl rfl ?_
    refine x_iload_n d_Mo_readFirst_25 rfl ?_
    refine z_if_le (tgt := 45) d_Mo_readFirst_26 (by decide) (by omega) (fun hc26 => ?_) (fun hc26 => ?_)
    · refine x_iconst (v := zI 0) d_Mo_readFirst_45 (by decide) ?_
      first | exact j46 r21 r39 (by omega) (by omega) hr39 hm39 (by omega) _ hR hX | exact j46 r21 0 (by omega) (by omega) (by omega) (by omega) (by omega) _ hR hX
    · refine x_aload_n d_Mo_readFirst_29 rfl rfl ?_
      refine x_aload_n d_Mo_readFirst_30 rfl rfl ?_
      refine x_aload_n d_Mo_readFirst_31 rfl rfl ?_
      refine x_get xf_Mo_193_Mo (Or.inl hR.1) (v := .int (zI (S.1 27))) rfl d_Mo_readFirst_32 ?_
      have hb32 : inR (S.1 27) := hR.2.2.2 27
      refine x_iload_n d_Mo_readFirst_35 rfl ?_
      refine x_callV (As := [_, _]) (k := k_MarkerTextModel) rfl xcv_Mo_154_Mo (Or.inl hR.1) (RM.ap hR (r_wordL (by omega) (by omega) (by omega) (by omega) (by omega) hr21d)) rfl rfl (Nat.le_of_ble_eq_true rfl) d_Mo_readFirst_36 ?_
      rintro v36 h cq nq ⟨S36, hR, hX36, rfl, rfl, hE36, z36, rfl, hz36⟩
      replace hE36 := Eq.symm hE36
      subst hE36
      replace hX := hX.tr hX36
      refine x_callV (As := [_]) (k := k_MarkerTextModel) rfl xcv_Mo_158_Mo (Or.inl hR.1) (RM.ap hR (r_meaning s2)) rfl rfl (Nat.le_of_ble_eq_true rfl) d_Mo_readFirst_39 ?_
      rintro v39 h cq nq ⟨S39, hR, hX39, rfl, rfl, hE39, r39, rfl, hr39, hk39⟩
      replace hE39 := Eq.symm hE39
      subst hE39
      replace hX := hX.tr hX39
      have hm39 := mF_of hz36 hk39
      refine x_goto (tgt := 46) d_Mo_readFirst_42 (by decide) ?_
      first | exact j46 r21 r39 (by omega) (by omega) hr39 hm39 (by omega) _ hR hX | exact j46 r21 0 (by omega) (by omega) (by omega) (by omega) (by omega) _ hR hX
  · refine x_aload_n d_Mo_readFirst_9 rfl rfl ?_
    refine x_iconst (v := zI 4) d_Mo_readFirst_10 (by decide) ?_
    refine x_iconst (v := zI 1) d_Mo_readFirst_11 (by decide) ?_
    refine x_callV (As := [_, _]) (k := k_MarkerTextModel) rfl xcv_Mo_254_Mo (Or.inl hR.1) (RM.ap hR (r_open (by omega) hS (Or.inl ⟨rfl, rfl⟩) (by omega) hw h33)) rfl rfl (Nat.le_of_ble_eq_true rfl) d_Mo_readFirst_12 ?_
    rintro v12 h cq nq ⟨S12, hR, hX12, rfl, rfl, rfl, hq12⟩
    replace hX := hX.tr hX12
    refine x_vret d_Mo_readFirst_15 rfl ?_
    exact ⟨_, hR, hX, rfl, rfl, jo _ 4 1 (by omega) (by omega) (Or.inr rfl) ⟨rfl, hq12⟩⟩
end RF9
