section
abbrev y_Mo_put : MethodName := ⟨"MarkerTextModel", "put", "(I)V"⟩
abbrev M_Mo_put : XMt := (y_Mo_put, prog_13_method_58_code, 2, none)
theorem d_Mo_put_0 : decode M_Mo_put.2.1 0 = .ok (.aload_n 0, 1) := by decide +kernel
theorem d_Mo_put_1 : decode M_Mo_put.2.1 1 = .ok (.getfield 115, 3) := by decide +kernel
theorem d_Mo_put_4 : decode M_Mo_put.2.1 4 = .ok (.aload_n 0, 1) := by decide +kernel
theorem d_Mo_put_5 : decode M_Mo_put.2.1 5 = .ok (.getfield 323, 3) := by decide +kernel
theorem xw_1219 : (Jvm.Cond.fieldLink "MarkerTextModel" (323 : Nat) "MarkerTextModel" "printed" "I") ∈ xT := xT_at 1219 (by decide +kernel) (by decide +kernel)
theorem xf_Mo_323_Mo : xF "MarkerTextModel" 323 k_MarkerTextModel 49 := ⟨_, _, _, "MarkerTextModel", rfl, by decide, Or.inl xw_1219, Or.inl rfl⟩
theorem d_Mo_put_8 : decode M_Mo_put.2.1 8 = .ok (.iload_n 1, 1) := by decide +kernel
theorem d_Mo_put_9 : decode M_Mo_put.2.1 9 = .ok (.iastore, 1) := by decide +kernel
theorem d_Mo_put_10 : decode M_Mo_put.2.1 10 = .ok (.aload_n 0, 1) := by decide +kernel
theorem d_Mo_put_11 : decode M_Mo_put.2.1 11 = .ok (.dup, 1) := by decide +kernel
theorem d_Mo_put_12 : decode M_Mo_put.2.1 12 = .ok (.getfield 323, 3) := by decide +kernel
theorem d_Mo_put_15 : decode M_Mo_put.2.1 15 = .ok (.iconst 1, 1) := by decide +kernel
theorem d_Mo_put_16 : decode M_Mo_put.2.1 16 = .ok (.iadd, 1) := by decide +kernel
theorem d_Mo_put_17 : decode M_Mo_put.2.1 17 = .ok (.putfield 323, 3) := by decide +kernel
theorem xp_Mo_49 : xP k_MarkerTextModel 49 false .int := ⟨_, _, _, rfl, rfl, by decide +kernel⟩
theorem d_Mo_put_20 : decode M_Mo_put.2.1 20 = .ok (.return_, 1) := by decide +kernel
abbrev y_Mo_putAll : MethodName := ⟨"MarkerTextModel", "putAll", "(J)V"⟩
abbrev M_Mo_putAll : XMt := (y_Mo_putAll, prog_13_method_59_code, 5, none)
theorem d_Mo_putAll_2 : decode M_Mo_putAll.2.1 2 = .ok (.lload_n 3, 1) := by decide +kernel
theorem d_Mo_putAll_3 : decode M_Mo_putAll.2.1 3 = .ok (.lconst 0, 1) := by decide +kernel
theorem d_Mo_putAll_4 : decode M_Mo_putAll.2.1 4 = .ok (.lcmp, 1) := by decide +kernel
theorem d_Mo_putAll_5 : decode M_Mo_putAll.2.1 5 = .ok (.ifCond .eq 21, 3) := by decide +kernel
theorem d_Mo_putAll_26 : decode M_Mo_putAll.2.1 26 = .ok (.return_, 1) := by decide +kernel
theorem d_Mo_putAll_8 : decode M_Mo_putAll.2.1 8 = .ok (.aload_n 0, 1) := by decide +kernel
theorem d_Mo_putAll_9 : decode M_Mo_putAll.2.1 9 = .ok (.lload_n 3, 1) := by decide +kernel
theorem d_Mo_putAll_10 : decode M_Mo_putAll.2.1 10 = .ok (.ldc2_w 326, 3) := by decide +kernel
theorem xw_1573 : (Jvm.Cond.constantLong "MarkerTextModel" (326 : Nat) (255 : Int64)) ∈ xT := xT_at 1573 (by decide +kernel) (by decide +kernel)
theorem d_Mo_putAll_13 : decode M_Mo_putAll.2.1 13 = .ok (.land, 1) := by decide +kernel
theorem d_Mo_putAll_14 : decode M_Mo_putAll.2.1 14 = .ok (.l2i, 1) := by decide +kernel
theorem d_Mo_putAll_15 : decode M_Mo_putAll.2.1 15 = .ok (.invokevirtual 328, 3) := by decide +kernel
theorem xw_1577 : (Jvm.Cond.code ({ cls := "MarkerTextModel", name := "put", desc := "(I)V" } : Jvm.MethodName) prog_13_method_58_code (2 : Nat) (Option.none : Option Jvm.ClassFile.FieldType)) ∈ xT := xT_at 1577 (by decide +kernel) (by decide +kernel)
theorem xcb_Mo_put : xcb M_Mo_put 1 := ⟨xw_1577, xw_8, by decide, by decide, by decide, by decide +kernel⟩
theorem xw_1576 : (Jvm.Cond.instanceMethod ({ cls := "MarkerTextModel", name := "put", desc := "(I)V" } : Jvm.MethodName)) ∈ xT := xT_at 1576 (by decide +kernel) (by decide +kernel)
theorem xw_1574 : (Jvm.Cond.methodLink "MarkerTextModel" (328 : Nat) ({ cls := "MarkerTextModel", name := "put", desc := "(I)V" } : Jvm.MethodName)) ∈ xT := xT_at 1574 (by decide +kernel) (by decide +kernel)
theorem xsel_Mo_put : Cond.selects "MarkerTextModel" y_Mo_put y_Mo_put ∈ xT := xT_sel (q := (y_Mo_put, 52)) (by decide +kernel) (by decide +kernel)
theorem xcv_Mo_328_Mo : xCV "MarkerTextModel" 328 "MarkerTextModel" M_Mo_put 1 := ⟨xcb_Mo_put, xw_1576, Or.inl ⟨xw_1574, Or.inl xsel_Mo_put⟩⟩
theorem d_Mo_putAll_18 : decode M_Mo_putAll.2.1 18 = .ok (.lload_n 3, 1) := by decide +kernel
theorem d_Mo_putAll_19 : decode M_Mo_putAll.2.1 19 = .ok (.bipush 8, 2) := by decide +kernel
theorem d_Mo_putAll_21 : decode M_Mo_putAll.2.1 21 = .ok (.lshr, 1) := by decide +kernel
theorem d_Mo_putAll_22 : decode M_Mo_putAll.2.1 22 = .ok (.lstore_n 3, 1) := by decide +kernel
theorem d_Mo_putAll_23 : decode M_Mo_putAll.2.1 23 = .ok (.goto (-21), 3) := by decide +kernel
theorem d_Mo_putAll_0 : decode M_Mo_putAll.2.1 0 = .ok (.lload_n 1, 1) := by decide +kernel
theorem d_Mo_putAll_1 : decode M_Mo_putAll.2.1 1 = .ok (.lstore_n 3, 1) := by decide +kernel
abbrev y_Mo_sign : MethodName := ⟨"MarkerTextModel", "sign", "(I)J"⟩
abbrev M_Mo_sign : XMt := (y_Mo_sign, prog_13_method_60_code, 1, (some .long))
theorem d_Mo_sign_0 : decode M_Mo_sign.2.1 0 = .ok (.iload_n 0, 1) := by decide +kernel
theorem d_Mo_sign_1 : decode M_Mo_sign.2.1 1 = .ok (.tableswitch 63 0 5 #[39, 43, 47, 51, 55, 59], 39) := by decide +kernel
theorem d_Mo_sign_40 : decode M_Mo_sign.2.1 40 = .ok (.ldc2_w 331, 3) := by decide +kernel
theorem xw_1587 : (Jvm.Cond.constantLong "MarkerTextModel" (331 : Nat) (540884256 : Int64)) ∈ xT := xT_at 1587 (by decide +kernel) (by decide +kernel)
theorem d_Mo_sign_43 : decode M_Mo_sign.2.1 43 = .ok (.lreturn, 1) := by decide +kernel
theorem d_Mo_sign_44 : decode M_Mo_sign.2.1 44 = .ok (.ldc2_w 333, 3) := by decide +kernel
theorem xw_1588 : (Jvm.Cond.constantLong "MarkerTextModel" (333 : Nat) (540877088 : Int64)) ∈ xT := xT_at 1588 (by decide +kernel) (by decide +kernel)
theorem d_Mo_sign_47 : decode M_Mo_sign.2.1 47 = .ok (.lreturn, 1) := by decide +kernel
theorem d_Mo_sign_48 : decode M_Mo_sign.2.1 48 = .ok (.ldc2_w 335, 3) := by decide +kernel
theorem xw_1589 : (Jvm.Cond.constantLong "MarkerTextModel" (335 : Nat) (2112544 : Int64)) ∈ xT := xT_at 1589 (by decide +kernel) (by decide +kernel)
theorem d_Mo_sign_51 : decode M_Mo_sign.2.1 51 = .ok (.lreturn, 1) := by decide +kernel
theorem d_Mo_sign_52 : decode M_Mo_sign.2.1 52 = .ok (.ldc2_w 337, 3) := by decide +kernel
theorem xw_1590 : (Jvm.Cond.constantLong "MarkerTextModel" (337 : Nat) (540884000 : Int64)) ∈ xT := xT_at 1590 (by decide +kernel) (by decide +kernel)
theorem d_Mo_sign_55 : decode M_Mo_sign.2.1 55 = .ok (.lreturn, 1) := by decide +kernel
theorem d_Mo_sign_56 : decode M_Mo_sign.2.1 56 = .ok (.ldc2_w 339, 3) := by decide +kernel
theorem xw_1591 : (Jvm.Cond.constantLong "MarkerTextModel" (339 : Nat) (2113056 : Int64)) ∈ xT := xT_at 1591 (by decide +kernel) (by decide +kernel)
theorem d_Mo_sign_59 : decode M_Mo_sign.2.1 59 = .ok (.lreturn, 1) := by decide +kernel
theorem d_Mo_sign_60 : decode M_Mo_sign.2.1 60 = .ok (.ldc2_w 341, 3) := by decide +kernel
theorem xw_1592 : (Jvm.Cond.constantLong "MarkerTextModel" (341 : Nat) (540884512 : Int64)) ∈ xT := xT_at 1592 (by decide +kernel) (by decide +kernel)
theorem d_Mo_sign_63 : decode M_Mo_sign.2.1 63 = .ok (.lreturn, 1) := by decide +kernel
theorem d_Mo_sign_64 : decode M_Mo_sign.2.1 64 = .ok (.ldc2_w 343, 3) := by decide +kernel
theorem xw_1593 : (Jvm.Cond.constantLong "MarkerTextModel" (343 : Nat) (391386130720 : Int64)) ∈ xT := xT_at 1593 (by decide +kernel) (by decide +kernel)
theorem d_Mo_sign_67 : decode M_Mo_sign.2.1 67 = .ok (.lreturn, 1) := by decide +kernel
abbrev y_Mo_printTest : MethodName := ⟨"MarkerTextModel", "printTest", "(I)V"⟩
abbrev M_Mo_printTest : XMt := (y_Mo_printTest, prog_13_method_61_code, 6, none)
theorem d_Mo_printTest_0 : decode M_Mo_printTest.2.1 0 = .ok (.aload_n 0, 1) := by decide +kernel
theorem d_Mo_printTest_1 : decode M_Mo_printTest.2.1 1 = .ok (.getfield 54, 3) := by decide +kernel
theorem d_Mo_printTest_4 : decode M_Mo_printTest.2.1 4 = .ok (.iload_n 1, 1) := by decide +kernel
theorem d_Mo_printTest_5 : decode M_Mo_printTest.2.1 5 = .ok (.iaload, 1) := by decide +kernel
theorem d_Mo_printTest_6 : decode M_Mo_printTest.2.1 6 = .ok (.istore_n 2, 1) := by decide +kernel
theorem d_Mo_printTest_7 : decode M_Mo_printTest.2.1 7 = .ok (.iload_n 2, 1) := by decide +kernel
theorem d_Mo_printTest_8 : decode M_Mo_printTest.2.1 8 = .ok (.bipush 6, 2) := by decide +kernel
theorem d_Mo_printTest_10 : decode M_Mo_printTest.2.1 10 = .ok (.if_icmp .le 23, 3) := by decide +kernel
theorem d_Mo_printTest_13 : decode M_Mo_printTest.2.1 13 = .ok (.aload_n 0, 1) := by decide +kernel
theorem d_Mo_printTest_14 : decode M_Mo_printTest.2.1 14 = .ok (.iload_n 2, 1) := by decide +kernel
theorem d_Mo_printTest_15 : decode M_Mo_printTest.2.1 15 = .ok (.bipush 7, 2) := by decide +kernel
theorem d_Mo_printTest_17 : decode M_Mo_printTest.2.1 17 = .ok (.if_icmp .ne 9, 3) := by decide +kernel
theorem d_Mo_printTest_26 : decode M_Mo_printTest.2.1 26 = .ok (.ldc2_w 347, 3) := by decide +kernel
theorem xw_1583 : (Jvm.Cond.constantLong "MarkerTextModel" (347 : Nat) (435728179558 : Int64)) ∈ xT := xT_at 1583 (by decide +kernel) (by decide +kernel)
theorem d_Mo_printTest_29 : decode M_Mo_printTest.2.1 29 = .ok (.invokevirtual 349, 3) := by decide +kernel
theorem xw_1572 : (Jvm.Cond.code ({ cls := "MarkerTextModel", name := "putAll", desc := "(J)V" } : Jvm.MethodName) prog_13_method_59_code (5 : Nat) (Option.none : Option Jvm.ClassFile.FieldType)) ∈ xT := xT_at 1572 (by decide +kernel) (by decide +kernel)
theorem xcb_Mo_putAll : xcb M_Mo_putAll 1 := ⟨xw_1572, xw_8, by decide, by decide, by decide, by decide +kernel⟩
theorem xw_1571 : (Jvm.Cond.instanceMethod ({ cls := "MarkerTextModel", name := "putAll", desc := "(J)V" } : Jvm.MethodName)) ∈ xT := xT_at 1571 (by decide +kernel) (by decide +kernel)
theorem xw_1569 : (Jvm.Cond.methodLink "MarkerTextModel" (349 : Nat) ({ cls := "MarkerTextModel", name := "putAll", desc := "(J)V" } : Jvm.MethodName)) ∈ xT := xT_at 1569 (by decide +kernel) (by decide +kernel)
theorem xsel_Mo_putAll : Cond.selects "MarkerTextModel" y_Mo_putAll y_Mo_putAll ∈ xT := xT_sel (q := (y_Mo_putAll, 52)) (by decide +kernel) (by decide +kernel)
theorem xcv_Mo_349_Mo : xCV "MarkerTextModel" 349 "MarkerTextModel" M_Mo_putAll 1 := ⟨xcb_Mo_putAll, xw_1571, Or.inl ⟨xw_1569, Or.inl xsel_Mo_putAll⟩⟩
theorem d_Mo_printTest_32 : decode M_Mo_printTest.2.1 32 = .ok (.return_, 1) := by decide +kernel
theorem d_Mo_printTest_20 : decode M_Mo_printTest.2.1 20 = .ok (.ldc2_w 345, 3) := by decide +kernel
theorem xw_1582 : (Jvm.Cond.constantLong "MarkerTextModel" (345 : Nat) (1702195828 : Int64)) ∈ xT := xT_at 1582 (by decide +kernel) (by decide +kernel)
theorem d_Mo_printTest_23 : decode M_Mo_printTest.2.1 23 = .ok (.goto 6, 3) := by decide +kernel
theorem d_Mo_printTest_177 : decode M_Mo_printTest.2.1 177 = .ok (.aload_n 0, 1) := by decide +kernel
theorem d_Mo_printTest_178 : decode M_Mo_printTest.2.1 178 = .ok (.iload_n 2, 1) := by decide +kernel
theorem d_Mo_printTest_179 : decode M_Mo_printTest.2.1 179 = .ok (.bipush 6, 2) := by decide +kernel
theorem d_Mo_printTest_181 : decode M_Mo_printTest.2.1 181 = .ok (.if_icmp .ne 9, 3) := by decide +kernel
theorem d_Mo_printTest_184 : decode M_Mo_printTest.2.1 184 = .ok (.ldc2_w 359, 3) := by decide +kernel
theorem xw_1595 : (Jvm.Cond.constantLong "MarkerTextModel" (359 : Nat) (93 : Int64)) ∈ xT := xT_at 1595 (by decide +kernel) (by decide +kernel)
theorem d_Mo_printTest_187 : decode M_Mo_printTest.2.1 187 = .ok (.goto 4, 3) := by decide +kernel
theorem d_Mo_printTest_191 : decode M_Mo_printTest.2.1 191 = .ok (.invokevirtual 349, 3) := by decide +kernel
theorem d_Mo_printTest_194 : decode M_Mo_printTest.2.1 194 = .ok (.return_, 1) := by decide +kernel
theorem d_Mo_printTest_190 : decode M_Mo_printTest.2.1 190 = .ok (.lconst 0, 1) := by decide +kernel
theorem d_Mo_printTest_86 : decode M_Mo_printTest.2.1 86 = .ok (.iload_n 3, 1) := by decide +kernel
theorem d_Mo_printTest_87 : decode M_Mo_printTest.2.1 87 = .ok (.aload_n 0, 1) := by decide +kernel
theorem d_Mo_printTest_88 : decode M_Mo_printTest.2.1 88 = .ok (.getfield 60, 3) := by decide +kernel
theorem d_Mo_printTest_91 : decode M_Mo_printTest.2.1 91 = .ok (.iload_n 1, 1) := by decide +kernel
theorem d_Mo_printTest_92 : decode M_Mo_printTest.2.1 92 = .ok (.iaload, 1) := by decide +kernel
theorem d_Mo_printTest_93 : decode M_Mo_printTest.2.1 93 = .ok (.if_icmp .ge 84, 3) := by decide +kernel
theorem d_Mo_printTest_165 : decode M_Mo_printTest.2.1 165 = .ok (.aload_n 0, 1) := by decide +kernel
theorem d_Mo_printTest_166 : decode M_Mo_printTest.2.1 166 = .ok (.bipush 39, 2) := by decide +kernel
theorem d_Mo_printTest_168 : decode M_Mo_printTest.2.1 168 = .ok (.invokevirtual 328, 3) := by decide +kernel
theorem d_Mo_printTest_171 : decode M_Mo_printTest.2.1 171 = .ok (.iinc 3 1, 3) := by decide +kernel
theorem d_Mo_printTest_174 : decode M_Mo_printTest.2.1 174 = .ok (.goto (-88), 3) := by decide +kernel
theorem d_Mo_printTest_130 : decode M_Mo_printTest.2.1 130 = .ok (.iload 5, 2) := by decide +kernel
theorem d_Mo_printTest_132 : decode M_Mo_printTest.2.1 132 = .ok (.aload_n 0, 1) := by decide +kernel
theorem d_Mo_printTest_133 : decode M_Mo_printTest.2.1 133 = .ok (.getfield 72, 3) := by decide +kernel
theorem d_Mo_printTest_136 : decode M_Mo_printTest.2.1 136 = .ok (.iload 4, 2) := by decide +kernel
theorem d_Mo_printTest_138 : decode M_Mo_printTest.2.1 138 = .ok (.iaload, 1) := by decide +kernel
theorem d_Mo_printTest_139 : decode M_Mo_printTest.2.1 139 = .ok (.if_icmp .ge 26, 3) := by decide +kernel
theorem d_Mo_printTest_142 : decode M_Mo_printTest.2.1 142 = .ok (.aload_n 0, 1) := by decide +kernel
theorem d_Mo_printTest_143 : decode M_Mo_printTest.2.1 143 = .ok (.aload_n 0, 1) := by decide +kernel
theorem d_Mo_printTest_144 : decode M_Mo_printTest.2.1 144 = .ok (.getfield 69, 3) := by decide +kernel
theorem d_Mo_printTest_147 : decode M_Mo_printTest.2.1 147 = .ok (.bipush 11, 2) := by decide +kernel
theorem d_Mo_printTest_149 : decode M_Mo_printTest.2.1 149 = .ok (.iload 4, 2) := by decide +kernel
theorem d_Mo_printTest_151 : decode M_Mo_printTest.2.1 151 = .ok (.imul, 1) := by decide +kernel
theorem d_Mo_printTest_152 : decode M_Mo_printTest.2.1 152 = .ok (.iload 5, 2) := by decide +kernel
theorem d_Mo_printTest_154 : decode M_Mo_printTest.2.1 154 = .ok (.iadd, 1) := by decide +kernel
theorem d_Mo_printTest_155 : decode M_Mo_printTest.2.1 155 = .ok (.iaload, 1) := by decide +kernel
theorem d_Mo_printTest_156 : decode M_Mo_printTest.2.1 156 = .ok (.invokevirtual 328, 3) := by decide +kernel
theorem d_Mo_printTest_159 : decode M_Mo_printTest.2.1 159 = .ok (.iinc 5 1, 3) := by decide +kernel
theorem d_Mo_printTest_162 : decode M_Mo_printTest.2.1 162 = .ok (.goto (-32), 3) := by decide +kernel
theorem d_Mo_printTest_96 : decode M_Mo_printTest.2.1 96 = .ok (.aload_n 0, 1) := by decide +kernel
theorem d_Mo_printTest_97 : decode M_Mo_printTest.2.1 97 = .ok (.getfield 57, 3) := by decide +kernel
theorem d_Mo_printTest_100 : decode M_Mo_printTest.2.1 100 = .ok (.iload_n 1, 1) := by decide +kernel
theorem d_Mo_printTest_101 : decode M_Mo_printTest.2.1 101 = .ok (.iaload, 1) := by decide +kernel
theorem d_Mo_printTest_102 : decode M_Mo_printTest.2.1 102 = .ok (.iload_n 3, 1) := by decide +kernel
theorem d_Mo_printTest_103 : decode M_Mo_printTest.2.1 103 = .ok (.iadd, 1) := by decide +kernel
theorem d_Mo_printTest_104 : decode M_Mo_printTest.2.1 104 = .ok (.istore 4, 2) := by decide +kernel
theorem d_Mo_printTest_106 : decode M_Mo_printTest.2.1 106 = .ok (.aload_n 0, 1) := by decide +kernel
theorem d_Mo_printTest_107 : decode M_Mo_printTest.2.1 107 = .ok (.iload_n 3, 1) := by decide +kernel
theorem d_Mo_printTest_108 : decode M_Mo_printTest.2.1 108 = .ok (.ifCond .le 9, 3) := by decide +kernel
theorem d_Mo_printTest_117 : decode M_Mo_printTest.2.1 117 = .ok (.lconst 0, 1) := by decide +kernel
theorem d_Mo_printTest_118 : decode M_Mo_printTest.2.1 118 = .ok (.invokevirtual 349, 3) := by decide +kernel
theorem d_Mo_printTest_121 : decode M_Mo_printTest.2.1 121 = .ok (.aload_n 0, 1) := by decide +kernel
theorem d_Mo_printTest_122 : decode M_Mo_printTest.2.1 122 = .ok (.bipush 39, 2) := by decide +kernel
theorem d_Mo_printTest_124 : decode M_Mo_printTest.2.1 124 = .ok (.invokevirtual 328, 3) := by decide +kernel
theorem d_Mo_printTest_127 : decode M_Mo_printTest.2.1 127 = .ok (.iconst 0, 1) := by decide +kernel
theorem d_Mo_printTest_128 : decode M_Mo_printTest.2.1 128 = .ok (.istore 5, 2) := by decide +kernel
theorem d_Mo_printTest_111 : decode M_Mo_printTest.2.1 111 = .ok (.ldc2_w 357, 3) := by decide +kernel
theorem xw_1594 : (Jvm.Cond.constantLong "MarkerTextModel" (357 : Nat) (8236 : Int64)) ∈ xT := xT_at 1594 (by decide +kernel) (by decide +kernel)
theorem d_Mo_printTest_114 : decode M_Mo_printTest.2.1 114 = .ok (.goto 4, 3) := by decide +kernel
theorem d_Mo_printTest_76 : decode M_Mo_printTest.2.1 76 = .ok (.aload_n 0, 1) := by decide +kernel
theorem d_Mo_printTest_77 : decode M_Mo_printTest.2.1 77 = .ok (.iload_n 2, 1) := by decide +kernel
theorem d_Mo_printTest_78 : decode M_Mo_printTest.2.1 78 = .ok (.invokestatic 353, 3) := by decide +kernel
theorem xw_1586 : (Jvm.Cond.code ({ cls := "MarkerTextModel", name := "sign", desc := "(I)J" } : Jvm.MethodName) prog_13_method_60_code (1 : Nat) (Option.some Jvm.ClassFile.FieldType.long)) ∈ xT := xT_at 1586 (by decide +kernel) (by decide +kernel)
theorem xcb_Mo_sign : xcb M_Mo_sign 1 := ⟨xw_1586, xw_8, by decide, by decide, by decide, by decide +kernel⟩
theorem xw_1584 : (Jvm.Cond.methodLink "MarkerTextModel" (353 : Nat) ({ cls := "MarkerTextModel", name := "sign", desc := "(I)J" } : Jvm.MethodName)) ∈ xT := xT_at 1584 (by decide +kernel) (by decide +kernel)
theorem xw_1585 : (Jvm.Cond.static ({ cls := "MarkerTextModel", name := "sign", desc := "(I)J" } : Jvm.MethodName)) ∈ xT := xT_at 1585 (by decide +kernel) (by decide +kernel)
theorem xcs_Mo_353 : xCS "MarkerTextModel" 353 M_Mo_sign 1 := ⟨xcb_Mo_sign, xw_1585, Or.inl xw_1584⟩
theorem d_Mo_printTest_81 : decode M_Mo_printTest.2.1 81 = .ok (.invokevirtual 349, 3) := by decide +kernel
theorem d_Mo_printTest_84 : decode M_Mo_printTest.2.1 84 = .ok (.iconst 0, 1) := by decide +kernel
theorem d_Mo_printTest_85 : decode M_Mo_printTest.2.1 85 = .ok (.istore_n 3, 1) := by decide +kernel
theorem d_Mo_printTest_35 : decode M_Mo_printTest.2.1 35 = .ok (.iload_n 3, 1) := by decide +kernel
theorem d_Mo_printTest_36 : decode M_Mo_printTest.2.1 36 = .ok (.aload_n 0, 1) := by decide +kernel
theorem d_Mo_printTest_37 : decode M_Mo_printTest.2.1 37 = .ok (.getfield 16, 3) := by decide +kernel
theorem d_Mo_printTest_40 : decode M_Mo_printTest.2.1 40 = .ok (.aload_n 0, 1) := by decide +kernel
theorem d_Mo_printTest_41 : decode M_Mo_printTest.2.1 41 = .ok (.getfield 51, 3) := by decide +kernel
theorem d_Mo_printTest_44 : decode M_Mo_printTest.2.1 44 = .ok (.iload_n 1, 1) := by decide +kernel
theorem d_Mo_printTest_45 : decode M_Mo_printTest.2.1 45 = .ok (.iaload, 1) := by decide +kernel
theorem d_Mo_printTest_46 : decode M_Mo_printTest.2.1 46 = .ok (.iaload, 1) := by decide +kernel
theorem d_Mo_printTest_47 : decode M_Mo_printTest.2.1 47 = .ok (.if_icmp .ge 29, 3) := by decide +kernel
theorem d_Mo_printTest_50 : decode M_Mo_printTest.2.1 50 = .ok (.aload_n 0, 1) := by decide +kernel
theorem d_Mo_printTest_51 : decode M_Mo_printTest.2.1 51 = .ok (.aload_n 0, 1) := by decide +kernel
theorem d_Mo_printTest_52 : decode M_Mo_printTest.2.1 52 = .ok (.getfield 13, 3) := by decide +kernel
theorem d_Mo_printTest_55 : decode M_Mo_printTest.2.1 55 = .ok (.bipush 8, 2) := by decide +kernel
theorem d_Mo_printTest_57 : decode M_Mo_printTest.2.1 57 = .ok (.aload_n 0, 1) := by decide +kernel
theorem d_Mo_printTest_58 : decode M_Mo_printTest.2.1 58 = .ok (.getfield 51, 3) := by decide +kernel
theorem d_Mo_printTest_61 : decode M_Mo_printTest.2.1 61 = .ok (.iload_n 1, 1) := by decide +kernel
theorem d_Mo_printTest_62 : decode M_Mo_printTest.2.1 62 = .ok (.iaload, 1) := by decide +kernel
theorem d_Mo_printTest_63 : decode M_Mo_printTest.2.1 63 = .ok (.imul, 1) := by decide +kernel
theorem d_Mo_printTest_64 : decode M_Mo_printTest.2.1 64 = .ok (.iload_n 3, 1) := by decide +kernel
theorem d_Mo_printTest_65 : decode M_Mo_printTest.2.1 65 = .ok (.iadd, 1) := by decide +kernel
theorem d_Mo_printTest_66 : decode M_Mo_printTest.2.1 66 = .ok (.iaload, 1) := by decide +kernel
theorem d_Mo_printTest_67 : decode M_Mo_printTest.2.1 67 = .ok (.invokevirtual 328, 3) := by decide +kernel
theorem d_Mo_printTest_70 : decode M_Mo_printTest.2.1 70 = .ok (.iinc 3 1, 3) := by decide +kernel
theorem d_Mo_printTest_73 : decode M_Mo_printTest.2.1 73 = .ok (.goto (-38), 3) := by decide +kernel
theorem d_Mo_printTest_33 : decode M_Mo_printTest.2.1 33 = .ok (.iconst 0, 1) := by decide +kernel
theorem d_Mo_printTest_34 : decode M_Mo_printTest.2.1 34 = .ok (.istore_n 3, 1) := by decide +kernel
end
section RF21
variable {l : Launch} {G : XG} {h : XH} {c n d : Nat} {o : Nat} {rf : Nat → Nat} {S : MS}
/-- printed so far -/
abbrev PS (S : MS) (us : List Int) (p : Int) : MS := sp (sa S 48 us) 49 p
theorem PS_PS {us vs : List Int} {p q : Int} : PS (PS S us p) vs q = PS S vs q := by
  show (fup (fup S.1 49 p) 49 q, fup (fup S.2.1 48 us) 48 vs, S.2.2) = _
  rw [fup_fup, fup_fup]
theorem PS_id : PS S (S.2.1 48) (S.1 49) = S := by
  show (fup S.1 49 (S.1 49), fup S.2.1 48 (S.2.1 48), S.2.2) = _
  rw [fup_id, fup_id]
theorem r_put1 {v : Int} (hv : inR v) (hp : 0 ≤ S.1 49 ∧ S.1 49 < 1000) : RM l G d M_Mo_put [.ref o, .int (zI v)] o rf S (fun w S' => S' = PS S (se (S.2.1 48) (S.1 49) v) (S.1 49 + 1) ∧ w = none) := by
  intro H0 c n hR
  refine XM.of (by decide +kernel) (Nat.le_of_ble_eq_true rfl) ?_
  have hX : xonly H0 H0 RKs := xonly.rf
  refine x_aload_n d_Mo_put_0 rfl rfl ?_
  refine x_get xf_Mo_115_Mo (Or.inl hR.1) (v := .ref (rf 48)) rfl d_Mo_put_1 ?_
  refine x_aload_n d_Mo_put_4 rfl rfl ?_
  refine x_get xf_Mo_323_Mo (Or.inl hR.1) (v := .int (zI (S.1 49))) rfl d_Mo_put_5 ?_
  have hb5 : inR (S.1 49) := hR.2.2.2 49
  refine x_iload_n d_Mo_put_8 rfl ?_
  refine r_iast (i := 48) (us := (S.2.1 48)) ⟨rfl, rfl⟩ (by decide) hR hX rfl (by omega) (by show S.1 49 < 1000; omega) (by omega) d_Mo_put_9 ?_
  intro h hR hX
  refine x_aload_n d_Mo_put_10 rfl rfl ?_
  refine x_dup d_Mo_put_11 rfl ?_
  refine x_get xf_Mo_323_Mo (Or.inl hR.1) (v := .int (zI (S.1 49))) rfl d_Mo_put_12 ?_
  have hb12 : inR (S.1 49) := hR.2.2.2 49
  refine x_iconst (v := zI 1) d_Mo_put_15 (by decide) ?_
  refine z_iadd d_Mo_put_16 ?_
  refine r_put xf_Mo_323_Mo xp_Mo_49 hR hX (by omega) rfl rfl d_Mo_put_17 ?_
  intro h hR hX
  refine x_vret d_Mo_put_20 rfl ?_
  exact ⟨_, hR, hX, rfl, rfl, rfl, rfl⟩
end RF21
