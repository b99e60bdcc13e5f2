section
abbrev y_Mo_put : MethodName := ⟨"MarkerTextModel", "put", "(I)V"⟩
abbrev M_Mo_put : XMt := (y_Mo_put, prog_13_method_58_code, 2, none)
theorem d_Mo_put_0 : decode M_Mo_put.2.1 0 = .ok (.aload_n 0, 1) := by decide +kernel
theorem d_Mo_put_1 : decode M_Mo_put.2.1 1 = .ok (.getfield 115, 3) := by decide +kernel
theorem d_Mo_put_4 : decode M_Mo_put.2.1 4 = .ok (.aload_n 0, 1) := by decide +kernel
theorem d_Mo_put_5 : decode M_Mo_put.2.1 5 = .ok (.getfield 323, 3) := by decide +kernel
theorem xw_1219 : (Jvm.Cond.fieldLink "MarkerTextModel" (323 : Nat) "MarkerTextModel" "printed" "I") ∈ xT := xT_at 1219 (by decide +kernel) (by decide +kernel)
theorem xf_Mo_323_Mo : xF "MarkerTextModel" 323 k_MarkerTextModel 49 := ⟨_, _, _, "MarkerTextModel", rfl, by decide, Or.inl xw_1219, Or.inl rfl⟩
theorem d_Mo_put_8 : decode M_Mo_put.2.1 8 = .ok (.iload_n 1, 1) := by decide +kernel
theorem d_Mo_put_9 : decode M_Mo_put.2.1 9 = .ok (.iastore, 1) := by decide +kernel
theorem d_Mo_put_10 : decode M_Mo_put.2.1 10 = .ok (.aload_n 0, 1) := by decide +kernel
theorem d_Mo_put_11 : decode M_Mo_put.2.1 11 = .ok (.dup, 1) := by decide +kernel
theorem d_Mo_put_12 : decode M_Mo_put.2.1 12 = .ok (.getfield 323, 3) := by decide +kernel
theorem d_Mo_put_15 : decode M_Mo_put.2.1 15 = .ok (.iconst 1, 1) := by decide +kernel
theorem d_Mo_put_16 : decode M_Mo_put.2.1 16 = .ok (.iadd, 1) := by decide +kernel
theorem d_Mo_put_17 : decode M_Mo_put.2.1 17 = .ok (.putfield 323, 3) := by decide +kernel
theorem xp_Mo_49 : xP k_MarkerTextModel 49 false .int := ⟨_, _, _, rfl, rfl, by decide +kernel⟩
theorem d_Mo_put_20 : decode M_Mo_put.2.1 20 = .ok (.return_, 1) := by decide +kernel
abbrev y_Mo_putAll : MethodName := ⟨"MarkerTextModel", "putAll", "(J)V"⟩
abbrev M_Mo_putAll : XMt := (y_Mo_putAll, prog_13_method_59_code, 5, none)
theorem d_Mo_putAll_2 : decode M_Mo_putAll.2.1 2 = .ok (.lload_n 3, 1) := by decide +kernel
theorem d_Mo_putAll_3 : decode M_Mo_putAll.2.1 3 = .ok (.lconst 0, 1) := by decide +kernel
theorem d_Mo_putAll_4 : decode M_Mo_putAll.2.1 4 = .ok (.lcmp, 1) := by decide +kernel
theorem d_Mo_putAll_5 : decode M_Mo_putAll.2.1 5 = .ok (.ifCond .eq 21, 3) := by decide +kernel
theorem d_Mo_putAll_26 : decode M_Mo_putAll.2.1 26 = .ok (.return_, 1) := by decide +kernel
theorem d_Mo_putAll_8 : decode M_Mo_putAll.2.1 8 = .ok (.aload_n 0, 1) := by decide +kernel
theorem d_Mo_putAll_9 : decode M_Mo_putAll.2.1 9 = .ok (.lload_n 3, 1) := by decide +kernel
theorem d_Mo_putAll_10 : decode M_Mo_putAll.2.1 10 = .ok (.ldc2_w 326, 3) := by decide +kernel
theorem xw_1573 : (Jvm.Cond.constantLong "MarkerTextModel" (326 : Nat) (255 : Int64)) ∈ xT := xT_at 1573 (by decide +kernel) (by decide +kernel)
theorem d_Mo_putAll_13 : decode M_Mo_putAll.2.1 13 = .ok (.land, 1) := by decide +kernel
theorem d_Mo_putAll_14 : decode M_Mo_putAll.2.1 14 = .ok (.l2i, 1) := by decide +kernel
theorem d_Mo_putAll_15 : decode M_Mo_putAll.2.1 15 = .ok (.invokevirtual 328, 3) := by decide +kernel
theorem xw_1577 : (Jvm.Cond.code ({ cls := "MarkerTextModel", name := "put", desc := "(I)V" } : Jvm.MethodName) prog_13_method_58_code (2 : Nat) (Option.none : Option Jvm.ClassFile.FieldType)) ∈ xT := xT_at 1577 (by decide +kernel) (by decide +kernel)
theorem xcb_Mo_put : xcb M_Mo_put 1 := ⟨xw_1577, xw_8, by decide, by decide, by decide, by decide +kernel⟩
theorem xw_1576 : (Jvm.Cond.instanceMethod ({ cls := "MarkerTextModel", name := "put", desc := "(I)V" } : Jvm.MethodName)) ∈ xT := xT_at 1576 (by decide +kernel) (by decide +kernel)
theorem xw_1574 : (Jvm.Cond.methodLink "MarkerTextModel" (328 : Nat) ({ cls := "MarkerTextModel", name := "put", desc := "(I)V" } : Jvm.MethodName)) ∈ xT := xT_at 1574 (by decide +kernel) (by decide +kernel)
theorem xsel_Mo_put : Cond.selects "MarkerTextModel" y_Mo_put y_Mo_put ∈ xT := xT_sel (q := (y_Mo_put, 52)) (by decide +kernel) (by decide +kernel)
theorem xcv_Mo_328_Mo : xCV "MarkerTextModel" 328 "MarkerTextModel" M_Mo_put 1 := ⟨xcb_Mo_put, xw_1576, Or.inl ⟨xw_1574, Or.inl xsel_Mo_put⟩⟩
theorem d_Mo_putAll_18 : decode M_Mo_putAll.2.1 18 = .ok (.lload_n 3, 1) := by decide +kernel
theorem d_Mo_putAll_19 : decode M_Mo_putAll.2.1 19 = .ok (.bipush 8, 2) := by decide +kernel
theorem d_Mo_putAll_21 : decode M_Mo_putAll.2.1 21 = .ok (.lshr, 1) := by decide +kernel
theorem d_Mo_putAll_22 : decode M_Mo_putAll.2.1 22 = .ok (.lstore_n 3, 1) := by decide +kernel
theorem d_Mo_putAll_23 : decode M_Mo_putAll.2.1 23 = .ok (.goto (-21), 3) := by decide +kernel
theorem d_Mo_putAll_0 : decode M_Mo_putAll.2.1 0 = .ok (.lload_n 1, 1) := by decide +kernel
theorem d_Mo_putAll_1 : decode M_Mo_putAll.2.1 1 = .ok (.lstore_n 3, 1) := by decide +kernel
abbrev y_Mo_sign : MethodName := ⟨"MarkerTextModel", "sign", "(I)J"⟩
abbrev M_Mo_sign : XMt := (y_Mo_sign, prog_13_method_60_code, 1, (some .long))
theorem d_Mo_sign_0 : decode M_Mo_sign.2.1 0 = .ok (.iload_n 0, 1) := by decide +kernel
theorem d_Mo_sign_1 : decode M_Mo_sign.2.1 1 = .ok (.tableswitch 63 0 5 #[39, 43, 47, 51, 55, 59], 39) := by decide +kernel
theorem d_Mo_sign_40 : decode M_Mo_sign.2.1 40 = .ok (.ldc2_w 331, 3) := by decide +kernel
theorem xw_1587 : (Jvm.Cond.constantLong "MarkerTextModel" (331 : Nat) (540884256 : Int64)) ∈ xT := xT_at 1587 (by decide +kernel) (by decide +kernel)
theorem d_Mo_sign_43 : decode M_Mo_sign.2.1 43 = .ok (.lreturn, 1) := by decide +kernel
theorem d_Mo_sign_44 : decode M_Mo_sign.2.1 44 = .ok (.ldc2_w 333, 3) := by decide +kernel
theorem xw_1588 : (Jvm.Cond.constantLong "MarkerTextModel" (333 : Nat) (540877088 : Int64)) ∈ xT := xT_at 1588 (by decide +kernel) (by decide +kernel)
theorem d_Mo_sign_47 : decode M_Mo_sign.2.1 47 = .ok (.lreturn, 1) := by decide +kernel
theorem d_Mo_sign_48 : decode M_Mo_sign.2.1 48 = .ok (.ldc2_w 335, 3) := by decide +kernel
theorem xw_1589 : (Jvm.Cond.constantLong "MarkerTextModel" (335 : Nat) (2112544 : Int64)) ∈ xT := xT_at 1589 (by decide +kernel) (by decide +kernel)
theorem d_Mo_sign_51 : decode M_Mo_sign.2.1 51 = .ok (.lreturn, 1) := by decide +kernel
theorem d_Mo_sign_52 : decode M_Mo_sign.2.1 52 = .ok (.ldc2_w 337, 3) := by decide +kernel
theorem xw_1590 : (Jvm.Cond.constantLong "MarkerTextModel" (337 : Nat) (540884000 : Int64)) ∈ xT := xT_at 1590 (by decide +kernel) (by decide +kernel)
theorem d_Mo_sign_55 : decode M_Mo_sign.2.1 55 = .ok (.lreturn, 1) := by decide +kernel
theorem d_Mo_sign_56 : decode M_Mo_sign.2.1 56 = .ok (.ldc2_w 339, 3) := by decide +kernel
theorem xw_1591 : (Jvm.Cond.constantLong "MarkerTextModel" (339 : Nat) (2113056 : Int64)) ∈ xT := xT_at 1591 (by decide +kernel) (by decide +kernel)
theorem d_Mo_sign_59 : decode M_Mo_sign.2.1 59 = .ok (.lreturn, 1) := by decide +kernel
theorem d_Mo_sign_60 : decode M_Mo_sign.2.1 60 = .ok (.ldc2_w 341, 3) := by decide +kernel
theorem xw_1592 : (Jvm.Cond.constantLong "MarkerTextModel" (341 : Nat) (540884512 : Int64)) ∈ xT := xT_at 1592 (by decide +kernel) (by decide +kernel)
theorem d_Mo_sign_63 : decode M_Mo_sign.2.1 63 = .ok (.lreturn, 1) := by decide +kernel
theorem d_Mo_sign_64 : decode M_Mo_sign.2.1 64 = .ok (.ldc2_w 343, 3) := by decide +kernel
theorem xw_1593 : (Jvm.Cond.constantLong "MarkerTextModel" (343 : Nat) (391386130720 : Int64)) ∈ xT := xT_at 1593 (by decide +kernel) (by decide +kernel)
theorem d_Mo_sign_67 : decode M_Mo_sign.2.1 67 = .ok (.lreturn, 1) := by decide +kernel
abbrev y_Mo_printTest : MethodName := ⟨"MarkerTextModel", "printTest", "(I)V"⟩
abbrev M_Mo_printTest : XMt := (y_Mo_printTest, prog_13_method_61_code, 6, none)
theorem d_Mo_printTest_0 : decode M_Mo_printTest.2.1 0 = .ok (.aload_n 0, 1) := by decide +kernel
theorem d_Mo_printTest_1 : decode M_Mo_printTest.2.1 1 = .ok (.getfield 54, 3) := by decide +kernel
theorem d_Mo_printTest_4 : decode M_Mo_printTest.2.1 4 = .ok (.iload_n 1, 1) := by decide +kernel
theorem d_Mo_printTest_5 : decode M_Mo_printTest.2.1 5 = .ok (.iaload, 1) := by decide +kernel
theorem d_Mo_printTest_6 : decode M_Mo_printTest.2.1 6 = .ok (.istore_n 2, 1) := by decide +kernel
theorem d_Mo_printTest_7 : decode M_Mo_printTest.2.1 7 = .ok (.iload_n 2, 1) := by decide +kernel
theorem d_Mo_printTest_8 : decode M_Mo_printTest.2.1 8 = .ok (.bipush 6, 2) := by decide +kernel
theorem d_Mo_printTest_10 : decode M_Mo_printTest.2.1 10 = .ok (.if_icmp .le 23, 3) := by decide +kernel
theorem d_Mo_printTest_13 : decode M_Mo_printTest.2.1 13 = .ok (.aload_n 0, 1) := by decide +kernel
theorem d_Mo_printTest_14 : decode M_Mo_printTest.2.1 14 = .ok (.iload_n 2, 1) := by decide +kernel
theorem d_Mo_printTest_15 : decode M_Mo_printTest.2.1 15 = .ok (.bipush 7, 2) := by decide +kernel
theorem d_Mo_printTest_17 : decode M_Mo_printTest.2.1 17 = .ok (.if_icmp .ne 9, 3) := by decide +kernel
theorem d_Mo_printTest_26 : decode M_Mo_printTest.2.1 26 = .ok (.ldc2_w 347, 3) := by decide +kernel
theorem xw_1583 : (Jvm.Cond.constantLong "MarkerTextModel" (347 : Nat) (435728179558 : Int64)) ∈ xT := xT_at 1583 (by decide +kernel) (by decide +kernel)
theorem d_Mo_printTest_29 : decode M_Mo_printTest.2.1 29 = .ok (.invokevirtual 349, 3) := by decide +kernel
theorem xw_1572 : (Jvm.Cond.code ({ cls := "MarkerTextModel", name := "putAll", desc := "(J)V" } : Jvm.MethodName) prog_13_method_59_code (5 : Nat) (Option.none : Option Jvm.ClassFile.FieldType)) ∈ xT := xT_at 1572 (by decide +kernel) (by decide +kernel)
theorem xcb_Mo_putAll : xcb M_Mo_putAll 1 := ⟨xw_1572, xw_8, by decide, by decide, by decide, by decide +kernel⟩
theorem xw_1571 : (Jvm.Cond.instanceMethod ({ cls := "MarkerTextModel", name := "putAll", desc := "(J)V" } : Jvm.MethodName)) ∈ xT := xT_at 1571 (by decide +kernel) (by decide +kernel)
theorem xw_1569 : (Jvm.Cond.methodLink "MarkerTextModel" (349 : Nat) ({ cls := "MarkerTextModel", name := "putAll", desc := "(J)V" } : Jvm.MethodName)) ∈ xT := xT_at 1569 (by decide +kernel) (by decide +kernel)
theorem xsel_Mo_putAll : Cond.selects "MarkerTextModel" y_Mo_putAll y_Mo_putAll ∈ xT := xT_sel (q := (y_Mo_putAll, 52)) (by decide +kernel) (by decide +kernel)
theorem xcv_Mo_349_Mo : xCV "MarkerTextModel" 349 "MarkerTextModel" M_Mo_putAll 1 := ⟨xcb_Mo_putAll, xw_1571, Or.inl ⟨xw_1569, Or.inl xsel_Mo_putAll⟩⟩
theorem d_Mo_printTest_32 : decode M_Mo_printTest.2.1 32 = .ok (.return_, 1) := by decide +kernel
theorem d_Mo_printTest_20 : decode M_Mo_printTest.2.1 20 = .ok (.ldc2_w 345, 3) := by decide +kernel
theorem xw_1582 : (Jvm.Cond.constantLong "MarkerTextModel" (345 : Nat) (1702195828 : Int64)) ∈ xT := xT_at 1582 (by decide +kernel) (by decide +kernel)
theorem d_Mo_printTest_23 : decode M_Mo_printTest.2.1 23 = .ok (.goto 6, 3) := by decide +kernel
theorem d_Mo_printTest_177 : decode M_Mo_printTest.2.1 177 = .ok (.aload_n 0, 1) := by decide +kernel
theorem d_Mo_printTest_178 : decode M_Mo_printTest.2.1 178 = .ok (.iload_n 2, 1) := by decide +kernel
theorem d_Mo_printTest_179 : decode M_Mo_printTest.2.1 179 = .ok (.bipush 6, 2) := by decide +kernel
theorem d_Mo_printTest_181 : decode M_Mo_printTest.2.1 181 = .ok (.if_icmp .ne 9, 3) := by decide +kernel
theorem d_Mo_printTest_184 : decode M_Mo_printTest.2.1 184 = .ok (.ldc2_w 359, 3) := by decide +kernel
theorem xw_1595 : (Jvm.Cond.constantLong "MarkerTextModel" (359 : Nat) (93 : Int64)) ∈ xT := xT_at 1595 (by decide +kernel) (by decide +kernel)
theorem d_Mo_printTest_187 : decode M_Mo_printTest.2.1 187 = .ok (.goto 4, 3) := by decide +kernel
theorem d_Mo_printTest_191 : decode M_Mo_printTest.2.1 191 = .ok (.invokevirtual 349, 3) := by decide +kernel
theorem d_Mo_printTest_194 : decode M_Mo_printTest.2.1 194 = .ok (.return_, 1) := by decide +kernel
theorem d_Mo_printTest_190 : decode M_Mo_printTest.2.1 190 = .ok (.lconst 0, 1) := by decide +kernel
theorem d_Mo_printTest_86 : decode M_Mo_printTest.2.1 86 = .ok (.iload_n 3, 1) := by decide +kernel
theorem d_Mo_printTest_87 : decode M_Mo_printTest.2.1 87 = .ok (.aload_n 0, 1) := by decide +kernel
theorem d_Mo_printTest_88 : decode M_Mo_printTest.2.1 88 = .ok (.getfield 60, 3) := by decide +kernel
theorem d_Mo_printTest_91 : decode M_Mo_printTest.2.1 91 = .ok (.iload_n 1, 1) := by decide +kernel
theorem d_Mo_printTest_92 : decode M_Mo_printTest.2.1 92 = .ok (.iaload, 1) := by decide +kernel
theorem d_Mo_printTest_93 : decode M_Mo_printTest.2.1 93 = .ok (.if_icmp .ge 84, 3) := by decide +kernel
theorem d_Mo_printTest_165 : decode M_Mo_printTest.2.1 165 = .ok (.aload_n 0, 1) := by decide +kernel
theorem d_Mo_printTest_166 : decode M_Mo_printTest.2.1 166 = .ok (.bipush 39, 2) := by decide +kernel
theorem d_Mo_printTest_168 : decode M_Mo_printTest.2.1 168 = .ok (.invokevirtual 328, 3) := by decide +kernel
theorem d_Mo_printTest_171 : decode M_Mo_printTest.2.1 171 = .ok (.iinc 3 1, 3) := by decide +kernel
theorem d_Mo_printTest_174 : decode M_Mo_printTest.2.1 174 = .ok (.goto (-88), 3) := by decide +kernel
theorem d_Mo_printTest_130 : decode M_Mo_printTest.2.1 130 = .ok (.iload 5, 2) := by decide +kernel
theorem d_Mo_printTest_132 : decode M_Mo_printTest.2.1 132 = .ok (.aload_n 0, 1) := by decide +kernel
theorem d_Mo_printTest_133 : decode M_Mo_printTest.2.1 133 = .ok (.getfield 72, 3) := by decide +kernel
theorem d_Mo_printTest_136 : decode M_Mo_printTest.2.1 136 = .ok (.iload 4, 2) := by decide +kernel
theorem d_Mo_printTest_138 : decode M_Mo_printTest.2.1 138 = .ok (.iaload, 1) := by decide +kernel
theorem d_Mo_printTest_139 : decode M_Mo_printTest.2.1 139 = .ok (.if_icmp .ge 26, 3) := by decide +kernel
theorem d_Mo_printTest_142 : decode M_Mo_printTest.2.1 142 = .ok (.aload_n 0, 1) := by decide +kernel
theorem d_Mo_printTest_143 : decode M_Mo_printTest.2.1 143 = .ok (.aload_n 0, 1) := by decide +kernel
theorem d_Mo_printTest_144 : decode M_Mo_printTest.2.1 144 = .ok (.getfield 69, 3) := by decide +kernel
theorem d_Mo_printTest_147 : decode M_Mo_printTest.2.1 147 = .ok (.bipush 11, 2) := by decide +kernel
theorem d_Mo_printTest_149 : decode M_Mo_printTest.2.1 149 = .ok (.iload 4, 2) := by decide +kernel
theorem d_Mo_printTest_151 : decode M_Mo_printTest.2.1 151 = .ok (.imul, 1) := by decide +kernel
theorem d_Mo_printTest_152 : decode M_Mo_printTest.2.1 152 = .ok (.iload 5, 2) := by decide +kernel
theorem d_Mo_printTest_154 : decode M_Mo_printTest.2.1 154 = .ok (.iadd, 1) := by decide +kernel
theorem d_Mo_printTest_155 : decode M_Mo_printTest.2.1 155 = .ok (.iaload, 1) := by decide +kernel
theorem d_Mo_printTest_156 : decode M_Mo_printTest.2.1 156 = .ok (.invokevirtual 328, 3) := by decide +kernel
theorem d_Mo_printTest_159 : decode M_Mo_printTest.2.1 159 = .ok (.iinc 5 1, 3) := by decide +kernel
theorem d_Mo_printTest_162 : decode M_Mo_printTest.2.1 162 = .ok (.goto (-32), 3) := by decide +kernel
theorem d_Mo_printTest_96 : decode M_Mo_printTest.2.1 96 = .ok (.aload_n 0, 1) := by decide +kernel
theorem d_Mo_printTest_97 : decode M_Mo_printTest.2.1 97 = .ok (.getfield 57, 3) := by decide +kernel
theorem d_Mo_printTest_100 : decode M_Mo_printTest.2.1 100 = .ok (.iload_n 1, 1) := by decide +kernel
theorem d_Mo_printTest_101 : decode M_Mo_printTest.2.1 101 = .ok (.iaload, 1) := by decide +kernel
theorem d_Mo_printTest_102 : decode M_Mo_printTest.2.1 102 = .ok (.iload_n 3, 1) := by decide +kernel
theorem d_Mo_printTest_103 : decode M_Mo_printTest.2.1 103 = .ok (.iadd, 1) := by decide +kernel
theorem d_Mo_printTest_104 : decode M_Mo_printTest.2.1 104 = .ok (.istore 4, 2) := by decide +kernel
theorem d_Mo_printTest_106 : decode M_Mo_printTest.2.1 106 = .ok (.aload_n 0, 1) := by decide +kernel
theorem d_Mo_printTest_107 : decode M_Mo_printTest.2.1 107 = .ok (.iload_n 3, 1) := by decide +kernel
theorem d_Mo_printTest_108 : decode M_Mo_printTest.2.1 108 = .ok (.ifCond .le 9, 3) := by decide +kernel
theorem d_Mo_printTest_117 : decode M_Mo_printTest.2.1 117 = .ok (.lconst 0, 1) := by decide +kernel
theorem d_Mo_printTest_118 : decode M_Mo_printTest.2.1 118 = .ok (.invokevirtual 349, 3) := by decide +kernel
theorem d_Mo_printTest_121 : decode M_Mo_printTest.2.1 121 = .ok (.aload_n 0, 1) := by decide +kernel
theorem d_Mo_printTest_122 : decode M_Mo_printTest.2.1 122 = .ok (.bipush 39, 2) := by decide +kernel
theorem d_Mo_printTest_124 : decode M_Mo_printTest.2.1 124 = .ok (.invokevirtual 328, 3) := by decide +kernel
theorem d_Mo_printTest_127 : decode M_Mo_printTest.2.1 127 = .ok (.iconst 0, 1) := by decide +kernel
theorem d_Mo_printTest_128 : decode M_Mo_printTest.2.1 128 = .ok (.istore 5, 2) := by decide +kernel
theorem d_Mo_printTest_111 : decode M_Mo_printTest.2.1 111 = .ok (.ldc2_w 357, 3) := by decide +kernel
theorem xw_1594 : (Jvm.Cond.constantLong "MarkerTextModel" (357 : Nat) (8236 : Int64)) ∈ xT := xT_at 1594 (by decide +kernel) (by decide +kernel)
theorem d_Mo_printTest_114 : decode M_Mo_printTest.2.1 114 = .ok (.goto 4, 3) := by decide +kernel
theorem d_Mo_printTest_76 : decode M_Mo_printTest.2.1 76 = .ok (.aload_n 0, 1) := by decide +kernel
theorem d_Mo_printTest_77 : decode M_Mo_printTest.2.1 77 = .ok (.iload_n 2, 1) := by decide +kernel
theorem d_Mo_printTest_78 : decode M_Mo_printTest.2.1 78 = .ok (.invokestatic 353, 3) := by decide +kernel
theorem xw_1586 : (Jvm.Cond.code ({ cls := "MarkerTextModel", name := "sign", desc := "(I)J" } : Jvm.MethodName) prog_13_method_60_code (1 : Nat) (Option.some Jvm.ClassFile.FieldType.long)) ∈ xT := xT_at 1586 (by decide +kernel) (by decide +kernel)
theorem xcb_Mo_sign : xcb M_Mo_sign 1 := ⟨xw_1586, xw_8, by decide, by decide, by decide, by decide +kernel⟩
theorem xw_1584 : (Jvm.Cond.methodLink "MarkerTextModel" (353 : Nat) ({ cls := "MarkerTextModel", name := "sign", desc := "(I)J" } : Jvm.MethodName)) ∈ xT := xT_at 1584 (by decide +kernel) (by decide +kernel)
theorem xw_1585 : (Jvm.Cond.static ({ cls := "MarkerTextModel", name := "sign", desc := "(I)J" } : Jvm.MethodName)) ∈ xT := xT_at 1585 (by decide +kernel) (by decide +kernel)
theorem xcs_Mo_353 : xCS "MarkerTextModel" 353 M_Mo_sign 1 := ⟨xcb_Mo_sign, xw_1585, Or.inl xw_1584⟩
theorem d_Mo_printTest_81 : decode M_Mo_printTest.2.1 81 = .ok (.invokevirtual 349, 3) := by decide +kernel
theorem d_Mo_printTest_84 : decode M_Mo_printTest.2.1 84 = .ok (.iconst 0, 1) := by decide +kernel
theorem d_Mo_printTest_85 : decode M_Mo_printTest.2.1 85 = .ok (.istore_n 3, 1) := by decide +kernel
theorem d_Mo_printTest_35 : decode M_Mo_printTest.2.1 35 = .ok (.iload_n 3, 1) := by decide +kernel
theorem d_Mo_printTest_36 : decode M_Mo_printTest.2.1 36 = .ok (.aload_n 0, 1) := by decide +kernel
theorem d_Mo_printTest_37 : decode M_Mo_printTest.2.1 37 = .ok (.getfield 16, 3) := by decide +kernel
theorem d_Mo_printTest_40 : decode M_Mo_printTest.2.1 40 = .ok (.aload_n 0, 1) := by decide +kernel
theorem d_Mo_printTest_41 : decode M_Mo_printTest.2.1 41 = .ok (.getfield 51, 3) := by decide +kernel
theorem d_Mo_printTest_44 : decode M_Mo_printTest.2.1 44 = .ok (.iload_n 1, 1) := by decide +kernel
theorem d_Mo_printTest_45 : decode M_Mo_printTest.2.1 45 = .ok (.iaload, 1) := by decide +kernel
theorem d_Mo_printTest_46 : decode M_Mo_printTest.2.1 46 = .ok (.iaload, 1) := by decide +kernel
theorem d_Mo_printTest_47 : decode M_Mo_printTest.2.1 47 = .ok (.if_icmp .ge 29, 3) := by decide +kernel
theorem d_Mo_printTest_50 : decode M_Mo_printTest.2.1 50 = .ok (.aload_n 0, 1) := by decide +kernel
theorem d_Mo_printTest_51 : decode M_Mo_printTest.2.1 51 = .ok (.aload_n 0, 1) := by decide +kernel
theorem d_Mo_printTest_52 : decode M_Mo_printTest.2.1 52 = .ok (.getfield 13, 3) := by decide +kernel
theorem d_Mo_printTest_55 : decode M_Mo_printTest.2.1 55 = .ok (.bipush 8, 2) := by decide +kernel
theorem d_Mo_printTest_57 : decode M_Mo_printTest.2.1 57 = .ok (.aload_n 0, 1) := by decide +kernel
theorem d_Mo_printTest_58 : decode M_Mo_printTest.2.1 58 = .ok (.getfield 51, 3) := by decide +kernel
theorem d_Mo_printTest_61 : decode M_Mo_printTest.2.1 61 = .ok (.iload_n 1, 1) := by decide +kernel
theorem d_Mo_printTest_62 : decode M_Mo_printTest.2.1 62 = .ok (.iaload, 1) := by decide +kernel
theorem d_Mo_printTest_63 : decode M_Mo_printTest.2.1 63 = .ok (.imul, 1) := by decide +kernel
theorem d_Mo_printTest_64 : decode M_Mo_printTest.2.1 64 = .ok (.iload_n 3, 1) := by decide +kernel
theorem d_Mo_printTest_65 : decode M_Mo_printTest.2.1 65 = .ok (.iadd, 1) := by decide +kernel
theorem d_Mo_printTest_66 : decode M_Mo_printTest.2.1 66 = .ok (.iaload, 1) := by decide +kernel
theorem d_Mo_printTest_67 : decode M_Mo_printTest.2.1 67 = .ok (.invokevirtual 328, 3) := by decide +kernel
theorem d_Mo_printTest_70 : decode M_Mo_printTest.2.1 70 = .ok (.iinc 3 1, 3) := by decide +kernel
theorem d_Mo_printTest_73 : decode M_Mo_printTest.2.1 73 = .ok (.goto (-38), 3) := by decide +kernel
theorem d_Mo_printTest_33 : decode M_Mo_printTest.2.1 33 = .ok (.iconst 0, 1) := by decide +kernel
theorem d_Mo_printTest_34 : decode M_Mo_printTest.2.1 34 = .ok (.istore_n 3, 1) := by decide +kernel
end
section RF21
variable {l : Launch} {G : XG} {h : XH} {c n d : Nat} {o : Nat} {rf : Nat → Nat} {S : MS}
/-- a long has at most k bytes -/
def palB (x : Int64) : Nat → Bool
  | 0 => decide (x = 0)
  | k + 1 => decide (x = 0) || palB (x >>> (Int32.toInt64 (zI 8) &&& 63)) k
/-- printed so far -/
abbrev PS (S : MS) (us : List Int) (p : Int) : MS := sp (sa S 48 us) 49 p
theorem PS_PS {us vs : List Int} {p q : Int} : PS (PS S us p) vs q = PS S vs q := by
  show (fup (fup S.1 49 p) 49 q, fup (fup S.2.1 48 us) 48 vs, S.2.2) = _
  rw [fup_fup, fup_fup]
theorem PS_id : PS S (S.2.1 48) (S.1 49) = S := by
  show (fup S.1 49 (S.1 49), fup S.2.1 48 (S.2.1 48), S.2.2) = _
  rw [fup_id, fup_id]
theorem r_put1 {v : Int} (hv : inR v) (hp : 0 ≤ S.1 49 ∧ S.1 49 < 1000) : RM l G d M_Mo_put [.ref o, .int (zI v)] o rf S (fun w S' => S' = PS S (se (S.2.1 48) (S.1 49) v) (S.1 49 + 1) ∧ w = none) := by
  intro H0 c n hR
  refine XM.of (by decide +kernel) (Nat.le_of_ble_eq_true rfl) ?_
  have hX : xonly H0 H0 RKs := xonly.rf
  refine x_aload_n d_Mo_put_0 rfl rfl ?_
  refine x_get xf_Mo_115_Mo (Or.inl hR.1) (v := .ref (rf 48)) rfl d_Mo_put_1 ?_
  refine x_aload_n d_Mo_put_4 rfl rfl ?_
  refine x_get xf_Mo_323_Mo (Or.inl hR.1) (v := .int (zI (S.1 49))) rfl d_Mo_put_5 ?_
  have hb5 : inR (S.1 49) := hR.2.2.2 49
  refine x_iload_n d_Mo_put_8 rfl ?_
  refine r_iast (i := 48) (us := (S.2.1 48)) ⟨rfl, rfl⟩ (by decide) hR hX rfl (by omega) (by show S.1 49 < 1000; omega) (by omega) d_Mo_put_9 ?_
  intro h hR hX
  refine x_aload_n d_Mo_put_10 rfl rfl ?_
  refine x_dup d_Mo_put_11 rfl ?_
  refine x_get xf_Mo_323_Mo (Or.inl hR.1) (v := .int (zI (S.1 49))) rfl d_Mo_put_12 ?_
  have hb12 : inR (S.1 49) := hR.2.2.2 49
  refine x_iconst (v := zI 1) d_Mo_put_15 (by decide) ?_
  refine z_iadd d_Mo_put_16 ?_
  refine r_put xf_Mo_323_Mo xp_Mo_49 hR hX (by omega) rfl rfl d_Mo_put_17 ?_
  intro h hR hX
  refine x_vret d_Mo_put_20 rfl ?_
  exact ⟨_, hR, hX, rfl, rfl, rfl, rfl⟩
/-- at most k characters more -/
abbrev ppQ (S : MS) (k : Int) : Option Value → MS → Prop := fun v S' => ∃ (us : List Int) (p : Int), S' = PS S us p ∧ v = none ∧ S.1 49 ≤ p ∧ p ≤ S.1 49 + k
theorem r_putAll (hd : 1 ≤ d) {x : Int64} {k : Nat} (hk : palB x k = true) (hp : 0 ≤ S.1 49 ∧ S.1 49 + k ≤ 1000) : RM l G d M_Mo_putAll [.ref o, .long x] o rf S (ppQ S k) := by
  obtain ⟨d, rfl⟩ : ∃ q, d = q + 1 := ⟨d - 1, by omega⟩
  intro H0 c n hR
  refine XM.of (by decide +kernel) (Nat.le_of_ble_eq_true rfl) ?_
  have hX : xonly H0 H0 RKs := xonly.rf
  have lp : ∀ (m : Nat) (us : List Int) (p : Int) (y : Int64), palB y m = true → S.1 49 ≤ p → p + m ≤ S.1 49 + k → RX l G M_Mo_putAll (d + 1) 2 [some (.ref o), some (.long x), none, some (.long y), none] [] H0 o rf c n (PS S us p) (ppQ S k) := by
    intro m
    induction m with
    | zero =>
      intro us p y hy h0 h1 h hR hX
      have hy0 : y = 0 := of_decide_eq_true hy
      refine x_lload_n d_Mo_putAll_2 rfl ?_
      refine x_lconst (v := 0) d_Mo_putAll_3 (by decide) ?_
      refine x_lcmp d_Mo_putAll_4 (x_zi ?_)
      have hr4 := inR_ti (lg_cmp y 0)
      refine z_if_eq (tgt := 26) d_Mo_putAll_5 (by decide) (by omega) (fun _ => ?_) (fun hq => absurd (lgz' hy0) hq)
      refine x_vret d_Mo_putAll_26 rfl ?_
      exact ⟨_, hR, hX, rfl, rfl, us, p, rfl, rfl, h0, by omega⟩
    | succ m ih =>
      intro us p y hy h0 h1 h hR hX
      have hy' : (decide (y = 0) || palB (y >>> (Int32.toInt64 (zI 8) &&& 63)) m) = true := hy
      rw [Bool.or_eq_true] at hy'
      refine x_lload_n d_Mo_putAll_2 rfl ?_
      refine x_lconst (v := 0) d_Mo_putAll_3 (by decide) ?_
      refine x_lcmp d_Mo_putAll_4 (x_zi ?_)
      have hr4 := inR_ti (lg_cmp y 0)
      refine z_if_eq (tgt := 26) d_Mo_putAll_5 (by decide) (by omega) (fun hc5 => ?_) (fun hc5 => ?_)
      · refine x_vret d_Mo_putAll_26 rfl ?_
        exact ⟨_, hR, hX, rfl, rfl, us, p, rfl, rfl, h0, by omega⟩
      · refine x_aload_n d_Mo_putAll_8 rfl rfl ?_
        refine x_lload_n d_Mo_putAll_9 rfl ?_
        refine x_ldc2 (v := 255) xw_1573 d_Mo_putAll_10 ?_
        refine x_land d_Mo_putAll_13 ?_
        refine x_l2i d_Mo_putAll_14 (x_zi ?_)
        have hr14 := inR_ti (Int64.toInt32 (y &&& 255))
        refine x_callV (As := [_]) (k := k_MarkerTextModel) rfl xcv_Mo_328_Mo (Or.inl hR.1) (RM.ap hR (r_put1 (S := PS S us p) (by omega) (by show 0 ≤ p ∧ p < 1000; omega))) rfl rfl (Nat.le_of_ble_eq_true rfl) d_Mo_putAll_15 ?_
        rintro v15 h cq nq ⟨S15, hR, hX15, rfl, rfl, rfl, rfl⟩
        replace hX := hX.tr hX15
        refine x_lload_n d_Mo_putAll_18 rfl ?_
        refine x_bipush (v := zI 8) d_Mo_putAll_19 (by decide) ?_
        refine x_lshr d_Mo_putAll_21 rfl ?_
        refine x_lstore_n (L' := [_, _, _, _, _]) d_Mo_putAll_22 rfl rfl ?_
        refine x_goto (tgt := 2) d_Mo_putAll_23 (by decide) ?_
        exact ih _ (p + 1) _ (hy'.elim (fun q => absurd (lgz' (of_decide_eq_true q)) hc5) id) (by omega) (by omega) _ (by rw [PS_PS] at hR; exact hR) hX
  refine x_lload_n d_Mo_putAll_0 rfl ?_
  refine x_lstore_n (L' := [_, _, _, _, _]) d_Mo_putAll_1 rfl rfl ?_
  exact lp k _ _ x hk (Int.le_refl _) (Int.le_refl _) _ (by rw [PS_id]; exact hR) hX
theorem r_sign {k : Int} (hk : 0 ≤ k ∧ k ≤ 6) : XM l G d M_Mo_sign [.int (zI k)] h c n (zP h c n (fun v => ∃ x : Int64, v = some (.long x) ∧ ((k ≤ 5 ∧ palB x 4 = true) ∨ (k = 6 ∧ palB x 5 = true)))) := by
  refine XM.of (by decide +kernel) (Nat.le_of_ble_eq_true rfl) ?_
  refine x_iload_n d_Mo_sign_0 rfl ?_
  by_cases hsw1_0 : k = 0
  · subst hsw1_0
    refine x_tableIn (tgt := 40) (off := 39) d_Mo_sign_1 (by decide) (by decide) (by decide) (by decide) ?_
    refine x_ldc2 (v := 540884256) xw_1587 d_Mo_sign_40 ?_
    refine x_lret d_Mo_sign_43 rfl ?_
    first | exact ⟨rfl, rfl, rfl, _, rfl, Or.inl ⟨by decide, by decide +kernel⟩⟩ | exact ⟨rfl, rfl, rfl, _, rfl, Or.inr ⟨by omega, by decide +kernel⟩⟩
  by_cases hsw1_1 : k = 1
  · subst hsw1_1
    refine x_tableIn (tgt := 44) (off := 43) d_Mo_sign_1 (by decide) (by decide) (by decide) (by decide) ?_
    refine x_ldc2 (v := 540877088) xw_1588 d_Mo_sign_44 ?_
    refine x_lret d_Mo_sign_47 rfl ?_
    first | exact ⟨rfl, rfl, rfl, _, rfl, Or.inl ⟨by decide, by decide +kernel⟩⟩ | exact ⟨rfl, rfl, rfl, _, rfl, Or.inr ⟨by omega, by decide +kernel⟩⟩
  by_cases hsw1_2 : k = 2
  · subst hsw1_2
    refine x_tableIn (tgt := 48) (off := 47) d_Mo_sign_1 (by decide) (by decide) (by decide) (by decide) ?_
    refine x_ldc2 (v := 2112544) xw_1589 d_Mo_sign_48 ?_
    refine x_lret d_Mo_sign_51 rfl ?_
    first | exact ⟨rfl, rfl, rfl, _, rfl, Or.inl ⟨by decide, by decide +kernel⟩⟩ | exact ⟨rfl, rfl, rfl, _, rfl, Or.inr ⟨by omega, by decide +kernel⟩⟩
  by_cases hsw1_3 : k = 3
  · subst hsw1_3
    refine x_tableIn (tgt := 52) (off := 51) d_Mo_sign_1 (by decide) (by decide) (by decide) (by decide) ?_
    refine x_ldc2 (v := 540884000) xw_1590 d_Mo_sign_52 ?_
    refine x_lret d_Mo_sign_55 rfl ?_
    first | exact ⟨rfl, rfl, rfl, _, rfl, Or.inl ⟨by decide, by decide +kernel⟩⟩ | exact ⟨rfl, rfl, rfl, _, rfl, Or.inr ⟨by omega, by decide +kernel⟩⟩
  by_cases hsw1_4 : k = 4
  · subst hsw1_4
    refine x_tableIn (tgt := 56) (off := 55) d_Mo_sign_1 (by decide) (by decide) (by decide) (by decide) ?_
    refine x_ldc2 (v := 2113056) xw_1591 d_Mo_sign_56 ?_
    refine x_lret d_Mo_sign_59 rfl ?_
    first | exact ⟨rfl, rfl, rfl, _, rfl, Or.inl ⟨by decide, by decide +kernel⟩⟩ | exact ⟨rfl, rfl, rfl, _, rfl, Or.inr ⟨by omega, by decide +kernel⟩⟩
  by_cases hsw1_5 : k = 5
  · subst hsw1_5
    refine x_tableIn (tgt := 60) (off := 59) d_Mo_sign_1 (by decide) (by decide) (by decide) (by decide) ?_
    refine x_ldc2 (v := 540884512) xw_1592 d_Mo_sign_60 ?_
    refine x_lret d_Mo_sign_63 rfl ?_
    first | exact ⟨rfl, rfl, rfl, _, rfl, Or.inl ⟨by decide, by decide +kernel⟩⟩ | exact ⟨rfl, rfl, rfl, _, rfl, Or.inr ⟨by omega, by decide +kernel⟩⟩
  refine x_tableOut (tgt := 64) d_Mo_sign_1 (by rw [zI_ti (by omega)]; omega) (by decide) ?_
  refine x_ldc2 (v := 391386130720) xw_1593 d_Mo_sign_64 ?_
  refine x_lret d_Mo_sign_67 rfl ?_
  first | exact ⟨rfl, rfl, rfl, _, rfl, Or.inl ⟨by decide, by decide +kernel⟩⟩ | exact ⟨rfl, rfl, rfl, _, rfl, Or.inr ⟨by omega, by decide +kernel⟩⟩
theorem sm_k {f : Int → Int} {a k : Int} (hk : 0 ≤ k) : sm f a (k + 1).toNat = sm f a k.toNat + f (a + k) := by
  rw [show (k + 1).toNat = k.toNat + 1 by omega]
  simp only [sm]
  rw [show a + (k.toNat : Int) = a + k by omega]
theorem r_printTest (hd : 2 ≤ d) {t s V : Int} (hn : nmOk S) (hs : 0 ≤ s ∧ s ≤ 8) (ht : 40 * s ≤ t ∧ t < 40 * s + 40) (hV : V ≤ 40) (hT : tsOk S s V t) (hW : ∀ v : Int, 64 * s ≤ v → v < 64 * s + V → 0 ≤ gd (S.2.1 24) v ∧ gd (S.2.1 24) v ≤ 11) (hp : 0 ≤ S.1 49 ∧ S.1 49 + tW S t ≤ 1000) : RM l G d M_Mo_printTest [.ref o, .int (zI t)] o rf S (ppQ S (tW S t)) := by
  obtain ⟨d, rfl⟩ : ∃ q, d = q + 1 := ⟨d - 1, by omega⟩
  intro H0 c n hR
  refine XM.of (by decide +kernel) (Nat.le_of_ble_eq_true rfl) ?_
  have hX : xonly H0 H0 RKs := xonly.rf
  obtain ⟨n1, n2, n3, n4⟩ := hn
  obtain ⟨t1, t2, t3, t4, t5, t6, t7⟩ := hT
  by_cases h6 : 6 < gd (S.2.1 18) t
  · have hw : tW S t = 5 := if_pos h6
    rw [hw] at hp ⊢
    refine x_aload_n d_Mo_printTest_0 rfl rfl ?_
    refine x_get xf_Mo_54_Mo (Or.inl hR.1) (v := .ref (rf 18)) rfl d_Mo_printTest_1 ?_
    refine x_iload_n d_Mo_printTest_4 rfl ?_
    refine r_iald (i := 18) (us := (S.2.1 18)) rfl (by decide) hR rfl (by omega) (by show t < 360; omega) d_Mo_printTest_5 (fun hr5 => ?_)
    refine x_istore_n (L' := [_, _, _, _, _, _]) d_Mo_printTest_6 rfl rfl ?_
    refine x_iload_n d_Mo_printTest_7 rfl ?_
    refine x_bipush (v := zI 6) d_Mo_printTest_8 (by decide) ?_
    refine z_icmp_le (tgt := 33) d_Mo_printTest_10 (by decide) (by omega) (by omega) (fun hq => by omega) (fun _ => ?_)
    refine x_aload_n d_Mo_printTest_13 rfl rfl ?_
    refine x_iload_n d_Mo_printTest_14 rfl ?_
    refine x_bipush (v := zI 7) d_Mo_printTest_15 (by decide) ?_
    refine z_icmp_ne (tgt := 26) d_Mo_printTest_17 (by decide) (by omega) (by omega) (fun hc17 => ?_) (fun hc17 => ?_)
    · refine x_ldc2 (v := 435728179558) xw_1583 d_Mo_printTest_26 ?_
      refine x_callV (As := [_]) (k := k_MarkerTextModel) rfl xcv_Mo_349_Mo (Or.inl hR.1) (RM.ap hR (r_putAll (k := 5) (by omega) (by decide +kernel) (by omega))) rfl rfl (Nat.le_of_ble_eq_true rfl) d_Mo_printTest_29 ?_
      rintro v29 h cq nq ⟨S29, hR, hX29, rfl, rfl, us29, p29, rfl, rfl, hp29a, hp29b⟩
      replace hX := hX.tr hX29
      refine x_vret d_Mo_printTest_32 rfl ?_
      exact ⟨_, hR, hX, rfl, rfl, us29, p29, rfl, rfl, hp29a, hp29b⟩
    · refine x_ldc2 (v := 1702195828) xw_1582 d_Mo_printTest_20 ?_
      refine x_goto (tgt := 29) d_Mo_printTest_23 (by decide) ?_
      refine x_callV (As := [_]) (k := k_MarkerTextModel) rfl xcv_Mo_349_Mo (Or.inl hR.1) (RM.ap hR (r_putAll (k := 5) (by omega) (by decide +kernel) (by omega))) rfl rfl (Nat.le_of_ble_eq_true rfl) d_Mo_printTest_29 ?_
      rintro v29 h cq nq ⟨S29, hR, hX29, rfl, rfl, us29, p29, rfl, rfl, hp29a, hp29b⟩
      replace hX := hX.tr hX29
      refine x_vret d_Mo_printTest_32 rfl ?_
      exact ⟨_, hR, hX, rfl, rfl, us29, p29, rfl, rfl, hp29a, hp29b⟩
  · have hw : tW S t = (if gd (S.2.1 18) t = 6 then 14 else 12) + sm (fun v => gd (S.2.1 24) v + 4) (gd (S.2.1 19) t) (gd (S.2.1 20) t).toNat := if_neg h6
    have hnm := t5 (by omega)
    have hln := n3 _ hnm.1 hnm.2
    generalize hop : gd (S.2.1 18) t = op at *
    generalize hnmE : gd (S.2.1 17) t = nm at *
    generalize hfE : gd (S.2.1 19) t = f at *
    generalize hmE : gd (S.2.1 20) t = m at *
    have hmono : ∀ k : Int, 0 ≤ k → k ≤ m → sm (fun v => gd (S.2.1 24) v + 4) f k.toNat ≤ sm (fun v => gd (S.2.1 24) v + 4) f m.toNat := fun k h0 h1 => sm_mono (by omega) (fun i h2 h3 => by
      have := hW i (by omega) (by omega)
      show 0 ≤ gd (S.2.1 24) i + 4
      omega)
    have hsg : ∀ z : Int, (op ≤ 5 ∧ z ≤ 4) ∨ (op = 6 ∧ z ≤ 5) → z + 8 + (if op = 6 then 1 else 0) ≤ if op = 6 then 14 else 12 := fun z hz => by split <;> omega
    have fin : ∀ (us : List Int) (p k : Int), S.1 49 ≤ p → k = m → p + (if op = 6 then 1 else 0) ≤ S.1 49 + (if op = 6 then 14 else 12) + sm (fun v => gd (S.2.1 24) v + 4) f k.toNat → ∀ (w4 w5 : Option Value), RX l G M_Mo_printTest (d + 1) 177 [some (.ref o), some (.int (zI t)), some (.int (zI op)), some (.int (zI k)), w4, w5] [] H0 o rf c n (PS S us p) (ppQ S (tW S t)) := by
      intro us p k h0 hk h1 w4 w5 h hR hX
      subst hk
      by_cases ho : op = 6
      · rw [if_pos ho] at h1 hw
        rw [if_pos ho] at h1
        refine x_aload_n d_Mo_printTest_177 rfl rfl ?_
        refine x_iload_n d_Mo_printTest_178 rfl ?_
        refine x_bipush (v := zI 6) d_Mo_printTest_179 (by decide) ?_
        refine z_icmp_ne (tgt := 190) d_Mo_printTest_181 (by decide) (by omega) (by omega) (fun hq => by omega) (fun _ => ?_)
        refine x_ldc2 (v := 93) xw_1595 d_Mo_printTest_184 ?_
        refine x_goto (tgt := 191) d_Mo_printTest_187 (by decide) ?_
        refine x_callV (As := [_]) (k := k_MarkerTextModel) rfl xcv_Mo_349_Mo (Or.inl hR.1) (RM.ap hR (r_putAll (S := PS S us p) (k := 1) (by omega) (by decide +kernel) (by show 0 ≤ p ∧ p + 1 ≤ 1000; omega))) rfl rfl (Nat.le_of_ble_eq_true rfl) d_Mo_printTest_191 ?_
        rintro v191 h cq nq ⟨S191, hR, hX191, rfl, rfl, us9, p9, rfl, rfl, ha9, hb9⟩
        replace hX := hX.tr hX191
        refine x_vret d_Mo_printTest_194 rfl ?_
        replace ha9 : p ≤ p9 := ha9
        replace hb9 : p9 ≤ p + 1 := hb9
        exact ⟨_, (by rw [PS_PS] at hR; exact hR), hX, rfl, rfl, us9, p9, rfl, rfl, by omega, by omega⟩
      · rw [if_neg ho] at h1 hw
        rw [if_neg ho] at h1
        refine x_aload_n d_Mo_printTest_177 rfl rfl ?_
        refine x_iload_n d_Mo_printTest_178 rfl ?_
        refine x_bipush (v := zI 6) d_Mo_printTest_179 (by decide) ?_
        refine z_icmp_ne (tgt := 190) d_Mo_printTest_181 (by decide) (by omega) (by omega) (fun _ => ?_) (fun hq => by omega)
        refine x_lconst (v := 0) d_Mo_printTest_190 (by decide) ?_
        refine x_callV (As := [_]) (k := k_MarkerTextModel) rfl xcv_Mo_349_Mo (Or.inl hR.1) (RM.ap hR (r_putAll (S := PS S us p) (k := 0) (by omega) (by decide +kernel) (by show 0 ≤ p ∧ p + 0 ≤ 1000; omega))) rfl rfl (Nat.le_of_ble_eq_true rfl) d_Mo_printTest_191 ?_
        rintro v191 h cq nq ⟨S191, hR, hX191, rfl, rfl, us9, p9, rfl, rfl, ha9, hb9⟩
        replace hX := hX.tr hX191
        refine x_vret d_Mo_printTest_194 rfl ?_
        replace ha9 : p ≤ p9 := ha9
        replace hb9 : p9 ≤ p + 0 := hb9
        exact ⟨_, (by rw [PS_PS] at hR; exact hR), hX, rfl, rfl, us9, p9, rfl, rfl, by omega, by omega⟩
    -- the VALUES
    have l86 : ∀ (K : Nat) (us : List Int) (p k : Int) (w4 w5 : Option Value), S.1 49 ≤ p → 0 ≤ k → k ≤ m → p + (if op = 6 then 1 else 0) ≤ S.1 49 + (if op = 6 then 14 else 12) + sm (fun v => gd (S.2.1 24) v + 4) f k.toNat → m - k ≤ K → RX l G M_Mo_printTest (d + 1) 86 [some (.ref o), some (.int (zI t)), some (.int (zI op)), some (.int (zI k)), w4, w5] [] H0 o rf c n (PS S us p) (ppQ S (tW S t)) := by
      intro K
      induction K with
      | zero =>
        intro us p k w4 w5 h0 hk0 hk1 h1 hK h hR hX
        refine x_iload_n d_Mo_printTest_86 rfl ?_
        refine x_aload_n d_Mo_printTest_87 rfl rfl ?_
        refine x_get xf_Mo_60_Mo (Or.inl hR.1) (v := .ref (rf 20)) rfl d_Mo_printTest_88 ?_
        refine x_iload_n d_Mo_printTest_91 rfl ?_
        refine r_iald (i := 20) (us := (S.2.1 20)) rfl (by decide) hR rfl (by omega) (by show t < 360; omega) d_Mo_printTest_92 (fun hr92 => ?_)
        rw [hmE] at *
        refine z_icmp_ge (tgt := 177) d_Mo_printTest_93 (by decide) (by omega) (by omega) (fun _ => ?_) (fun hq => by omega)
        exact fin us p k h0 (by omega) h1 _ _ _ hR hX
      | succ K ih =>
        intro us p k w4 w5 h0 hk0 hk1 h1 hK h hR hX
        by_cases hkm : k = m
        · refine x_iload_n d_Mo_printTest_86 rfl ?_
          refine x_aload_n d_Mo_printTest_87 rfl rfl ?_
          refine x_get xf_Mo_60_Mo (Or.inl hR.1) (v := .ref (rf 20)) rfl d_Mo_printTest_88 ?_
          refine x_iload_n d_Mo_printTest_91 rfl ?_
          refine r_iald (i := 20) (us := (S.2.1 20)) rfl (by decide) hR rfl (by omega) (by show t < 360; omega) d_Mo_printTest_92 (fun hr92 => ?_)
          rw [hmE] at *
          refine z_icmp_ge (tgt := 177) d_Mo_printTest_93 (by decide) (by omega) (by omega) (fun _ => ?_) (fun hq => by omega)
          exact fin us p k h0 hkm h1 _ _ _ hR hX
        · have hb := hmono (k + 1) (by omega) (by omega)
          rw [sm_k hk0] at hb
          have hws := hW (f + k) (by omega) (by omega)
          have hi6 : (if op = 6 then (1 : Int) else 0) ≤ 1 ∧ 0 ≤ (if op = 6 then (1 : Int) else 0) := by split <;> omega
          have hnx := ih
          have l130 : ∀ (q0 : Int), p + 3 ≤ q0 + 3 → q0 ≤ p + 3 → S.1 49 ≤ q0 → ∀ (K2 : Nat) (us2 : List Int) (q i : Int), S.1 49 ≤ q → 0 ≤ i → i ≤ gd (S.2.1 24) (f + k) → q ≤ p + 3 + i → gd (S.2.1 24) (f + k) - i ≤ K2 → RX l G M_Mo_printTest (d + 1) 130 [some (.ref o), some (.int (zI t)), some (.int (zI op)), some (.int (zI k)), some (.int (zI (f + k))), some (.int (zI i))] [] H0 o rf c n (PS S us2 q) (ppQ S (tW S t)) := by
            intro q0 _ _ _ K2
            have out : ∀ (us2 : List Int) (q i : Int), S.1 49 ≤ q → i = gd (S.2.1 24) (f + k) → q ≤ p + 3 + i → RX l G M_Mo_printTest (d + 1) 165 [some (.ref o), some (.int (zI t)), some (.int (zI op)), some (.int (zI k)), some (.int (zI (f + k))), some (.int (zI i))] [] H0 o rf c n (PS S us2 q) (ppQ S (tW S t)) := by
              intro us2 q i hq0 hi hq1 h hR hX
              refine x_aload_n d_Mo_printTest_165 rfl rfl ?_
              refine x_bipush (v := zI 39) d_Mo_printTest_166 (by decide) ?_
              refine x_callV (As := [_]) (k := k_MarkerTextModel) rfl xcv_Mo_328_Mo (Or.inl hR.1) (RM.ap hR (r_put1 (S := PS S us2 q) (by decide) (by show 0 ≤ q ∧ q < 1000; omega))) rfl rfl (Nat.le_of_ble_eq_true rfl) d_Mo_printTest_168 ?_
              rintro v168 h cq nq ⟨S168, hR, hX168, rfl, rfl, rfl, rfl⟩
              replace hX := hX.tr hX168
              refine x_iinc (v := zI (k + 1)) (L' := [_, _, _, _, _, _]) d_Mo_printTest_171 rfl (zI_add _ _) rfl rfl ?_
              refine x_goto (tgt := 86) d_Mo_printTest_174 (by decide) ?_
              exact hnx _ (q + 1) (k + 1) _ _ (by omega) (by omega) (by omega) (by rw [sm_k hk0]; omega) (by omega) _ (by rw [PS_PS] at hR; exact hR) hX
            induction K2 with
            | zero =>
              intro us2 q i hq0 hi0 hi1 hq1 hK2 h hR hX
              refine x_iload d_Mo_printTest_130 rfl ?_
              refine x_aload_n d_Mo_printTest_132 rfl rfl ?_
              refine x_get xf_Mo_72_Mo (Or.inl hR.1) (v := .ref (rf 24)) rfl d_Mo_printTest_133 ?_
              refine x_iload d_Mo_printTest_136 rfl ?_
              refine r_iald (i := 24) (us := (S.2.1 24)) rfl (by decide) hR rfl (by omega) (by show f + k < 576; omega) d_Mo_printTest_138 (fun hr138 => ?_)
              refine z_icmp_ge (tgt := 165) d_Mo_printTest_139 (by decide) (by omega) (by omega) (fun _ => ?_) (fun hq => by omega)
              exact out us2 q i hq0 (by omega) hq1 _ hR hX
            | succ K2 ih2 =>
              intro us2 q i hq0 hi0 hi1 hq1 hK2 h hR hX
              refine x_iload d_Mo_printTest_130 rfl ?_
              refine x_aload_n d_Mo_printTest_132 rfl rfl ?_
              refine x_get xf_Mo_72_Mo (Or.inl hR.1) (v := .ref (rf 24)) rfl d_Mo_printTest_133 ?_
              refine x_iload d_Mo_printTest_136 rfl ?_
              refine r_iald (i := 24) (us := (S.2.1 24)) rfl (by decide) hR rfl (by omega) (by show f + k < 576; omega) d_Mo_printTest_138 (fun hr138 => ?_)
              refine z_icmp_ge (tgt := 165) d_Mo_printTest_139 (by decide) (by omega) (by omega) (fun hc139 => ?_) (fun hc139 => ?_)
              · exact out us2 q i hq0 (by omega) hq1 _ hR hX
              · refine x_aload_n d_Mo_printTest_142 rfl rfl ?_
                refine x_aload_n d_Mo_printTest_143 rfl rfl ?_
                refine x_get xf_Mo_69_Mo (Or.inl hR.1) (v := .ref (rf 23)) rfl d_Mo_printTest_144 ?_
                refine x_bipush (v := zI 11) d_Mo_printTest_147 (by decide) ?_
                refine x_iload d_Mo_printTest_149 rfl ?_
                refine z_imul d_Mo_printTest_151 ?_
                refine x_iload d_Mo_printTest_152 rfl ?_
                refine z_iadd d_Mo_printTest_154 ?_
                refine r_iald (i := 23) (us := (S.2.1 23)) rfl (by decide) hR rfl (by omega) (by show 11 * (f + k) + i < 6336; omega) d_Mo_printTest_155 (fun hr155 => ?_)
                refine x_callV (As := [_]) (k := k_MarkerTextModel) rfl xcv_Mo_328_Mo (Or.inl hR.1) (RM.ap hR (r_put1 (S := PS S us2 q) hr155 (by show 0 ≤ q ∧ q < 1000; omega))) rfl rfl (Nat.le_of_ble_eq_true rfl) d_Mo_printTest_156 ?_
                rintro v156 h cq nq ⟨S156, hR, hX156, rfl, rfl, rfl, rfl⟩
                replace hX := hX.tr hX156
                refine x_iinc (v := zI (i + 1)) (L' := [_, _, _, _, _, _]) d_Mo_printTest_159 rfl (zI_add _ _) rfl rfl ?_
                refine x_goto (tgt := 130) d_Mo_printTest_162 (by decide) ?_
                exact ih2 _ (q + 1) (i + 1) (by omega) (by omega) (by omega) (by omega) (by omega) _ (by rw [PS_PS] at hR; exact hR) hX
          refine x_iload_n d_Mo_printTest_86 rfl ?_
          refine x_aload_n d_Mo_printTest_87 rfl rfl ?_
          refine x_get xf_Mo_60_Mo (Or.inl hR.1) (v := .ref (rf 20)) rfl d_Mo_printTest_88 ?_
          refine x_iload_n d_Mo_printTest_91 rfl ?_
          refine r_iald (i := 20) (us := (S.2.1 20)) rfl (by decide) hR rfl (by omega) (by show t < 360; omega) d_Mo_printTest_92 (fun hr92 => ?_)
          rw [hmE] at *
          refine z_icmp_ge (tgt := 177) d_Mo_printTest_93 (by decide) (by omega) (by omega) (fun hq => by omega) (fun _ => ?_)
          refine x_aload_n d_Mo_printTest_96 rfl rfl ?_
          refine x_get xf_Mo_57_Mo (Or.inl hR.1) (v := .ref (rf 19)) rfl d_Mo_printTest_97 ?_
          refine x_iload_n d_Mo_printTest_100 rfl ?_
          refine r_iald (i := 19) (us := (S.2.1 19)) rfl (by decide) hR rfl (by omega) (by show t < 360; omega) d_Mo_printTest_101 (fun hr101 => ?_)
          refine x_iload_n d_Mo_printTest_102 rfl ?_
          rw [hfE] at *
          refine z_iadd d_Mo_printTest_103 ?_
          refine x_istore (L' := [_, _, _, _, _, _]) d_Mo_printTest_104 rfl rfl ?_
          refine x_aload_n d_Mo_printTest_106 rfl rfl ?_
          refine x_iload_n d_Mo_printTest_107 rfl ?_
          refine z_if_le (tgt := 117) d_Mo_printTest_108 (by decide) (by omega) (fun hc108 => ?_) (fun hc108 => ?_)
          · refine x_lconst (v := 0) d_Mo_printTest_117 (by decide) ?_
            refine x_callV (As := [_]) (k := k_MarkerTextModel) rfl xcv_Mo_349_Mo (Or.inl hR.1) (RM.ap hR (r_putAll (S := PS S us p) (k := 2) (by omega) (by decide +kernel) (by show 0 ≤ p ∧ p + 2 ≤ 1000; omega))) rfl rfl (Nat.le_of_ble_eq_true rfl) d_Mo_printTest_118 ?_
            rintro v118 h cq nq ⟨S118, hR, hX118, rfl, rfl, us18, p18, rfl, rfl, ha18, hb18⟩
            replace hX := hX.tr hX118
            replace ha18 : p ≤ p18 := ha18
            replace hb18 : p18 ≤ p + 2 := hb18
            rw [PS_PS] at hR
            refine x_aload_n d_Mo_printTest_121 rfl rfl ?_
            refine x_bipush (v := zI 39) d_Mo_printTest_122 (by decide) ?_
            refine x_callV (As := [_]) (k := k_MarkerTextModel) rfl xcv_Mo_328_Mo (Or.inl hR.1) (RM.ap hR (r_put1 (S := PS S us18 p18) (by decide) (by show 0 ≤ p18 ∧ p18 < 1000; omega))) rfl rfl (Nat.le_of_ble_eq_true rfl) d_Mo_printTest_124 ?_
            rintro v124 h cq nq ⟨S124, hR, hX124, rfl, rfl, rfl, rfl⟩
            replace hX := hX.tr hX124
            refine x_iconst (v := zI 0) d_Mo_printTest_127 (by decide) ?_
            refine x_istore (L' := [_, _, _, _, _, _]) d_Mo_printTest_128 rfl rfl ?_
            exact l130 p (by omega) (by omega) h0 11 _ (p18 + 1) 0 (by omega) (by omega) (by omega) (by omega) (by omega) _ (by rw [PS_PS] at hR; exact hR) hX
          · refine x_ldc2 (v := 8236) xw_1594 d_Mo_printTest_111 ?_
            refine x_goto (tgt := 118) d_Mo_printTest_114 (by decide) ?_
            refine x_callV (As := [_]) (k := k_MarkerTextModel) rfl xcv_Mo_349_Mo (Or.inl hR.1) (RM.ap hR (r_putAll (S := PS S us p) (k := 2) (by omega) (by decide +kernel) (by show 0 ≤ p ∧ p + 2 ≤ 1000; omega))) rfl rfl (Nat.le_of_ble_eq_true rfl) d_Mo_printTest_118 ?_
            rintro v118 h cq nq ⟨S118, hR, hX118, rfl, rfl, us18, p18, rfl, rfl, ha18, hb18⟩
            replace hX := hX.tr hX118
            replace ha18 : p ≤ p18 := ha18
            replace hb18 : p18 ≤ p + 2 := hb18
            rw [PS_PS] at hR
            refine x_aload_n d_Mo_printTest_121 rfl rfl ?_
            refine x_bipush (v := zI 39) d_Mo_printTest_122 (by decide) ?_
            refine x_callV (As := [_]) (k := k_MarkerTextModel) rfl xcv_Mo_328_Mo (Or.inl hR.1) (RM.ap hR (r_put1 (S := PS S us18 p18) (by decide) (by show 0 ≤ p18 ∧ p18 < 1000; omega))) rfl rfl (Nat.le_of_ble_eq_true rfl) d_Mo_printTest_124 ?_
            rintro v124 h cq nq ⟨S124, hR, hX124, rfl, rfl, rfl, rfl⟩
            replace hX := hX.tr hX124
            refine x_iconst (v := zI 0) d_Mo_printTest_127 (by decide) ?_
            refine x_istore (L' := [_, _, _, _, _, _]) d_Mo_printTest_128 rfl rfl ?_
            exact l130 p (by omega) (by omega) h0 11 _ (p18 + 1) 0 (by omega) (by omega) (by omega) (by omega) (by omega) _ (by rw [PS_PS] at hR; exact hR) hX
    -- the name
    have l35 : ∀ (K : Nat) (us : List Int) (p i : Int), S.1 49 ≤ p → 0 ≤ i → i ≤ 8 → p ≤ S.1 49 + i → 8 - i ≤ K → RX l G M_Mo_printTest (d + 1) 35 [some (.ref o), some (.int (zI t)), some (.int (zI op)), some (.int (zI i)), none, none] [] H0 o rf c n (PS S us p) (ppQ S (tW S t)) := by
      have hnn := hmono 0 (by omega) t3
      have h12 : 12 ≤ (if op = 6 then (14 : Int) else 12) := by split <;> omega
      have h00 : sm (fun v => gd (S.2.1 24) v + 4) f (0 : Int).toNat = 0 := rfl
      have out : ∀ (us : List Int) (p i : Int), S.1 49 ≤ p → p ≤ S.1 49 + 8 → RX l G M_Mo_printTest (d + 1) 76 [some (.ref o), some (.int (zI t)), some (.int (zI op)), some (.int (zI i)), none, none] [] H0 o rf c n (PS S us p) (ppQ S (tW S t)) := by
        intro us p i h0 h1 h hR hX
        by_cases ho : op = 6
        · refine x_aload_n d_Mo_printTest_76 rfl rfl ?_
          refine x_iload_n d_Mo_printTest_77 rfl ?_
          refine x_callS (As := [_]) xcs_Mo_353 (r_sign (by omega)) rfl rfl (Nat.le_of_ble_eq_true rfl) d_Mo_printTest_78 ?_
          rintro v78 h cq nq ⟨rfl, rfl, rfl, x78, rfl, hx78⟩
          refine x_callV (As := [_]) (k := k_MarkerTextModel) rfl xcv_Mo_349_Mo (Or.inl hR.1) (RM.ap hR (r_putAll (S := PS S us p) (k := 5) (by omega) (by rcases hx78 with ⟨z, -⟩ | ⟨-, z⟩; exact absurd ho (by omega); exact z) (by show 0 ≤ p ∧ p + 5 ≤ 1000; rw [if_pos ho] at hw; omega))) rfl rfl (Nat.le_of_ble_eq_true rfl) d_Mo_printTest_81 ?_
          rintro v81 h cq nq ⟨S81, hR, hX81, rfl, rfl, us81, p81, rfl, rfl, ha81, hb81⟩
          replace hX := hX.tr hX81
          refine x_iconst (v := zI 0) d_Mo_printTest_84 (by decide) ?_
          refine x_istore_n (L' := [_, _, _, _, _, _]) d_Mo_printTest_85 rfl rfl ?_
          replace ha81 : p ≤ p81 := ha81
          replace hb81 : p81 ≤ p + 5 := hb81
          exact l86 m.toNat _ p81 0 _ _ (by omega) (by omega) t3 (by rw [if_pos ho, if_pos ho, h00]; omega) (by omega) _ (by rw [PS_PS] at hR; exact hR) hX
        · refine x_aload_n d_Mo_printTest_76 rfl rfl ?_
          refine x_iload_n d_Mo_printTest_77 rfl ?_
          refine x_callS (As := [_]) xcs_Mo_353 (r_sign (by omega)) rfl rfl (Nat.le_of_ble_eq_true rfl) d_Mo_printTest_78 ?_
          rintro v78 h cq nq ⟨rfl, rfl, rfl, x78, rfl, hx78⟩
          refine x_callV (As := [_]) (k := k_MarkerTextModel) rfl xcv_Mo_349_Mo (Or.inl hR.1) (RM.ap hR (r_putAll (S := PS S us p) (k := 4) (by omega) (by rcases hx78 with ⟨-, z⟩ | ⟨z, -⟩; exact z; exact absurd z ho) (by show 0 ≤ p ∧ p + 4 ≤ 1000; rw [if_neg ho] at hw; omega))) rfl rfl (Nat.le_of_ble_eq_true rfl) d_Mo_printTest_81 ?_
          rintro v81 h cq nq ⟨S81, hR, hX81, rfl, rfl, us81, p81, rfl, rfl, ha81, hb81⟩
          replace hX := hX.tr hX81
          refine x_iconst (v := zI 0) d_Mo_printTest_84 (by decide) ?_
          refine x_istore_n (L' := [_, _, _, _, _, _]) d_Mo_printTest_85 rfl rfl ?_
          replace ha81 : p ≤ p81 := ha81
          replace hb81 : p81 ≤ p + 4 := hb81
          exact l86 m.toNat _ p81 0 _ _ (by omega) (by omega) t3 (by rw [if_neg ho, if_neg ho, h00]; omega) (by omega) _ (by rw [PS_PS] at hR; exact hR) hX
      intro K
      induction K with
      | zero =>
        intro us p i h0 hi0 hi8 h1 hK h hR hX
        refine x_iload_n d_Mo_printTest_35 rfl ?_
        refine x_aload_n d_Mo_printTest_36 rfl rfl ?_
        refine x_get xf_Mo_16_Mo (Or.inl hR.1) (v := .ref (rf 5)) rfl d_Mo_printTest_37 ?_
        refine x_aload_n d_Mo_printTest_40 rfl rfl ?_
        refine x_get xf_Mo_51_Mo (Or.inl hR.1) (v := .ref (rf 17)) rfl d_Mo_printTest_41 ?_
        refine x_iload_n d_Mo_printTest_44 rfl ?_
        refine r_iald (i := 17) (us := (S.2.1 17)) rfl (by decide) hR rfl (by omega) (by show t < 360; omega) d_Mo_printTest_45 (fun hr45 => ?_)
        rw [hnmE]
        refine r_iald (i := 5) (us := (S.2.1 5)) rfl (by decide) hR rfl (by omega) (by show nm < 6; omega) d_Mo_printTest_46 (fun hr46 => ?_)
        refine z_icmp_ge (tgt := 76) d_Mo_printTest_47 (by decide) (by omega) (by omega) (fun _ => ?_) (fun hq => by omega)
        exact out us p i h0 (by omega) _ hR hX
      | succ K ih =>
        intro us p i h0 hi0 hi8 h1 hK h hR hX
        refine x_iload_n d_Mo_printTest_35 rfl ?_
        refine x_aload_n d_Mo_printTest_36 rfl rfl ?_
        refine x_get xf_Mo_16_Mo (Or.inl hR.1) (v := .ref (rf 5)) rfl d_Mo_printTest_37 ?_
        refine x_aload_n d_Mo_printTest_40 rfl rfl ?_
        refine x_get xf_Mo_51_Mo (Or.inl hR.1) (v := .ref (rf 17)) rfl d_Mo_printTest_41 ?_
        refine x_iload_n d_Mo_printTest_44 rfl ?_
        refine r_iald (i := 17) (us := (S.2.1 17)) rfl (by decide) hR rfl (by omega) (by show t < 360; omega) d_Mo_printTest_45 (fun hr45 => ?_)
        rw [hnmE]
        refine r_iald (i := 5) (us := (S.2.1 5)) rfl (by decide) hR rfl (by omega) (by show nm < 6; omega) d_Mo_printTest_46 (fun hr46 => ?_)
        refine z_icmp_ge (tgt := 76) d_Mo_printTest_47 (by decide) (by omega) (by omega) (fun hc47 => ?_) (fun hc47 => ?_)
        · exact out us p i h0 (by omega) _ hR hX
        · refine x_aload_n d_Mo_printTest_50 rfl rfl ?_
          refine x_aload_n d_Mo_printTest_51 rfl rfl ?_
          refine x_get xf_Mo_13_Mo (Or.inl hR.1) (v := .ref (rf 4)) rfl d_Mo_printTest_52 ?_
          refine x_bipush (v := zI 8) d_Mo_printTest_55 (by decide) ?_
          refine x_aload_n d_Mo_printTest_57 rfl rfl ?_
          refine x_get xf_Mo_51_Mo (Or.inl hR.1) (v := .ref (rf 17)) rfl d_Mo_printTest_58 ?_
          refine x_iload_n d_Mo_printTest_61 rfl ?_
          refine r_iald (i := 17) (us := (S.2.1 17)) rfl (by decide) hR rfl (by omega) (by show t < 360; omega) d_Mo_printTest_62 (fun hr62 => ?_)
          rw [hnmE]
          refine z_imul d_Mo_printTest_63 ?_
          refine x_iload_n d_Mo_printTest_64 rfl ?_
          refine z_iadd d_Mo_printTest_65 ?_
          refine r_iald (i := 4) (us := (S.2.1 4)) rfl (by decide) hR rfl (by omega) (by show 8 * nm + i < 48; omega) d_Mo_printTest_66 (fun hr66 => ?_)
          refine x_callV (As := [_]) (k := k_MarkerTextModel) rfl xcv_Mo_328_Mo (Or.inl hR.1) (RM.ap hR (r_put1 (S := PS S us p) hr66 (by show 0 ≤ p ∧ p < 1000; omega))) rfl rfl (Nat.le_of_ble_eq_true rfl) d_Mo_printTest_67 ?_
          rintro v67 h cq nq ⟨S67, hR, hX67, rfl, rfl, rfl, rfl⟩
          replace hX := hX.tr hX67
          refine x_iinc (v := zI (i + 1)) (L' := [_, _, _, _, _, _]) d_Mo_printTest_70 rfl (zI_add _ _) rfl rfl ?_
          refine x_goto (tgt := 35) d_Mo_printTest_73 (by decide) ?_
          exact ih _ (p + 1) (i + 1) (by omega) (by omega) (by omega) (by omega) (by omega) _ (by rw [PS_PS] at hR; exact hR) hX
    refine x_aload_n d_Mo_printTest_0 rfl rfl ?_
    refine x_get xf_Mo_54_Mo (Or.inl hR.1) (v := .ref (rf 18)) rfl d_Mo_printTest_1 ?_
    refine x_iload_n d_Mo_printTest_4 rfl ?_
    refine r_iald (i := 18) (us := (S.2.1 18)) rfl (by decide) hR rfl (by omega) (by show t < 360; omega) d_Mo_printTest_5 (fun hr5 => ?_)
    rw [hop] at *
    refine x_istore_n (L' := [_, _, _, _, _, _]) d_Mo_printTest_6 rfl rfl ?_
    refine x_iload_n d_Mo_printTest_7 rfl ?_
    refine x_bipush (v := zI 6) d_Mo_printTest_8 (by decide) ?_
    refine z_icmp_le (tgt := 33) d_Mo_printTest_10 (by decide) (by omega) (by omega) (fun _ => ?_) (fun hq => by omega)
    refine x_iconst (v := zI 0) d_Mo_printTest_33 (by decide) ?_
    refine x_istore_n (L' := [_, _, _, _, _, _]) d_Mo_printTest_34 rfl rfl ?_
    exact l35 8 _ _ 0 (Int.le_refl _) (by omega) (by omega) (by omega) (by omega) _ (by rw [PS_id]; exact hR) hX
end RF21
