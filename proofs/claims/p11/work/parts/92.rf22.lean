section
abbrev y_Mo_later : MethodName := ⟨"MarkerTextModel", "later", "(I)V"⟩
abbrev M_Mo_later : XMt := (y_Mo_later, prog_13_method_62_code, 2, none)
theorem d_Mo_later_0 : decode M_Mo_later.2.1 0 = .ok (.aload_n 0, 1) := by decide +kernel
theorem d_Mo_later_1 : decode M_Mo_later.2.1 1 = .ok (.getfield 118, 3) := by decide +kernel
theorem d_Mo_later_4 : decode M_Mo_later.2.1 4 = .ok (.aload_n 0, 1) := by decide +kernel
theorem d_Mo_later_5 : decode M_Mo_later.2.1 5 = .ok (.getfield 361, 3) := by decide +kernel
theorem xw_1221 : (Jvm.Cond.fieldLink "MarkerTextModel" (361 : Nat) "MarkerTextModel" "todoMany" "I") ∈ xT := xT_at 1221 (by decide +kernel) (by decide +kernel)
theorem xf_Mo_361_Mo : xF "MarkerTextModel" 361 k_MarkerTextModel 51 := ⟨_, _, _, "MarkerTextModel", rfl, by decide, Or.inl xw_1221, Or.inl rfl⟩
theorem d_Mo_later_8 : decode M_Mo_later.2.1 8 = .ok (.iload_n 1, 1) := by decide +kernel
theorem d_Mo_later_9 : decode M_Mo_later.2.1 9 = .ok (.iastore, 1) := by decide +kernel
theorem d_Mo_later_10 : decode M_Mo_later.2.1 10 = .ok (.aload_n 0, 1) := by decide +kernel
theorem d_Mo_later_11 : decode M_Mo_later.2.1 11 = .ok (.dup, 1) := by decide +kernel
theorem d_Mo_later_12 : decode M_Mo_later.2.1 12 = .ok (.getfield 361, 3) := by decide +kernel
theorem d_Mo_later_15 : decode M_Mo_later.2.1 15 = .ok (.iconst 1, 1) := by decide +kernel
theorem d_Mo_later_16 : decode M_Mo_later.2.1 16 = .ok (.iadd, 1) := by decide +kernel
theorem d_Mo_later_17 : decode M_Mo_later.2.1 17 = .ok (.putfield 361, 3) := by decide +kernel
theorem xp_Mo_51 : xP k_MarkerTextModel 51 false .int := ⟨_, _, _, rfl, rfl, by decide +kernel⟩
theorem d_Mo_later_20 : decode M_Mo_later.2.1 20 = .ok (.return_, 1) := by decide +kernel
abbrev y_Mo_laterNode : MethodName := ⟨"MarkerTextModel", "laterNode", "(IZ)V"⟩
abbrev M_Mo_laterNode : XMt := (y_Mo_laterNode, prog_13_method_63_code, 3, none)
theorem d_Mo_laterNode_0 : decode M_Mo_laterNode.2.1 0 = .ok (.iload_n 2, 1) := by decide +kernel
theorem d_Mo_laterNode_1 : decode M_Mo_laterNode.2.1 1 = .ok (.ifCond .eq 9, 3) := by decide +kernel
theorem d_Mo_laterNode_10 : decode M_Mo_laterNode.2.1 10 = .ok (.aload_n 0, 1) := by decide +kernel
theorem d_Mo_laterNode_11 : decode M_Mo_laterNode.2.1 11 = .ok (.iload_n 1, 1) := by decide +kernel
theorem d_Mo_laterNode_12 : decode M_Mo_laterNode.2.1 12 = .ok (.invokevirtual 364, 3) := by decide +kernel
theorem xw_1566 : (Jvm.Cond.code ({ cls := "MarkerTextModel", name := "later", desc := "(I)V" } : Jvm.MethodName) prog_13_method_62_code (2 : Nat) (Option.none : Option Jvm.ClassFile.FieldType)) ∈ xT := xT_at 1566 (by decide +kernel) (by decide +kernel)
theorem xcb_Mo_later : xcb M_Mo_later 1 := ⟨xw_1566, xw_8, by decide, by decide, by decide, by decide +kernel⟩
theorem xw_1565 : (Jvm.Cond.instanceMethod ({ cls := "MarkerTextModel", name := "later", desc := "(I)V" } : Jvm.MethodName)) ∈ xT := xT_at 1565 (by decide +kernel) (by decide +kernel)
theorem xw_1563 : (Jvm.Cond.methodLink "MarkerTextModel" (364 : Nat) ({ cls := "MarkerTextModel", name := "later", desc := "(I)V" } : Jvm.MethodName)) ∈ xT := xT_at 1563 (by decide +kernel) (by decide +kernel)
theorem xsel_Mo_later : Cond.selects "MarkerTextModel" y_Mo_later y_Mo_later ∈ xT := xT_sel (q := (y_Mo_later, 52)) (by decide +kernel) (by decide +kernel)
theorem xcv_Mo_364_Mo : xCV "MarkerTextModel" 364 "MarkerTextModel" M_Mo_later 1 := ⟨xcb_Mo_later, xw_1565, Or.inl ⟨xw_1563, Or.inl xsel_Mo_later⟩⟩
theorem d_Mo_laterNode_15 : decode M_Mo_laterNode.2.1 15 = .ok (.iload_n 2, 1) := by decide +kernel
theorem d_Mo_laterNode_16 : decode M_Mo_laterNode.2.1 16 = .ok (.ifCond .eq 9, 3) := by decide +kernel
theorem d_Mo_laterNode_25 : decode M_Mo_laterNode.2.1 25 = .ok (.return_, 1) := by decide +kernel
theorem d_Mo_laterNode_4 : decode M_Mo_laterNode.2.1 4 = .ok (.aload_n 0, 1) := by decide +kernel
theorem d_Mo_laterNode_5 : decode M_Mo_laterNode.2.1 5 = .ok (.bipush (-41), 2) := by decide +kernel
theorem d_Mo_laterNode_7 : decode M_Mo_laterNode.2.1 7 = .ok (.invokevirtual 364, 3) := by decide +kernel
theorem d_Mo_laterNode_19 : decode M_Mo_laterNode.2.1 19 = .ok (.aload_n 0, 1) := by decide +kernel
theorem d_Mo_laterNode_20 : decode M_Mo_laterNode.2.1 20 = .ok (.bipush (-40), 2) := by decide +kernel
theorem d_Mo_laterNode_22 : decode M_Mo_laterNode.2.1 22 = .ok (.invokevirtual 364, 3) := by decide +kernel
abbrev y_Mo_print : MethodName := ⟨"MarkerTextModel", "print", "(I)V"⟩
abbrev M_Mo_print : XMt := (y_Mo_print, prog_13_method_64_code, 4, none)
theorem d_Mo_print_20 : decode M_Mo_print.2.1 20 = .ok (.aload_n 0, 1) := by decide +kernel
theorem d_Mo_print_21 : decode M_Mo_print.2.1 21 = .ok (.getfield 361, 3) := by decide +kernel
theorem d_Mo_print_24 : decode M_Mo_print.2.1 24 = .ok (.ifCond .le 227, 3) := by decide +kernel
theorem d_Mo_print_251 : decode M_Mo_print.2.1 251 = .ok (.return_, 1) := by decide +kernel
theorem d_Mo_print_27 : decode M_Mo_print.2.1 27 = .ok (.aload_n 0, 1) := by decide +kernel
theorem d_Mo_print_28 : decode M_Mo_print.2.1 28 = .ok (.dup, 1) := by decide +kernel
theorem d_Mo_print_29 : decode M_Mo_print.2.1 29 = .ok (.getfield 361, 3) := by decide +kernel
theorem d_Mo_print_32 : decode M_Mo_print.2.1 32 = .ok (.iconst 1, 1) := by decide +kernel
theorem d_Mo_print_33 : decode M_Mo_print.2.1 33 = .ok (.isub, 1) := by decide +kernel
theorem d_Mo_print_34 : decode M_Mo_print.2.1 34 = .ok (.putfield 361, 3) := by decide +kernel
theorem d_Mo_print_37 : decode M_Mo_print.2.1 37 = .ok (.aload_n 0, 1) := by decide +kernel
theorem d_Mo_print_38 : decode M_Mo_print.2.1 38 = .ok (.getfield 118, 3) := by decide +kernel
theorem d_Mo_print_41 : decode M_Mo_print.2.1 41 = .ok (.aload_n 0, 1) := by decide +kernel
theorem d_Mo_print_42 : decode M_Mo_print.2.1 42 = .ok (.getfield 361, 3) := by decide +kernel
theorem d_Mo_print_45 : decode M_Mo_print.2.1 45 = .ok (.iaload, 1) := by decide +kernel
theorem d_Mo_print_46 : decode M_Mo_print.2.1 46 = .ok (.istore_n 2, 1) := by decide +kernel
theorem d_Mo_print_47 : decode M_Mo_print.2.1 47 = .ok (.iload_n 2, 1) := by decide +kernel
theorem d_Mo_print_48 : decode M_Mo_print.2.1 48 = .ok (.ifCond .ge 7, 3) := by decide +kernel
theorem d_Mo_print_51 : decode M_Mo_print.2.1 51 = .ok (.iconst (-1), 1) := by decide +kernel
theorem d_Mo_print_52 : decode M_Mo_print.2.1 52 = .ok (.goto 9, 3) := by decide +kernel
theorem d_Mo_print_61 : decode M_Mo_print.2.1 61 = .ok (.istore_n 3, 1) := by decide +kernel
theorem d_Mo_print_62 : decode M_Mo_print.2.1 62 = .ok (.iload_n 2, 1) := by decide +kernel
theorem d_Mo_print_63 : decode M_Mo_print.2.1 63 = .ok (.ifCond .ge 37, 3) := by decide +kernel
theorem d_Mo_print_66 : decode M_Mo_print.2.1 66 = .ok (.aload_n 0, 1) := by decide +kernel
theorem d_Mo_print_67 : decode M_Mo_print.2.1 67 = .ok (.iload_n 2, 1) := by decide +kernel
theorem d_Mo_print_68 : decode M_Mo_print.2.1 68 = .ok (.bipush (-2), 2) := by decide +kernel
theorem d_Mo_print_70 : decode M_Mo_print.2.1 70 = .ok (.if_icmp .ne 9, 3) := by decide +kernel
theorem d_Mo_print_73 : decode M_Mo_print.2.1 73 = .ok (.ldc2_w 367, 3) := by decide +kernel
theorem xw_1567 : (Jvm.Cond.constantLong "MarkerTextModel" (367 : Nat) (139123908896 : Int64)) ∈ xT := xT_at 1567 (by decide +kernel) (by decide +kernel)
theorem d_Mo_print_76 : decode M_Mo_print.2.1 76 = .ok (.goto 18, 3) := by decide +kernel
theorem d_Mo_print_94 : decode M_Mo_print.2.1 94 = .ok (.invokevirtual 349, 3) := by decide +kernel
theorem d_Mo_print_97 : decode M_Mo_print.2.1 97 = .ok (.goto 151, 3) := by decide +kernel
theorem d_Mo_print_248 : decode M_Mo_print.2.1 248 = .ok (.goto (-228), 3) := by decide +kernel
theorem d_Mo_print_79 : decode M_Mo_print.2.1 79 = .ok (.iload_n 2, 1) := by decide +kernel
theorem d_Mo_print_80 : decode M_Mo_print.2.1 80 = .ok (.bipush (-3), 2) := by decide +kernel
theorem d_Mo_print_82 : decode M_Mo_print.2.1 82 = .ok (.if_icmp .ne 9, 3) := by decide +kernel
theorem d_Mo_print_85 : decode M_Mo_print.2.1 85 = .ok (.ldc2_w 369, 3) := by decide +kernel
theorem xw_1568 : (Jvm.Cond.constantLong "MarkerTextModel" (369 : Nat) (544370464 : Int64)) ∈ xT := xT_at 1568 (by decide +kernel) (by decide +kernel)
theorem d_Mo_print_88 : decode M_Mo_print.2.1 88 = .ok (.goto 6, 3) := by decide +kernel
theorem d_Mo_print_91 : decode M_Mo_print.2.1 91 = .ok (.iload_n 2, 1) := by decide +kernel
theorem d_Mo_print_92 : decode M_Mo_print.2.1 92 = .ok (.ineg, 1) := by decide +kernel
theorem d_Mo_print_93 : decode M_Mo_print.2.1 93 = .ok (.i2l, 1) := by decide +kernel
theorem d_Mo_print_55 : decode M_Mo_print.2.1 55 = .ok (.aload_n 0, 1) := by decide +kernel
theorem d_Mo_print_56 : decode M_Mo_print.2.1 56 = .ok (.getfield 36, 3) := by decide +kernel
theorem d_Mo_print_59 : decode M_Mo_print.2.1 59 = .ok (.iload_n 2, 1) := by decide +kernel
theorem d_Mo_print_60 : decode M_Mo_print.2.1 60 = .ok (.iaload, 1) := by decide +kernel
theorem d_Mo_print_100 : decode M_Mo_print.2.1 100 = .ok (.iload_n 3, 1) := by decide +kernel
theorem d_Mo_print_101 : decode M_Mo_print.2.1 101 = .ok (.ifCond .ne 16, 3) := by decide +kernel
theorem d_Mo_print_104 : decode M_Mo_print.2.1 104 = .ok (.aload_n 0, 1) := by decide +kernel
theorem d_Mo_print_105 : decode M_Mo_print.2.1 105 = .ok (.aload_n 0, 1) := by decide +kernel
theorem d_Mo_print_106 : decode M_Mo_print.2.1 106 = .ok (.getfield 39, 3) := by decide +kernel
theorem d_Mo_print_109 : decode M_Mo_print.2.1 109 = .ok (.iload_n 2, 1) := by decide +kernel
theorem d_Mo_print_110 : decode M_Mo_print.2.1 110 = .ok (.iaload, 1) := by decide +kernel
theorem d_Mo_print_111 : decode M_Mo_print.2.1 111 = .ok (.invokevirtual 371, 3) := by decide +kernel
theorem xw_1581 : (Jvm.Cond.code ({ cls := "MarkerTextModel", name := "printTest", desc := "(I)V" } : Jvm.MethodName) prog_13_method_61_code (6 : Nat) (Option.none : Option Jvm.ClassFile.FieldType)) ∈ xT := xT_at 1581 (by decide +kernel) (by decide +kernel)
theorem xcb_Mo_printTest : xcb M_Mo_printTest 1 := ⟨xw_1581, xw_8, by decide, by decide, by decide, by decide +kernel⟩
theorem xw_1580 : (Jvm.Cond.instanceMethod ({ cls := "MarkerTextModel", name := "printTest", desc := "(I)V" } : Jvm.MethodName)) ∈ xT := xT_at 1580 (by decide +kernel) (by decide +kernel)
theorem xw_1578 : (Jvm.Cond.methodLink "MarkerTextModel" (371 : Nat) ({ cls := "MarkerTextModel", name := "printTest", desc := "(I)V" } : Jvm.MethodName)) ∈ xT := xT_at 1578 (by decide +kernel) (by decide +kernel)
theorem xsel_Mo_printTest : Cond.selects "MarkerTextModel" y_Mo_printTest y_Mo_printTest ∈ xT := xT_sel (q := (y_Mo_printTest, 52)) (by decide +kernel) (by decide +kernel)
theorem xcv_Mo_371_Mo : xCV "MarkerTextModel" 371 "MarkerTextModel" M_Mo_printTest 1 := ⟨xcb_Mo_printTest, xw_1580, Or.inl ⟨xw_1578, Or.inl xsel_Mo_printTest⟩⟩
theorem d_Mo_print_114 : decode M_Mo_print.2.1 114 = .ok (.goto 134, 3) := by decide +kernel
theorem d_Mo_print_117 : decode M_Mo_print.2.1 117 = .ok (.iload_n 3, 1) := by decide +kernel
theorem d_Mo_print_118 : decode M_Mo_print.2.1 118 = .ok (.iconst 1, 1) := by decide +kernel
theorem d_Mo_print_119 : decode M_Mo_print.2.1 119 = .ok (.if_icmp .ne 43, 3) := by decide +kernel
theorem d_Mo_print_122 : decode M_Mo_print.2.1 122 = .ok (.aload_n 0, 1) := by decide +kernel
theorem d_Mo_print_123 : decode M_Mo_print.2.1 123 = .ok (.ldc2_w 374, 3) := by decide +kernel
theorem xw_1596 : (Jvm.Cond.constantLong "MarkerTextModel" (374 : Nat) (544501614 : Int64)) ∈ xT := xT_at 1596 (by decide +kernel) (by decide +kernel)
theorem d_Mo_print_126 : decode M_Mo_print.2.1 126 = .ok (.invokevirtual 349, 3) := by decide +kernel
theorem d_Mo_print_129 : decode M_Mo_print.2.1 129 = .ok (.aload_n 0, 1) := by decide +kernel
theorem d_Mo_print_130 : decode M_Mo_print.2.1 130 = .ok (.aload_n 0, 1) := by decide +kernel
theorem d_Mo_print_131 : decode M_Mo_print.2.1 131 = .ok (.getfield 42, 3) := by decide +kernel
theorem d_Mo_print_134 : decode M_Mo_print.2.1 134 = .ok (.iload_n 2, 1) := by decide +kernel
theorem d_Mo_print_135 : decode M_Mo_print.2.1 135 = .ok (.iaload, 1) := by decide +kernel
theorem d_Mo_print_136 : decode M_Mo_print.2.1 136 = .ok (.aload_n 0, 1) := by decide +kernel
theorem d_Mo_print_137 : decode M_Mo_print.2.1 137 = .ok (.getfield 36, 3) := by decide +kernel
theorem d_Mo_print_140 : decode M_Mo_print.2.1 140 = .ok (.aload_n 0, 1) := by decide +kernel
theorem d_Mo_print_141 : decode M_Mo_print.2.1 141 = .ok (.getfield 42, 3) := by decide +kernel
theorem d_Mo_print_144 : decode M_Mo_print.2.1 144 = .ok (.iload_n 2, 1) := by decide +kernel
theorem d_Mo_print_145 : decode M_Mo_print.2.1 145 = .ok (.iaload, 1) := by decide +kernel
theorem d_Mo_print_146 : decode M_Mo_print.2.1 146 = .ok (.iaload, 1) := by decide +kernel
theorem d_Mo_print_147 : decode M_Mo_print.2.1 147 = .ok (.iconst 2, 1) := by decide +kernel
theorem d_Mo_print_148 : decode M_Mo_print.2.1 148 = .ok (.if_icmp .lt 7, 3) := by decide +kernel
theorem d_Mo_print_155 : decode M_Mo_print.2.1 155 = .ok (.iconst 0, 1) := by decide +kernel
theorem d_Mo_print_156 : decode M_Mo_print.2.1 156 = .ok (.invokevirtual 376, 3) := by decide +kernel
theorem xw_1600 : (Jvm.Cond.code ({ cls := "MarkerTextModel", name := "laterNode", desc := "(IZ)V" } : Jvm.MethodName) prog_13_method_63_code (3 : Nat) (Option.none : Option Jvm.ClassFile.FieldType)) ∈ xT := xT_at 1600 (by decide +kernel) (by decide +kernel)
theorem xcb_Mo_laterNode : xcb M_Mo_laterNode 2 := ⟨xw_1600, xw_8, by decide, by decide, by decide, by decide +kernel⟩
theorem xw_1599 : (Jvm.Cond.instanceMethod ({ cls := "MarkerTextModel", name := "laterNode", desc := "(IZ)V" } : Jvm.MethodName)) ∈ xT := xT_at 1599 (by decide +kernel) (by decide +kernel)
theorem xw_1597 : (Jvm.Cond.methodLink "MarkerTextModel" (376 : Nat) ({ cls := "MarkerTextModel", name := "laterNode", desc := "(IZ)V" } : Jvm.MethodName)) ∈ xT := xT_at 1597 (by decide +kernel) (by decide +kernel)
theorem xsel_Mo_laterNode : Cond.selects "MarkerTextModel" y_Mo_laterNode y_Mo_laterNode ∈ xT := xT_sel (q := (y_Mo_laterNode, 52)) (by decide +kernel) (by decide +kernel)
theorem xcv_Mo_376_Mo : xCV "MarkerTextModel" 376 "MarkerTextModel" M_Mo_laterNode 2 := ⟨xcb_Mo_laterNode, xw_1599, Or.inl ⟨xw_1597, Or.inl xsel_Mo_laterNode⟩⟩
theorem d_Mo_print_159 : decode M_Mo_print.2.1 159 = .ok (.goto 89, 3) := by decide +kernel
theorem d_Mo_print_151 : decode M_Mo_print.2.1 151 = .ok (.iconst 1, 1) := by decide +kernel
theorem d_Mo_print_152 : decode M_Mo_print.2.1 152 = .ok (.goto 4, 3) := by decide +kernel
theorem d_Mo_print_162 : decode M_Mo_print.2.1 162 = .ok (.aload_n 0, 1) := by decide +kernel
theorem d_Mo_print_163 : decode M_Mo_print.2.1 163 = .ok (.aload_n 0, 1) := by decide +kernel
theorem d_Mo_print_164 : decode M_Mo_print.2.1 164 = .ok (.getfield 42, 3) := by decide +kernel
theorem d_Mo_print_167 : decode M_Mo_print.2.1 167 = .ok (.iload_n 2, 1) := by decide +kernel
theorem d_Mo_print_168 : decode M_Mo_print.2.1 168 = .ok (.iaload, 1) := by decide +kernel
theorem d_Mo_print_169 : decode M_Mo_print.2.1 169 = .ok (.aload_n 0, 1) := by decide +kernel
theorem d_Mo_print_170 : decode M_Mo_print.2.1 170 = .ok (.getfield 36, 3) := by decide +kernel
theorem d_Mo_print_173 : decode M_Mo_print.2.1 173 = .ok (.aload_n 0, 1) := by decide +kernel
theorem d_Mo_print_174 : decode M_Mo_print.2.1 174 = .ok (.getfield 42, 3) := by decide +kernel
theorem d_Mo_print_177 : decode M_Mo_print.2.1 177 = .ok (.iload_n 2, 1) := by decide +kernel
theorem d_Mo_print_178 : decode M_Mo_print.2.1 178 = .ok (.iaload, 1) := by decide +kernel
theorem d_Mo_print_179 : decode M_Mo_print.2.1 179 = .ok (.iaload, 1) := by decide +kernel
theorem d_Mo_print_180 : decode M_Mo_print.2.1 180 = .ok (.iconst 3, 1) := by decide +kernel
theorem d_Mo_print_181 : decode M_Mo_print.2.1 181 = .ok (.if_icmp .eq 18, 3) := by decide +kernel
theorem d_Mo_print_199 : decode M_Mo_print.2.1 199 = .ok (.iconst 1, 1) := by decide +kernel
theorem d_Mo_print_200 : decode M_Mo_print.2.1 200 = .ok (.goto 4, 3) := by decide +kernel
theorem d_Mo_print_204 : decode M_Mo_print.2.1 204 = .ok (.invokevirtual 376, 3) := by decide +kernel
theorem d_Mo_print_207 : decode M_Mo_print.2.1 207 = .ok (.aload_n 0, 1) := by decide +kernel
theorem d_Mo_print_208 : decode M_Mo_print.2.1 208 = .ok (.iload_n 3, 1) := by decide +kernel
theorem d_Mo_print_209 : decode M_Mo_print.2.1 209 = .ok (.ineg, 1) := by decide +kernel
theorem d_Mo_print_210 : decode M_Mo_print.2.1 210 = .ok (.invokevirtual 364, 3) := by decide +kernel
theorem d_Mo_print_213 : decode M_Mo_print.2.1 213 = .ok (.aload_n 0, 1) := by decide +kernel
theorem d_Mo_print_214 : decode M_Mo_print.2.1 214 = .ok (.aload_n 0, 1) := by decide +kernel
theorem d_Mo_print_215 : decode M_Mo_print.2.1 215 = .ok (.getfield 39, 3) := by decide +kernel
theorem d_Mo_print_218 : decode M_Mo_print.2.1 218 = .ok (.iload_n 2, 1) := by decide +kernel
theorem d_Mo_print_219 : decode M_Mo_print.2.1 219 = .ok (.iaload, 1) := by decide +kernel
theorem d_Mo_print_220 : decode M_Mo_print.2.1 220 = .ok (.iload_n 3, 1) := by decide +kernel
theorem d_Mo_print_221 : decode M_Mo_print.2.1 221 = .ok (.iconst 2, 1) := by decide +kernel
theorem d_Mo_print_222 : decode M_Mo_print.2.1 222 = .ok (.if_icmp .ne 22, 3) := by decide +kernel
theorem d_Mo_print_225 : decode M_Mo_print.2.1 225 = .ok (.aload_n 0, 1) := by decide +kernel
theorem d_Mo_print_226 : decode M_Mo_print.2.1 226 = .ok (.getfield 36, 3) := by decide +kernel
theorem d_Mo_print_229 : decode M_Mo_print.2.1 229 = .ok (.aload_n 0, 1) := by decide +kernel
theorem d_Mo_print_230 : decode M_Mo_print.2.1 230 = .ok (.getfield 39, 3) := by decide +kernel
theorem d_Mo_print_233 : decode M_Mo_print.2.1 233 = .ok (.iload_n 2, 1) := by decide +kernel
theorem d_Mo_print_234 : decode M_Mo_print.2.1 234 = .ok (.iaload, 1) := by decide +kernel
theorem d_Mo_print_235 : decode M_Mo_print.2.1 235 = .ok (.iaload, 1) := by decide +kernel
theorem d_Mo_print_236 : decode M_Mo_print.2.1 236 = .ok (.iconst 3, 1) := by decide +kernel
theorem d_Mo_print_237 : decode M_Mo_print.2.1 237 = .ok (.if_icmp .ne 7, 3) := by decide +kernel
theorem d_Mo_print_244 : decode M_Mo_print.2.1 244 = .ok (.iconst 0, 1) := by decide +kernel
theorem d_Mo_print_245 : decode M_Mo_print.2.1 245 = .ok (.invokevirtual 376, 3) := by decide +kernel
theorem d_Mo_print_240 : decode M_Mo_print.2.1 240 = .ok (.iconst 1, 1) := by decide +kernel
theorem d_Mo_print_241 : decode M_Mo_print.2.1 241 = .ok (.goto 4, 3) := by decide +kernel
theorem d_Mo_print_184 : decode M_Mo_print.2.1 184 = .ok (.aload_n 0, 1) := by decide +kernel
theorem d_Mo_print_185 : decode M_Mo_print.2.1 185 = .ok (.getfield 36, 3) := by decide +kernel
theorem d_Mo_print_188 : decode M_Mo_print.2.1 188 = .ok (.aload_n 0, 1) := by decide +kernel
theorem d_Mo_print_189 : decode M_Mo_print.2.1 189 = .ok (.getfield 42, 3) := by decide +kernel
theorem d_Mo_print_192 : decode M_Mo_print.2.1 192 = .ok (.iload_n 2, 1) := by decide +kernel
theorem d_Mo_print_193 : decode M_Mo_print.2.1 193 = .ok (.iaload, 1) := by decide +kernel
theorem d_Mo_print_194 : decode M_Mo_print.2.1 194 = .ok (.iaload, 1) := by decide +kernel
theorem d_Mo_print_195 : decode M_Mo_print.2.1 195 = .ok (.iload_n 3, 1) := by decide +kernel
theorem d_Mo_print_196 : decode M_Mo_print.2.1 196 = .ok (.if_icmp .ne 7, 3) := by decide +kernel
theorem d_Mo_print_203 : decode M_Mo_print.2.1 203 = .ok (.iconst 0, 1) := by decide +kernel
theorem d_Mo_print_0 : decode M_Mo_print.2.1 0 = .ok (.aload_n 0, 1) := by decide +kernel
theorem d_Mo_print_1 : decode M_Mo_print.2.1 1 = .ok (.iconst 0, 1) := by decide +kernel
theorem d_Mo_print_2 : decode M_Mo_print.2.1 2 = .ok (.putfield 323, 3) := by decide +kernel
theorem d_Mo_print_5 : decode M_Mo_print.2.1 5 = .ok (.aload_n 0, 1) := by decide +kernel
theorem d_Mo_print_6 : decode M_Mo_print.2.1 6 = .ok (.iconst 0, 1) := by decide +kernel
theorem d_Mo_print_7 : decode M_Mo_print.2.1 7 = .ok (.putfield 361, 3) := by decide +kernel
theorem d_Mo_print_10 : decode M_Mo_print.2.1 10 = .ok (.aload_n 0, 1) := by decide +kernel
theorem d_Mo_print_11 : decode M_Mo_print.2.1 11 = .ok (.aload_n 0, 1) := by decide +kernel
theorem d_Mo_print_12 : decode M_Mo_print.2.1 12 = .ok (.getfield 48, 3) := by decide +kernel
theorem d_Mo_print_15 : decode M_Mo_print.2.1 15 = .ok (.iload_n 1, 1) := by decide +kernel
theorem d_Mo_print_16 : decode M_Mo_print.2.1 16 = .ok (.iaload, 1) := by decide +kernel
theorem d_Mo_print_17 : decode M_Mo_print.2.1 17 = .ok (.invokevirtual 364, 3) := by decide +kernel
abbrev y_Mo_printed : MethodName := ⟨"MarkerTextModel", "printed", "(II)I"⟩
abbrev M_Mo_printed : XMt := (y_Mo_printed, prog_13_method_65_code, 3, (some .int))
theorem d_Mo_printed_0 : decode M_Mo_printed.2.1 0 = .ok (.aload_n 0, 1) := by decide +kernel
theorem d_Mo_printed_1 : decode M_Mo_printed.2.1 1 = .ok (.iconst 0, 1) := by decide +kernel
theorem d_Mo_printed_2 : decode M_Mo_printed.2.1 2 = .ok (.putfield 121, 3) := by decide +kernel
theorem d_Mo_printed_5 : decode M_Mo_printed.2.1 5 = .ok (.aload_n 0, 1) := by decide +kernel
theorem d_Mo_printed_6 : decode M_Mo_printed.2.1 6 = .ok (.iload_n 1, 1) := by decide +kernel
theorem d_Mo_printed_7 : decode M_Mo_printed.2.1 7 = .ok (.invokevirtual 281, 3) := by decide +kernel
theorem d_Mo_printed_10 : decode M_Mo_printed.2.1 10 = .ok (.ifCond .eq 7, 3) := by decide +kernel
theorem d_Mo_printed_17 : decode M_Mo_printed.2.1 17 = .ok (.iconst 0, 1) := by decide +kernel
theorem d_Mo_printed_18 : decode M_Mo_printed.2.1 18 = .ok (.ireturn, 1) := by decide +kernel
theorem d_Mo_printed_13 : decode M_Mo_printed.2.1 13 = .ok (.iload_n 2, 1) := by decide +kernel
theorem d_Mo_printed_14 : decode M_Mo_printed.2.1 14 = .ok (.ifCond .ge 5, 3) := by decide +kernel
theorem d_Mo_printed_19 : decode M_Mo_printed.2.1 19 = .ok (.aload_n 0, 1) := by decide +kernel
theorem d_Mo_printed_20 : decode M_Mo_printed.2.1 20 = .ok (.iload_n 1, 1) := by decide +kernel
theorem d_Mo_printed_21 : decode M_Mo_printed.2.1 21 = .ok (.invokevirtual 380, 3) := by decide +kernel
theorem xw_1562 : (Jvm.Cond.code ({ cls := "MarkerTextModel", name := "print", desc := "(I)V" } : Jvm.MethodName) prog_13_method_64_code (4 : Nat) (Option.none : Option Jvm.ClassFile.FieldType)) ∈ xT := xT_at 1562 (by decide +kernel) (by decide +kernel)
theorem xcb_Mo_print : xcb M_Mo_print 1 := ⟨xw_1562, xw_8, by decide, by decide, by decide, by decide +kernel⟩
theorem xw_1561 : (Jvm.Cond.instanceMethod ({ cls := "MarkerTextModel", name := "print", desc := "(I)V" } : Jvm.MethodName)) ∈ xT := xT_at 1561 (by decide +kernel) (by decide +kernel)
theorem xw_1559 : (Jvm.Cond.methodLink "MarkerTextModel" (380 : Nat) ({ cls := "MarkerTextModel", name := "print", desc := "(I)V" } : Jvm.MethodName)) ∈ xT := xT_at 1559 (by decide +kernel) (by decide +kernel)
theorem xsel_Mo_print : Cond.selects "MarkerTextModel" y_Mo_print y_Mo_print ∈ xT := xT_sel (q := (y_Mo_print, 52)) (by decide +kernel) (by decide +kernel)
theorem xcv_Mo_380_Mo : xCV "MarkerTextModel" 380 "MarkerTextModel" M_Mo_print 1 := ⟨xcb_Mo_print, xw_1561, Or.inl ⟨xw_1559, Or.inl xsel_Mo_print⟩⟩
theorem d_Mo_printed_24 : decode M_Mo_printed.2.1 24 = .ok (.iload_n 2, 1) := by decide +kernel
theorem d_Mo_printed_25 : decode M_Mo_printed.2.1 25 = .ok (.aload_n 0, 1) := by decide +kernel
theorem d_Mo_printed_26 : decode M_Mo_printed.2.1 26 = .ok (.getfield 323, 3) := by decide +kernel
theorem d_Mo_printed_29 : decode M_Mo_printed.2.1 29 = .ok (.if_icmp .ge 12, 3) := by decide +kernel
theorem d_Mo_printed_41 : decode M_Mo_printed.2.1 41 = .ok (.iconst 0, 1) := by decide +kernel
theorem d_Mo_printed_42 : decode M_Mo_printed.2.1 42 = .ok (.ireturn, 1) := by decide +kernel
theorem d_Mo_printed_32 : decode M_Mo_printed.2.1 32 = .ok (.aload_n 0, 1) := by decide +kernel
theorem d_Mo_printed_33 : decode M_Mo_printed.2.1 33 = .ok (.getfield 115, 3) := by decide +kernel
theorem d_Mo_printed_36 : decode M_Mo_printed.2.1 36 = .ok (.iload_n 2, 1) := by decide +kernel
theorem d_Mo_printed_37 : decode M_Mo_printed.2.1 37 = .ok (.iaload, 1) := by decide +kernel
theorem d_Mo_printed_38 : decode M_Mo_printed.2.1 38 = .ok (.goto 4, 3) := by decide +kernel
end
section RF22
variable {l : Launch} {G : XG} {h : XH} {c n d : Nat} {o : Nat} {rf : Nat → Nat} {S : MS}
theorem r_later {v : Int} (hv : inR v) (hp : 0 ≤ S.1 51 ∧ S.1 51 < 600) : RM l G d M_Mo_later [.ref o, .int (zI v)] o rf S (fun w S' => S' = sp (sa S 50 (se (S.2.1 50) (S.1 51) v)) 51 (S.1 51 + 1) ∧ w = none) := by
  intro H0 c n hR
  refine XM.of (by decide +kernel) (Nat.le_of_ble_eq_true rfl) ?_
  have hX : xonly H0 H0 RKs := xonly.rf
  refine x_aload_n d_Mo_later_0 rfl rfl ?_
  refine x_get xf_Mo_118_Mo (Or.inl hR.1) (v := .ref (rf 50)) rfl d_Mo_later_1 ?_
  refine x_aload_n d_Mo_later_4 rfl rfl ?_
  refine x_get xf_Mo_361_Mo (Or.inl hR.1) (v := .int (zI (S.1 51))) rfl d_Mo_later_5 ?_
  have hb5 : inR (S.1 51) := hR.2.2.2 51
  refine x_iload_n d_Mo_later_8 rfl ?_
  refine r_iast (i := 50) (us := (S.2.1 50)) ⟨rfl, rfl⟩ (by decide) hR hX rfl (by omega) (by show S.1 51 < 600; omega) (by omega) d_Mo_later_9 ?_
  intro h hR hX
  refine x_aload_n d_Mo_later_10 rfl rfl ?_
  refine x_dup d_Mo_later_11 rfl ?_
  refine x_get xf_Mo_361_Mo (Or.inl hR.1) (v := .int (zI (S.1 51))) rfl d_Mo_later_12 ?_
  have hb12 : inR (S.1 51) := hR.2.2.2 51
  refine x_iconst (v := zI 1) d_Mo_later_15 (by decide) ?_
  refine z_iadd d_Mo_later_16 ?_
  refine r_put xf_Mo_361_Mo xp_Mo_51 hR hX (by omega) rfl rfl d_Mo_later_17 ?_
  intro h hR hX
  refine x_vret d_Mo_later_20 rfl ?_
  exact ⟨_, hR, hX, rfl, rfl, rfl, rfl⟩
/-- what is to be printed later -/
def toDo (S : MS) (Q : List Int) : Prop := stk (S.2.1 50) Q ∧ S.1 51 = Q.length
theorem toDo.psh {Q : List Int} {v : Int} {h : XH} (hT : toDo S Q) (hl : (S.2.1 50).length = 600) (hq : (Q.length : Int) < 600) : toDo (sp (sa S 50 (se (S.2.1 50) (S.1 51) v)) 51 (S.1 51 + 1)) (v :: Q) := ⟨stk_push (N := 600) hl (by rw [hT.2]; exact hq) hT.2 hT.1, by show S.1 51 + 1 = _; rw [hT.2]; simp⟩
/-- how laterNode() ends -/
abbrev lnQ (S : MS) (Q : List Int) (v b : Int) : Option Value → MS → Prop := fun w S' => w = none ∧ toDo S' (if b = 0 then v :: Q else -40 :: v :: -41 :: Q) ∧ rSm S S' [51] [50] []
theorem r_laterNode (hd : 1 ≤ d) {Q : List Int} {v b : Int} (hv : inR v) (hb : b = 0 ∨ b = 1) (hT : toDo S Q) (hq : (Q.length : Int) + 3 ≤ 600) : RM l G d M_Mo_laterNode [.ref o, .int (zI v), .int (zI b)] o rf S (lnQ S Q v b) := by
  obtain ⟨d, rfl⟩ : ∃ q, d = q + 1 := ⟨d - 1, by omega⟩
  intro H0 c n hR
  refine XM.of (by decide +kernel) (Nat.le_of_ble_eq_true rfl) ?_
  have hX : xonly H0 H0 RKs := xonly.rf
  have l50 : (S.2.1 50).length = 600 := hR.len 50 (by decide)
  have e51 := hT.2
  rcases hb with rfl | rfl
  · have t1 := toDo.psh (v := v) (h := H0) hT l50 (by omega)
    refine x_iload_n d_Mo_laterNode_0 rfl ?_
    refine z_if_eq (tgt := 10) d_Mo_laterNode_1 (by decide) (by omega) (fun _ => ?_) (fun hq => by omega)
    refine x_aload_n d_Mo_laterNode_10 rfl rfl ?_
    refine x_iload_n d_Mo_laterNode_11 rfl ?_
    refine x_callV (As := [_]) (k := k_MarkerTextModel) rfl xcv_Mo_364_Mo (Or.inl hR.1) (RM.ap hR (r_later hv (by omega))) rfl rfl (Nat.le_of_ble_eq_true rfl) d_Mo_laterNode_12 ?_
    rintro v12 h cq nq ⟨S12, hR, hX12, rfl, rfl, rfl, rfl⟩
    replace hX := hX.tr hX12
    refine x_iload_n d_Mo_laterNode_15 rfl ?_
    refine z_if_eq (tgt := 25) d_Mo_laterNode_16 (by decide) (by omega) (fun _ => ?_) (fun hq => by omega)
    refine x_vret d_Mo_laterNode_25 rfl ?_
    exact ⟨_, hR, hX, rfl, rfl, rfl, by rw [if_pos rfl]; exact t1, (rSm.r0.sa (by decide)).sp (by decide)⟩
  · have t1 := toDo.psh (v := -41) (h := H0) hT l50 (by omega)
    have t2 := toDo.psh (v := v) (h := H0) t1 (by show (se (S.2.1 50) (S.1 51) (-41)).length = 600; rw [se_len]; exact l50) (by simp; omega)
    have t3 := toDo.psh (v := -40) (h := H0) t2 (by show (se (se (S.2.1 50) (S.1 51) (-41)) (S.1 51 + 1) v).length = 600; rw [se_len, se_len]; exact l50) (by simp; omega)
    refine x_iload_n d_Mo_laterNode_0 rfl ?_
    refine z_if_eq (tgt := 10) d_Mo_laterNode_1 (by decide) (by omega) (fun hq => by omega) (fun _ => ?_)
    refine x_aload_n d_Mo_laterNode_4 rfl rfl ?_
    refine x_bipush (v := zI (-41)) d_Mo_laterNode_5 (by decide) ?_
    refine x_callV (As := [_]) (k := k_MarkerTextModel) rfl xcv_Mo_364_Mo (Or.inl hR.1) (RM.ap hR (r_later (by decide) (by omega))) rfl rfl (Nat.le_of_ble_eq_true rfl) d_Mo_laterNode_7 ?_
    rintro v7 h cq nq ⟨S7, hR, hX7, rfl, rfl, rfl, rfl⟩
    replace hX := hX.tr hX7
    refine x_aload_n d_Mo_laterNode_10 rfl rfl ?_
    refine x_iload_n d_Mo_laterNode_11 rfl ?_
    refine x_callV (As := [_]) (k := k_MarkerTextModel) rfl xcv_Mo_364_Mo (Or.inl hR.1) (RM.ap hR (r_later hv (by show 0 ≤ S.1 51 + 1 ∧ S.1 51 + 1 < 600; omega))) rfl rfl (Nat.le_of_ble_eq_true rfl) d_Mo_laterNode_12 ?_
    rintro v12 h cq nq ⟨S12, hR, hX12, rfl, rfl, rfl, rfl⟩
    replace hX := hX.tr hX12
    refine x_iload_n d_Mo_laterNode_15 rfl ?_
    refine z_if_eq (tgt := 25) d_Mo_laterNode_16 (by decide) (by omega) (fun hq => by omega) (fun _ => ?_)
    refine x_aload_n d_Mo_laterNode_19 rfl rfl ?_
    refine x_bipush (v := zI (-40)) d_Mo_laterNode_20 (by decide) ?_
    refine x_callV (As := [_]) (k := k_MarkerTextModel) rfl xcv_Mo_364_Mo (Or.inl hR.1) (RM.ap hR (r_later (by decide) (by show 0 ≤ S.1 51 + 1 + 1 ∧ S.1 51 + 1 + 1 < 600; omega))) rfl rfl (Nat.le_of_ble_eq_true rfl) d_Mo_laterNode_22 ?_
    rintro v22 h cq nq ⟨S22, hR, hX22, rfl, rfl, rfl, rfl⟩
    replace hX := hX.tr hX22
    refine x_vret d_Mo_laterNode_25 rfl ?_
    exact ⟨_, hR, hX, rfl, rfl, rfl, by rw [if_neg (by decide)]; exact t3, (((((rSm.r0.sa (by decide)).sp (by decide)).sa (by decide)).sp (by decide)).sa (by decide)).sp (by decide)⟩
/-- how broad an entry is printed -/
def ew (w : Int → Int) (e : Int) : Int := if e = -2 then 5 else if e = -3 then 4 else if e < 0 then 1 else w e
end RF22
