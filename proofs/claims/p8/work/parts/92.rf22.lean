section
abbrev y_Mo_later : MethodName := ⟨"MarkerTextModel", "later", "(I)V"⟩
abbrev M_Mo_later : XMt := (y_Mo_later, prog_13_method_62_code, 2, none)
theorem d_Mo_later_0 : decode M_Mo_later.2.1 0 = .ok (.aload_n 0, 1) := by decide +kernel
theorem d_Mo_later_1 : decode M_Mo_later.2.1 1 = .ok (.getfield 118, 3) := by decide +kernel
theorem d_Mo_later_4 : decode M_Mo_later.2.1 4 = .ok (.aload_n 0, 1) := by decide +kernel
theorem d_Mo_later_5 : decode M_Mo_later.2.1 5 = .ok (.getfield 361, 3) := by decide +kernel
theorem xw_1221 : (Jvm.Cond.fieldLink "MarkerTextModel" (361 : Nat) "MarkerTextModel" "todoMany" "I") ∈ xT := xT_at 1221 (by decide +kernel) (by decide +kernel)
theorem xf_Mo_361_Mo : xF "MarkerTextModel" 361 k_MarkerTextModel 51 := ⟨_, _, _, "MarkerTextModel", rfl, by decide, Or.inl xw_1221, Or.inl rfl⟩
theorem d_Mo_later_8 : decode M_Mo_later.2.1 8 = .ok (.iload_n 1, 1) := by decide +kernel
theorem d_Mo_later_9 : decode M_Mo_later.2.1 9 = .ok (.iastore, 1) := by decide +kernel
theorem d_Mo_later_10 : decode M_Mo_later.2.1 10 = .ok (.aload_n 0, 1) := by decide +kernel
theorem d_Mo_later_11 : decode M_Mo_later.2.1 11 = .ok (.dup, 1) := by decide +kernel
theorem d_Mo_later_12 : decode M_Mo_later.2.1 12 = .ok (.getfield 361, 3) := by decide +kernel
theorem d_Mo_later_15 : decode M_Mo_later.2.1 15 = .ok (.iconst 1, 1) := by decide +kernel
theorem d_Mo_later_16 : decode M_Mo_later.2.1 16 = .ok (.iadd, 1) := by decide +kernel
theorem d_Mo_later_17 : decode M_Mo_later.2.1 17 = .ok (.putfield 361, 3) := by decide +kernel
theorem xp_Mo_51 : xP k_MarkerTextModel 51 false .int := ⟨_, _, _, rfl, rfl, by decide +kernel⟩
theorem d_Mo_later_20 : decode M_Mo_later.2.1 20 = .ok (.return_, 1) := by decide +kernel
abbrev y_Mo_laterNode : MethodName := ⟨"MarkerTextModel", "laterNode", "(IZ)V"⟩
abbrev M_Mo_laterNode : XMt := (y_Mo_laterNode, prog_13_method_63_code, 3, none)
theorem d_Mo_laterNode_0 : decode M_Mo_laterNode.2.1 0 = .ok (.iload_n 2, 1) := by decide +kernel
theorem d_Mo_laterNode_1 : decode M_Mo_laterNode.2.1 1 = .ok (.ifCond .eq 9, 3) := by decide +kernel
theorem d_Mo_laterNode_10 : decode M_Mo_laterNode.2.1 10 = .ok (.aload_n 0, 1) := by decide +kernel
theorem d_Mo_laterNode_11 : decode M_Mo_laterNode.2.1 11 = .ok (.iload_n 1, 1) := by decide +kernel
theorem d_Mo_laterNode_12 : decode M_Mo_laterNode.2.1 12 = .ok (.invokevirtual 364, 3) := by decide +kernel
theorem xw_1566 : (Jvm.Cond.code ({ cls := "MarkerTextModel", name := "later", desc := "(I)V" } : Jvm.MethodName) prog_13_method_62_code (2 : Nat) (Option.none : Option Jvm.ClassFile.FieldType)) ∈ xT := xT_at 1566 (by decide +kernel) (by decide +kernel)
theorem xcb_Mo_later : xcb M_Mo_later 1 := ⟨xw_1566, xw_8, by decide, by decide, by decide, by decide +kernel⟩
theorem xw_1565 : (Jvm.Cond.instanceMethod ({ cls := "MarkerTextModel", name := "later", desc := "(I)V" } : Jvm.MethodName)) ∈ xT := xT_at 1565 (by decide +kernel) (by decide +kernel)
theorem xw_1563 : (Jvm.Cond.methodLink "MarkerTextModel" (364 : Nat) ({ cls := "MarkerTextModel", name := "later", desc := "(I)V" } : Jvm.MethodName)) ∈ xT := xT_at 1563 (by decide +kernel) (by decide +kernel)
theorem xsel_Mo_later : Cond.selects "MarkerTextModel" y_Mo_later y_Mo_later ∈ xT := xT_sel (q := (y_Mo_later, 52)) (by decide +kernel) (by decide +kernel)
theorem xcv_Mo_364_Mo : xCV "MarkerTextModel" 364 "MarkerTextModel" M_Mo_later 1 := ⟨xcb_Mo_later, xw_1565, Or.inl ⟨xw_1563, Or.inl xsel_Mo_later⟩⟩
theorem d_Mo_laterNode_15 : decode M_Mo_laterNode.2.1 15 = .ok (.iload_n 2, 1) := by decide +kernel
theorem d_Mo_laterNode_16 : decode M_Mo_laterNode.2.1 16 = .ok (.ifCond .eq 9, 3) := by decide +kernel
theorem d_Mo_laterNode_25 : decode M_Mo_laterNode.2.1 25 = .ok (.return_, 1) := by decide +kernel
theorem d_Mo_laterNode_4 : decode M_Mo_laterNode.2.1 4 = .ok (.aload_n 0, 1) := by decide +kernel
theorem d_Mo_laterNode_5 : decode M_Mo_laterNode.2.1 5 = .ok (.bipush (-41), 2) := by decide +kernel
theorem d_Mo_laterNode_7 : decode M_Mo_laterNode.2.1 7 = .ok (.invokevirtual 364, 3) := by decide +kernel
theorem d_Mo_laterNode_19 : decode M_Mo_laterNode.2.1 19 = .ok (.aload_n 0, 1) := by decide +kernel
theorem d_Mo_laterNode_20 : decode M_Mo_laterNode.2.1 20 = .ok (.bipush (-40), 2) := by decide +kernel
theorem d_Mo_laterNode_22 : decode M_Mo_laterNode.2.1 22 = .ok (.invokevirtual 364, 3) := by decide +kernel
abbrev y_Mo_print : MethodName := ⟨"MarkerTextModel", "print", "(I)V"⟩
abbrev M_Mo_print : XMt := (y_Mo_print, prog_13_method_64_code, 4, none)
theorem d_Mo_print_20 : decode M_Mo_print.2.1 20 = .ok (.aload_n 0, 1) := by decide +kernel
theorem d_Mo_print_21 : decode M_Mo_print.2.1 21 = .ok (.getfield 361, 3) := by decide +kernel
theorem d_Mo_print_24 : decode M_Mo_print.2.1 24 = .ok (.ifCond .le 227, 3) := by decide +kernel
theorem d_Mo_print_251 : decode M_Mo_print.2.1 251 = .ok (.return_, 1) := by decide +kernel
theorem d_Mo_print_27 : decode M_Mo_print.2.1 27 = .ok (.aload_n 0, 1) := by decide +kernel
theorem d_Mo_print_28 : decode M_Mo_print.2.1 28 = .ok (.dup, 1) := by decide +kernel
theorem d_Mo_print_29 : decode M_Mo_print.2.1 29 = .ok (.getfield 361, 3) := by decide +kernel
theorem d_Mo_print_32 : decode M_Mo_print.2.1 32 = .ok (.iconst 1, 1) := by decide +kernel
theorem d_Mo_print_33 : decode M_Mo_print.2.1 33 = .ok (.isub, 1) := by decide +kernel
theorem d_Mo_print_34 : decode M_Mo_print.2.1 34 = .ok (.putfield 361, 3) := by decide +kernel
theorem d_Mo_print_37 : decode M_Mo_print.2.1 37 = .ok (.aload_n 0, 1) := by decide +kernel
theorem d_Mo_print_38 : decode M_Mo_print.2.1 38 = .ok (.getfield 118, 3) := by decide +kernel
theorem d_Mo_print_41 : decode M_Mo_print.2.1 41 = .ok (.aload_n 0, 1) := by decide +kernel
theorem d_Mo_print_42 : decode M_Mo_print.2.1 42 = .ok (.getfield 361, 3) := by decide +kernel
theorem d_Mo_print_45 : decode M_Mo_print.2.1 45 = .ok (.iaload, 1) := by decide +kernel
theorem d_Mo_print_46 : decode M_Mo_print.2.1 46 = .ok (.istore_n 2, 1) := by decide +kernel
theorem d_Mo_print_47 : decode M_Mo_print.2.1 47 = .ok (.iload_n 2, 1) := by decide +kernel
theorem d_Mo_print_48 : decode M_Mo_print.2.1 48 = .ok (.ifCond .ge 7, 3) := by decide +kernel
theorem d_Mo_print_51 : decode M_Mo_print.2.1 51 = .ok (.iconst (-1), 1) := by decide +kernel
theorem d_Mo_print_52 : decode M_Mo_print.2.1 52 = .ok (.goto 9, 3) := by decide +kernel
theorem d_Mo_print_61 : decode M_Mo_print.2.1 61 = .ok (.istore_n 3, 1) := by decide +kernel
theorem d_Mo_print_62 : decode M_Mo_print.2.1 62 = .ok (.iload_n 2, 1) := by decide +kernel
theorem d_Mo_print_63 : decode M_Mo_print.2.1 63 = .ok (.ifCond .ge 37, 3) := by decide +kernel
theorem d_Mo_print_66 : decode M_Mo_print.2.1 66 = .ok (.aload_n 0, 1) := by decide +kernel
theorem d_Mo_print_67 : decode M_Mo_print.2.1 67 = .ok (.iload_n 2, 1) := by decide +kernel
theorem d_Mo_print_68 : decode M_Mo_print.2.1 68 = .ok (.bipush (-2), 2) := by decide +kernel
theorem d_Mo_print_70 : decode M_Mo_print.2.1 70 = .ok (.if_icmp .ne 9, 3) := by decide +kernel
theorem d_Mo_print_73 : decode M_Mo_print.2.1 73 = .ok (.ldc2_w 367, 3) := by decide +kernel
theorem xw_1567 : (Jvm.Cond.constantLong "MarkerTextModel" (367 : Nat) (139123908896 : Int64)) ∈ xT := xT_at 1567 (by decide +kernel) (by decide +kernel)
theorem d_Mo_print_76 : decode M_Mo_print.2.1 76 = .ok (.goto 18, 3) := by decide +kernel
theorem d_Mo_print_94 : decode M_Mo_print.2.1 94 = .ok (.invokevirtual 349, 3) := by decide +kernel
theorem d_Mo_print_97 : decode M_Mo_print.2.1 97 = .ok (.goto 151, 3) := by decide +kernel
theorem d_Mo_print_248 : decode M_Mo_print.2.1 248 = .ok (.goto (-228), 3) := by decide +kernel
theorem d_Mo_print_79 : decode M_Mo_print.2.1 79 = .ok (.iload_n 2, 1) := by decide +kernel
theorem d_Mo_print_80 : decode M_Mo_print.2.1 80 = .ok (.bipush (-3), 2) := by decide +kernel
theorem d_Mo_print_82 : decode M_Mo_print.2.1 82 = .ok (.if_icmp .ne 9, 3) := by decide +kernel
theorem d_Mo_print_85 : decode M_Mo_print.2.1 85 = .ok (.ldc2_w 369, 3) := by decide +kernel
theorem xw_1568 : (Jvm.Cond.constantLong "MarkerTextModel" (369 : Nat) (544370464 : Int64)) ∈ xT := xT_at 1568 (by decide +kernel) (by decide +kernel)
theorem d_Mo_print_88 : decode M_Mo_print.2.1 88 = .ok (.goto 6, 3) := by decide +kernel
theorem d_Mo_print_91 : decode M_Mo_print.2.1 91 = .ok (.iload_n 2, 1) := by decide +kernel
theorem d_Mo_print_92 : decode M_Mo_print.2.1 92 = .ok (.ineg, 1) := by decide +kernel
theorem d_Mo_print_93 : decode M_Mo_print.2.1 93 = .ok (.i2l, 1) := by decide +kernel
theorem d_Mo_print_55 : decode M_Mo_print.2.1 55 = .ok (.aload_n 0, 1) := by decide +kernel
theorem d_Mo_print_56 : decode M_Mo_print.2.1 56 = .ok (.getfield 36, 3) := by decide +kernel
theorem d_Mo_print_59 : decode M_Mo_print.2.1 59 = .ok (.iload_n 2, 1) := by decide +kernel
theorem d_Mo_print_60 : decode M_Mo_print.2.1 60 = .ok (.iaload, 1) := by decide +kernel
theorem d_Mo_print_100 : decode M_Mo_print.2.1 100 = .ok (.iload_n 3, 1) := by decide +kernel
theorem d_Mo_print_101 : decode M_Mo_print.2.1 101 = .ok (.ifCond .ne 16, 3) := by decide +kernel
theorem d_Mo_print_104 : decode M_Mo_print.2.1 104 = .ok (.aload_n 0, 1) := by decide +kernel
theorem d_Mo_print_105 : decode M_Mo_print.2.1 105 = .ok (.aload_n 0, 1) := by decide +kernel
theorem d_Mo_print_106 : decode M_Mo_print.2.1 106 = .ok (.getfield 39, 3) := by decide +kernel
theorem d_Mo_print_109 : decode M_Mo_print.2.1 109 = .ok (.iload_n 2, 1) := by decide +kernel
theorem d_Mo_print_110 : decode M_Mo_print.2.1 110 = .ok (.iaload, 1) := by decide +kernel
theorem d_Mo_print_111 : decode M_Mo_print.2.1 111 = .ok (.invokevirtual 371, 3) := by decide +kernel
theorem xw_1581 : (Jvm.Cond.code ({ cls := "MarkerTextModel", name := "printTest", desc := "(I)V" } : Jvm.MethodName) prog_13_method_61_code (6 : Nat) (Option.none : Option Jvm.ClassFile.FieldType)) ∈ xT := xT_at 1581 (by decide +kernel) (by decide +kernel)
theorem xcb_Mo_printTest : xcb M_Mo_printTest 1 := ⟨xw_1581, xw_8, by decide, by decide, by decide, by decide +kernel⟩
theorem xw_1580 : (Jvm.Cond.instanceMethod ({ cls := "MarkerTextModel", name := "printTest", desc := "(I)V" } : Jvm.MethodName)) ∈ xT := xT_at 1580 (by decide +kernel) (by decide +kernel)
theorem xw_1578 : (Jvm.Cond.methodLink "MarkerTextModel" (371 : Nat) ({ cls := "MarkerTextModel", name := "printTest", desc := "(I)V" } : Jvm.MethodName)) ∈ xT := xT_at 1578 (by decide +kernel) (by decide +kernel)
theorem xsel_Mo_printTest : Cond.selects "MarkerTextModel" y_Mo_printTest y_Mo_printTest ∈ xT := xT_sel (q := (y_Mo_printTest, 52)) (by decide +kernel) (by decide +kernel)
theorem xcv_Mo_371_Mo : xCV "MarkerTextModel" 371 "MarkerTextModel" M_Mo_printTest 1 := ⟨xcb_Mo_printTest, xw_1580, Or.inl ⟨xw_1578, Or.inl xsel_Mo_printTest⟩⟩
theorem d_Mo_print_114 : decode M_Mo_print.2.1 114 = .ok (.goto 134, 3) := by decide +kernel
theorem d_Mo_print_117 : decode M_Mo_print.2.1 117 = .ok (.iload_n 3, 1) := by decide +kernel
theorem d_Mo_print_118 : decode M_Mo_print.2.1 118 = .ok (.iconst 1, 1) := by decide +kernel
theorem d_Mo_print_119 : decode M_Mo_print.2.1 119 = .ok (.if_icmp .ne 43, 3) := by decide +kernel
theorem d_Mo_print_122 : decode M_Mo_print.2.1 122 = .ok (.aload_n 0, 1) := by decide +kernel
theorem d_Mo_print_123 : decode M_Mo_print.2.1 123 = .ok (.ldc2_w 374, 3) := by decide +kernel
theorem xw_1596 : (Jvm.Cond.constantLong "MarkerTextModel" (374 : Nat) (544501614 : Int64)) ∈ xT := xT_at 1596 (by decide +kernel) (by decide +kernel)
theorem d_Mo_print_126 : decode M_Mo_print.2.1 126 = .ok (.invokevirtual 349, 3) := by decide +kernel
theorem d_Mo_print_129 : decode M_Mo_print.2.1 129 = .ok (.aload_n 0, 1) := by decide +kernel
theorem d_Mo_print_130 : decode M_Mo_print.2.1 130 = .ok (.aload_n 0, 1) := by decide +kernel
theorem d_Mo_print_131 : decode M_Mo_print.2.1 131 = .ok (.getfield 42, 3) := by decide +kernel
theorem d_Mo_print_134 : decode M_Mo_print.2.1 134 = .ok (.iload_n 2, 1) := by decide +kernel
theorem d_Mo_print_135 : decode M_Mo_print.2.1 135 = .ok (.iaload, 1) := by decide +kernel
theorem d_Mo_print_136 : decode M_Mo_print.2.1 136 = .ok (.aload_n 0, 1) := by decide +kernel
theorem d_Mo_print_137 : decode M_Mo_print.2.1 137 = .ok (.getfield 36, 3) := by decide +kernel
theorem d_Mo_print_140 : decode M_Mo_print.2.1 140 = .ok (.aload_n 0, 1) := by decide +kernel
theorem d_Mo_print_141 : decode M_Mo_print.2.1 141 = .ok (.getfield 42, 3) := by decide +kernel
theorem d_Mo_print_144 : decode M_Mo_print.2.1 144 = .ok (.iload_n 2, 1) := by decide +kernel
theorem d_Mo_print_145 : decode M_Mo_print.2.1 145 = .ok (.iaload, 1) := by decide +kernel
theorem d_Mo_print_146 : decode M_Mo_print.2.1 146 = .ok (.iaload, 1) := by decide +kernel
theorem d_Mo_print_147 : decode M_Mo_print.2.1 147 = .ok (.iconst 2, 1) := by decide +kernel
theorem d_Mo_print_148 : decode M_Mo_print.2.1 148 = .ok (.if_icmp .lt 7, 3) := by decide +kernel
theorem d_Mo_print_155 : decode M_Mo_print.2.1 155 = .ok (.iconst 0, 1) := by decide +kernel
theorem d_Mo_print_156 : decode M_Mo_print.2.1 156 = .ok (.invokevirtual 376, 3) := by decide +kernel
theorem xw_1600 : (Jvm.Cond.code ({ cls := "MarkerTextModel", name := "laterNode", desc := "(IZ)V" } : Jvm.MethodName) prog_13_method_63_code (3 : Nat) (Option.none : Option Jvm.ClassFile.FieldType)) ∈ xT := xT_at 1600 (by decide +kernel) (by decide +kernel)
theorem xcb_Mo_laterNode : xcb M_Mo_laterNode 2 := ⟨xw_1600, xw_8, by decide, by decide, by decide, by decide +kernel⟩
theorem xw_1599 : (Jvm.Cond.instanceMethod ({ cls := "MarkerTextModel", name := "laterNode", desc := "(IZ)V" } : Jvm.MethodName)) ∈ xT := xT_at 1599 (by decide +kernel) (by decide +kernel)
theorem xw_1597 : (Jvm.Cond.methodLink "MarkerTextModel" (376 : Nat) ({ cls := "MarkerTextModel", name := "laterNode", desc := "(IZ)V" } : Jvm.MethodName)) ∈ xT := xT_at 1597 (by decide +kernel) (by decide +kernel)
theorem xsel_Mo_laterNode : Cond.selects "MarkerTextModel" y_Mo_laterNode y_Mo_laterNode ∈ xT := xT_sel (q := (y_Mo_laterNode, 52)) (by decide +kernel) (by decide +kernel)
theorem xcv_Mo_376_Mo : xCV "MarkerTextModel" 376 "MarkerTextModel" M_Mo_laterNode 2 := ⟨xcb_Mo_laterNode, xw_1599, Or.inl ⟨xw_1597, Or.inl xsel_Mo_laterNode⟩⟩
theorem d_Mo_print_159 : decode M_Mo_print.2.1 159 = .ok (.goto 89, 3) := by decide +kernel
theorem d_Mo_print_151 : decode M_Mo_print.2.1 151 = .ok (.iconst 1, 1) := by decide +kernel
theorem d_Mo_print_152 : decode M_Mo_print.2.1 152 = .ok (.goto 4, 3) := by decide +kernel
theorem d_Mo_print_162 : decode M_Mo_print.2.1 162 = .ok (.aload_n 0, 1) := by decide +kernel
theorem d_Mo_print_163 : decode M_Mo_print.2.1 163 = .ok (.aload_n 0, 1) := by decide +kernel
theorem d_Mo_print_164 : decode M_Mo_print.2.1 164 = .ok (.getfield 42, 3) := by decide +kernel
theorem d_Mo_print_167 : decode M_Mo_print.2.1 167 = .ok (.iload_n 2, 1) := by decide +kernel
theorem d_Mo_print_168 : decode M_Mo_print.2.1 168 = .ok (.iaload, 1) := by decide +kernel
theorem d_Mo_print_169 : decode M_Mo_print.2.1 169 = .ok (.aload_n 0, 1) := by decide +kernel
theorem d_Mo_print_170 : decode M_Mo_print.2.1 170 = .ok (.getfield 36, 3) := by decide +kernel
theorem d_Mo_print_173 : decode M_Mo_print.2.1 173 = .ok (.aload_n 0, 1) := by decide +kernel
theorem d_Mo_print_174 : decode M_Mo_print.2.1 174 = .ok (.getfield 42, 3) := by decide +kernel
theorem d_Mo_print_177 : decode M_Mo_print.2.1 177 = .ok (.iload_n 2, 1) := by decide +kernel
theorem d_Mo_print_178 : decode M_Mo_print.2.1 178 = .ok (.iaload, 1) := by decide +kernel
theorem d_Mo_print_179 : decode M_Mo_print.2.1 179 = .ok (.iaload, 1) := by decide +kernel
theorem d_Mo_print_180 : decode M_Mo_print.2.1 180 = .ok (.iconst 3, 1) := by decide +kernel
theorem d_Mo_print_181 : decode M_Mo_print.2.1 181 = .ok (.if_icmp .eq 18, 3) := by decide +kernel
theorem d_Mo_print_199 : decode M_Mo_print.2.1 199 = .ok (.iconst 1, 1) := by decide +kernel
theorem d_Mo_print_200 : decode M_Mo_print.2.1 200 = .ok (.goto 4, 3) := by decide +kernel
theorem d_Mo_print_204 : decode M_Mo_print.2.1 204 = .ok (.invokevirtual 376, 3) := by decide +kernel
theorem d_Mo_print_207 : decode M_Mo_print.2.1 207 = .ok (.aload_n 0, 1) := by decide +kernel
theorem d_Mo_print_208 : decode M_Mo_print.2.1 208 = .ok (.iload_n 3, 1) := by decide +kernel
theorem d_Mo_print_209 : decode M_Mo_print.2.1 209 = .ok (.ineg, 1) := by decide +kernel
theorem d_Mo_print_210 : decode M_Mo_print.2.1 210 = .ok (.invokevirtual 364, 3) := by decide +kernel
theorem d_Mo_print_213 : decode M_Mo_print.2.1 213 = .ok (.aload_n 0, 1) := by decide +kernel
theorem d_Mo_print_214 : decode M_Mo_print.2.1 214 = .ok (.aload_n 0, 1) := by decide +kernel
theorem d_Mo_print_215 : decode M_Mo_print.2.1 215 = .ok (.getfield 39, 3) := by decide +kernel
theorem d_Mo_print_218 : decode M_Mo_print.2.1 218 = .ok (.iload_n 2, 1) := by decide +kernel
theorem d_Mo_print_219 : decode M_Mo_print.2.1 219 = .ok (.iaload, 1) := by decide +kernel
theorem d_Mo_print_220 : decode M_Mo_print.2.1 220 = .ok (.iload_n 3, 1) := by decide +kernel
theorem d_Mo_print_221 : decode M_Mo_print.2.1 221 = .ok (.iconst 2, 1) := by decide +kernel
theorem d_Mo_print_222 : decode M_Mo_print.2.1 222 = .ok (.if_icmp .ne 22, 3) := by decide +kernel
theorem d_Mo_print_225 : decode M_Mo_print.2.1 225 = .ok (.aload_n 0, 1) := by decide +kernel
theorem d_Mo_print_226 : decode M_Mo_print.2.1 226 = .ok (.getfield 36, 3) := by decide +kernel
theorem d_Mo_print_229 : decode M_Mo_print.2.1 229 = .ok (.aload_n 0, 1) := by decide +kernel
theorem d_Mo_print_230 : decode M_Mo_print.2.1 230 = .ok (.getfield 39, 3) := by decide +kernel
theorem d_Mo_print_233 : decode M_Mo_print.2.1 233 = .ok (.iload_n 2, 1) := by decide +kernel
theorem d_Mo_print_234 : decode M_Mo_print.2.1 234 = .ok (.iaload, 1) := by decide +kernel
theorem d_Mo_print_235 : decode M_Mo_print.2.1 235 = .ok (.iaload, 1) := by decide +kernel
theorem d_Mo_print_236 : decode M_Mo_print.2.1 236 = .ok (.iconst 3, 1) := by decide +kernel
theorem d_Mo_print_237 : decode M_Mo_print.2.1 237 = .ok (.if_icmp .ne 7, 3) := by decide +kernel
theorem d_Mo_print_244 : decode M_Mo_print.2.1 244 = .ok (.iconst 0, 1) := by decide +kernel
theorem d_Mo_print_245 : decode M_Mo_print.2.1 245 = .ok (.invokevirtual 376, 3) := by decide +kernel
theorem d_Mo_print_240 : decode M_Mo_print.2.1 240 = .ok (.iconst 1, 1) := by decide +kernel
theorem d_Mo_print_241 : decode M_Mo_print.2.1 241 = .ok (.goto 4, 3) := by decide +kernel
theorem d_Mo_print_184 : decode M_Mo_print.2.1 184 = .ok (.aload_n 0, 1) := by decide +kernel
theorem d_Mo_print_185 : decode M_Mo_print.2.1 185 = .ok (.getfield 36, 3) := by decide +kernel
theorem d_Mo_print_188 : decode M_Mo_print.2.1 188 = .ok (.aload_n 0, 1) := by decide +kernel
theorem d_Mo_print_189 : decode M_Mo_print.2.1 189 = .ok (.getfield 42, 3) := by decide +kernel
theorem d_Mo_print_192 : decode M_Mo_print.2.1 192 = .ok (.iload_n 2, 1) := by decide +kernel
theorem d_Mo_print_193 : decode M_Mo_print.2.1 193 = .ok (.iaload, 1) := by decide +kernel
theorem d_Mo_print_194 : decode M_Mo_print.2.1 194 = .ok (.iaload, 1) := by decide +kernel
theorem d_Mo_print_195 : decode M_Mo_print.2.1 195 = .ok (.iload_n 3, 1) := by decide +kernel
theorem d_Mo_print_196 : decode M_Mo_print.2.1 196 = .ok (.if_icmp .ne 7, 3) := by decide +kernel
theorem d_Mo_print_203 : decode M_Mo_print.2.1 203 = .ok (.iconst 0, 1) := by decide +kernel
theorem d_Mo_print_0 : decode M_Mo_print.2.1 0 = .ok (.aload_n 0, 1) := by decide +kernel
theorem d_Mo_print_1 : decode M_Mo_print.2.1 1 = .ok (.iconst 0, 1) := by decide +kernel
theorem d_Mo_print_2 : decode M_Mo_print.2.1 2 = .ok (.putfield 323, 3) := by decide +kernel
theorem d_Mo_print_5 : decode M_Mo_print.2.1 5 = .ok (.aload_n 0, 1) := by decide +kernel
theorem d_Mo_print_6 : decode M_Mo_print.2.1 6 = .ok (.iconst 0, 1) := by decide +kernel
theorem d_Mo_print_7 : decode M_Mo_print.2.1 7 = .ok (.putfield 361, 3) := by decide +kernel
theorem d_Mo_print_10 : decode M_Mo_print.2.1 10 = .ok (.aload_n 0, 1) := by decide +kernel
theorem d_Mo_print_11 : decode M_Mo_print.2.1 11 = .ok (.aload_n 0, 1) := by decide +kernel
theorem d_Mo_print_12 : decode M_Mo_print.2.1 12 = .ok (.getfield 48, 3) := by decide +kernel
theorem d_Mo_print_15 : decode M_Mo_print.2.1 15 = .ok (.iload_n 1, 1) := by decide +kernel
theorem d_Mo_print_16 : decode M_Mo_print.2.1 16 = .ok (.iaload, 1) := by decide +kernel
theorem d_Mo_print_17 : decode M_Mo_print.2.1 17 = .ok (.invokevirtual 364, 3) := by decide +kernel
abbrev y_Mo_printed : MethodName := ⟨"MarkerTextModel", "printed", "(II)I"⟩
abbrev M_Mo_printed : XMt := (y_Mo_printed, prog_13_method_65_code, 3, (some .int))
theorem d_Mo_printed_0 : decode M_Mo_printed.2.1 0 = .ok (.aload_n 0, 1) := by decide +kernel
theorem d_Mo_printed_1 : decode M_Mo_printed.2.1 1 = .ok (.iconst 0, 1) := by decide +kernel
theorem d_Mo_printed_2 : decode M_Mo_printed.2.1 2 = .ok (.putfield 121, 3) := by decide +kernel
theorem d_Mo_printed_5 : decode M_Mo_printed.2.1 5 = .ok (.aload_n 0, 1) := by decide +kernel
theorem d_Mo_printed_6 : decode M_Mo_printed.2.1 6 = .ok (.iload_n 1, 1) := by decide +kernel
theorem d_Mo_printed_7 : decode M_Mo_printed.2.1 7 = .ok (.invokevirtual 281, 3) := by decide +kernel
theorem d_Mo_printed_10 : decode M_Mo_printed.2.1 10 = .ok (.ifCond .eq 7, 3) := by decide +kernel
theorem d_Mo_printed_17 : decode M_Mo_printed.2.1 17 = .ok (.iconst 0, 1) := by decide +kernel
theorem d_Mo_printed_18 : decode M_Mo_printed.2.1 18 = .ok (.ireturn, 1) := by decide +kernel
theorem d_Mo_printed_13 : decode M_Mo_printed.2.1 13 = .ok (.iload_n 2, 1) := by decide +kernel
theorem d_Mo_printed_14 : decode M_Mo_printed.2.1 14 = .ok (.ifCond .ge 5, 3) := by decide +kernel
theorem d_Mo_printed_19 : decode M_Mo_printed.2.1 19 = .ok (.aload_n 0, 1) := by decide +kernel
theorem d_Mo_printed_20 : decode M_Mo_printed.2.1 20 = .ok (.iload_n 1, 1) := by decide +kernel
theorem d_Mo_printed_21 : decode M_Mo_printed.2.1 21 = .ok (.invokevirtual 380, 3) := by decide +kernel
theorem xw_1562 : (Jvm.Cond.code ({ cls := "MarkerTextModel", name := "print", desc := "(I)V" } : Jvm.MethodName) prog_13_method_64_code (4 : Nat) (Option.none : Option Jvm.ClassFile.FieldType)) ∈ xT := xT_at 1562 (by decide +kernel) (by decide +kernel)
theorem xcb_Mo_print : xcb M_Mo_print 1 := ⟨xw_1562, xw_8, by decide, by decide, by decide, by decide +kernel⟩
theorem xw_1561 : (Jvm.Cond.instanceMethod ({ cls := "MarkerTextModel", name := "print", desc := "(I)V" } : Jvm.MethodName)) ∈ xT := xT_at 1561 (by decide +kernel) (by decide +kernel)
theorem xw_1559 : (Jvm.Cond.methodLink "MarkerTextModel" (380 : Nat) ({ cls := "MarkerTextModel", name := "print", desc := "(I)V" } : Jvm.MethodName)) ∈ xT := xT_at 1559 (by decide +kernel) (by decide +kernel)
theorem xsel_Mo_print : Cond.selects "MarkerTextModel" y_Mo_print y_Mo_print ∈ xT := xT_sel (q := (y_Mo_print, 52)) (by decide +kernel) (by decide +kernel)
theorem xcv_Mo_380_Mo : xCV "MarkerTextModel" 380 "MarkerTextModel" M_Mo_print 1 := ⟨xcb_Mo_print, xw_1561, Or.inl ⟨xw_1559, Or.inl xsel_Mo_print⟩⟩
theorem d_Mo_printed_24 : decode M_Mo_printed.2.1 24 = .ok (.iload_n 2, 1) := by decide +kernel
theorem d_Mo_printed_25 : decode M_Mo_printed.2.1 25 = .ok (.aload_n 0, 1) := by decide +kernel
theorem d_Mo_printed_26 : decode M_Mo_printed.2.1 26 = .ok (.getfield 323, 3) := by decide +kernel
theorem d_Mo_printed_29 : decode M_Mo_printed.2.1 29 = .ok (.if_icmp .ge 12, 3) := by decide +kernel
theorem d_Mo_printed_41 : decode M_Mo_printed.2.1 41 = .ok (.iconst 0, 1) := by decide +kernel
theorem d_Mo_printed_42 : decode M_Mo_printed.2.1 42 = .ok (.ireturn, 1) := by decide +kernel
theorem d_Mo_printed_32 : decode M_Mo_printed.2.1 32 = .ok (.aload_n 0, 1) := by decide +kernel
theorem d_Mo_printed_33 : decode M_Mo_printed.2.1 33 = .ok (.getfield 115, 3) := by decide +kernel
theorem d_Mo_printed_36 : decode M_Mo_printed.2.1 36 = .ok (.iload_n 2, 1) := by decide +kernel
theorem d_Mo_printed_37 : decode M_Mo_printed.2.1 37 = .ok (.iaload, 1) := by decide +kernel
theorem d_Mo_printed_38 : decode M_Mo_printed.2.1 38 = .ok (.goto 4, 3) := by decide +kernel
end
section RF22
variable {l : Launch} {G : XG} {h : XH} {c n d : Nat} {o : Nat} {rf : Nat → Nat} {S : MS}
theorem r_later {v : Int} (hv : inR v) (hp : 0 ≤ S.1 51 ∧ S.1 51 < 600) : RM l G d M_Mo_later [.ref o, .int (zI v)] o rf S (fun w S' => S' = sp (sa S 50 (se (S.2.1 50) (S.1 51) v)) 51 (S.1 51 + 1) ∧ w = none) := by
  intro H0 c n hR
  refine XM.of (by decide +kernel) (Nat.le_of_ble_eq_true rfl) ?_
  have hX : xonly H0 H0 RKs := xonly.rf
  refine x_aload_n d_Mo_later_0 rfl rfl ?_
  refine x_get xf_Mo_118_Mo (Or.inl hR.1) (v := .ref (rf 50)) rfl d_Mo_later_1 ?_
  refine x_aload_n d_Mo_later_4 rfl rfl ?_
  refine x_get xf_Mo_361_Mo (Or.inl hR.1) (v := .int (zI (S.1 51))) rfl d_Mo_later_5 ?_
  have hb5 : inR (S.1 51) := hR.2.2.2 51
  refine x_iload_n d_Mo_later_8 rfl ?_
  refine r_iast (i := 50) (us := (S.2.1 50)) ⟨rfl, rfl⟩ (by decide) hR hX rfl (by omega) (by show S.1 51 < 600; omega) (by omega) d_Mo_later_9 ?_
  intro h hR hX
  refine x_aload_n d_Mo_later_10 rfl rfl ?_
  refine x_dup d_Mo_later_11 rfl ?_
  refine x_get xf_Mo_361_Mo (Or.inl hR.1) (v := .int (zI (S.1 51))) rfl d_Mo_later_12 ?_
  have hb12 : inR (S.1 51) := hR.2.2.2 51
  refine x_iconst (v := zI 1) d_Mo_later_15 (by decide) ?_
  refine z_iadd d_Mo_later_16 ?_
  refine r_put xf_Mo_361_Mo xp_Mo_51 hR hX (by omega) rfl rfl d_Mo_later_17 ?_
  intro h hR hX
  refine x_vret d_Mo_later_20 rfl ?_
  exact ⟨_, hR, hX, rfl, rfl, rfl, rfl⟩
/-- what is to be printed later -/
def toDo (S : MS) (Q : List Int) : Prop := stk (S.2.1 50) Q ∧ S.1 51 = Q.length
theorem toDo.psh {Q : List Int} {v : Int} {h : XH} (hT : toDo S Q) (hl : (S.2.1 50).length = 600) (hq : (Q.length : Int) < 600) : toDo (sp (sa S 50 (se (S.2.1 50) (S.1 51) v)) 51 (S.1 51 + 1)) (v :: Q) := ⟨stk_push (N := 600) hl (by rw [hT.2]; exact hq) hT.2 hT.1, by show S.1 51 + 1 = _; rw [hT.2]; simp⟩
/-- how laterNode() ends -/
abbrev lnQ (S : MS) (Q : List Int) (v b : Int) : Option Value → MS → Prop := fun w S' => w = none ∧ toDo S' (if b = 0 then v :: Q else -40 :: v :: -41 :: Q) ∧ rSm S S' [51] [50] []
theorem r_laterNode (hd : 1 ≤ d) {Q : List Int} {v b : Int} (hv : inR v) (hb : b = 0 ∨ b = 1) (hT : toDo S Q) (hq : (Q.length : Int) + 3 ≤ 600) : RM l G d M_Mo_laterNode [.ref o, .int (zI v), .int (zI b)] o rf S (lnQ S Q v b) := by
  obtain ⟨d, rfl⟩ : ∃ q, d = q + 1 := ⟨d - 1, by omega⟩
  intro H0 c n hR
  refine XM.of (by decide +kernel) (Nat.le_of_ble_eq_true rfl) ?_
  have hX : xonly H0 H0 RKs := xonly.rf
  have l50 : (S.2.1 50).length = 600 := hR.len 50 (by decide)
  have e51 := hT.2
  rcases hb with rfl | rfl
  · have t1 := toDo.psh (v := v) (h := H0) hT l50 (by omega)
    refine x_iload_n d_Mo_laterNode_0 rfl ?_
    refine z_if_eq (tgt := 10) d_Mo_laterNode_1 (by decide) (by omega) (fun _ => ?_) (fun hq => by omega)
    refine x_aload_n d_Mo_laterNode_10 rfl rfl ?_
    refine x_iload_n d_Mo_laterNode_11 rfl ?_
    refine x_callV (As := [_]) (k := k_MarkerTextModel) rfl xcv_Mo_364_Mo (Or.inl hR.1) (RM.ap hR (r_later hv (by omega))) rfl rfl (Nat.le_of_ble_eq_true rfl) d_Mo_laterNode_12 ?_
    rintro v12 h cq nq ⟨S12, hR, hX12, rfl, rfl, rfl, rfl⟩
    replace hX := hX.tr hX12
    refine x_iload_n d_Mo_laterNode_15 rfl ?_
    refine z_if_eq (tgt := 25) d_Mo_laterNode_16 (by decide) (by omega) (fun _ => ?_) (fun hq => by omega)
    refine x_vret d_Mo_laterNode_25 rfl ?_
    exact ⟨_, hR, hX, rfl, rfl, rfl, by rw [if_pos rfl]; exact t1, (rSm.r0.sa (by decide)).sp (by decide)⟩
  · have t1 := toDo.psh (v := -41) (h := H0) hT l50 (by omega)
    have t2 := toDo.psh (v := v) (h := H0) t1 (by show (se (S.2.1 50) (S.1 51) (-41)).length = 600; rw [se_len]; exact l50) (by simp; omega)
    have t3 := toDo.psh (v := -40) (h := H0) t2 (by show (se (se (S.2.1 50) (S.1 51) (-41)) (S.1 51 + 1) v).length = 600; rw [se_len, se_len]; exact l50) (by simp; omega)
    refine x_iload_n d_Mo_laterNode_0 rfl ?_
    refine z_if_eq (tgt := 10) d_Mo_laterNode_1 (by decide) (by omega) (fun hq => by omega) (fun _ => ?_)
    refine x_aload_n d_Mo_laterNode_4 rfl rfl ?_
    refine x_bipush (v := zI (-41)) d_Mo_laterNode_5 (by decide) ?_
    refine x_callV (As := [_]) (k := k_MarkerTextModel) rfl xcv_Mo_364_Mo (Or.inl hR.1) (RM.ap hR (r_later (by decide) (by omega))) rfl rfl (Nat.le_of_ble_eq_true rfl) d_Mo_laterNode_7 ?_
    rintro v7 h cq nq ⟨S7, hR, hX7, rfl, rfl, rfl, rfl⟩
    replace hX := hX.tr hX7
    refine x_aload_n d_Mo_laterNode_10 rfl rfl ?_
    refine x_iload_n d_Mo_laterNode_11 rfl ?_
    refine x_callV (As := [_]) (k := k_MarkerTextModel) rfl xcv_Mo_364_Mo (Or.inl hR.1) (RM.ap hR (r_later hv (by show 0 ≤ S.1 51 + 1 ∧ S.1 51 + 1 < 600; omega))) rfl rfl (Nat.le_of_ble_eq_true rfl) d_Mo_laterNode_12 ?_
    rintro v12 h cq nq ⟨S12, hR, hX12, rfl, rfl, rfl, rfl⟩
    replace hX := hX.tr hX12
    refine x_iload_n d_Mo_laterNode_15 rfl ?_
    refine z_if_eq (tgt := 25) d_Mo_laterNode_16 (by decide) (by omega) (fun hq => by omega) (fun _ => ?_)
    refine x_aload_n d_Mo_laterNode_19 rfl rfl ?_
    refine x_bipush (v := zI (-40)) d_Mo_laterNode_20 (by decide) ?_
    refine x_callV (As := [_]) (k := k_MarkerTextModel) rfl xcv_Mo_364_Mo (Or.inl hR.1) (RM.ap hR (r_later (by decide) (by show 0 ≤ S.1 51 + 1 + 1 ∧ S.1 51 + 1 + 1 < 600; omega))) rfl rfl (Nat.le_of_ble_eq_true rfl) d_Mo_laterNode_22 ?_
    rintro v22 h cq nq ⟨S22, hR, hX22, rfl, rfl, rfl, rfl⟩
    replace hX := hX.tr hX22
    refine x_vret d_Mo_laterNode_25 rfl ?_
    exact ⟨_, hR, hX, rfl, rfl, rfl, by rw [if_neg (by decide)]; exact t3, (((((rSm.r0.sa (by decide)).sp (by decide)).sa (by decide)).sp (by decide)).sa (by decide)).sp (by decide)⟩
/-- how broad an entry is printed -/
def ew (w : Int → Int) (e : Int) : Int := if e = -2 then 5 else if e = -3 then 4 else if e < 0 then 1 else w e
/-- between two steps of print() -/
def pnI (S S1 : MS) (s : Int) (w : Int → Int) (Q : List Int) : Prop := rSm S S1 [49, 51] [48, 50] [] ∧ toDo S1 Q ∧ (∀ e ∈ Q, e = -2 ∨ e = -3 ∨ e = -40 ∨ e = -41 ∨ (128 * s ≤ e ∧ e < 128 * s + gd (S.2.1 15) s)) ∧ 0 ≤ S1.1 49 ∧ S1.1 49 + wsm (ew w) Q ≤ 560
abbrev pnQ (S : MS) : Option Value → MS → Prop := fun v S' => v = none ∧ rSm S S' [49, 51] [48, 50] [] ∧ 0 ≤ S'.1 49 ∧ S'.1 49 ≤ 560
theorem r_print (hd : 3 ≤ d) {s : Int} (hs : 0 ≤ s ∧ s ≤ 8) (hn : nmOk S) (hC : cdOk S s) : RM l G d M_Mo_print [.ref o, .int (zI s)] o rf S (pnQ S) := by
  obtain ⟨d, rfl⟩ : ∃ q, d = q + 1 := ⟨d - 1, by omega⟩
  intro H0 c n hR
  refine XM.of (by decide +kernel) (Nat.le_of_ble_eq_true rfl) ?_
  have hX : xonly H0 H0 RKs := xonly.rf
  obtain ⟨w, hpt, q1, q2, q3⟩ := hC
  obtain ⟨p1, p2, p3, p4, p5, p6, p7, p8, p9, p10⟩ := id hpt
  have l50 : (S.2.1 50).length = 600 := hR.len 50 (by decide)
  have hew : ∀ e : Int, (e = -2 ∨ e = -3 ∨ e = -40 ∨ e = -41 ∨ (128 * s ≤ e ∧ e < 128 * s + gd (S.2.1 15) s)) → 1 ≤ ew w e := by
    intro e he
    unfold ew
    split
    · omega
    · split
      · omega
      · split
        · omega
        · rcases he with he | he | he | he | ⟨h1, h2⟩
          · omega
          · omega
          · omega
          · omega
          · exact (p7 e h1 h2).1
  have ewn : ∀ e : Int, 128 * s ≤ e → ew w e = w e := fun e he => by
    unfold ew
    rw [if_neg (by omega), if_neg (by omega), if_neg (by omega)]
  have ewq : ∀ (Q : List Int), (∀ e ∈ Q, e = -2 ∨ e = -3 ∨ e = -40 ∨ e = -41 ∨ (128 * s ≤ e ∧ e < 128 * s + gd (S.2.1 15) s)) → (Q.length : Int) ≤ wsm (ew w) Q := fun Q hQ => wsm_nn (fun e he => hew e (hQ e he))
  have hln : ∀ (Q : List Int) (v b : Int), (∀ e ∈ Q, e = -2 ∨ e = -3 ∨ e = -40 ∨ e = -41 ∨ (128 * s ≤ e ∧ e < 128 * s + gd (S.2.1 15) s)) → 128 * s ≤ v → v < 128 * s + gd (S.2.1 15) s → ∀ Q' : List Int, Q' = (if b = 0 then v :: Q else -40 :: v :: -41 :: Q) → (∀ e ∈ Q', e = -2 ∨ e = -3 ∨ e = -40 ∨ e = -41 ∨ (128 * s ≤ e ∧ e < 128 * s + gd (S.2.1 15) s)) ∧ (Q'.length : Int) ≤ Q.length + 3 ∧ wsm (ew w) Q' ≤ w v + (if b = 0 then 0 else 2) + wsm (ew w) Q := by
    intro Q v b hQ h1 h2 Q' hQ'
    subst hQ'
    have e1 := ewn v h1
    by_cases hb : b = 0
    · rw [if_pos hb, if_pos hb]
      refine ⟨fun x hx => ?_, (by simp; try omega), ?_⟩
      · rcases List.mem_cons.mp hx with rfl | hx
        · exact Or.inr (Or.inr (Or.inr (Or.inr ⟨h1, h2⟩)))
        · exact hQ x hx
      · show ew w v + wsm (ew w) Q ≤ _
        rw [e1]; omega
    · rw [if_neg hb, if_neg hb]
      refine ⟨fun x hx => ?_, (by simp; try omega), ?_⟩
      · rcases List.mem_cons.mp hx with rfl | hx
        · exact Or.inr (Or.inr (Or.inl rfl))
        rcases List.mem_cons.mp hx with rfl | hx
        · exact Or.inr (Or.inr (Or.inr (Or.inr ⟨h1, h2⟩)))
        rcases List.mem_cons.mp hx with rfl | hx
        · exact Or.inr (Or.inr (Or.inr (Or.inl rfl)))
        · exact hQ x hx
      · show 1 + (ew w v + (1 + wsm (ew w) Q)) ≤ _
        rw [e1]; omega
  have hln2 : ∀ (S' : MS) (Q : List Int) (v b : Int), (∀ e ∈ Q, e = -2 ∨ e = -3 ∨ e = -40 ∨ e = -41 ∨ (128 * s ≤ e ∧ e < 128 * s + gd (S.2.1 15) s)) → 128 * s ≤ v → v < 128 * s + gd (S.2.1 15) s → toDo S' (if b = 0 then v :: Q else -40 :: v :: -41 :: Q) → (b = 0 ∨ b = 1) → ∃ Q' : List Int, toDo S' Q' ∧ (∀ e ∈ Q', e = -2 ∨ e = -3 ∨ e = -40 ∨ e = -41 ∨ (128 * s ≤ e ∧ e < 128 * s + gd (S.2.1 15) s)) ∧ (Q'.length : Int) ≤ Q.length + 3 ∧ wsm (ew w) Q' ≤ w v + 2 * b + wsm (ew w) Q := by
    intro S' Q v b hQ h1 h2 hT hb
    obtain ⟨u1, u2, u3⟩ := hln Q v b hQ h1 h2 _ rfl
    refine ⟨_, hT, u1, u2, ?_⟩
    rcases hb with rfl | rfl
    · have e0 : (if (0 : Int) = 0 then (0 : Int) else 2) = 0 := if_pos rfl
      rw [e0] at u3; omega
    · have e0 : (if (1 : Int) = 0 then (0 : Int) else 2) = 2 := if_neg (by decide)
      rw [e0] at u3; omega
  have bd : ∀ (S1 : MS) (Q : List Int) (w2 w3 : Option Value), pnI S S1 s w Q → (∀ (S2 : MS) (Q2 : List Int) (w2 w3 : Option Value), pnI S S2 s w Q2 → wsm (ew w) Q2 < wsm (ew w) Q → RX l G M_Mo_print (d + 1) 20 [some (.ref o), some (.int (zI s)), w2, w3] [] H0 o rf c n S2 (pnQ S)) → RX l G M_Mo_print (d + 1) 20 [some (.ref o), some (.int (zI s)), w2, w3] [] H0 o rf c n S1 (pnQ S) := by
    intro S1 Q w2 w3 hL nx h hR hX
    obtain ⟨hsm, hT, hQ, h49, hsum⟩ := hL
    have hlen := ewq Q hQ
    have e51 := hT.2
    cases Q with
    | nil =>
      have e51' : S1.1 51 = 0 := e51
      refine x_aload_n d_Mo_print_20 rfl rfl ?_
      refine x_get xf_Mo_361_Mo (Or.inl hR.1) (v := .int (zI (S1.1 51))) rfl d_Mo_print_21 ?_
      have hb21 : inR (S1.1 51) := hR.2.2.2 51
      refine z_if_le (tgt := 251) d_Mo_print_24 (by decide) (by omega) (fun _ => ?_) (fun hq => by omega)
      refine x_vret d_Mo_print_251 rfl ?_
      exact ⟨_, hR, hX, rfl, rfl, rfl, hsm, h49, by have : S1.1 49 + 0 ≤ 560 := hsum; omega⟩
    | cons e Q =>
      have e51' : S1.1 51 = (Q.length : Int) + 1 := by rw [e51]; simp
      have htop : gd (S1.2.1 50) (S1.1 51 - 1) = e := by rw [e51', Int.add_sub_cancel]; exact hT.1.1
      have hlen' := ewq Q (fun x hx => hQ x (List.mem_cons_of_mem _ hx))
      have hsum' : S1.1 49 + (ew w e + wsm (ew w) Q) ≤ 560 := hsum
      have hwe := hew e (hQ e List.mem_cons_self)
      have hT2 : toDo (sp S1 51 (S1.1 51 - 1)) Q := ⟨hT.1.2, by show S1.1 51 - 1 = _; omega⟩
      have hQ' := fun x hx => hQ x (List.mem_cons_of_mem e hx)
      have g12 := hsm.2.1 12 (by decide)
      have g13 := hsm.2.1 13 (by decide)
      have g14 := hsm.2.1 14 (by decide)
      -- a sign
      have sg : ∀ (us : List Int) (p : Int), S1.1 49 ≤ p → p ≤ S1.1 49 + ew w e → ∀ w2 w3, RX l G M_Mo_print (d + 1) 20 [some (.ref o), some (.int (zI s)), w2, w3] [] H0 o rf c n (PS (sp S1 51 (S1.1 51 - 1)) us p) (pnQ S) := fun us p a1 a2 w2 w3 => nx _ Q w2 w3 ⟨((hsm.sp (by decide)).sa (by decide)).sp (by decide), hT2, hQ', by show 0 ≤ p; omega, by show p + _ ≤ 560; omega⟩ (by show wsm (ew w) Q < ew w e + wsm (ew w) Q; omega)
      rcases hQ e List.mem_cons_self with rfl | rfl | rfl | rfl | ⟨he1, he2⟩
      · have hE : ew w (-2) = 5 := rfl
        refine x_aload_n d_Mo_print_20 rfl rfl ?_
        refine x_get xf_Mo_361_Mo (Or.inl hR.1) (v := .int (zI (S1.1 51))) rfl d_Mo_print_21 ?_
        have hb21 : inR (S1.1 51) := hR.2.2.2 51
        refine z_if_le (tgt := 251) d_Mo_print_24 (by decide) (by omega) (fun hq => by omega) (fun _ => ?_)
        refine x_aload_n d_Mo_print_27 rfl rfl ?_
        refine x_dup d_Mo_print_28 rfl ?_
        refine x_get xf_Mo_361_Mo (Or.inl hR.1) (v := .int (zI (S1.1 51))) rfl d_Mo_print_29 ?_
        have hb29 : inR (S1.1 51) := hR.2.2.2 51
        refine x_iconst (v := zI 1) d_Mo_print_32 (by decide) ?_
        refine z_isub d_Mo_print_33 ?_
        refine r_put xf_Mo_361_Mo xp_Mo_51 hR hX (by omega) rfl rfl d_Mo_print_34 ?_
        intro h hR hX
        refine x_aload_n d_Mo_print_37 rfl rfl ?_
        refine x_get xf_Mo_118_Mo (Or.inl hR.1) (v := .ref (rf 50)) rfl d_Mo_print_38 ?_
        refine x_aload_n d_Mo_print_41 rfl rfl ?_
        refine x_get xf_Mo_361_Mo (Or.inl hR.1) (v := .int (zI ((S1.1 51) - 1))) rfl d_Mo_print_42 ?_
        have hb42 : inR ((S1.1 51) - 1) := hR.2.2.2 51
        refine r_iald (i := 50) (us := (S1.2.1 50)) rfl (by decide) hR rfl (by omega) (by show S1.1 51 - 1 < 600; omega) d_Mo_print_45 (fun hr45 => ?_)
        rw [htop]
        refine x_istore_n (L' := [_, _, _, _]) d_Mo_print_46 rfl rfl ?_
        refine x_iload_n d_Mo_print_47 rfl ?_
        refine z_if_ge (tgt := 55) d_Mo_print_48 (by decide) (by omega) (fun hq => by omega) (fun _ => ?_)
        refine x_iconst (v := zI (-1)) d_Mo_print_51 (by decide) ?_
        refine x_goto (tgt := 61) d_Mo_print_52 (by decide) ?_
        refine x_istore_n (L' := [_, _, _, _]) d_Mo_print_61 rfl rfl ?_
        refine x_iload_n d_Mo_print_62 rfl ?_
        refine z_if_ge (tgt := 100) d_Mo_print_63 (by decide) (by omega) (fun hq => by omega) (fun _ => ?_)
        refine x_aload_n d_Mo_print_66 rfl rfl ?_
        refine x_iload_n d_Mo_print_67 rfl ?_
        refine x_bipush (v := zI (-2)) d_Mo_print_68 (by decide) ?_
        refine z_icmp_ne (tgt := 79) d_Mo_print_70 (by decide) (by omega) (by omega) (fun hq => by omega) (fun _ => ?_)
        refine x_ldc2 (v := 139123908896) xw_1567 d_Mo_print_73 ?_
        refine x_goto (tgt := 94) d_Mo_print_76 (by decide) ?_
        refine x_callV (As := [_]) (k := k_MarkerTextModel) rfl xcv_Mo_349_Mo (Or.inl hR.1) (RM.ap hR (r_putAll (S := sp S1 51 (S1.1 51 - 1)) (k := 5) (by omega) (by decide +kernel) (by show 0 ≤ S1.1 49 ∧ S1.1 49 + 5 ≤ 1000; omega))) rfl rfl (Nat.le_of_ble_eq_true rfl) d_Mo_print_94 ?_
        rintro v94 h cq nq ⟨S94, hR, hX94, rfl, rfl, us9, p9, rfl, rfl, ha9, hb9⟩
        replace hX := hX.tr hX94
        refine x_goto (tgt := 248) d_Mo_print_97 (by decide) ?_
        refine x_goto (tgt := 20) d_Mo_print_248 (by decide) ?_
        exact sg us9 p9 ha9 (by rw [hE]; exact hb9) _ _ _ hR hX
      · have hE : ew w (-3) = 4 := rfl
        refine x_aload_n d_Mo_print_20 rfl rfl ?_
        refine x_get xf_Mo_361_Mo (Or.inl hR.1) (v := .int (zI (S1.1 51))) rfl d_Mo_print_21 ?_
        have hb21 : inR (S1.1 51) := hR.2.2.2 51
        refine z_if_le (tgt := 251) d_Mo_print_24 (by decide) (by omega) (fun hq => by omega) (fun _ => ?_)
        refine x_aload_n d_Mo_print_27 rfl rfl ?_
        refine x_dup d_Mo_print_28 rfl ?_
        refine x_get xf_Mo_361_Mo (Or.inl hR.1) (v := .int (zI (S1.1 51))) rfl d_Mo_print_29 ?_
        have hb29 : inR (S1.1 51) := hR.2.2.2 51
        refine x_iconst (v := zI 1) d_Mo_print_32 (by decide) ?_
        refine z_isub d_Mo_print_33 ?_
        refine r_put xf_Mo_361_Mo xp_Mo_51 hR hX (by omega) rfl rfl d_Mo_print_34 ?_
        intro h hR hX
        refine x_aload_n d_Mo_print_37 rfl rfl ?_
        refine x_get xf_Mo_118_Mo (Or.inl hR.1) (v := .ref (rf 50)) rfl d_Mo_print_38 ?_
        refine x_aload_n d_Mo_print_41 rfl rfl ?_
        refine x_get xf_Mo_361_Mo (Or.inl hR.1) (v := .int (zI ((S1.1 51) - 1))) rfl d_Mo_print_42 ?_
        have hb42 : inR ((S1.1 51) - 1) := hR.2.2.2 51
        refine r_iald (i := 50) (us := (S1.2.1 50)) rfl (by decide) hR rfl (by omega) (by show S1.1 51 - 1 < 600; omega) d_Mo_print_45 (fun hr45 => ?_)
        rw [htop]
        refine x_istore_n (L' := [_, _, _, _]) d_Mo_print_46 rfl rfl ?_
        refine x_iload_n d_Mo_print_47 rfl ?_
        refine z_if_ge (tgt := 55) d_Mo_print_48 (by decide) (by omega) (fun hq => by omega) (fun _ => ?_)
        refine x_iconst (v := zI (-1)) d_Mo_print_51 (by decide) ?_
        refine x_goto (tgt := 61) d_Mo_print_52 (by decide) ?_
        refine x_istore_n (L' := [_, _, _, _]) d_Mo_print_61 rfl rfl ?_
        refine x_iload_n d_Mo_print_62 rfl ?_
        refine z_if_ge (tgt := 100) d_Mo_print_63 (by decide) (by omega) (fun hq => by omega) (fun _ => ?_)
        refine x_aload_n d_Mo_print_66 rfl rfl ?_
        refine x_iload_n d_Mo_print_67 rfl ?_
        refine x_bipush (v := zI (-2)) d_Mo_print_68 (by decide) ?_
        refine z_icmp_ne (tgt := 79) d_Mo_print_70 (by decide) (by omega) (by omega) (fun _ => ?_) (fun hq => by omega)
        refine x_iload_n d_Mo_print_79 rfl ?_
        refine x_bipush (v := zI (-3)) d_Mo_print_80 (by decide) ?_
        refine z_icmp_ne (tgt := 91) d_Mo_print_82 (by decide) (by omega) (by omega) (fun hq => by omega) (fun _ => ?_)
        refine x_ldc2 (v := 544370464) xw_1568 d_Mo_print_85 ?_
        refine x_goto (tgt := 94) d_Mo_print_88 (by decide) ?_
        refine x_callV (As := [_]) (k := k_MarkerTextModel) rfl xcv_Mo_349_Mo (Or.inl hR.1) (RM.ap hR (r_putAll (S := sp S1 51 (S1.1 51 - 1)) (k := 4) (by omega) (by decide +kernel) (by show 0 ≤ S1.1 49 ∧ S1.1 49 + 4 ≤ 1000; omega))) rfl rfl (Nat.le_of_ble_eq_true rfl) d_Mo_print_94 ?_
        rintro v94 h cq nq ⟨S94, hR, hX94, rfl, rfl, us9, p9, rfl, rfl, ha9, hb9⟩
        replace hX := hX.tr hX94
        refine x_goto (tgt := 248) d_Mo_print_97 (by decide) ?_
        refine x_goto (tgt := 20) d_Mo_print_248 (by decide) ?_
        exact sg us9 p9 ha9 (by rw [hE]; exact hb9) _ _ _ hR hX
      · have hE : ew w (-40) = 1 := rfl
        refine x_aload_n d_Mo_print_20 rfl rfl ?_
        refine x_get xf_Mo_361_Mo (Or.inl hR.1) (v := .int (zI (S1.1 51))) rfl d_Mo_print_21 ?_
        have hb21 : inR (S1.1 51) := hR.2.2.2 51
        refine z_if_le (tgt := 251) d_Mo_print_24 (by decide) (by omega) (fun hq => by omega) (fun _ => ?_)
        refine x_aload_n d_Mo_print_27 rfl rfl ?_
        refine x_dup d_Mo_print_28 rfl ?_
        refine x_get xf_Mo_361_Mo (Or.inl hR.1) (v := .int (zI (S1.1 51))) rfl d_Mo_print_29 ?_
        have hb29 : inR (S1.1 51) := hR.2.2.2 51
        refine x_iconst (v := zI 1) d_Mo_print_32 (by decide) ?_
        refine z_isub d_Mo_print_33 ?_
        refine r_put xf_Mo_361_Mo xp_Mo_51 hR hX (by omega) rfl rfl d_Mo_print_34 ?_
        intro h hR hX
        refine x_aload_n d_Mo_print_37 rfl rfl ?_
        refine x_get xf_Mo_118_Mo (Or.inl hR.1) (v := .ref (rf 50)) rfl d_Mo_print_38 ?_
        refine x_aload_n d_Mo_print_41 rfl rfl ?_
        refine x_get xf_Mo_361_Mo (Or.inl hR.1) (v := .int (zI ((S1.1 51) - 1))) rfl d_Mo_print_42 ?_
        have hb42 : inR ((S1.1 51) - 1) := hR.2.2.2 51
        refine r_iald (i := 50) (us := (S1.2.1 50)) rfl (by decide) hR rfl (by omega) (by show S1.1 51 - 1 < 600; omega) d_Mo_print_45 (fun hr45 => ?_)
        rw [htop]
        refine x_istore_n (L' := [_, _, _, _]) d_Mo_print_46 rfl rfl ?_
        refine x_iload_n d_Mo_print_47 rfl ?_
        refine z_if_ge (tgt := 55) d_Mo_print_48 (by decide) (by omega) (fun hq => by omega) (fun _ => ?_)
        refine x_iconst (v := zI (-1)) d_Mo_print_51 (by decide) ?_
        refine x_goto (tgt := 61) d_Mo_print_52 (by decide) ?_
        refine x_istore_n (L' := [_, _, _, _]) d_Mo_print_61 rfl rfl ?_
        refine x_iload_n d_Mo_print_62 rfl ?_
        refine z_if_ge (tgt := 100) d_Mo_print_63 (by decide) (by omega) (fun hq => by omega) (fun _ => ?_)
        refine x_aload_n d_Mo_print_66 rfl rfl ?_
        refine x_iload_n d_Mo_print_67 rfl ?_
        refine x_bipush (v := zI (-2)) d_Mo_print_68 (by decide) ?_
        refine z_icmp_ne (tgt := 79) d_Mo_print_70 (by decide) (by omega) (by omega) (fun _ => ?_) (fun hq => by omega)
        refine x_iload_n d_Mo_print_79 rfl ?_
        refine x_bipush (v := zI (-3)) d_Mo_print_80 (by decide) ?_
        refine z_icmp_ne (tgt := 91) d_Mo_print_82 (by decide) (by omega) (by omega) (fun _ => ?_) (fun hq => by omega)
        refine x_iload_n d_Mo_print_91 rfl ?_
        refine z_ineg d_Mo_print_92 ?_
        refine x_i2l d_Mo_print_93 ?_
        refine x_callV (As := [_]) (k := k_MarkerTextModel) rfl xcv_Mo_349_Mo (Or.inl hR.1) (RM.ap hR (r_putAll (S := sp S1 51 (S1.1 51 - 1)) (k := 1) (by omega) (by decide +kernel) (by show 0 ≤ S1.1 49 ∧ S1.1 49 + 1 ≤ 1000; omega))) rfl rfl (Nat.le_of_ble_eq_true rfl) d_Mo_print_94 ?_
        rintro v94 h cq nq ⟨S94, hR, hX94, rfl, rfl, us9, p9, rfl, rfl, ha9, hb9⟩
        replace hX := hX.tr hX94
        refine x_goto (tgt := 248) d_Mo_print_97 (by decide) ?_
        refine x_goto (tgt := 20) d_Mo_print_248 (by decide) ?_
        exact sg us9 p9 ha9 (by rw [hE]; exact hb9) _ _ _ hR hX
      · have hE : ew w (-41) = 1 := rfl
        refine x_aload_n d_Mo_print_20 rfl rfl ?_
        refine x_get xf_Mo_361_Mo (Or.inl hR.1) (v := .int (zI (S1.1 51))) rfl d_Mo_print_21 ?_
        have hb21 : inR (S1.1 51) := hR.2.2.2 51
        refine z_if_le (tgt := 251) d_Mo_print_24 (by decide) (by omega) (fun hq => by omega) (fun _ => ?_)
        refine x_aload_n d_Mo_print_27 rfl rfl ?_
        refine x_dup d_Mo_print_28 rfl ?_
        refine x_get xf_Mo_361_Mo (Or.inl hR.1) (v := .int (zI (S1.1 51))) rfl d_Mo_print_29 ?_
        have hb29 : inR (S1.1 51) := hR.2.2.2 51
        refine x_iconst (v := zI 1) d_Mo_print_32 (by decide) ?_
        refine z_isub d_Mo_print_33 ?_
        refine r_put xf_Mo_361_Mo xp_Mo_51 hR hX (by omega) rfl rfl d_Mo_print_34 ?_
        intro h hR hX
        refine x_aload_n d_Mo_print_37 rfl rfl ?_
        refine x_get xf_Mo_118_Mo (Or.inl hR.1) (v := .ref (rf 50)) rfl d_Mo_print_38 ?_
        refine x_aload_n d_Mo_print_41 rfl rfl ?_
        refine x_get xf_Mo_361_Mo (Or.inl hR.1) (v := .int (zI ((S1.1 51) - 1))) rfl d_Mo_print_42 ?_
        have hb42 : inR ((S1.1 51) - 1) := hR.2.2.2 51
        refine r_iald (i := 50) (us := (S1.2.1 50)) rfl (by decide) hR rfl (by omega) (by show S1.1 51 - 1 < 600; omega) d_Mo_print_45 (fun hr45 => ?_)
        rw [htop]
        refine x_istore_n (L' := [_, _, _, _]) d_Mo_print_46 rfl rfl ?_
        refine x_iload_n d_Mo_print_47 rfl ?_
        refine z_if_ge (tgt := 55) d_Mo_print_48 (by decide) (by omega) (fun hq => by omega) (fun _ => ?_)
        refine x_iconst (v := zI (-1)) d_Mo_print_51 (by decide) ?_
        refine x_goto (tgt := 61) d_Mo_print_52 (by decide) ?_
        refine x_istore_n (L' := [_, _, _, _]) d_Mo_print_61 rfl rfl ?_
        refine x_iload_n d_Mo_print_62 rfl ?_
        refine z_if_ge (tgt := 100) d_Mo_print_63 (by decide) (by omega) (fun hq => by omega) (fun _ => ?_)
        refine x_aload_n d_Mo_print_66 rfl rfl ?_
        refine x_iload_n d_Mo_print_67 rfl ?_
        refine x_bipush (v := zI (-2)) d_Mo_print_68 (by decide) ?_
        refine z_icmp_ne (tgt := 79) d_Mo_print_70 (by decide) (by omega) (by omega) (fun _ => ?_) (fun hq => by omega)
        refine x_iload_n d_Mo_print_79 rfl ?_
        refine x_bipush (v := zI (-3)) d_Mo_print_80 (by decide) ?_
        refine z_icmp_ne (tgt := 91) d_Mo_print_82 (by decide) (by omega) (by omega) (fun _ => ?_) (fun hq => by omega)
        refine x_iload_n d_Mo_print_91 rfl ?_
        refine z_ineg d_Mo_print_92 ?_
        refine x_i2l d_Mo_print_93 ?_
        refine x_callV (As := [_]) (k := k_MarkerTextModel) rfl xcv_Mo_349_Mo (Or.inl hR.1) (RM.ap hR (r_putAll (S := sp S1 51 (S1.1 51 - 1)) (k := 1) (by omega) (by decide +kernel) (by show 0 ≤ S1.1 49 ∧ S1.1 49 + 1 ≤ 1000; omega))) rfl rfl (Nat.le_of_ble_eq_true rfl) d_Mo_print_94 ?_
        rintro v94 h cq nq ⟨S94, hR, hX94, rfl, rfl, us9, p9, rfl, rfl, ha9, hb9⟩
        replace hX := hX.tr hX94
        refine x_goto (tgt := 248) d_Mo_print_97 (by decide) ?_
        refine x_goto (tgt := 20) d_Mo_print_248 (by decide) ?_
        exact sg us9 p9 ha9 (by rw [hE]; exact hb9) _ _ _ hR hX
      · have hE := ewn e he1
        rw [hE] at hsum' hwe sg
        have hnd := (p7 e he1 he2).2
        have hsm2 : rSm S (sp S1 51 (S1.1 51 - 1)) [49, 51] [48, 50] [] := hsm.sp (by decide)
        have hdec : ∀ (z : Int), z + 1 ≤ w e + wsm (ew w) Q → z < wsm (ew w) (e :: Q) := fun z hz => by
          show z < ew w e + wsm (ew w) Q
          rw [hE]
          omega
        rcases hnd with ⟨k0, t1, t2, t3⟩ | ⟨k0, r1, r2, r3⟩ | ⟨k0, a1, a2, r1, r2⟩
        · -- a test
          have hw' : tW S1 (gd (S.2.1 13) e) = tW S (gd (S.2.1 13) e) := by
            unfold tW
            rw [hsm.2.1 18 (by decide), hsm.2.1 19 (by decide), hsm.2.1 20 (by decide), hsm.2.1 24 (by decide)]
          have hts : tsOk S1 s (gd (S.2.1 26) s) (gd (S.2.1 13) e) := by
            have := p8 _ t1 t2
            unfold tsOk at this ⊢
            rw [hsm.2.1 17 (by decide), hsm.2.1 18 (by decide), hsm.2.1 19 (by decide), hsm.2.1 20 (by decide)]
            exact this
          have hws : ∀ v : Int, 64 * s ≤ v → v < 64 * s + gd (S.2.1 26) s → 0 ≤ gd (S1.2.1 24) v ∧ gd (S1.2.1 24) v ≤ 11 := by
            rw [hsm.2.1 24 (by decide)]
            exact p9
          have hn1 : nmOk S1 := hn.sm hsm (by decide) (by decide)
          refine x_aload_n d_Mo_print_20 rfl rfl ?_
          refine x_get xf_Mo_361_Mo (Or.inl hR.1) (v := .int (zI (S1.1 51))) rfl d_Mo_print_21 ?_
          have hb21 : inR (S1.1 51) := hR.2.2.2 51
          refine z_if_le (tgt := 251) d_Mo_print_24 (by decide) (by omega) (fun hq => by omega) (fun _ => ?_)
          refine x_aload_n d_Mo_print_27 rfl rfl ?_
          refine x_dup d_Mo_print_28 rfl ?_
          refine x_get xf_Mo_361_Mo (Or.inl hR.1) (v := .int (zI (S1.1 51))) rfl d_Mo_print_29 ?_
          have hb29 : inR (S1.1 51) := hR.2.2.2 51
          refine x_iconst (v := zI 1) d_Mo_print_32 (by decide) ?_
          refine z_isub d_Mo_print_33 ?_
          refine r_put xf_Mo_361_Mo xp_Mo_51 hR hX (by omega) rfl rfl d_Mo_print_34 ?_
          intro h hR hX
          refine x_aload_n d_Mo_print_37 rfl rfl ?_
          refine x_get xf_Mo_118_Mo (Or.inl hR.1) (v := .ref (rf 50)) rfl d_Mo_print_38 ?_
          refine x_aload_n d_Mo_print_41 rfl rfl ?_
          refine x_get xf_Mo_361_Mo (Or.inl hR.1) (v := .int (zI ((S1.1 51) - 1))) rfl d_Mo_print_42 ?_
          have hb42 : inR ((S1.1 51) - 1) := hR.2.2.2 51
          refine r_iald (i := 50) (us := (S1.2.1 50)) rfl (by decide) hR rfl (by omega) (by show S1.1 51 - 1 < 600; omega) d_Mo_print_45 (fun hr45 => ?_)
          rw [htop]
          refine x_istore_n (L' := [_, _, _, _]) d_Mo_print_46 rfl rfl ?_
          refine x_iload_n d_Mo_print_47 rfl ?_
          refine z_if_ge (tgt := 55) d_Mo_print_48 (by decide) (by omega) (fun _ => ?_) (fun hq => by omega)
          refine x_aload_n d_Mo_print_55 rfl rfl ?_
          refine x_get xf_Mo_36_Mo (Or.inl hR.1) (v := .ref (rf 12)) rfl d_Mo_print_56 ?_
          refine x_iload_n d_Mo_print_59 rfl ?_
          refine r_iald (i := 12) (us := (S1.2.1 12)) rfl (by decide) hR rfl (by omega) (by show e < 1152; omega) d_Mo_print_60 (fun hr60 => ?_)
          rw [g12, k0]
          refine x_istore_n (L' := [_, _, _, _]) d_Mo_print_61 rfl rfl ?_
          refine x_iload_n d_Mo_print_62 rfl ?_
          refine z_if_ge (tgt := 100) d_Mo_print_63 (by decide) (by omega) (fun _ => ?_) (fun hq => by omega)
          refine x_iload_n d_Mo_print_100 rfl ?_
          refine z_if_ne (tgt := 117) d_Mo_print_101 (by decide) (by omega) (fun hq => by omega) (fun _ => ?_)
          refine x_aload_n d_Mo_print_104 rfl rfl ?_
          refine x_aload_n d_Mo_print_105 rfl rfl ?_
          refine x_get xf_Mo_39_Mo (Or.inl hR.1) (v := .ref (rf 13)) rfl d_Mo_print_106 ?_
          refine x_iload_n d_Mo_print_109 rfl ?_
          refine r_iald (i := 13) (us := (S1.2.1 13)) rfl (by decide) hR rfl (by omega) (by show e < 1152; omega) d_Mo_print_110 (fun hr110 => ?_)
          rw [g13]
          refine x_callV (As := [_]) (k := k_MarkerTextModel) rfl xcv_Mo_371_Mo (Or.inl hR.1) (RM.ap hR (r_printTest (S := sp S1 51 (S1.1 51 - 1)) (s := s) (V := gd (S.2.1 26) s) (by omega) (by exact hn1) hs (by omega) p6 (by exact hts) (by exact hws) (by show 0 ≤ S1.1 49 ∧ S1.1 49 + tW S1 (gd (S.2.1 13) e) ≤ 1000; rw [hw']; omega))) rfl rfl (Nat.le_of_ble_eq_true rfl) d_Mo_print_111 ?_
          rintro v111 h cq nq ⟨S111, hR, hX111, rfl, rfl, us9, p9, rfl, rfl, ha9, hb9⟩
          replace hX := hX.tr hX111
          refine x_goto (tgt := 248) d_Mo_print_114 (by decide) ?_
          refine x_goto (tgt := 20) d_Mo_print_248 (by decide) ?_
          exact sg us9 p9 ha9 (by have hb' : p9 ≤ S1.1 49 + tW S1 (gd (S.2.1 13) e) := hb9; rw [hw'] at hb'; omega) _ _ _ hR hX
        · -- not
          have hEr := ewn _ r1
          have hwr := hew _ (Or.inr (Or.inr (Or.inr (Or.inr ⟨r1, by omega⟩))))
          have kk : ∀ (S3 : MS) (b : Int) (us : List Int) (p : Int), S1.1 49 ≤ p → p ≤ S1.1 49 + 4 → lnQ (PS (sp S1 51 (S1.1 51 - 1)) us p) Q (gd (S.2.1 14) e) b none S3 → ∀ w2 w3, RX l G M_Mo_print (d + 1) 20 [some (.ref o), some (.int (zI s)), w2, w3] [] H0 o rf c n S3 (pnQ S) := by
            intro S3 b us p b1 b2 hq w2 w3
            obtain ⟨-, y1, y2⟩ := hq
            have f49 : S3.1 49 = p := y2.1 49 (by decide)
            have hsm3 : rSm S S3 [49, 51] [48, 50] [] := ((hsm2.sa (by decide)).sp (by decide)).tr (y2.mono (by decide) (by decide) (by decide))
            by_cases hb : b = 0
            · rw [if_pos hb] at y1
              refine nx S3 _ w2 w3 ⟨hsm3, y1, fun x hx => ?_, by omega, ?_⟩ (hdec _ ?_)
              · rcases List.mem_cons.mp hx with rfl | hx
                · exact Or.inr (Or.inr (Or.inr (Or.inr ⟨r1, by omega⟩)))
                · exact hQ' x hx
              · show S3.1 49 + (ew w _ + wsm (ew w) Q) ≤ 560
                rw [hEr]; omega
              · show ew w _ + wsm (ew w) Q + 1 ≤ _
                rw [hEr]; omega
            · rw [if_neg hb] at y1
              refine nx S3 _ w2 w3 ⟨hsm3, y1, fun x hx => ?_, by omega, ?_⟩ (hdec _ ?_)
              · rcases List.mem_cons.mp hx with rfl | hx
                · exact Or.inr (Or.inr (Or.inl rfl))
                rcases List.mem_cons.mp hx with rfl | hx
                · exact Or.inr (Or.inr (Or.inr (Or.inr ⟨r1, by omega⟩)))
                rcases List.mem_cons.mp hx with rfl | hx
                · exact Or.inr (Or.inr (Or.inr (Or.inl rfl)))
                · exact hQ' x hx
              · show S3.1 49 + (1 + (ew w _ + (1 + wsm (ew w) Q))) ≤ 560
                rw [hEr]; omega
              · show 1 + (ew w _ + (1 + wsm (ew w) Q)) + 1 ≤ _
                rw [hEr]; omega
          refine x_aload_n d_Mo_print_20 rfl rfl ?_
          refine x_get xf_Mo_361_Mo (Or.inl hR.1) (v := .int (zI (S1.1 51))) rfl d_Mo_print_21 ?_
          have hb21 : inR (S1.1 51) := hR.2.2.2 51
          refine z_if_le (tgt := 251) d_Mo_print_24 (by decide) (by omega) (fun hq => by omega) (fun _ => ?_)
          refine x_aload_n d_Mo_print_27 rfl rfl ?_
          refine x_dup d_Mo_print_28 rfl ?_
          refine x_get xf_Mo_361_Mo (Or.inl hR.1) (v := .int (zI (S1.1 51))) rfl d_Mo_print_29 ?_
          have hb29 : inR (S1.1 51) := hR.2.2.2 51
          refine x_iconst (v := zI 1) d_Mo_print_32 (by decide) ?_
          refine z_isub d_Mo_print_33 ?_
          refine r_put xf_Mo_361_Mo xp_Mo_51 hR hX (by omega) rfl rfl d_Mo_print_34 ?_
          intro h hR hX
          refine x_aload_n d_Mo_print_37 rfl rfl ?_
          refine x_get xf_Mo_118_Mo (Or.inl hR.1) (v := .ref (rf 50)) rfl d_Mo_print_38 ?_
          refine x_aload_n d_Mo_print_41 rfl rfl ?_
          refine x_get xf_Mo_361_Mo (Or.inl hR.1) (v := .int (zI ((S1.1 51) - 1))) rfl d_Mo_print_42 ?_
          have hb42 : inR ((S1.1 51) - 1) := hR.2.2.2 51
          refine r_iald (i := 50) (us := (S1.2.1 50)) rfl (by decide) hR rfl (by omega) (by show S1.1 51 - 1 < 600; omega) d_Mo_print_45 (fun hr45 => ?_)
          rw [htop]
          refine x_istore_n (L' := [_, _, _, _]) d_Mo_print_46 rfl rfl ?_
          refine x_iload_n d_Mo_print_47 rfl ?_
          refine z_if_ge (tgt := 55) d_Mo_print_48 (by decide) (by omega) (fun _ => ?_) (fun hq => by omega)
          refine x_aload_n d_Mo_print_55 rfl rfl ?_
          refine x_get xf_Mo_36_Mo (Or.inl hR.1) (v := .ref (rf 12)) rfl d_Mo_print_56 ?_
          refine x_iload_n d_Mo_print_59 rfl ?_
          refine r_iald (i := 12) (us := (S1.2.1 12)) rfl (by decide) hR rfl (by omega) (by show e < 1152; omega) d_Mo_print_60 (fun hr60 => ?_)
          rw [g12, k0]
          refine x_istore_n (L' := [_, _, _, _]) d_Mo_print_61 rfl rfl ?_
          refine x_iload_n d_Mo_print_62 rfl ?_
          refine z_if_ge (tgt := 100) d_Mo_print_63 (by decide) (by omega) (fun _ => ?_) (fun hq => by omega)
          refine x_iload_n d_Mo_print_100 rfl ?_
          refine z_if_ne (tgt := 117) d_Mo_print_101 (by decide) (by omega) (fun _ => ?_) (fun hq => by omega)
          refine x_iload_n d_Mo_print_117 rfl ?_
          refine x_iconst (v := zI 1) d_Mo_print_118 (by decide) ?_
          refine z_icmp_ne (tgt := 162) d_Mo_print_119 (by decide) (by omega) (by omega) (fun hq => by omega) (fun _ => ?_)
          refine x_aload_n d_Mo_print_122 rfl rfl ?_
          refine x_ldc2 (v := 544501614) xw_1596 d_Mo_print_123 ?_
          refine x_callV (As := [_]) (k := k_MarkerTextModel) rfl xcv_Mo_349_Mo (Or.inl hR.1) (RM.ap hR (r_putAll (S := sp S1 51 (S1.1 51 - 1)) (k := 4) (by omega) (by decide +kernel) (by show 0 ≤ S1.1 49 ∧ S1.1 49 + 4 ≤ 1000; omega))) rfl rfl (Nat.le_of_ble_eq_true rfl) d_Mo_print_126 ?_
          rintro v126 h cq nq ⟨S126, hR, hX126, rfl, rfl, us9, p9, rfl, rfl, ha9, hb9⟩
          replace hX := hX.tr hX126
          refine x_aload_n d_Mo_print_129 rfl rfl ?_
          refine x_aload_n d_Mo_print_130 rfl rfl ?_
          refine x_get xf_Mo_42_Mo (Or.inl hR.1) (v := .ref (rf 14)) rfl d_Mo_print_131 ?_
          refine x_iload_n d_Mo_print_134 rfl ?_
          refine r_iald (i := 14) (us := (S1.2.1 14)) rfl (by decide) hR rfl (by omega) (by show e < 1152; omega) d_Mo_print_135 (fun hr135 => ?_)
          rw [g14]
          refine x_aload_n d_Mo_print_136 rfl rfl ?_
          refine x_get xf_Mo_36_Mo (Or.inl hR.1) (v := .ref (rf 12)) rfl d_Mo_print_137 ?_
          refine x_aload_n d_Mo_print_140 rfl rfl ?_
          refine x_get xf_Mo_42_Mo (Or.inl hR.1) (v := .ref (rf 14)) rfl d_Mo_print_141 ?_
          refine x_iload_n d_Mo_print_144 rfl ?_
          refine r_iald (i := 14) (us := (S1.2.1 14)) rfl (by decide) hR rfl (by omega) (by show e < 1152; omega) d_Mo_print_145 (fun hr145 => ?_)
          rw [g14]
          refine r_iald (i := 12) (us := (S1.2.1 12)) rfl (by decide) hR rfl (by omega) (by show gd (S.2.1 14) e < 1152; omega) d_Mo_print_146 (fun hr146 => ?_)
          refine x_iconst (v := zI 2) d_Mo_print_147 (by decide) ?_
          refine z_icmp_lt (tgt := 155) d_Mo_print_148 (by decide) (by omega) (by omega) (fun hc148 => ?_) (fun hc148 => ?_)
          · refine x_iconst (v := zI 0) d_Mo_print_155 (by decide) ?_
            refine x_callV (As := [_, _]) (k := k_MarkerTextModel) rfl xcv_Mo_376_Mo (Or.inl hR.1) (RM.ap hR (r_laterNode (S := PS (sp S1 51 (S1.1 51 - 1)) us9 p9) (Q := Q) (by omega) (by omega) (by omega) hT2 (by omega))) rfl rfl (Nat.le_of_ble_eq_true rfl) d_Mo_print_156 ?_
            rintro v156 h cq nq ⟨S156, hR, hX156, rfl, rfl, rfl, hq156⟩
            replace hX := hX.tr hX156
            refine x_goto (tgt := 248) d_Mo_print_159 (by decide) ?_
            refine x_goto (tgt := 20) d_Mo_print_248 (by decide) ?_
            exact kk _ _ us9 p9 ha9 hb9 ⟨rfl, hq156⟩ _ _ _ hR hX
          · refine x_iconst (v := zI 1) d_Mo_print_151 (by decide) ?_
            refine x_goto (tgt := 156) d_Mo_print_152 (by decide) ?_
            refine x_callV (As := [_, _]) (k := k_MarkerTextModel) rfl xcv_Mo_376_Mo (Or.inl hR.1) (RM.ap hR (r_laterNode (S := PS (sp S1 51 (S1.1 51 - 1)) us9 p9) (Q := Q) (by omega) (by omega) (by omega) hT2 (by omega))) rfl rfl (Nat.le_of_ble_eq_true rfl) d_Mo_print_156 ?_
            rintro v156 h cq nq ⟨S156, hR, hX156, rfl, rfl, rfl, hq156⟩
            replace hX := hX.tr hX156
            refine x_goto (tgt := 248) d_Mo_print_159 (by decide) ?_
            refine x_goto (tgt := 20) d_Mo_print_248 (by decide) ?_
            exact kk _ _ us9 p9 ha9 hb9 ⟨rfl, hq156⟩ _ _ _ hR hX
        · -- and, or
          have hEr := ewn _ r1
          have hEl := ewn _ a1
          have hwr := hew _ (Or.inr (Or.inr (Or.inr (Or.inr ⟨r1, by omega⟩))))
          have hwl := hew _ (Or.inr (Or.inr (Or.inr (Or.inr ⟨a1, by omega⟩))))
          rcases k0 with ⟨k0, hw0⟩ | ⟨k0, hw0⟩
          · refine x_aload_n d_Mo_print_20 rfl rfl ?_
            refine x_get xf_Mo_361_Mo (Or.inl hR.1) (v := .int (zI (S1.1 51))) rfl d_Mo_print_21 ?_
            have hb21 : inR (S1.1 51) := hR.2.2.2 51
            refine z_if_le (tgt := 251) d_Mo_print_24 (by decide) (by omega) (fun hq => by omega) (fun _ => ?_)
            refine x_aload_n d_Mo_print_27 rfl rfl ?_
            refine x_dup d_Mo_print_28 rfl ?_
            refine x_get xf_Mo_361_Mo (Or.inl hR.1) (v := .int (zI (S1.1 51))) rfl d_Mo_print_29 ?_
            have hb29 : inR (S1.1 51) := hR.2.2.2 51
            refine x_iconst (v := zI 1) d_Mo_print_32 (by decide) ?_
            refine z_isub d_Mo_print_33 ?_
            refine r_put xf_Mo_361_Mo xp_Mo_51 hR hX (by omega) rfl rfl d_Mo_print_34 ?_
            intro h hR hX
            refine x_aload_n d_Mo_print_37 rfl rfl ?_
            refine x_get xf_Mo_118_Mo (Or.inl hR.1) (v := .ref (rf 50)) rfl d_Mo_print_38 ?_
            refine x_aload_n d_Mo_print_41 rfl rfl ?_
            refine x_get xf_Mo_361_Mo (Or.inl hR.1) (v := .int (zI ((S1.1 51) - 1))) rfl d_Mo_print_42 ?_
            have hb42 : inR ((S1.1 51) - 1) := hR.2.2.2 51
            refine r_iald (i := 50) (us := (S1.2.1 50)) rfl (by decide) hR rfl (by omega) (by show S1.1 51 - 1 < 600; omega) d_Mo_print_45 (fun hr45 => ?_)
            rw [htop]
            refine x_istore_n (L' := [_, _, _, _]) d_Mo_print_46 rfl rfl ?_
            refine x_iload_n d_Mo_print_47 rfl ?_
            refine z_if_ge (tgt := 55) d_Mo_print_48 (by decide) (by omega) (fun _ => ?_) (fun hq => by omega)
            refine x_aload_n d_Mo_print_55 rfl rfl ?_
            refine x_get xf_Mo_36_Mo (Or.inl hR.1) (v := .ref (rf 12)) rfl d_Mo_print_56 ?_
            refine x_iload_n d_Mo_print_59 rfl ?_
            refine r_iald (i := 12) (us := (S1.2.1 12)) rfl (by decide) hR rfl (by omega) (by show e < 1152; omega) d_Mo_print_60 (fun hr60 => ?_)
            rw [g12, k0]
            refine x_istore_n (L' := [_, _, _, _]) d_Mo_print_61 rfl rfl ?_
            refine x_iload_n d_Mo_print_62 rfl ?_
            refine z_if_ge (tgt := 100) d_Mo_print_63 (by decide) (by omega) (fun _ => ?_) (fun hq => by omega)
            refine x_iload_n d_Mo_print_100 rfl ?_
            refine z_if_ne (tgt := 117) d_Mo_print_101 (by decide) (by omega) (fun _ => ?_) (fun hq => by omega)
            refine x_iload_n d_Mo_print_117 rfl ?_
            refine x_iconst (v := zI 1) d_Mo_print_118 (by decide) ?_
            refine z_icmp_ne (tgt := 162) d_Mo_print_119 (by decide) (by omega) (by omega) (fun _ => ?_) (fun hq => by omega)
            refine x_aload_n d_Mo_print_162 rfl rfl ?_
            refine x_aload_n d_Mo_print_163 rfl rfl ?_
            refine x_get xf_Mo_42_Mo (Or.inl hR.1) (v := .ref (rf 14)) rfl d_Mo_print_164 ?_
            refine x_iload_n d_Mo_print_167 rfl ?_
            refine r_iald (i := 14) (us := (S1.2.1 14)) rfl (by decide) hR rfl (by omega) (by show e < 1152; omega) d_Mo_print_168 (fun hr168 => ?_)
            rw [g14]
            refine x_aload_n d_Mo_print_169 rfl rfl ?_
            refine x_get xf_Mo_36_Mo (Or.inl hR.1) (v := .ref (rf 12)) rfl d_Mo_print_170 ?_
            refine x_aload_n d_Mo_print_173 rfl rfl ?_
            refine x_get xf_Mo_42_Mo (Or.inl hR.1) (v := .ref (rf 14)) rfl d_Mo_print_174 ?_
            refine x_iload_n d_Mo_print_177 rfl ?_
            refine r_iald (i := 14) (us := (S1.2.1 14)) rfl (by decide) hR rfl (by omega) (by show e < 1152; omega) d_Mo_print_178 (fun hr178 => ?_)
            rw [g14]
            refine r_iald (i := 12) (us := (S1.2.1 12)) rfl (by decide) hR rfl (by omega) (by show gd (S.2.1 14) e < 1152; omega) d_Mo_print_179 (fun hr179 => ?_)
            refine x_iconst (v := zI 3) d_Mo_print_180 (by decide) ?_
            refine z_icmp_eq (tgt := 199) d_Mo_print_181 (by decide) (by omega) (by omega) (fun hc181 => ?_) (fun hc181 => ?_)
            · refine x_iconst (v := zI 1) d_Mo_print_199 (by decide) ?_
              refine x_goto (tgt := 204) d_Mo_print_200 (by decide) ?_
              refine x_callV (As := [_, _]) (k := k_MarkerTextModel) rfl xcv_Mo_376_Mo (Or.inl hR.1) (RM.ap hR (r_laterNode (S := sp S1 51 (S1.1 51 - 1)) (Q := Q) (by omega) (by omega) (by omega) hT2 (by omega))) rfl rfl (Nat.le_of_ble_eq_true rfl) d_Mo_print_204 ?_
              rintro v204 h cq nq ⟨S204, hR, hX204, rfl, rfl, rfl, hT204, hsm204⟩
              replace hX := hX.tr hX204
              obtain ⟨Q1, hT204, u1, u2, u3⟩ := hln2 S204 Q _ _ hQ' r1 (by omega) hT204 (by omega)
              have l50' : (S204.2.1 50).length = 600 := hR.len 50 (by decide)
              have g12' : S204.2.1 12 = S.2.1 12 := (hsm204.2.1 12 (by decide)).trans g12
              have g13' : S204.2.1 13 = S.2.1 13 := (hsm204.2.1 13 (by decide)).trans g13
              have f49' : S204.1 49 = S1.1 49 := hsm204.1 49 (by decide)
              have e51b := hT204.2
              refine x_aload_n d_Mo_print_207 rfl rfl ?_
              refine x_iload_n d_Mo_print_208 rfl ?_
              refine z_ineg d_Mo_print_209 ?_
              have hT5 := toDo.psh (v := -2) (h := H0) hT204 l50' (by omega)
              refine x_callV (As := [_]) (k := k_MarkerTextModel) rfl xcv_Mo_364_Mo (Or.inl hR.1) (RM.ap hR (r_later (S := S204) (by decide) (by omega))) rfl rfl (Nat.le_of_ble_eq_true rfl) d_Mo_print_210 ?_
              rintro v210 h cq nq ⟨S210, hR, hX210, rfl, rfl, rfl, rfl⟩
              replace hX := hX.tr hX210
              refine x_aload_n d_Mo_print_213 rfl rfl ?_
              refine x_aload_n d_Mo_print_214 rfl rfl ?_
              refine x_get xf_Mo_39_Mo (Or.inl hR.1) (v := .ref (rf 13)) rfl d_Mo_print_215 ?_
              refine x_iload_n d_Mo_print_218 rfl ?_
              refine r_iald (i := 13) (us := (S204.2.1 13)) rfl (by decide) hR rfl (by omega) (by show e < 1152; omega) d_Mo_print_219 (fun hr219 => ?_)
              rw [g13']
              refine x_iload_n d_Mo_print_220 rfl ?_
              refine x_iconst (v := zI 2) d_Mo_print_221 (by decide) ?_
              refine z_icmp_ne (tgt := 244) d_Mo_print_222 (by decide) (by omega) (by omega) (fun hq => by omega) (fun _ => ?_)
              refine x_aload_n d_Mo_print_225 rfl rfl ?_
              refine x_get xf_Mo_36_Mo (Or.inl hR.1) (v := .ref (rf 12)) rfl d_Mo_print_226 ?_
              refine x_aload_n d_Mo_print_229 rfl rfl ?_
              refine x_get xf_Mo_39_Mo (Or.inl hR.1) (v := .ref (rf 13)) rfl d_Mo_print_230 ?_
              refine x_iload_n d_Mo_print_233 rfl ?_
              refine r_iald (i := 13) (us := (S204.2.1 13)) rfl (by decide) hR rfl (by omega) (by show e < 1152; omega) d_Mo_print_234 (fun hr234 => ?_)
              rw [g13']
              refine r_iald (i := 12) (us := (S204.2.1 12)) rfl (by decide) hR rfl (by omega) (by show gd (S.2.1 13) e < 1152; omega) d_Mo_print_235 (fun hr235 => ?_)
              refine x_iconst (v := zI 3) d_Mo_print_236 (by decide) ?_
              refine z_icmp_ne (tgt := 244) d_Mo_print_237 (by decide) (by omega) (by omega) (fun hc237 => ?_) (fun hc237 => ?_)
              · refine x_iconst (v := zI 0) d_Mo_print_244 (by decide) ?_
                refine x_callV (As := [_, _]) (k := k_MarkerTextModel) rfl xcv_Mo_376_Mo (Or.inl hR.1) (RM.ap hR (r_laterNode (S := sp (sa S204 50 (se (S204.2.1 50) (S204.1 51) (-2))) 51 (S204.1 51 + 1)) (Q := -2 :: Q1) (by omega) (by omega) (by omega) hT5 (by simp; omega))) rfl rfl (Nat.le_of_ble_eq_true rfl) d_Mo_print_245 ?_
                rintro v245 h cq nq ⟨S245, hR, hX245, rfl, rfl, rfl, hT245, hsm245⟩
                replace hX := hX.tr hX245
                refine x_goto (tgt := 20) d_Mo_print_248 (by decide) ?_
                have hz : wsm (ew w) (-2 :: Q1) = 5 + wsm (ew w) Q1 := rfl
                obtain ⟨Q3, hT245, v1, v2, v3⟩ := hln2 S245 (-2 :: Q1) _ _ (fun x hx => (List.mem_cons.mp hx).elim (fun z => by rw [z]; exact Or.inl rfl) (fun z => u1 x z)) a1 (by omega) hT245 (by omega)
                have f49b : S245.1 49 = S1.1 49 := (hsm245.1 49 (by decide)).trans f49'
                have hsm9 : rSm S S245 [49, 51] [48, 50] [] := ((hsm2.tr (hsm204.mono (by decide) (by decide) (by decide))).sa (by decide)).sp (by decide) |>.tr (hsm245.mono (by decide) (by decide) (by decide))
                exact nx S245 Q3 _ _ ⟨hsm9, hT245, v1, by omega, by omega⟩ (hdec _ (by omega)) _ hR hX
              · refine x_iconst (v := zI 1) d_Mo_print_240 (by decide) ?_
                refine x_goto (tgt := 245) d_Mo_print_241 (by decide) ?_
                refine x_callV (As := [_, _]) (k := k_MarkerTextModel) rfl xcv_Mo_376_Mo (Or.inl hR.1) (RM.ap hR (r_laterNode (S := sp (sa S204 50 (se (S204.2.1 50) (S204.1 51) (-2))) 51 (S204.1 51 + 1)) (Q := -2 :: Q1) (by omega) (by omega) (by omega) hT5 (by simp; omega))) rfl rfl (Nat.le_of_ble_eq_true rfl) d_Mo_print_245 ?_
                rintro v245 h cq nq ⟨S245, hR, hX245, rfl, rfl, rfl, hT245, hsm245⟩
                replace hX := hX.tr hX245
                refine x_goto (tgt := 20) d_Mo_print_248 (by decide) ?_
                have hz : wsm (ew w) (-2 :: Q1) = 5 + wsm (ew w) Q1 := rfl
                obtain ⟨Q3, hT245, v1, v2, v3⟩ := hln2 S245 (-2 :: Q1) _ _ (fun x hx => (List.mem_cons.mp hx).elim (fun z => by rw [z]; exact Or.inl rfl) (fun z => u1 x z)) a1 (by omega) hT245 (by omega)
                have f49b : S245.1 49 = S1.1 49 := (hsm245.1 49 (by decide)).trans f49'
                have hsm9 : rSm S S245 [49, 51] [48, 50] [] := ((hsm2.tr (hsm204.mono (by decide) (by decide) (by decide))).sa (by decide)).sp (by decide) |>.tr (hsm245.mono (by decide) (by decide) (by decide))
                exact nx S245 Q3 _ _ ⟨hsm9, hT245, v1, by omega, by omega⟩ (hdec _ (by omega)) _ hR hX
            · refine x_aload_n d_Mo_print_184 rfl rfl ?_
              refine x_get xf_Mo_36_Mo (Or.inl hR.1) (v := .ref (rf 12)) rfl d_Mo_print_185 ?_
              refine x_aload_n d_Mo_print_188 rfl rfl ?_
              refine x_get xf_Mo_42_Mo (Or.inl hR.1) (v := .ref (rf 14)) rfl d_Mo_print_189 ?_
              refine x_iload_n d_Mo_print_192 rfl ?_
              refine r_iald (i := 14) (us := (S1.2.1 14)) rfl (by decide) hR rfl (by omega) (by show e < 1152; omega) d_Mo_print_193 (fun hr193 => ?_)
              rw [g14]
              refine r_iald (i := 12) (us := (S1.2.1 12)) rfl (by decide) hR rfl (by omega) (by show gd (S.2.1 14) e < 1152; omega) d_Mo_print_194 (fun hr194 => ?_)
              refine x_iload_n d_Mo_print_195 rfl ?_
              refine z_icmp_ne (tgt := 203) d_Mo_print_196 (by decide) (by omega) (by omega) (fun hc196 => ?_) (fun hc196 => ?_)
              · refine x_iconst (v := zI 0) d_Mo_print_203 (by decide) ?_
                refine x_callV (As := [_, _]) (k := k_MarkerTextModel) rfl xcv_Mo_376_Mo (Or.inl hR.1) (RM.ap hR (r_laterNode (S := sp S1 51 (S1.1 51 - 1)) (Q := Q) (by omega) (by omega) (by omega) hT2 (by omega))) rfl rfl (Nat.le_of_ble_eq_true rfl) d_Mo_print_204 ?_
                rintro v204 h cq nq ⟨S204, hR, hX204, rfl, rfl, rfl, hT204, hsm204⟩
                replace hX := hX.tr hX204
                obtain ⟨Q1, hT204, u1, u2, u3⟩ := hln2 S204 Q _ _ hQ' r1 (by omega) hT204 (by omega)
                have l50' : (S204.2.1 50).length = 600 := hR.len 50 (by decide)
                have g12' : S204.2.1 12 = S.2.1 12 := (hsm204.2.1 12 (by decide)).trans g12
                have g13' : S204.2.1 13 = S.2.1 13 := (hsm204.2.1 13 (by decide)).trans g13
                have f49' : S204.1 49 = S1.1 49 := hsm204.1 49 (by decide)
                have e51b := hT204.2
                refine x_aload_n d_Mo_print_207 rfl rfl ?_
                refine x_iload_n d_Mo_print_208 rfl ?_
                refine z_ineg d_Mo_print_209 ?_
                have hT5 := toDo.psh (v := -2) (h := H0) hT204 l50' (by omega)
                refine x_callV (As := [_]) (k := k_MarkerTextModel) rfl xcv_Mo_364_Mo (Or.inl hR.1) (RM.ap hR (r_later (S := S204) (by decide) (by omega))) rfl rfl (Nat.le_of_ble_eq_true rfl) d_Mo_print_210 ?_
                rintro v210 h cq nq ⟨S210, hR, hX210, rfl, rfl, rfl, rfl⟩
                replace hX := hX.tr hX210
                refine x_aload_n d_Mo_print_213 rfl rfl ?_
                refine x_aload_n d_Mo_print_214 rfl rfl ?_
                refine x_get xf_Mo_39_Mo (Or.inl hR.1) (v := .ref (rf 13)) rfl d_Mo_print_215 ?_
                refine x_iload_n d_Mo_print_218 rfl ?_
                refine r_iald (i := 13) (us := (S204.2.1 13)) rfl (by decide) hR rfl (by omega) (by show e < 1152; omega) d_Mo_print_219 (fun hr219 => ?_)
                rw [g13']
                refine x_iload_n d_Mo_print_220 rfl ?_
                refine x_iconst (v := zI 2) d_Mo_print_221 (by decide) ?_
                refine z_icmp_ne (tgt := 244) d_Mo_print_222 (by decide) (by omega) (by omega) (fun hq => by omega) (fun _ => ?_)
                refine x_aload_n d_Mo_print_225 rfl rfl ?_
                refine x_get xf_Mo_36_Mo (Or.inl hR.1) (v := .ref (rf 12)) rfl d_Mo_print_226 ?_
                refine x_aload_n d_Mo_print_229 rfl rfl ?_
                refine x_get xf_Mo_39_Mo (Or.inl hR.1) (v := .ref (rf 13)) rfl d_Mo_print_230 ?_
                refine x_iload_n d_Mo_print_233 rfl ?_
                refine r_iald (i := 13) (us := (S204.2.1 13)) rfl (by decide) hR rfl (by omega) (by show e < 1152; omega) d_Mo_print_234 (fun hr234 => ?_)
                rw [g13']
                refine r_iald (i := 12) (us := (S204.2.1 12)) rfl (by decide) hR rfl (by omega) (by show gd (S.2.1 13) e < 1152; omega) d_Mo_print_235 (fun hr235 => ?_)
                refine x_iconst (v := zI 3) d_Mo_print_236 (by decide) ?_
                refine z_icmp_ne (tgt := 244) d_Mo_print_237 (by decide) (by omega) (by omega) (fun hc237 => ?_) (fun hc237 => ?_)
                · refine x_iconst (v := zI 0) d_Mo_print_244 (by decide) ?_
                  refine x_callV (As := [_, _]) (k := k_MarkerTextModel) rfl xcv_Mo_376_Mo (Or.inl hR.1) (RM.ap hR (r_laterNode (S := sp (sa S204 50 (se (S204.2.1 50) (S204.1 51) (-2))) 51 (S204.1 51 + 1)) (Q := -2 :: Q1) (by omega) (by omega) (by omega) hT5 (by simp; omega))) rfl rfl (Nat.le_of_ble_eq_true rfl) d_Mo_print_245 ?_
                  rintro v245 h cq nq ⟨S245, hR, hX245, rfl, rfl, rfl, hT245, hsm245⟩
                  replace hX := hX.tr hX245
                  refine x_goto (tgt := 20) d_Mo_print_248 (by decide) ?_
                  have hz : wsm (ew w) (-2 :: Q1) = 5 + wsm (ew w) Q1 := rfl
                  obtain ⟨Q3, hT245, v1, v2, v3⟩ := hln2 S245 (-2 :: Q1) _ _ (fun x hx => (List.mem_cons.mp hx).elim (fun z => by rw [z]; exact Or.inl rfl) (fun z => u1 x z)) a1 (by omega) hT245 (by omega)
                  have f49b : S245.1 49 = S1.1 49 := (hsm245.1 49 (by decide)).trans f49'
                  have hsm9 : rSm S S245 [49, 51] [48, 50] [] := ((hsm2.tr (hsm204.mono (by decide) (by decide) (by decide))).sa (by decide)).sp (by decide) |>.tr (hsm245.mono (by decide) (by decide) (by decide))
                  exact nx S245 Q3 _ _ ⟨hsm9, hT245, v1, by omega, by omega⟩ (hdec _ (by omega)) _ hR hX
                · refine x_iconst (v := zI 1) d_Mo_print_240 (by decide) ?_
                  refine x_goto (tgt := 245) d_Mo_print_241 (by decide) ?_
                  refine x_callV (As := [_, _]) (k := k_MarkerTextModel) rfl xcv_Mo_376_Mo (Or.inl hR.1) (RM.ap hR (r_laterNode (S := sp (sa S204 50 (se (S204.2.1 50) (S204.1 51) (-2))) 51 (S204.1 51 + 1)) (Q := -2 :: Q1) (by omega) (by omega) (by omega) hT5 (by simp; omega))) rfl rfl (Nat.le_of_ble_eq_true rfl) d_Mo_print_245 ?_
                  rintro v245 h cq nq ⟨S245, hR, hX245, rfl, rfl, rfl, hT245, hsm245⟩
                  replace hX := hX.tr hX245
                  refine x_goto (tgt := 20) d_Mo_print_248 (by decide) ?_
                  have hz : wsm (ew w) (-2 :: Q1) = 5 + wsm (ew w) Q1 := rfl
                  obtain ⟨Q3, hT245, v1, v2, v3⟩ := hln2 S245 (-2 :: Q1) _ _ (fun x hx => (List.mem_cons.mp hx).elim (fun z => by rw [z]; exact Or.inl rfl) (fun z => u1 x z)) a1 (by omega) hT245 (by omega)
                  have f49b : S245.1 49 = S1.1 49 := (hsm245.1 49 (by decide)).trans f49'
                  have hsm9 : rSm S S245 [49, 51] [48, 50] [] := ((hsm2.tr (hsm204.mono (by decide) (by decide) (by decide))).sa (by decide)).sp (by decide) |>.tr (hsm245.mono (by decide) (by decide) (by decide))
                  exact nx S245 Q3 _ _ ⟨hsm9, hT245, v1, by omega, by omega⟩ (hdec _ (by omega)) _ hR hX
              · refine x_iconst (v := zI 1) d_Mo_print_199 (by decide) ?_
                refine x_goto (tgt := 204) d_Mo_print_200 (by decide) ?_
                refine x_callV (As := [_, _]) (k := k_MarkerTextModel) rfl xcv_Mo_376_Mo (Or.inl hR.1) (RM.ap hR (r_laterNode (S := sp S1 51 (S1.1 51 - 1)) (Q := Q) (by omega) (by omega) (by omega) hT2 (by omega))) rfl rfl (Nat.le_of_ble_eq_true rfl) d_Mo_print_204 ?_
                rintro v204 h cq nq ⟨S204, hR, hX204, rfl, rfl, rfl, hT204, hsm204⟩
                replace hX := hX.tr hX204
                obtain ⟨Q1, hT204, u1, u2, u3⟩ := hln2 S204 Q _ _ hQ' r1 (by omega) hT204 (by omega)
                have l50' : (S204.2.1 50).length = 600 := hR.len 50 (by decide)
                have g12' : S204.2.1 12 = S.2.1 12 := (hsm204.2.1 12 (by decide)).trans g12
                have g13' : S204.2.1 13 = S.2.1 13 := (hsm204.2.1 13 (by decide)).trans g13
                have f49' : S204.1 49 = S1.1 49 := hsm204.1 49 (by decide)
                have e51b := hT204.2
                refine x_aload_n d_Mo_print_207 rfl rfl ?_
                refine x_iload_n d_Mo_print_208 rfl ?_
                refine z_ineg d_Mo_print_209 ?_
                have hT5 := toDo.psh (v := -2) (h := H0) hT204 l50' (by omega)
                refine x_callV (As := [_]) (k := k_MarkerTextModel) rfl xcv_Mo_364_Mo (Or.inl hR.1) (RM.ap hR (r_later (S := S204) (by decide) (by omega))) rfl rfl (Nat.le_of_ble_eq_true rfl) d_Mo_print_210 ?_
                rintro v210 h cq nq ⟨S210, hR, hX210, rfl, rfl, rfl, rfl⟩
                replace hX := hX.tr hX210
                refine x_aload_n d_Mo_print_213 rfl rfl ?_
                refine x_aload_n d_Mo_print_214 rfl rfl ?_
                refine x_get xf_Mo_39_Mo (Or.inl hR.1) (v := .ref (rf 13)) rfl d_Mo_print_215 ?_
                refine x_iload_n d_Mo_print_218 rfl ?_
                refine r_iald (i := 13) (us := (S204.2.1 13)) rfl (by decide) hR rfl (by omega) (by show e < 1152; omega) d_Mo_print_219 (fun hr219 => ?_)
                rw [g13']
                refine x_iload_n d_Mo_print_220 rfl ?_
                refine x_iconst (v := zI 2) d_Mo_print_221 (by decide) ?_
                refine z_icmp_ne (tgt := 244) d_Mo_print_222 (by decide) (by omega) (by omega) (fun hq => by omega) (fun _ => ?_)
                refine x_aload_n d_Mo_print_225 rfl rfl ?_
                refine x_get xf_Mo_36_Mo (Or.inl hR.1) (v := .ref (rf 12)) rfl d_Mo_print_226 ?_
                refine x_aload_n d_Mo_print_229 rfl rfl ?_
                refine x_get xf_Mo_39_Mo (Or.inl hR.1) (v := .ref (rf 13)) rfl d_Mo_print_230 ?_
                refine x_iload_n d_Mo_print_233 rfl ?_
                refine r_iald (i := 13) (us := (S204.2.1 13)) rfl (by decide) hR rfl (by omega) (by show e < 1152; omega) d_Mo_print_234 (fun hr234 => ?_)
                rw [g13']
                refine r_iald (i := 12) (us := (S204.2.1 12)) rfl (by decide) hR rfl (by omega) (by show gd (S.2.1 13) e < 1152; omega) d_Mo_print_235 (fun hr235 => ?_)
                refine x_iconst (v := zI 3) d_Mo_print_236 (by decide) ?_
                refine z_icmp_ne (tgt := 244) d_Mo_print_237 (by decide) (by omega) (by omega) (fun hc237 => ?_) (fun hc237 => ?_)
                · refine x_iconst (v := zI 0) d_Mo_print_244 (by decide) ?_
                  refine x_callV (As := [_, _]) (k := k_MarkerTextModel) rfl xcv_Mo_376_Mo (Or.inl hR.1) (RM.ap hR (r_laterNode (S := sp (sa S204 50 (se (S204.2.1 50) (S204.1 51) (-2))) 51 (S204.1 51 + 1)) (Q := -2 :: Q1) (by omega) (by omega) (by omega) hT5 (by simp; omega))) rfl rfl (Nat.le_of_ble_eq_true rfl) d_Mo_print_245 ?_
                  rintro v245 h cq nq ⟨S245, hR, hX245, rfl, rfl, rfl, hT245, hsm245⟩
                  replace hX := hX.tr hX245
                  refine x_goto (tgt := 20) d_Mo_print_248 (by decide) ?_
                  have hz : wsm (ew w) (-2 :: Q1) = 5 + wsm (ew w) Q1 := rfl
                  obtain ⟨Q3, hT245, v1, v2, v3⟩ := hln2 S245 (-2 :: Q1) _ _ (fun x hx => (List.mem_cons.mp hx).elim (fun z => by rw [z]; exact Or.inl rfl) (fun z => u1 x z)) a1 (by omega) hT245 (by omega)
                  have f49b : S245.1 49 = S1.1 49 := (hsm245.1 49 (by decide)).trans f49'
                  have hsm9 : rSm S S245 [49, 51] [48, 50] [] := ((hsm2.tr (hsm204.mono (by decide) (by decide) (by decide))).sa (by decide)).sp (by decide) |>.tr (hsm245.mono (by decide) (by decide) (by decide))
                  exact nx S245 Q3 _ _ ⟨hsm9, hT245, v1, by omega, by omega⟩ (hdec _ (by omega)) _ hR hX
                · refine x_iconst (v := zI 1) d_Mo_print_240 (by decide) ?_
                  refine x_goto (tgt := 245) d_Mo_print_241 (by decide) ?_
                  refine x_callV (As := [_, _]) (k := k_MarkerTextModel) rfl xcv_Mo_376_Mo (Or.inl hR.1) (RM.ap hR (r_laterNode (S := sp (sa S204 50 (se (S204.2.1 50) (S204.1 51) (-2))) 51 (S204.1 51 + 1)) (Q := -2 :: Q1) (by omega) (by omega) (by omega) hT5 (by simp; omega))) rfl rfl (Nat.le_of_ble_eq_true rfl) d_Mo_print_245 ?_
                  rintro v245 h cq nq ⟨S245, hR, hX245, rfl, rfl, rfl, hT245, hsm245⟩
                  replace hX := hX.tr hX245
                  refine x_goto (tgt := 20) d_Mo_print_248 (by decide) ?_
                  have hz : wsm (ew w) (-2 :: Q1) = 5 + wsm (ew w) Q1 := rfl
                  obtain ⟨Q3, hT245, v1, v2, v3⟩ := hln2 S245 (-2 :: Q1) _ _ (fun x hx => (List.mem_cons.mp hx).elim (fun z => by rw [z]; exact Or.inl rfl) (fun z => u1 x z)) a1 (by omega) hT245 (by omega)
                  have f49b : S245.1 49 = S1.1 49 := (hsm245.1 49 (by decide)).trans f49'
                  have hsm9 : rSm S S245 [49, 51] [48, 50] [] := ((hsm2.tr (hsm204.mono (by decide) (by decide) (by decide))).sa (by decide)).sp (by decide) |>.tr (hsm245.mono (by decide) (by decide) (by decide))
                  exact nx S245 Q3 _ _ ⟨hsm9, hT245, v1, by omega, by omega⟩ (hdec _ (by omega)) _ hR hX
          · refine x_aload_n d_Mo_print_20 rfl rfl ?_
            refine x_get xf_Mo_361_Mo (Or.inl hR.1) (v := .int (zI (S1.1 51))) rfl d_Mo_print_21 ?_
            have hb21 : inR (S1.1 51) := hR.2.2.2 51
            refine z_if_le (tgt := 251) d_Mo_print_24 (by decide) (by omega) (fun hq => by omega) (fun _ => ?_)
            refine x_aload_n d_Mo_print_27 rfl rfl ?_
            refine x_dup d_Mo_print_28 rfl ?_
            refine x_get xf_Mo_361_Mo (Or.inl hR.1) (v := .int (zI (S1.1 51))) rfl d_Mo_print_29 ?_
            have hb29 : inR (S1.1 51) := hR.2.2.2 51
            refine x_iconst (v := zI 1) d_Mo_print_32 (by decide) ?_
            refine z_isub d_Mo_print_33 ?_
            refine r_put xf_Mo_361_Mo xp_Mo_51 hR hX (by omega) rfl rfl d_Mo_print_34 ?_
            intro h hR hX
            refine x_aload_n d_Mo_print_37 rfl rfl ?_
            refine x_get xf_Mo_118_Mo (Or.inl hR.1) (v := .ref (rf 50)) rfl d_Mo_print_38 ?_
            refine x_aload_n d_Mo_print_41 rfl rfl ?_
            refine x_get xf_Mo_361_Mo (Or.inl hR.1) (v := .int (zI ((S1.1 51) - 1))) rfl d_Mo_print_42 ?_
            have hb42 : inR ((S1.1 51) - 1) := hR.2.2.2 51
            refine r_iald (i := 50) (us := (S1.2.1 50)) rfl (by decide) hR rfl (by omega) (by show S1.1 51 - 1 < 600; omega) d_Mo_print_45 (fun hr45 => ?_)
            rw [htop]
            refine x_istore_n (L' := [_, _, _, _]) d_Mo_print_46 rfl rfl ?_
            refine x_iload_n d_Mo_print_47 rfl ?_
            refine z_if_ge (tgt := 55) d_Mo_print_48 (by decide) (by omega) (fun _ => ?_) (fun hq => by omega)
            refine x_aload_n d_Mo_print_55 rfl rfl ?_
            refine x_get xf_Mo_36_Mo (Or.inl hR.1) (v := .ref (rf 12)) rfl d_Mo_print_56 ?_
            refine x_iload_n d_Mo_print_59 rfl ?_
            refine r_iald (i := 12) (us := (S1.2.1 12)) rfl (by decide) hR rfl (by omega) (by show e < 1152; omega) d_Mo_print_60 (fun hr60 => ?_)
            rw [g12, k0]
            refine x_istore_n (L' := [_, _, _, _]) d_Mo_print_61 rfl rfl ?_
            refine x_iload_n d_Mo_print_62 rfl ?_
            refine z_if_ge (tgt := 100) d_Mo_print_63 (by decide) (by omega) (fun _ => ?_) (fun hq => by omega)
            refine x_iload_n d_Mo_print_100 rfl ?_
            refine z_if_ne (tgt := 117) d_Mo_print_101 (by decide) (by omega) (fun _ => ?_) (fun hq => by omega)
            refine x_iload_n d_Mo_print_117 rfl ?_
            refine x_iconst (v := zI 1) d_Mo_print_118 (by decide) ?_
            refine z_icmp_ne (tgt := 162) d_Mo_print_119 (by decide) (by omega) (by omega) (fun _ => ?_) (fun hq => by omega)
            refine x_aload_n d_Mo_print_162 rfl rfl ?_
            refine x_aload_n d_Mo_print_163 rfl rfl ?_
            refine x_get xf_Mo_42_Mo (Or.inl hR.1) (v := .ref (rf 14)) rfl d_Mo_print_164 ?_
            refine x_iload_n d_Mo_print_167 rfl ?_
            refine r_iald (i := 14) (us := (S1.2.1 14)) rfl (by decide) hR rfl (by omega) (by show e < 1152; omega) d_Mo_print_168 (fun hr168 => ?_)
            rw [g14]
            refine x_aload_n d_Mo_print_169 rfl rfl ?_
            refine x_get xf_Mo_36_Mo (Or.inl hR.1) (v := .ref (rf 12)) rfl d_Mo_print_170 ?_
            refine x_aload_n d_Mo_print_173 rfl rfl ?_
            refine x_get xf_Mo_42_Mo (Or.inl hR.1) (v := .ref (rf 14)) rfl d_Mo_print_174 ?_
            refine x_iload_n d_Mo_print_177 rfl ?_
            refine r_iald (i := 14) (us := (S1.2.1 14)) rfl (by decide) hR rfl (by omega) (by show e < 1152; omega) d_Mo_print_178 (fun hr178 => ?_)
            rw [g14]
            refine r_iald (i := 12) (us := (S1.2.1 12)) rfl (by decide) hR rfl (by omega) (by show gd (S.2.1 14) e < 1152; omega) d_Mo_print_179 (fun hr179 => ?_)
            refine x_iconst (v := zI 3) d_Mo_print_180 (by decide) ?_
            refine z_icmp_eq (tgt := 199) d_Mo_print_181 (by decide) (by omega) (by omega) (fun hc181 => ?_) (fun hc181 => ?_)
            · refine x_iconst (v := zI 1) d_Mo_print_199 (by decide) ?_
              refine x_goto (tgt := 204) d_Mo_print_200 (by decide) ?_
              refine x_callV (As := [_, _]) (k := k_MarkerTextModel) rfl xcv_Mo_376_Mo (Or.inl hR.1) (RM.ap hR (r_laterNode (S := sp S1 51 (S1.1 51 - 1)) (Q := Q) (by omega) (by omega) (by omega) hT2 (by omega))) rfl rfl (Nat.le_of_ble_eq_true rfl) d_Mo_print_204 ?_
              rintro v204 h cq nq ⟨S204, hR, hX204, rfl, rfl, rfl, hT204, hsm204⟩
              replace hX := hX.tr hX204
              obtain ⟨Q1, hT204, u1, u2, u3⟩ := hln2 S204 Q _ _ hQ' r1 (by omega) hT204 (by omega)
              have l50' : (S204.2.1 50).length = 600 := hR.len 50 (by decide)
              have g12' : S204.2.1 12 = S.2.1 12 := (hsm204.2.1 12 (by decide)).trans g12
              have g13' : S204.2.1 13 = S.2.1 13 := (hsm204.2.1 13 (by decide)).trans g13
              have f49' : S204.1 49 = S1.1 49 := hsm204.1 49 (by decide)
              have e51b := hT204.2
              refine x_aload_n d_Mo_print_207 rfl rfl ?_
              refine x_iload_n d_Mo_print_208 rfl ?_
              refine z_ineg d_Mo_print_209 ?_
              have hT5 := toDo.psh (v := -3) (h := H0) hT204 l50' (by omega)
              refine x_callV (As := [_]) (k := k_MarkerTextModel) rfl xcv_Mo_364_Mo (Or.inl hR.1) (RM.ap hR (r_later (S := S204) (by decide) (by omega))) rfl rfl (Nat.le_of_ble_eq_true rfl) d_Mo_print_210 ?_
              rintro v210 h cq nq ⟨S210, hR, hX210, rfl, rfl, rfl, rfl⟩
              replace hX := hX.tr hX210
              refine x_aload_n d_Mo_print_213 rfl rfl ?_
              refine x_aload_n d_Mo_print_214 rfl rfl ?_
              refine x_get xf_Mo_39_Mo (Or.inl hR.1) (v := .ref (rf 13)) rfl d_Mo_print_215 ?_
              refine x_iload_n d_Mo_print_218 rfl ?_
              refine r_iald (i := 13) (us := (S204.2.1 13)) rfl (by decide) hR rfl (by omega) (by show e < 1152; omega) d_Mo_print_219 (fun hr219 => ?_)
              rw [g13']
              refine x_iload_n d_Mo_print_220 rfl ?_
              refine x_iconst (v := zI 2) d_Mo_print_221 (by decide) ?_
              refine z_icmp_ne (tgt := 244) d_Mo_print_222 (by decide) (by omega) (by omega) (fun _ => ?_) (fun hq => by omega)
              refine x_iconst (v := zI 0) d_Mo_print_244 (by decide) ?_
              refine x_callV (As := [_, _]) (k := k_MarkerTextModel) rfl xcv_Mo_376_Mo (Or.inl hR.1) (RM.ap hR (r_laterNode (S := sp (sa S204 50 (se (S204.2.1 50) (S204.1 51) (-3))) 51 (S204.1 51 + 1)) (Q := -3 :: Q1) (by omega) (by omega) (by omega) hT5 (by simp; omega))) rfl rfl (Nat.le_of_ble_eq_true rfl) d_Mo_print_245 ?_
              rintro v245 h cq nq ⟨S245, hR, hX245, rfl, rfl, rfl, hT245, hsm245⟩
              replace hX := hX.tr hX245
              refine x_goto (tgt := 20) d_Mo_print_248 (by decide) ?_
              have hz : wsm (ew w) (-3 :: Q1) = 4 + wsm (ew w) Q1 := rfl
              obtain ⟨Q3, hT245, v1, v2, v3⟩ := hln2 S245 (-3 :: Q1) _ _ (fun x hx => (List.mem_cons.mp hx).elim (fun z => by rw [z]; exact Or.inr (Or.inl rfl)) (fun z => u1 x z)) a1 (by omega) hT245 (by omega)
              have f49b : S245.1 49 = S1.1 49 := (hsm245.1 49 (by decide)).trans f49'
              have hsm9 : rSm S S245 [49, 51] [48, 50] [] := ((hsm2.tr (hsm204.mono (by decide) (by decide) (by decide))).sa (by decide)).sp (by decide) |>.tr (hsm245.mono (by decide) (by decide) (by decide))
              exact nx S245 Q3 _ _ ⟨hsm9, hT245, v1, by omega, by omega⟩ (hdec _ (by omega)) _ hR hX
            · refine x_aload_n d_Mo_print_184 rfl rfl ?_
              refine x_get xf_Mo_36_Mo (Or.inl hR.1) (v := .ref (rf 12)) rfl d_Mo_print_185 ?_
              refine x_aload_n d_Mo_print_188 rfl rfl ?_
              refine x_get xf_Mo_42_Mo (Or.inl hR.1) (v := .ref (rf 14)) rfl d_Mo_print_189 ?_
              refine x_iload_n d_Mo_print_192 rfl ?_
              refine r_iald (i := 14) (us := (S1.2.1 14)) rfl (by decide) hR rfl (by omega) (by show e < 1152; omega) d_Mo_print_193 (fun hr193 => ?_)
              rw [g14]
              refine r_iald (i := 12) (us := (S1.2.1 12)) rfl (by decide) hR rfl (by omega) (by show gd (S.2.1 14) e < 1152; omega) d_Mo_print_194 (fun hr194 => ?_)
              refine x_iload_n d_Mo_print_195 rfl ?_
              refine z_icmp_ne (tgt := 203) d_Mo_print_196 (by decide) (by omega) (by omega) (fun hc196 => ?_) (fun hc196 => ?_)
              · refine x_iconst (v := zI 0) d_Mo_print_203 (by decide) ?_
                refine x_callV (As := [_, _]) (k := k_MarkerTextModel) rfl xcv_Mo_376_Mo (Or.inl hR.1) (RM.ap hR (r_laterNode (S := sp S1 51 (S1.1 51 - 1)) (Q := Q) (by omega) (by omega) (by omega) hT2 (by omega))) rfl rfl (Nat.le_of_ble_eq_true rfl) d_Mo_print_204 ?_
                rintro v204 h cq nq ⟨S204, hR, hX204, rfl, rfl, rfl, hT204, hsm204⟩
                replace hX := hX.tr hX204
                obtain ⟨Q1, hT204, u1, u2, u3⟩ := hln2 S204 Q _ _ hQ' r1 (by omega) hT204 (by omega)
                have l50' : (S204.2.1 50).length = 600 := hR.len 50 (by decide)
                have g12' : S204.2.1 12 = S.2.1 12 := (hsm204.2.1 12 (by decide)).trans g12
                have g13' : S204.2.1 13 = S.2.1 13 := (hsm204.2.1 13 (by decide)).trans g13
                have f49' : S204.1 49 = S1.1 49 := hsm204.1 49 (by decide)
                have e51b := hT204.2
                refine x_aload_n d_Mo_print_207 rfl rfl ?_
                refine x_iload_n d_Mo_print_208 rfl ?_
                refine z_ineg d_Mo_print_209 ?_
                have hT5 := toDo.psh (v := -3) (h := H0) hT204 l50' (by omega)
                refine x_callV (As := [_]) (k := k_MarkerTextModel) rfl xcv_Mo_364_Mo (Or.inl hR.1) (RM.ap hR (r_later (S := S204) (by decide) (by omega))) rfl rfl (Nat.le_of_ble_eq_true rfl) d_Mo_print_210 ?_
                rintro v210 h cq nq ⟨S210, hR, hX210, rfl, rfl, rfl, rfl⟩
                replace hX := hX.tr hX210
                refine x_aload_n d_Mo_print_213 rfl rfl ?_
                refine x_aload_n d_Mo_print_214 rfl rfl ?_
                refine x_get xf_Mo_39_Mo (Or.inl hR.1) (v := .ref (rf 13)) rfl d_Mo_print_215 ?_
                refine x_iload_n d_Mo_print_218 rfl ?_
                refine r_iald (i := 13) (us := (S204.2.1 13)) rfl (by decide) hR rfl (by omega) (by show e < 1152; omega) d_Mo_print_219 (fun hr219 => ?_)
                rw [g13']
                refine x_iload_n d_Mo_print_220 rfl ?_
                refine x_iconst (v := zI 2) d_Mo_print_221 (by decide) ?_
                refine z_icmp_ne (tgt := 244) d_Mo_print_222 (by decide) (by omega) (by omega) (fun _ => ?_) (fun hq => by omega)
                refine x_iconst (v := zI 0) d_Mo_print_244 (by decide) ?_
                refine x_callV (As := [_, _]) (k := k_MarkerTextModel) rfl xcv_Mo_376_Mo (Or.inl hR.1) (RM.ap hR (r_laterNode (S := sp (sa S204 50 (se (S204.2.1 50) (S204.1 51) (-3))) 51 (S204.1 51 + 1)) (Q := -3 :: Q1) (by omega) (by omega) (by omega) hT5 (by simp; omega))) rfl rfl (Nat.le_of_ble_eq_true rfl) d_Mo_print_245 ?_
                rintro v245 h cq nq ⟨S245, hR, hX245, rfl, rfl, rfl, hT245, hsm245⟩
                replace hX := hX.tr hX245
                refine x_goto (tgt := 20) d_Mo_print_248 (by decide) ?_
                have hz : wsm (ew w) (-3 :: Q1) = 4 + wsm (ew w) Q1 := rfl
                obtain ⟨Q3, hT245, v1, v2, v3⟩ := hln2 S245 (-3 :: Q1) _ _ (fun x hx => (List.mem_cons.mp hx).elim (fun z => by rw [z]; exact Or.inr (Or.inl rfl)) (fun z => u1 x z)) a1 (by omega) hT245 (by omega)
                have f49b : S245.1 49 = S1.1 49 := (hsm245.1 49 (by decide)).trans f49'
                have hsm9 : rSm S S245 [49, 51] [48, 50] [] := ((hsm2.tr (hsm204.mono (by decide) (by decide) (by decide))).sa (by decide)).sp (by decide) |>.tr (hsm245.mono (by decide) (by decide) (by decide))
                exact nx S245 Q3 _ _ ⟨hsm9, hT245, v1, by omega, by omega⟩ (hdec _ (by omega)) _ hR hX
              · refine x_iconst (v := zI 1) d_Mo_print_199 (by decide) ?_
                refine x_goto (tgt := 204) d_Mo_print_200 (by decide) ?_
                refine x_callV (As := [_, _]) (k := k_MarkerTextModel) rfl xcv_Mo_376_Mo (Or.inl hR.1) (RM.ap hR (r_laterNode (S := sp S1 51 (S1.1 51 - 1)) (Q := Q) (by omega) (by omega) (by omega) hT2 (by omega))) rfl rfl (Nat.le_of_ble_eq_true rfl) d_Mo_print_204 ?_
                rintro v204 h cq nq ⟨S204, hR, hX204, rfl, rfl, rfl, hT204, hsm204⟩
                replace hX := hX.tr hX204
                obtain ⟨Q1, hT204, u1, u2, u3⟩ := hln2 S204 Q _ _ hQ' r1 (by omega) hT204 (by omega)
                have l50' : (S204.2.1 50).length = 600 := hR.len 50 (by decide)
                have g12' : S204.2.1 12 = S.2.1 12 := (hsm204.2.1 12 (by decide)).trans g12
                have g13' : S204.2.1 13 = S.2.1 13 := (hsm204.2.1 13 (by decide)).trans g13
                have f49' : S204.1 49 = S1.1 49 := hsm204.1 49 (by decide)
                have e51b := hT204.2
                refine x_aload_n d_Mo_print_207 rfl rfl ?_
                refine x_iload_n d_Mo_print_208 rfl ?_
                refine z_ineg d_Mo_print_209 ?_
                have hT5 := toDo.psh (v := -3) (h := H0) hT204 l50' (by omega)
                refine x_callV (As := [_]) (k := k_MarkerTextModel) rfl xcv_Mo_364_Mo (Or.inl hR.1) (RM.ap hR (r_later (S := S204) (by decide) (by omega))) rfl rfl (Nat.le_of_ble_eq_true rfl) d_Mo_print_210 ?_
                rintro v210 h cq nq ⟨S210, hR, hX210, rfl, rfl, rfl, rfl⟩
                replace hX := hX.tr hX210
                refine x_aload_n d_Mo_print_213 rfl rfl ?_
                refine x_aload_n d_Mo_print_214 rfl rfl ?_
                refine x_get xf_Mo_39_Mo (Or.inl hR.1) (v := .ref (rf 13)) rfl d_Mo_print_215 ?_
                refine x_iload_n d_Mo_print_218 rfl ?_
                refine r_iald (i := 13) (us := (S204.2.1 13)) rfl (by decide) hR rfl (by omega) (by show e < 1152; omega) d_Mo_print_219 (fun hr219 => ?_)
                rw [g13']
                refine x_iload_n d_Mo_print_220 rfl ?_
                refine x_iconst (v := zI 2) d_Mo_print_221 (by decide) ?_
                refine z_icmp_ne (tgt := 244) d_Mo_print_222 (by decide) (by omega) (by omega) (fun _ => ?_) (fun hq => by omega)
                refine x_iconst (v := zI 0) d_Mo_print_244 (by decide) ?_
                refine x_callV (As := [_, _]) (k := k_MarkerTextModel) rfl xcv_Mo_376_Mo (Or.inl hR.1) (RM.ap hR (r_laterNode (S := sp (sa S204 50 (se (S204.2.1 50) (S204.1 51) (-3))) 51 (S204.1 51 + 1)) (Q := -3 :: Q1) (by omega) (by omega) (by omega) hT5 (by simp; omega))) rfl rfl (Nat.le_of_ble_eq_true rfl) d_Mo_print_245 ?_
                rintro v245 h cq nq ⟨S245, hR, hX245, rfl, rfl, rfl, hT245, hsm245⟩
                replace hX := hX.tr hX245
                refine x_goto (tgt := 20) d_Mo_print_248 (by decide) ?_
                have hz : wsm (ew w) (-3 :: Q1) = 4 + wsm (ew w) Q1 := rfl
                obtain ⟨Q3, hT245, v1, v2, v3⟩ := hln2 S245 (-3 :: Q1) _ _ (fun x hx => (List.mem_cons.mp hx).elim (fun z => by rw [z]; exact Or.inr (Or.inl rfl)) (fun z => u1 x z)) a1 (by omega) hT245 (by omega)
                have f49b : S245.1 49 = S1.1 49 := (hsm245.1 49 (by decide)).trans f49'
                have hsm9 : rSm S S245 [49, 51] [48, 50] [] := ((hsm2.tr (hsm204.mono (by decide) (by decide) (by decide))).sa (by decide)).sp (by decide) |>.tr (hsm245.mono (by decide) (by decide) (by decide))
                exact nx S245 Q3 _ _ ⟨hsm9, hT245, v1, by omega, by omega⟩ (hdec _ (by omega)) _ hR hX
  have lp : ∀ (K : Nat) (S1 : MS) (Q : List Int) (w2 w3 : Option Value), pnI S S1 s w Q → wsm (ew w) Q ≤ K → RX l G M_Mo_print (d + 1) 20 [some (.ref o), some (.int (zI s)), w2, w3] [] H0 o rf c n S1 (pnQ S) := by
    intro K
    induction K with
    | zero =>
      intro S1 Q w2 w3 hL hK
      exact bd S1 Q w2 w3 hL (fun S2 Q2 _ _ hL2 hlt => by have := ewq Q2 hL2.2.2.1; omega)
    | succ K ih =>
      intro S1 Q w2 w3 hL hK
      exact bd S1 Q w2 w3 hL (fun S2 Q2 w2 w3 hL2 hlt => ih S2 Q2 w2 w3 hL2 (by omega))
  refine x_aload_n d_Mo_print_0 rfl rfl ?_
  refine x_iconst (v := zI 0) d_Mo_print_1 (by decide) ?_
  refine r_put xf_Mo_323_Mo xp_Mo_49 hR hX (by omega) rfl rfl d_Mo_print_2 ?_
  intro h hR hX
  refine x_aload_n d_Mo_print_5 rfl rfl ?_
  refine x_iconst (v := zI 0) d_Mo_print_6 (by decide) ?_
  refine r_put xf_Mo_361_Mo xp_Mo_51 hR hX (by omega) rfl rfl d_Mo_print_7 ?_
  intro h hR hX
  refine x_aload_n d_Mo_print_10 rfl rfl ?_
  refine x_aload_n d_Mo_print_11 rfl rfl ?_
  refine x_get xf_Mo_48_Mo (Or.inl hR.1) (v := .ref (rf 16)) rfl d_Mo_print_12 ?_
  refine x_iload_n d_Mo_print_15 rfl ?_
  refine r_iald (i := 16) (us := (S.2.1 16)) rfl (by decide) hR rfl (by omega) (by show s < 9; omega) d_Mo_print_16 (fun hr16 => ?_)
  refine x_callV (As := [_]) (k := k_MarkerTextModel) rfl xcv_Mo_364_Mo (Or.inl hR.1) (RM.ap hR (r_later (S := sp (sp S 49 0) 51 0) (by omega) (by show (0 : Int) ≤ 0 ∧ (0 : Int) < 600; omega))) rfl rfl (Nat.le_of_ble_eq_true rfl) d_Mo_print_17 ?_
  rintro v17 h cq nq ⟨S17, hR, hX17, rfl, rfl, rfl, rfl⟩
  replace hX := hX.tr hX17
  have hT0 : toDo (sp (sp S 49 0) 51 0) [] := ⟨trivial, rfl⟩
  have hT1 := toDo.psh (v := gd (S.2.1 16) s) (h := H0) hT0 l50 (by simp)
  refine lp 560 _ [gd (S.2.1 16) s] _ _ ⟨(((rSm.r0.sp (by decide)).sp (by decide)).sa (by decide)).sp (by decide), hT1, fun x hx => ?_, by show (0 : Int) ≤ 0; omega, ?_⟩ ?_ _ hR hX
  · rw [List.mem_singleton] at hx
    rw [hx]
    exact Or.inr (Or.inr (Or.inr (Or.inr ⟨q1, q2⟩)))
  · show 0 + (ew w (gd (S.2.1 16) s) + 0) ≤ 560
    rw [ewn _ q1]; omega
  · show ew w (gd (S.2.1 16) s) + 0 ≤ _
    rw [ewn _ q1]; omega
theorem r_printed {k i : Int} (hd : 4 ≤ d) (hk : inR k) (hi : inR i) (hn : nmOk S) (hC : csOk S) : RM l G d M_Mo_printed [.ref o, .int (zI k), .int (zI i)] o rf S (fun v S' => (∃ r : Int, v = some (.int (zI r))) ∧ rSm S S' [0, 49, 51] [48, 50] []) := by
  obtain ⟨d, rfl⟩ : ∃ q, d = q + 1 := ⟨d - 1, by omega⟩
  intro H0 c n hR
  refine XM.of (by decide +kernel) (Nat.le_of_ble_eq_true rfl) ?_
  have hX : xonly H0 H0 RKs := xonly.rf
  obtain ⟨k1, k2, k3⟩ := id hC
  refine x_aload_n d_Mo_printed_0 rfl rfl ?_
  refine x_iconst (v := zI 0) d_Mo_printed_1 (by decide) ?_
  refine r_put xf_Mo_121_Mo xp_Mo_0 hR hX (by omega) rfl rfl d_Mo_printed_2 ?_
  intro h hR hX
  refine x_aload_n d_Mo_printed_5 rfl rfl ?_
  refine x_iload_n d_Mo_printed_6 rfl ?_
  refine x_callV (As := [_]) (k := k_MarkerTextModel) rfl xcv_Mo_281_Mo (Or.inl hR.1) (RM.ap hR (r_isCondition (by omega) hk (by exact k1))) rfl rfl (Nat.le_of_ble_eq_true rfl) d_Mo_printed_7 ?_
  rintro v7 h cq nq ⟨S7, hR, hX7, rfl, rfl, hE7, r7, rfl, hr7⟩
  replace hE7 := Eq.symm hE7
  subst hE7
  replace hX := hX.tr hX7
  replace hr7 : (r7 = 1 ∧ (0 ≤ k ∧ k ≤ S.1 11 - 1)) ∨ (r7 = 0 ∧ ¬ (0 ≤ k ∧ k ≤ S.1 11 - 1)) := hr7
  refine z_if_eq (tgt := 17) d_Mo_printed_10 (by decide) (by omega) (fun hc10 => ?_) (fun hc10 => ?_)
  · refine x_iconst (v := zI 0) d_Mo_printed_17 (by decide) ?_
    refine x_iret d_Mo_printed_18 rfl ?_
    first | exact ⟨_, hR, hX, rfl, rfl, ⟨_, rfl⟩, (rSm.r0.sp (by decide)).tr (hsm21.mono (by decide) (by decide) (by decide))⟩ | exact ⟨_, hR, hX, rfl, rfl, ⟨_, rfl⟩, rSm.r0.sp (by decide)⟩
  · refine x_iload_n d_Mo_printed_13 rfl ?_
    refine z_if_ge (tgt := 19) d_Mo_printed_14 (by decide) (by omega) (fun hc14 => ?_) (fun hc14 => ?_)
    · refine x_aload_n d_Mo_printed_19 rfl rfl ?_
      refine x_iload_n d_Mo_printed_20 rfl ?_
      refine x_callV (As := [_]) (k := k_MarkerTextModel) rfl xcv_Mo_380_Mo (Or.inl hR.1) (RM.ap hR (r_print (S := sp S 0 0) (by omega) (by omega) hn (by exact k3 k (by omega) (by omega)))) rfl rfl (Nat.le_of_ble_eq_true rfl) d_Mo_printed_21 ?_
      rintro v21 h cq nq ⟨S21, hR, hX21, rfl, rfl, rfl, hsm21, ha21, hb21⟩
      replace hX := hX.tr hX21
      refine x_iload_n d_Mo_printed_24 rfl ?_
      refine x_aload_n d_Mo_printed_25 rfl rfl ?_
      refine x_get xf_Mo_323_Mo (Or.inl hR.1) (v := .int (zI (S21.1 49))) rfl d_Mo_printed_26 ?_
      have hb26 : inR (S21.1 49) := hR.2.2.2 49
      refine z_icmp_ge (tgt := 41) d_Mo_printed_29 (by decide) (by omega) (by omega) (fun hc29 => ?_) (fun hc29 => ?_)
      · refine x_iconst (v := zI 0) d_Mo_printed_41 (by decide) ?_
        refine x_iret d_Mo_printed_42 rfl ?_
        first | exact ⟨_, hR, hX, rfl, rfl, ⟨_, rfl⟩, (rSm.r0.sp (by decide)).tr (hsm21.mono (by decide) (by decide) (by decide))⟩ | exact ⟨_, hR, hX, rfl, rfl, ⟨_, rfl⟩, rSm.r0.sp (by decide)⟩
      · refine x_aload_n d_Mo_printed_32 rfl rfl ?_
        refine x_get xf_Mo_115_Mo (Or.inl hR.1) (v := .ref (rf 48)) rfl d_Mo_printed_33 ?_
        refine x_iload_n d_Mo_printed_36 rfl ?_
        refine r_iald (i := 48) (us := (S21.2.1 48)) rfl (by decide) hR rfl (by omega) (by show i < 1000; omega) d_Mo_printed_37 (fun hr37 => ?_)
        refine x_goto (tgt := 42) d_Mo_printed_38 (by decide) ?_
        refine x_iret d_Mo_printed_42 rfl ?_
        first | exact ⟨_, hR, hX, rfl, rfl, ⟨_, rfl⟩, (rSm.r0.sp (by decide)).tr (hsm21.mono (by decide) (by decide) (by decide))⟩ | exact ⟨_, hR, hX, rfl, rfl, ⟨_, rfl⟩, rSm.r0.sp (by decide)⟩
    · refine x_iconst (v := zI 0) d_Mo_printed_17 (by decide) ?_
      refine x_iret d_Mo_printed_18 rfl ?_
      first | exact ⟨_, hR, hX, rfl, rfl, ⟨_, rfl⟩, (rSm.r0.sp (by decide)).tr (hsm21.mono (by decide) (by decide) (by decide))⟩ | exact ⟨_, hR, hX, rfl, rfl, ⟨_, rfl⟩, rSm.r0.sp (by decide)⟩
end RF22
