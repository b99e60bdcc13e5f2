section
abbrev y_Law_law : MethodName := ⟨"MarkerTextLaw", "law", "([I)Z"⟩
abbrev M_Law_law : XMt := (y_Law_law, code, 7, (some .boolean))
abbrev y_Mo_thrown : MethodName := ⟨"MarkerTextModel", "thrown", "()I"⟩
abbrev M_Mo_thrown : XMt := (y_Mo_thrown, prog_13_method_2_code, 1, (some .int))
theorem d_Mo_thrown_0 : decode M_Mo_thrown.2.1 0 = .ok (.aload_n 0, 1) := by decide +kernel
theorem d_Mo_thrown_1 : decode M_Mo_thrown.2.1 1 = .ok (.getfield 121, 3) := by decide +kernel
theorem d_Mo_thrown_4 : decode M_Mo_thrown.2.1 4 = .ok (.ireturn, 1) := by decide +kernel
theorem d_Law_law_112 : decode M_Law_law.2.1 112 = .ok (.aload_n 1, 1) := by decide +kernel
theorem d_Law_law_113 : decode M_Law_law.2.1 113 = .ok (.aload_n 0, 1) := by decide +kernel
theorem d_Law_law_114 : decode M_Law_law.2.1 114 = .ok (.iload 4, 2) := by decide +kernel
theorem d_Law_law_116 : decode M_Law_law.2.1 116 = .ok (.iconst 1, 1) := by decide +kernel
theorem d_Law_law_117 : decode M_Law_law.2.1 117 = .ok (.iadd, 1) := by decide +kernel
theorem d_Law_law_118 : decode M_Law_law.2.1 118 = .ok (.iaload, 1) := by decide +kernel
theorem d_Law_law_119 : decode M_Law_law.2.1 119 = .ok (.i2c, 1) := by decide +kernel
theorem d_Law_law_120 : decode M_Law_law.2.1 120 = .ok (.invokevirtual 32, 3) := by decide +kernel
theorem xw_171 : (Jvm.Cond.code ({ cls := "MarkerText", name := "type", desc := "(C)Z" } : Jvm.MethodName) prog_1_method_2_code (2 : Nat) (Option.some Jvm.ClassFile.FieldType.boolean)) ∈ xT := xT_at 171 (by decide +kernel) (by decide +kernel)
theorem xcb_MT_type : xcb M_MT_type 1 := ⟨xw_171, xw_1, by decide, by decide, by decide, by decide +kernel⟩
theorem xw_169 : (Jvm.Cond.instanceMethod ({ cls := "MarkerText", name := "type", desc := "(C)Z" } : Jvm.MethodName)) ∈ xT := xT_at 169 (by decide +kernel) (by decide +kernel)
theorem xw_168 : (Jvm.Cond.methodLink "MarkerTextLaw" (32 : Nat) ({ cls := "MarkerText", name := "type", desc := "(C)Z" } : Jvm.MethodName)) ∈ xT := xT_at 168 (by decide +kernel) (by decide +kernel)
theorem xw_170 : (Jvm.Cond.selects "MarkerText" ({ cls := "MarkerText", name := "type", desc := "(C)Z" } : Jvm.MethodName) ({ cls := "MarkerText", name := "type", desc := "(C)Z" } : Jvm.MethodName)) ∈ xT := xT_at 170 (by decide +kernel) (by decide +kernel)
theorem xcv_Law_32_MT : xCV "MarkerTextLaw" 32 "MarkerText" M_MT_type 1 := ⟨xcb_MT_type, xw_169, Or.inl ⟨xw_168, Or.inl xw_170⟩⟩
theorem d_Law_law_123 : decode M_Law_law.2.1 123 = .ok (.pop, 1) := by decide +kernel
theorem d_Law_law_124 : decode M_Law_law.2.1 124 = .ok (.aload_n 2, 1) := by decide +kernel
theorem d_Law_law_125 : decode M_Law_law.2.1 125 = .ok (.aload_n 0, 1) := by decide +kernel
theorem d_Law_law_126 : decode M_Law_law.2.1 126 = .ok (.iload 4, 2) := by decide +kernel
theorem d_Law_law_128 : decode M_Law_law.2.1 128 = .ok (.iconst 1, 1) := by decide +kernel
theorem d_Law_law_129 : decode M_Law_law.2.1 129 = .ok (.iadd, 1) := by decide +kernel
theorem d_Law_law_130 : decode M_Law_law.2.1 130 = .ok (.iaload, 1) := by decide +kernel
theorem d_Law_law_131 : decode M_Law_law.2.1 131 = .ok (.i2c, 1) := by decide +kernel
theorem d_Law_law_132 : decode M_Law_law.2.1 132 = .ok (.invokevirtual 36, 3) := by decide +kernel
theorem xw_1335 : (Jvm.Cond.code ({ cls := "MarkerTextModel", name := "type", desc := "(C)Z" } : Jvm.MethodName) prog_13_method_5_code (2 : Nat) (Option.some Jvm.ClassFile.FieldType.boolean)) ∈ xT := xT_at 1335 (by decide +kernel) (by decide +kernel)
theorem xcb_Mo_type : xcb M_Mo_type 1 := ⟨xw_1335, xw_8, by decide, by decide, by decide, by decide +kernel⟩
theorem xw_1333 : (Jvm.Cond.instanceMethod ({ cls := "MarkerTextModel", name := "type", desc := "(C)Z" } : Jvm.MethodName)) ∈ xT := xT_at 1333 (by decide +kernel) (by decide +kernel)
theorem xw_1332 : (Jvm.Cond.methodLink "MarkerTextLaw" (36 : Nat) ({ cls := "MarkerTextModel", name := "type", desc := "(C)Z" } : Jvm.MethodName)) ∈ xT := xT_at 1332 (by decide +kernel) (by decide +kernel)
theorem xw_1334 : (Jvm.Cond.selects "MarkerTextModel" ({ cls := "MarkerTextModel", name := "type", desc := "(C)Z" } : Jvm.MethodName) ({ cls := "MarkerTextModel", name := "type", desc := "(C)Z" } : Jvm.MethodName)) ∈ xT := xT_at 1334 (by decide +kernel) (by decide +kernel)
theorem xcv_Law_36_Mo : xCV "MarkerTextLaw" 36 "MarkerTextModel" M_Mo_type 1 := ⟨xcb_Mo_type, xw_1333, Or.inl ⟨xw_1332, Or.inl xw_1334⟩⟩
theorem d_Law_law_135 : decode M_Law_law.2.1 135 = .ok (.pop, 1) := by decide +kernel
theorem d_Law_law_136 : decode M_Law_law.2.1 136 = .ok (.goto 426, 3) := by decide +kernel
theorem d_Law_law_139 : decode M_Law_law.2.1 139 = .ok (.aload_n 1, 1) := by decide +kernel
theorem d_Law_law_140 : decode M_Law_law.2.1 140 = .ok (.aload_n 0, 1) := by decide +kernel
theorem d_Law_law_141 : decode M_Law_law.2.1 141 = .ok (.iload 4, 2) := by decide +kernel
theorem d_Law_law_143 : decode M_Law_law.2.1 143 = .ok (.iconst 1, 1) := by decide +kernel
theorem d_Law_law_144 : decode M_Law_law.2.1 144 = .ok (.iadd, 1) := by decide +kernel
theorem d_Law_law_145 : decode M_Law_law.2.1 145 = .ok (.iaload, 1) := by decide +kernel
theorem d_Law_law_146 : decode M_Law_law.2.1 146 = .ok (.aload_n 3, 1) := by decide +kernel
theorem d_Law_law_147 : decode M_Law_law.2.1 147 = .ok (.invokestatic 37, 3) := by decide +kernel
theorem xw_0 : (Jvm.Cond.initialized "MarkerTextLaw") ∈ xT := xT_at 0 (by decide +kernel) (by decide +kernel)
theorem xcbw_Law_name : xcbW M_Law_name [((0 : Nat), (9 : Nat), (12 : Nat), (13 : Nat)), ((0 : Nat), (9 : Nat), (15 : Nat), (15 : Nat))] 3 := ⟨xw_450, xw_0, by decide, by decide, by decide, by decide +kernel⟩
theorem xw_449 : (Jvm.Cond.static ({ cls := "MarkerTextLaw", name := "name", desc := "(LMarkerText;I[J)I" } : Jvm.MethodName)) ∈ xT := xT_at 449 (by decide +kernel) (by decide +kernel)
theorem xw_448 : (Jvm.Cond.methodLink "MarkerTextLaw" (37 : Nat) ({ cls := "MarkerTextLaw", name := "name", desc := "(LMarkerText;I[J)I" } : Jvm.MethodName)) ∈ xT := xT_at 448 (by decide +kernel) (by decide +kernel)
theorem d_Law_law_150 : decode M_Law_law.2.1 150 = .ok (.istore 5, 2) := by decide +kernel
theorem d_Law_law_152 : decode M_Law_law.2.1 152 = .ok (.aload_n 2, 1) := by decide +kernel
theorem d_Law_law_153 : decode M_Law_law.2.1 153 = .ok (.aload_n 0, 1) := by decide +kernel
theorem d_Law_law_154 : decode M_Law_law.2.1 154 = .ok (.iload 4, 2) := by decide +kernel
theorem d_Law_law_156 : decode M_Law_law.2.1 156 = .ok (.iconst 1, 1) := by decide +kernel
theorem d_Law_law_157 : decode M_Law_law.2.1 157 = .ok (.iadd, 1) := by decide +kernel
theorem d_Law_law_158 : decode M_Law_law.2.1 158 = .ok (.iaload, 1) := by decide +kernel
theorem d_Law_law_159 : decode M_Law_law.2.1 159 = .ok (.invokevirtual 42, 3) := by decide +kernel
theorem xw_1339 : (Jvm.Cond.code ({ cls := "MarkerTextModel", name := "name", desc := "(I)I" } : Jvm.MethodName) prog_13_method_11_code (5 : Nat) (Option.some Jvm.ClassFile.FieldType.int)) ∈ xT := xT_at 1339 (by decide +kernel) (by decide +kernel)
theorem xcb_Mo_name : xcb M_Mo_name 1 := ⟨xw_1339, xw_8, by decide, by decide, by decide, by decide +kernel⟩
theorem xw_1337 : (Jvm.Cond.instanceMethod ({ cls := "MarkerTextModel", name := "name", desc := "(I)I" } : Jvm.MethodName)) ∈ xT := xT_at 1337 (by decide +kernel) (by decide +kernel)
theorem xw_1336 : (Jvm.Cond.methodLink "MarkerTextLaw" (42 : Nat) ({ cls := "MarkerTextModel", name := "name", desc := "(I)I" } : Jvm.MethodName)) ∈ xT := xT_at 1336 (by decide +kernel) (by decide +kernel)
theorem xw_1338 : (Jvm.Cond.selects "MarkerTextModel" ({ cls := "MarkerTextModel", name := "name", desc := "(I)I" } : Jvm.MethodName) ({ cls := "MarkerTextModel", name := "name", desc := "(I)I" } : Jvm.MethodName)) ∈ xT := xT_at 1338 (by decide +kernel) (by decide +kernel)
theorem xcv_Law_42_Mo : xCV "MarkerTextLaw" 42 "MarkerTextModel" M_Mo_name 1 := ⟨xcb_Mo_name, xw_1337, Or.inl ⟨xw_1336, Or.inl xw_1338⟩⟩
theorem d_Law_law_162 : decode M_Law_law.2.1 162 = .ok (.istore 6, 2) := by decide +kernel
theorem d_Law_law_164 : decode M_Law_law.2.1 164 = .ok (.goto 398, 3) := by decide +kernel
theorem d_Law_law_167 : decode M_Law_law.2.1 167 = .ok (.aload_n 1, 1) := by decide +kernel
theorem d_Law_law_168 : decode M_Law_law.2.1 168 = .ok (.aload_n 0, 1) := by decide +kernel
theorem d_Law_law_169 : decode M_Law_law.2.1 169 = .ok (.iload 4, 2) := by decide +kernel
theorem d_Law_law_171 : decode M_Law_law.2.1 171 = .ok (.iconst 1, 1) := by decide +kernel
theorem d_Law_law_172 : decode M_Law_law.2.1 172 = .ok (.iadd, 1) := by decide +kernel
theorem d_Law_law_173 : decode M_Law_law.2.1 173 = .ok (.iaload, 1) := by decide +kernel
theorem d_Law_law_174 : decode M_Law_law.2.1 174 = .ok (.aload_n 3, 1) := by decide +kernel
theorem d_Law_law_175 : decode M_Law_law.2.1 175 = .ok (.invokestatic 43, 3) := by decide +kernel
theorem xcbw_Law_value : xcbW M_Law_value [((0 : Nat), (9 : Nat), (12 : Nat), (13 : Nat)), ((0 : Nat), (9 : Nat), (15 : Nat), (15 : Nat))] 3 := ⟨xw_739, xw_0, by decide, by decide, by decide, by decide +kernel⟩
theorem xw_738 : (Jvm.Cond.static ({ cls := "MarkerTextLaw", name := "value", desc := "(LMarkerText;I[J)I" } : Jvm.MethodName)) ∈ xT := xT_at 738 (by decide +kernel) (by decide +kernel)
theorem xw_737 : (Jvm.Cond.methodLink "MarkerTextLaw" (43 : Nat) ({ cls := "MarkerTextLaw", name := "value", desc := "(LMarkerText;I[J)I" } : Jvm.MethodName)) ∈ xT := xT_at 737 (by decide +kernel) (by decide +kernel)
theorem d_Law_law_178 : decode M_Law_law.2.1 178 = .ok (.istore 5, 2) := by decide +kernel
theorem d_Law_law_180 : decode M_Law_law.2.1 180 = .ok (.aload_n 2, 1) := by decide +kernel
theorem d_Law_law_181 : decode M_Law_law.2.1 181 = .ok (.aload_n 0, 1) := by decide +kernel
theorem d_Law_law_182 : decode M_Law_law.2.1 182 = .ok (.iload 4, 2) := by decide +kernel
theorem d_Law_law_184 : decode M_Law_law.2.1 184 = .ok (.iconst 1, 1) := by decide +kernel
theorem d_Law_law_185 : decode M_Law_law.2.1 185 = .ok (.iadd, 1) := by decide +kernel
theorem d_Law_law_186 : decode M_Law_law.2.1 186 = .ok (.iaload, 1) := by decide +kernel
theorem d_Law_law_187 : decode M_Law_law.2.1 187 = .ok (.invokevirtual 45, 3) := by decide +kernel
theorem xw_1369 : (Jvm.Cond.code ({ cls := "MarkerTextModel", name := "value", desc := "(I)I" } : Jvm.MethodName) prog_13_method_16_code (5 : Nat) (Option.some Jvm.ClassFile.FieldType.int)) ∈ xT := xT_at 1369 (by decide +kernel) (by decide +kernel)
theorem xcb_Mo_value : xcb M_Mo_value 1 := ⟨xw_1369, xw_8, by decide, by decide, by decide, by decide +kernel⟩
theorem xw_1367 : (Jvm.Cond.instanceMethod ({ cls := "MarkerTextModel", name := "value", desc := "(I)I" } : Jvm.MethodName)) ∈ xT := xT_at 1367 (by decide +kernel) (by decide +kernel)
theorem xw_1366 : (Jvm.Cond.methodLink "MarkerTextLaw" (45 : Nat) ({ cls := "MarkerTextModel", name := "value", desc := "(I)I" } : Jvm.MethodName)) ∈ xT := xT_at 1366 (by decide +kernel) (by decide +kernel)
theorem xw_1368 : (Jvm.Cond.selects "MarkerTextModel" ({ cls := "MarkerTextModel", name := "value", desc := "(I)I" } : Jvm.MethodName) ({ cls := "MarkerTextModel", name := "value", desc := "(I)I" } : Jvm.MethodName)) ∈ xT := xT_at 1368 (by decide +kernel) (by decide +kernel)
theorem xcv_Law_45_Mo : xCV "MarkerTextLaw" 45 "MarkerTextModel" M_Mo_value 1 := ⟨xcb_Mo_value, xw_1367, Or.inl ⟨xw_1366, Or.inl xw_1368⟩⟩
theorem d_Law_law_190 : decode M_Law_law.2.1 190 = .ok (.istore 6, 2) := by decide +kernel
theorem d_Law_law_192 : decode M_Law_law.2.1 192 = .ok (.goto 370, 3) := by decide +kernel
theorem d_Law_law_195 : decode M_Law_law.2.1 195 = .ok (.aload_n 1, 1) := by decide +kernel
theorem d_Law_law_196 : decode M_Law_law.2.1 196 = .ok (.aload_n 3, 1) := by decide +kernel
theorem d_Law_law_197 : decode M_Law_law.2.1 197 = .ok (.invokestatic 46, 3) := by decide +kernel
theorem xcbw_Law_condition : xcbW M_Law_condition [((0 : Nat), (8 : Nat), (11 : Nat), (13 : Nat)), ((0 : Nat), (8 : Nat), (14 : Nat), (15 : Nat))] 2 := ⟨xw_818, xw_0, by decide, by decide, by decide, by decide +kernel⟩
theorem xw_817 : (Jvm.Cond.static ({ cls := "MarkerTextLaw", name := "condition", desc := "(LMarkerText;[J)I" } : Jvm.MethodName)) ∈ xT := xT_at 817 (by decide +kernel) (by decide +kernel)
theorem xw_816 : (Jvm.Cond.methodLink "MarkerTextLaw" (46 : Nat) ({ cls := "MarkerTextLaw", name := "condition", desc := "(LMarkerText;[J)I" } : Jvm.MethodName)) ∈ xT := xT_at 816 (by decide +kernel) (by decide +kernel)
theorem d_Law_law_200 : decode M_Law_law.2.1 200 = .ok (.istore 5, 2) := by decide +kernel
theorem d_Law_law_202 : decode M_Law_law.2.1 202 = .ok (.aload_n 2, 1) := by decide +kernel
theorem d_Law_law_203 : decode M_Law_law.2.1 203 = .ok (.invokevirtual 49, 3) := by decide +kernel
theorem xw_1398 : (Jvm.Cond.code ({ cls := "MarkerTextModel", name := "condition", desc := "()I" } : Jvm.MethodName) prog_13_method_36_code (1 : Nat) (Option.some Jvm.ClassFile.FieldType.int)) ∈ xT := xT_at 1398 (by decide +kernel) (by decide +kernel)
theorem xcb_Mo_condition : xcb M_Mo_condition 0 := ⟨xw_1398, xw_8, by decide, by decide, by decide, by decide +kernel⟩
theorem xw_1396 : (Jvm.Cond.instanceMethod ({ cls := "MarkerTextModel", name := "condition", desc := "()I" } : Jvm.MethodName)) ∈ xT := xT_at 1396 (by decide +kernel) (by decide +kernel)
theorem xw_1395 : (Jvm.Cond.methodLink "MarkerTextLaw" (49 : Nat) ({ cls := "MarkerTextModel", name := "condition", desc := "()I" } : Jvm.MethodName)) ∈ xT := xT_at 1395 (by decide +kernel) (by decide +kernel)
theorem xw_1397 : (Jvm.Cond.selects "MarkerTextModel" ({ cls := "MarkerTextModel", name := "condition", desc := "()I" } : Jvm.MethodName) ({ cls := "MarkerTextModel", name := "condition", desc := "()I" } : Jvm.MethodName)) ∈ xT := xT_at 1397 (by decide +kernel) (by decide +kernel)
theorem xcv_Law_49_Mo : xCV "MarkerTextLaw" 49 "MarkerTextModel" M_Mo_condition 0 := ⟨xcb_Mo_condition, xw_1396, Or.inl ⟨xw_1395, Or.inl xw_1397⟩⟩
theorem d_Law_law_206 : decode M_Law_law.2.1 206 = .ok (.istore 6, 2) := by decide +kernel
theorem d_Law_law_208 : decode M_Law_law.2.1 208 = .ok (.aload_n 2, 1) := by decide +kernel
theorem d_Law_law_209 : decode M_Law_law.2.1 209 = .ok (.invokevirtual 50, 3) := by decide +kernel
theorem xw_1331 : (Jvm.Cond.code ({ cls := "MarkerTextModel", name := "thrown", desc := "()I" } : Jvm.MethodName) prog_13_method_2_code (1 : Nat) (Option.some Jvm.ClassFile.FieldType.int)) ∈ xT := xT_at 1331 (by decide +kernel) (by decide +kernel)
theorem xcb_Mo_thrown : xcb M_Mo_thrown 0 := ⟨xw_1331, xw_8, by decide, by decide, by decide, by decide +kernel⟩
theorem xw_1329 : (Jvm.Cond.instanceMethod ({ cls := "MarkerTextModel", name := "thrown", desc := "()I" } : Jvm.MethodName)) ∈ xT := xT_at 1329 (by decide +kernel) (by decide +kernel)
theorem xw_1328 : (Jvm.Cond.methodLink "MarkerTextLaw" (50 : Nat) ({ cls := "MarkerTextModel", name := "thrown", desc := "()I" } : Jvm.MethodName)) ∈ xT := xT_at 1328 (by decide +kernel) (by decide +kernel)
theorem xw_1330 : (Jvm.Cond.selects "MarkerTextModel" ({ cls := "MarkerTextModel", name := "thrown", desc := "()I" } : Jvm.MethodName) ({ cls := "MarkerTextModel", name := "thrown", desc := "()I" } : Jvm.MethodName)) ∈ xT := xT_at 1330 (by decide +kernel) (by decide +kernel)
theorem xcv_Law_50_Mo : xCV "MarkerTextLaw" 50 "MarkerTextModel" M_Mo_thrown 0 := ⟨xcb_Mo_thrown, xw_1329, Or.inl ⟨xw_1328, Or.inl xw_1330⟩⟩
theorem d_Law_law_212 : decode M_Law_law.2.1 212 = .ok (.iload 5, 2) := by decide +kernel
theorem d_Law_law_214 : decode M_Law_law.2.1 214 = .ok (.if_icmp .eq 5, 3) := by decide +kernel
theorem d_Law_law_219 : decode M_Law_law.2.1 219 = .ok (.iload 5, 2) := by decide +kernel
theorem d_Law_law_221 : decode M_Law_law.2.1 221 = .ok (.ifCond .ne 15, 3) := by decide +kernel
theorem d_Law_law_224 : decode M_Law_law.2.1 224 = .ok (.aload_n 3, 1) := by decide +kernel
theorem d_Law_law_225 : decode M_Law_law.2.1 225 = .ok (.iconst 0, 1) := by decide +kernel
theorem d_Law_law_226 : decode M_Law_law.2.1 226 = .ok (.laload, 1) := by decide +kernel
theorem d_Law_law_227 : decode M_Law_law.2.1 227 = .ok (.iload 6, 2) := by decide +kernel
theorem d_Law_law_229 : decode M_Law_law.2.1 229 = .ok (.i2l, 1) := by decide +kernel
theorem d_Law_law_230 : decode M_Law_law.2.1 230 = .ok (.lcmp, 1) := by decide +kernel
theorem d_Law_law_231 : decode M_Law_law.2.1 231 = .ok (.ifCond .eq 5, 3) := by decide +kernel
theorem d_Law_law_236 : decode M_Law_law.2.1 236 = .ok (.goto 326, 3) := by decide +kernel
theorem d_Law_law_239 : decode M_Law_law.2.1 239 = .ok (.aload_n 1, 1) := by decide +kernel
theorem d_Law_law_240 : decode M_Law_law.2.1 240 = .ok (.invokevirtual 53, 3) := by decide +kernel
theorem xw_277 : (Jvm.Cond.code ({ cls := "MarkerText", name := "place", desc := "()I" } : Jvm.MethodName) prog_1_method_6_code (1 : Nat) (Option.some Jvm.ClassFile.FieldType.int)) ∈ xT := xT_at 277 (by decide +kernel) (by decide +kernel)
theorem xcb_MT_place : xcb M_MT_place 0 := ⟨xw_277, xw_1, by decide, by decide, by decide, by decide +kernel⟩
theorem xw_275 : (Jvm.Cond.instanceMethod ({ cls := "MarkerText", name := "place", desc := "()I" } : Jvm.MethodName)) ∈ xT := xT_at 275 (by decide +kernel) (by decide +kernel)
theorem xw_274 : (Jvm.Cond.methodLink "MarkerTextLaw" (53 : Nat) ({ cls := "MarkerText", name := "place", desc := "()I" } : Jvm.MethodName)) ∈ xT := xT_at 274 (by decide +kernel) (by decide +kernel)
theorem xw_276 : (Jvm.Cond.selects "MarkerText" ({ cls := "MarkerText", name := "place", desc := "()I" } : Jvm.MethodName) ({ cls := "MarkerText", name := "place", desc := "()I" } : Jvm.MethodName)) ∈ xT := xT_at 276 (by decide +kernel) (by decide +kernel)
theorem xcv_Law_53_MT : xCV "MarkerTextLaw" 53 "MarkerText" M_MT_place 0 := ⟨xcb_MT_place, xw_275, Or.inl ⟨xw_274, Or.inl xw_276⟩⟩
theorem d_Law_law_243 : decode M_Law_law.2.1 243 = .ok (.pop, 1) := by decide +kernel
theorem d_Law_law_244 : decode M_Law_law.2.1 244 = .ok (.aload_n 2, 1) := by decide +kernel
theorem d_Law_law_245 : decode M_Law_law.2.1 245 = .ok (.invokevirtual 56, 3) := by decide +kernel
theorem xw_1478 : (Jvm.Cond.code ({ cls := "MarkerTextModel", name := "place", desc := "()I" } : Jvm.MethodName) prog_13_method_37_code (1 : Nat) (Option.some Jvm.ClassFile.FieldType.int)) ∈ xT := xT_at 1478 (by decide +kernel) (by decide +kernel)
theorem xcb_Mo_place : xcb M_Mo_place 0 := ⟨xw_1478, xw_8, by decide, by decide, by decide, by decide +kernel⟩
theorem xw_1476 : (Jvm.Cond.instanceMethod ({ cls := "MarkerTextModel", name := "place", desc := "()I" } : Jvm.MethodName)) ∈ xT := xT_at 1476 (by decide +kernel) (by decide +kernel)
theorem xw_1475 : (Jvm.Cond.methodLink "MarkerTextLaw" (56 : Nat) ({ cls := "MarkerTextModel", name := "place", desc := "()I" } : Jvm.MethodName)) ∈ xT := xT_at 1475 (by decide +kernel) (by decide +kernel)
theorem xw_1477 : (Jvm.Cond.selects "MarkerTextModel" ({ cls := "MarkerTextModel", name := "place", desc := "()I" } : Jvm.MethodName) ({ cls := "MarkerTextModel", name := "place", desc := "()I" } : Jvm.MethodName)) ∈ xT := xT_at 1477 (by decide +kernel) (by decide +kernel)
theorem xcv_Law_56_Mo : xCV "MarkerTextLaw" 56 "MarkerTextModel" M_Mo_place 0 := ⟨xcb_Mo_place, xw_1476, Or.inl ⟨xw_1475, Or.inl xw_1477⟩⟩
theorem d_Law_law_248 : decode M_Law_law.2.1 248 = .ok (.pop, 1) := by decide +kernel
theorem d_Law_law_249 : decode M_Law_law.2.1 249 = .ok (.goto 313, 3) := by decide +kernel
theorem d_Law_law_252 : decode M_Law_law.2.1 252 = .ok (.aload_n 1, 1) := by decide +kernel
theorem d_Law_law_253 : decode M_Law_law.2.1 253 = .ok (.aload_n 0, 1) := by decide +kernel
theorem d_Law_law_254 : decode M_Law_law.2.1 254 = .ok (.iload 4, 2) := by decide +kernel
theorem d_Law_law_256 : decode M_Law_law.2.1 256 = .ok (.iconst 1, 1) := by decide +kernel
theorem d_Law_law_257 : decode M_Law_law.2.1 257 = .ok (.iadd, 1) := by decide +kernel
theorem d_Law_law_258 : decode M_Law_law.2.1 258 = .ok (.iaload, 1) := by decide +kernel
theorem d_Law_law_259 : decode M_Law_law.2.1 259 = .ok (.invokestatic 57, 3) := by decide +kernel
theorem xcbw_Law_give : xcbW M_Law_give [((0 : Nat), (5 : Nat), (8 : Nat), (13 : Nat))] 2 := ⟨xw_1158, xw_0, by decide, by decide, by decide, by decide +kernel⟩
theorem xw_1157 : (Jvm.Cond.static ({ cls := "MarkerTextLaw", name := "give", desc := "(LMarkerText;I)I" } : Jvm.MethodName)) ∈ xT := xT_at 1157 (by decide +kernel) (by decide +kernel)
theorem xw_1156 : (Jvm.Cond.methodLink "MarkerTextLaw" (57 : Nat) ({ cls := "MarkerTextLaw", name := "give", desc := "(LMarkerText;I)I" } : Jvm.MethodName)) ∈ xT := xT_at 1156 (by decide +kernel) (by decide +kernel)
theorem d_Law_law_262 : decode M_Law_law.2.1 262 = .ok (.istore 5, 2) := by decide +kernel
theorem d_Law_law_264 : decode M_Law_law.2.1 264 = .ok (.aload_n 2, 1) := by decide +kernel
theorem d_Law_law_265 : decode M_Law_law.2.1 265 = .ok (.aload_n 0, 1) := by decide +kernel
theorem d_Law_law_266 : decode M_Law_law.2.1 266 = .ok (.iload 4, 2) := by decide +kernel
theorem d_Law_law_268 : decode M_Law_law.2.1 268 = .ok (.iconst 1, 1) := by decide +kernel
theorem d_Law_law_269 : decode M_Law_law.2.1 269 = .ok (.iadd, 1) := by decide +kernel
theorem d_Law_law_270 : decode M_Law_law.2.1 270 = .ok (.iaload, 1) := by decide +kernel
theorem d_Law_law_271 : decode M_Law_law.2.1 271 = .ok (.invokevirtual 60, 3) := by decide +kernel
theorem xw_1394 : (Jvm.Cond.code ({ cls := "MarkerTextModel", name := "give", desc := "(I)V" } : Jvm.MethodName) prog_13_method_17_code (4 : Nat) (Option.none : Option Jvm.ClassFile.FieldType)) ∈ xT := xT_at 1394 (by decide +kernel) (by decide +kernel)
theorem xcb_Mo_give : xcb M_Mo_give 1 := ⟨xw_1394, xw_8, by decide, by decide, by decide, by decide +kernel⟩
theorem xw_1392 : (Jvm.Cond.instanceMethod ({ cls := "MarkerTextModel", name := "give", desc := "(I)V" } : Jvm.MethodName)) ∈ xT := xT_at 1392 (by decide +kernel) (by decide +kernel)
theorem xw_1391 : (Jvm.Cond.methodLink "MarkerTextLaw" (60 : Nat) ({ cls := "MarkerTextModel", name := "give", desc := "(I)V" } : Jvm.MethodName)) ∈ xT := xT_at 1391 (by decide +kernel) (by decide +kernel)
theorem xw_1393 : (Jvm.Cond.selects "MarkerTextModel" ({ cls := "MarkerTextModel", name := "give", desc := "(I)V" } : Jvm.MethodName) ({ cls := "MarkerTextModel", name := "give", desc := "(I)V" } : Jvm.MethodName)) ∈ xT := xT_at 1393 (by decide +kernel) (by decide +kernel)
theorem xcv_Law_60_Mo : xCV "MarkerTextLaw" 60 "MarkerTextModel" M_Mo_give 1 := ⟨xcb_Mo_give, xw_1392, Or.inl ⟨xw_1391, Or.inl xw_1393⟩⟩
theorem d_Law_law_274 : decode M_Law_law.2.1 274 = .ok (.goto 288, 3) := by decide +kernel
theorem d_Law_law_277 : decode M_Law_law.2.1 277 = .ok (.aload_n 1, 1) := by decide +kernel
theorem d_Law_law_278 : decode M_Law_law.2.1 278 = .ok (.aload_n 0, 1) := by decide +kernel
theorem d_Law_law_279 : decode M_Law_law.2.1 279 = .ok (.iload 4, 2) := by decide +kernel
theorem d_Law_law_281 : decode M_Law_law.2.1 281 = .ok (.iconst 1, 1) := by decide +kernel
theorem d_Law_law_282 : decode M_Law_law.2.1 282 = .ok (.iadd, 1) := by decide +kernel
theorem d_Law_law_283 : decode M_Law_law.2.1 283 = .ok (.iaload, 1) := by decide +kernel
theorem d_Law_law_284 : decode M_Law_law.2.1 284 = .ok (.invokevirtual 61, 3) := by decide +kernel
theorem xw_281 : (Jvm.Cond.code ({ cls := "MarkerText", name := "holds", desc := "(I)Z" } : Jvm.MethodName) prog_1_method_8_code (3 : Nat) (Option.some Jvm.ClassFile.FieldType.boolean)) ∈ xT := xT_at 281 (by decide +kernel) (by decide +kernel)
theorem xcb_MT_holds : xcb M_MT_holds 1 := ⟨xw_281, xw_1, by decide, by decide, by decide, by decide +kernel⟩
theorem xw_279 : (Jvm.Cond.instanceMethod ({ cls := "MarkerText", name := "holds", desc := "(I)Z" } : Jvm.MethodName)) ∈ xT := xT_at 279 (by decide +kernel) (by decide +kernel)
theorem xw_278 : (Jvm.Cond.methodLink "MarkerTextLaw" (61 : Nat) ({ cls := "MarkerText", name := "holds", desc := "(I)Z" } : Jvm.MethodName)) ∈ xT := xT_at 278 (by decide +kernel) (by decide +kernel)
theorem xw_280 : (Jvm.Cond.selects "MarkerText" ({ cls := "MarkerText", name := "holds", desc := "(I)Z" } : Jvm.MethodName) ({ cls := "MarkerText", name := "holds", desc := "(I)Z" } : Jvm.MethodName)) ∈ xT := xT_at 280 (by decide +kernel) (by decide +kernel)
theorem xcv_Law_61_MT : xCV "MarkerTextLaw" 61 "MarkerText" M_MT_holds 1 := ⟨xcb_MT_holds, xw_279, Or.inl ⟨xw_278, Or.inl xw_280⟩⟩
theorem d_Law_law_287 : decode M_Law_law.2.1 287 = .ok (.pop, 1) := by decide +kernel
theorem d_Law_law_288 : decode M_Law_law.2.1 288 = .ok (.aload_n 2, 1) := by decide +kernel
theorem d_Law_law_289 : decode M_Law_law.2.1 289 = .ok (.aload_n 0, 1) := by decide +kernel
theorem d_Law_law_290 : decode M_Law_law.2.1 290 = .ok (.iload 4, 2) := by decide +kernel
theorem d_Law_law_292 : decode M_Law_law.2.1 292 = .ok (.iconst 1, 1) := by decide +kernel
theorem d_Law_law_293 : decode M_Law_law.2.1 293 = .ok (.iadd, 1) := by decide +kernel
theorem d_Law_law_294 : decode M_Law_law.2.1 294 = .ok (.iaload, 1) := by decide +kernel
theorem d_Law_law_295 : decode M_Law_law.2.1 295 = .ok (.invokevirtual 65, 3) := by decide +kernel
theorem xw_1482 : (Jvm.Cond.code ({ cls := "MarkerTextModel", name := "holds", desc := "(I)Z" } : Jvm.MethodName) prog_13_method_42_code (2 : Nat) (Option.some Jvm.ClassFile.FieldType.boolean)) ∈ xT := xT_at 1482 (by decide +kernel) (by decide +kernel)
theorem xcb_Mo_holds : xcb M_Mo_holds 1 := ⟨xw_1482, xw_8, by decide, by decide, by decide, by decide +kernel⟩
theorem xw_1480 : (Jvm.Cond.instanceMethod ({ cls := "MarkerTextModel", name := "holds", desc := "(I)Z" } : Jvm.MethodName)) ∈ xT := xT_at 1480 (by decide +kernel) (by decide +kernel)
theorem xw_1479 : (Jvm.Cond.methodLink "MarkerTextLaw" (65 : Nat) ({ cls := "MarkerTextModel", name := "holds", desc := "(I)Z" } : Jvm.MethodName)) ∈ xT := xT_at 1479 (by decide +kernel) (by decide +kernel)
theorem xw_1481 : (Jvm.Cond.selects "MarkerTextModel" ({ cls := "MarkerTextModel", name := "holds", desc := "(I)Z" } : Jvm.MethodName) ({ cls := "MarkerTextModel", name := "holds", desc := "(I)Z" } : Jvm.MethodName)) ∈ xT := xT_at 1481 (by decide +kernel) (by decide +kernel)
theorem xcv_Law_65_Mo : xCV "MarkerTextLaw" 65 "MarkerTextModel" M_Mo_holds 1 := ⟨xcb_Mo_holds, xw_1480, Or.inl ⟨xw_1479, Or.inl xw_1481⟩⟩
theorem d_Law_law_298 : decode M_Law_law.2.1 298 = .ok (.pop, 1) := by decide +kernel
theorem d_Law_law_299 : decode M_Law_law.2.1 299 = .ok (.goto 263, 3) := by decide +kernel
theorem d_Law_law_302 : decode M_Law_law.2.1 302 = .ok (.aload_n 1, 1) := by decide +kernel
theorem d_Law_law_303 : decode M_Law_law.2.1 303 = .ok (.aload_n 0, 1) := by decide +kernel
theorem d_Law_law_304 : decode M_Law_law.2.1 304 = .ok (.iload 4, 2) := by decide +kernel
theorem d_Law_law_306 : decode M_Law_law.2.1 306 = .ok (.iconst 1, 1) := by decide +kernel
theorem d_Law_law_307 : decode M_Law_law.2.1 307 = .ok (.iadd, 1) := by decide +kernel
theorem d_Law_law_308 : decode M_Law_law.2.1 308 = .ok (.iaload, 1) := by decide +kernel
theorem d_Law_law_309 : decode M_Law_law.2.1 309 = .ok (.invokevirtual 66, 3) := by decide +kernel
theorem xw_309 : (Jvm.Cond.code ({ cls := "MarkerText", name := "ever", desc := "(I)I" } : Jvm.MethodName) prog_1_method_9_code (2 : Nat) (Option.some Jvm.ClassFile.FieldType.int)) ∈ xT := xT_at 309 (by decide +kernel) (by decide +kernel)
theorem xcb_MT_ever : xcb M_MT_ever 1 := ⟨xw_309, xw_1, by decide, by decide, by decide, by decide +kernel⟩
theorem xw_307 : (Jvm.Cond.instanceMethod ({ cls := "MarkerText", name := "ever", desc := "(I)I" } : Jvm.MethodName)) ∈ xT := xT_at 307 (by decide +kernel) (by decide +kernel)
theorem xw_306 : (Jvm.Cond.methodLink "MarkerTextLaw" (66 : Nat) ({ cls := "MarkerText", name := "ever", desc := "(I)I" } : Jvm.MethodName)) ∈ xT := xT_at 306 (by decide +kernel) (by decide +kernel)
theorem xw_308 : (Jvm.Cond.selects "MarkerText" ({ cls := "MarkerText", name := "ever", desc := "(I)I" } : Jvm.MethodName) ({ cls := "MarkerText", name := "ever", desc := "(I)I" } : Jvm.MethodName)) ∈ xT := xT_at 308 (by decide +kernel) (by decide +kernel)
theorem xcv_Law_66_MT : xCV "MarkerTextLaw" 66 "MarkerText" M_MT_ever 1 := ⟨xcb_MT_ever, xw_307, Or.inl ⟨xw_306, Or.inl xw_308⟩⟩
theorem d_Law_law_312 : decode M_Law_law.2.1 312 = .ok (.pop, 1) := by decide +kernel
theorem d_Law_law_313 : decode M_Law_law.2.1 313 = .ok (.aload_n 2, 1) := by decide +kernel
theorem d_Law_law_314 : decode M_Law_law.2.1 314 = .ok (.aload_n 0, 1) := by decide +kernel
theorem d_Law_law_315 : decode M_Law_law.2.1 315 = .ok (.iload 4, 2) := by decide +kernel
theorem d_Law_law_317 : decode M_Law_law.2.1 317 = .ok (.iconst 1, 1) := by decide +kernel
theorem d_Law_law_318 : decode M_Law_law.2.1 318 = .ok (.iadd, 1) := by decide +kernel
theorem d_Law_law_319 : decode M_Law_law.2.1 319 = .ok (.iaload, 1) := by decide +kernel
theorem d_Law_law_320 : decode M_Law_law.2.1 320 = .ok (.invokevirtual 69, 3) := by decide +kernel
theorem xw_1501 : (Jvm.Cond.code ({ cls := "MarkerTextModel", name := "ever", desc := "(I)I" } : Jvm.MethodName) prog_13_method_51_code (2 : Nat) (Option.some Jvm.ClassFile.FieldType.int)) ∈ xT := xT_at 1501 (by decide +kernel) (by decide +kernel)
theorem xcb_Mo_ever : xcb M_Mo_ever 1 := ⟨xw_1501, xw_8, by decide, by decide, by decide, by decide +kernel⟩
theorem xw_1499 : (Jvm.Cond.instanceMethod ({ cls := "MarkerTextModel", name := "ever", desc := "(I)I" } : Jvm.MethodName)) ∈ xT := xT_at 1499 (by decide +kernel) (by decide +kernel)
theorem xw_1498 : (Jvm.Cond.methodLink "MarkerTextLaw" (69 : Nat) ({ cls := "MarkerTextModel", name := "ever", desc := "(I)I" } : Jvm.MethodName)) ∈ xT := xT_at 1498 (by decide +kernel) (by decide +kernel)
theorem xw_1500 : (Jvm.Cond.selects "MarkerTextModel" ({ cls := "MarkerTextModel", name := "ever", desc := "(I)I" } : Jvm.MethodName) ({ cls := "MarkerTextModel", name := "ever", desc := "(I)I" } : Jvm.MethodName)) ∈ xT := xT_at 1500 (by decide +kernel) (by decide +kernel)
theorem xcv_Law_69_Mo : xCV "MarkerTextLaw" 69 "MarkerTextModel" M_Mo_ever 1 := ⟨xcb_Mo_ever, xw_1499, Or.inl ⟨xw_1498, Or.inl xw_1500⟩⟩
theorem d_Law_law_323 : decode M_Law_law.2.1 323 = .ok (.pop, 1) := by decide +kernel
theorem d_Law_law_324 : decode M_Law_law.2.1 324 = .ok (.goto 238, 3) := by decide +kernel
theorem d_Law_law_327 : decode M_Law_law.2.1 327 = .ok (.aload_n 1, 1) := by decide +kernel
theorem d_Law_law_328 : decode M_Law_law.2.1 328 = .ok (.aload_n 0, 1) := by decide +kernel
theorem d_Law_law_329 : decode M_Law_law.2.1 329 = .ok (.iload 4, 2) := by decide +kernel
theorem d_Law_law_331 : decode M_Law_law.2.1 331 = .ok (.iconst 1, 1) := by decide +kernel
theorem d_Law_law_332 : decode M_Law_law.2.1 332 = .ok (.iadd, 1) := by decide +kernel
theorem d_Law_law_333 : decode M_Law_law.2.1 333 = .ok (.iaload, 1) := by decide +kernel
theorem d_Law_law_334 : decode M_Law_law.2.1 334 = .ok (.aload_n 0, 1) := by decide +kernel
theorem d_Law_law_335 : decode M_Law_law.2.1 335 = .ok (.iload 4, 2) := by decide +kernel
theorem d_Law_law_337 : decode M_Law_law.2.1 337 = .ok (.iconst 2, 1) := by decide +kernel
theorem d_Law_law_338 : decode M_Law_law.2.1 338 = .ok (.iadd, 1) := by decide +kernel
theorem d_Law_law_339 : decode M_Law_law.2.1 339 = .ok (.iaload, 1) := by decide +kernel
theorem d_Law_law_340 : decode M_Law_law.2.1 340 = .ok (.invokevirtual 70, 3) := by decide +kernel
theorem xw_366 : (Jvm.Cond.code ({ cls := "MarkerText", name := "implies", desc := "(II)I" } : Jvm.MethodName) prog_1_method_10_code (3 : Nat) (Option.some Jvm.ClassFile.FieldType.int)) ∈ xT := xT_at 366 (by decide +kernel) (by decide +kernel)
theorem xcb_MT_implies : xcb M_MT_implies 2 := ⟨xw_366, xw_1, by decide, by decide, by decide, by decide +kernel⟩
theorem xw_364 : (Jvm.Cond.instanceMethod ({ cls := "MarkerText", name := "implies", desc := "(II)I" } : Jvm.MethodName)) ∈ xT := xT_at 364 (by decide +kernel) (by decide +kernel)
theorem xw_363 : (Jvm.Cond.methodLink "MarkerTextLaw" (70 : Nat) ({ cls := "MarkerText", name := "implies", desc := "(II)I" } : Jvm.MethodName)) ∈ xT := xT_at 363 (by decide +kernel) (by decide +kernel)
theorem xw_365 : (Jvm.Cond.selects "MarkerText" ({ cls := "MarkerText", name := "implies", desc := "(II)I" } : Jvm.MethodName) ({ cls := "MarkerText", name := "implies", desc := "(II)I" } : Jvm.MethodName)) ∈ xT := xT_at 365 (by decide +kernel) (by decide +kernel)
theorem xcv_Law_70_MT : xCV "MarkerTextLaw" 70 "MarkerText" M_MT_implies 2 := ⟨xcb_MT_implies, xw_364, Or.inl ⟨xw_363, Or.inl xw_365⟩⟩
theorem d_Law_law_343 : decode M_Law_law.2.1 343 = .ok (.pop, 1) := by decide +kernel
theorem d_Law_law_344 : decode M_Law_law.2.1 344 = .ok (.aload_n 2, 1) := by decide +kernel
theorem d_Law_law_345 : decode M_Law_law.2.1 345 = .ok (.aload_n 0, 1) := by decide +kernel
theorem d_Law_law_346 : decode M_Law_law.2.1 346 = .ok (.iload 4, 2) := by decide +kernel
theorem d_Law_law_348 : decode M_Law_law.2.1 348 = .ok (.iconst 1, 1) := by decide +kernel
theorem d_Law_law_349 : decode M_Law_law.2.1 349 = .ok (.iadd, 1) := by decide +kernel
theorem d_Law_law_350 : decode M_Law_law.2.1 350 = .ok (.iaload, 1) := by decide +kernel
theorem d_Law_law_351 : decode M_Law_law.2.1 351 = .ok (.aload_n 0, 1) := by decide +kernel
theorem d_Law_law_352 : decode M_Law_law.2.1 352 = .ok (.iload 4, 2) := by decide +kernel
theorem d_Law_law_354 : decode M_Law_law.2.1 354 = .ok (.iconst 2, 1) := by decide +kernel
theorem d_Law_law_355 : decode M_Law_law.2.1 355 = .ok (.iadd, 1) := by decide +kernel
theorem d_Law_law_356 : decode M_Law_law.2.1 356 = .ok (.iaload, 1) := by decide +kernel
theorem d_Law_law_357 : decode M_Law_law.2.1 357 = .ok (.invokevirtual 74, 3) := by decide +kernel
theorem xw_1538 : (Jvm.Cond.code ({ cls := "MarkerTextModel", name := "implies", desc := "(II)I" } : Jvm.MethodName) prog_13_method_52_code (4 : Nat) (Option.some Jvm.ClassFile.FieldType.int)) ∈ xT := xT_at 1538 (by decide +kernel) (by decide +kernel)
theorem xcb_Mo_implies : xcb M_Mo_implies 2 := ⟨xw_1538, xw_8, by decide, by decide, by decide, by decide +kernel⟩
theorem xw_1536 : (Jvm.Cond.instanceMethod ({ cls := "MarkerTextModel", name := "implies", desc := "(II)I" } : Jvm.MethodName)) ∈ xT := xT_at 1536 (by decide +kernel) (by decide +kernel)
theorem xw_1535 : (Jvm.Cond.methodLink "MarkerTextLaw" (74 : Nat) ({ cls := "MarkerTextModel", name := "implies", desc := "(II)I" } : Jvm.MethodName)) ∈ xT := xT_at 1535 (by decide +kernel) (by decide +kernel)
theorem xw_1537 : (Jvm.Cond.selects "MarkerTextModel" ({ cls := "MarkerTextModel", name := "implies", desc := "(II)I" } : Jvm.MethodName) ({ cls := "MarkerTextModel", name := "implies", desc := "(II)I" } : Jvm.MethodName)) ∈ xT := xT_at 1537 (by decide +kernel) (by decide +kernel)
theorem xcv_Law_74_Mo : xCV "MarkerTextLaw" 74 "MarkerTextModel" M_Mo_implies 2 := ⟨xcb_Mo_implies, xw_1536, Or.inl ⟨xw_1535, Or.inl xw_1537⟩⟩
theorem d_Law_law_360 : decode M_Law_law.2.1 360 = .ok (.pop, 1) := by decide +kernel
theorem d_Law_law_361 : decode M_Law_law.2.1 361 = .ok (.goto 201, 3) := by decide +kernel
theorem d_Law_law_364 : decode M_Law_law.2.1 364 = .ok (.aload_n 1, 1) := by decide +kernel
theorem d_Law_law_365 : decode M_Law_law.2.1 365 = .ok (.aload_n 0, 1) := by decide +kernel
theorem d_Law_law_366 : decode M_Law_law.2.1 366 = .ok (.iload 4, 2) := by decide +kernel
theorem d_Law_law_368 : decode M_Law_law.2.1 368 = .ok (.iconst 1, 1) := by decide +kernel
theorem d_Law_law_369 : decode M_Law_law.2.1 369 = .ok (.iadd, 1) := by decide +kernel
theorem d_Law_law_370 : decode M_Law_law.2.1 370 = .ok (.iaload, 1) := by decide +kernel
theorem d_Law_law_371 : decode M_Law_law.2.1 371 = .ok (.aload_n 0, 1) := by decide +kernel
theorem d_Law_law_372 : decode M_Law_law.2.1 372 = .ok (.iload 4, 2) := by decide +kernel
theorem d_Law_law_374 : decode M_Law_law.2.1 374 = .ok (.iconst 2, 1) := by decide +kernel
theorem d_Law_law_375 : decode M_Law_law.2.1 375 = .ok (.iadd, 1) := by decide +kernel
theorem d_Law_law_376 : decode M_Law_law.2.1 376 = .ok (.iaload, 1) := by decide +kernel
theorem d_Law_law_377 : decode M_Law_law.2.1 377 = .ok (.invokevirtual 75, 3) := by decide +kernel
theorem xw_373 : (Jvm.Cond.code ({ cls := "MarkerText", name := "apart", desc := "(II)I" } : Jvm.MethodName) prog_1_method_11_code (3 : Nat) (Option.some Jvm.ClassFile.FieldType.int)) ∈ xT := xT_at 373 (by decide +kernel) (by decide +kernel)
theorem xcb_MT_apart : xcb M_MT_apart 2 := ⟨xw_373, xw_1, by decide, by decide, by decide, by decide +kernel⟩
theorem xw_371 : (Jvm.Cond.instanceMethod ({ cls := "MarkerText", name := "apart", desc := "(II)I" } : Jvm.MethodName)) ∈ xT := xT_at 371 (by decide +kernel) (by decide +kernel)
theorem xw_370 : (Jvm.Cond.methodLink "MarkerTextLaw" (75 : Nat) ({ cls := "MarkerText", name := "apart", desc := "(II)I" } : Jvm.MethodName)) ∈ xT := xT_at 370 (by decide +kernel) (by decide +kernel)
theorem xw_372 : (Jvm.Cond.selects "MarkerText" ({ cls := "MarkerText", name := "apart", desc := "(II)I" } : Jvm.MethodName) ({ cls := "MarkerText", name := "apart", desc := "(II)I" } : Jvm.MethodName)) ∈ xT := xT_at 372 (by decide +kernel) (by decide +kernel)
theorem xcv_Law_75_MT : xCV "MarkerTextLaw" 75 "MarkerText" M_MT_apart 2 := ⟨xcb_MT_apart, xw_371, Or.inl ⟨xw_370, Or.inl xw_372⟩⟩
theorem d_Law_law_380 : decode M_Law_law.2.1 380 = .ok (.pop, 1) := by decide +kernel
theorem d_Law_law_381 : decode M_Law_law.2.1 381 = .ok (.aload_n 2, 1) := by decide +kernel
theorem d_Law_law_382 : decode M_Law_law.2.1 382 = .ok (.aload_n 0, 1) := by decide +kernel
theorem d_Law_law_383 : decode M_Law_law.2.1 383 = .ok (.iload 4, 2) := by decide +kernel
theorem d_Law_law_385 : decode M_Law_law.2.1 385 = .ok (.iconst 1, 1) := by decide +kernel
theorem d_Law_law_386 : decode M_Law_law.2.1 386 = .ok (.iadd, 1) := by decide +kernel
theorem d_Law_law_387 : decode M_Law_law.2.1 387 = .ok (.iaload, 1) := by decide +kernel
theorem d_Law_law_388 : decode M_Law_law.2.1 388 = .ok (.aload_n 0, 1) := by decide +kernel
theorem d_Law_law_389 : decode M_Law_law.2.1 389 = .ok (.iload 4, 2) := by decide +kernel
theorem d_Law_law_391 : decode M_Law_law.2.1 391 = .ok (.iconst 2, 1) := by decide +kernel
theorem d_Law_law_392 : decode M_Law_law.2.1 392 = .ok (.iadd, 1) := by decide +kernel
theorem d_Law_law_393 : decode M_Law_law.2.1 393 = .ok (.iaload, 1) := by decide +kernel
theorem d_Law_law_394 : decode M_Law_law.2.1 394 = .ok (.invokevirtual 78, 3) := by decide +kernel
theorem xw_1542 : (Jvm.Cond.code ({ cls := "MarkerTextModel", name := "apart", desc := "(II)I" } : Jvm.MethodName) prog_13_method_53_code (4 : Nat) (Option.some Jvm.ClassFile.FieldType.int)) ∈ xT := xT_at 1542 (by decide +kernel) (by decide +kernel)
theorem xcb_Mo_apart : xcb M_Mo_apart 2 := ⟨xw_1542, xw_8, by decide, by decide, by decide, by decide +kernel⟩
theorem xw_1540 : (Jvm.Cond.instanceMethod ({ cls := "MarkerTextModel", name := "apart", desc := "(II)I" } : Jvm.MethodName)) ∈ xT := xT_at 1540 (by decide +kernel) (by decide +kernel)
theorem xw_1539 : (Jvm.Cond.methodLink "MarkerTextLaw" (78 : Nat) ({ cls := "MarkerTextModel", name := "apart", desc := "(II)I" } : Jvm.MethodName)) ∈ xT := xT_at 1539 (by decide +kernel) (by decide +kernel)
theorem xw_1541 : (Jvm.Cond.selects "MarkerTextModel" ({ cls := "MarkerTextModel", name := "apart", desc := "(II)I" } : Jvm.MethodName) ({ cls := "MarkerTextModel", name := "apart", desc := "(II)I" } : Jvm.MethodName)) ∈ xT := xT_at 1541 (by decide +kernel) (by decide +kernel)
theorem xcv_Law_78_Mo : xCV "MarkerTextLaw" 78 "MarkerTextModel" M_Mo_apart 2 := ⟨xcb_Mo_apart, xw_1540, Or.inl ⟨xw_1539, Or.inl xw_1541⟩⟩
theorem d_Law_law_397 : decode M_Law_law.2.1 397 = .ok (.pop, 1) := by decide +kernel
theorem d_Law_law_398 : decode M_Law_law.2.1 398 = .ok (.goto 164, 3) := by decide +kernel
theorem d_Law_law_401 : decode M_Law_law.2.1 401 = .ok (.aload_n 1, 1) := by decide +kernel
theorem d_Law_law_402 : decode M_Law_law.2.1 402 = .ok (.aload_n 0, 1) := by decide +kernel
theorem d_Law_law_403 : decode M_Law_law.2.1 403 = .ok (.iload 4, 2) := by decide +kernel
theorem d_Law_law_405 : decode M_Law_law.2.1 405 = .ok (.iconst 1, 1) := by decide +kernel
theorem d_Law_law_406 : decode M_Law_law.2.1 406 = .ok (.iadd, 1) := by decide +kernel
theorem d_Law_law_407 : decode M_Law_law.2.1 407 = .ok (.iaload, 1) := by decide +kernel
theorem d_Law_law_408 : decode M_Law_law.2.1 408 = .ok (.invokevirtual 79, 3) := by decide +kernel
theorem xw_377 : (Jvm.Cond.code ({ cls := "MarkerText", name := "classes", desc := "(I)I" } : Jvm.MethodName) prog_1_method_12_code (3 : Nat) (Option.some Jvm.ClassFile.FieldType.int)) ∈ xT := xT_at 377 (by decide +kernel) (by decide +kernel)
theorem xcb_MT_classes : xcb M_MT_classes 1 := ⟨xw_377, xw_1, by decide, by decide, by decide, by decide +kernel⟩
theorem xw_375 : (Jvm.Cond.instanceMethod ({ cls := "MarkerText", name := "classes", desc := "(I)I" } : Jvm.MethodName)) ∈ xT := xT_at 375 (by decide +kernel) (by decide +kernel)
theorem xw_374 : (Jvm.Cond.methodLink "MarkerTextLaw" (79 : Nat) ({ cls := "MarkerText", name := "classes", desc := "(I)I" } : Jvm.MethodName)) ∈ xT := xT_at 374 (by decide +kernel) (by decide +kernel)
theorem xw_376 : (Jvm.Cond.selects "MarkerText" ({ cls := "MarkerText", name := "classes", desc := "(I)I" } : Jvm.MethodName) ({ cls := "MarkerText", name := "classes", desc := "(I)I" } : Jvm.MethodName)) ∈ xT := xT_at 376 (by decide +kernel) (by decide +kernel)
theorem xcv_Law_79_MT : xCV "MarkerTextLaw" 79 "MarkerText" M_MT_classes 1 := ⟨xcb_MT_classes, xw_375, Or.inl ⟨xw_374, Or.inl xw_376⟩⟩
theorem d_Law_law_411 : decode M_Law_law.2.1 411 = .ok (.pop, 1) := by decide +kernel
theorem d_Law_law_412 : decode M_Law_law.2.1 412 = .ok (.aload_n 2, 1) := by decide +kernel
theorem d_Law_law_413 : decode M_Law_law.2.1 413 = .ok (.aload_n 0, 1) := by decide +kernel
theorem d_Law_law_414 : decode M_Law_law.2.1 414 = .ok (.iload 4, 2) := by decide +kernel
theorem d_Law_law_416 : decode M_Law_law.2.1 416 = .ok (.iconst 1, 1) := by decide +kernel
theorem d_Law_law_417 : decode M_Law_law.2.1 417 = .ok (.iadd, 1) := by decide +kernel
theorem d_Law_law_418 : decode M_Law_law.2.1 418 = .ok (.iaload, 1) := by decide +kernel
theorem d_Law_law_419 : decode M_Law_law.2.1 419 = .ok (.invokevirtual 82, 3) := by decide +kernel
theorem xw_1546 : (Jvm.Cond.code ({ cls := "MarkerTextModel", name := "classes", desc := "(I)I" } : Jvm.MethodName) prog_13_method_54_code (7 : Nat) (Option.some Jvm.ClassFile.FieldType.int)) ∈ xT := xT_at 1546 (by decide +kernel) (by decide +kernel)
theorem xcb_Mo_classes : xcb M_Mo_classes 1 := ⟨xw_1546, xw_8, by decide, by decide, by decide, by decide +kernel⟩
theorem xw_1544 : (Jvm.Cond.instanceMethod ({ cls := "MarkerTextModel", name := "classes", desc := "(I)I" } : Jvm.MethodName)) ∈ xT := xT_at 1544 (by decide +kernel) (by decide +kernel)
theorem xw_1543 : (Jvm.Cond.methodLink "MarkerTextLaw" (82 : Nat) ({ cls := "MarkerTextModel", name := "classes", desc := "(I)I" } : Jvm.MethodName)) ∈ xT := xT_at 1543 (by decide +kernel) (by decide +kernel)
theorem xw_1545 : (Jvm.Cond.selects "MarkerTextModel" ({ cls := "MarkerTextModel", name := "classes", desc := "(I)I" } : Jvm.MethodName) ({ cls := "MarkerTextModel", name := "classes", desc := "(I)I" } : Jvm.MethodName)) ∈ xT := xT_at 1545 (by decide +kernel) (by decide +kernel)
theorem xcv_Law_82_Mo : xCV "MarkerTextLaw" 82 "MarkerTextModel" M_Mo_classes 1 := ⟨xcb_Mo_classes, xw_1544, Or.inl ⟨xw_1543, Or.inl xw_1545⟩⟩
theorem d_Law_law_422 : decode M_Law_law.2.1 422 = .ok (.pop, 1) := by decide +kernel
theorem d_Law_law_423 : decode M_Law_law.2.1 423 = .ok (.goto 139, 3) := by decide +kernel
theorem d_Law_law_426 : decode M_Law_law.2.1 426 = .ok (.aload_n 1, 1) := by decide +kernel
theorem d_Law_law_427 : decode M_Law_law.2.1 427 = .ok (.aload_n 0, 1) := by decide +kernel
theorem d_Law_law_428 : decode M_Law_law.2.1 428 = .ok (.iload 4, 2) := by decide +kernel
theorem d_Law_law_430 : decode M_Law_law.2.1 430 = .ok (.iconst 1, 1) := by decide +kernel
theorem d_Law_law_431 : decode M_Law_law.2.1 431 = .ok (.iadd, 1) := by decide +kernel
theorem d_Law_law_432 : decode M_Law_law.2.1 432 = .ok (.iaload, 1) := by decide +kernel
theorem d_Law_law_433 : decode M_Law_law.2.1 433 = .ok (.invokevirtual 83, 3) := by decide +kernel
theorem xw_399 : (Jvm.Cond.code ({ cls := "MarkerText", name := "many", desc := "(I)I" } : Jvm.MethodName) prog_1_method_13_code (2 : Nat) (Option.some Jvm.ClassFile.FieldType.int)) ∈ xT := xT_at 399 (by decide +kernel) (by decide +kernel)
theorem xcb_MT_many : xcb M_MT_many 1 := ⟨xw_399, xw_1, by decide, by decide, by decide, by decide +kernel⟩
theorem xw_397 : (Jvm.Cond.instanceMethod ({ cls := "MarkerText", name := "many", desc := "(I)I" } : Jvm.MethodName)) ∈ xT := xT_at 397 (by decide +kernel) (by decide +kernel)
theorem xw_396 : (Jvm.Cond.methodLink "MarkerTextLaw" (83 : Nat) ({ cls := "MarkerText", name := "many", desc := "(I)I" } : Jvm.MethodName)) ∈ xT := xT_at 396 (by decide +kernel) (by decide +kernel)
theorem xw_398 : (Jvm.Cond.selects "MarkerText" ({ cls := "MarkerText", name := "many", desc := "(I)I" } : Jvm.MethodName) ({ cls := "MarkerText", name := "many", desc := "(I)I" } : Jvm.MethodName)) ∈ xT := xT_at 398 (by decide +kernel) (by decide +kernel)
theorem xcv_Law_83_MT : xCV "MarkerTextLaw" 83 "MarkerText" M_MT_many 1 := ⟨xcb_MT_many, xw_397, Or.inl ⟨xw_396, Or.inl xw_398⟩⟩
theorem d_Law_law_436 : decode M_Law_law.2.1 436 = .ok (.pop, 1) := by decide +kernel
theorem d_Law_law_437 : decode M_Law_law.2.1 437 = .ok (.aload_n 2, 1) := by decide +kernel
theorem d_Law_law_438 : decode M_Law_law.2.1 438 = .ok (.aload_n 0, 1) := by decide +kernel
theorem d_Law_law_439 : decode M_Law_law.2.1 439 = .ok (.iload 4, 2) := by decide +kernel
theorem d_Law_law_441 : decode M_Law_law.2.1 441 = .ok (.iconst 1, 1) := by decide +kernel
theorem d_Law_law_442 : decode M_Law_law.2.1 442 = .ok (.iadd, 1) := by decide +kernel
theorem d_Law_law_443 : decode M_Law_law.2.1 443 = .ok (.iaload, 1) := by decide +kernel
theorem d_Law_law_444 : decode M_Law_law.2.1 444 = .ok (.invokevirtual 86, 3) := by decide +kernel
theorem xw_1550 : (Jvm.Cond.code ({ cls := "MarkerTextModel", name := "many", desc := "(I)I" } : Jvm.MethodName) prog_13_method_55_code (2 : Nat) (Option.some Jvm.ClassFile.FieldType.int)) ∈ xT := xT_at 1550 (by decide +kernel) (by decide +kernel)
theorem xcb_Mo_many : xcb M_Mo_many 1 := ⟨xw_1550, xw_8, by decide, by decide, by decide, by decide +kernel⟩
theorem xw_1548 : (Jvm.Cond.instanceMethod ({ cls := "MarkerTextModel", name := "many", desc := "(I)I" } : Jvm.MethodName)) ∈ xT := xT_at 1548 (by decide +kernel) (by decide +kernel)
theorem xw_1547 : (Jvm.Cond.methodLink "MarkerTextLaw" (86 : Nat) ({ cls := "MarkerTextModel", name := "many", desc := "(I)I" } : Jvm.MethodName)) ∈ xT := xT_at 1547 (by decide +kernel) (by decide +kernel)
theorem xw_1549 : (Jvm.Cond.selects "MarkerTextModel" ({ cls := "MarkerTextModel", name := "many", desc := "(I)I" } : Jvm.MethodName) ({ cls := "MarkerTextModel", name := "many", desc := "(I)I" } : Jvm.MethodName)) ∈ xT := xT_at 1549 (by decide +kernel) (by decide +kernel)
theorem xcv_Law_86_Mo : xCV "MarkerTextLaw" 86 "MarkerTextModel" M_Mo_many 1 := ⟨xcb_Mo_many, xw_1548, Or.inl ⟨xw_1547, Or.inl xw_1549⟩⟩
theorem d_Law_law_447 : decode M_Law_law.2.1 447 = .ok (.pop, 1) := by decide +kernel
theorem d_Law_law_448 : decode M_Law_law.2.1 448 = .ok (.goto 114, 3) := by decide +kernel
theorem d_Law_law_451 : decode M_Law_law.2.1 451 = .ok (.aload_n 1, 1) := by decide +kernel
theorem d_Law_law_452 : decode M_Law_law.2.1 452 = .ok (.aload_n 0, 1) := by decide +kernel
theorem d_Law_law_453 : decode M_Law_law.2.1 453 = .ok (.iload 4, 2) := by decide +kernel
theorem d_Law_law_455 : decode M_Law_law.2.1 455 = .ok (.iconst 1, 1) := by decide +kernel
theorem d_Law_law_456 : decode M_Law_law.2.1 456 = .ok (.iadd, 1) := by decide +kernel
theorem d_Law_law_457 : decode M_Law_law.2.1 457 = .ok (.iaload, 1) := by decide +kernel
theorem d_Law_law_458 : decode M_Law_law.2.1 458 = .ok (.aload_n 0, 1) := by decide +kernel
theorem d_Law_law_459 : decode M_Law_law.2.1 459 = .ok (.iload 4, 2) := by decide +kernel
theorem d_Law_law_461 : decode M_Law_law.2.1 461 = .ok (.iconst 2, 1) := by decide +kernel
theorem d_Law_law_462 : decode M_Law_law.2.1 462 = .ok (.iadd, 1) := by decide +kernel
theorem d_Law_law_463 : decode M_Law_law.2.1 463 = .ok (.iaload, 1) := by decide +kernel
theorem d_Law_law_464 : decode M_Law_law.2.1 464 = .ok (.invokevirtual 87, 3) := by decide +kernel
theorem xw_404 : (Jvm.Cond.code ({ cls := "MarkerText", name := "inClass", desc := "(II)Z" } : Jvm.MethodName) prog_1_method_14_code (3 : Nat) (Option.some Jvm.ClassFile.FieldType.boolean)) ∈ xT := xT_at 404 (by decide +kernel) (by decide +kernel)
theorem xcb_MT_inClass : xcb M_MT_inClass 2 := ⟨xw_404, xw_1, by decide, by decide, by decide, by decide +kernel⟩
theorem xw_402 : (Jvm.Cond.instanceMethod ({ cls := "MarkerText", name := "inClass", desc := "(II)Z" } : Jvm.MethodName)) ∈ xT := xT_at 402 (by decide +kernel) (by decide +kernel)
theorem xw_401 : (Jvm.Cond.methodLink "MarkerTextLaw" (87 : Nat) ({ cls := "MarkerText", name := "inClass", desc := "(II)Z" } : Jvm.MethodName)) ∈ xT := xT_at 401 (by decide +kernel) (by decide +kernel)
theorem xw_403 : (Jvm.Cond.selects "MarkerText" ({ cls := "MarkerText", name := "inClass", desc := "(II)Z" } : Jvm.MethodName) ({ cls := "MarkerText", name := "inClass", desc := "(II)Z" } : Jvm.MethodName)) ∈ xT := xT_at 403 (by decide +kernel) (by decide +kernel)
theorem xcv_Law_87_MT : xCV "MarkerTextLaw" 87 "MarkerText" M_MT_inClass 2 := ⟨xcb_MT_inClass, xw_402, Or.inl ⟨xw_401, Or.inl xw_403⟩⟩
theorem d_Law_law_467 : decode M_Law_law.2.1 467 = .ok (.pop, 1) := by decide +kernel
theorem d_Law_law_468 : decode M_Law_law.2.1 468 = .ok (.aload_n 2, 1) := by decide +kernel
theorem d_Law_law_469 : decode M_Law_law.2.1 469 = .ok (.aload_n 0, 1) := by decide +kernel
theorem d_Law_law_470 : decode M_Law_law.2.1 470 = .ok (.iload 4, 2) := by decide +kernel
theorem d_Law_law_472 : decode M_Law_law.2.1 472 = .ok (.iconst 1, 1) := by decide +kernel
theorem d_Law_law_473 : decode M_Law_law.2.1 473 = .ok (.iadd, 1) := by decide +kernel
theorem d_Law_law_474 : decode M_Law_law.2.1 474 = .ok (.iaload, 1) := by decide +kernel
theorem d_Law_law_475 : decode M_Law_law.2.1 475 = .ok (.aload_n 0, 1) := by decide +kernel
theorem d_Law_law_476 : decode M_Law_law.2.1 476 = .ok (.iload 4, 2) := by decide +kernel
theorem d_Law_law_478 : decode M_Law_law.2.1 478 = .ok (.iconst 2, 1) := by decide +kernel
theorem d_Law_law_479 : decode M_Law_law.2.1 479 = .ok (.iadd, 1) := by decide +kernel
theorem d_Law_law_480 : decode M_Law_law.2.1 480 = .ok (.iaload, 1) := by decide +kernel
theorem d_Law_law_481 : decode M_Law_law.2.1 481 = .ok (.invokevirtual 91, 3) := by decide +kernel
theorem xw_1554 : (Jvm.Cond.code ({ cls := "MarkerTextModel", name := "inClass", desc := "(II)Z" } : Jvm.MethodName) prog_13_method_56_code (3 : Nat) (Option.some Jvm.ClassFile.FieldType.boolean)) ∈ xT := xT_at 1554 (by decide +kernel) (by decide +kernel)
theorem xcb_Mo_inClass : xcb M_Mo_inClass 2 := ⟨xw_1554, xw_8, by decide, by decide, by decide, by decide +kernel⟩
theorem xw_1552 : (Jvm.Cond.instanceMethod ({ cls := "MarkerTextModel", name := "inClass", desc := "(II)Z" } : Jvm.MethodName)) ∈ xT := xT_at 1552 (by decide +kernel) (by decide +kernel)
theorem xw_1551 : (Jvm.Cond.methodLink "MarkerTextLaw" (91 : Nat) ({ cls := "MarkerTextModel", name := "inClass", desc := "(II)Z" } : Jvm.MethodName)) ∈ xT := xT_at 1551 (by decide +kernel) (by decide +kernel)
theorem xw_1553 : (Jvm.Cond.selects "MarkerTextModel" ({ cls := "MarkerTextModel", name := "inClass", desc := "(II)Z" } : Jvm.MethodName) ({ cls := "MarkerTextModel", name := "inClass", desc := "(II)Z" } : Jvm.MethodName)) ∈ xT := xT_at 1553 (by decide +kernel) (by decide +kernel)
theorem xcv_Law_91_Mo : xCV "MarkerTextLaw" 91 "MarkerTextModel" M_Mo_inClass 2 := ⟨xcb_Mo_inClass, xw_1552, Or.inl ⟨xw_1551, Or.inl xw_1553⟩⟩
theorem d_Law_law_484 : decode M_Law_law.2.1 484 = .ok (.pop, 1) := by decide +kernel
theorem d_Law_law_485 : decode M_Law_law.2.1 485 = .ok (.goto 77, 3) := by decide +kernel
theorem d_Law_law_488 : decode M_Law_law.2.1 488 = .ok (.aload_n 1, 1) := by decide +kernel
theorem d_Law_law_489 : decode M_Law_law.2.1 489 = .ok (.aload_n 0, 1) := by decide +kernel
theorem d_Law_law_490 : decode M_Law_law.2.1 490 = .ok (.iload 4, 2) := by decide +kernel
theorem d_Law_law_492 : decode M_Law_law.2.1 492 = .ok (.iconst 1, 1) := by decide +kernel
theorem d_Law_law_493 : decode M_Law_law.2.1 493 = .ok (.iadd, 1) := by decide +kernel
theorem d_Law_law_494 : decode M_Law_law.2.1 494 = .ok (.iaload, 1) := by decide +kernel
theorem d_Law_law_495 : decode M_Law_law.2.1 495 = .ok (.aload_n 0, 1) := by decide +kernel
theorem d_Law_law_496 : decode M_Law_law.2.1 496 = .ok (.iload 4, 2) := by decide +kernel
theorem d_Law_law_498 : decode M_Law_law.2.1 498 = .ok (.iconst 2, 1) := by decide +kernel
theorem d_Law_law_499 : decode M_Law_law.2.1 499 = .ok (.iadd, 1) := by decide +kernel
theorem d_Law_law_500 : decode M_Law_law.2.1 500 = .ok (.iaload, 1) := by decide +kernel
theorem d_Law_law_501 : decode M_Law_law.2.1 501 = .ok (.invokevirtual 92, 3) := by decide +kernel
theorem xw_408 : (Jvm.Cond.code ({ cls := "MarkerText", name := "sample", desc := "(II)I" } : Jvm.MethodName) prog_1_method_15_code (3 : Nat) (Option.some Jvm.ClassFile.FieldType.int)) ∈ xT := xT_at 408 (by decide +kernel) (by decide +kernel)
theorem xcb_MT_sample : xcb M_MT_sample 2 := ⟨xw_408, xw_1, by decide, by decide, by decide, by decide +kernel⟩
theorem xw_406 : (Jvm.Cond.instanceMethod ({ cls := "MarkerText", name := "sample", desc := "(II)I" } : Jvm.MethodName)) ∈ xT := xT_at 406 (by decide +kernel) (by decide +kernel)
theorem xw_405 : (Jvm.Cond.methodLink "MarkerTextLaw" (92 : Nat) ({ cls := "MarkerText", name := "sample", desc := "(II)I" } : Jvm.MethodName)) ∈ xT := xT_at 405 (by decide +kernel) (by decide +kernel)
theorem xw_407 : (Jvm.Cond.selects "MarkerText" ({ cls := "MarkerText", name := "sample", desc := "(II)I" } : Jvm.MethodName) ({ cls := "MarkerText", name := "sample", desc := "(II)I" } : Jvm.MethodName)) ∈ xT := xT_at 407 (by decide +kernel) (by decide +kernel)
theorem xcv_Law_92_MT : xCV "MarkerTextLaw" 92 "MarkerText" M_MT_sample 2 := ⟨xcb_MT_sample, xw_406, Or.inl ⟨xw_405, Or.inl xw_407⟩⟩
theorem d_Law_law_504 : decode M_Law_law.2.1 504 = .ok (.pop, 1) := by decide +kernel
theorem d_Law_law_505 : decode M_Law_law.2.1 505 = .ok (.aload_n 2, 1) := by decide +kernel
theorem d_Law_law_506 : decode M_Law_law.2.1 506 = .ok (.aload_n 0, 1) := by decide +kernel
theorem d_Law_law_507 : decode M_Law_law.2.1 507 = .ok (.iload 4, 2) := by decide +kernel
theorem d_Law_law_509 : decode M_Law_law.2.1 509 = .ok (.iconst 1, 1) := by decide +kernel
theorem d_Law_law_510 : decode M_Law_law.2.1 510 = .ok (.iadd, 1) := by decide +kernel
theorem d_Law_law_511 : decode M_Law_law.2.1 511 = .ok (.iaload, 1) := by decide +kernel
theorem d_Law_law_512 : decode M_Law_law.2.1 512 = .ok (.aload_n 0, 1) := by decide +kernel
theorem d_Law_law_513 : decode M_Law_law.2.1 513 = .ok (.iload 4, 2) := by decide +kernel
theorem d_Law_law_515 : decode M_Law_law.2.1 515 = .ok (.iconst 2, 1) := by decide +kernel
theorem d_Law_law_516 : decode M_Law_law.2.1 516 = .ok (.iadd, 1) := by decide +kernel
theorem d_Law_law_517 : decode M_Law_law.2.1 517 = .ok (.iaload, 1) := by decide +kernel
theorem d_Law_law_518 : decode M_Law_law.2.1 518 = .ok (.invokevirtual 95, 3) := by decide +kernel
theorem xw_1558 : (Jvm.Cond.code ({ cls := "MarkerTextModel", name := "sample", desc := "(II)I" } : Jvm.MethodName) prog_13_method_57_code (3 : Nat) (Option.some Jvm.ClassFile.FieldType.int)) ∈ xT := xT_at 1558 (by decide +kernel) (by decide +kernel)
theorem xcb_Mo_sample : xcb M_Mo_sample 2 := ⟨xw_1558, xw_8, by decide, by decide, by decide, by decide +kernel⟩
theorem xw_1556 : (Jvm.Cond.instanceMethod ({ cls := "MarkerTextModel", name := "sample", desc := "(II)I" } : Jvm.MethodName)) ∈ xT := xT_at 1556 (by decide +kernel) (by decide +kernel)
theorem xw_1555 : (Jvm.Cond.methodLink "MarkerTextLaw" (95 : Nat) ({ cls := "MarkerTextModel", name := "sample", desc := "(II)I" } : Jvm.MethodName)) ∈ xT := xT_at 1555 (by decide +kernel) (by decide +kernel)
theorem xw_1557 : (Jvm.Cond.selects "MarkerTextModel" ({ cls := "MarkerTextModel", name := "sample", desc := "(II)I" } : Jvm.MethodName) ({ cls := "MarkerTextModel", name := "sample", desc := "(II)I" } : Jvm.MethodName)) ∈ xT := xT_at 1557 (by decide +kernel) (by decide +kernel)
theorem xcv_Law_95_Mo : xCV "MarkerTextLaw" 95 "MarkerTextModel" M_Mo_sample 2 := ⟨xcb_Mo_sample, xw_1556, Or.inl ⟨xw_1555, Or.inl xw_1557⟩⟩
theorem d_Law_law_521 : decode M_Law_law.2.1 521 = .ok (.pop, 1) := by decide +kernel
theorem d_Law_law_522 : decode M_Law_law.2.1 522 = .ok (.goto 40, 3) := by decide +kernel
theorem d_Law_law_525 : decode M_Law_law.2.1 525 = .ok (.aload_n 1, 1) := by decide +kernel
theorem d_Law_law_526 : decode M_Law_law.2.1 526 = .ok (.aload_n 0, 1) := by decide +kernel
theorem d_Law_law_527 : decode M_Law_law.2.1 527 = .ok (.iload 4, 2) := by decide +kernel
theorem d_Law_law_529 : decode M_Law_law.2.1 529 = .ok (.iconst 1, 1) := by decide +kernel
theorem d_Law_law_530 : decode M_Law_law.2.1 530 = .ok (.iadd, 1) := by decide +kernel
theorem d_Law_law_531 : decode M_Law_law.2.1 531 = .ok (.iaload, 1) := by decide +kernel
theorem d_Law_law_532 : decode M_Law_law.2.1 532 = .ok (.aload_n 0, 1) := by decide +kernel
theorem d_Law_law_533 : decode M_Law_law.2.1 533 = .ok (.iload 4, 2) := by decide +kernel
theorem d_Law_law_535 : decode M_Law_law.2.1 535 = .ok (.iconst 2, 1) := by decide +kernel
theorem d_Law_law_536 : decode M_Law_law.2.1 536 = .ok (.iadd, 1) := by decide +kernel
theorem d_Law_law_537 : decode M_Law_law.2.1 537 = .ok (.iaload, 1) := by decide +kernel
theorem d_Law_law_538 : decode M_Law_law.2.1 538 = .ok (.invokevirtual 96, 3) := by decide +kernel
theorem xw_420 : (Jvm.Cond.code ({ cls := "MarkerText", name := "printed", desc := "(II)I" } : Jvm.MethodName) prog_1_method_16_code (4 : Nat) (Option.some Jvm.ClassFile.FieldType.int)) ∈ xT := xT_at 420 (by decide +kernel) (by decide +kernel)
theorem xcb_MT_printed : xcb M_MT_printed 2 := ⟨xw_420, xw_1, by decide, by decide, by decide, by decide +kernel⟩
theorem xw_418 : (Jvm.Cond.instanceMethod ({ cls := "MarkerText", name := "printed", desc := "(II)I" } : Jvm.MethodName)) ∈ xT := xT_at 418 (by decide +kernel) (by decide +kernel)
theorem xw_417 : (Jvm.Cond.methodLink "MarkerTextLaw" (96 : Nat) ({ cls := "MarkerText", name := "printed", desc := "(II)I" } : Jvm.MethodName)) ∈ xT := xT_at 417 (by decide +kernel) (by decide +kernel)
theorem xw_419 : (Jvm.Cond.selects "MarkerText" ({ cls := "MarkerText", name := "printed", desc := "(II)I" } : Jvm.MethodName) ({ cls := "MarkerText", name := "printed", desc := "(II)I" } : Jvm.MethodName)) ∈ xT := xT_at 419 (by decide +kernel) (by decide +kernel)
theorem xcv_Law_96_MT : xCV "MarkerTextLaw" 96 "MarkerText" M_MT_printed 2 := ⟨xcb_MT_printed, xw_418, Or.inl ⟨xw_417, Or.inl xw_419⟩⟩
theorem d_Law_law_541 : decode M_Law_law.2.1 541 = .ok (.pop, 1) := by decide +kernel
theorem d_Law_law_542 : decode M_Law_law.2.1 542 = .ok (.aload_n 2, 1) := by decide +kernel
theorem d_Law_law_543 : decode M_Law_law.2.1 543 = .ok (.aload_n 0, 1) := by decide +kernel
theorem d_Law_law_544 : decode M_Law_law.2.1 544 = .ok (.iload 4, 2) := by decide +kernel
theorem d_Law_law_546 : decode M_Law_law.2.1 546 = .ok (.iconst 1, 1) := by decide +kernel
theorem d_Law_law_547 : decode M_Law_law.2.1 547 = .ok (.iadd, 1) := by decide +kernel
theorem d_Law_law_548 : decode M_Law_law.2.1 548 = .ok (.iaload, 1) := by decide +kernel
theorem d_Law_law_549 : decode M_Law_law.2.1 549 = .ok (.aload_n 0, 1) := by decide +kernel
theorem d_Law_law_550 : decode M_Law_law.2.1 550 = .ok (.iload 4, 2) := by decide +kernel
theorem d_Law_law_552 : decode M_Law_law.2.1 552 = .ok (.iconst 2, 1) := by decide +kernel
theorem d_Law_law_553 : decode M_Law_law.2.1 553 = .ok (.iadd, 1) := by decide +kernel
theorem d_Law_law_554 : decode M_Law_law.2.1 554 = .ok (.iaload, 1) := by decide +kernel
theorem d_Law_law_555 : decode M_Law_law.2.1 555 = .ok (.invokevirtual 99, 3) := by decide +kernel
theorem xw_1562 : (Jvm.Cond.code ({ cls := "MarkerTextModel", name := "printed", desc := "(II)I" } : Jvm.MethodName) prog_13_method_65_code (3 : Nat) (Option.some Jvm.ClassFile.FieldType.int)) ∈ xT := xT_at 1562 (by decide +kernel) (by decide +kernel)
theorem xcb_Mo_printed : xcb M_Mo_printed 2 := ⟨xw_1562, xw_8, by decide, by decide, by decide, by decide +kernel⟩
theorem xw_1560 : (Jvm.Cond.instanceMethod ({ cls := "MarkerTextModel", name := "printed", desc := "(II)I" } : Jvm.MethodName)) ∈ xT := xT_at 1560 (by decide +kernel) (by decide +kernel)
theorem xw_1559 : (Jvm.Cond.methodLink "MarkerTextLaw" (99 : Nat) ({ cls := "MarkerTextModel", name := "printed", desc := "(II)I" } : Jvm.MethodName)) ∈ xT := xT_at 1559 (by decide +kernel) (by decide +kernel)
theorem xw_1561 : (Jvm.Cond.selects "MarkerTextModel" ({ cls := "MarkerTextModel", name := "printed", desc := "(II)I" } : Jvm.MethodName) ({ cls := "MarkerTextModel", name := "printed", desc := "(II)I" } : Jvm.MethodName)) ∈ xT := xT_at 1561 (by decide +kernel) (by decide +kernel)
theorem xcv_Law_99_Mo : xCV "MarkerTextLaw" 99 "MarkerTextModel" M_Mo_printed 2 := ⟨xcb_Mo_printed, xw_1560, Or.inl ⟨xw_1559, Or.inl xw_1561⟩⟩
theorem d_Law_law_558 : decode M_Law_law.2.1 558 = .ok (.pop, 1) := by decide +kernel
theorem d_Law_law_559 : decode M_Law_law.2.1 559 = .ok (.goto 3, 3) := by decide +kernel
theorem d_Law_law_23 : decode M_Law_law.2.1 23 = .ok (.iload 4, 2) := by decide +kernel
theorem d_Law_law_25 : decode M_Law_law.2.1 25 = .ok (.aload_n 0, 1) := by decide +kernel
theorem d_Law_law_26 : decode M_Law_law.2.1 26 = .ok (.arraylength, 1) := by decide +kernel
theorem d_Law_law_27 : decode M_Law_law.2.1 27 = .ok (.iconst 3, 1) := by decide +kernel
theorem d_Law_law_28 : decode M_Law_law.2.1 28 = .ok (.isub, 1) := by decide +kernel
theorem d_Law_law_29 : decode M_Law_law.2.1 29 = .ok (.if_icmp .gt 539, 3) := by decide +kernel
theorem d_Law_law_568 : decode M_Law_law.2.1 568 = .ok (.iconst 1, 1) := by decide +kernel
theorem d_Law_law_569 : decode M_Law_law.2.1 569 = .ok (.ireturn, 1) := by decide +kernel
theorem d_Law_law_562 : decode M_Law_law.2.1 562 = .ok (.iinc 4 3, 3) := by decide +kernel
theorem d_Law_law_565 : decode M_Law_law.2.1 565 = .ok (.goto (-542), 3) := by decide +kernel
theorem d_Law_law_32 : decode M_Law_law.2.1 32 = .ok (.aload_n 0, 1) := by decide +kernel
theorem d_Law_law_33 : decode M_Law_law.2.1 33 = .ok (.iload 4, 2) := by decide +kernel
theorem d_Law_law_35 : decode M_Law_law.2.1 35 = .ok (.iaload, 1) := by decide +kernel
theorem d_Law_law_36 : decode M_Law_law.2.1 36 = .ok (.bipush 15, 2) := by decide +kernel
theorem d_Law_law_38 : decode M_Law_law.2.1 38 = .ok (.iand, 1) := by decide +kernel
theorem d_Law_law_39 : decode M_Law_law.2.1 39 = .ok (.tableswitch 523 0 14 #[73, 100, 128, 156, 200, 213, 238, 263, 288, 325, 362, 387, 412, 449, 486], 73) := by decide +kernel
theorem d_Law_law_0 : decode M_Law_law.2.1 0 = .ok (.new 8, 3) := by decide +kernel
theorem xw_34 : (Jvm.Cond.classLink "MarkerTextLaw" (8 : Nat) "MarkerText") ∈ xT := xT_at 34 (by decide +kernel) (by decide +kernel)
theorem xw_35 : (Jvm.Cond.instantiable "MarkerText" (9 : Nat)) ∈ xT := xT_at 35 (by decide +kernel) (by decide +kernel)
theorem xnw_Law_8 : xNw "MarkerTextLaw" 8 k_MarkerText 9 [.null, .null, .int 0, .null, .int 0, .int 0, .null, .null, .null] := ⟨_, _, _, rfl, rfl, by decide +kernel, xw_34, xw_35, xw_1⟩
theorem d_Law_law_3 : decode M_Law_law.2.1 3 = .ok (.dup, 1) := by decide +kernel
theorem d_Law_law_4 : decode M_Law_law.2.1 4 = .ok (.invokespecial 28, 3) := by decide +kernel
theorem xw_38 : (Jvm.Cond.code ({ cls := "MarkerText", name := "<init>", desc := "()V" } : Jvm.MethodName) prog_1_method_1_code (1 : Nat) (Option.none : Option Jvm.ClassFile.FieldType)) ∈ xT := xT_at 38 (by decide +kernel) (by decide +kernel)
theorem xcb_MT_init : xcb M_MT_init 0 := ⟨xw_38, xw_1, by decide, by decide, by decide, by decide +kernel⟩
theorem xw_36 : (Jvm.Cond.methodLink "MarkerTextLaw" (28 : Nat) ({ cls := "MarkerText", name := "<init>", desc := "()V" } : Jvm.MethodName)) ∈ xT := xT_at 36 (by decide +kernel) (by decide +kernel)
theorem xw_37 : (Jvm.Cond.instanceMethod ({ cls := "MarkerText", name := "<init>", desc := "()V" } : Jvm.MethodName)) ∈ xT := xT_at 37 (by decide +kernel) (by decide +kernel)
theorem xci_Law_28 : xCI "MarkerTextLaw" 28 M_MT_init 0 := ⟨xcb_MT_init, rfl, rfl, xw_37, Or.inl xw_36⟩
theorem d_Law_law_7 : decode M_Law_law.2.1 7 = .ok (.astore_n 1, 1) := by decide +kernel
theorem d_Law_law_8 : decode M_Law_law.2.1 8 = .ok (.new 29, 3) := by decide +kernel
theorem xw_1164 : (Jvm.Cond.classLink "MarkerTextLaw" (29 : Nat) "MarkerTextModel") ∈ xT := xT_at 1164 (by decide +kernel) (by decide +kernel)
theorem xw_1165 : (Jvm.Cond.instantiable "MarkerTextModel" (52 : Nat)) ∈ xT := xT_at 1165 (by decide +kernel) (by decide +kernel)
theorem xnw_Law_29 : xNw "MarkerTextLaw" 29 k_MarkerTextModel 52 [.int 0, .null, .int 0, .int 0, .null, .null, .null, .null, .null, .null, .null, .int 0, .null, .null, .null, .null, .null, .null, .null, .null, .null, .null, .null, .null, .null, .null, .null, .int 0, .int 0, .int 0, .int 0, .null, .int 0, .int 0, .null, .int 0, .long 0, .null, .null, .null, .null, .null, .int 0, .int 0, .int 0, .null, .null, .null, .null, .int 0, .null, .int 0] := ⟨_, _, _, rfl, rfl, by decide +kernel, xw_1164, xw_1165, xw_8⟩
theorem d_Law_law_11 : decode M_Law_law.2.1 11 = .ok (.dup, 1) := by decide +kernel
theorem d_Law_law_12 : decode M_Law_law.2.1 12 = .ok (.invokespecial 31, 3) := by decide +kernel
theorem xw_1168 : (Jvm.Cond.code ({ cls := "MarkerTextModel", name := "<init>", desc := "()V" } : Jvm.MethodName) prog_13_method_1_code (1 : Nat) (Option.none : Option Jvm.ClassFile.FieldType)) ∈ xT := xT_at 1168 (by decide +kernel) (by decide +kernel)
theorem xcb_Mo_init : xcb M_Mo_init 0 := ⟨xw_1168, xw_8, by decide, by decide, by decide, by decide +kernel⟩
theorem xw_1166 : (Jvm.Cond.methodLink "MarkerTextLaw" (31 : Nat) ({ cls := "MarkerTextModel", name := "<init>", desc := "()V" } : Jvm.MethodName)) ∈ xT := xT_at 1166 (by decide +kernel) (by decide +kernel)
theorem xw_1167 : (Jvm.Cond.instanceMethod ({ cls := "MarkerTextModel", name := "<init>", desc := "()V" } : Jvm.MethodName)) ∈ xT := xT_at 1167 (by decide +kernel) (by decide +kernel)
theorem xci_Law_31 : xCI "MarkerTextLaw" 31 M_Mo_init 0 := ⟨xcb_Mo_init, rfl, rfl, xw_1167, Or.inl xw_1166⟩
theorem d_Law_law_15 : decode M_Law_law.2.1 15 = .ok (.astore_n 2, 1) := by decide +kernel
theorem d_Law_law_16 : decode M_Law_law.2.1 16 = .ok (.iconst 1, 1) := by decide +kernel
theorem d_Law_law_17 : decode M_Law_law.2.1 17 = .ok (.newarray .long, 2) := by decide +kernel
theorem d_Law_law_19 : decode M_Law_law.2.1 19 = .ok (.astore_n 3, 1) := by decide +kernel
theorem d_Law_law_20 : decode M_Law_law.2.1 20 = .ok (.iconst 0, 1) := by decide +kernel
theorem d_Law_law_21 : decode M_Law_law.2.1 21 = .ok (.istore 4, 2) := by decide +kernel
end
section LW4
variable {l : Launch} {G : XG} {h : XH} {c n d : Nat}
theorem r_thrown {o : Nat} {rf : Nat → Nat} {S : MS} : RM l G d M_Mo_thrown [.ref o] o rf S (fun v S' => S' = S ∧ v = some (.int (zI (S.1 0)))) := by
  intro H0 c n hR
  refine XM.of (by decide +kernel) (Nat.le_of_ble_eq_true rfl) ?_
  have hX : xonly H0 H0 RKs := xonly.rf
  refine x_aload_n d_Mo_thrown_0 rfl rfl ?_
  refine x_get xf_Mo_121_Mo (Or.inl hR.1) (v := .int (zI (S.1 0))) rfl d_Mo_thrown_1 ?_
  have hb1 : inR (S.1 0) := hR.2.2.2 0
  refine x_iret d_Mo_thrown_4 rfl ?_
  exact ⟨_, hR, hX, rfl, rfl, rfl, rfl⟩
/-- the law's own end -/
def xlawQ (G : XG) : XPo := fun below args s _ t => (s.heap.size = G.2.1 ∧ ∃ b, args = #[Value.ref b]) → lw_Z below args s t
theorem x_lawret {pc : Nat} {L : List (Option Value)} (hd : decode M_Law_law.2.1 pc = .ok (.ireturn, 1)) : XX l G M_Law_law d pc L [.int 1] h c n (xlawQ G) := by
  intro p e R s m args below meth cd H locs cells slots ls hF hR hl hL hV hS hN
  by_cases hy : s.heap.size = G.2.1 ∧ ∃ b, args = #[Value.ref b]
  · obtain ⟨h1, b, rfl⟩ := id hy
    obtain ⟨r1, r2, r3, r4, r5⟩ := hR
    obtain ⟨s1, s2, s3, s4, s5, s6⟩ := hS
    refine x_tight (k := xCB) (j := xSB) r5 (by omega) (by omega) ?_
    intro T hT X
    have X0 : Stand p l e R s m #[Value.ref b] below meth cd T [] xCB xSB := Stand.forget (locs := []) (extra := locs) X (fun y hy => by rw [h1]; exact hN.2.2 y hy)
    obtain ⟨fs, hret, hrun, hended, hW, hframe⟩ := X0.leave (v := some (.int 1)) (hlocks := hF.2.2.2.2.2.1) (fun hz => by rw [hF.2.2.2.1] at hz; cases hz)
    have hmeth' : T.vm.method? m = some meth := X0.method'
    have hb : cd.code = M_Law_law.2.1 := hF.2.1
    have hr : meth.sig.returnType = M_Law_law.2.2.2 := hF.2.2.2.1
    refine ⟨T.setFrames fs, ?_, fun _ => ⟨.returned (some (.int 1)), hrun, hended, rfl, ⟨_, rfl⟩, hW, hframe⟩⟩
    jvm_step X0.here [X0.here.top, hF.1, hb, hd, hmeth', hr, narrow_b1]
    (try refine ⟨rfl, ?_⟩); (try refine ⟨rfl, ?_⟩)
    first | (intro acts; rw [hret _ acts rfl rfl rfl]) | rw [hret _ _ rfl rfl rfl]
    exact Steps.refl _
  · intro T hT X
    exact ⟨_, Steps.refl _, fun z => absurd z hy⟩
theorem and15 (x : Int32) : ∃ j, j < 16 ∧ x &&& 15 = nI j := by
  refine ⟨(x &&& 15).toBitVec.toNat, ?_, ?_⟩
  · rw [Int32.toBitVec_and, BitVec.toNat_and]
    exact Nat.lt_of_le_of_lt Nat.and_le_right (by decide)
  · apply Int32.toBitVec_inj.mp
    show _ = BitVec.ofNat 32 _
    simp
theorem i2cN (x : Int32) : ∃ j, j < 65536 ∧ (x.toUInt32 % 65536).toInt32 = nI j := by
  refine ⟨(x.toUInt32 % 65536).toNat, ?_, ?_⟩
  · rw [UInt32.toNat_mod]
    exact Nat.mod_lt _ (by decide)
  · apply Int32.toBitVec_inj.mp
    generalize x.toUInt32 % 65536 = u
    show u.toBitVec = BitVec.ofNat 32 u.toBitVec.toNat
    simp
theorem xonly.out {h' : XH} {Ks : List Nat} {o : Nat} {vs : List Value} (a : xonly h h' Ks) (hK : k_along ∉ Ks) (ho : h o = some (k_along, vs)) : h' o = some (k_along, vs) := by
  obtain ⟨F, f, q⟩ := a
  exact f.1 _ _ ho ((q [k_along] (fun k hk z => hK (by rw [List.mem_singleton] at z; rw [← z]; exact hk))).at ho (by simp))
theorem lw_out {L k : Nat} (hL : L < 2 ^ 20) (hk : k < 2 ^ 20) : nI L - 3 < nI (3 * k) ↔ L < 3 * k + 3 := by
  rw [← zI_nI (k := L) (by omega), ← zI_nI (k := 3 * k) (by omega), show (3 : Int32) = zI 3 from by decide, zI_sub, zI_lt ⟨by omega, by omega⟩ ⟨by omega, by omega⟩]
  omega
theorem lw_i1 {k : Nat} : nI (3 * k) + 1 = nI (3 * k + 1) := by rw [← nI_add]; rfl
theorem lw_i2 {k : Nat} : nI (3 * k) + 2 = nI (3 * k + 2) := by rw [← nI_add]; rfl
abbrev lwX (L : Nat) (xs : Nat → Int32) : List Value := (List.range L).map (fun i => Value.int (xs i))
theorem lwX_at {L i : Nat} {xs : Nat → Int32} (hL : L < 2 ^ 20) (hi : i < L) : (lwX L xs)[(nI i).toNatClampNeg]? = some (.int (xs i)) := by
  rw [nI_clamp (by omega)]
  simp [lwX, hi]
/-- what may follow a call: the class and the reference behind k + 1 calls -/
def lwN (l : Launch) (G : XG) (b x m o : Nat) (rf : Nat → Nat) (k pc : Nat) : Prop := ∀ (h : XH) (c n : Nat) (t : List Nat) (Ns : List NmT) (Cs : List CnT) (il : Option Nat) (lv : Nat → Nat) (Pt : PtT) (S : MS) (z : Int64) (e5 e6 : Option Value), CI G h x (k + 1) c n t Ns Cs il lv Pt → isR h m rf S → RL t Ns Cs il lv S → h o = some (k_along, [.long z]) → XX l G M_Law_law (1215 + 1) pc [some (.ref b), some (.ref x), some (.ref m), some (.ref o), some (.int (nI (3 * k))), e5, e6] [] h c n (xlawQ G)
set_option maxHeartbeats 1000000 in
theorem lw_c0 (hG : xGk G) (htr : l.stackTraces = false) {b x m o k L : Nat} {rf : Nat → Nat} {xs : Nat → Int32} {t : List Nat} {Ns : List NmT} {Cs : List CnT} {il : Option Nat} {lv : Nat → Nat} {Pt : PtT} {S : MS} {z : Int64} {e5 e6 : Option Value} (hb : G.2.2.1 b = some (k_aint, lwX L xs)) (hL : L ≤ 1536) (h3 : 3 * k + 3 ≤ L) (hI : CI G h x k c n t Ns Cs il lv Pt) (hR : isR h m rf S) (hg : RL t Ns Cs il lv S) (ho : h o = some (k_along, [.long z])) (hN : lwN l G b x m o rf k 562) : XX l G M_Law_law (1215 + 1) 112 [some (.ref b), some (.ref x), some (.ref m), some (.ref o), some (.int (nI (3 * k))), e5, e6] [] h c n (xlawQ G) := by
  have hk : k < 512 := by omega
  have n1 : ¬ nI (3 * k) + 1 < 0 := by rw [lw_i1]; exact nI_pos (by omega)
  have n2 : ¬ nI (3 * k) + 2 < 0 := by rw [lw_i2]; exact nI_pos (by omega)
  have v1 : (lwX L xs)[(nI (3 * k) + 1).toNatClampNeg]? = some (.int (xs (3 * k + 1))) := by rw [lw_i1]; exact lwX_at (by omega) (by omega)
  have v2 : (lwX L xs)[(nI (3 * k) + 2).toNatClampNeg]? = some (.int (xs (3 * k + 2))) := by rw [lw_i2]; exact lwX_at (by omega) (by omega)
  obtain ⟨w0, e0⟩ := hI.at
  obtain ⟨ch, hch, hce⟩ := i2cN (xs (3 * k + 1))
  refine x_aload_n d_Law_law_112 rfl rfl ?_
  refine x_aload_n d_Law_law_113 rfl rfl ?_
  refine x_iload d_Law_law_114 rfl ?_
  refine x_iconst (v := 1) d_Law_law_116 (by decide) ?_
  refine x_iadd d_Law_law_117 ?_
  refine x_iald (k := k_aint) rfl (Or.inr hb) n1 v1 d_Law_law_118 ?_
  refine x_i2c d_Law_law_119 ?_
  refine x_top (w := .int (nI ch)) (by rw [hce]) ?_
  refine x_callV (As := [_]) (k := k_MarkerText) rfl xcv_Law_32_MT (Or.inl e0) (K_type (by omega) hI hk hch) rfl rfl (Nat.le_of_ble_eq_true rfl) d_Law_law_120 ?_
  rintro v h4 c4 n4 ⟨rfl, hap, hI4⟩
  have hR4 := hap.isR hR
  refine x_pop d_Law_law_123 rfl ?_
  refine x_aload_n d_Law_law_124 rfl rfl ?_
  refine x_aload_n d_Law_law_125 rfl rfl ?_
  refine x_iload d_Law_law_126 rfl ?_
  refine x_iconst (v := 1) d_Law_law_128 (by decide) ?_
  refine x_iadd d_Law_law_129 ?_
  refine x_iald (k := k_aint) rfl (Or.inr hb) n1 v1 d_Law_law_130 ?_
  refine x_i2c d_Law_law_131 ?_
  refine x_top (w := .int (nI ch)) (by rw [hce]) ?_
  refine x_callV (As := [_]) (k := k_MarkerTextModel) rfl xcv_Law_36_Mo (Or.inl hR4.1) (RM.ap hR4 (E_type hch hg)) rfl rfl (Nat.le_of_ble_eq_true rfl) d_Law_law_132 ?_
  rintro v h5 c5 n5 ⟨S', hR5, hx5, rfl, rfl, rfl, hg5⟩
  refine x_pop d_Law_law_135 rfl ?_
  refine x_goto (tgt := 562) d_Law_law_136 (by decide) ?_
  exact hN _ _ _ _ _ _ _ _ _ _ _ _ _ (hI4.fr hx5 (by decide)) hR5 hg5 (hx5.out (by decide) (hap.out ho))
set_option maxHeartbeats 1000000 in
theorem lw_c1 (hG : xGk G) (htr : l.stackTraces = false) {b x m o k L : Nat} {rf : Nat → Nat} {xs : Nat → Int32} {t : List Nat} {Ns : List NmT} {Cs : List CnT} {il : Option Nat} {lv : Nat → Nat} {Pt : PtT} {S : MS} {z : Int64} {e5 e6 : Option Value} (hb : G.2.2.1 b = some (k_aint, lwX L xs)) (hL : L ≤ 1536) (h3 : 3 * k + 3 ≤ L) (hI : CI G h x k c n t Ns Cs il lv Pt) (hR : isR h m rf S) (hg : RL t Ns Cs il lv S) (ho : h o = some (k_along, [.long z])) (hN : lwN l G b x m o rf k 562) : XX l G M_Law_law (1215 + 1) 139 [some (.ref b), some (.ref x), some (.ref m), some (.ref o), some (.int (nI (3 * k))), e5, e6] [] h c n (xlawQ G) := by
  have hk : k < 512 := by omega
  have n1 : ¬ nI (3 * k) + 1 < 0 := by rw [lw_i1]; exact nI_pos (by omega)
  have n2 : ¬ nI (3 * k) + 2 < 0 := by rw [lw_i2]; exact nI_pos (by omega)
  have v1 : (lwX L xs)[(nI (3 * k) + 1).toNatClampNeg]? = some (.int (xs (3 * k + 1))) := by rw [lw_i1]; exact lwX_at (by omega) (by omega)
  have v2 : (lwX L xs)[(nI (3 * k) + 2).toNatClampNeg]? = some (.int (xs (3 * k + 2))) := by rw [lw_i2]; exact lwX_at (by omega) (by omega)
  obtain ⟨w0, e0⟩ := hI.at
  refine x_aload_n d_Law_law_139 rfl rfl ?_
  refine x_aload_n d_Law_law_140 rfl rfl ?_
  refine x_iload d_Law_law_141 rfl ?_
  refine x_iconst (v := 1) d_Law_law_143 (by decide) ?_
  refine x_iadd d_Law_law_144 ?_
  refine x_iald (k := k_aint) rfl (Or.inr hb) n1 v1 d_Law_law_145 ?_
  refine x_aload_n d_Law_law_146 rfl rfl ?_
  refine x_callSW (As := [_, _, _]) xcbw_Law_name xw_449 xw_448 (K_Lname hG htr (by omega) hI hk ho) rfl rfl (Nat.le_of_ble_eq_true rfl) d_Law_law_147 ?_
  rintro v h4 c4 n4 ⟨rfl, ho4, ⟨F4, f4, q4⟩, hI4⟩
  have hR4 := hR.fr f4 q4
  generalize hLe : lnm Ns z (nmu Ns t (xs (3 * k + 1))) = LL at *
  have hEc := E_name (l := l) (G := G) (d := 1215) (o := m) (rf := rf) (w := xs (3 * k + 1)) (z := z) (by omega) hg
  rw [hLe] at hEc
  refine x_istore (L' := [_, _, _, _, _, _, _]) d_Law_law_150 rfl rfl ?_
  refine x_aload_n d_Law_law_152 rfl rfl ?_
  refine x_aload_n d_Law_law_153 rfl rfl ?_
  refine x_iload d_Law_law_154 rfl ?_
  refine x_iconst (v := 1) d_Law_law_156 (by decide) ?_
  refine x_iadd d_Law_law_157 ?_
  refine x_iald (k := k_aint) rfl (Or.inr hb) n1 v1 d_Law_law_158 ?_
  refine x_callV (As := [_]) (k := k_MarkerTextModel) rfl xcv_Law_42_Mo (Or.inl hR4.1) (RM.ap hR4 (hEc)) rfl rfl (Nat.le_of_ble_eq_true rfl) d_Law_law_159 ?_
  rintro v h5 c5 n5 ⟨S', hR5, hx5, rfl, rfl, r5, rfl, -, -, hg5⟩
  refine x_istore (L' := [_, _, _, _, _, _, _]) d_Law_law_162 rfl rfl ?_
  refine x_goto (tgt := 562) d_Law_law_164 (by decide) ?_
  exact hN _ _ _ _ _ _ _ _ _ _ _ _ _ (hI4.fr hx5 (by decide)) hR5 hg5 (hx5.out (by decide) ho4)
set_option maxHeartbeats 1000000 in
theorem lw_c2 (hG : xGk G) (htr : l.stackTraces = false) {b x m o k L : Nat} {rf : Nat → Nat} {xs : Nat → Int32} {t : List Nat} {Ns : List NmT} {Cs : List CnT} {il : Option Nat} {lv : Nat → Nat} {Pt : PtT} {S : MS} {z : Int64} {e5 e6 : Option Value} (hb : G.2.2.1 b = some (k_aint, lwX L xs)) (hL : L ≤ 1536) (h3 : 3 * k + 3 ≤ L) (hI : CI G h x k c n t Ns Cs il lv Pt) (hR : isR h m rf S) (hg : RL t Ns Cs il lv S) (ho : h o = some (k_along, [.long z])) (hN : lwN l G b x m o rf k 562) : XX l G M_Law_law (1215 + 1) 167 [some (.ref b), some (.ref x), some (.ref m), some (.ref o), some (.int (nI (3 * k))), e5, e6] [] h c n (xlawQ G) := by
  have hk : k < 512 := by omega
  have n1 : ¬ nI (3 * k) + 1 < 0 := by rw [lw_i1]; exact nI_pos (by omega)
  have n2 : ¬ nI (3 * k) + 2 < 0 := by rw [lw_i2]; exact nI_pos (by omega)
  have v1 : (lwX L xs)[(nI (3 * k) + 1).toNatClampNeg]? = some (.int (xs (3 * k + 1))) := by rw [lw_i1]; exact lwX_at (by omega) (by omega)
  have v2 : (lwX L xs)[(nI (3 * k) + 2).toNatClampNeg]? = some (.int (xs (3 * k + 2))) := by rw [lw_i2]; exact lwX_at (by omega) (by omega)
  obtain ⟨w0, e0⟩ := hI.at
  refine x_aload_n d_Law_law_167 rfl rfl ?_
  refine x_aload_n d_Law_law_168 rfl rfl ?_
  refine x_iload d_Law_law_169 rfl ?_
  refine x_iconst (v := 1) d_Law_law_171 (by decide) ?_
  refine x_iadd d_Law_law_172 ?_
  refine x_iald (k := k_aint) rfl (Or.inr hb) n1 v1 d_Law_law_173 ?_
  refine x_aload_n d_Law_law_174 rfl rfl ?_
  refine x_callSW (As := [_, _, _]) xcbw_Law_value xw_738 xw_737 (K_Lvalue hG htr (by omega) hI hk ho) rfl rfl (Nat.le_of_ble_eq_true rfl) d_Law_law_175 ?_
  rintro v h4 c4 n4 ⟨rfl, ho4, ⟨F4, f4, q4⟩, hI4⟩
  have hR4 := hR.fr f4 q4
  generalize hLe : lnm Ns z (vlu Ns t (xs (3 * k + 1))) = LL at *
  have hEc := E_value (l := l) (G := G) (d := 1215) (o := m) (rf := rf) (w := xs (3 * k + 1)) (z := z) (by omega) hg
  rw [hLe] at hEc
  refine x_istore (L' := [_, _, _, _, _, _, _]) d_Law_law_178 rfl rfl ?_
  refine x_aload_n d_Law_law_180 rfl rfl ?_
  refine x_aload_n d_Law_law_181 rfl rfl ?_
  refine x_iload d_Law_law_182 rfl ?_
  refine x_iconst (v := 1) d_Law_law_184 (by decide) ?_
  refine x_iadd d_Law_law_185 ?_
  refine x_iald (k := k_aint) rfl (Or.inr hb) n1 v1 d_Law_law_186 ?_
  refine x_callV (As := [_]) (k := k_MarkerTextModel) rfl xcv_Law_45_Mo (Or.inl hR4.1) (RM.ap hR4 (hEc)) rfl rfl (Nat.le_of_ble_eq_true rfl) d_Law_law_187 ?_
  rintro v h5 c5 n5 ⟨S', hR5, hx5, rfl, rfl, r5, rfl, -, -, hg5⟩
  refine x_istore (L' := [_, _, _, _, _, _, _]) d_Law_law_190 rfl rfl ?_
  refine x_goto (tgt := 562) d_Law_law_192 (by decide) ?_
  exact hN _ _ _ _ _ _ _ _ _ _ _ _ _ (hI4.fr hx5 (by decide)) hR5 hg5 (hx5.out (by decide) ho4)
set_option maxHeartbeats 1000000 in
theorem lw_c3 (hG : xGk G) (htr : l.stackTraces = false) {b x m o k L : Nat} {rf : Nat → Nat} {xs : Nat → Int32} {t : List Nat} {Ns : List NmT} {Cs : List CnT} {il : Option Nat} {lv : Nat → Nat} {Pt : PtT} {S : MS} {z : Int64} {e5 e6 : Option Value} (hb : G.2.2.1 b = some (k_aint, lwX L xs)) (hL : L ≤ 1536) (h3 : 3 * k + 3 ≤ L) (hI : CI G h x k c n t Ns Cs il lv Pt) (hR : isR h m rf S) (hg : RL t Ns Cs il lv S) (ho : h o = some (k_along, [.long z])) (hN : lwN l G b x m o rf k 562) : XX l G M_Law_law (1215 + 1) 195 [some (.ref b), some (.ref x), some (.ref m), some (.ref o), some (.int (nI (3 * k))), e5, e6] [] h c n (xlawQ G) := by
  have hk : k < 512 := by omega
  have n1 : ¬ nI (3 * k) + 1 < 0 := by rw [lw_i1]; exact nI_pos (by omega)
  have n2 : ¬ nI (3 * k) + 2 < 0 := by rw [lw_i2]; exact nI_pos (by omega)
  have v1 : (lwX L xs)[(nI (3 * k) + 1).toNatClampNeg]? = some (.int (xs (3 * k + 1))) := by rw [lw_i1]; exact lwX_at (by omega) (by omega)
  have v2 : (lwX L xs)[(nI (3 * k) + 2).toNatClampNeg]? = some (.int (xs (3 * k + 2))) := by rw [lw_i2]; exact lwX_at (by omega) (by omega)
  obtain ⟨w0, e0⟩ := hI.at
  refine x_aload_n d_Law_law_195 rfl rfl ?_
  refine x_aload_n d_Law_law_196 rfl rfl ?_
  refine x_callSW (As := [_, _]) xcbw_Law_condition xw_817 xw_816 (K_Lcondition hG htr (by omega) hI hk ho) rfl rfl (Nat.le_of_ble_eq_true rfl) d_Law_law_197 ?_
  rintro v h4 c4 n4 ⟨rfl, ho4, ⟨F4, f4, q4⟩, hI4⟩
  have hR4 := hR.fr f4 q4
  generalize hLe : lcd Cs z (rW t Ns) = LL at *
  have hEc := E_condition (l := l) (G := G) (d := 1215) (o := m) (rf := rf) (z := z) (by omega) hg
  rw [hLe] at hEc
  refine x_istore (L' := [_, _, _, _, _, _, _]) d_Law_law_200 rfl rfl ?_
  refine x_aload_n d_Law_law_202 rfl rfl ?_
  refine x_callV (As := []) (k := k_MarkerTextModel) rfl xcv_Law_49_Mo (Or.inl hR4.1) (RM.ap hR4 (hEc)) rfl rfl (Nat.le_of_ble_eq_true rfl) d_Law_law_203 ?_
  rintro v h5 c5 n5 ⟨S', hR5, hx5, rfl, rfl, r5, rfl, hth, hre, hg5⟩
  have ho5 := hx5.out (by decide) ho4
  have hI5 := hI4.fr hx5 (by decide)
  refine x_istore (L' := [_, _, _, _, _, _, _]) d_Law_law_206 rfl rfl ?_
  refine x_aload_n d_Law_law_208 rfl rfl ?_
  refine x_callV (As := []) (k := k_MarkerTextModel) rfl xcv_Law_50_Mo (Or.inl hR5.1) (RM.ap hR5 r_thrown) rfl rfl (Nat.le_of_ble_eq_true rfl) d_Law_law_209 ?_
  rintro v h6 c6 n6 ⟨S6, hR6, hx6, rfl, rfl, hE6, rfl⟩
  replace hE6 := Eq.symm hE6
  subst hE6
  have ho6 := hx6.out (by decide) ho5
  have hI6 := hI5.fr hx6 (by decide)
  by_cases hL0 : LL.1 = 0
  · refine x_iload d_Law_law_212 rfl ?_
    refine x_icmp_eq (tgt := 219) d_Law_law_214 (by decide) (fun _ => ?_) (fun hn => absurd hth hn)
    refine x_iload d_Law_law_219 rfl ?_
    refine x_if_ne (tgt := 236) d_Law_law_221 (by decide) (fun ht => absurd hL0 ht) (fun _ => ?_)
    refine x_aload_n d_Law_law_224 rfl rfl ?_
    refine x_iconst (v := 0) d_Law_law_225 (by decide) ?_
    refine x_lald (k := k_along) rfl (Or.inl ho6) (by decide) rfl d_Law_law_226 ?_
    refine x_iload d_Law_law_227 rfl ?_
    refine x_i2l d_Law_law_229 ?_
    refine x_lcmp d_Law_law_230 ?_
    refine x_if_eq (tgt := 236) d_Law_law_231 (by decide) (fun _ => ?_) (fun hn => absurd ((lg_cmp_eq _ _).mpr (hre hL0).symm) hn)
    refine x_goto (tgt := 562) d_Law_law_236 (by decide) ?_
    exact hN _ _ _ _ _ _ _ _ _ _ _ _ _ hI6 hR6 hg5 ho6
  · refine x_iload d_Law_law_212 rfl ?_
    refine x_icmp_eq (tgt := 219) d_Law_law_214 (by decide) (fun _ => ?_) (fun hn => absurd hth hn)
    refine x_iload d_Law_law_219 rfl ?_
    refine x_if_ne (tgt := 236) d_Law_law_221 (by decide) (fun _ => ?_) (fun hn => absurd hn hL0)
    refine x_goto (tgt := 562) d_Law_law_236 (by decide) ?_
    exact hN _ _ _ _ _ _ _ _ _ _ _ _ _ hI6 hR6 hg5 ho6
set_option maxHeartbeats 1000000 in
theorem lw_c4 (hG : xGk G) (htr : l.stackTraces = false) {b x m o k L : Nat} {rf : Nat → Nat} {xs : Nat → Int32} {t : List Nat} {Ns : List NmT} {Cs : List CnT} {il : Option Nat} {lv : Nat → Nat} {Pt : PtT} {S : MS} {z : Int64} {e5 e6 : Option Value} (hb : G.2.2.1 b = some (k_aint, lwX L xs)) (hL : L ≤ 1536) (h3 : 3 * k + 3 ≤ L) (hI : CI G h x k c n t Ns Cs il lv Pt) (hR : isR h m rf S) (hg : RL t Ns Cs il lv S) (ho : h o = some (k_along, [.long z])) (hN : lwN l G b x m o rf k 562) : XX l G M_Law_law (1215 + 1) 239 [some (.ref b), some (.ref x), some (.ref m), some (.ref o), some (.int (nI (3 * k))), e5, e6] [] h c n (xlawQ G) := by
  have hk : k < 512 := by omega
  have n1 : ¬ nI (3 * k) + 1 < 0 := by rw [lw_i1]; exact nI_pos (by omega)
  have n2 : ¬ nI (3 * k) + 2 < 0 := by rw [lw_i2]; exact nI_pos (by omega)
  have v1 : (lwX L xs)[(nI (3 * k) + 1).toNatClampNeg]? = some (.int (xs (3 * k + 1))) := by rw [lw_i1]; exact lwX_at (by omega) (by omega)
  have v2 : (lwX L xs)[(nI (3 * k) + 2).toNatClampNeg]? = some (.int (xs (3 * k + 2))) := by rw [lw_i2]; exact lwX_at (by omega) (by omega)
  obtain ⟨w0, e0⟩ := hI.at
  refine x_aload_n d_Law_law_239 rfl rfl ?_
  refine x_callV (As := []) (k := k_MarkerText) rfl xcv_Law_53_MT (Or.inl e0) (K_place hI) rfl rfl (Nat.le_of_ble_eq_true rfl) d_Law_law_240 ?_
  rintro v h4 c4 n4 ⟨rfl, hap, hI4⟩
  have hR4 := hap.isR hR
  refine x_pop d_Law_law_243 rfl ?_
  refine x_aload_n d_Law_law_244 rfl rfl ?_
  refine x_callV (As := []) (k := k_MarkerTextModel) rfl xcv_Law_56_Mo (Or.inl hR4.1) (RM.ap hR4 (E_place hg)) rfl rfl (Nat.le_of_ble_eq_true rfl) d_Law_law_245 ?_
  rintro v h5 c5 n5 ⟨S', hR5, hx5, rfl, rfl, rfl, hg5⟩
  refine x_pop d_Law_law_248 rfl ?_
  refine x_goto (tgt := 562) d_Law_law_249 (by decide) ?_
  exact hN _ _ _ _ _ _ _ _ _ _ _ _ _ (hI4.fr hx5 (by decide)) hR5 hg5 (hx5.out (by decide) (hap.out ho))
set_option maxHeartbeats 1000000 in
theorem lw_c5 (hG : xGk G) (htr : l.stackTraces = false) {b x m o k L : Nat} {rf : Nat → Nat} {xs : Nat → Int32} {t : List Nat} {Ns : List NmT} {Cs : List CnT} {il : Option Nat} {lv : Nat → Nat} {Pt : PtT} {S : MS} {z : Int64} {e5 e6 : Option Value} (hb : G.2.2.1 b = some (k_aint, lwX L xs)) (hL : L ≤ 1536) (h3 : 3 * k + 3 ≤ L) (hI : CI G h x k c n t Ns Cs il lv Pt) (hR : isR h m rf S) (hg : RL t Ns Cs il lv S) (ho : h o = some (k_along, [.long z])) (hN : lwN l G b x m o rf k 562) : XX l G M_Law_law (1215 + 1) 252 [some (.ref b), some (.ref x), some (.ref m), some (.ref o), some (.int (nI (3 * k))), e5, e6] [] h c n (xlawQ G) := by
  have hk : k < 512 := by omega
  have n1 : ¬ nI (3 * k) + 1 < 0 := by rw [lw_i1]; exact nI_pos (by omega)
  have n2 : ¬ nI (3 * k) + 2 < 0 := by rw [lw_i2]; exact nI_pos (by omega)
  have v1 : (lwX L xs)[(nI (3 * k) + 1).toNatClampNeg]? = some (.int (xs (3 * k + 1))) := by rw [lw_i1]; exact lwX_at (by omega) (by omega)
  have v2 : (lwX L xs)[(nI (3 * k) + 2).toNatClampNeg]? = some (.int (xs (3 * k + 2))) := by rw [lw_i2]; exact lwX_at (by omega) (by omega)
  obtain ⟨w0, e0⟩ := hI.at
  refine x_aload_n d_Law_law_252 rfl rfl ?_
  refine x_aload_n d_Law_law_253 rfl rfl ?_
  refine x_iload d_Law_law_254 rfl ?_
  refine x_iconst (v := 1) d_Law_law_256 (by decide) ?_
  refine x_iadd d_Law_law_257 ?_
  refine x_iald (k := k_aint) rfl (Or.inr hb) n1 v1 d_Law_law_258 ?_
  refine x_callSW (As := [_, _]) xcbw_Law_give xw_1157 xw_1156 (K_Lgive hG htr (by omega) hI hk) rfl rfl (Nat.le_of_ble_eq_true rfl) d_Law_law_259 ?_
  rintro v h4 c4 n4 ⟨rfl, hap, hI4⟩
  have hR4 := hap.isR hR
  refine x_istore (L' := [_, _, _, _, _, _, _]) d_Law_law_262 rfl rfl ?_
  refine x_aload_n d_Law_law_264 rfl rfl ?_
  refine x_aload_n d_Law_law_265 rfl rfl ?_
  refine x_iload d_Law_law_266 rfl ?_
  refine x_iconst (v := 1) d_Law_law_268 (by decide) ?_
  refine x_iadd d_Law_law_269 ?_
  refine x_iald (k := k_aint) rfl (Or.inr hb) n1 v1 d_Law_law_270 ?_
  refine x_callV (As := [_]) (k := k_MarkerTextModel) rfl xcv_Law_60_Mo (Or.inl hR4.1) (RM.ap hR4 (E_give (by omega) hg)) rfl rfl (Nat.le_of_ble_eq_true rfl) d_Law_law_271 ?_
  rintro v h5 c5 n5 ⟨S', hR5, hx5, rfl, rfl, rfl, hth, hg5⟩
  refine x_goto (tgt := 562) d_Law_law_274 (by decide) ?_
  exact hN _ _ _ _ _ _ _ _ _ _ _ _ _ (hI4.fr hx5 (by decide)) hR5 hg5 (hx5.out (by decide) (hap.out ho))
set_option maxHeartbeats 1000000 in
theorem lw_c6 (hG : xGk G) (htr : l.stackTraces = false) {b x m o k L : Nat} {rf : Nat → Nat} {xs : Nat → Int32} {t : List Nat} {Ns : List NmT} {Cs : List CnT} {il : Option Nat} {lv : Nat → Nat} {Pt : PtT} {S : MS} {z : Int64} {e5 e6 : Option Value} (hb : G.2.2.1 b = some (k_aint, lwX L xs)) (hL : L ≤ 1536) (h3 : 3 * k + 3 ≤ L) (hI : CI G h x k c n t Ns Cs il lv Pt) (hR : isR h m rf S) (hg : RL t Ns Cs il lv S) (ho : h o = some (k_along, [.long z])) (hN : lwN l G b x m o rf k 562) : XX l G M_Law_law (1215 + 1) 277 [some (.ref b), some (.ref x), some (.ref m), some (.ref o), some (.int (nI (3 * k))), e5, e6] [] h c n (xlawQ G) := by
  have hk : k < 512 := by omega
  have n1 : ¬ nI (3 * k) + 1 < 0 := by rw [lw_i1]; exact nI_pos (by omega)
  have n2 : ¬ nI (3 * k) + 2 < 0 := by rw [lw_i2]; exact nI_pos (by omega)
  have v1 : (lwX L xs)[(nI (3 * k) + 1).toNatClampNeg]? = some (.int (xs (3 * k + 1))) := by rw [lw_i1]; exact lwX_at (by omega) (by omega)
  have v2 : (lwX L xs)[(nI (3 * k) + 2).toNatClampNeg]? = some (.int (xs (3 * k + 2))) := by rw [lw_i2]; exact lwX_at (by omega) (by omega)
  obtain ⟨w0, e0⟩ := hI.at
  refine x_aload_n d_Law_law_277 rfl rfl ?_
  refine x_aload_n d_Law_law_278 rfl rfl ?_
  refine x_iload d_Law_law_279 rfl ?_
  refine x_iconst (v := 1) d_Law_law_281 (by decide) ?_
  refine x_iadd d_Law_law_282 ?_
  refine x_iald (k := k_aint) rfl (Or.inr hb) n1 v1 d_Law_law_283 ?_
  refine x_callV (As := [_]) (k := k_MarkerText) rfl xcv_Law_61_MT (Or.inl e0) (K_holds (by omega) hI) rfl rfl (Nat.le_of_ble_eq_true rfl) d_Law_law_284 ?_
  rintro v h4 c4 n4 ⟨rfl, hap, hI4⟩
  have hR4 := hap.isR hR
  refine x_pop d_Law_law_287 rfl ?_
  refine x_aload_n d_Law_law_288 rfl rfl ?_
  refine x_aload_n d_Law_law_289 rfl rfl ?_
  refine x_iload d_Law_law_290 rfl ?_
  refine x_iconst (v := 1) d_Law_law_292 (by decide) ?_
  refine x_iadd d_Law_law_293 ?_
  refine x_iald (k := k_aint) rfl (Or.inr hb) n1 v1 d_Law_law_294 ?_
  refine x_callV (As := [_]) (k := k_MarkerTextModel) rfl xcv_Law_65_Mo (Or.inl hR4.1) (RM.ap hR4 (E_holds (by omega) hg)) rfl rfl (Nat.le_of_ble_eq_true rfl) d_Law_law_295 ?_
  rintro v h5 c5 n5 ⟨S', hR5, hx5, rfl, rfl, ⟨r5, rfl⟩, hg5⟩
  refine x_pop d_Law_law_298 rfl ?_
  refine x_goto (tgt := 562) d_Law_law_299 (by decide) ?_
  exact hN _ _ _ _ _ _ _ _ _ _ _ _ _ (hI4.fr hx5 (by decide)) hR5 hg5 (hx5.out (by decide) (hap.out ho))
set_option maxHeartbeats 1000000 in
theorem lw_c7 (hG : xGk G) (htr : l.stackTraces = false) {b x m o k L : Nat} {rf : Nat → Nat} {xs : Nat → Int32} {t : List Nat} {Ns : List NmT} {Cs : List CnT} {il : Option Nat} {lv : Nat → Nat} {Pt : PtT} {S : MS} {z : Int64} {e5 e6 : Option Value} (hb : G.2.2.1 b = some (k_aint, lwX L xs)) (hL : L ≤ 1536) (h3 : 3 * k + 3 ≤ L) (hI : CI G h x k c n t Ns Cs il lv Pt) (hR : isR h m rf S) (hg : RL t Ns Cs il lv S) (ho : h o = some (k_along, [.long z])) (hN : lwN l G b x m o rf k 562) : XX l G M_Law_law (1215 + 1) 302 [some (.ref b), some (.ref x), some (.ref m), some (.ref o), some (.int (nI (3 * k))), e5, e6] [] h c n (xlawQ G) := by
  have hk : k < 512 := by omega
  have n1 : ¬ nI (3 * k) + 1 < 0 := by rw [lw_i1]; exact nI_pos (by omega)
  have n2 : ¬ nI (3 * k) + 2 < 0 := by rw [lw_i2]; exact nI_pos (by omega)
  have v1 : (lwX L xs)[(nI (3 * k) + 1).toNatClampNeg]? = some (.int (xs (3 * k + 1))) := by rw [lw_i1]; exact lwX_at (by omega) (by omega)
  have v2 : (lwX L xs)[(nI (3 * k) + 2).toNatClampNeg]? = some (.int (xs (3 * k + 2))) := by rw [lw_i2]; exact lwX_at (by omega) (by omega)
  obtain ⟨w0, e0⟩ := hI.at
  refine x_aload_n d_Law_law_302 rfl rfl ?_
  refine x_aload_n d_Law_law_303 rfl rfl ?_
  refine x_iload d_Law_law_304 rfl ?_
  refine x_iconst (v := 1) d_Law_law_306 (by decide) ?_
  refine x_iadd d_Law_law_307 ?_
  refine x_iald (k := k_aint) rfl (Or.inr hb) n1 v1 d_Law_law_308 ?_
  refine x_callV (As := [_]) (k := k_MarkerText) rfl xcv_Law_66_MT (Or.inl e0) (K_ever (by omega) hI) rfl rfl (Nat.le_of_ble_eq_true rfl) d_Law_law_309 ?_
  rintro v h4 c4 n4 ⟨⟨us, st, sa, hu1, hu2, hu3, rfl⟩, hap, hI4⟩
  have hR4 := hap.isR hR
  refine x_pop d_Law_law_312 rfl ?_
  refine x_aload_n d_Law_law_313 rfl rfl ?_
  refine x_aload_n d_Law_law_314 rfl rfl ?_
  refine x_iload d_Law_law_315 rfl ?_
  refine x_iconst (v := 1) d_Law_law_317 (by decide) ?_
  refine x_iadd d_Law_law_318 ?_
  refine x_iald (k := k_aint) rfl (Or.inr hb) n1 v1 d_Law_law_319 ?_
  refine x_callV (As := [_]) (k := k_MarkerTextModel) rfl xcv_Law_69_Mo (Or.inl hR4.1) (RM.ap hR4 (E_ever (by omega) hg)) rfl rfl (Nat.le_of_ble_eq_true rfl) d_Law_law_320 ?_
  rintro v h5 c5 n5 ⟨S', hR5, hx5, rfl, rfl, ⟨r5, rfl⟩, hg5⟩
  refine x_pop d_Law_law_323 rfl ?_
  refine x_goto (tgt := 562) d_Law_law_324 (by decide) ?_
  exact hN _ _ _ _ _ _ _ _ _ _ _ _ _ (hI4.fr hx5 (by decide)) hR5 hg5 (hx5.out (by decide) (hap.out ho))
set_option maxHeartbeats 1000000 in
theorem lw_c8 (hG : xGk G) (htr : l.stackTraces = false) {b x m o k L : Nat} {rf : Nat → Nat} {xs : Nat → Int32} {t : List Nat} {Ns : List NmT} {Cs : List CnT} {il : Option Nat} {lv : Nat → Nat} {Pt : PtT} {S : MS} {z : Int64} {e5 e6 : Option Value} (hb : G.2.2.1 b = some (k_aint, lwX L xs)) (hL : L ≤ 1536) (h3 : 3 * k + 3 ≤ L) (hI : CI G h x k c n t Ns Cs il lv Pt) (hR : isR h m rf S) (hg : RL t Ns Cs il lv S) (ho : h o = some (k_along, [.long z])) (hN : lwN l G b x m o rf k 562) : XX l G M_Law_law (1215 + 1) 327 [some (.ref b), some (.ref x), some (.ref m), some (.ref o), some (.int (nI (3 * k))), e5, e6] [] h c n (xlawQ G) := by
  have hk : k < 512 := by omega
  have n1 : ¬ nI (3 * k) + 1 < 0 := by rw [lw_i1]; exact nI_pos (by omega)
  have n2 : ¬ nI (3 * k) + 2 < 0 := by rw [lw_i2]; exact nI_pos (by omega)
  have v1 : (lwX L xs)[(nI (3 * k) + 1).toNatClampNeg]? = some (.int (xs (3 * k + 1))) := by rw [lw_i1]; exact lwX_at (by omega) (by omega)
  have v2 : (lwX L xs)[(nI (3 * k) + 2).toNatClampNeg]? = some (.int (xs (3 * k + 2))) := by rw [lw_i2]; exact lwX_at (by omega) (by omega)
  obtain ⟨w0, e0⟩ := hI.at
  refine x_aload_n d_Law_law_327 rfl rfl ?_
  refine x_aload_n d_Law_law_328 rfl rfl ?_
  refine x_iload d_Law_law_329 rfl ?_
  refine x_iconst (v := 1) d_Law_law_331 (by decide) ?_
  refine x_iadd d_Law_law_332 ?_
  refine x_iald (k := k_aint) rfl (Or.inr hb) n1 v1 d_Law_law_333 ?_
  refine x_aload_n d_Law_law_334 rfl rfl ?_
  refine x_iload d_Law_law_335 rfl ?_
  refine x_iconst (v := 2) d_Law_law_337 (by decide) ?_
  refine x_iadd d_Law_law_338 ?_
  refine x_iald (k := k_aint) rfl (Or.inr hb) n2 v2 d_Law_law_339 ?_
  refine x_callV (As := [_, _]) (k := k_MarkerText) rfl xcv_Law_70_MT (Or.inl e0) (K_implies (by omega) hI) rfl rfl (Nat.le_of_ble_eq_true rfl) d_Law_law_340 ?_
  rintro v h4 c4 n4 ⟨⟨us, st, sa, hu1, hu2, hu3, rfl⟩, hap, hI4⟩
  have hR4 := hap.isR hR
  refine x_pop d_Law_law_343 rfl ?_
  refine x_aload_n d_Law_law_344 rfl rfl ?_
  refine x_aload_n d_Law_law_345 rfl rfl ?_
  refine x_iload d_Law_law_346 rfl ?_
  refine x_iconst (v := 1) d_Law_law_348 (by decide) ?_
  refine x_iadd d_Law_law_349 ?_
  refine x_iald (k := k_aint) rfl (Or.inr hb) n1 v1 d_Law_law_350 ?_
  refine x_aload_n d_Law_law_351 rfl rfl ?_
  refine x_iload d_Law_law_352 rfl ?_
  refine x_iconst (v := 2) d_Law_law_354 (by decide) ?_
  refine x_iadd d_Law_law_355 ?_
  refine x_iald (k := k_aint) rfl (Or.inr hb) n2 v2 d_Law_law_356 ?_
  refine x_callV (As := [_, _]) (k := k_MarkerTextModel) rfl xcv_Law_74_Mo (Or.inl hR4.1) (RM.ap hR4 (E_implies (by omega) hg)) rfl rfl (Nat.le_of_ble_eq_true rfl) d_Law_law_357 ?_
  rintro v h5 c5 n5 ⟨S', hR5, hx5, rfl, rfl, ⟨r5, rfl⟩, hg5⟩
  refine x_pop d_Law_law_360 rfl ?_
  refine x_goto (tgt := 562) d_Law_law_361 (by decide) ?_
  exact hN _ _ _ _ _ _ _ _ _ _ _ _ _ (hI4.fr hx5 (by decide)) hR5 hg5 (hx5.out (by decide) (hap.out ho))
set_option maxHeartbeats 1000000 in
theorem lw_c9 (hG : xGk G) (htr : l.stackTraces = false) {b x m o k L : Nat} {rf : Nat → Nat} {xs : Nat → Int32} {t : List Nat} {Ns : List NmT} {Cs : List CnT} {il : Option Nat} {lv : Nat → Nat} {Pt : PtT} {S : MS} {z : Int64} {e5 e6 : Option Value} (hb : G.2.2.1 b = some (k_aint, lwX L xs)) (hL : L ≤ 1536) (h3 : 3 * k + 3 ≤ L) (hI : CI G h x k c n t Ns Cs il lv Pt) (hR : isR h m rf S) (hg : RL t Ns Cs il lv S) (ho : h o = some (k_along, [.long z])) (hN : lwN l G b x m o rf k 562) : XX l G M_Law_law (1215 + 1) 364 [some (.ref b), some (.ref x), some (.ref m), some (.ref o), some (.int (nI (3 * k))), e5, e6] [] h c n (xlawQ G) := by
  have hk : k < 512 := by omega
  have n1 : ¬ nI (3 * k) + 1 < 0 := by rw [lw_i1]; exact nI_pos (by omega)
  have n2 : ¬ nI (3 * k) + 2 < 0 := by rw [lw_i2]; exact nI_pos (by omega)
  have v1 : (lwX L xs)[(nI (3 * k) + 1).toNatClampNeg]? = some (.int (xs (3 * k + 1))) := by rw [lw_i1]; exact lwX_at (by omega) (by omega)
  have v2 : (lwX L xs)[(nI (3 * k) + 2).toNatClampNeg]? = some (.int (xs (3 * k + 2))) := by rw [lw_i2]; exact lwX_at (by omega) (by omega)
  obtain ⟨w0, e0⟩ := hI.at
  refine x_aload_n d_Law_law_364 rfl rfl ?_
  refine x_aload_n d_Law_law_365 rfl rfl ?_
  refine x_iload d_Law_law_366 rfl ?_
  refine x_iconst (v := 1) d_Law_law_368 (by decide) ?_
  refine x_iadd d_Law_law_369 ?_
  refine x_iald (k := k_aint) rfl (Or.inr hb) n1 v1 d_Law_law_370 ?_
  refine x_aload_n d_Law_law_371 rfl rfl ?_
  refine x_iload d_Law_law_372 rfl ?_
  refine x_iconst (v := 2) d_Law_law_374 (by decide) ?_
  refine x_iadd d_Law_law_375 ?_
  refine x_iald (k := k_aint) rfl (Or.inr hb) n2 v2 d_Law_law_376 ?_
  refine x_callV (As := [_, _]) (k := k_MarkerText) rfl xcv_Law_75_MT (Or.inl e0) (K_apart (by omega) hI) rfl rfl (Nat.le_of_ble_eq_true rfl) d_Law_law_377 ?_
  rintro v h4 c4 n4 ⟨⟨us, st, sa, hu1, hu2, hu3, rfl⟩, hap, hI4⟩
  have hR4 := hap.isR hR
  refine x_pop d_Law_law_380 rfl ?_
  refine x_aload_n d_Law_law_381 rfl rfl ?_
  refine x_aload_n d_Law_law_382 rfl rfl ?_
  refine x_iload d_Law_law_383 rfl ?_
  refine x_iconst (v := 1) d_Law_law_385 (by decide) ?_
  refine x_iadd d_Law_law_386 ?_
  refine x_iald (k := k_aint) rfl (Or.inr hb) n1 v1 d_Law_law_387 ?_
  refine x_aload_n d_Law_law_388 rfl rfl ?_
  refine x_iload d_Law_law_389 rfl ?_
  refine x_iconst (v := 2) d_Law_law_391 (by decide) ?_
  refine x_iadd d_Law_law_392 ?_
  refine x_iald (k := k_aint) rfl (Or.inr hb) n2 v2 d_Law_law_393 ?_
  refine x_callV (As := [_, _]) (k := k_MarkerTextModel) rfl xcv_Law_78_Mo (Or.inl hR4.1) (RM.ap hR4 (E_apart (by omega) hg)) rfl rfl (Nat.le_of_ble_eq_true rfl) d_Law_law_394 ?_
  rintro v h5 c5 n5 ⟨S', hR5, hx5, rfl, rfl, ⟨r5, rfl⟩, hg5⟩
  refine x_pop d_Law_law_397 rfl ?_
  refine x_goto (tgt := 562) d_Law_law_398 (by decide) ?_
  exact hN _ _ _ _ _ _ _ _ _ _ _ _ _ (hI4.fr hx5 (by decide)) hR5 hg5 (hx5.out (by decide) (hap.out ho))
set_option maxHeartbeats 1000000 in
theorem lw_c10 (hG : xGk G) (htr : l.stackTraces = false) {b x m o k L : Nat} {rf : Nat → Nat} {xs : Nat → Int32} {t : List Nat} {Ns : List NmT} {Cs : List CnT} {il : Option Nat} {lv : Nat → Nat} {Pt : PtT} {S : MS} {z : Int64} {e5 e6 : Option Value} (hb : G.2.2.1 b = some (k_aint, lwX L xs)) (hL : L ≤ 1536) (h3 : 3 * k + 3 ≤ L) (hI : CI G h x k c n t Ns Cs il lv Pt) (hR : isR h m rf S) (hg : RL t Ns Cs il lv S) (ho : h o = some (k_along, [.long z])) (hN : lwN l G b x m o rf k 562) : XX l G M_Law_law (1215 + 1) 401 [some (.ref b), some (.ref x), some (.ref m), some (.ref o), some (.int (nI (3 * k))), e5, e6] [] h c n (xlawQ G) := by
  have hk : k < 512 := by omega
  have n1 : ¬ nI (3 * k) + 1 < 0 := by rw [lw_i1]; exact nI_pos (by omega)
  have n2 : ¬ nI (3 * k) + 2 < 0 := by rw [lw_i2]; exact nI_pos (by omega)
  have v1 : (lwX L xs)[(nI (3 * k) + 1).toNatClampNeg]? = some (.int (xs (3 * k + 1))) := by rw [lw_i1]; exact lwX_at (by omega) (by omega)
  have v2 : (lwX L xs)[(nI (3 * k) + 2).toNatClampNeg]? = some (.int (xs (3 * k + 2))) := by rw [lw_i2]; exact lwX_at (by omega) (by omega)
  obtain ⟨w0, e0⟩ := hI.at
  refine x_aload_n d_Law_law_401 rfl rfl ?_
  refine x_aload_n d_Law_law_402 rfl rfl ?_
  refine x_iload d_Law_law_403 rfl ?_
  refine x_iconst (v := 1) d_Law_law_405 (by decide) ?_
  refine x_iadd d_Law_law_406 ?_
  refine x_iald (k := k_aint) rfl (Or.inr hb) n1 v1 d_Law_law_407 ?_
  refine x_callV (As := [_]) (k := k_MarkerText) rfl xcv_Law_79_MT (Or.inl e0) (K_classes (by omega) hI) rfl rfl (Nat.le_of_ble_eq_true rfl) d_Law_law_408 ?_
  rintro v h4 c4 n4 ⟨us, st, sa, hu1, hu2, hu3, rfl, hap, hI4⟩
  have hR4 := hap.isR hR
  refine x_pop d_Law_law_411 rfl ?_
  refine x_aload_n d_Law_law_412 rfl rfl ?_
  refine x_aload_n d_Law_law_413 rfl rfl ?_
  refine x_iload d_Law_law_414 rfl ?_
  refine x_iconst (v := 1) d_Law_law_416 (by decide) ?_
  refine x_iadd d_Law_law_417 ?_
  refine x_iald (k := k_aint) rfl (Or.inr hb) n1 v1 d_Law_law_418 ?_
  refine x_callV (As := [_]) (k := k_MarkerTextModel) rfl xcv_Law_82_Mo (Or.inl hR4.1) (RM.ap hR4 (E_classes (by omega) hg)) rfl rfl (Nat.le_of_ble_eq_true rfl) d_Law_law_419 ?_
  rintro v h5 c5 n5 ⟨S', hR5, hx5, rfl, rfl, ⟨r5, rfl⟩, hg5⟩
  refine x_pop d_Law_law_422 rfl ?_
  refine x_goto (tgt := 562) d_Law_law_423 (by decide) ?_
  exact hN _ _ _ _ _ _ _ _ _ _ _ _ _ (hI4.fr hx5 (by decide)) hR5 hg5 (hx5.out (by decide) (hap.out ho))
set_option maxHeartbeats 1000000 in
theorem lw_c11 (hG : xGk G) (htr : l.stackTraces = false) {b x m o k L : Nat} {rf : Nat → Nat} {xs : Nat → Int32} {t : List Nat} {Ns : List NmT} {Cs : List CnT} {il : Option Nat} {lv : Nat → Nat} {Pt : PtT} {S : MS} {z : Int64} {e5 e6 : Option Value} (hb : G.2.2.1 b = some (k_aint, lwX L xs)) (hL : L ≤ 1536) (h3 : 3 * k + 3 ≤ L) (hI : CI G h x k c n t Ns Cs il lv Pt) (hR : isR h m rf S) (hg : RL t Ns Cs il lv S) (ho : h o = some (k_along, [.long z])) (hN : lwN l G b x m o rf k 562) : XX l G M_Law_law (1215 + 1) 426 [some (.ref b), some (.ref x), some (.ref m), some (.ref o), some (.int (nI (3 * k))), e5, e6] [] h c n (xlawQ G) := by
  have hk : k < 512 := by omega
  have n1 : ¬ nI (3 * k) + 1 < 0 := by rw [lw_i1]; exact nI_pos (by omega)
  have n2 : ¬ nI (3 * k) + 2 < 0 := by rw [lw_i2]; exact nI_pos (by omega)
  have v1 : (lwX L xs)[(nI (3 * k) + 1).toNatClampNeg]? = some (.int (xs (3 * k + 1))) := by rw [lw_i1]; exact lwX_at (by omega) (by omega)
  have v2 : (lwX L xs)[(nI (3 * k) + 2).toNatClampNeg]? = some (.int (xs (3 * k + 2))) := by rw [lw_i2]; exact lwX_at (by omega) (by omega)
  obtain ⟨w0, e0⟩ := hI.at
  refine x_aload_n d_Law_law_426 rfl rfl ?_
  refine x_aload_n d_Law_law_427 rfl rfl ?_
  refine x_iload d_Law_law_428 rfl ?_
  refine x_iconst (v := 1) d_Law_law_430 (by decide) ?_
  refine x_iadd d_Law_law_431 ?_
  refine x_iald (k := k_aint) rfl (Or.inr hb) n1 v1 d_Law_law_432 ?_
  refine x_callV (As := [_]) (k := k_MarkerText) rfl xcv_Law_83_MT (Or.inl e0) (K_many (by omega) hI) rfl rfl (Nat.le_of_ble_eq_true rfl) d_Law_law_433 ?_
  rintro v h4 c4 n4 ⟨rfl, hap, hI4⟩
  have hR4 := hap.isR hR
  refine x_pop d_Law_law_436 rfl ?_
  refine x_aload_n d_Law_law_437 rfl rfl ?_
  refine x_aload_n d_Law_law_438 rfl rfl ?_
  refine x_iload d_Law_law_439 rfl ?_
  refine x_iconst (v := 1) d_Law_law_441 (by decide) ?_
  refine x_iadd d_Law_law_442 ?_
  refine x_iald (k := k_aint) rfl (Or.inr hb) n1 v1 d_Law_law_443 ?_
  refine x_callV (As := [_]) (k := k_MarkerTextModel) rfl xcv_Law_86_Mo (Or.inl hR4.1) (RM.ap hR4 (E_many (by omega) hg)) rfl rfl (Nat.le_of_ble_eq_true rfl) d_Law_law_444 ?_
  rintro v h5 c5 n5 ⟨S', hR5, hx5, rfl, rfl, ⟨r5, rfl⟩, hg5⟩
  refine x_pop d_Law_law_447 rfl ?_
  refine x_goto (tgt := 562) d_Law_law_448 (by decide) ?_
  exact hN _ _ _ _ _ _ _ _ _ _ _ _ _ (hI4.fr hx5 (by decide)) hR5 hg5 (hx5.out (by decide) (hap.out ho))
set_option maxHeartbeats 1000000 in
theorem lw_c12 (hG : xGk G) (htr : l.stackTraces = false) {b x m o k L : Nat} {rf : Nat → Nat} {xs : Nat → Int32} {t : List Nat} {Ns : List NmT} {Cs : List CnT} {il : Option Nat} {lv : Nat → Nat} {Pt : PtT} {S : MS} {z : Int64} {e5 e6 : Option Value} (hb : G.2.2.1 b = some (k_aint, lwX L xs)) (hL : L ≤ 1536) (h3 : 3 * k + 3 ≤ L) (hI : CI G h x k c n t Ns Cs il lv Pt) (hR : isR h m rf S) (hg : RL t Ns Cs il lv S) (ho : h o = some (k_along, [.long z])) (hN : lwN l G b x m o rf k 562) : XX l G M_Law_law (1215 + 1) 451 [some (.ref b), some (.ref x), some (.ref m), some (.ref o), some (.int (nI (3 * k))), e5, e6] [] h c n (xlawQ G) := by
  have hk : k < 512 := by omega
  have n1 : ¬ nI (3 * k) + 1 < 0 := by rw [lw_i1]; exact nI_pos (by omega)
  have n2 : ¬ nI (3 * k) + 2 < 0 := by rw [lw_i2]; exact nI_pos (by omega)
  have v1 : (lwX L xs)[(nI (3 * k) + 1).toNatClampNeg]? = some (.int (xs (3 * k + 1))) := by rw [lw_i1]; exact lwX_at (by omega) (by omega)
  have v2 : (lwX L xs)[(nI (3 * k) + 2).toNatClampNeg]? = some (.int (xs (3 * k + 2))) := by rw [lw_i2]; exact lwX_at (by omega) (by omega)
  obtain ⟨w0, e0⟩ := hI.at
  refine x_aload_n d_Law_law_451 rfl rfl ?_
  refine x_aload_n d_Law_law_452 rfl rfl ?_
  refine x_iload d_Law_law_453 rfl ?_
  refine x_iconst (v := 1) d_Law_law_455 (by decide) ?_
  refine x_iadd d_Law_law_456 ?_
  refine x_iald (k := k_aint) rfl (Or.inr hb) n1 v1 d_Law_law_457 ?_
  refine x_aload_n d_Law_law_458 rfl rfl ?_
  refine x_iload d_Law_law_459 rfl ?_
  refine x_iconst (v := 2) d_Law_law_461 (by decide) ?_
  refine x_iadd d_Law_law_462 ?_
  refine x_iald (k := k_aint) rfl (Or.inr hb) n2 v2 d_Law_law_463 ?_
  refine x_callV (As := [_, _]) (k := k_MarkerText) rfl xcv_Law_87_MT (Or.inl e0) (K_inClass (by omega) hI) rfl rfl (Nat.le_of_ble_eq_true rfl) d_Law_law_464 ?_
  rintro v h4 c4 n4 ⟨rfl, hap, hI4⟩
  have hR4 := hap.isR hR
  refine x_pop d_Law_law_467 rfl ?_
  refine x_aload_n d_Law_law_468 rfl rfl ?_
  refine x_aload_n d_Law_law_469 rfl rfl ?_
  refine x_iload d_Law_law_470 rfl ?_
  refine x_iconst (v := 1) d_Law_law_472 (by decide) ?_
  refine x_iadd d_Law_law_473 ?_
  refine x_iald (k := k_aint) rfl (Or.inr hb) n1 v1 d_Law_law_474 ?_
  refine x_aload_n d_Law_law_475 rfl rfl ?_
  refine x_iload d_Law_law_476 rfl ?_
  refine x_iconst (v := 2) d_Law_law_478 (by decide) ?_
  refine x_iadd d_Law_law_479 ?_
  refine x_iald (k := k_aint) rfl (Or.inr hb) n2 v2 d_Law_law_480 ?_
  refine x_callV (As := [_, _]) (k := k_MarkerTextModel) rfl xcv_Law_91_Mo (Or.inl hR4.1) (RM.ap hR4 (E_inClass (by omega) hg)) rfl rfl (Nat.le_of_ble_eq_true rfl) d_Law_law_481 ?_
  rintro v h5 c5 n5 ⟨S', hR5, hx5, rfl, rfl, ⟨r5, rfl⟩, hg5⟩
  refine x_pop d_Law_law_484 rfl ?_
  refine x_goto (tgt := 562) d_Law_law_485 (by decide) ?_
  exact hN _ _ _ _ _ _ _ _ _ _ _ _ _ (hI4.fr hx5 (by decide)) hR5 hg5 (hx5.out (by decide) (hap.out ho))
set_option maxHeartbeats 1000000 in
theorem lw_c13 (hG : xGk G) (htr : l.stackTraces = false) {b x m o k L : Nat} {rf : Nat → Nat} {xs : Nat → Int32} {t : List Nat} {Ns : List NmT} {Cs : List CnT} {il : Option Nat} {lv : Nat → Nat} {Pt : PtT} {S : MS} {z : Int64} {e5 e6 : Option Value} (hb : G.2.2.1 b = some (k_aint, lwX L xs)) (hL : L ≤ 1536) (h3 : 3 * k + 3 ≤ L) (hI : CI G h x k c n t Ns Cs il lv Pt) (hR : isR h m rf S) (hg : RL t Ns Cs il lv S) (ho : h o = some (k_along, [.long z])) (hN : lwN l G b x m o rf k 562) : XX l G M_Law_law (1215 + 1) 488 [some (.ref b), some (.ref x), some (.ref m), some (.ref o), some (.int (nI (3 * k))), e5, e6] [] h c n (xlawQ G) := by
  have hk : k < 512 := by omega
  have n1 : ¬ nI (3 * k) + 1 < 0 := by rw [lw_i1]; exact nI_pos (by omega)
  have n2 : ¬ nI (3 * k) + 2 < 0 := by rw [lw_i2]; exact nI_pos (by omega)
  have v1 : (lwX L xs)[(nI (3 * k) + 1).toNatClampNeg]? = some (.int (xs (3 * k + 1))) := by rw [lw_i1]; exact lwX_at (by omega) (by omega)
  have v2 : (lwX L xs)[(nI (3 * k) + 2).toNatClampNeg]? = some (.int (xs (3 * k + 2))) := by rw [lw_i2]; exact lwX_at (by omega) (by omega)
  obtain ⟨w0, e0⟩ := hI.at
  refine x_aload_n d_Law_law_488 rfl rfl ?_
  refine x_aload_n d_Law_law_489 rfl rfl ?_
  refine x_iload d_Law_law_490 rfl ?_
  refine x_iconst (v := 1) d_Law_law_492 (by decide) ?_
  refine x_iadd d_Law_law_493 ?_
  refine x_iald (k := k_aint) rfl (Or.inr hb) n1 v1 d_Law_law_494 ?_
  refine x_aload_n d_Law_law_495 rfl rfl ?_
  refine x_iload d_Law_law_496 rfl ?_
  refine x_iconst (v := 2) d_Law_law_498 (by decide) ?_
  refine x_iadd d_Law_law_499 ?_
  refine x_iald (k := k_aint) rfl (Or.inr hb) n2 v2 d_Law_law_500 ?_
  refine x_callV (As := [_, _]) (k := k_MarkerText) rfl xcv_Law_92_MT (Or.inl e0) (K_sample (by omega) hI) rfl rfl (Nat.le_of_ble_eq_true rfl) d_Law_law_501 ?_
  rintro v h4 c4 n4 ⟨rfl, hap, hI4⟩
  have hR4 := hap.isR hR
  refine x_pop d_Law_law_504 rfl ?_
  refine x_aload_n d_Law_law_505 rfl rfl ?_
  refine x_aload_n d_Law_law_506 rfl rfl ?_
  refine x_iload d_Law_law_507 rfl ?_
  refine x_iconst (v := 1) d_Law_law_509 (by decide) ?_
  refine x_iadd d_Law_law_510 ?_
  refine x_iald (k := k_aint) rfl (Or.inr hb) n1 v1 d_Law_law_511 ?_
  refine x_aload_n d_Law_law_512 rfl rfl ?_
  refine x_iload d_Law_law_513 rfl ?_
  refine x_iconst (v := 2) d_Law_law_515 (by decide) ?_
  refine x_iadd d_Law_law_516 ?_
  refine x_iald (k := k_aint) rfl (Or.inr hb) n2 v2 d_Law_law_517 ?_
  refine x_callV (As := [_, _]) (k := k_MarkerTextModel) rfl xcv_Law_95_Mo (Or.inl hR4.1) (RM.ap hR4 (E_sample (by omega) hg)) rfl rfl (Nat.le_of_ble_eq_true rfl) d_Law_law_518 ?_
  rintro v h5 c5 n5 ⟨S', hR5, hx5, rfl, rfl, ⟨r5, rfl⟩, hg5⟩
  refine x_pop d_Law_law_521 rfl ?_
  refine x_goto (tgt := 562) d_Law_law_522 (by decide) ?_
  exact hN _ _ _ _ _ _ _ _ _ _ _ _ _ (hI4.fr hx5 (by decide)) hR5 hg5 (hx5.out (by decide) (hap.out ho))
set_option maxHeartbeats 1000000 in
theorem lw_c14 (hG : xGk G) (htr : l.stackTraces = false) {b x m o k L : Nat} {rf : Nat → Nat} {xs : Nat → Int32} {t : List Nat} {Ns : List NmT} {Cs : List CnT} {il : Option Nat} {lv : Nat → Nat} {Pt : PtT} {S : MS} {z : Int64} {e5 e6 : Option Value} (hb : G.2.2.1 b = some (k_aint, lwX L xs)) (hL : L ≤ 1536) (h3 : 3 * k + 3 ≤ L) (hI : CI G h x k c n t Ns Cs il lv Pt) (hR : isR h m rf S) (hg : RL t Ns Cs il lv S) (ho : h o = some (k_along, [.long z])) (hN : lwN l G b x m o rf k 562) : XX l G M_Law_law (1215 + 1) 525 [some (.ref b), some (.ref x), some (.ref m), some (.ref o), some (.int (nI (3 * k))), e5, e6] [] h c n (xlawQ G) := by
  have hk : k < 512 := by omega
  have n1 : ¬ nI (3 * k) + 1 < 0 := by rw [lw_i1]; exact nI_pos (by omega)
  have n2 : ¬ nI (3 * k) + 2 < 0 := by rw [lw_i2]; exact nI_pos (by omega)
  have v1 : (lwX L xs)[(nI (3 * k) + 1).toNatClampNeg]? = some (.int (xs (3 * k + 1))) := by rw [lw_i1]; exact lwX_at (by omega) (by omega)
  have v2 : (lwX L xs)[(nI (3 * k) + 2).toNatClampNeg]? = some (.int (xs (3 * k + 2))) := by rw [lw_i2]; exact lwX_at (by omega) (by omega)
  obtain ⟨w0, e0⟩ := hI.at
  refine x_aload_n d_Law_law_525 rfl rfl ?_
  refine x_aload_n d_Law_law_526 rfl rfl ?_
  refine x_iload d_Law_law_527 rfl ?_
  refine x_iconst (v := 1) d_Law_law_529 (by decide) ?_
  refine x_iadd d_Law_law_530 ?_
  refine x_iald (k := k_aint) rfl (Or.inr hb) n1 v1 d_Law_law_531 ?_
  refine x_aload_n d_Law_law_532 rfl rfl ?_
  refine x_iload d_Law_law_533 rfl ?_
  refine x_iconst (v := 2) d_Law_law_535 (by decide) ?_
  refine x_iadd d_Law_law_536 ?_
  refine x_iald (k := k_aint) rfl (Or.inr hb) n2 v2 d_Law_law_537 ?_
  refine x_callV (As := [_, _]) (k := k_MarkerText) rfl xcv_Law_96_MT (Or.inl e0) (K_printed hG (by omega) hI) rfl rfl (Nat.le_of_ble_eq_true rfl) d_Law_law_538 ?_
  rintro v h4 c4 n4 ⟨rfl, hap, hI4⟩
  have hR4 := hap.isR hR
  refine x_pop d_Law_law_541 rfl ?_
  refine x_aload_n d_Law_law_542 rfl rfl ?_
  refine x_aload_n d_Law_law_543 rfl rfl ?_
  refine x_iload d_Law_law_544 rfl ?_
  refine x_iconst (v := 1) d_Law_law_546 (by decide) ?_
  refine x_iadd d_Law_law_547 ?_
  refine x_iald (k := k_aint) rfl (Or.inr hb) n1 v1 d_Law_law_548 ?_
  refine x_aload_n d_Law_law_549 rfl rfl ?_
  refine x_iload d_Law_law_550 rfl ?_
  refine x_iconst (v := 2) d_Law_law_552 (by decide) ?_
  refine x_iadd d_Law_law_553 ?_
  refine x_iald (k := k_aint) rfl (Or.inr hb) n2 v2 d_Law_law_554 ?_
  refine x_callV (As := [_, _]) (k := k_MarkerTextModel) rfl xcv_Law_99_Mo (Or.inl hR4.1) (RM.ap hR4 (E_printed (by omega) hg)) rfl rfl (Nat.le_of_ble_eq_true rfl) d_Law_law_555 ?_
  rintro v h5 c5 n5 ⟨S', hR5, hx5, rfl, rfl, ⟨r5, rfl⟩, hg5⟩
  refine x_pop d_Law_law_558 rfl ?_
  refine x_goto (tgt := 562) d_Law_law_559 (by decide) ?_
  exact hN _ _ _ _ _ _ _ _ _ _ _ _ _ (hI4.fr hx5 (by decide)) hR5 hg5 (hx5.out (by decide) (hap.out ho))
set_option maxHeartbeats 1000000 in
theorem lw_loop (hG : xGk G) (htr : l.stackTraces = false) {b x m o L : Nat} {rf : Nat → Nat} {xs : Nat → Int32} (hb : G.2.2.1 b = some (k_aint, lwX L xs)) (hL : L ≤ 1536) : ∀ (r k : Nat) (h : XH) (c n : Nat) (t : List Nat) (Ns : List NmT) (Cs : List CnT) (il : Option Nat) (lv : Nat → Nat) (Pt : PtT) (S : MS) (z : Int64) (e5 e6 : Option Value), L ≤ 3 * k + 3 * r → k ≤ 512 → CI G h x k c n t Ns Cs il lv Pt → isR h m rf S → RL t Ns Cs il lv S → h o = some (k_along, [.long z]) → XX l G M_Law_law (1215 + 1) 23 [some (.ref b), some (.ref x), some (.ref m), some (.ref o), some (.int (nI (3 * k))), e5, e6] [] h c n (xlawQ G) := by
  intro r
  induction r with
  | zero =>
    intro k h c n t Ns Cs il lv Pt S z e5 e6 hr hk hI hR hg ho
    refine x_iload d_Law_law_23 rfl ?_
    refine x_aload_n d_Law_law_25 rfl rfl ?_
    refine x_alen (k := k_aint) rfl (Or.inr hb) (v := nI L) (by rw [List.length_map, List.length_range]; rfl) d_Law_law_26 ?_
    refine x_iconst (v := 3) d_Law_law_27 (by decide) ?_
    refine x_isub d_Law_law_28 ?_
    refine x_icmp_gt (tgt := 568) d_Law_law_29 (by decide) (fun _ => ?_) (fun hn => absurd ((lw_out (by omega) (by omega)).mpr (by omega)) hn)
    refine x_iconst (v := 1) d_Law_law_568 (by decide) ?_
    exact x_lawret d_Law_law_569
  | succ r ih =>
    intro k h c n t Ns Cs il lv Pt S z e5 e6 hr hk hI hR hg ho
    by_cases h3 : L < 3 * k + 3
    · refine x_iload d_Law_law_23 rfl ?_
      refine x_aload_n d_Law_law_25 rfl rfl ?_
      refine x_alen (k := k_aint) rfl (Or.inr hb) (v := nI L) (by rw [List.length_map, List.length_range]; rfl) d_Law_law_26 ?_
      refine x_iconst (v := 3) d_Law_law_27 (by decide) ?_
      refine x_isub d_Law_law_28 ?_
      refine x_icmp_gt (tgt := 568) d_Law_law_29 (by decide) (fun _ => ?_) (fun hn => absurd ((lw_out (by omega) (by omega)).mpr h3) hn)
      refine x_iconst (v := 1) d_Law_law_568 (by decide) ?_
      exact x_lawret d_Law_law_569
    · have h3 : 3 * k + 3 ≤ L := by omega
      have hN : lwN l G b x m o rf k 562 := by
        intro h c n t Ns Cs il lv Pt S z e5 e6 hI hR hg ho
        refine x_iinc (v := nI (3 * (k + 1))) (L' := [_, _, _, _, _, _, _]) d_Law_law_562 rfl (by rw [Nat.mul_succ, ← nI_add]; rfl) rfl rfl ?_
        refine x_goto (tgt := 23) d_Law_law_565 (by decide) ?_
        exact ih (k + 1) h c n t Ns Cs il lv Pt S z e5 e6 (by omega) (by omega) hI hR hg ho
      have n0 : ¬ nI (3 * k) < 0 := nI_pos (by omega)
      have v0 : (lwX L xs)[(nI (3 * k)).toNatClampNeg]? = some (.int (xs (3 * k))) := lwX_at (by omega) (by omega)
      refine x_iload d_Law_law_23 rfl ?_
      refine x_aload_n d_Law_law_25 rfl rfl ?_
      refine x_alen (k := k_aint) rfl (Or.inr hb) (v := nI L) (by rw [List.length_map, List.length_range]; rfl) d_Law_law_26 ?_
      refine x_iconst (v := 3) d_Law_law_27 (by decide) ?_
      refine x_isub d_Law_law_28 ?_
      refine x_icmp_gt (tgt := 568) d_Law_law_29 (by decide) (fun ht => absurd ht (fun q => absurd ((lw_out (by omega) (by omega)).mp q) (by omega))) (fun _ => ?_)
      refine x_aload_n d_Law_law_32 rfl rfl ?_
      refine x_iload d_Law_law_33 rfl ?_
      refine x_iald (k := k_aint) rfl (Or.inr hb) n0 v0 d_Law_law_35 ?_
      refine x_bipush (v := 15) d_Law_law_36 (by decide) ?_
      refine x_iand d_Law_law_38 ?_
      obtain ⟨j, hj, hje⟩ := and15 (xs (3 * k))
      refine x_top (w := .int (nI j)) (by rw [hje]) ?_
      have hjj : j = 0 ∨ j = 1 ∨ j = 2 ∨ j = 3 ∨ j = 4 ∨ j = 5 ∨ j = 6 ∨ j = 7 ∨ j = 8 ∨ j = 9 ∨ j = 10 ∨ j = 11 ∨ j = 12 ∨ j = 13 ∨ j = 14 ∨ j = 15 := by omega
      rcases hjj with rfl | rfl | rfl | rfl | rfl | rfl | rfl | rfl | rfl | rfl | rfl | rfl | rfl | rfl | rfl | rfl
      · refine x_tableIn (tgt := 112) (off := 73) d_Law_law_39 (by decide) (by decide) (by decide) (by decide) ?_
        exact lw_c0 hG htr hb hL h3 hI hR hg ho hN
      · refine x_tableIn (tgt := 139) (off := 100) d_Law_law_39 (by decide) (by decide) (by decide) (by decide) ?_
        exact lw_c1 hG htr hb hL h3 hI hR hg ho hN
      · refine x_tableIn (tgt := 167) (off := 128) d_Law_law_39 (by decide) (by decide) (by decide) (by decide) ?_
        exact lw_c2 hG htr hb hL h3 hI hR hg ho hN
      · refine x_tableIn (tgt := 195) (off := 156) d_Law_law_39 (by decide) (by decide) (by decide) (by decide) ?_
        exact lw_c3 hG htr hb hL h3 hI hR hg ho hN
      · refine x_tableIn (tgt := 239) (off := 200) d_Law_law_39 (by decide) (by decide) (by decide) (by decide) ?_
        exact lw_c4 hG htr hb hL h3 hI hR hg ho hN
      · refine x_tableIn (tgt := 252) (off := 213) d_Law_law_39 (by decide) (by decide) (by decide) (by decide) ?_
        exact lw_c5 hG htr hb hL h3 hI hR hg ho hN
      · refine x_tableIn (tgt := 277) (off := 238) d_Law_law_39 (by decide) (by decide) (by decide) (by decide) ?_
        exact lw_c6 hG htr hb hL h3 hI hR hg ho hN
      · refine x_tableIn (tgt := 302) (off := 263) d_Law_law_39 (by decide) (by decide) (by decide) (by decide) ?_
        exact lw_c7 hG htr hb hL h3 hI hR hg ho hN
      · refine x_tableIn (tgt := 327) (off := 288) d_Law_law_39 (by decide) (by decide) (by decide) (by decide) ?_
        exact lw_c8 hG htr hb hL h3 hI hR hg ho hN
      · refine x_tableIn (tgt := 364) (off := 325) d_Law_law_39 (by decide) (by decide) (by decide) (by decide) ?_
        exact lw_c9 hG htr hb hL h3 hI hR hg ho hN
      · refine x_tableIn (tgt := 401) (off := 362) d_Law_law_39 (by decide) (by decide) (by decide) (by decide) ?_
        exact lw_c10 hG htr hb hL h3 hI hR hg ho hN
      · refine x_tableIn (tgt := 426) (off := 387) d_Law_law_39 (by decide) (by decide) (by decide) (by decide) ?_
        exact lw_c11 hG htr hb hL h3 hI hR hg ho hN
      · refine x_tableIn (tgt := 451) (off := 412) d_Law_law_39 (by decide) (by decide) (by decide) (by decide) ?_
        exact lw_c12 hG htr hb hL h3 hI hR hg ho hN
      · refine x_tableIn (tgt := 488) (off := 449) d_Law_law_39 (by decide) (by decide) (by decide) (by decide) ?_
        exact lw_c13 hG htr hb hL h3 hI hR hg ho hN
      · refine x_tableIn (tgt := 525) (off := 486) d_Law_law_39 (by decide) (by decide) (by decide) (by decide) ?_
        exact lw_c14 hG htr hb hL h3 hI hR hg ho hN
      · refine x_tableOut (tgt := 562) d_Law_law_39 (Or.inr (by decide)) (by decide) ?_
        exact hN _ _ _ _ _ _ _ _ _ _ _ _ _ hI.next hR hg ho
set_option maxHeartbeats 1000000 in
theorem law_all (hG : xGk G) (htr : l.stackTraces = false) {b L : Nat} {xs : Nat → Int32} (hL : L ≤ 1536) (hb : G.2.2.1 b = some (k_aint, (List.range L).map (fun i => Value.int (xs i)))) : XX l G M_Law_law 1216 0 (xin [Value.ref b] ++ List.replicate (M_Law_law.2.2.1 - (xin [Value.ref b]).length) none) [] (fun _ => none) 0 0 (xlawQ G) := by
  have hcb := xCB_ge
  have hsb := xSB_ge
  show XX l G M_Law_law (1215 + 1) 0 [some (.ref b), none, none, none, none, none, none] [] (fun _ => none) 0 0 (xlawQ G)
  refine x_new xnw_Law_8 (by omega) (by omega) d_Law_law_0 (fun x hn_x hk_x => ?_)
  refine x_dup d_Law_law_3 rfl ?_
  refine x_callI (As := []) xci_Law_28 (c_MT_init (by omega) xup_self (by omega) (by omega)) rfl rfl (Nat.le_of_ble_eq_true rfl) d_Law_law_4 ?_
  rintro v h1 c1 n1 ⟨rfl, hx1, f1, rfl, hn1⟩
  refine x_astore_n (L' := [_, _, _, _, _, _, _]) d_Law_law_7 rfl rfl rfl ?_
  refine x_new xnw_Law_29 (by omega) (by omega) d_Law_law_8 (fun m hn_m hk_m => ?_)
  refine x_dup d_Law_law_11 rfl ?_
  refine x_callI (As := []) xci_Law_31 (r_init (by omega) xup_self (by omega) (by omega)) rfl rfl (Nat.le_of_ble_eq_true rfl) d_Law_law_12 ?_
  rintro v h2 c2 n2 ⟨rfl, ⟨rf, hm2⟩, f2, rfl, rfl⟩
  have hx2 : mt0 h2 x := (hx1.fr (F := []) (xfr.rf.up (Or.inr hn_m)) (fun q hq => by cases hq)).fr f2 (xno1 xup_self (by decide))
  refine x_astore_n (L' := [_, _, _, _, _, _, _]) d_Law_law_15 rfl rfl rfl ?_
  refine x_iconst (v := 1) d_Law_law_16 (by decide) ?_
  refine x_newa (k := k_along) rfl rfl (fun _ hz => by cases hz) xw_110 (by decide) (by decide : Int32.toNatClampNeg 1 = 1) (by decide) (by omega) (by omega) d_Law_law_17 (fun o hn_o hk_o => ?_)
  refine x_any (R := fun h3 => mt0 h3 x ∧ isR h3 m rf S0 ∧ h3 o = some (k_along, [.long 0])) ⟨hx2.fr (F := []) (xfr.rf.up (Or.inr hn_o)) (fun q hq => by cases hq), hm2.fr (F := []) (xfr.rf.up (Or.inr hn_o)) (fun q hq => by cases hq), xup_self⟩ (fun h3 ⟨hx3, hm3, ho3⟩ => ?_)
  refine x_astore_n (L' := [_, _, _, _, _, _, _]) d_Law_law_19 rfl rfl rfl ?_
  refine x_iconst (v := 0) d_Law_law_20 (by decide) ?_
  refine x_istore (L' := [_, _, _, _, _, _, _]) d_Law_law_21 rfl rfl ?_
  exact lw_loop hG htr hb hL 512 0 h3 _ _ [] [] [] none _ _ S0 0 none none (by omega) (by omega) (CI.new hx3 (by omega) (by omega)) hm3 RL.new ho3
end LW4
