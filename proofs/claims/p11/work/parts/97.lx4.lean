section
abbrev y_Law_law : MethodName := ⟨"MarkerTextLaw", "law", "([I)Z"⟩
abbrev M_Law_law : XMt := (y_Law_law, code, 7, (some .boolean))
theorem d_Law_law_112 : decode M_Law_law.2.1 112 = .ok (.aload_n 1, 1) := by decide +kernel
theorem d_Law_law_113 : decode M_Law_law.2.1 113 = .ok (.aload_n 0, 1) := by decide +kernel
theorem d_Law_law_114 : decode M_Law_law.2.1 114 = .ok (.iload 4, 2) := by decide +kernel
theorem d_Law_law_116 : decode M_Law_law.2.1 116 = .ok (.iconst 1, 1) := by decide +kernel
theorem d_Law_law_117 : decode M_Law_law.2.1 117 = .ok (.iadd, 1) := by decide +kernel
theorem d_Law_law_118 : decode M_Law_law.2.1 118 = .ok (.iaload, 1) := by decide +kernel
theorem d_Law_law_119 : decode M_Law_law.2.1 119 = .ok (.i2c, 1) := by decide +kernel
theorem d_Law_law_120 : decode M_Law_law.2.1 120 = .ok (.invokevirtual 32, 3) := by decide +kernel
theorem xw_171 : (Jvm.Cond.code ({ cls := "MarkerText", name := "type", desc := "(C)Z" } : Jvm.MethodName) prog_1_method_2_code (2 : Nat) (Option.some Jvm.ClassFile.FieldType.boolean)) ∈ xT := xT_at 171 (by decide +kernel) (by decide +kernel)
theorem xcb_MT_type : xcb M_MT_type 1 := ⟨xw_171, xw_1, by decide, by decide, by decide, by decide +kernel⟩
theorem xw_169 : (Jvm.Cond.instanceMethod ({ cls := "MarkerText", name := "type", desc := "(C)Z" } : Jvm.MethodName)) ∈ xT := xT_at 169 (by decide +kernel) (by decide +kernel)
theorem xw_168 : (Jvm.Cond.methodLink "MarkerTextLaw" (32 : Nat) ({ cls := "MarkerText", name := "type", desc := "(C)Z" } : Jvm.MethodName)) ∈ xT := xT_at 168 (by decide +kernel) (by decide +kernel)
theorem xw_170 : (Jvm.Cond.selects "MarkerText" ({ cls := "MarkerText", name := "type", desc := "(C)Z" } : Jvm.MethodName) ({ cls := "MarkerText", name := "type", desc := "(C)Z" } : Jvm.MethodName)) ∈ xT := xT_at 170 (by decide +kernel) (by decide +kernel)
theorem xcv_Law_32_MT : xCV "MarkerTextLaw" 32 "MarkerText" M_MT_type 1 := ⟨xcb_MT_type, xw_169, Or.inl ⟨xw_168, Or.inl xw_170⟩⟩
theorem d_Law_law_123 : decode M_Law_law.2.1 123 = .ok (.pop, 1) := by decide +kernel
theorem d_Law_law_124 : decode M_Law_law.2.1 124 = .ok (.aload_n 2, 1) := by decide +kernel
theorem d_Law_law_125 : decode M_Law_law.2.1 125 = .ok (.aload_n 0, 1) := by decide +kernel
theorem d_Law_law_126 : decode M_Law_law.2.1 126 = .ok (.iload 4, 2) := by decide +kernel
theorem d_Law_law_128 : decode M_Law_law.2.1 128 = .ok (.iconst 1, 1) := by decide +kernel
theorem d_Law_law_129 : decode M_Law_law.2.1 129 = .ok (.iadd, 1) := by decide +kernel
theorem d_Law_law_130 : decode M_Law_law.2.1 130 = .ok (.iaload, 1) := by decide +kernel
theorem d_Law_law_131 : decode M_Law_law.2.1 131 = .ok (.i2c, 1) := by decide +kernel
theorem d_Law_law_132 : decode M_Law_law.2.1 132 = .ok (.invokevirtual 36, 3) := by decide +kernel
theorem xw_1331 : (Jvm.Cond.code ({ cls := "MarkerTextModel", name := "type", desc := "(C)Z" } : Jvm.MethodName) prog_13_method_5_code (2 : Nat) (Option.some Jvm.ClassFile.FieldType.boolean)) ∈ xT := xT_at 1331 (by decide +kernel) (by decide +kernel)
theorem xcb_Mo_type : xcb M_Mo_type 1 := ⟨xw_1331, xw_8, by decide, by decide, by decide, by decide +kernel⟩
theorem xw_1329 : (Jvm.Cond.instanceMethod ({ cls := "MarkerTextModel", name := "type", desc := "(C)Z" } : Jvm.MethodName)) ∈ xT := xT_at 1329 (by decide +kernel) (by decide +kernel)
theorem xw_1328 : (Jvm.Cond.methodLink "MarkerTextLaw" (36 : Nat) ({ cls := "MarkerTextModel", name := "type", desc := "(C)Z" } : Jvm.MethodName)) ∈ xT := xT_at 1328 (by decide +kernel) (by decide +kernel)
theorem xw_1330 : (Jvm.Cond.selects "MarkerTextModel" ({ cls := "MarkerTextModel", name := "type", desc := "(C)Z" } : Jvm.MethodName) ({ cls := "MarkerTextModel", name := "type", desc := "(C)Z" } : Jvm.MethodName)) ∈ xT := xT_at 1330 (by decide +kernel) (by decide +kernel)
theorem xcv_Law_36_Mo : xCV "MarkerTextLaw" 36 "MarkerTextModel" M_Mo_type 1 := ⟨xcb_Mo_type, xw_1329, Or.inl ⟨xw_1328, Or.inl xw_1330⟩⟩
theorem d_Law_law_135 : decode M_Law_law.2.1 135 = .ok (.pop, 1) := by decide +kernel
theorem d_Law_law_136 : decode M_Law_law.2.1 136 = .ok (.goto 398, 3) := by decide +kernel
theorem d_Law_law_139 : decode M_Law_law.2.1 139 = .ok (.aload_n 1, 1) := by decide +kernel
theorem d_Law_law_140 : decode M_Law_law.2.1 140 = .ok (.aload_n 0, 1) := by decide +kernel
theorem d_Law_law_141 : decode M_Law_law.2.1 141 = .ok (.iload 4, 2) := by decide +kernel
theorem d_Law_law_143 : decode M_Law_law.2.1 143 = .ok (.iconst 1, 1) := by decide +kernel
theorem d_Law_law_144 : decode M_Law_law.2.1 144 = .ok (.iadd, 1) := by decide +kernel
theorem d_Law_law_145 : decode M_Law_law.2.1 145 = .ok (.iaload, 1) := by decide +kernel
theorem d_Law_law_146 : decode M_Law_law.2.1 146 = .ok (.aload_n 3, 1) := by decide +kernel
theorem d_Law_law_147 : decode M_Law_law.2.1 147 = .ok (.invokestatic 37, 3) := by decide +kernel
theorem xw_0 : (Jvm.Cond.initialized "MarkerTextLaw") ∈ xT := xT_at 0 (by decide +kernel) (by decide +kernel)
theorem xcbw_Law_name : xcbW M_Law_name [((0 : Nat), (9 : Nat), (12 : Nat), (13 : Nat)), ((0 : Nat), (9 : Nat), (15 : Nat), (15 : Nat))] 3 := ⟨xw_450, xw_0, by decide, by decide, by decide, by decide +kernel⟩
theorem xw_449 : (Jvm.Cond.static ({ cls := "MarkerTextLaw", name := "name", desc := "(LMarkerText;I[J)I" } : Jvm.MethodName)) ∈ xT := xT_at 449 (by decide +kernel) (by decide +kernel)
theorem xw_448 : (Jvm.Cond.methodLink "MarkerTextLaw" (37 : Nat) ({ cls := "MarkerTextLaw", name := "name", desc := "(LMarkerText;I[J)I" } : Jvm.MethodName)) ∈ xT := xT_at 448 (by decide +kernel) (by decide +kernel)
theorem d_Law_law_150 : decode M_Law_law.2.1 150 = .ok (.istore 5, 2) := by decide +kernel
theorem d_Law_law_152 : decode M_Law_law.2.1 152 = .ok (.aload_n 2, 1) := by decide +kernel
theorem d_Law_law_153 : decode M_Law_law.2.1 153 = .ok (.aload_n 0, 1) := by decide +kernel
theorem d_Law_law_154 : decode M_Law_law.2.1 154 = .ok (.iload 4, 2) := by decide +kernel
theorem d_Law_law_156 : decode M_Law_law.2.1 156 = .ok (.iconst 1, 1) := by decide +kernel
theorem d_Law_law_157 : decode M_Law_law.2.1 157 = .ok (.iadd, 1) := by decide +kernel
theorem d_Law_law_158 : decode M_Law_law.2.1 158 = .ok (.iaload, 1) := by decide +kernel
theorem d_Law_law_159 : decode M_Law_law.2.1 159 = .ok (.invokevirtual 42, 3) := by decide +kernel
theorem xw_1335 : (Jvm.Cond.code ({ cls := "MarkerTextModel", name := "name", desc := "(I)I" } : Jvm.MethodName) prog_13_method_11_code (5 : Nat) (Option.some Jvm.ClassFile.FieldType.int)) ∈ xT := xT_at 1335 (by decide +kernel) (by decide +kernel)
theorem xcb_Mo_name : xcb M_Mo_name 1 := ⟨xw_1335, xw_8, by decide, by decide, by decide, by decide +kernel⟩
theorem xw_1333 : (Jvm.Cond.instanceMethod ({ cls := "MarkerTextModel", name := "name", desc := "(I)I" } : Jvm.MethodName)) ∈ xT := xT_at 1333 (by decide +kernel) (by decide +kernel)
theorem xw_1332 : (Jvm.Cond.methodLink "MarkerTextLaw" (42 : Nat) ({ cls := "MarkerTextModel", name := "name", desc := "(I)I" } : Jvm.MethodName)) ∈ xT := xT_at 1332 (by decide +kernel) (by decide +kernel)
theorem xw_1334 : (Jvm.Cond.selects "MarkerTextModel" ({ cls := "MarkerTextModel", name := "name", desc := "(I)I" } : Jvm.MethodName) ({ cls := "MarkerTextModel", name := "name", desc := "(I)I" } : Jvm.MethodName)) ∈ xT := xT_at 1334 (by decide +kernel) (by decide +kernel)
theorem xcv_Law_42_Mo : xCV "MarkerTextLaw" 42 "MarkerTextModel" M_Mo_name 1 := ⟨xcb_Mo_name, xw_1333, Or.inl ⟨xw_1332, Or.inl xw_1334⟩⟩
theorem d_Law_law_162 : decode M_Law_law.2.1 162 = .ok (.istore 6, 2) := by decide +kernel
theorem d_Law_law_164 : decode M_Law_law.2.1 164 = .ok (.goto 370, 3) := by decide +kernel
theorem d_Law_law_167 : decode M_Law_law.2.1 167 = .ok (.aload_n 1, 1) := by decide +kernel
theorem d_Law_law_168 : decode M_Law_law.2.1 168 = .ok (.aload_n 0, 1) := by decide +kernel
theorem d_Law_law_169 : decode M_Law_law.2.1 169 = .ok (.iload 4, 2) := by decide +kernel
theorem d_Law_law_171 : decode M_Law_law.2.1 171 = .ok (.iconst 1, 1) := by decide +kernel
theorem d_Law_law_172 : decode M_Law_law.2.1 172 = .ok (.iadd, 1) := by decide +kernel
theorem d_Law_law_173 : decode M_Law_law.2.1 173 = .ok (.iaload, 1) := by decide +kernel
theorem d_Law_law_174 : decode M_Law_law.2.1 174 = .ok (.aload_n 3, 1) := by decide +kernel
theorem d_Law_law_175 : decode M_Law_law.2.1 175 = .ok (.invokestatic 43, 3) := by decide +kernel
theorem xcbw_Law_value : xcbW M_Law_value [((0 : Nat), (9 : Nat), (12 : Nat), (13 : Nat)), ((0 : Nat), (9 : Nat), (15 : Nat), (15 : Nat))] 3 := ⟨xw_739, xw_0, by decide, by decide, by decide, by decide +kernel⟩
theorem xw_738 : (Jvm.Cond.static ({ cls := "MarkerTextLaw", name := "value", desc := "(LMarkerText;I[J)I" } : Jvm.MethodName)) ∈ xT := xT_at 738 (by decide +kernel) (by decide +kernel)
theorem xw_737 : (Jvm.Cond.methodLink "MarkerTextLaw" (43 : Nat) ({ cls := "MarkerTextLaw", name := "value", desc := "(LMarkerText;I[J)I" } : Jvm.MethodName)) ∈ xT := xT_at 737 (by decide +kernel) (by decide +kernel)
theorem d_Law_law_178 : decode M_Law_law.2.1 178 = .ok (.istore 5, 2) := by decide +kernel
theorem d_Law_law_180 : decode M_Law_law.2.1 180 = .ok (.aload_n 2, 1) := by decide +kernel
theorem d_Law_law_181 : decode M_Law_law.2.1 181 = .ok (.aload_n 0, 1) := by decide +kernel
theorem d_Law_law_182 : decode M_Law_law.2.1 182 = .ok (.iload 4, 2) := by decide +kernel
theorem d_Law_law_184 : decode M_Law_law.2.1 184 = .ok (.iconst 1, 1) := by decide +kernel
theorem d_Law_law_185 : decode M_Law_law.2.1 185 = .ok (.iadd, 1) := by decide +kernel
theorem d_Law_law_186 : decode M_Law_law.2.1 186 = .ok (.iaload, 1) := by decide +kernel
theorem d_Law_law_187 : decode M_Law_law.2.1 187 = .ok (.invokevirtual 45, 3) := by decide +kernel
theorem xw_1365 : (Jvm.Cond.code ({ cls := "MarkerTextModel", name := "value", desc := "(I)I" } : Jvm.MethodName) prog_13_method_16_code (5 : Nat) (Option.some Jvm.ClassFile.FieldType.int)) ∈ xT := xT_at 1365 (by decide +kernel) (by decide +kernel)
theorem xcb_Mo_value : xcb M_Mo_value 1 := ⟨xw_1365, xw_8, by decide, by decide, by decide, by decide +kernel⟩
theorem xw_1363 : (Jvm.Cond.instanceMethod ({ cls := "MarkerTextModel", name := "value", desc := "(I)I" } : Jvm.MethodName)) ∈ xT := xT_at 1363 (by decide +kernel) (by decide +kernel)
theorem xw_1362 : (Jvm.Cond.methodLink "MarkerTextLaw" (45 : Nat) ({ cls := "MarkerTextModel", name := "value", desc := "(I)I" } : Jvm.MethodName)) ∈ xT := xT_at 1362 (by decide +kernel) (by decide +kernel)
theorem xw_1364 : (Jvm.Cond.selects "MarkerTextModel" ({ cls := "MarkerTextModel", name := "value", desc := "(I)I" } : Jvm.MethodName) ({ cls := "MarkerTextModel", name := "value", desc := "(I)I" } : Jvm.MethodName)) ∈ xT := xT_at 1364 (by decide +kernel) (by decide +kernel)
theorem xcv_Law_45_Mo : xCV "MarkerTextLaw" 45 "MarkerTextModel" M_Mo_value 1 := ⟨xcb_Mo_value, xw_1363, Or.inl ⟨xw_1362, Or.inl xw_1364⟩⟩
theorem d_Law_law_190 : decode M_Law_law.2.1 190 = .ok (.istore 6, 2) := by decide +kernel
theorem d_Law_law_192 : decode M_Law_law.2.1 192 = .ok (.goto 342, 3) := by decide +kernel
theorem d_Law_law_195 : decode M_Law_law.2.1 195 = .ok (.aload_n 1, 1) := by decide +kernel
theorem d_Law_law_196 : decode M_Law_law.2.1 196 = .ok (.aload_n 3, 1) := by decide +kernel
theorem d_Law_law_197 : decode M_Law_law.2.1 197 = .ok (.invokestatic 46, 3) := by decide +kernel
theorem xcbw_Law_condition : xcbW M_Law_condition [((0 : Nat), (8 : Nat), (11 : Nat), (13 : Nat)), ((0 : Nat), (8 : Nat), (14 : Nat), (15 : Nat))] 2 := ⟨xw_818, xw_0, by decide, by decide, by decide, by decide +kernel⟩
theorem xw_817 : (Jvm.Cond.static ({ cls := "MarkerTextLaw", name := "condition", desc := "(LMarkerText;[J)I" } : Jvm.MethodName)) ∈ xT := xT_at 817 (by decide +kernel) (by decide +kernel)
theorem xw_816 : (Jvm.Cond.methodLink "MarkerTextLaw" (46 : Nat) ({ cls := "MarkerTextLaw", name := "condition", desc := "(LMarkerText;[J)I" } : Jvm.MethodName)) ∈ xT := xT_at 816 (by decide +kernel) (by decide +kernel)
theorem d_Law_law_200 : decode M_Law_law.2.1 200 = .ok (.istore 5, 2) := by decide +kernel
theorem d_Law_law_202 : decode M_Law_law.2.1 202 = .ok (.aload_n 2, 1) := by decide +kernel
theorem d_Law_law_203 : decode M_Law_law.2.1 203 = .ok (.invokevirtual 49, 3) := by decide +kernel
theorem xw_1394 : (Jvm.Cond.code ({ cls := "MarkerTextModel", name := "condition", desc := "()I" } : Jvm.MethodName) prog_13_method_36_code (1 : Nat) (Option.some Jvm.ClassFile.FieldType.int)) ∈ xT := xT_at 1394 (by decide +kernel) (by decide +kernel)
theorem xcb_Mo_condition : xcb M_Mo_condition 0 := ⟨xw_1394, xw_8, by decide, by decide, by decide, by decide +kernel⟩
theorem xw_1392 : (Jvm.Cond.instanceMethod ({ cls := "MarkerTextModel", name := "condition", desc := "()I" } : Jvm.MethodName)) ∈ xT := xT_at 1392 (by decide +kernel) (by decide +kernel)
theorem xw_1391 : (Jvm.Cond.methodLink "MarkerTextLaw" (49 : Nat) ({ cls := "MarkerTextModel", name := "condition", desc := "()I" } : Jvm.MethodName)) ∈ xT := xT_at 1391 (by decide +kernel) (by decide +kernel)
theorem xw_1393 : (Jvm.Cond.selects "MarkerTextModel" ({ cls := "MarkerTextModel", name := "condition", desc := "()I" } : Jvm.MethodName) ({ cls := "MarkerTextModel", name := "condition", desc := "()I" } : Jvm.MethodName)) ∈ xT := xT_at 1393 (by decide +kernel) (by decide +kernel)
theorem xcv_Law_49_Mo : xCV "MarkerTextLaw" 49 "MarkerTextModel" M_Mo_condition 0 := ⟨xcb_Mo_condition, xw_1392, Or.inl ⟨xw_1391, Or.inl xw_1393⟩⟩
theorem d_Law_law_206 : decode M_Law_law.2.1 206 = .ok (.istore 6, 2) := by decide +kernel
theorem d_Law_law_208 : decode M_Law_law.2.1 208 = .ok (.goto 326, 3) := by decide +kernel
theorem d_Law_law_211 : decode M_Law_law.2.1 211 = .ok (.aload_n 1, 1) := by decide +kernel
theorem d_Law_law_212 : decode M_Law_law.2.1 212 = .ok (.invokevirtual 50, 3) := by decide +kernel
theorem xw_277 : (Jvm.Cond.code ({ cls := "MarkerText", name := "place", desc := "()I" } : Jvm.MethodName) prog_1_method_6_code (1 : Nat) (Option.some Jvm.ClassFile.FieldType.int)) ∈ xT := xT_at 277 (by decide +kernel) (by decide +kernel)
theorem xcb_MT_place : xcb M_MT_place 0 := ⟨xw_277, xw_1, by decide, by decide, by decide, by decide +kernel⟩
theorem xw_275 : (Jvm.Cond.instanceMethod ({ cls := "MarkerText", name := "place", desc := "()I" } : Jvm.MethodName)) ∈ xT := xT_at 275 (by decide +kernel) (by decide +kernel)
theorem xw_274 : (Jvm.Cond.methodLink "MarkerTextLaw" (50 : Nat) ({ cls := "MarkerText", name := "place", desc := "()I" } : Jvm.MethodName)) ∈ xT := xT_at 274 (by decide +kernel) (by decide +kernel)
theorem xw_276 : (Jvm.Cond.selects "MarkerText" ({ cls := "MarkerText", name := "place", desc := "()I" } : Jvm.MethodName) ({ cls := "MarkerText", name := "place", desc := "()I" } : Jvm.MethodName)) ∈ xT := xT_at 276 (by decide +kernel) (by decide +kernel)
theorem xcv_Law_50_MT : xCV "MarkerTextLaw" 50 "MarkerText" M_MT_place 0 := ⟨xcb_MT_place, xw_275, Or.inl ⟨xw_274, Or.inl xw_276⟩⟩
theorem d_Law_law_215 : decode M_Law_law.2.1 215 = .ok (.pop, 1) := by decide +kernel
theorem d_Law_law_216 : decode M_Law_law.2.1 216 = .ok (.aload_n 2, 1) := by decide +kernel
theorem d_Law_law_217 : decode M_Law_law.2.1 217 = .ok (.invokevirtual 53, 3) := by decide +kernel
theorem xw_1474 : (Jvm.Cond.code ({ cls := "MarkerTextModel", name := "place", desc := "()I" } : Jvm.MethodName) prog_13_method_37_code (1 : Nat) (Option.some Jvm.ClassFile.FieldType.int)) ∈ xT := xT_at 1474 (by decide +kernel) (by decide +kernel)
theorem xcb_Mo_place : xcb M_Mo_place 0 := ⟨xw_1474, xw_8, by decide, by decide, by decide, by decide +kernel⟩
theorem xw_1472 : (Jvm.Cond.instanceMethod ({ cls := "MarkerTextModel", name := "place", desc := "()I" } : Jvm.MethodName)) ∈ xT := xT_at 1472 (by decide +kernel) (by decide +kernel)
theorem xw_1471 : (Jvm.Cond.methodLink "MarkerTextLaw" (53 : Nat) ({ cls := "MarkerTextModel", name := "place", desc := "()I" } : Jvm.MethodName)) ∈ xT := xT_at 1471 (by decide +kernel) (by decide +kernel)
theorem xw_1473 : (Jvm.Cond.selects "MarkerTextModel" ({ cls := "MarkerTextModel", name := "place", desc := "()I" } : Jvm.MethodName) ({ cls := "MarkerTextModel", name := "place", desc := "()I" } : Jvm.MethodName)) ∈ xT := xT_at 1473 (by decide +kernel) (by decide +kernel)
theorem xcv_Law_53_Mo : xCV "MarkerTextLaw" 53 "MarkerTextModel" M_Mo_place 0 := ⟨xcb_Mo_place, xw_1472, Or.inl ⟨xw_1471, Or.inl xw_1473⟩⟩
theorem d_Law_law_220 : decode M_Law_law.2.1 220 = .ok (.pop, 1) := by decide +kernel
theorem d_Law_law_221 : decode M_Law_law.2.1 221 = .ok (.goto 313, 3) := by decide +kernel
theorem d_Law_law_224 : decode M_Law_law.2.1 224 = .ok (.aload_n 1, 1) := by decide +kernel
theorem d_Law_law_225 : decode M_Law_law.2.1 225 = .ok (.aload_n 0, 1) := by decide +kernel
theorem d_Law_law_226 : decode M_Law_law.2.1 226 = .ok (.iload 4, 2) := by decide +kernel
theorem d_Law_law_228 : decode M_Law_law.2.1 228 = .ok (.iconst 1, 1) := by decide +kernel
theorem d_Law_law_229 : decode M_Law_law.2.1 229 = .ok (.iadd, 1) := by decide +kernel
theorem d_Law_law_230 : decode M_Law_law.2.1 230 = .ok (.iaload, 1) := by decide +kernel
theorem d_Law_law_231 : decode M_Law_law.2.1 231 = .ok (.invokestatic 54, 3) := by decide +kernel
theorem xcbw_Law_give : xcbW M_Law_give [((0 : Nat), (5 : Nat), (8 : Nat), (13 : Nat))] 2 := ⟨xw_1158, xw_0, by decide, by decide, by decide, by decide +kernel⟩
theorem xw_1157 : (Jvm.Cond.static ({ cls := "MarkerTextLaw", name := "give", desc := "(LMarkerText;I)I" } : Jvm.MethodName)) ∈ xT := xT_at 1157 (by decide +kernel) (by decide +kernel)
theorem xw_1156 : (Jvm.Cond.methodLink "MarkerTextLaw" (54 : Nat) ({ cls := "MarkerTextLaw", name := "give", desc := "(LMarkerText;I)I" } : Jvm.MethodName)) ∈ xT := xT_at 1156 (by decide +kernel) (by decide +kernel)
theorem d_Law_law_234 : decode M_Law_law.2.1 234 = .ok (.istore 5, 2) := by decide +kernel
theorem d_Law_law_236 : decode M_Law_law.2.1 236 = .ok (.aload_n 2, 1) := by decide +kernel
theorem d_Law_law_237 : decode M_Law_law.2.1 237 = .ok (.aload_n 0, 1) := by decide +kernel
theorem d_Law_law_238 : decode M_Law_law.2.1 238 = .ok (.iload 4, 2) := by decide +kernel
theorem d_Law_law_240 : decode M_Law_law.2.1 240 = .ok (.iconst 1, 1) := by decide +kernel
theorem d_Law_law_241 : decode M_Law_law.2.1 241 = .ok (.iadd, 1) := by decide +kernel
theorem d_Law_law_242 : decode M_Law_law.2.1 242 = .ok (.iaload, 1) := by decide +kernel
theorem d_Law_law_243 : decode M_Law_law.2.1 243 = .ok (.invokevirtual 57, 3) := by decide +kernel
theorem xw_1390 : (Jvm.Cond.code ({ cls := "MarkerTextModel", name := "give", desc := "(I)V" } : Jvm.MethodName) prog_13_method_17_code (4 : Nat) (Option.none : Option Jvm.ClassFile.FieldType)) ∈ xT := xT_at 1390 (by decide +kernel) (by decide +kernel)
theorem xcb_Mo_give : xcb M_Mo_give 1 := ⟨xw_1390, xw_8, by decide, by decide, by decide, by decide +kernel⟩
theorem xw_1388 : (Jvm.Cond.instanceMethod ({ cls := "MarkerTextModel", name := "give", desc := "(I)V" } : Jvm.MethodName)) ∈ xT := xT_at 1388 (by decide +kernel) (by decide +kernel)
theorem xw_1387 : (Jvm.Cond.methodLink "MarkerTextLaw" (57 : Nat) ({ cls := "MarkerTextModel", name := "give", desc := "(I)V" } : Jvm.MethodName)) ∈ xT := xT_at 1387 (by decide +kernel) (by decide +kernel)
theorem xw_1389 : (Jvm.Cond.selects "MarkerTextModel" ({ cls := "MarkerTextModel", name := "give", desc := "(I)V" } : Jvm.MethodName) ({ cls := "MarkerTextModel", name := "give", desc := "(I)V" } : Jvm.MethodName)) ∈ xT := xT_at 1389 (by decide +kernel) (by decide +kernel)
theorem xcv_Law_57_Mo : xCV "MarkerTextLaw" 57 "MarkerTextModel" M_Mo_give 1 := ⟨xcb_Mo_give, xw_1388, Or.inl ⟨xw_1387, Or.inl xw_1389⟩⟩
theorem d_Law_law_246 : decode M_Law_law.2.1 246 = .ok (.goto 288, 3) := by decide +kernel
theorem d_Law_law_249 : decode M_Law_law.2.1 249 = .ok (.aload_n 1, 1) := by decide +kernel
theorem d_Law_law_250 : decode M_Law_law.2.1 250 = .ok (.aload_n 0, 1) := by decide +kernel
theorem d_Law_law_251 : decode M_Law_law.2.1 251 = .ok (.iload 4, 2) := by decide +kernel
theorem d_Law_law_253 : decode M_Law_law.2.1 253 = .ok (.iconst 1, 1) := by decide +kernel
theorem d_Law_law_254 : decode M_Law_law.2.1 254 = .ok (.iadd, 1) := by decide +kernel
theorem d_Law_law_255 : decode M_Law_law.2.1 255 = .ok (.iaload, 1) := by decide +kernel
theorem d_Law_law_256 : decode M_Law_law.2.1 256 = .ok (.invokevirtual 58, 3) := by decide +kernel
theorem xw_281 : (Jvm.Cond.code ({ cls := "MarkerText", name := "holds", desc := "(I)Z" } : Jvm.MethodName) prog_1_method_8_code (3 : Nat) (Option.some Jvm.ClassFile.FieldType.boolean)) ∈ xT := xT_at 281 (by decide +kernel) (by decide +kernel)
theorem xcb_MT_holds : xcb M_MT_holds 1 := ⟨xw_281, xw_1, by decide, by decide, by decide, by decide +kernel⟩
theorem xw_279 : (Jvm.Cond.instanceMethod ({ cls := "MarkerText", name := "holds", desc := "(I)Z" } : Jvm.MethodName)) ∈ xT := xT_at 279 (by decide +kernel) (by decide +kernel)
theorem xw_278 : (Jvm.Cond.methodLink "MarkerTextLaw" (58 : Nat) ({ cls := "MarkerText", name := "holds", desc := "(I)Z" } : Jvm.MethodName)) ∈ xT := xT_at 278 (by decide +kernel) (by decide +kernel)
theorem xw_280 : (Jvm.Cond.selects "MarkerText" ({ cls := "MarkerText", name := "holds", desc := "(I)Z" } : Jvm.MethodName) ({ cls := "MarkerText", name := "holds", desc := "(I)Z" } : Jvm.MethodName)) ∈ xT := xT_at 280 (by decide +kernel) (by decide +kernel)
theorem xcv_Law_58_MT : xCV "MarkerTextLaw" 58 "MarkerText" M_MT_holds 1 := ⟨xcb_MT_holds, xw_279, Or.inl ⟨xw_278, Or.inl xw_280⟩⟩
theorem d_Law_law_259 : decode M_Law_law.2.1 259 = .ok (.pop, 1) := by decide +kernel
theorem d_Law_law_260 : decode M_Law_law.2.1 260 = .ok (.aload_n 2, 1) := by decide +kernel
theorem d_Law_law_261 : decode M_Law_law.2.1 261 = .ok (.aload_n 0, 1) := by decide +kernel
theorem d_Law_law_262 : decode M_Law_law.2.1 262 = .ok (.iload 4, 2) := by decide +kernel
theorem d_Law_law_264 : decode M_Law_law.2.1 264 = .ok (.iconst 1, 1) := by decide +kernel
theorem d_Law_law_265 : decode M_Law_law.2.1 265 = .ok (.iadd, 1) := by decide +kernel
theorem d_Law_law_266 : decode M_Law_law.2.1 266 = .ok (.iaload, 1) := by decide +kernel
theorem d_Law_law_267 : decode M_Law_law.2.1 267 = .ok (.invokevirtual 62, 3) := by decide +kernel
theorem xw_1478 : (Jvm.Cond.code ({ cls := "MarkerTextModel", name := "holds", desc := "(I)Z" } : Jvm.MethodName) prog_13_method_42_code (2 : Nat) (Option.some Jvm.ClassFile.FieldType.boolean)) ∈ xT := xT_at 1478 (by decide +kernel) (by decide +kernel)
theorem xcb_Mo_holds : xcb M_Mo_holds 1 := ⟨xw_1478, xw_8, by decide, by decide, by decide, by decide +kernel⟩
theorem xw_1476 : (Jvm.Cond.instanceMethod ({ cls := "MarkerTextModel", name := "holds", desc := "(I)Z" } : Jvm.MethodName)) ∈ xT := xT_at 1476 (by decide +kernel) (by decide +kernel)
theorem xw_1475 : (Jvm.Cond.methodLink "MarkerTextLaw" (62 : Nat) ({ cls := "MarkerTextModel", name := "holds", desc := "(I)Z" } : Jvm.MethodName)) ∈ xT := xT_at 1475 (by decide +kernel) (by decide +kernel)
theorem xw_1477 : (Jvm.Cond.selects "MarkerTextModel" ({ cls := "MarkerTextModel", name := "holds", desc := "(I)Z" } : Jvm.MethodName) ({ cls := "MarkerTextModel", name := "holds", desc := "(I)Z" } : Jvm.MethodName)) ∈ xT := xT_at 1477 (by decide +kernel) (by decide +kernel)
theorem xcv_Law_62_Mo : xCV "MarkerTextLaw" 62 "MarkerTextModel" M_Mo_holds 1 := ⟨xcb_Mo_holds, xw_1476, Or.inl ⟨xw_1475, Or.inl xw_1477⟩⟩
theorem d_Law_law_270 : decode M_Law_law.2.1 270 = .ok (.pop, 1) := by decide +kernel
theorem d_Law_law_271 : decode M_Law_law.2.1 271 = .ok (.goto 263, 3) := by decide +kernel
theorem d_Law_law_274 : decode M_Law_law.2.1 274 = .ok (.aload_n 1, 1) := by decide +kernel
theorem d_Law_law_275 : decode M_Law_law.2.1 275 = .ok (.aload_n 0, 1) := by decide +kernel
theorem d_Law_law_276 : decode M_Law_law.2.1 276 = .ok (.iload 4, 2) := by decide +kernel
theorem d_Law_law_278 : decode M_Law_law.2.1 278 = .ok (.iconst 1, 1) := by decide +kernel
theorem d_Law_law_279 : decode M_Law_law.2.1 279 = .ok (.iadd, 1) := by decide +kernel
theorem d_Law_law_280 : decode M_Law_law.2.1 280 = .ok (.iaload, 1) := by decide +kernel
theorem d_Law_law_281 : decode M_Law_law.2.1 281 = .ok (.invokevirtual 63, 3) := by decide +kernel
theorem xw_309 : (Jvm.Cond.code ({ cls := "MarkerText", name := "ever", desc := "(I)I" } : Jvm.MethodName) prog_1_method_9_code (2 : Nat) (Option.some Jvm.ClassFile.FieldType.int)) ∈ xT := xT_at 309 (by decide +kernel) (by decide +kernel)
theorem xcb_MT_ever : xcb M_MT_ever 1 := ⟨xw_309, xw_1, by decide, by decide, by decide, by decide +kernel⟩
theorem xw_307 : (Jvm.Cond.instanceMethod ({ cls := "MarkerText", name := "ever", desc := "(I)I" } : Jvm.MethodName)) ∈ xT := xT_at 307 (by decide +kernel) (by decide +kernel)
theorem xw_306 : (Jvm.Cond.methodLink "MarkerTextLaw" (63 : Nat) ({ cls := "MarkerText", name := "ever", desc := "(I)I" } : Jvm.MethodName)) ∈ xT := xT_at 306 (by decide +kernel) (by decide +kernel)
theorem xw_308 : (Jvm.Cond.selects "MarkerText" ({ cls := "MarkerText", name := "ever", desc := "(I)I" } : Jvm.MethodName) ({ cls := "MarkerText", name := "ever", desc := "(I)I" } : Jvm.MethodName)) ∈ xT := xT_at 308 (by decide +kernel) (by decide +kernel)
theorem xcv_Law_63_MT : xCV "MarkerTextLaw" 63 "MarkerText" M_MT_ever 1 := ⟨xcb_MT_ever, xw_307, Or.inl ⟨xw_306, Or.inl xw_308⟩⟩
theorem d_Law_law_284 : decode M_Law_law.2.1 284 = .ok (.pop, 1) := by decide +kernel
theorem d_Law_law_285 : decode M_Law_law.2.1 285 = .ok (.aload_n 2, 1) := by decide +kernel
theorem d_Law_law_286 : decode M_Law_law.2.1 286 = .ok (.aload_n 0, 1) := by decide +kernel
theorem d_Law_law_287 : decode M_Law_law.2.1 287 = .ok (.iload 4, 2) := by decide +kernel
theorem d_Law_law_289 : decode M_Law_law.2.1 289 = .ok (.iconst 1, 1) := by decide +kernel
theorem d_Law_law_290 : decode M_Law_law.2.1 290 = .ok (.iadd, 1) := by decide +kernel
theorem d_Law_law_291 : decode M_Law_law.2.1 291 = .ok (.iaload, 1) := by decide +kernel
theorem d_Law_law_292 : decode M_Law_law.2.1 292 = .ok (.invokevirtual 66, 3) := by decide +kernel
theorem xw_1497 : (Jvm.Cond.code ({ cls := "MarkerTextModel", name := "ever", desc := "(I)I" } : Jvm.MethodName) prog_13_method_51_code (2 : Nat) (Option.some Jvm.ClassFile.FieldType.int)) ∈ xT := xT_at 1497 (by decide +kernel) (by decide +kernel)
theorem xcb_Mo_ever : xcb M_Mo_ever 1 := ⟨xw_1497, xw_8, by decide, by decide, by decide, by decide +kernel⟩
theorem xw_1495 : (Jvm.Cond.instanceMethod ({ cls := "MarkerTextModel", name := "ever", desc := "(I)I" } : Jvm.MethodName)) ∈ xT := xT_at 1495 (by decide +kernel) (by decide +kernel)
theorem xw_1494 : (Jvm.Cond.methodLink "MarkerTextLaw" (66 : Nat) ({ cls := "MarkerTextModel", name := "ever", desc := "(I)I" } : Jvm.MethodName)) ∈ xT := xT_at 1494 (by decide +kernel) (by decide +kernel)
theorem xw_1496 : (Jvm.Cond.selects "MarkerTextModel" ({ cls := "MarkerTextModel", name := "ever", desc := "(I)I" } : Jvm.MethodName) ({ cls := "MarkerTextModel", name := "ever", desc := "(I)I" } : Jvm.MethodName)) ∈ xT := xT_at 1496 (by decide +kernel) (by decide +kernel)
theorem xcv_Law_66_Mo : xCV "MarkerTextLaw" 66 "MarkerTextModel" M_Mo_ever 1 := ⟨xcb_Mo_ever, xw_1495, Or.inl ⟨xw_1494, Or.inl xw_1496⟩⟩
theorem d_Law_law_295 : decode M_Law_law.2.1 295 = .ok (.pop, 1) := by decide +kernel
theorem d_Law_law_296 : decode M_Law_law.2.1 296 = .ok (.goto 238, 3) := by decide +kernel
theorem d_Law_law_299 : decode M_Law_law.2.1 299 = .ok (.aload_n 1, 1) := by decide +kernel
theorem d_Law_law_300 : decode M_Law_law.2.1 300 = .ok (.aload_n 0, 1) := by decide +kernel
theorem d_Law_law_301 : decode M_Law_law.2.1 301 = .ok (.iload 4, 2) := by decide +kernel
theorem d_Law_law_303 : decode M_Law_law.2.1 303 = .ok (.iconst 1, 1) := by decide +kernel
theorem d_Law_law_304 : decode M_Law_law.2.1 304 = .ok (.iadd, 1) := by decide +kernel
theorem d_Law_law_305 : decode M_Law_law.2.1 305 = .ok (.iaload, 1) := by decide +kernel
theorem d_Law_law_306 : decode M_Law_law.2.1 306 = .ok (.aload_n 0, 1) := by decide +kernel
theorem d_Law_law_307 : decode M_Law_law.2.1 307 = .ok (.iload 4, 2) := by decide +kernel
theorem d_Law_law_309 : decode M_Law_law.2.1 309 = .ok (.iconst 2, 1) := by decide +kernel
theorem d_Law_law_310 : decode M_Law_law.2.1 310 = .ok (.iadd, 1) := by decide +kernel
theorem d_Law_law_311 : decode M_Law_law.2.1 311 = .ok (.iaload, 1) := by decide +kernel
theorem d_Law_law_312 : decode M_Law_law.2.1 312 = .ok (.invokevirtual 67, 3) := by decide +kernel
theorem xw_366 : (Jvm.Cond.code ({ cls := "MarkerText", name := "implies", desc := "(II)I" } : Jvm.MethodName) prog_1_method_10_code (3 : Nat) (Option.some Jvm.ClassFile.FieldType.int)) ∈ xT := xT_at 366 (by decide +kernel) (by decide +kernel)
theorem xcb_MT_implies : xcb M_MT_implies 2 := ⟨xw_366, xw_1, by decide, by decide, by decide, by decide +kernel⟩
theorem xw_364 : (Jvm.Cond.instanceMethod ({ cls := "MarkerText", name := "implies", desc := "(II)I" } : Jvm.MethodName)) ∈ xT := xT_at 364 (by decide +kernel) (by decide +kernel)
theorem xw_363 : (Jvm.Cond.methodLink "MarkerTextLaw" (67 : Nat) ({ cls := "MarkerText", name := "implies", desc := "(II)I" } : Jvm.MethodName)) ∈ xT := xT_at 363 (by decide +kernel) (by decide +kernel)
theorem xw_365 : (Jvm.Cond.selects "MarkerText" ({ cls := "MarkerText", name := "implies", desc := "(II)I" } : Jvm.MethodName) ({ cls := "MarkerText", name := "implies", desc := "(II)I" } : Jvm.MethodName)) ∈ xT := xT_at 365 (by decide +kernel) (by decide +kernel)
theorem xcv_Law_67_MT : xCV "MarkerTextLaw" 67 "MarkerText" M_MT_implies 2 := ⟨xcb_MT_implies, xw_364, Or.inl ⟨xw_363, Or.inl xw_365⟩⟩
theorem d_Law_law_315 : decode M_Law_law.2.1 315 = .ok (.pop, 1) := by decide +kernel
theorem d_Law_law_316 : decode M_Law_law.2.1 316 = .ok (.aload_n 2, 1) := by decide +kernel
theorem d_Law_law_317 : decode M_Law_law.2.1 317 = .ok (.aload_n 0, 1) := by decide +kernel
theorem d_Law_law_318 : decode M_Law_law.2.1 318 = .ok (.iload 4, 2) := by decide +kernel
theorem d_Law_law_320 : decode M_Law_law.2.1 320 = .ok (.iconst 1, 1) := by decide +kernel
theorem d_Law_law_321 : decode M_Law_law.2.1 321 = .ok (.iadd, 1) := by decide +kernel
theorem d_Law_law_322 : decode M_Law_law.2.1 322 = .ok (.iaload, 1) := by decide +kernel
theorem d_Law_law_323 : decode M_Law_law.2.1 323 = .ok (.aload_n 0, 1) := by decide +kernel
theorem d_Law_law_324 : decode M_Law_law.2.1 324 = .ok (.iload 4, 2) := by decide +kernel
theorem d_Law_law_326 : decode M_Law_law.2.1 326 = .ok (.iconst 2, 1) := by decide +kernel
theorem d_Law_law_327 : decode M_Law_law.2.1 327 = .ok (.iadd, 1) := by decide +kernel
theorem d_Law_law_328 : decode M_Law_law.2.1 328 = .ok (.iaload, 1) := by decide +kernel
theorem d_Law_law_329 : decode M_Law_law.2.1 329 = .ok (.invokevirtual 71, 3) := by decide +kernel
theorem xw_1534 : (Jvm.Cond.code ({ cls := "MarkerTextModel", name := "implies", desc := "(II)I" } : Jvm.MethodName) prog_13_method_52_code (4 : Nat) (Option.some Jvm.ClassFile.FieldType.int)) ∈ xT := xT_at 1534 (by decide +kernel) (by decide +kernel)
theorem xcb_Mo_implies : xcb M_Mo_implies 2 := ⟨xw_1534, xw_8, by decide, by decide, by decide, by decide +kernel⟩
theorem xw_1532 : (Jvm.Cond.instanceMethod ({ cls := "MarkerTextModel", name := "implies", desc := "(II)I" } : Jvm.MethodName)) ∈ xT := xT_at 1532 (by decide +kernel) (by decide +kernel)
theorem xw_1531 : (Jvm.Cond.methodLink "MarkerTextLaw" (71 : Nat) ({ cls := "MarkerTextModel", name := "implies", desc := "(II)I" } : Jvm.MethodName)) ∈ xT := xT_at 1531 (by decide +kernel) (by decide +kernel)
theorem xw_1533 : (Jvm.Cond.selects "MarkerTextModel" ({ cls := "MarkerTextModel", name := "implies", desc := "(II)I" } : Jvm.MethodName) ({ cls := "MarkerTextModel", name := "implies", desc := "(II)I" } : Jvm.MethodName)) ∈ xT := xT_at 1533 (by decide +kernel) (by decide +kernel)
theorem xcv_Law_71_Mo : xCV "MarkerTextLaw" 71 "MarkerTextModel" M_Mo_implies 2 := ⟨xcb_Mo_implies, xw_1532, Or.inl ⟨xw_1531, Or.inl xw_1533⟩⟩
theorem d_Law_law_332 : decode M_Law_law.2.1 332 = .ok (.pop, 1) := by decide +kernel
theorem d_Law_law_333 : decode M_Law_law.2.1 333 = .ok (.goto 201, 3) := by decide +kernel
theorem d_Law_law_336 : decode M_Law_law.2.1 336 = .ok (.aload_n 1, 1) := by decide +kernel
theorem d_Law_law_337 : decode M_Law_law.2.1 337 = .ok (.aload_n 0, 1) := by decide +kernel
theorem d_Law_law_338 : decode M_Law_law.2.1 338 = .ok (.iload 4, 2) := by decide +kernel
theorem d_Law_law_340 : decode M_Law_law.2.1 340 = .ok (.iconst 1, 1) := by decide +kernel
theorem d_Law_law_341 : decode M_Law_law.2.1 341 = .ok (.iadd, 1) := by decide +kernel
theorem d_Law_law_342 : decode M_Law_law.2.1 342 = .ok (.iaload, 1) := by decide +kernel
theorem d_Law_law_343 : decode M_Law_law.2.1 343 = .ok (.aload_n 0, 1) := by decide +kernel
theorem d_Law_law_344 : decode M_Law_law.2.1 344 = .ok (.iload 4, 2) := by decide +kernel
theorem d_Law_law_346 : decode M_Law_law.2.1 346 = .ok (.iconst 2, 1) := by decide +kernel
theorem d_Law_law_347 : decode M_Law_law.2.1 347 = .ok (.iadd, 1) := by decide +kernel
theorem d_Law_law_348 : decode M_Law_law.2.1 348 = .ok (.iaload, 1) := by decide +kernel
theorem d_Law_law_349 : decode M_Law_law.2.1 349 = .ok (.invokevirtual 72, 3) := by decide +kernel
theorem xw_373 : (Jvm.Cond.code ({ cls := "MarkerText", name := "apart", desc := "(II)I" } : Jvm.MethodName) prog_1_method_11_code (3 : Nat) (Option.some Jvm.ClassFile.FieldType.int)) ∈ xT := xT_at 373 (by decide +kernel) (by decide +kernel)
theorem xcb_MT_apart : xcb M_MT_apart 2 := ⟨xw_373, xw_1, by decide, by decide, by decide, by decide +kernel⟩
theorem xw_371 : (Jvm.Cond.instanceMethod ({ cls := "MarkerText", name := "apart", desc := "(II)I" } : Jvm.MethodName)) ∈ xT := xT_at 371 (by decide +kernel) (by decide +kernel)
theorem xw_370 : (Jvm.Cond.methodLink "MarkerTextLaw" (72 : Nat) ({ cls := "MarkerText", name := "apart", desc := "(II)I" } : Jvm.MethodName)) ∈ xT := xT_at 370 (by decide +kernel) (by decide +kernel)
theorem xw_372 : (Jvm.Cond.selects "MarkerText" ({ cls := "MarkerText", name := "apart", desc := "(II)I" } : Jvm.MethodName) ({ cls := "MarkerText", name := "apart", desc := "(II)I" } : Jvm.MethodName)) ∈ xT := xT_at 372 (by decide +kernel) (by decide +kernel)
theorem xcv_Law_72_MT : xCV "MarkerTextLaw" 72 "MarkerText" M_MT_apart 2 := ⟨xcb_MT_apart, xw_371, Or.inl ⟨xw_370, Or.inl xw_372⟩⟩
theorem d_Law_law_352 : decode M_Law_law.2.1 352 = .ok (.aload_n 2, 1) := by decide +kernel
theorem d_Law_law_353 : decode M_Law_law.2.1 353 = .ok (.aload_n 0, 1) := by decide +kernel
theorem d_Law_law_354 : decode M_Law_law.2.1 354 = .ok (.iload 4, 2) := by decide +kernel
theorem d_Law_law_356 : decode M_Law_law.2.1 356 = .ok (.iconst 1, 1) := by decide +kernel
theorem d_Law_law_357 : decode M_Law_law.2.1 357 = .ok (.iadd, 1) := by decide +kernel
theorem d_Law_law_358 : decode M_Law_law.2.1 358 = .ok (.iaload, 1) := by decide +kernel
theorem d_Law_law_359 : decode M_Law_law.2.1 359 = .ok (.aload_n 0, 1) := by decide +kernel
theorem d_Law_law_360 : decode M_Law_law.2.1 360 = .ok (.iload 4, 2) := by decide +kernel
theorem d_Law_law_362 : decode M_Law_law.2.1 362 = .ok (.iconst 2, 1) := by decide +kernel
theorem d_Law_law_363 : decode M_Law_law.2.1 363 = .ok (.iadd, 1) := by decide +kernel
theorem d_Law_law_364 : decode M_Law_law.2.1 364 = .ok (.iaload, 1) := by decide +kernel
theorem d_Law_law_365 : decode M_Law_law.2.1 365 = .ok (.invokevirtual 75, 3) := by decide +kernel
theorem xw_1538 : (Jvm.Cond.code ({ cls := "MarkerTextModel", name := "apart", desc := "(II)I" } : Jvm.MethodName) prog_13_method_53_code (4 : Nat) (Option.some Jvm.ClassFile.FieldType.int)) ∈ xT := xT_at 1538 (by decide +kernel) (by decide +kernel)
theorem xcb_Mo_apart : xcb M_Mo_apart 2 := ⟨xw_1538, xw_8, by decide, by decide, by decide, by decide +kernel⟩
theorem xw_1536 : (Jvm.Cond.instanceMethod ({ cls := "MarkerTextModel", name := "apart", desc := "(II)I" } : Jvm.MethodName)) ∈ xT := xT_at 1536 (by decide +kernel) (by decide +kernel)
theorem xw_1535 : (Jvm.Cond.methodLink "MarkerTextLaw" (75 : Nat) ({ cls := "MarkerTextModel", name := "apart", desc := "(II)I" } : Jvm.MethodName)) ∈ xT := xT_at 1535 (by decide +kernel) (by decide +kernel)
theorem xw_1537 : (Jvm.Cond.selects "MarkerTextModel" ({ cls := "MarkerTextModel", name := "apart", desc := "(II)I" } : Jvm.MethodName) ({ cls := "MarkerTextModel", name := "apart", desc := "(II)I" } : Jvm.MethodName)) ∈ xT := xT_at 1537 (by decide +kernel) (by decide +kernel)
theorem xcv_Law_75_Mo : xCV "MarkerTextLaw" 75 "MarkerTextModel" M_Mo_apart 2 := ⟨xcb_Mo_apart, xw_1536, Or.inl ⟨xw_1535, Or.inl xw_1537⟩⟩
theorem d_Law_law_368 : decode M_Law_law.2.1 368 = .ok (.if_icmp .eq 166, 3) := by decide +kernel
theorem d_Law_law_373 : decode M_Law_law.2.1 373 = .ok (.aload_n 1, 1) := by decide +kernel
theorem d_Law_law_374 : decode M_Law_law.2.1 374 = .ok (.aload_n 0, 1) := by decide +kernel
theorem d_Law_law_375 : decode M_Law_law.2.1 375 = .ok (.iload 4, 2) := by decide +kernel
theorem d_Law_law_377 : decode M_Law_law.2.1 377 = .ok (.iconst 1, 1) := by decide +kernel
theorem d_Law_law_378 : decode M_Law_law.2.1 378 = .ok (.iadd, 1) := by decide +kernel
theorem d_Law_law_379 : decode M_Law_law.2.1 379 = .ok (.iaload, 1) := by decide +kernel
theorem d_Law_law_380 : decode M_Law_law.2.1 380 = .ok (.invokevirtual 76, 3) := by decide +kernel
theorem xw_377 : (Jvm.Cond.code ({ cls := "MarkerText", name := "classes", desc := "(I)I" } : Jvm.MethodName) prog_1_method_12_code (3 : Nat) (Option.some Jvm.ClassFile.FieldType.int)) ∈ xT := xT_at 377 (by decide +kernel) (by decide +kernel)
theorem xcb_MT_classes : xcb M_MT_classes 1 := ⟨xw_377, xw_1, by decide, by decide, by decide, by decide +kernel⟩
theorem xw_375 : (Jvm.Cond.instanceMethod ({ cls := "MarkerText", name := "classes", desc := "(I)I" } : Jvm.MethodName)) ∈ xT := xT_at 375 (by decide +kernel) (by decide +kernel)
theorem xw_374 : (Jvm.Cond.methodLink "MarkerTextLaw" (76 : Nat) ({ cls := "MarkerText", name := "classes", desc := "(I)I" } : Jvm.MethodName)) ∈ xT := xT_at 374 (by decide +kernel) (by decide +kernel)
theorem xw_376 : (Jvm.Cond.selects "MarkerText" ({ cls := "MarkerText", name := "classes", desc := "(I)I" } : Jvm.MethodName) ({ cls := "MarkerText", name := "classes", desc := "(I)I" } : Jvm.MethodName)) ∈ xT := xT_at 376 (by decide +kernel) (by decide +kernel)
theorem xcv_Law_76_MT : xCV "MarkerTextLaw" 76 "MarkerText" M_MT_classes 1 := ⟨xcb_MT_classes, xw_375, Or.inl ⟨xw_374, Or.inl xw_376⟩⟩
theorem d_Law_law_383 : decode M_Law_law.2.1 383 = .ok (.pop, 1) := by decide +kernel
theorem d_Law_law_384 : decode M_Law_law.2.1 384 = .ok (.aload_n 2, 1) := by decide +kernel
theorem d_Law_law_385 : decode M_Law_law.2.1 385 = .ok (.aload_n 0, 1) := by decide +kernel
theorem d_Law_law_386 : decode M_Law_law.2.1 386 = .ok (.iload 4, 2) := by decide +kernel
theorem d_Law_law_388 : decode M_Law_law.2.1 388 = .ok (.iconst 1, 1) := by decide +kernel
theorem d_Law_law_389 : decode M_Law_law.2.1 389 = .ok (.iadd, 1) := by decide +kernel
theorem d_Law_law_390 : decode M_Law_law.2.1 390 = .ok (.iaload, 1) := by decide +kernel
theorem d_Law_law_391 : decode M_Law_law.2.1 391 = .ok (.invokevirtual 79, 3) := by decide +kernel
theorem xw_1542 : (Jvm.Cond.code ({ cls := "MarkerTextModel", name := "classes", desc := "(I)I" } : Jvm.MethodName) prog_13_method_54_code (7 : Nat) (Option.some Jvm.ClassFile.FieldType.int)) ∈ xT := xT_at 1542 (by decide +kernel) (by decide +kernel)
theorem xcb_Mo_classes : xcb M_Mo_classes 1 := ⟨xw_1542, xw_8, by decide, by decide, by decide, by decide +kernel⟩
theorem xw_1540 : (Jvm.Cond.instanceMethod ({ cls := "MarkerTextModel", name := "classes", desc := "(I)I" } : Jvm.MethodName)) ∈ xT := xT_at 1540 (by decide +kernel) (by decide +kernel)
theorem xw_1539 : (Jvm.Cond.methodLink "MarkerTextLaw" (79 : Nat) ({ cls := "MarkerTextModel", name := "classes", desc := "(I)I" } : Jvm.MethodName)) ∈ xT := xT_at 1539 (by decide +kernel) (by decide +kernel)
theorem xw_1541 : (Jvm.Cond.selects "MarkerTextModel" ({ cls := "MarkerTextModel", name := "classes", desc := "(I)I" } : Jvm.MethodName) ({ cls := "MarkerTextModel", name := "classes", desc := "(I)I" } : Jvm.MethodName)) ∈ xT := xT_at 1541 (by decide +kernel) (by decide +kernel)
theorem xcv_Law_79_Mo : xCV "MarkerTextLaw" 79 "MarkerTextModel" M_Mo_classes 1 := ⟨xcb_Mo_classes, xw_1540, Or.inl ⟨xw_1539, Or.inl xw_1541⟩⟩
theorem d_Law_law_394 : decode M_Law_law.2.1 394 = .ok (.pop, 1) := by decide +kernel
theorem d_Law_law_395 : decode M_Law_law.2.1 395 = .ok (.goto 139, 3) := by decide +kernel
theorem d_Law_law_398 : decode M_Law_law.2.1 398 = .ok (.aload_n 1, 1) := by decide +kernel
theorem d_Law_law_399 : decode M_Law_law.2.1 399 = .ok (.aload_n 0, 1) := by decide +kernel
theorem d_Law_law_400 : decode M_Law_law.2.1 400 = .ok (.iload 4, 2) := by decide +kernel
theorem d_Law_law_402 : decode M_Law_law.2.1 402 = .ok (.iconst 1, 1) := by decide +kernel
theorem d_Law_law_403 : decode M_Law_law.2.1 403 = .ok (.iadd, 1) := by decide +kernel
theorem d_Law_law_404 : decode M_Law_law.2.1 404 = .ok (.iaload, 1) := by decide +kernel
theorem d_Law_law_405 : decode M_Law_law.2.1 405 = .ok (.invokevirtual 80, 3) := by decide +kernel
theorem xw_399 : (Jvm.Cond.code ({ cls := "MarkerText", name := "many", desc := "(I)I" } : Jvm.MethodName) prog_1_method_13_code (2 : Nat) (Option.some Jvm.ClassFile.FieldType.int)) ∈ xT := xT_at 399 (by decide +kernel) (by decide +kernel)
theorem xcb_MT_many : xcb M_MT_many 1 := ⟨xw_399, xw_1, by decide, by decide, by decide, by decide +kernel⟩
theorem xw_397 : (Jvm.Cond.instanceMethod ({ cls := "MarkerText", name := "many", desc := "(I)I" } : Jvm.MethodName)) ∈ xT := xT_at 397 (by decide +kernel) (by decide +kernel)
theorem xw_396 : (Jvm.Cond.methodLink "MarkerTextLaw" (80 : Nat) ({ cls := "MarkerText", name := "many", desc := "(I)I" } : Jvm.MethodName)) ∈ xT := xT_at 396 (by decide +kernel) (by decide +kernel)
theorem xw_398 : (Jvm.Cond.selects "MarkerText" ({ cls := "MarkerText", name := "many", desc := "(I)I" } : Jvm.MethodName) ({ cls := "MarkerText", name := "many", desc := "(I)I" } : Jvm.MethodName)) ∈ xT := xT_at 398 (by decide +kernel) (by decide +kernel)
theorem xcv_Law_80_MT : xCV "MarkerTextLaw" 80 "MarkerText" M_MT_many 1 := ⟨xcb_MT_many, xw_397, Or.inl ⟨xw_396, Or.inl xw_398⟩⟩
theorem d_Law_law_408 : decode M_Law_law.2.1 408 = .ok (.pop, 1) := by decide +kernel
theorem d_Law_law_409 : decode M_Law_law.2.1 409 = .ok (.aload_n 2, 1) := by decide +kernel
theorem d_Law_law_410 : decode M_Law_law.2.1 410 = .ok (.aload_n 0, 1) := by decide +kernel
theorem d_Law_law_411 : decode M_Law_law.2.1 411 = .ok (.iload 4, 2) := by decide +kernel
theorem d_Law_law_413 : decode M_Law_law.2.1 413 = .ok (.iconst 1, 1) := by decide +kernel
theorem d_Law_law_414 : decode M_Law_law.2.1 414 = .ok (.iadd, 1) := by decide +kernel
theorem d_Law_law_415 : decode M_Law_law.2.1 415 = .ok (.iaload, 1) := by decide +kernel
theorem d_Law_law_416 : decode M_Law_law.2.1 416 = .ok (.invokevirtual 83, 3) := by decide +kernel
theorem xw_1546 : (Jvm.Cond.code ({ cls := "MarkerTextModel", name := "many", desc := "(I)I" } : Jvm.MethodName) prog_13_method_55_code (2 : Nat) (Option.some Jvm.ClassFile.FieldType.int)) ∈ xT := xT_at 1546 (by decide +kernel) (by decide +kernel)
theorem xcb_Mo_many : xcb M_Mo_many 1 := ⟨xw_1546, xw_8, by decide, by decide, by decide, by decide +kernel⟩
theorem xw_1544 : (Jvm.Cond.instanceMethod ({ cls := "MarkerTextModel", name := "many", desc := "(I)I" } : Jvm.MethodName)) ∈ xT := xT_at 1544 (by decide +kernel) (by decide +kernel)
theorem xw_1543 : (Jvm.Cond.methodLink "MarkerTextLaw" (83 : Nat) ({ cls := "MarkerTextModel", name := "many", desc := "(I)I" } : Jvm.MethodName)) ∈ xT := xT_at 1543 (by decide +kernel) (by decide +kernel)
theorem xw_1545 : (Jvm.Cond.selects "MarkerTextModel" ({ cls := "MarkerTextModel", name := "many", desc := "(I)I" } : Jvm.MethodName) ({ cls := "MarkerTextModel", name := "many", desc := "(I)I" } : Jvm.MethodName)) ∈ xT := xT_at 1545 (by decide +kernel) (by decide +kernel)
theorem xcv_Law_83_Mo : xCV "MarkerTextLaw" 83 "MarkerTextModel" M_Mo_many 1 := ⟨xcb_Mo_many, xw_1544, Or.inl ⟨xw_1543, Or.inl xw_1545⟩⟩
theorem d_Law_law_419 : decode M_Law_law.2.1 419 = .ok (.pop, 1) := by decide +kernel
theorem d_Law_law_420 : decode M_Law_law.2.1 420 = .ok (.goto 114, 3) := by decide +kernel
theorem d_Law_law_423 : decode M_Law_law.2.1 423 = .ok (.aload_n 1, 1) := by decide +kernel
theorem d_Law_law_424 : decode M_Law_law.2.1 424 = .ok (.aload_n 0, 1) := by decide +kernel
theorem d_Law_law_425 : decode M_Law_law.2.1 425 = .ok (.iload 4, 2) := by decide +kernel
theorem d_Law_law_427 : decode M_Law_law.2.1 427 = .ok (.iconst 1, 1) := by decide +kernel
theorem d_Law_law_428 : decode M_Law_law.2.1 428 = .ok (.iadd, 1) := by decide +kernel
theorem d_Law_law_429 : decode M_Law_law.2.1 429 = .ok (.iaload, 1) := by decide +kernel
theorem d_Law_law_430 : decode M_Law_law.2.1 430 = .ok (.aload_n 0, 1) := by decide +kernel
theorem d_Law_law_431 : decode M_Law_law.2.1 431 = .ok (.iload 4, 2) := by decide +kernel
theorem d_Law_law_433 : decode M_Law_law.2.1 433 = .ok (.iconst 2, 1) := by decide +kernel
theorem d_Law_law_434 : decode M_Law_law.2.1 434 = .ok (.iadd, 1) := by decide +kernel
theorem d_Law_law_435 : decode M_Law_law.2.1 435 = .ok (.iaload, 1) := by decide +kernel
theorem d_Law_law_436 : decode M_Law_law.2.1 436 = .ok (.invokevirtual 84, 3) := by decide +kernel
theorem xw_404 : (Jvm.Cond.code ({ cls := "MarkerText", name := "inClass", desc := "(II)Z" } : Jvm.MethodName) prog_1_method_14_code (3 : Nat) (Option.some Jvm.ClassFile.FieldType.boolean)) ∈ xT := xT_at 404 (by decide +kernel) (by decide +kernel)
theorem xcb_MT_inClass : xcb M_MT_inClass 2 := ⟨xw_404, xw_1, by decide, by decide, by decide, by decide +kernel⟩
theorem xw_402 : (Jvm.Cond.instanceMethod ({ cls := "MarkerText", name := "inClass", desc := "(II)Z" } : Jvm.MethodName)) ∈ xT := xT_at 402 (by decide +kernel) (by decide +kernel)
theorem xw_401 : (Jvm.Cond.methodLink "MarkerTextLaw" (84 : Nat) ({ cls := "MarkerText", name := "inClass", desc := "(II)Z" } : Jvm.MethodName)) ∈ xT := xT_at 401 (by decide +kernel) (by decide +kernel)
theorem xw_403 : (Jvm.Cond.selects "MarkerText" ({ cls := "MarkerText", name := "inClass", desc := "(II)Z" } : Jvm.MethodName) ({ cls := "MarkerText", name := "inClass", desc := "(II)Z" } : Jvm.MethodName)) ∈ xT := xT_at 403 (by decide +kernel) (by decide +kernel)
theorem xcv_Law_84_MT : xCV "MarkerTextLaw" 84 "MarkerText" M_MT_inClass 2 := ⟨xcb_MT_inClass, xw_402, Or.inl ⟨xw_401, Or.inl xw_403⟩⟩
theorem d_Law_law_439 : decode M_Law_law.2.1 439 = .ok (.pop, 1) := by decide +kernel
theorem d_Law_law_440 : decode M_Law_law.2.1 440 = .ok (.aload_n 2, 1) := by decide +kernel
theorem d_Law_law_441 : decode M_Law_law.2.1 441 = .ok (.aload_n 0, 1) := by decide +kernel
theorem d_Law_law_442 : decode M_Law_law.2.1 442 = .ok (.iload 4, 2) := by decide +kernel
theorem d_Law_law_444 : decode M_Law_law.2.1 444 = .ok (.iconst 1, 1) := by decide +kernel
theorem d_Law_law_445 : decode M_Law_law.2.1 445 = .ok (.iadd, 1) := by decide +kernel
theorem d_Law_law_446 : decode M_Law_law.2.1 446 = .ok (.iaload, 1) := by decide +kernel
theorem d_Law_law_447 : decode M_Law_law.2.1 447 = .ok (.aload_n 0, 1) := by decide +kernel
theorem d_Law_law_448 : decode M_Law_law.2.1 448 = .ok (.iload 4, 2) := by decide +kernel
theorem d_Law_law_450 : decode M_Law_law.2.1 450 = .ok (.iconst 2, 1) := by decide +kernel
theorem d_Law_law_451 : decode M_Law_law.2.1 451 = .ok (.iadd, 1) := by decide +kernel
theorem d_Law_law_452 : decode M_Law_law.2.1 452 = .ok (.iaload, 1) := by decide +kernel
theorem d_Law_law_453 : decode M_Law_law.2.1 453 = .ok (.invokevirtual 88, 3) := by decide +kernel
theorem xw_1550 : (Jvm.Cond.code ({ cls := "MarkerTextModel", name := "inClass", desc := "(II)Z" } : Jvm.MethodName) prog_13_method_56_code (3 : Nat) (Option.some Jvm.ClassFile.FieldType.boolean)) ∈ xT := xT_at 1550 (by decide +kernel) (by decide +kernel)
theorem xcb_Mo_inClass : xcb M_Mo_inClass 2 := ⟨xw_1550, xw_8, by decide, by decide, by decide, by decide +kernel⟩
theorem xw_1548 : (Jvm.Cond.instanceMethod ({ cls := "MarkerTextModel", name := "inClass", desc := "(II)Z" } : Jvm.MethodName)) ∈ xT := xT_at 1548 (by decide +kernel) (by decide +kernel)
theorem xw_1547 : (Jvm.Cond.methodLink "MarkerTextLaw" (88 : Nat) ({ cls := "MarkerTextModel", name := "inClass", desc := "(II)Z" } : Jvm.MethodName)) ∈ xT := xT_at 1547 (by decide +kernel) (by decide +kernel)
theorem xw_1549 : (Jvm.Cond.selects "MarkerTextModel" ({ cls := "MarkerTextModel", name := "inClass", desc := "(II)Z" } : Jvm.MethodName) ({ cls := "MarkerTextModel", name := "inClass", desc := "(II)Z" } : Jvm.MethodName)) ∈ xT := xT_at 1549 (by decide +kernel) (by decide +kernel)
theorem xcv_Law_88_Mo : xCV "MarkerTextLaw" 88 "MarkerTextModel" M_Mo_inClass 2 := ⟨xcb_Mo_inClass, xw_1548, Or.inl ⟨xw_1547, Or.inl xw_1549⟩⟩
theorem d_Law_law_456 : decode M_Law_law.2.1 456 = .ok (.pop, 1) := by decide +kernel
theorem d_Law_law_457 : decode M_Law_law.2.1 457 = .ok (.goto 77, 3) := by decide +kernel
theorem d_Law_law_460 : decode M_Law_law.2.1 460 = .ok (.aload_n 1, 1) := by decide +kernel
theorem d_Law_law_461 : decode M_Law_law.2.1 461 = .ok (.aload_n 0, 1) := by decide +kernel
theorem d_Law_law_462 : decode M_Law_law.2.1 462 = .ok (.iload 4, 2) := by decide +kernel
theorem d_Law_law_464 : decode M_Law_law.2.1 464 = .ok (.iconst 1, 1) := by decide +kernel
theorem d_Law_law_465 : decode M_Law_law.2.1 465 = .ok (.iadd, 1) := by decide +kernel
theorem d_Law_law_466 : decode M_Law_law.2.1 466 = .ok (.iaload, 1) := by decide +kernel
theorem d_Law_law_467 : decode M_Law_law.2.1 467 = .ok (.aload_n 0, 1) := by decide +kernel
theorem d_Law_law_468 : decode M_Law_law.2.1 468 = .ok (.iload 4, 2) := by decide +kernel
theorem d_Law_law_470 : decode M_Law_law.2.1 470 = .ok (.iconst 2, 1) := by decide +kernel
theorem d_Law_law_471 : decode M_Law_law.2.1 471 = .ok (.iadd, 1) := by decide +kernel
theorem d_Law_law_472 : decode M_Law_law.2.1 472 = .ok (.iaload, 1) := by decide +kernel
theorem d_Law_law_473 : decode M_Law_law.2.1 473 = .ok (.invokevirtual 89, 3) := by decide +kernel
theorem xw_408 : (Jvm.Cond.code ({ cls := "MarkerText", name := "sample", desc := "(II)I" } : Jvm.MethodName) prog_1_method_15_code (3 : Nat) (Option.some Jvm.ClassFile.FieldType.int)) ∈ xT := xT_at 408 (by decide +kernel) (by decide +kernel)
theorem xcb_MT_sample : xcb M_MT_sample 2 := ⟨xw_408, xw_1, by decide, by decide, by decide, by decide +kernel⟩
theorem xw_406 : (Jvm.Cond.instanceMethod ({ cls := "MarkerText", name := "sample", desc := "(II)I" } : Jvm.MethodName)) ∈ xT := xT_at 406 (by decide +kernel) (by decide +kernel)
theorem xw_405 : (Jvm.Cond.methodLink "MarkerTextLaw" (89 : Nat) ({ cls := "MarkerText", name := "sample", desc := "(II)I" } : Jvm.MethodName)) ∈ xT := xT_at 405 (by decide +kernel) (by decide +kernel)
theorem xw_407 : (Jvm.Cond.selects "MarkerText" ({ cls := "MarkerText", name := "sample", desc := "(II)I" } : Jvm.MethodName) ({ cls := "MarkerText", name := "sample", desc := "(II)I" } : Jvm.MethodName)) ∈ xT := xT_at 407 (by decide +kernel) (by decide +kernel)
theorem xcv_Law_89_MT : xCV "MarkerTextLaw" 89 "MarkerText" M_MT_sample 2 := ⟨xcb_MT_sample, xw_406, Or.inl ⟨xw_405, Or.inl xw_407⟩⟩
theorem d_Law_law_476 : decode M_Law_law.2.1 476 = .ok (.pop, 1) := by decide +kernel
theorem d_Law_law_477 : decode M_Law_law.2.1 477 = .ok (.aload_n 2, 1) := by decide +kernel
theorem d_Law_law_478 : decode M_Law_law.2.1 478 = .ok (.aload_n 0, 1) := by decide +kernel
theorem d_Law_law_479 : decode M_Law_law.2.1 479 = .ok (.iload 4, 2) := by decide +kernel
theorem d_Law_law_481 : decode M_Law_law.2.1 481 = .ok (.iconst 1, 1) := by decide +kernel
theorem d_Law_law_482 : decode M_Law_law.2.1 482 = .ok (.iadd, 1) := by decide +kernel
theorem d_Law_law_483 : decode M_Law_law.2.1 483 = .ok (.iaload, 1) := by decide +kernel
theorem d_Law_law_484 : decode M_Law_law.2.1 484 = .ok (.aload_n 0, 1) := by decide +kernel
theorem d_Law_law_485 : decode M_Law_law.2.1 485 = .ok (.iload 4, 2) := by decide +kernel
theorem d_Law_law_487 : decode M_Law_law.2.1 487 = .ok (.iconst 2, 1) := by decide +kernel
theorem d_Law_law_488 : decode M_Law_law.2.1 488 = .ok (.iadd, 1) := by decide +kernel
theorem d_Law_law_489 : decode M_Law_law.2.1 489 = .ok (.iaload, 1) := by decide +kernel
theorem d_Law_law_490 : decode M_Law_law.2.1 490 = .ok (.invokevirtual 92, 3) := by decide +kernel
theorem xw_1554 : (Jvm.Cond.code ({ cls := "MarkerTextModel", name := "sample", desc := "(II)I" } : Jvm.MethodName) prog_13_method_57_code (3 : Nat) (Option.some Jvm.ClassFile.FieldType.int)) ∈ xT := xT_at 1554 (by decide +kernel) (by decide +kernel)
theorem xcb_Mo_sample : xcb M_Mo_sample 2 := ⟨xw_1554, xw_8, by decide, by decide, by decide, by decide +kernel⟩
theorem xw_1552 : (Jvm.Cond.instanceMethod ({ cls := "MarkerTextModel", name := "sample", desc := "(II)I" } : Jvm.MethodName)) ∈ xT := xT_at 1552 (by decide +kernel) (by decide +kernel)
theorem xw_1551 : (Jvm.Cond.methodLink "MarkerTextLaw" (92 : Nat) ({ cls := "MarkerTextModel", name := "sample", desc := "(II)I" } : Jvm.MethodName)) ∈ xT := xT_at 1551 (by decide +kernel) (by decide +kernel)
theorem xw_1553 : (Jvm.Cond.selects "MarkerTextModel" ({ cls := "MarkerTextModel", name := "sample", desc := "(II)I" } : Jvm.MethodName) ({ cls := "MarkerTextModel", name := "sample", desc := "(II)I" } : Jvm.MethodName)) ∈ xT := xT_at 1553 (by decide +kernel) (by decide +kernel)
theorem xcv_Law_92_Mo : xCV "MarkerTextLaw" 92 "MarkerTextModel" M_Mo_sample 2 := ⟨xcb_Mo_sample, xw_1552, Or.inl ⟨xw_1551, Or.inl xw_1553⟩⟩
theorem d_Law_law_493 : decode M_Law_law.2.1 493 = .ok (.pop, 1) := by decide +kernel
theorem d_Law_law_494 : decode M_Law_law.2.1 494 = .ok (.goto 40, 3) := by decide +kernel
theorem d_Law_law_497 : decode M_Law_law.2.1 497 = .ok (.aload_n 1, 1) := by decide +kernel
theorem d_Law_law_498 : decode M_Law_law.2.1 498 = .ok (.aload_n 0, 1) := by decide +kernel
theorem d_Law_law_499 : decode M_Law_law.2.1 499 = .ok (.iload 4, 2) := by decide +kernel
theorem d_Law_law_501 : decode M_Law_law.2.1 501 = .ok (.iconst 1, 1) := by decide +kernel
theorem d_Law_law_502 : decode M_Law_law.2.1 502 = .ok (.iadd, 1) := by decide +kernel
theorem d_Law_law_503 : decode M_Law_law.2.1 503 = .ok (.iaload, 1) := by decide +kernel
theorem d_Law_law_504 : decode M_Law_law.2.1 504 = .ok (.aload_n 0, 1) := by decide +kernel
theorem d_Law_law_505 : decode M_Law_law.2.1 505 = .ok (.iload 4, 2) := by decide +kernel
theorem d_Law_law_507 : decode M_Law_law.2.1 507 = .ok (.iconst 2, 1) := by decide +kernel
theorem d_Law_law_508 : decode M_Law_law.2.1 508 = .ok (.iadd, 1) := by decide +kernel
theorem d_Law_law_509 : decode M_Law_law.2.1 509 = .ok (.iaload, 1) := by decide +kernel
theorem d_Law_law_510 : decode M_Law_law.2.1 510 = .ok (.invokevirtual 93, 3) := by decide +kernel
theorem xw_420 : (Jvm.Cond.code ({ cls := "MarkerText", name := "printed", desc := "(II)I" } : Jvm.MethodName) prog_1_method_16_code (4 : Nat) (Option.some Jvm.ClassFile.FieldType.int)) ∈ xT := xT_at 420 (by decide +kernel) (by decide +kernel)
theorem xcb_MT_printed : xcb M_MT_printed 2 := ⟨xw_420, xw_1, by decide, by decide, by decide, by decide +kernel⟩
theorem xw_418 : (Jvm.Cond.instanceMethod ({ cls := "MarkerText", name := "printed", desc := "(II)I" } : Jvm.MethodName)) ∈ xT := xT_at 418 (by decide +kernel) (by decide +kernel)
theorem xw_417 : (Jvm.Cond.methodLink "MarkerTextLaw" (93 : Nat) ({ cls := "MarkerText", name := "printed", desc := "(II)I" } : Jvm.MethodName)) ∈ xT := xT_at 417 (by decide +kernel) (by decide +kernel)
theorem xw_419 : (Jvm.Cond.selects "MarkerText" ({ cls := "MarkerText", name := "printed", desc := "(II)I" } : Jvm.MethodName) ({ cls := "MarkerText", name := "printed", desc := "(II)I" } : Jvm.MethodName)) ∈ xT := xT_at 419 (by decide +kernel) (by decide +kernel)
theorem xcv_Law_93_MT : xCV "MarkerTextLaw" 93 "MarkerText" M_MT_printed 2 := ⟨xcb_MT_printed, xw_418, Or.inl ⟨xw_417, Or.inl xw_419⟩⟩
theorem d_Law_law_513 : decode M_Law_law.2.1 513 = .ok (.pop, 1) := by decide +kernel
theorem d_Law_law_514 : decode M_Law_law.2.1 514 = .ok (.aload_n 2, 1) := by decide +kernel
theorem d_Law_law_515 : decode M_Law_law.2.1 515 = .ok (.aload_n 0, 1) := by decide +kernel
theorem d_Law_law_516 : decode M_Law_law.2.1 516 = .ok (.iload 4, 2) := by decide +kernel
theorem d_Law_law_518 : decode M_Law_law.2.1 518 = .ok (.iconst 1, 1) := by decide +kernel
theorem d_Law_law_519 : decode M_Law_law.2.1 519 = .ok (.iadd, 1) := by decide +kernel
theorem d_Law_law_520 : decode M_Law_law.2.1 520 = .ok (.iaload, 1) := by decide +kernel
theorem d_Law_law_521 : decode M_Law_law.2.1 521 = .ok (.aload_n 0, 1) := by decide +kernel
theorem d_Law_law_522 : decode M_Law_law.2.1 522 = .ok (.iload 4, 2) := by decide +kernel
theorem d_Law_law_524 : decode M_Law_law.2.1 524 = .ok (.iconst 2, 1) := by decide +kernel
theorem d_Law_law_525 : decode M_Law_law.2.1 525 = .ok (.iadd, 1) := by decide +kernel
theorem d_Law_law_526 : decode M_Law_law.2.1 526 = .ok (.iaload, 1) := by decide +kernel
theorem d_Law_law_527 : decode M_Law_law.2.1 527 = .ok (.invokevirtual 96, 3) := by decide +kernel
theorem xw_1558 : (Jvm.Cond.code ({ cls := "MarkerTextModel", name := "printed", desc := "(II)I" } : Jvm.MethodName) prog_13_method_65_code (3 : Nat) (Option.some Jvm.ClassFile.FieldType.int)) ∈ xT := xT_at 1558 (by decide +kernel) (by decide +kernel)
theorem xcb_Mo_printed : xcb M_Mo_printed 2 := ⟨xw_1558, xw_8, by decide, by decide, by decide, by decide +kernel⟩
theorem xw_1556 : (Jvm.Cond.instanceMethod ({ cls := "MarkerTextModel", name := "printed", desc := "(II)I" } : Jvm.MethodName)) ∈ xT := xT_at 1556 (by decide +kernel) (by decide +kernel)
theorem xw_1555 : (Jvm.Cond.methodLink "MarkerTextLaw" (96 : Nat) ({ cls := "MarkerTextModel", name := "printed", desc := "(II)I" } : Jvm.MethodName)) ∈ xT := xT_at 1555 (by decide +kernel) (by decide +kernel)
theorem xw_1557 : (Jvm.Cond.selects "MarkerTextModel" ({ cls := "MarkerTextModel", name := "printed", desc := "(II)I" } : Jvm.MethodName) ({ cls := "MarkerTextModel", name := "printed", desc := "(II)I" } : Jvm.MethodName)) ∈ xT := xT_at 1557 (by decide +kernel) (by decide +kernel)
theorem xcv_Law_96_Mo : xCV "MarkerTextLaw" 96 "MarkerTextModel" M_Mo_printed 2 := ⟨xcb_Mo_printed, xw_1556, Or.inl ⟨xw_1555, Or.inl xw_1557⟩⟩
theorem d_Law_law_530 : decode M_Law_law.2.1 530 = .ok (.pop, 1) := by decide +kernel
theorem d_Law_law_531 : decode M_Law_law.2.1 531 = .ok (.goto 3, 3) := by decide +kernel
theorem d_Law_law_23 : decode M_Law_law.2.1 23 = .ok (.iload 4, 2) := by decide +kernel
theorem d_Law_law_25 : decode M_Law_law.2.1 25 = .ok (.aload_n 0, 1) := by decide +kernel
theorem d_Law_law_26 : decode M_Law_law.2.1 26 = .ok (.arraylength, 1) := by decide +kernel
theorem d_Law_law_27 : decode M_Law_law.2.1 27 = .ok (.iconst 3, 1) := by decide +kernel
theorem d_Law_law_28 : decode M_Law_law.2.1 28 = .ok (.isub, 1) := by decide +kernel
theorem d_Law_law_29 : decode M_Law_law.2.1 29 = .ok (.if_icmp .gt 511, 3) := by decide +kernel
theorem d_Law_law_540 : decode M_Law_law.2.1 540 = .ok (.iconst 1, 1) := by decide +kernel
theorem d_Law_law_541 : decode M_Law_law.2.1 541 = .ok (.ireturn, 1) := by decide +kernel
theorem d_Law_law_534 : decode M_Law_law.2.1 534 = .ok (.iinc 4 3, 3) := by decide +kernel
theorem d_Law_law_537 : decode M_Law_law.2.1 537 = .ok (.goto (-514), 3) := by decide +kernel
theorem d_Law_law_32 : decode M_Law_law.2.1 32 = .ok (.aload_n 0, 1) := by decide +kernel
theorem d_Law_law_33 : decode M_Law_law.2.1 33 = .ok (.iload 4, 2) := by decide +kernel
theorem d_Law_law_35 : decode M_Law_law.2.1 35 = .ok (.iaload, 1) := by decide +kernel
theorem d_Law_law_36 : decode M_Law_law.2.1 36 = .ok (.bipush 15, 2) := by decide +kernel
theorem d_Law_law_38 : decode M_Law_law.2.1 38 = .ok (.iand, 1) := by decide +kernel
theorem d_Law_law_39 : decode M_Law_law.2.1 39 = .ok (.tableswitch 495 0 14 #[73, 100, 128, 156, 172, 185, 210, 235, 260, 297, 334, 359, 384, 421, 458], 73) := by decide +kernel
theorem d_Law_law_0 : decode M_Law_law.2.1 0 = .ok (.new 8, 3) := by decide +kernel
theorem xw_34 : (Jvm.Cond.classLink "MarkerTextLaw" (8 : Nat) "MarkerText") ∈ xT := xT_at 34 (by decide +kernel) (by decide +kernel)
theorem xw_35 : (Jvm.Cond.instantiable "MarkerText" (9 : Nat)) ∈ xT := xT_at 35 (by decide +kernel) (by decide +kernel)
theorem xnw_Law_8 : xNw "MarkerTextLaw" 8 k_MarkerText 9 [.null, .null, .int 0, .null, .int 0, .int 0, .null, .null, .null] := ⟨_, _, _, rfl, rfl, by decide +kernel, xw_34, xw_35, xw_1⟩
theorem d_Law_law_3 : decode M_Law_law.2.1 3 = .ok (.dup, 1) := by decide +kernel
theorem d_Law_law_4 : decode M_Law_law.2.1 4 = .ok (.invokespecial 28, 3) := by decide +kernel
theorem xw_38 : (Jvm.Cond.code ({ cls := "MarkerText", name := "<init>", desc := "()V" } : Jvm.MethodName) prog_1_method_1_code (1 : Nat) (Option.none : Option Jvm.ClassFile.FieldType)) ∈ xT := xT_at 38 (by decide +kernel) (by decide +kernel)
theorem xcb_MT_init : xcb M_MT_init 0 := ⟨xw_38, xw_1, by decide, by decide, by decide, by decide +kernel⟩
theorem xw_36 : (Jvm.Cond.methodLink "MarkerTextLaw" (28 : Nat) ({ cls := "MarkerText", name := "<init>", desc := "()V" } : Jvm.MethodName)) ∈ xT := xT_at 36 (by decide +kernel) (by decide +kernel)
theorem xw_37 : (Jvm.Cond.instanceMethod ({ cls := "MarkerText", name := "<init>", desc := "()V" } : Jvm.MethodName)) ∈ xT := xT_at 37 (by decide +kernel) (by decide +kernel)
theorem xci_Law_28 : xCI "MarkerTextLaw" 28 M_MT_init 0 := ⟨xcb_MT_init, rfl, rfl, xw_37, Or.inl xw_36⟩
theorem d_Law_law_7 : decode M_Law_law.2.1 7 = .ok (.astore_n 1, 1) := by decide +kernel
theorem d_Law_law_8 : decode M_Law_law.2.1 8 = .ok (.new 29, 3) := by decide +kernel
theorem xw_1164 : (Jvm.Cond.classLink "MarkerTextLaw" (29 : Nat) "MarkerTextModel") ∈ xT := xT_at 1164 (by decide +kernel) (by decide +kernel)
theorem xw_1165 : (Jvm.Cond.instantiable "MarkerTextModel" (52 : Nat)) ∈ xT := xT_at 1165 (by decide +kernel) (by decide +kernel)
theorem xnw_Law_29 : xNw "MarkerTextLaw" 29 k_MarkerTextModel 52 [.int 0, .null, .int 0, .int 0, .null, .null, .null, .null, .null, .null, .null, .int 0, .null, .null, .null, .null, .null, .null, .null, .null, .null, .null, .null, .null, .null, .null, .null, .int 0, .int 0, .int 0, .int 0, .null, .int 0, .int 0, .null, .int 0, .long 0, .null, .null, .null, .null, .null, .int 0, .int 0, .int 0, .null, .null, .null, .null, .int 0, .null, .int 0] := ⟨_, _, _, rfl, rfl, by decide +kernel, xw_1164, xw_1165, xw_8⟩
theorem d_Law_law_11 : decode M_Law_law.2.1 11 = .ok (.dup, 1) := by decide +kernel
theorem d_Law_law_12 : decode M_Law_law.2.1 12 = .ok (.invokespecial 31, 3) := by decide +kernel
theorem xw_1168 : (Jvm.Cond.code ({ cls := "MarkerTextModel", name := "<init>", desc := "()V" } : Jvm.MethodName) prog_13_method_1_code (1 : Nat) (Option.none : Option Jvm.ClassFile.FieldType)) ∈ xT := xT_at 1168 (by decide +kernel) (by decide +kernel)
theorem xcb_Mo_init : xcb M_Mo_init 0 := ⟨xw_1168, xw_8, by decide, by decide, by decide, by decide +kernel⟩
theorem xw_1166 : (Jvm.Cond.methodLink "MarkerTextLaw" (31 : Nat) ({ cls := "MarkerTextModel", name := "<init>", desc := "()V" } : Jvm.MethodName)) ∈ xT := xT_at 1166 (by decide +kernel) (by decide +kernel)
theorem xw_1167 : (Jvm.Cond.instanceMethod ({ cls := "MarkerTextModel", name := "<init>", desc := "()V" } : Jvm.MethodName)) ∈ xT := xT_at 1167 (by decide +kernel) (by decide +kernel)
theorem xci_Law_31 : xCI "MarkerTextLaw" 31 M_Mo_init 0 := ⟨xcb_Mo_init, rfl, rfl, xw_1167, Or.inl xw_1166⟩
theorem d_Law_law_15 : decode M_Law_law.2.1 15 = .ok (.astore_n 2, 1) := by decide +kernel
theorem d_Law_law_16 : decode M_Law_law.2.1 16 = .ok (.iconst 1, 1) := by decide +kernel
theorem d_Law_law_17 : decode M_Law_law.2.1 17 = .ok (.newarray .long, 2) := by decide +kernel
theorem d_Law_law_19 : decode M_Law_law.2.1 19 = .ok (.astore_n 3, 1) := by decide +kernel
theorem d_Law_law_20 : decode M_Law_law.2.1 20 = .ok (.iconst 0, 1) := by decide +kernel
theorem d_Law_law_21 : decode M_Law_law.2.1 21 = .ok (.istore 4, 2) := by decide +kernel
end
section LW4
variable {l : Launch} {G : XG} {h : XH} {c n d : Nat}
/-- the law's own end -/
def xlawQ (G : XG) : XPo := fun below args s _ t => (s.heap.size = G.2.1 ∧ ∃ b, args = #[Value.ref b]) → lw_Z below args s t
theorem x_lawret {pc : Nat} {L : List (Option Value)} (hd : decode M_Law_law.2.1 pc = .ok (.ireturn, 1)) : XX l G M_Law_law d pc L [.int 1] h c n (xlawQ G) := by
  intro p e R s m args below meth cd H locs cells slots ls hF hR hl hL hV hS hN
  by_cases hy : s.heap.size = G.2.1 ∧ ∃ b, args = #[Value.ref b]
  · obtain ⟨h1, b, rfl⟩ := id hy
    obtain ⟨r1, r2, r3, r4, r5⟩ := hR
    obtain ⟨s1, s2, s3, s4, s5, s6⟩ := hS
    refine x_tight (k := xCB) (j := xSB) r5 (by omega) (by omega) ?_
    intro T hT X
    have X0 : Stand p l e R s m #[Value.ref b] below meth cd T [] xCB xSB := Stand.forget (locs := []) (extra := locs) X (fun y hy => by rw [h1]; exact hN.2.2 y hy)
    obtain ⟨fs, hret, hrun, hended, hW, hframe⟩ := X0.leave (v := some (.int 1)) (hlocks := hF.2.2.2.2.2.1) (fun hz => by rw [hF.2.2.2.1] at hz; cases hz)
    have hmeth' : T.vm.method? m = some meth := X0.method'
    have hb : cd.code = M_Law_law.2.1 := hF.2.1
    have hr : meth.sig.returnType = M_Law_law.2.2.2 := hF.2.2.2.1
    refine ⟨T.setFrames fs, ?_, fun _ => ⟨.returned (some (.int 1)), hrun, hended, rfl, ⟨_, rfl⟩, hW, hframe⟩⟩
    jvm_step X0.here [X0.here.top, hF.1, hb, hd, hmeth', hr, narrow_b1]
    (try refine ⟨rfl, ?_⟩); (try refine ⟨rfl, ?_⟩)
    first | (intro acts; rw [hret _ acts rfl rfl rfl]) | rw [hret _ _ rfl rfl rfl]
    exact Steps.refl _
  · intro T hT X
    exact ⟨_, Steps.refl _, fun z => absurd z hy⟩
theorem and15 (x : Int32) : ∃ j, j < 16 ∧ x &&& 15 = nI j := by
  refine ⟨(x &&& 15).toBitVec.toNat, ?_, ?_⟩
  · rw [Int32.toBitVec_and, BitVec.toNat_and]
    exact Nat.lt_of_le_of_lt Nat.and_le_right (by decide)
  · apply Int32.toBitVec_inj.mp
    show _ = BitVec.ofNat 32 _
    simp
theorem i2cN (x : Int32) : ∃ j, j < 65536 ∧ (x.toUInt32 % 65536).toInt32 = nI j := by
  refine ⟨(x.toUInt32 % 65536).toNat, ?_, ?_⟩
  · rw [UInt32.toNat_mod]
    exact Nat.mod_lt _ (by decide)
  · apply Int32.toBitVec_inj.mp
    generalize x.toUInt32 % 65536 = u
    show u.toBitVec = BitVec.ofNat 32 u.toBitVec.toNat
    simp
theorem xonly.out {h' : XH} {Ks : List Nat} {o : Nat} {vs : List Value} (a : xonly h h' Ks) (hK : k_along ∉ Ks) (ho : h o = some (k_along, vs)) : h' o = some (k_along, vs) := by
  obtain ⟨F, f, q⟩ := a
  exact f.1 _ _ ho ((q [k_along] (fun k hk z => hK (by rw [List.mem_singleton] at z; rw [← z]; exact hk))).at ho (by simp))
theorem lw_out {L k : Nat} (hL : L < 2 ^ 20) (hk : k < 2 ^ 20) : nI L - 3 < nI (3 * k) ↔ L < 3 * k + 3 := by
  rw [← zI_nI (k := L) (by omega), ← zI_nI (k := 3 * k) (by omega), show (3 : Int32) = zI 3 from by decide, zI_sub, zI_lt ⟨by omega, by omega⟩ ⟨by omega, by omega⟩]
  omega
theorem lw_i1 {k : Nat} : nI (3 * k) + 1 = nI (3 * k + 1) := by rw [← nI_add]; rfl
theorem lw_i2 {k : Nat} : nI (3 * k) + 2 = nI (3 * k + 2) := by rw [← nI_add]; rfl
abbrev lwX (L : Nat) (xs : Nat → Int32) : List Value := (List.range L).map (fun i => Value.int (xs i))
theorem lwX_at {L i : Nat} {xs : Nat → Int32} (hL : L < 2 ^ 20) (hi : i < L) : (lwX L xs)[(nI i).toNatClampNeg]? = some (.int (xs i)) := by
  rw [nI_clamp (by omega)]
  simp [lwX, hi]
/-- what may follow a call: the class and the reference behind k + 1 calls -/
def lwN (l : Launch) (G : XG) (b x m o : Nat) (rf : Nat → Nat) (k pc : Nat) : Prop := ∀ (h : XH) (c n : Nat) (t : List Nat) (Ns : List NmT) (Cs : List CnT) (il : Option Nat) (lv : Nat → Nat) (Pt : PtT) (S : MS) (z : Int64) (e5 e6 : Option Value), CI G h x (k + 1) c n t Ns Cs il lv Pt → isR h m rf S → RL t Ns Cs il lv Pt S → h o = some (k_along, [.long z]) → XX l G M_Law_law (1215 + 1) pc [some (.ref b), some (.ref x), some (.ref m), some (.ref o), some (.int (nI (3 * k))), e5, e6] [] h c n (xlawQ G)
set_option maxHeartbeats 1000000 in
theorem lw_c0 (hG : xGk G) (htr : l.stackTraces = false) {b x m o k L : Nat} {rf : Nat → Nat} {xs : Nat → Int32} {t : List Nat} {Ns : List NmT} {Cs : List CnT} {il : Option Nat} {lv : Nat → Nat} {Pt : PtT} {S : MS} {z : Int64} {e5 e6 : Option Value} (hb : G.2.2.1 b = some (k_aint, lwX L xs)) (hL : L ≤ 1536) (h3 : 3 * k + 3 ≤ L) (hI : CI G h x k c n t Ns Cs il lv Pt) (hR : isR h m rf S) (hg : RL t Ns Cs il lv Pt S) (ho : h o = some (k_along, [.long z])) (hN : lwN l G b x m o rf k 534) : XX l G M_Law_law (1215 + 1) 112 [some (.ref b), some (.ref x), some (.ref m), some (.ref o), some (.int (nI (3 * k))), e5, e6] [] h c n (xlawQ G) := by
  have hk : k < 512 := by omega
  have n1 : ¬ nI (3 * k) + 1 < 0 := by rw [lw_i1]; exact nI_pos (by omega)
  have n2 : ¬ nI (3 * k) + 2 < 0 := by rw [lw_i2]; exact nI_pos (by omega)
  have v1 : (lwX L xs)[(nI (3 * k) + 1).toNatClampNeg]? = some (.int (xs (3 * k + 1))) := by rw [lw_i1]; exact lwX_at (by omega) (by omega)
  have v2 : (lwX L xs)[(nI (3 * k) + 2).toNatClampNeg]? = some (.int (xs (3 * k + 2))) := by rw [lw_i2]; exact lwX_at (by omega) (by omega)
  obtain ⟨w0, e0⟩ := hI.at
  obtain ⟨ch, hch, hce⟩ := i2cN (xs (3 * k + 1))
  refine x_aload_n d_Law_law_112 rfl rfl ?_
  refine x_aload_n d_Law_law_113 rfl rfl ?_
  refine x_iload d_Law_law_114 rfl ?_
  refine x_iconst (v := 1) d_Law_law_116 (by decide) ?_
  refine x_iadd d_Law_law_117 ?_
  refine x_iald (k := k_aint) rfl (Or.inr hb) n1 v1 d_Law_law_118 ?_
  refine x_i2c d_Law_law_119 ?_
  refine x_top (w := .int (nI ch)) (by rw [hce]) ?_
  refine x_callV (As := [_]) (k := k_MarkerText) rfl xcv_Law_32_MT (Or.inl e0) (K_type (by omega) hI hk hch) rfl rfl (Nat.le_of_ble_eq_true rfl) d_Law_law_120 ?_
  rintro v h4 c4 n4 ⟨rfl, hap, hI4⟩
  have hR4 := hap.isR hR
  refine x_pop d_Law_law_123 rfl ?_
  refine x_aload_n d_Law_law_124 rfl rfl ?_
  refine x_aload_n d_Law_law_125 rfl rfl ?_
  refine x_iload d_Law_law_126 rfl ?_
  refine x_iconst (v := 1) d_Law_law_128 (by decide) ?_
  refine x_iadd d_Law_law_129 ?_
  refine x_iald (k := k_aint) rfl (Or.inr hb) n1 v1 d_Law_law_130 ?_
  refine x_i2c d_Law_law_131 ?_
  refine x_top (w := .int (nI ch)) (by rw [hce]) ?_
  refine x_callV (As := [_]) (k := k_MarkerTextModel) rfl xcv_Law_36_Mo (Or.inl hR4.1) (RM.ap hR4 (E_type hch hg)) rfl rfl (Nat.le_of_ble_eq_true rfl) d_Law_law_132 ?_
  rintro v h5 c5 n5 ⟨S', hR5, hx5, rfl, rfl, rfl, hg5⟩
  refine x_pop d_Law_law_135 rfl ?_
  refine x_goto (tgt := 534) d_Law_law_136 (by decide) ?_
  exact hN _ _ _ _ _ _ _ _ _ _ _ _ _ (hI4.fr hx5 (by decide)) hR5 hg5 (hx5.out (by decide) (hap.out ho))
set_option maxHeartbeats 1000000 in
theorem lw_c1 (hG : xGk G) (htr : l.stackTraces = false) {b x m o k L : Nat} {rf : Nat → Nat} {xs : Nat → Int32} {t : List Nat} {Ns : List NmT} {Cs : List CnT} {il : Option Nat} {lv : Nat → Nat} {Pt : PtT} {S : MS} {z : Int64} {e5 e6 : Option Value} (hb : G.2.2.1 b = some (k_aint, lwX L xs)) (hL : L ≤ 1536) (h3 : 3 * k + 3 ≤ L) (hI : CI G h x k c n t Ns Cs il lv Pt) (hR : isR h m rf S) (hg : RL t Ns Cs il lv Pt S) (ho : h o = some (k_along, [.long z])) (hN : lwN l G b x m o rf k 534) : XX l G M_Law_law (1215 + 1) 139 [some (.ref b), some (.ref x), some (.ref m), some (.ref o), some (.int (nI (3 * k))), e5, e6] [] h c n (xlawQ G) := by
  have hk : k < 512 := by omega
  have n1 : ¬ nI (3 * k) + 1 < 0 := by rw [lw_i1]; exact nI_pos (by omega)
  have n2 : ¬ nI (3 * k) + 2 < 0 := by rw [lw_i2]; exact nI_pos (by omega)
  have v1 : (lwX L xs)[(nI (3 * k) + 1).toNatClampNeg]? = some (.int (xs (3 * k + 1))) := by rw [lw_i1]; exact lwX_at (by omega) (by omega)
  have v2 : (lwX L xs)[(nI (3 * k) + 2).toNatClampNeg]? = some (.int (xs (3 * k + 2))) := by rw [lw_i2]; exact lwX_at (by omega) (by omega)
  obtain ⟨w0, e0⟩ := hI.at
  refine x_aload_n d_Law_law_139 rfl rfl ?_
  refine x_aload_n d_Law_law_140 rfl rfl ?_
  refine x_iload d_Law_law_141 rfl ?_
  refine x_iconst (v := 1) d_Law_law_143 (by decide) ?_
  refine x_iadd d_Law_law_144 ?_
  refine x_iald (k := k_aint) rfl (Or.inr hb) n1 v1 d_Law_law_145 ?_
  refine x_aload_n d_Law_law_146 rfl rfl ?_
  refine x_callSW (As := [_, _, _]) xcbw_Law_name xw_449 xw_448 (K_Lname hG htr (by omega) hI hk ho) rfl rfl (Nat.le_of_ble_eq_true rfl) d_Law_law_147 ?_
  rintro v h4 c4 n4 ⟨rfl, ho4, ⟨F4, f4, q4⟩, hI4⟩
  have hR4 := hR.fr f4 q4
  generalize hLe : lnm Ns z (nmu Ns t (xs (3 * k + 1))) = LL at *
  have hEc := E_name (l := l) (G := G) (d := 1215) (o := m) (rf := rf) (w := xs (3 * k + 1)) (z := z) (by omega) hg
  rw [hLe] at hEc
  refine x_istore (L' := [_, _, _, _, _, _, _]) d_Law_law_150 rfl rfl ?_
  refine x_aload_n d_Law_law_152 rfl rfl ?_
  refine x_aload_n d_Law_law_153 rfl rfl ?_
  refine x_iload d_Law_law_154 rfl ?_
  refine x_iconst (v := 1) d_Law_law_156 (by decide) ?_
  refine x_iadd d_Law_law_157 ?_
  refine x_iald (k := k_aint) rfl (Or.inr hb) n1 v1 d_Law_law_158 ?_
  refine x_callV (As := [_]) (k := k_MarkerTextModel) rfl xcv_Law_42_Mo (Or.inl hR4.1) (RM.ap hR4 (hEc)) rfl rfl (Nat.le_of_ble_eq_true rfl) d_Law_law_159 ?_
  rintro v h5 c5 n5 ⟨S', hR5, hx5, rfl, rfl, r5, rfl, -, -, hg5⟩
  refine x_istore (L' := [_, _, _, _, _, _, _]) d_Law_law_162 rfl rfl ?_
  refine x_goto (tgt := 534) d_Law_law_164 (by decide) ?_
  exact hN _ _ _ _ _ _ _ _ _ _ _ _ _ (hI4.fr hx5 (by decide)) hR5 hg5 (hx5.out (by decide) ho4)
set_option maxHeartbeats 1000000 in
theorem lw_c2 (hG : xGk G) (htr : l.stackTraces = false) {b x m o k L : Nat} {rf : Nat → Nat} {xs : Nat → Int32} {t : List Nat} {Ns : List NmT} {Cs : List CnT} {il : Option Nat} {lv : Nat → Nat} {Pt : PtT} {S : MS} {z : Int64} {e5 e6 : Option Value} (hb : G.2.2.1 b = some (k_aint, lwX L xs)) (hL : L ≤ 1536) (h3 : 3 * k + 3 ≤ L) (hI : CI G h x k c n t Ns Cs il lv Pt) (hR : isR h m rf S) (hg : RL t Ns Cs il lv Pt S) (ho : h o = some (k_along, [.long z])) (hN : lwN l G b x m o rf k 534) : XX l G M_Law_law (1215 + 1) 167 [some (.ref b), some (.ref x), some (.ref m), some (.ref o), some (.int (nI (3 * k))), e5, e6] [] h c n (xlawQ G) := by
  have hk : k < 512 := by omega
  have n1 : ¬ nI (3 * k) + 1 < 0 := by rw [lw_i1]; exact nI_pos (by omega)
  have n2 : ¬ nI (3 * k) + 2 < 0 := by rw [lw_i2]; exact nI_pos (by omega)
  have v1 : (lwX L xs)[(nI (3 * k) + 1).toNatClampNeg]? = some (.int (xs (3 * k + 1))) := by rw [lw_i1]; exact lwX_at (by omega) (by omega)
  have v2 : (lwX L xs)[(nI (3 * k) + 2).toNatClampNeg]? = some (.int (xs (3 * k + 2))) := by rw [lw_i2]; exact lwX_at (by omega) (by omega)
  obtain ⟨w0, e0⟩ := hI.at
  refine x_aload_n d_Law_law_167 rfl rfl ?_
  refine x_aload_n d_Law_law_168 rfl rfl ?_
  refine x_iload d_Law_law_169 rfl ?_
  refine x_iconst (v := 1) d_Law_law_171 (by decide) ?_
  refine x_iadd d_Law_law_172 ?_
  refine x_iald (k := k_aint) rfl (Or.inr hb) n1 v1 d_Law_law_173 ?_
  refine x_aload_n d_Law_law_174 rfl rfl ?_
  refine x_callSW (As := [_, _, _]) xcbw_Law_value xw_738 xw_737 (K_Lvalue hG htr (by omega) hI hk ho) rfl rfl (Nat.le_of_ble_eq_true rfl) d_Law_law_175 ?_
  rintro v h4 c4 n4 ⟨rfl, ho4, ⟨F4, f4, q4⟩, hI4⟩
  have hR4 := hR.fr f4 q4
  generalize hLe : lnm Ns z (vlu Ns t (xs (3 * k + 1))) = LL at *
  have hEc := E_value (l := l) (G := G) (d := 1215) (o := m) (rf := rf) (w := xs (3 * k + 1)) (z := z) (by omega) hg
  rw [hLe] at hEc
  refine x_istore (L' := [_, _, _, _, _, _, _]) d_Law_law_178 rfl rfl ?_
  refine x_aload_n d_Law_law_180 rfl rfl ?_
  refine x_aload_n d_Law_law_181 rfl rfl ?_
  refine x_iload d_Law_law_182 rfl ?_
  refine x_iconst (v := 1) d_Law_law_184 (by decide) ?_
  refine x_iadd d_Law_law_185 ?_
  refine x_iald (k := k_aint) rfl (Or.inr hb) n1 v1 d_Law_law_186 ?_
  refine x_callV (As := [_]) (k := k_MarkerTextModel) rfl xcv_Law_45_Mo (Or.inl hR4.1) (RM.ap hR4 (hEc)) rfl rfl (Nat.le_of_ble_eq_true rfl) d_Law_law_187 ?_
  rintro v h5 c5 n5 ⟨S', hR5, hx5, rfl, rfl, r5, rfl, -, -, hg5⟩
  refine x_istore (L' := [_, _, _, _, _, _, _]) d_Law_law_190 rfl rfl ?_
  refine x_goto (tgt := 534) d_Law_law_192 (by decide) ?_
  exact hN _ _ _ _ _ _ _ _ _ _ _ _ _ (hI4.fr hx5 (by decide)) hR5 hg5 (hx5.out (by decide) ho4)
set_option maxHeartbeats 1000000 in
theorem lw_c3 (hG : xGk G) (htr : l.stackTraces = false) {b x m o k L : Nat} {rf : Nat → Nat} {xs : Nat → Int32} {t : List Nat} {Ns : List NmT} {Cs : List CnT} {il : Option Nat} {lv : Nat → Nat} {Pt : PtT} {S : MS} {z : Int64} {e5 e6 : Option Value} (hb : G.2.2.1 b = some (k_aint, lwX L xs)) (hL : L ≤ 1536) (h3 : 3 * k + 3 ≤ L) (hI : CI G h x k c n t Ns Cs il lv Pt) (hR : isR h m rf S) (hg : RL t Ns Cs il lv Pt S) (ho : h o = some (k_along, [.long z])) (hN : lwN l G b x m o rf k 534) : XX l G M_Law_law (1215 + 1) 195 [some (.ref b), some (.ref x), some (.ref m), some (.ref o), some (.int (nI (3 * k))), e5, e6] [] h c n (xlawQ G) := by
  have hk : k < 512 := by omega
  have n1 : ¬ nI (3 * k) + 1 < 0 := by rw [lw_i1]; exact nI_pos (by omega)
  have n2 : ¬ nI (3 * k) + 2 < 0 := by rw [lw_i2]; exact nI_pos (by omega)
  have v1 : (lwX L xs)[(nI (3 * k) + 1).toNatClampNeg]? = some (.int (xs (3 * k + 1))) := by rw [lw_i1]; exact lwX_at (by omega) (by omega)
  have v2 : (lwX L xs)[(nI (3 * k) + 2).toNatClampNeg]? = some (.int (xs (3 * k + 2))) := by rw [lw_i2]; exact lwX_at (by omega) (by omega)
  obtain ⟨w0, e0⟩ := hI.at
  refine x_aload_n d_Law_law_195 rfl rfl ?_
  refine x_aload_n d_Law_law_196 rfl rfl ?_
  refine x_callSW (As := [_, _]) xcbw_Law_condition xw_817 xw_816 (K_Lcondition hG htr (by omega) hI hk ho) rfl rfl (Nat.le_of_ble_eq_true rfl) d_Law_law_197 ?_
  rintro v h4 c4 n4 ⟨rfl, ho4, ⟨F4, f4, q4⟩, hI4⟩
  have hR4 := hR.fr f4 q4
  generalize hLe : lcd Cs z (rW t Ns) = LL at *
  have hEc := E_condition (l := l) (G := G) (d := 1215) (o := m) (rf := rf) (z := z) (by omega) hg
  rw [hLe] at hEc
  refine x_istore (L' := [_, _, _, _, _, _, _]) d_Law_law_200 rfl rfl ?_
  refine x_aload_n d_Law_law_202 rfl rfl ?_
  refine x_callV (As := []) (k := k_MarkerTextModel) rfl xcv_Law_49_Mo (Or.inl hR4.1) (RM.ap hR4 (hEc)) rfl rfl (Nat.le_of_ble_eq_true rfl) d_Law_law_203 ?_
  rintro v h5 c5 n5 ⟨S', hR5, hx5, rfl, rfl, r5, rfl, -, -, hg5⟩
  refine x_istore (L' := [_, _, _, _, _, _, _]) d_Law_law_206 rfl rfl ?_
  refine x_goto (tgt := 534) d_Law_law_208 (by decide) ?_
  exact hN _ _ _ _ _ _ _ _ _ _ _ _ _ (hI4.fr hx5 (by decide)) hR5 hg5 (hx5.out (by decide) ho4)
set_option maxHeartbeats 1000000 in
theorem lw_c4 (hG : xGk G) (htr : l.stackTraces = false) {b x m o k L : Nat} {rf : Nat → Nat} {xs : Nat → Int32} {t : List Nat} {Ns : List NmT} {Cs : List CnT} {il : Option Nat} {lv : Nat → Nat} {Pt : PtT} {S : MS} {z : Int64} {e5 e6 : Option Value} (hb : G.2.2.1 b = some (k_aint, lwX L xs)) (hL : L ≤ 1536) (h3 : 3 * k + 3 ≤ L) (hI : CI G h x k c n t Ns Cs il lv Pt) (hR : isR h m rf S) (hg : RL t Ns Cs il lv Pt S) (ho : h o = some (k_along, [.long z])) (hN : lwN l G b x m o rf k 534) : XX l G M_Law_law (1215 + 1) 211 [some (.ref b), some (.ref x), some (.ref m), some (.ref o), some (.int (nI (3 * k))), e5, e6] [] h c n (xlawQ G) := by
  have hk : k < 512 := by omega
  have n1 : ¬ nI (3 * k) + 1 < 0 := by rw [lw_i1]; exact nI_pos (by omega)
  have n2 : ¬ nI (3 * k) + 2 < 0 := by rw [lw_i2]; exact nI_pos (by omega)
  have v1 : (lwX L xs)[(nI (3 * k) + 1).toNatClampNeg]? = some (.int (xs (3 * k + 1))) := by rw [lw_i1]; exact lwX_at (by omega) (by omega)
  have v2 : (lwX L xs)[(nI (3 * k) + 2).toNatClampNeg]? = some (.int (xs (3 * k + 2))) := by rw [lw_i2]; exact lwX_at (by omega) (by omega)
  obtain ⟨w0, e0⟩ := hI.at
  refine x_aload_n d_Law_law_211 rfl rfl ?_
  refine x_callV (As := []) (k := k_MarkerText) rfl xcv_Law_50_MT (Or.inl e0) (K_place hI) rfl rfl (Nat.le_of_ble_eq_true rfl) d_Law_law_212 ?_
  rintro v h4 c4 n4 ⟨rfl, hap, hI4⟩
  have hR4 := hap.isR hR
  refine x_pop d_Law_law_215 rfl ?_
  refine x_aload_n d_Law_law_216 rfl rfl ?_
  refine x_callV (As := []) (k := k_MarkerTextModel) rfl xcv_Law_53_Mo (Or.inl hR4.1) (RM.ap hR4 (E_place hg)) rfl rfl (Nat.le_of_ble_eq_true rfl) d_Law_law_217 ?_
  rintro v h5 c5 n5 ⟨S', hR5, hx5, rfl, rfl, rfl, hg5⟩
  refine x_pop d_Law_law_220 rfl ?_
  refine x_goto (tgt := 534) d_Law_law_221 (by decide) ?_
  exact hN _ _ _ _ _ _ _ _ _ _ _ _ _ (hI4.fr hx5 (by decide)) hR5 hg5 (hx5.out (by decide) (hap.out ho))
set_option maxHeartbeats 1000000 in
theorem lw_c5 (hG : xGk G) (htr : l.stackTraces = false) {b x m o k L : Nat} {rf : Nat → Nat} {xs : Nat → Int32} {t : List Nat} {Ns : List NmT} {Cs : List CnT} {il : Option Nat} {lv : Nat → Nat} {Pt : PtT} {S : MS} {z : Int64} {e5 e6 : Option Value} (hb : G.2.2.1 b = some (k_aint, lwX L xs)) (hL : L ≤ 1536) (h3 : 3 * k + 3 ≤ L) (hI : CI G h x k c n t Ns Cs il lv Pt) (hR : isR h m rf S) (hg : RL t Ns Cs il lv Pt S) (ho : h o = some (k_along, [.long z])) (hN : lwN l G b x m o rf k 534) : XX l G M_Law_law (1215 + 1) 224 [some (.ref b), some (.ref x), some (.ref m), some (.ref o), some (.int (nI (3 * k))), e5, e6] [] h c n (xlawQ G) := by
  have hk : k < 512 := by omega
  have n1 : ¬ nI (3 * k) + 1 < 0 := by rw [lw_i1]; exact nI_pos (by omega)
  have n2 : ¬ nI (3 * k) + 2 < 0 := by rw [lw_i2]; exact nI_pos (by omega)
  have v1 : (lwX L xs)[(nI (3 * k) + 1).toNatClampNeg]? = some (.int (xs (3 * k + 1))) := by rw [lw_i1]; exact lwX_at (by omega) (by omega)
  have v2 : (lwX L xs)[(nI (3 * k) + 2).toNatClampNeg]? = some (.int (xs (3 * k + 2))) := by rw [lw_i2]; exact lwX_at (by omega) (by omega)
  obtain ⟨w0, e0⟩ := hI.at
  refine x_aload_n d_Law_law_224 rfl rfl ?_
  refine x_aload_n d_Law_law_225 rfl rfl ?_
  refine x_iload d_Law_law_226 rfl ?_
  refine x_iconst (v := 1) d_Law_law_228 (by decide) ?_
  refine x_iadd d_Law_law_229 ?_
  refine x_iald (k := k_aint) rfl (Or.inr hb) n1 v1 d_Law_law_230 ?_
  refine x_callSW (As := [_, _]) xcbw_Law_give xw_1157 xw_1156 (K_Lgive hG htr (by omega) hI hk) rfl rfl (Nat.le_of_ble_eq_true rfl) d_Law_law_231 ?_
  rintro v h4 c4 n4 ⟨rfl, hap, hI4⟩
  have hR4 := hap.isR hR
  refine x_istore (L' := [_, _, _, _, _, _, _]) d_Law_law_234 rfl rfl ?_
  refine x_aload_n d_Law_law_236 rfl rfl ?_
  refine x_aload_n d_Law_law_237 rfl rfl ?_
  refine x_iload d_Law_law_238 rfl ?_
  refine x_iconst (v := 1) d_Law_law_240 (by decide) ?_
  refine x_iadd d_Law_law_241 ?_
  refine x_iald (k := k_aint) rfl (Or.inr hb) n1 v1 d_Law_law_242 ?_
  refine x_callV (As := [_]) (k := k_MarkerTextModel) rfl xcv_Law_57_Mo (Or.inl hR4.1) (RM.ap hR4 (E_give (by omega) hg)) rfl rfl (Nat.le_of_ble_eq_true rfl) d_Law_law_243 ?_
  rintro v h5 c5 n5 ⟨S', hR5, hx5, rfl, rfl, rfl, hth, hg5⟩
  refine x_goto (tgt := 534) d_Law_law_246 (by decide) ?_
  exact hN _ _ _ _ _ _ _ _ _ _ _ _ _ (hI4.fr hx5 (by decide)) hR5 hg5 (hx5.out (by decide) (hap.out ho))
set_option maxHeartbeats 1000000 in
theorem lw_c6 (hG : xGk G) (htr : l.stackTraces = false) {b x m o k L : Nat} {rf : Nat → Nat} {xs : Nat → Int32} {t : List Nat} {Ns : List NmT} {Cs : List CnT} {il : Option Nat} {lv : Nat → Nat} {Pt : PtT} {S : MS} {z : Int64} {e5 e6 : Option Value} (hb : G.2.2.1 b = some (k_aint, lwX L xs)) (hL : L ≤ 1536) (h3 : 3 * k + 3 ≤ L) (hI : CI G h x k c n t Ns Cs il lv Pt) (hR : isR h m rf S) (hg : RL t Ns Cs il lv Pt S) (ho : h o = some (k_along, [.long z])) (hN : lwN l G b x m o rf k 534) : XX l G M_Law_law (1215 + 1) 249 [some (.ref b), some (.ref x), some (.ref m), some (.ref o), some (.int (nI (3 * k))), e5, e6] [] h c n (xlawQ G) := by
  have hk : k < 512 := by omega
  have n1 : ¬ nI (3 * k) + 1 < 0 := by rw [lw_i1]; exact nI_pos (by omega)
  have n2 : ¬ nI (3 * k) + 2 < 0 := by rw [lw_i2]; exact nI_pos (by omega)
  have v1 : (lwX L xs)[(nI (3 * k) + 1).toNatClampNeg]? = some (.int (xs (3 * k + 1))) := by rw [lw_i1]; exact lwX_at (by omega) (by omega)
  have v2 : (lwX L xs)[(nI (3 * k) + 2).toNatClampNeg]? = some (.int (xs (3 * k + 2))) := by rw [lw_i2]; exact lwX_at (by omega) (by omega)
  obtain ⟨w0, e0⟩ := hI.at
  refine x_aload_n d_Law_law_249 rfl rfl ?_
  refine x_aload_n d_Law_law_250 rfl rfl ?_
  refine x_iload d_Law_law_251 rfl ?_
  refine x_iconst (v := 1) d_Law_law_253 (by decide) ?_
  refine x_iadd d_Law_law_254 ?_
  refine x_iald (k := k_aint) rfl (Or.inr hb) n1 v1 d_Law_law_255 ?_
  refine x_callV (As := [_]) (k := k_MarkerText) rfl xcv_Law_58_MT (Or.inl e0) (K_holds (by omega) hI) rfl rfl (Nat.le_of_ble_eq_true rfl) d_Law_law_256 ?_
  rintro v h4 c4 n4 ⟨rfl, hap, hI4⟩
  have hR4 := hap.isR hR
  refine x_pop d_Law_law_259 rfl ?_
  refine x_aload_n d_Law_law_260 rfl rfl ?_
  refine x_aload_n d_Law_law_261 rfl rfl ?_
  refine x_iload d_Law_law_262 rfl ?_
  refine x_iconst (v := 1) d_Law_law_264 (by decide) ?_
  refine x_iadd d_Law_law_265 ?_
  refine x_iald (k := k_aint) rfl (Or.inr hb) n1 v1 d_Law_law_266 ?_
  refine x_callV (As := [_]) (k := k_MarkerTextModel) rfl xcv_Law_62_Mo (Or.inl hR4.1) (RM.ap hR4 (E_holds (by omega) hg)) rfl rfl (Nat.le_of_ble_eq_true rfl) d_Law_law_267 ?_
  rintro v h5 c5 n5 ⟨S', hR5, hx5, rfl, rfl, rfl, hg5⟩
  refine x_pop d_Law_law_270 rfl ?_
  refine x_goto (tgt := 534) d_Law_law_271 (by decide) ?_
  exact hN _ _ _ _ _ _ _ _ _ _ _ _ _ (hI4.fr hx5 (by decide)) hR5 hg5 (hx5.out (by decide) (hap.out ho))
set_option maxHeartbeats 1000000 in
theorem lw_c7 (hG : xGk G) (htr : l.stackTraces = false) {b x m o k L : Nat} {rf : Nat → Nat} {xs : Nat → Int32} {t : List Nat} {Ns : List NmT} {Cs : List CnT} {il : Option Nat} {lv : Nat → Nat} {Pt : PtT} {S : MS} {z : Int64} {e5 e6 : Option Value} (hb : G.2.2.1 b = some (k_aint, lwX L xs)) (hL : L ≤ 1536) (h3 : 3 * k + 3 ≤ L) (hI : CI G h x k c n t Ns Cs il lv Pt) (hR : isR h m rf S) (hg : RL t Ns Cs il lv Pt S) (ho : h o = some (k_along, [.long z])) (hN : lwN l G b x m o rf k 534) : XX l G M_Law_law (1215 + 1) 274 [some (.ref b), some (.ref x), some (.ref m), some (.ref o), some (.int (nI (3 * k))), e5, e6] [] h c n (xlawQ G) := by
  have hk : k < 512 := by omega
  have n1 : ¬ nI (3 * k) + 1 < 0 := by rw [lw_i1]; exact nI_pos (by omega)
  have n2 : ¬ nI (3 * k) + 2 < 0 := by rw [lw_i2]; exact nI_pos (by omega)
  have v1 : (lwX L xs)[(nI (3 * k) + 1).toNatClampNeg]? = some (.int (xs (3 * k + 1))) := by rw [lw_i1]; exact lwX_at (by omega) (by omega)
  have v2 : (lwX L xs)[(nI (3 * k) + 2).toNatClampNeg]? = some (.int (xs (3 * k + 2))) := by rw [lw_i2]; exact lwX_at (by omega) (by omega)
  obtain ⟨w0, e0⟩ := hI.at
  refine x_aload_n d_Law_law_274 rfl rfl ?_
  refine x_aload_n d_Law_law_275 rfl rfl ?_
  refine x_iload d_Law_law_276 rfl ?_
  refine x_iconst (v := 1) d_Law_law_278 (by decide) ?_
  refine x_iadd d_Law_law_279 ?_
  refine x_iald (k := k_aint) rfl (Or.inr hb) n1 v1 d_Law_law_280 ?_
  refine x_callV (As := [_]) (k := k_MarkerText) rfl xcv_Law_63_MT (Or.inl e0) (K_ever (by omega) hI) rfl rfl (Nat.le_of_ble_eq_true rfl) d_Law_law_281 ?_
  rintro v h4 c4 n4 ⟨⟨us, st, sa, hu1, hu2, hu3, rfl⟩, hap, hI4⟩
  have hR4 := hap.isR hR
  refine x_pop d_Law_law_284 rfl ?_
  refine x_aload_n d_Law_law_285 rfl rfl ?_
  refine x_aload_n d_Law_law_286 rfl rfl ?_
  refine x_iload d_Law_law_287 rfl ?_
  refine x_iconst (v := 1) d_Law_law_289 (by decide) ?_
  refine x_iadd d_Law_law_290 ?_
  refine x_iald (k := k_aint) rfl (Or.inr hb) n1 v1 d_Law_law_291 ?_
  refine x_callV (As := [_]) (k := k_MarkerTextModel) rfl xcv_Law_66_Mo (Or.inl hR4.1) (RM.ap hR4 (E_ever (by omega) hg hu1 hu2 hu3)) rfl rfl (Nat.le_of_ble_eq_true rfl) d_Law_law_292 ?_
  rintro v h5 c5 n5 ⟨S', hR5, hx5, rfl, rfl, rfl, hg5⟩
  refine x_pop d_Law_law_295 rfl ?_
  refine x_goto (tgt := 534) d_Law_law_296 (by decide) ?_
  exact hN _ _ _ _ _ _ _ _ _ _ _ _ _ (hI4.fr hx5 (by decide)) hR5 hg5 (hx5.out (by decide) (hap.out ho))
set_option maxHeartbeats 1000000 in
theorem lw_c8 (hG : xGk G) (htr : l.stackTraces = false) {b x m o k L : Nat} {rf : Nat → Nat} {xs : Nat → Int32} {t : List Nat} {Ns : List NmT} {Cs : List CnT} {il : Option Nat} {lv : Nat → Nat} {Pt : PtT} {S : MS} {z : Int64} {e5 e6 : Option Value} (hb : G.2.2.1 b = some (k_aint, lwX L xs)) (hL : L ≤ 1536) (h3 : 3 * k + 3 ≤ L) (hI : CI G h x k c n t Ns Cs il lv Pt) (hR : isR h m rf S) (hg : RL t Ns Cs il lv Pt S) (ho : h o = some (k_along, [.long z])) (hN : lwN l G b x m o rf k 534) : XX l G M_Law_law (1215 + 1) 299 [some (.ref b), some (.ref x), some (.ref m), some (.ref o), some (.int (nI (3 * k))), e5, e6] [] h c n (xlawQ G) := by
  have hk : k < 512 := by omega
  have n1 : ¬ nI (3 * k) + 1 < 0 := by rw [lw_i1]; exact nI_pos (by omega)
  have n2 : ¬ nI (3 * k) + 2 < 0 := by rw [lw_i2]; exact nI_pos (by omega)
  have v1 : (lwX L xs)[(nI (3 * k) + 1).toNatClampNeg]? = some (.int (xs (3 * k + 1))) := by rw [lw_i1]; exact lwX_at (by omega) (by omega)
  have v2 : (lwX L xs)[(nI (3 * k) + 2).toNatClampNeg]? = some (.int (xs (3 * k + 2))) := by rw [lw_i2]; exact lwX_at (by omega) (by omega)
  obtain ⟨w0, e0⟩ := hI.at
  refine x_aload_n d_Law_law_299 rfl rfl ?_
  refine x_aload_n d_Law_law_300 rfl rfl ?_
  refine x_iload d_Law_law_301 rfl ?_
  refine x_iconst (v := 1) d_Law_law_303 (by decide) ?_
  refine x_iadd d_Law_law_304 ?_
  refine x_iald (k := k_aint) rfl (Or.inr hb) n1 v1 d_Law_law_305 ?_
  refine x_aload_n d_Law_law_306 rfl rfl ?_
  refine x_iload d_Law_law_307 rfl ?_
  refine x_iconst (v := 2) d_Law_law_309 (by decide) ?_
  refine x_iadd d_Law_law_310 ?_
  refine x_iald (k := k_aint) rfl (Or.inr hb) n2 v2 d_Law_law_311 ?_
  refine x_callV (As := [_, _]) (k := k_MarkerText) rfl xcv_Law_67_MT (Or.inl e0) (K_implies (by omega) hI) rfl rfl (Nat.le_of_ble_eq_true rfl) d_Law_law_312 ?_
  rintro v h4 c4 n4 ⟨⟨us, st, sa, hu1, hu2, hu3, rfl⟩, hap, hI4⟩
  have hR4 := hap.isR hR
  refine x_pop d_Law_law_315 rfl ?_
  refine x_aload_n d_Law_law_316 rfl rfl ?_
  refine x_aload_n d_Law_law_317 rfl rfl ?_
  refine x_iload d_Law_law_318 rfl ?_
  refine x_iconst (v := 1) d_Law_law_320 (by decide) ?_
  refine x_iadd d_Law_law_321 ?_
  refine x_iald (k := k_aint) rfl (Or.inr hb) n1 v1 d_Law_law_322 ?_
  refine x_aload_n d_Law_law_323 rfl rfl ?_
  refine x_iload d_Law_law_324 rfl ?_
  refine x_iconst (v := 2) d_Law_law_326 (by decide) ?_
  refine x_iadd d_Law_law_327 ?_
  refine x_iald (k := k_aint) rfl (Or.inr hb) n2 v2 d_Law_law_328 ?_
  refine x_callV (As := [_, _]) (k := k_MarkerTextModel) rfl xcv_Law_71_Mo (Or.inl hR4.1) (RM.ap hR4 (E_implies (by omega) hg hu1 hu2 hu3)) rfl rfl (Nat.le_of_ble_eq_true rfl) d_Law_law_329 ?_
  rintro v h5 c5 n5 ⟨S', hR5, hx5, rfl, rfl, rfl, hg5⟩
  refine x_pop d_Law_law_332 rfl ?_
  refine x_goto (tgt := 534) d_Law_law_333 (by decide) ?_
  exact hN _ _ _ _ _ _ _ _ _ _ _ _ _ (hI4.fr hx5 (by decide)) hR5 hg5 (hx5.out (by decide) (hap.out ho))
set_option maxHeartbeats 1000000 in
theorem lw_c9 (hG : xGk G) (htr : l.stackTraces = false) {b x m o k L : Nat} {rf : Nat → Nat} {xs : Nat → Int32} {t : List Nat} {Ns : List NmT} {Cs : List CnT} {il : Option Nat} {lv : Nat → Nat} {Pt : PtT} {S : MS} {z : Int64} {e5 e6 : Option Value} (hb : G.2.2.1 b = some (k_aint, lwX L xs)) (hL : L ≤ 1536) (h3 : 3 * k + 3 ≤ L) (hI : CI G h x k c n t Ns Cs il lv Pt) (hR : isR h m rf S) (hg : RL t Ns Cs il lv Pt S) (ho : h o = some (k_along, [.long z])) (hN : lwN l G b x m o rf k 534) : XX l G M_Law_law (1215 + 1) 336 [some (.ref b), some (.ref x), some (.ref m), some (.ref o), some (.int (nI (3 * k))), e5, e6] [] h c n (xlawQ G) := by
  have hk : k < 512 := by omega
  have n1 : ¬ nI (3 * k) + 1 < 0 := by rw [lw_i1]; exact nI_pos (by omega)
  have n2 : ¬ nI (3 * k) + 2 < 0 := by rw [lw_i2]; exact nI_pos (by omega)
  have v1 : (lwX L xs)[(nI (3 * k) + 1).toNatClampNeg]? = some (.int (xs (3 * k + 1))) := by rw [lw_i1]; exact lwX_at (by omega) (by omega)
  have v2 : (lwX L xs)[(nI (3 * k) + 2).toNatClampNeg]? = some (.int (xs (3 * k + 2))) := by rw [lw_i2]; exact lwX_at (by omega) (by omega)
  obtain ⟨w0, e0⟩ := hI.at
  refine x_aload_n d_Law_law_336 rfl rfl ?_
  refine x_aload_n d_Law_law_337 rfl rfl ?_
  refine x_iload d_Law_law_338 rfl ?_
  refine x_iconst (v := 1) d_Law_law_340 (by decide) ?_
  refine x_iadd d_Law_law_341 ?_
  refine x_iald (k := k_aint) rfl (Or.inr hb) n1 v1 d_Law_law_342 ?_
  refine x_aload_n d_Law_law_343 rfl rfl ?_
  refine x_iload d_Law_law_344 rfl ?_
  refine x_iconst (v := 2) d_Law_law_346 (by decide) ?_
  refine x_iadd d_Law_law_347 ?_
  refine x_iald (k := k_aint) rfl (Or.inr hb) n2 v2 d_Law_law_348 ?_
  refine x_callV (As := [_, _]) (k := k_MarkerText) rfl xcv_Law_72_MT (Or.inl e0) (K_apart (by omega) hI) rfl rfl (Nat.le_of_ble_eq_true rfl) d_Law_law_349 ?_
  rintro v h4 c4 n4 ⟨⟨us, st, sa, hu1, hu2, hu3, rfl⟩, hap, hI4⟩
  have hR4 := hap.isR hR
  refine x_aload_n d_Law_law_352 rfl rfl ?_
  refine x_aload_n d_Law_law_353 rfl rfl ?_
  refine x_iload d_Law_law_354 rfl ?_
  refine x_iconst (v := 1) d_Law_law_356 (by decide) ?_
  refine x_iadd d_Law_law_357 ?_
  refine x_iald (k := k_aint) rfl (Or.inr hb) n1 v1 d_Law_law_358 ?_
  refine x_aload_n d_Law_law_359 rfl rfl ?_
  refine x_iload d_Law_law_360 rfl ?_
  refine x_iconst (v := 2) d_Law_law_362 (by decide) ?_
  refine x_iadd d_Law_law_363 ?_
  refine x_iald (k := k_aint) rfl (Or.inr hb) n2 v2 d_Law_law_364 ?_
  refine x_callV (As := [_, _]) (k := k_MarkerTextModel) rfl xcv_Law_75_Mo (Or.inl hR4.1) (RM.ap hR4 (E_apart (by omega) hg hu1 hu2 hu3)) rfl rfl (Nat.le_of_ble_eq_true rfl) d_Law_law_365 ?_
  rintro v h5 c5 n5 ⟨S', hR5, hx5, rfl, rfl, rfl, hg5⟩
  refine x_icmp_eq (tgt := 534) d_Law_law_368 (by decide) (fun _ => ?_) (fun hn => absurd rfl hn)
  exact hN _ _ _ _ _ _ _ _ _ _ _ _ _ (hI4.fr hx5 (by decide)) hR5 hg5 (hx5.out (by decide) (hap.out ho))
set_option maxHeartbeats 1000000 in
theorem lw_c10 (hG : xGk G) (htr : l.stackTraces = false) {b x m o k L : Nat} {rf : Nat → Nat} {xs : Nat → Int32} {t : List Nat} {Ns : List NmT} {Cs : List CnT} {il : Option Nat} {lv : Nat → Nat} {Pt : PtT} {S : MS} {z : Int64} {e5 e6 : Option Value} (hb : G.2.2.1 b = some (k_aint, lwX L xs)) (hL : L ≤ 1536) (h3 : 3 * k + 3 ≤ L) (hI : CI G h x k c n t Ns Cs il lv Pt) (hR : isR h m rf S) (hg : RL t Ns Cs il lv Pt S) (ho : h o = some (k_along, [.long z])) (hN : lwN l G b x m o rf k 534) : XX l G M_Law_law (1215 + 1) 373 [some (.ref b), some (.ref x), some (.ref m), some (.ref o), some (.int (nI (3 * k))), e5, e6] [] h c n (xlawQ G) := by
  have hk : k < 512 := by omega
  have n1 : ¬ nI (3 * k) + 1 < 0 := by rw [lw_i1]; exact nI_pos (by omega)
  have n2 : ¬ nI (3 * k) + 2 < 0 := by rw [lw_i2]; exact nI_pos (by omega)
  have v1 : (lwX L xs)[(nI (3 * k) + 1).toNatClampNeg]? = some (.int (xs (3 * k + 1))) := by rw [lw_i1]; exact lwX_at (by omega) (by omega)
  have v2 : (lwX L xs)[(nI (3 * k) + 2).toNatClampNeg]? = some (.int (xs (3 * k + 2))) := by rw [lw_i2]; exact lwX_at (by omega) (by omega)
  obtain ⟨w0, e0⟩ := hI.at
  refine x_aload_n d_Law_law_373 rfl rfl ?_
  refine x_aload_n d_Law_law_374 rfl rfl ?_
  refine x_iload d_Law_law_375 rfl ?_
  refine x_iconst (v := 1) d_Law_law_377 (by decide) ?_
  refine x_iadd d_Law_law_378 ?_
  refine x_iald (k := k_aint) rfl (Or.inr hb) n1 v1 d_Law_law_379 ?_
  refine x_callV (As := [_]) (k := k_MarkerText) rfl xcv_Law_76_MT (Or.inl e0) (K_classes (by omega) hI) rfl rfl (Nat.le_of_ble_eq_true rfl) d_Law_law_380 ?_
  rintro v h4 c4 n4 ⟨us, st, sa, hu1, hu2, hu3, rfl, hap, hI4⟩
  have hR4 := hap.isR hR
  refine x_pop d_Law_law_383 rfl ?_
  refine x_aload_n d_Law_law_384 rfl rfl ?_
  refine x_aload_n d_Law_law_385 rfl rfl ?_
  refine x_iload d_Law_law_386 rfl ?_
  refine x_iconst (v := 1) d_Law_law_388 (by decide) ?_
  refine x_iadd d_Law_law_389 ?_
  refine x_iald (k := k_aint) rfl (Or.inr hb) n1 v1 d_Law_law_390 ?_
  refine x_callV (As := [_]) (k := k_MarkerTextModel) rfl xcv_Law_79_Mo (Or.inl hR4.1) (RM.ap hR4 (E_classes (by omega) hg hu1 hu2 hu3)) rfl rfl (Nat.le_of_ble_eq_true rfl) d_Law_law_391 ?_
  rintro v h5 c5 n5 ⟨S', hR5, hx5, rfl, rfl, rfl, hg5⟩
  refine x_pop d_Law_law_394 rfl ?_
  refine x_goto (tgt := 534) d_Law_law_395 (by decide) ?_
  exact hN _ _ _ _ _ _ _ _ _ _ _ _ _ (hI4.fr hx5 (by decide)) hR5 hg5 (hx5.out (by decide) (hap.out ho))
set_option maxHeartbeats 1000000 in
theorem lw_c11 (hG : xGk G) (htr : l.stackTraces = false) {b x m o k L : Nat} {rf : Nat → Nat} {xs : Nat → Int32} {t : List Nat} {Ns : List NmT} {Cs : List CnT} {il : Option Nat} {lv : Nat → Nat} {Pt : PtT} {S : MS} {z : Int64} {e5 e6 : Option Value} (hb : G.2.2.1 b = some (k_aint, lwX L xs)) (hL : L ≤ 1536) (h3 : 3 * k + 3 ≤ L) (hI : CI G h x k c n t Ns Cs il lv Pt) (hR : isR h m rf S) (hg : RL t Ns Cs il lv Pt S) (ho : h o = some (k_along, [.long z])) (hN : lwN l G b x m o rf k 534) : XX l G M_Law_law (1215 + 1) 398 [some (.ref b), some (.ref x), some (.ref m), some (.ref o), some (.int (nI (3 * k))), e5, e6] [] h c n (xlawQ G) := by
  have hk : k < 512 := by omega
  have n1 : ¬ nI (3 * k) + 1 < 0 := by rw [lw_i1]; exact nI_pos (by omega)
  have n2 : ¬ nI (3 * k) + 2 < 0 := by rw [lw_i2]; exact nI_pos (by omega)
  have v1 : (lwX L xs)[(nI (3 * k) + 1).toNatClampNeg]? = some (.int (xs (3 * k + 1))) := by rw [lw_i1]; exact lwX_at (by omega) (by omega)
  have v2 : (lwX L xs)[(nI (3 * k) + 2).toNatClampNeg]? = some (.int (xs (3 * k + 2))) := by rw [lw_i2]; exact lwX_at (by omega) (by omega)
  obtain ⟨w0, e0⟩ := hI.at
  refine x_aload_n d_Law_law_398 rfl rfl ?_
  refine x_aload_n d_Law_law_399 rfl rfl ?_
  refine x_iload d_Law_law_400 rfl ?_
  refine x_iconst (v := 1) d_Law_law_402 (by decide) ?_
  refine x_iadd d_Law_law_403 ?_
  refine x_iald (k := k_aint) rfl (Or.inr hb) n1 v1 d_Law_law_404 ?_
  refine x_callV (As := [_]) (k := k_MarkerText) rfl xcv_Law_80_MT (Or.inl e0) (K_many (by omega) hI) rfl rfl (Nat.le_of_ble_eq_true rfl) d_Law_law_405 ?_
  rintro v h4 c4 n4 ⟨rfl, hap, hI4⟩
  have hR4 := hap.isR hR
  refine x_pop d_Law_law_408 rfl ?_
  refine x_aload_n d_Law_law_409 rfl rfl ?_
  refine x_aload_n d_Law_law_410 rfl rfl ?_
  refine x_iload d_Law_law_411 rfl ?_
  refine x_iconst (v := 1) d_Law_law_413 (by decide) ?_
  refine x_iadd d_Law_law_414 ?_
  refine x_iald (k := k_aint) rfl (Or.inr hb) n1 v1 d_Law_law_415 ?_
  refine x_callV (As := [_]) (k := k_MarkerTextModel) rfl xcv_Law_83_Mo (Or.inl hR4.1) (RM.ap hR4 (E_many (by omega) hg)) rfl rfl (Nat.le_of_ble_eq_true rfl) d_Law_law_416 ?_
  rintro v h5 c5 n5 ⟨S', hR5, hx5, rfl, rfl, rfl, hg5⟩
  refine x_pop d_Law_law_419 rfl ?_
  refine x_goto (tgt := 534) d_Law_law_420 (by decide) ?_
  exact hN _ _ _ _ _ _ _ _ _ _ _ _ _ (hI4.fr hx5 (by decide)) hR5 hg5 (hx5.out (by decide) (hap.out ho))
set_option maxHeartbeats 1000000 in
theorem lw_c12 (hG : xGk G) (htr : l.stackTraces = false) {b x m o k L : Nat} {rf : Nat → Nat} {xs : Nat → Int32} {t : List Nat} {Ns : List NmT} {Cs : List CnT} {il : Option Nat} {lv : Nat → Nat} {Pt : PtT} {S : MS} {z : Int64} {e5 e6 : Option Value} (hb : G.2.2.1 b = some (k_aint, lwX L xs)) (hL : L ≤ 1536) (h3 : 3 * k + 3 ≤ L) (hI : CI G h x k c n t Ns Cs il lv Pt) (hR : isR h m rf S) (hg : RL t Ns Cs il lv Pt S) (ho : h o = some (k_along, [.long z])) (hN : lwN l G b x m o rf k 534) : XX l G M_Law_law (1215 + 1) 423 [some (.ref b), some (.ref x), some (.ref m), some (.ref o), some (.int (nI (3 * k))), e5, e6] [] h c n (xlawQ G) := by
  have hk : k < 512 := by omega
  have n1 : ¬ nI (3 * k) + 1 < 0 := by rw [lw_i1]; exact nI_pos (by omega)
  have n2 : ¬ nI (3 * k) + 2 < 0 := by rw [lw_i2]; exact nI_pos (by omega)
  have v1 : (lwX L xs)[(nI (3 * k) + 1).toNatClampNeg]? = some (.int (xs (3 * k + 1))) := by rw [lw_i1]; exact lwX_at (by omega) (by omega)
  have v2 : (lwX L xs)[(nI (3 * k) + 2).toNatClampNeg]? = some (.int (xs (3 * k + 2))) := by rw [lw_i2]; exact lwX_at (by omega) (by omega)
  obtain ⟨w0, e0⟩ := hI.at
  refine x_aload_n d_Law_law_423 rfl rfl ?_
  refine x_aload_n d_Law_law_424 rfl rfl ?_
  refine x_iload d_Law_law_425 rfl ?_
  refine x_iconst (v := 1) d_Law_law_427 (by decide) ?_
  refine x_iadd d_Law_law_428 ?_
  refine x_iald (k := k_aint) rfl (Or.inr hb) n1 v1 d_Law_law_429 ?_
  refine x_aload_n d_Law_law_430 rfl rfl ?_
  refine x_iload d_Law_law_431 rfl ?_
  refine x_iconst (v := 2) d_Law_law_433 (by decide) ?_
  refine x_iadd d_Law_law_434 ?_
  refine x_iald (k := k_aint) rfl (Or.inr hb) n2 v2 d_Law_law_435 ?_
  refine x_callV (As := [_, _]) (k := k_MarkerText) rfl xcv_Law_84_MT (Or.inl e0) (K_inClass (by omega) hI) rfl rfl (Nat.le_of_ble_eq_true rfl) d_Law_law_436 ?_
  rintro v h4 c4 n4 ⟨rfl, hap, hI4⟩
  have hR4 := hap.isR hR
  refine x_pop d_Law_law_439 rfl ?_
  refine x_aload_n d_Law_law_440 rfl rfl ?_
  refine x_aload_n d_Law_law_441 rfl rfl ?_
  refine x_iload d_Law_law_442 rfl ?_
  refine x_iconst (v := 1) d_Law_law_444 (by decide) ?_
  refine x_iadd d_Law_law_445 ?_
  refine x_iald (k := k_aint) rfl (Or.inr hb) n1 v1 d_Law_law_446 ?_
  refine x_aload_n d_Law_law_447 rfl rfl ?_
  refine x_iload d_Law_law_448 rfl ?_
  refine x_iconst (v := 2) d_Law_law_450 (by decide) ?_
  refine x_iadd d_Law_law_451 ?_
  refine x_iald (k := k_aint) rfl (Or.inr hb) n2 v2 d_Law_law_452 ?_
  refine x_callV (As := [_, _]) (k := k_MarkerTextModel) rfl xcv_Law_88_Mo (Or.inl hR4.1) (RM.ap hR4 (E_inClass (by omega) hg)) rfl rfl (Nat.le_of_ble_eq_true rfl) d_Law_law_453 ?_
  rintro v h5 c5 n5 ⟨S', hR5, hx5, rfl, rfl, rfl, hg5⟩
  refine x_pop d_Law_law_456 rfl ?_
  refine x_goto (tgt := 534) d_Law_law_457 (by decide) ?_
  exact hN _ _ _ _ _ _ _ _ _ _ _ _ _ (hI4.fr hx5 (by decide)) hR5 hg5 (hx5.out (by decide) (hap.out ho))
set_option maxHeartbeats 1000000 in
theorem lw_c13 (hG : xGk G) (htr : l.stackTraces = false) {b x m o k L : Nat} {rf : Nat → Nat} {xs : Nat → Int32} {t : List Nat} {Ns : List NmT} {Cs : List CnT} {il : Option Nat} {lv : Nat → Nat} {Pt : PtT} {S : MS} {z : Int64} {e5 e6 : Option Value} (hb : G.2.2.1 b = some (k_aint, lwX L xs)) (hL : L ≤ 1536) (h3 : 3 * k + 3 ≤ L) (hI : CI G h x k c n t Ns Cs il lv Pt) (hR : isR h m rf S) (hg : RL t Ns Cs il lv Pt S) (ho : h o = some (k_along, [.long z])) (hN : lwN l G b x m o rf k 534) : XX l G M_Law_law (1215 + 1) 460 [some (.ref b), some (.ref x), some (.ref m), some (.ref o), some (.int (nI (3 * k))), e5, e6] [] h c n (xlawQ G) := by
  have hk : k < 512 := by omega
  have n1 : ¬ nI (3 * k) + 1 < 0 := by rw [lw_i1]; exact nI_pos (by omega)
  have n2 : ¬ nI (3 * k) + 2 < 0 := by rw [lw_i2]; exact nI_pos (by omega)
  have v1 : (lwX L xs)[(nI (3 * k) + 1).toNatClampNeg]? = some (.int (xs (3 * k + 1))) := by rw [lw_i1]; exact lwX_at (by omega) (by omega)
  have v2 : (lwX L xs)[(nI (3 * k) + 2).toNatClampNeg]? = some (.int (xs (3 * k + 2))) := by rw [lw_i2]; exact lwX_at (by omega) (by omega)
  obtain ⟨w0, e0⟩ := hI.at
  refine x_aload_n d_Law_law_460 rfl rfl ?_
  refine x_aload_n d_Law_law_461 rfl rfl ?_
  refine x_iload d_Law_law_462 rfl ?_
  refine x_iconst (v := 1) d_Law_law_464 (by decide) ?_
  refine x_iadd d_Law_law_465 ?_
  refine x_iald (k := k_aint) rfl (Or.inr hb) n1 v1 d_Law_law_466 ?_
  refine x_aload_n d_Law_law_467 rfl rfl ?_
  refine x_iload d_Law_law_468 rfl ?_
  refine x_iconst (v := 2) d_Law_law_470 (by decide) ?_
  refine x_iadd d_Law_law_471 ?_
  refine x_iald (k := k_aint) rfl (Or.inr hb) n2 v2 d_Law_law_472 ?_
  refine x_callV (As := [_, _]) (k := k_MarkerText) rfl xcv_Law_89_MT (Or.inl e0) (K_sample (by omega) hI) rfl rfl (Nat.le_of_ble_eq_true rfl) d_Law_law_473 ?_
  rintro v h4 c4 n4 ⟨rfl, hap, hI4⟩
  have hR4 := hap.isR hR
  refine x_pop d_Law_law_476 rfl ?_
  refine x_aload_n d_Law_law_477 rfl rfl ?_
  refine x_aload_n d_Law_law_478 rfl rfl ?_
  refine x_iload d_Law_law_479 rfl ?_
  refine x_iconst (v := 1) d_Law_law_481 (by decide) ?_
  refine x_iadd d_Law_law_482 ?_
  refine x_iald (k := k_aint) rfl (Or.inr hb) n1 v1 d_Law_law_483 ?_
  refine x_aload_n d_Law_law_484 rfl rfl ?_
  refine x_iload d_Law_law_485 rfl ?_
  refine x_iconst (v := 2) d_Law_law_487 (by decide) ?_
  refine x_iadd d_Law_law_488 ?_
  refine x_iald (k := k_aint) rfl (Or.inr hb) n2 v2 d_Law_law_489 ?_
  refine x_callV (As := [_, _]) (k := k_MarkerTextModel) rfl xcv_Law_92_Mo (Or.inl hR4.1) (RM.ap hR4 (E_sample (by omega) hg)) rfl rfl (Nat.le_of_ble_eq_true rfl) d_Law_law_490 ?_
  rintro v h5 c5 n5 ⟨S', hR5, hx5, rfl, rfl, ⟨r5, rfl⟩, hg5⟩
  refine x_pop d_Law_law_493 rfl ?_
  refine x_goto (tgt := 534) d_Law_law_494 (by decide) ?_
  exact hN _ _ _ _ _ _ _ _ _ _ _ _ _ (hI4.fr hx5 (by decide)) hR5 hg5 (hx5.out (by decide) (hap.out ho))
set_option maxHeartbeats 1000000 in
theorem lw_c14 (hG : xGk G) (htr : l.stackTraces = false) {b x m o k L : Nat} {rf : Nat → Nat} {xs : Nat → Int32} {t : List Nat} {Ns : List NmT} {Cs : List CnT} {il : Option Nat} {lv : Nat → Nat} {Pt : PtT} {S : MS} {z : Int64} {e5 e6 : Option Value} (hb : G.2.2.1 b = some (k_aint, lwX L xs)) (hL : L ≤ 1536) (h3 : 3 * k + 3 ≤ L) (hI : CI G h x k c n t Ns Cs il lv Pt) (hR : isR h m rf S) (hg : RL t Ns Cs il lv Pt S) (ho : h o = some (k_along, [.long z])) (hN : lwN l G b x m o rf k 534) : XX l G M_Law_law (1215 + 1) 497 [some (.ref b), some (.ref x), some (.ref m), some (.ref o), some (.int (nI (3 * k))), e5, e6] [] h c n (xlawQ G) := by
  have hk : k < 512 := by omega
  have n1 : ¬ nI (3 * k) + 1 < 0 := by rw [lw_i1]; exact nI_pos (by omega)
  have n2 : ¬ nI (3 * k) + 2 < 0 := by rw [lw_i2]; exact nI_pos (by omega)
  have v1 : (lwX L xs)[(nI (3 * k) + 1).toNatClampNeg]? = some (.int (xs (3 * k + 1))) := by rw [lw_i1]; exact lwX_at (by omega) (by omega)
  have v2 : (lwX L xs)[(nI (3 * k) + 2).toNatClampNeg]? = some (.int (xs (3 * k + 2))) := by rw [lw_i2]; exact lwX_at (by omega) (by omega)
  obtain ⟨w0, e0⟩ := hI.at
  refine x_aload_n d_Law_law_497 rfl rfl ?_
  refine x_aload_n d_Law_law_498 rfl rfl ?_
  refine x_iload d_Law_law_499 rfl ?_
  refine x_iconst (v := 1) d_Law_law_501 (by decide) ?_
  refine x_iadd d_Law_law_502 ?_
  refine x_iald (k := k_aint) rfl (Or.inr hb) n1 v1 d_Law_law_503 ?_
  refine x_aload_n d_Law_law_504 rfl rfl ?_
  refine x_iload d_Law_law_505 rfl ?_
  refine x_iconst (v := 2) d_Law_law_507 (by decide) ?_
  refine x_iadd d_Law_law_508 ?_
  refine x_iald (k := k_aint) rfl (Or.inr hb) n2 v2 d_Law_law_509 ?_
  refine x_callV (As := [_, _]) (k := k_MarkerText) rfl xcv_Law_93_MT (Or.inl e0) (K_printed hG (by omega) hI) rfl rfl (Nat.le_of_ble_eq_true rfl) d_Law_law_510 ?_
  rintro v h4 c4 n4 ⟨rfl, hap, hI4⟩
  have hR4 := hap.isR hR
  refine x_pop d_Law_law_513 rfl ?_
  refine x_aload_n d_Law_law_514 rfl rfl ?_
  refine x_aload_n d_Law_law_515 rfl rfl ?_
  refine x_iload d_Law_law_516 rfl ?_
  refine x_iconst (v := 1) d_Law_law_518 (by decide) ?_
  refine x_iadd d_Law_law_519 ?_
  refine x_iald (k := k_aint) rfl (Or.inr hb) n1 v1 d_Law_law_520 ?_
  refine x_aload_n d_Law_law_521 rfl rfl ?_
  refine x_iload d_Law_law_522 rfl ?_
  refine x_iconst (v := 2) d_Law_law_524 (by decide) ?_
  refine x_iadd d_Law_law_525 ?_
  refine x_iald (k := k_aint) rfl (Or.inr hb) n2 v2 d_Law_law_526 ?_
  refine x_callV (As := [_, _]) (k := k_MarkerTextModel) rfl xcv_Law_96_Mo (Or.inl hR4.1) (RM.ap hR4 (E_printed (by omega) hg)) rfl rfl (Nat.le_of_ble_eq_true rfl) d_Law_law_527 ?_
  rintro v h5 c5 n5 ⟨S', hR5, hx5, rfl, rfl, rfl, hg5⟩
  refine x_pop d_Law_law_530 rfl ?_
  refine x_goto (tgt := 534) d_Law_law_531 (by decide) ?_
  exact hN _ _ _ _ _ _ _ _ _ _ _ _ _ (hI4.fr hx5 (by decide)) hR5 hg5 (hx5.out (by decide) (hap.out ho))
set_option maxHeartbeats 1000000 in
theorem lw_loop (hG : xGk G) (htr : l.stackTraces = false) {b x m o L : Nat} {rf : Nat → Nat} {xs : Nat → Int32} (hb : G.2.2.1 b = some (k_aint, lwX L xs)) (hL : L ≤ 1536) : ∀ (r k : Nat) (h : XH) (c n : Nat) (t : List Nat) (Ns : List NmT) (Cs : List CnT) (il : Option Nat) (lv : Nat → Nat) (Pt : PtT) (S : MS) (z : Int64) (e5 e6 : Option Value), L ≤ 3 * k + 3 * r → k ≤ 512 → CI G h x k c n t Ns Cs il lv Pt → isR h m rf S → RL t Ns Cs il lv Pt S → h o = some (k_along, [.long z]) → XX l G M_Law_law (1215 + 1) 23 [some (.ref b), some (.ref x), some (.ref m), some (.ref o), some (.int (nI (3 * k))), e5, e6] [] h c n (xlawQ G) := by
  intro r
  induction r with
  | zero =>
    intro k h c n t Ns Cs il lv Pt S z e5 e6 hr hk hI hR hg ho
    refine x_iload d_Law_law_23 rfl ?_
    refine x_aload_n d_Law_law_25 rfl rfl ?_
    refine x_alen (k := k_aint) rfl (Or.inr hb) (v := nI L) (by rw [List.length_map, List.length_range]; rfl) d_Law_law_26 ?_
    refine x_iconst (v := 3) d_Law_law_27 (by decide) ?_
    refine x_isub d_Law_law_28 ?_
    refine x_icmp_gt (tgt := 540) d_Law_law_29 (by decide) (fun _ => ?_) (fun hn => absurd ((lw_out (by omega) (by omega)).mpr (by omega)) hn)
    refine x_iconst (v := 1) d_Law_law_540 (by decide) ?_
    exact x_lawret d_Law_law_541
  | succ r ih =>
    intro k h c n t Ns Cs il lv Pt S z e5 e6 hr hk hI hR hg ho
    by_cases h3 : L < 3 * k + 3
    · refine x_iload d_Law_law_23 rfl ?_
      refine x_aload_n d_Law_law_25 rfl rfl ?_
      refine x_alen (k := k_aint) rfl (Or.inr hb) (v := nI L) (by rw [List.length_map, List.length_range]; rfl) d_Law_law_26 ?_
      refine x_iconst (v := 3) d_Law_law_27 (by decide) ?_
      refine x_isub d_Law_law_28 ?_
      refine x_icmp_gt (tgt := 540) d_Law_law_29 (by decide) (fun _ => ?_) (fun hn => absurd ((lw_out (by omega) (by omega)).mpr h3) hn)
      refine x_iconst (v := 1) d_Law_law_540 (by decide) ?_
      exact x_lawret d_Law_law_541
    · have h3 : 3 * k + 3 ≤ L := by omega
      have hN : lwN l G b x m o rf k 534 := by
        intro h c n t Ns Cs il lv Pt S z e5 e6 hI hR hg ho
        refine x_iinc (v := nI (3 * (k + 1))) (L' := [_, _, _, _, _, _, _]) d_Law_law_534 rfl (by rw [Nat.mul_succ, ← nI_add]; rfl) rfl rfl ?_
        refine x_goto (tgt := 23) d_Law_law_537 (by decide) ?_
        exact ih (k + 1) h c n t Ns Cs il lv Pt S z e5 e6 (by omega) (by omega) hI hR hg ho
      have n0 : ¬ nI (3 * k) < 0 := nI_pos (by omega)
      have v0 : (lwX L xs)[(nI (3 * k)).toNatClampNeg]? = some (.int (xs (3 * k))) := lwX_at (by omega) (by omega)
      refine x_iload d_Law_law_23 rfl ?_
      refine x_aload_n d_Law_law_25 rfl rfl ?_
      refine x_alen (k := k_aint) rfl (Or.inr hb) (v := nI L) (by rw [List.length_map, List.length_range]; rfl) d_Law_law_26 ?_
      refine x_iconst (v := 3) d_Law_law_27 (by decide) ?_
      refine x_isub d_Law_law_28 ?_
      refine x_icmp_gt (tgt := 540) d_Law_law_29 (by decide) (fun ht => absurd ht (fun q => absurd ((lw_out (by omega) (by omega)).mp q) (by omega))) (fun _ => ?_)
      refine x_aload_n d_Law_law_32 rfl rfl ?_
      refine x_iload d_Law_law_33 rfl ?_
      refine x_iald (k := k_aint) rfl (Or.inr hb) n0 v0 d_Law_law_35 ?_
      refine x_bipush (v := 15) d_Law_law_36 (by decide) ?_
      refine x_iand d_Law_law_38 ?_
      obtain ⟨j, hj, hje⟩ := and15 (xs (3 * k))
      refine x_top (w := .int (nI j)) (by rw [hje]) ?_
      have hjj : j = 0 ∨ j = 1 ∨ j = 2 ∨ j = 3 ∨ j = 4 ∨ j = 5 ∨ j = 6 ∨ j = 7 ∨ j = 8 ∨ j = 9 ∨ j = 10 ∨ j = 11 ∨ j = 12 ∨ j = 13 ∨ j = 14 ∨ j = 15 := by omega
      rcases hjj with rfl | rfl | rfl | rfl | rfl | rfl | rfl | rfl | rfl | rfl | rfl | rfl | rfl | rfl | rfl | rfl
      · refine x_tableIn (tgt := 112) (off := 73) d_Law_law_39 (by decide) (by decide) (by decide) (by decide) ?_
        exact lw_c0 hG htr hb hL h3 hI hR hg ho hN
      · refine x_tableIn (tgt := 139) (off := 100) d_Law_law_39 (by decide) (by decide) (by decide) (by decide) ?_
        exact lw_c1 hG htr hb hL h3 hI hR hg ho hN
      · refine x_tableIn (tgt := 167) (off := 128) d_Law_law_39 (by decide) (by decide) (by decide) (by decide) ?_
        exact lw_c2 hG htr hb hL h3 hI hR hg ho hN
      · refine x_tableIn (tgt := 195) (off := 156) d_Law_law_39 (by decide) (by decide) (by decide) (by decide) ?_
        exact lw_c3 hG htr hb hL h3 hI hR hg ho hN
      · refine x_tableIn (tgt := 211) (off := 172) d_Law_law_39 (by decide) (by decide) (by decide) (by decide) ?_
        exact lw_c4 hG htr hb hL h3 hI hR hg ho hN
      · refine x_tableIn (tgt := 224) (off := 185) d_Law_law_39 (by decide) (by decide) (by decide) (by decide) ?_
        exact lw_c5 hG htr hb hL h3 hI hR hg ho hN
      · refine x_tableIn (tgt := 249) (off := 210) d_Law_law_39 (by decide) (by decide) (by decide) (by decide) ?_
        exact lw_c6 hG htr hb hL h3 hI hR hg ho hN
      · refine x_tableIn (tgt := 274) (off := 235) d_Law_law_39 (by decide) (by decide) (by decide) (by decide) ?_
        exact lw_c7 hG htr hb hL h3 hI hR hg ho hN
      · refine x_tableIn (tgt := 299) (off := 260) d_Law_law_39 (by decide) (by decide) (by decide) (by decide) ?_
        exact lw_c8 hG htr hb hL h3 hI hR hg ho hN
      · refine x_tableIn (tgt := 336) (off := 297) d_Law_law_39 (by decide) (by decide) (by decide) (by decide) ?_
        exact lw_c9 hG htr hb hL h3 hI hR hg ho hN
      · refine x_tableIn (tgt := 373) (off := 334) d_Law_law_39 (by decide) (by decide) (by decide) (by decide) ?_
        exact lw_c10 hG htr hb hL h3 hI hR hg ho hN
      · refine x_tableIn (tgt := 398) (off := 359) d_Law_law_39 (by decide) (by decide) (by decide) (by decide) ?_
        exact lw_c11 hG htr hb hL h3 hI hR hg ho hN
      · refine x_tableIn (tgt := 423) (off := 384) d_Law_law_39 (by decide) (by decide) (by decide) (by decide) ?_
        exact lw_c12 hG htr hb hL h3 hI hR hg ho hN
      · refine x_tableIn (tgt := 460) (off := 421) d_Law_law_39 (by decide) (by decide) (by decide) (by decide) ?_
        exact lw_c13 hG htr hb hL h3 hI hR hg ho hN
      · refine x_tableIn (tgt := 497) (off := 458) d_Law_law_39 (by decide) (by decide) (by decide) (by decide) ?_
        exact lw_c14 hG htr hb hL h3 hI hR hg ho hN
      · refine x_tableOut (tgt := 534) d_Law_law_39 (Or.inr (by decide)) (by decide) ?_
        exact hN _ _ _ _ _ _ _ _ _ _ _ _ _ hI.next hR hg ho
set_option maxHeartbeats 1000000 in
theorem law_all (hG : xGk G) (htr : l.stackTraces = false) {b L : Nat} {xs : Nat → Int32} (hL : L ≤ 1536) (hb : G.2.2.1 b = some (k_aint, (List.range L).map (fun i => Value.int (xs i)))) : XX l G M_Law_law 1216 0 (xin [Value.ref b] ++ List.replicate (M_Law_law.2.2.1 - (xin [Value.ref b]).length) none) [] (fun _ => none) 0 0 (xlawQ G) := by
  have hcb := xCB_ge
  have hsb := xSB_ge
  show XX l G M_Law_law (1215 + 1) 0 [some (.ref b), none, none, none, none, none, none] [] (fun _ => none) 0 0 (xlawQ G)
  refine x_new xnw_Law_8 (by omega) (by omega) d_Law_law_0 (fun x hn_x hk_x => ?_)
  refine x_dup d_Law_law_3 rfl ?_
  refine x_callI (As := []) xci_Law_28 (c_MT_init (by omega) xup_self (by omega) (by omega)) rfl rfl (Nat.le_of_ble_eq_true rfl) d_Law_law_4 ?_
  rintro v h1 c1 n1 ⟨rfl, hx1, f1, rfl, hn1⟩
  refine x_astore_n (L' := [_, _, _, _, _, _, _]) d_Law_law_7 rfl rfl rfl ?_
  refine x_new xnw_Law_29 (by omega) (by omega) d_Law_law_8 (fun m hn_m hk_m => ?_)
  refine x_dup d_Law_law_11 rfl ?_
  refine x_callI (As := []) xci_Law_31 (r_init (by omega) xup_self (by omega) (by omega)) rfl rfl (Nat.le_of_ble_eq_true rfl) d_Law_law_12 ?_
  rintro v h2 c2 n2 ⟨rfl, ⟨rf, hm2⟩, f2, rfl, rfl⟩
  have hx2 : mt0 h2 x := (hx1.fr (F := []) (xfr.rf.up (Or.inr hn_m)) (fun q hq => by cases hq)).fr f2 (xno1 xup_self (by decide))
  refine x_astore_n (L' := [_, _, _, _, _, _, _]) d_Law_law_15 rfl rfl rfl ?_
  refine x_iconst (v := 1) d_Law_law_16 (by decide) ?_
  refine x_newa (k := k_along) rfl rfl (fun _ hz => by cases hz) xw_110 (by decide) (by decide : Int32.toNatClampNeg 1 = 1) (by decide) (by omega) (by omega) d_Law_law_17 (fun o hn_o hk_o => ?_)
  refine x_any (R := fun h3 => mt0 h3 x ∧ isR h3 m rf S0 ∧ h3 o = some (k_along, [.long 0])) ⟨hx2.fr (F := []) (xfr.rf.up (Or.inr hn_o)) (fun q hq => by cases hq), hm2.fr (F := []) (xfr.rf.up (Or.inr hn_o)) (fun q hq => by cases hq), xup_self⟩ (fun h3 ⟨hx3, hm3, ho3⟩ => ?_)
  refine x_astore_n (L' := [_, _, _, _, _, _, _]) d_Law_law_19 rfl rfl rfl ?_
  refine x_iconst (v := 0) d_Law_law_20 (by decide) ?_
  refine x_istore (L' := [_, _, _, _, _, _, _]) d_Law_law_21 rfl rfl ?_
  exact lw_loop hG htr hb hL 512 0 h3 _ _ [] [] [] none _ _ S0 0 none none (by omega) (by omega) (CI.new hx3 (by omega) (by omega)) hm3 RL.new ho3
end LW4
