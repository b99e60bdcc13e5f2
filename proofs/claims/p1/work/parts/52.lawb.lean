section
abbrev y_Law_law : MethodName := ⟨"MarkerTextLaw", "law", "([I)Z"⟩
abbrev M_Law_law : XMt := (y_Law_law, code, 7, (some .boolean))
theorem d_Law_law_0 : decode M_Law_law.2.1 0 = .ok (.new 8, 3) := by decide +kernel
theorem xw_34 : (Jvm.Cond.classLink "MarkerTextLaw" (8 : Nat) "MarkerText") ∈ xT := xT_at 34 (by decide +kernel) (by decide +kernel)
theorem xw_35 : (Jvm.Cond.instantiable "MarkerText" (9 : Nat)) ∈ xT := xT_at 35 (by decide +kernel) (by decide +kernel)
theorem xnw_Law_8 : xNw "MarkerTextLaw" 8 k_MarkerText 9 [.null, .null, .int 0, .null, .int 0, .int 0, .null, .null, .null] := ⟨_, _, _, rfl, rfl, by decide +kernel, xw_34, xw_35, xw_1⟩
theorem d_Law_law_3 : decode M_Law_law.2.1 3 = .ok (.dup, 1) := by decide +kernel
theorem d_Law_law_4 : decode M_Law_law.2.1 4 = .ok (.invokespecial 28, 3) := by decide +kernel
theorem xw_38 : (Jvm.Cond.code ({ cls := "MarkerText", name := "<init>", desc := "()V" } : Jvm.MethodName) prog_1_method_1_code (1 : Nat) (Option.none : Option Jvm.ClassFile.FieldType)) ∈ xT := xT_at 38 (by decide +kernel) (by decide +kernel)
theorem xcb_MT_init : xcb M_MT_init 0 := ⟨xw_38, xw_1, by decide, by decide, by decide, by decide +kernel⟩
theorem xw_36 : (Jvm.Cond.methodLink "MarkerTextLaw" (28 : Nat) ({ cls := "MarkerText", name := "<init>", desc := "()V" } : Jvm.MethodName)) ∈ xT := xT_at 36 (by decide +kernel) (by decide +kernel)
theorem xw_37 : (Jvm.Cond.instanceMethod ({ cls := "MarkerText", name := "<init>", desc := "()V" } : Jvm.MethodName)) ∈ xT := xT_at 37 (by decide +kernel) (by decide +kernel)
theorem xci_Law_28 : xCI "MarkerTextLaw" 28 M_MT_init 0 := ⟨xcb_MT_init, rfl, rfl, xw_37, Or.inl xw_36⟩
theorem d_Law_law_7 : decode M_Law_law.2.1 7 = .ok (.astore_n 1, 1) := by decide +kernel
theorem d_Law_law_8 : decode M_Law_law.2.1 8 = .ok (.new 29, 3) := by decide +kernel
theorem xw_1164 : (Jvm.Cond.classLink "MarkerTextLaw" (29 : Nat) "MarkerTextModel") ∈ xT := xT_at 1164 (by decide +kernel) (by decide +kernel)
theorem xw_1165 : (Jvm.Cond.instantiable "MarkerTextModel" (52 : Nat)) ∈ xT := xT_at 1165 (by decide +kernel) (by decide +kernel)
theorem xnw_Law_29 : xNw "MarkerTextLaw" 29 k_MarkerTextModel 52 [.int 0, .null, .int 0, .int 0, .null, .null, .null, .null, .null, .null, .null, .int 0, .null, .null, .null, .null, .null, .null, .null, .null, .null, .null, .null, .null, .null, .null, .null, .int 0, .int 0, .int 0, .int 0, .null, .int 0, .int 0, .null, .int 0, .long 0, .null, .null, .null, .null, .null, .int 0, .int 0, .int 0, .null, .null, .null, .null, .int 0, .null, .int 0] := ⟨_, _, _, rfl, rfl, by decide +kernel, xw_1164, xw_1165, xw_8⟩
theorem d_Law_law_11 : decode M_Law_law.2.1 11 = .ok (.dup, 1) := by decide +kernel
theorem d_Law_law_12 : decode M_Law_law.2.1 12 = .ok (.invokespecial 31, 3) := by decide +kernel
theorem xw_1168 : (Jvm.Cond.code ({ cls := "MarkerTextModel", name := "<init>", desc := "()V" } : Jvm.MethodName) prog_13_method_1_code (1 : Nat) (Option.none : Option Jvm.ClassFile.FieldType)) ∈ xT := xT_at 1168 (by decide +kernel) (by decide +kernel)
theorem xcb_Mo_init : xcb M_Mo_init 0 := ⟨xw_1168, xw_8, by decide, by decide, by decide, by decide +kernel⟩
theorem xw_1166 : (Jvm.Cond.methodLink "MarkerTextLaw" (31 : Nat) ({ cls := "MarkerTextModel", name := "<init>", desc := "()V" } : Jvm.MethodName)) ∈ xT := xT_at 1166 (by decide +kernel) (by decide +kernel)
theorem xw_1167 : (Jvm.Cond.instanceMethod ({ cls := "MarkerTextModel", name := "<init>", desc := "()V" } : Jvm.MethodName)) ∈ xT := xT_at 1167 (by decide +kernel) (by decide +kernel)
theorem xci_Law_31 : xCI "MarkerTextLaw" 31 M_Mo_init 0 := ⟨xcb_Mo_init, rfl, rfl, xw_1167, Or.inl xw_1166⟩
theorem d_Law_law_15 : decode M_Law_law.2.1 15 = .ok (.astore_n 2, 1) := by decide +kernel
theorem d_Law_law_16 : decode M_Law_law.2.1 16 = .ok (.iconst 1, 1) := by decide +kernel
theorem d_Law_law_17 : decode M_Law_law.2.1 17 = .ok (.newarray .long, 2) := by decide +kernel
theorem d_Law_law_19 : decode M_Law_law.2.1 19 = .ok (.astore_n 3, 1) := by decide +kernel
theorem d_Law_law_20 : decode M_Law_law.2.1 20 = .ok (.iconst 0, 1) := by decide +kernel
theorem d_Law_law_21 : decode M_Law_law.2.1 21 = .ok (.istore 4, 2) := by decide +kernel
theorem d_Law_law_629 : decode M_Law_law.2.1 629 = .ok (.iinc 4 3, 3) := by decide +kernel
theorem d_Law_law_632 : decode M_Law_law.2.1 632 = .ok (.goto (-609), 3) := by decide +kernel
theorem d_Law_law_23 : decode M_Law_law.2.1 23 = .ok (.iload 4, 2) := by decide +kernel
theorem d_Law_law_25 : decode M_Law_law.2.1 25 = .ok (.aload_n 0, 1) := by decide +kernel
theorem d_Law_law_26 : decode M_Law_law.2.1 26 = .ok (.arraylength, 1) := by decide +kernel
theorem d_Law_law_27 : decode M_Law_law.2.1 27 = .ok (.iconst 3, 1) := by decide +kernel
theorem d_Law_law_28 : decode M_Law_law.2.1 28 = .ok (.isub, 1) := by decide +kernel
theorem d_Law_law_29 : decode M_Law_law.2.1 29 = .ok (.if_icmp .gt 606, 3) := by decide +kernel
theorem d_Law_law_635 : decode M_Law_law.2.1 635 = .ok (.iconst 1, 1) := by decide +kernel
theorem d_Law_law_636 : decode M_Law_law.2.1 636 = .ok (.ireturn, 1) := by decide +kernel
theorem d_Law_law_32 : decode M_Law_law.2.1 32 = .ok (.aload_n 0, 1) := by decide +kernel
theorem d_Law_law_33 : decode M_Law_law.2.1 33 = .ok (.iload 4, 2) := by decide +kernel
theorem d_Law_law_35 : decode M_Law_law.2.1 35 = .ok (.iaload, 1) := by decide +kernel
theorem d_Law_law_36 : decode M_Law_law.2.1 36 = .ok (.bipush 15, 2) := by decide +kernel
theorem d_Law_law_38 : decode M_Law_law.2.1 38 = .ok (.iand, 1) := by decide +kernel
theorem d_Law_law_39 : decode M_Law_law.2.1 39 = .ok (.tableswitch 590 0 14 #[73, 100, 156, 212, 256, 269, 305, 330, 355, 392, 429, 454, 479, 516, 553], 73) := by decide +kernel
theorem d_Law_law_112 : decode M_Law_law.2.1 112 = .ok (.aload_n 1, 1) := by decide +kernel
theorem d_Law_law_113 : decode M_Law_law.2.1 113 = .ok (.aload_n 0, 1) := by decide +kernel
theorem d_Law_law_114 : decode M_Law_law.2.1 114 = .ok (.iload 4, 2) := by decide +kernel
theorem d_Law_law_116 : decode M_Law_law.2.1 116 = .ok (.iconst 1, 1) := by decide +kernel
theorem d_Law_law_117 : decode M_Law_law.2.1 117 = .ok (.iadd, 1) := by decide +kernel
theorem d_Law_law_118 : decode M_Law_law.2.1 118 = .ok (.iaload, 1) := by decide +kernel
theorem d_Law_law_119 : decode M_Law_law.2.1 119 = .ok (.i2c, 1) := by decide +kernel
theorem d_Law_law_120 : decode M_Law_law.2.1 120 = .ok (.invokevirtual 32, 3) := by decide +kernel
theorem xw_171 : (Jvm.Cond.code ({ cls := "MarkerText", name := "type", desc := "(C)Z" } : Jvm.MethodName) prog_1_method_2_code (2 : Nat) (Option.some Jvm.ClassFile.FieldType.boolean)) ∈ xT := xT_at 171 (by decide +kernel) (by decide +kernel)
theorem xcb_MT_type : xcb M_MT_type 1 := ⟨xw_171, xw_1, by decide, by decide, by decide, by decide +kernel⟩
theorem xw_169 : (Jvm.Cond.instanceMethod ({ cls := "MarkerText", name := "type", desc := "(C)Z" } : Jvm.MethodName)) ∈ xT := xT_at 169 (by decide +kernel) (by decide +kernel)
theorem xw_168 : (Jvm.Cond.methodLink "MarkerTextLaw" (32 : Nat) ({ cls := "MarkerText", name := "type", desc := "(C)Z" } : Jvm.MethodName)) ∈ xT := xT_at 168 (by decide +kernel) (by decide +kernel)
theorem xw_170 : (Jvm.Cond.selects "MarkerText" ({ cls := "MarkerText", name := "type", desc := "(C)Z" } : Jvm.MethodName) ({ cls := "MarkerText", name := "type", desc := "(C)Z" } : Jvm.MethodName)) ∈ xT := xT_at 170 (by decide +kernel) (by decide +kernel)
theorem xcv_Law_32_MT : xCV "MarkerTextLaw" 32 "MarkerText" M_MT_type 1 := ⟨xcb_MT_type, xw_169, Or.inl ⟨xw_168, Or.inl xw_170⟩⟩
theorem d_Law_law_123 : decode M_Law_law.2.1 123 = .ok (.aload_n 2, 1) := by decide +kernel
theorem d_Law_law_124 : decode M_Law_law.2.1 124 = .ok (.aload_n 0, 1) := by decide +kernel
theorem d_Law_law_125 : decode M_Law_law.2.1 125 = .ok (.iload 4, 2) := by decide +kernel
theorem d_Law_law_127 : decode M_Law_law.2.1 127 = .ok (.iconst 1, 1) := by decide +kernel
theorem d_Law_law_128 : decode M_Law_law.2.1 128 = .ok (.iadd, 1) := by decide +kernel
theorem d_Law_law_129 : decode M_Law_law.2.1 129 = .ok (.iaload, 1) := by decide +kernel
theorem d_Law_law_130 : decode M_Law_law.2.1 130 = .ok (.i2c, 1) := by decide +kernel
theorem d_Law_law_131 : decode M_Law_law.2.1 131 = .ok (.invokevirtual 36, 3) := by decide +kernel
theorem xw_1335 : (Jvm.Cond.code ({ cls := "MarkerTextModel", name := "type", desc := "(C)Z" } : Jvm.MethodName) prog_13_method_5_code (2 : Nat) (Option.some Jvm.ClassFile.FieldType.boolean)) ∈ xT := xT_at 1335 (by decide +kernel) (by decide +kernel)
theorem xcb_Mo_type : xcb M_Mo_type 1 := ⟨xw_1335, xw_8, by decide, by decide, by decide, by decide +kernel⟩
theorem xw_1333 : (Jvm.Cond.instanceMethod ({ cls := "MarkerTextModel", name := "type", desc := "(C)Z" } : Jvm.MethodName)) ∈ xT := xT_at 1333 (by decide +kernel) (by decide +kernel)
theorem xw_1332 : (Jvm.Cond.methodLink "MarkerTextLaw" (36 : Nat) ({ cls := "MarkerTextModel", name := "type", desc := "(C)Z" } : Jvm.MethodName)) ∈ xT := xT_at 1332 (by decide +kernel) (by decide +kernel)
theorem xw_1334 : (Jvm.Cond.selects "MarkerTextModel" ({ cls := "MarkerTextModel", name := "type", desc := "(C)Z" } : Jvm.MethodName) ({ cls := "MarkerTextModel", name := "type", desc := "(C)Z" } : Jvm.MethodName)) ∈ xT := xT_at 1334 (by decide +kernel) (by decide +kernel)
theorem xcv_Law_36_Mo : xCV "MarkerTextLaw" 36 "MarkerTextModel" M_Mo_type 1 := ⟨xcb_Mo_type, xw_1333, Or.inl ⟨xw_1332, Or.inl xw_1334⟩⟩
theorem d_Law_law_134 : decode M_Law_law.2.1 134 = .ok (.if_icmp .eq 495, 3) := by decide +kernel
theorem d_Law_law_139 : decode M_Law_law.2.1 139 = .ok (.aload_n 1, 1) := by decide +kernel
theorem d_Law_law_140 : decode M_Law_law.2.1 140 = .ok (.aload_n 0, 1) := by decide +kernel
theorem d_Law_law_141 : decode M_Law_law.2.1 141 = .ok (.iload 4, 2) := by decide +kernel
theorem d_Law_law_143 : decode M_Law_law.2.1 143 = .ok (.iconst 1, 1) := by decide +kernel
theorem d_Law_law_144 : decode M_Law_law.2.1 144 = .ok (.iadd, 1) := by decide +kernel
theorem d_Law_law_145 : decode M_Law_law.2.1 145 = .ok (.iaload, 1) := by decide +kernel
theorem d_Law_law_146 : decode M_Law_law.2.1 146 = .ok (.aload_n 3, 1) := by decide +kernel
theorem d_Law_law_147 : decode M_Law_law.2.1 147 = .ok (.invokestatic 37, 3) := by decide +kernel
theorem xw_0 : (Jvm.Cond.initialized "MarkerTextLaw") ∈ xT := xT_at 0 (by decide +kernel) (by decide +kernel)
theorem xcbw_Law_name : xcbW M_Law_name [((0 : Nat), (9 : Nat), (12 : Nat), (13 : Nat)), ((0 : Nat), (9 : Nat), (15 : Nat), (15 : Nat))] 3 := ⟨xw_450, xw_0, by decide, by decide, by decide, by decide +kernel⟩
theorem xw_449 : (Jvm.Cond.static ({ cls := "MarkerTextLaw", name := "name", desc := "(LMarkerText;I[J)I" } : Jvm.MethodName)) ∈ xT := xT_at 449 (by decide +kernel) (by decide +kernel)
theorem xw_448 : (Jvm.Cond.methodLink "MarkerTextLaw" (37 : Nat) ({ cls := "MarkerTextLaw", name := "name", desc := "(LMarkerText;I[J)I" } : Jvm.MethodName)) ∈ xT := xT_at 448 (by decide +kernel) (by decide +kernel)
theorem d_Law_law_150 : decode M_Law_law.2.1 150 = .ok (.istore 5, 2) := by decide +kernel
theorem d_Law_law_152 : decode M_Law_law.2.1 152 = .ok (.aload_n 2, 1) := by decide +kernel
theorem d_Law_law_153 : decode M_Law_law.2.1 153 = .ok (.aload_n 0, 1) := by decide +kernel
theorem d_Law_law_154 : decode M_Law_law.2.1 154 = .ok (.iload 4, 2) := by decide +kernel
theorem d_Law_law_156 : decode M_Law_law.2.1 156 = .ok (.iconst 1, 1) := by decide +kernel
theorem d_Law_law_157 : decode M_Law_law.2.1 157 = .ok (.iadd, 1) := by decide +kernel
theorem d_Law_law_158 : decode M_Law_law.2.1 158 = .ok (.iaload, 1) := by decide +kernel
theorem d_Law_law_159 : decode M_Law_law.2.1 159 = .ok (.invokevirtual 42, 3) := by decide +kernel
theorem xw_1339 : (Jvm.Cond.code ({ cls := "MarkerTextModel", name := "name", desc := "(I)I" } : Jvm.MethodName) prog_13_method_11_code (5 : Nat) (Option.some Jvm.ClassFile.FieldType.int)) ∈ xT := xT_at 1339 (by decide +kernel) (by decide +kernel)
theorem xcb_Mo_name : xcb M_Mo_name 1 := ⟨xw_1339, xw_8, by decide, by decide, by decide, by decide +kernel⟩
theorem xw_1337 : (Jvm.Cond.instanceMethod ({ cls := "MarkerTextModel", name := "name", desc := "(I)I" } : Jvm.MethodName)) ∈ xT := xT_at 1337 (by decide +kernel) (by decide +kernel)
theorem xw_1336 : (Jvm.Cond.methodLink "MarkerTextLaw" (42 : Nat) ({ cls := "MarkerTextModel", name := "name", desc := "(I)I" } : Jvm.MethodName)) ∈ xT := xT_at 1336 (by decide +kernel) (by decide +kernel)
theorem xw_1338 : (Jvm.Cond.selects "MarkerTextModel" ({ cls := "MarkerTextModel", name := "name", desc := "(I)I" } : Jvm.MethodName) ({ cls := "MarkerTextModel", name := "name", desc := "(I)I" } : Jvm.MethodName)) ∈ xT := xT_at 1338 (by decide +kernel) (by decide +kernel)
theorem xcv_Law_42_Mo : xCV "MarkerTextLaw" 42 "MarkerTextModel" M_Mo_name 1 := ⟨xcb_Mo_name, xw_1337, Or.inl ⟨xw_1336, Or.inl xw_1338⟩⟩
theorem d_Law_law_162 : decode M_Law_law.2.1 162 = .ok (.istore 6, 2) := by decide +kernel
theorem d_Law_law_164 : decode M_Law_law.2.1 164 = .ok (.aload_n 2, 1) := by decide +kernel
theorem d_Law_law_165 : decode M_Law_law.2.1 165 = .ok (.invokevirtual 43, 3) := by decide +kernel
theorem xw_1331 : (Jvm.Cond.code ({ cls := "MarkerTextModel", name := "thrown", desc := "()I" } : Jvm.MethodName) prog_13_method_2_code (1 : Nat) (Option.some Jvm.ClassFile.FieldType.int)) ∈ xT := xT_at 1331 (by decide +kernel) (by decide +kernel)
theorem xcb_Mo_thrown : xcb M_Mo_thrown 0 := ⟨xw_1331, xw_8, by decide, by decide, by decide, by decide +kernel⟩
theorem xw_1329 : (Jvm.Cond.instanceMethod ({ cls := "MarkerTextModel", name := "thrown", desc := "()I" } : Jvm.MethodName)) ∈ xT := xT_at 1329 (by decide +kernel) (by decide +kernel)
theorem xw_1328 : (Jvm.Cond.methodLink "MarkerTextLaw" (43 : Nat) ({ cls := "MarkerTextModel", name := "thrown", desc := "()I" } : Jvm.MethodName)) ∈ xT := xT_at 1328 (by decide +kernel) (by decide +kernel)
theorem xw_1330 : (Jvm.Cond.selects "MarkerTextModel" ({ cls := "MarkerTextModel", name := "thrown", desc := "()I" } : Jvm.MethodName) ({ cls := "MarkerTextModel", name := "thrown", desc := "()I" } : Jvm.MethodName)) ∈ xT := xT_at 1330 (by decide +kernel) (by decide +kernel)
theorem xcv_Law_43_Mo : xCV "MarkerTextLaw" 43 "MarkerTextModel" M_Mo_thrown 0 := ⟨xcb_Mo_thrown, xw_1329, Or.inl ⟨xw_1328, Or.inl xw_1330⟩⟩
theorem d_Law_law_168 : decode M_Law_law.2.1 168 = .ok (.iload 5, 2) := by decide +kernel
theorem d_Law_law_170 : decode M_Law_law.2.1 170 = .ok (.if_icmp .eq 5, 3) := by decide +kernel
theorem d_Law_law_175 : decode M_Law_law.2.1 175 = .ok (.iload 5, 2) := by decide +kernel
theorem d_Law_law_177 : decode M_Law_law.2.1 177 = .ok (.ifCond .ne 15, 3) := by decide +kernel
theorem d_Law_law_192 : decode M_Law_law.2.1 192 = .ok (.goto 437, 3) := by decide +kernel
theorem d_Law_law_195 : decode M_Law_law.2.1 195 = .ok (.aload_n 1, 1) := by decide +kernel
theorem d_Law_law_196 : decode M_Law_law.2.1 196 = .ok (.aload_n 0, 1) := by decide +kernel
theorem d_Law_law_197 : decode M_Law_law.2.1 197 = .ok (.iload 4, 2) := by decide +kernel
theorem d_Law_law_199 : decode M_Law_law.2.1 199 = .ok (.iconst 1, 1) := by decide +kernel
theorem d_Law_law_200 : decode M_Law_law.2.1 200 = .ok (.iadd, 1) := by decide +kernel
theorem d_Law_law_201 : decode M_Law_law.2.1 201 = .ok (.iaload, 1) := by decide +kernel
theorem d_Law_law_202 : decode M_Law_law.2.1 202 = .ok (.aload_n 3, 1) := by decide +kernel
theorem d_Law_law_203 : decode M_Law_law.2.1 203 = .ok (.invokestatic 46, 3) := by decide +kernel
theorem xcbw_Law_value : xcbW M_Law_value [((0 : Nat), (9 : Nat), (12 : Nat), (13 : Nat)), ((0 : Nat), (9 : Nat), (15 : Nat), (15 : Nat))] 3 := ⟨xw_739, xw_0, by decide, by decide, by decide, by decide +kernel⟩
theorem xw_738 : (Jvm.Cond.static ({ cls := "MarkerTextLaw", name := "value", desc := "(LMarkerText;I[J)I" } : Jvm.MethodName)) ∈ xT := xT_at 738 (by decide +kernel) (by decide +kernel)
theorem xw_737 : (Jvm.Cond.methodLink "MarkerTextLaw" (46 : Nat) ({ cls := "MarkerTextLaw", name := "value", desc := "(LMarkerText;I[J)I" } : Jvm.MethodName)) ∈ xT := xT_at 737 (by decide +kernel) (by decide +kernel)
theorem d_Law_law_206 : decode M_Law_law.2.1 206 = .ok (.istore 5, 2) := by decide +kernel
theorem d_Law_law_208 : decode M_Law_law.2.1 208 = .ok (.aload_n 2, 1) := by decide +kernel
theorem d_Law_law_209 : decode M_Law_law.2.1 209 = .ok (.aload_n 0, 1) := by decide +kernel
theorem d_Law_law_210 : decode M_Law_law.2.1 210 = .ok (.iload 4, 2) := by decide +kernel
theorem d_Law_law_212 : decode M_Law_law.2.1 212 = .ok (.iconst 1, 1) := by decide +kernel
theorem d_Law_law_213 : decode M_Law_law.2.1 213 = .ok (.iadd, 1) := by decide +kernel
theorem d_Law_law_214 : decode M_Law_law.2.1 214 = .ok (.iaload, 1) := by decide +kernel
theorem d_Law_law_215 : decode M_Law_law.2.1 215 = .ok (.invokevirtual 48, 3) := by decide +kernel
theorem xw_1369 : (Jvm.Cond.code ({ cls := "MarkerTextModel", name := "value", desc := "(I)I" } : Jvm.MethodName) prog_13_method_16_code (5 : Nat) (Option.some Jvm.ClassFile.FieldType.int)) ∈ xT := xT_at 1369 (by decide +kernel) (by decide +kernel)
theorem xcb_Mo_value : xcb M_Mo_value 1 := ⟨xw_1369, xw_8, by decide, by decide, by decide, by decide +kernel⟩
theorem xw_1367 : (Jvm.Cond.instanceMethod ({ cls := "MarkerTextModel", name := "value", desc := "(I)I" } : Jvm.MethodName)) ∈ xT := xT_at 1367 (by decide +kernel) (by decide +kernel)
theorem xw_1366 : (Jvm.Cond.methodLink "MarkerTextLaw" (48 : Nat) ({ cls := "MarkerTextModel", name := "value", desc := "(I)I" } : Jvm.MethodName)) ∈ xT := xT_at 1366 (by decide +kernel) (by decide +kernel)
theorem xw_1368 : (Jvm.Cond.selects "MarkerTextModel" ({ cls := "MarkerTextModel", name := "value", desc := "(I)I" } : Jvm.MethodName) ({ cls := "MarkerTextModel", name := "value", desc := "(I)I" } : Jvm.MethodName)) ∈ xT := xT_at 1368 (by decide +kernel) (by decide +kernel)
theorem xcv_Law_48_Mo : xCV "MarkerTextLaw" 48 "MarkerTextModel" M_Mo_value 1 := ⟨xcb_Mo_value, xw_1367, Or.inl ⟨xw_1366, Or.inl xw_1368⟩⟩
theorem d_Law_law_218 : decode M_Law_law.2.1 218 = .ok (.istore 6, 2) := by decide +kernel
theorem d_Law_law_220 : decode M_Law_law.2.1 220 = .ok (.aload_n 2, 1) := by decide +kernel
theorem d_Law_law_221 : decode M_Law_law.2.1 221 = .ok (.invokevirtual 43, 3) := by decide +kernel
theorem d_Law_law_224 : decode M_Law_law.2.1 224 = .ok (.iload 5, 2) := by decide +kernel
theorem d_Law_law_226 : decode M_Law_law.2.1 226 = .ok (.if_icmp .eq 5, 3) := by decide +kernel
theorem d_Law_law_231 : decode M_Law_law.2.1 231 = .ok (.iload 5, 2) := by decide +kernel
theorem d_Law_law_233 : decode M_Law_law.2.1 233 = .ok (.ifCond .ne 15, 3) := by decide +kernel
theorem d_Law_law_248 : decode M_Law_law.2.1 248 = .ok (.goto 381, 3) := by decide +kernel
theorem d_Law_law_251 : decode M_Law_law.2.1 251 = .ok (.aload_n 1, 1) := by decide +kernel
theorem d_Law_law_252 : decode M_Law_law.2.1 252 = .ok (.aload_n 3, 1) := by decide +kernel
theorem d_Law_law_253 : decode M_Law_law.2.1 253 = .ok (.invokestatic 49, 3) := by decide +kernel
theorem xcbw_Law_condition : xcbW M_Law_condition [((0 : Nat), (8 : Nat), (11 : Nat), (13 : Nat)), ((0 : Nat), (8 : Nat), (14 : Nat), (15 : Nat))] 2 := ⟨xw_818, xw_0, by decide, by decide, by decide, by decide +kernel⟩
theorem xw_817 : (Jvm.Cond.static ({ cls := "MarkerTextLaw", name := "condition", desc := "(LMarkerText;[J)I" } : Jvm.MethodName)) ∈ xT := xT_at 817 (by decide +kernel) (by decide +kernel)
theorem xw_816 : (Jvm.Cond.methodLink "MarkerTextLaw" (49 : Nat) ({ cls := "MarkerTextLaw", name := "condition", desc := "(LMarkerText;[J)I" } : Jvm.MethodName)) ∈ xT := xT_at 816 (by decide +kernel) (by decide +kernel)
theorem d_Law_law_256 : decode M_Law_law.2.1 256 = .ok (.istore 5, 2) := by decide +kernel
theorem d_Law_law_258 : decode M_Law_law.2.1 258 = .ok (.aload_n 2, 1) := by decide +kernel
theorem d_Law_law_259 : decode M_Law_law.2.1 259 = .ok (.invokevirtual 52, 3) := by decide +kernel
theorem xw_1398 : (Jvm.Cond.code ({ cls := "MarkerTextModel", name := "condition", desc := "()I" } : Jvm.MethodName) prog_13_method_36_code (1 : Nat) (Option.some Jvm.ClassFile.FieldType.int)) ∈ xT := xT_at 1398 (by decide +kernel) (by decide +kernel)
theorem xcb_Mo_condition : xcb M_Mo_condition 0 := ⟨xw_1398, xw_8, by decide, by decide, by decide, by decide +kernel⟩
theorem xw_1396 : (Jvm.Cond.instanceMethod ({ cls := "MarkerTextModel", name := "condition", desc := "()I" } : Jvm.MethodName)) ∈ xT := xT_at 1396 (by decide +kernel) (by decide +kernel)
theorem xw_1395 : (Jvm.Cond.methodLink "MarkerTextLaw" (52 : Nat) ({ cls := "MarkerTextModel", name := "condition", desc := "()I" } : Jvm.MethodName)) ∈ xT := xT_at 1395 (by decide +kernel) (by decide +kernel)
theorem xw_1397 : (Jvm.Cond.selects "MarkerTextModel" ({ cls := "MarkerTextModel", name := "condition", desc := "()I" } : Jvm.MethodName) ({ cls := "MarkerTextModel", name := "condition", desc := "()I" } : Jvm.MethodName)) ∈ xT := xT_at 1397 (by decide +kernel) (by decide +kernel)
theorem xcv_Law_52_Mo : xCV "MarkerTextLaw" 52 "MarkerTextModel" M_Mo_condition 0 := ⟨xcb_Mo_condition, xw_1396, Or.inl ⟨xw_1395, Or.inl xw_1397⟩⟩
theorem d_Law_law_262 : decode M_Law_law.2.1 262 = .ok (.istore 6, 2) := by decide +kernel
theorem d_Law_law_264 : decode M_Law_law.2.1 264 = .ok (.aload_n 2, 1) := by decide +kernel
theorem d_Law_law_265 : decode M_Law_law.2.1 265 = .ok (.invokevirtual 43, 3) := by decide +kernel
theorem d_Law_law_268 : decode M_Law_law.2.1 268 = .ok (.iload 5, 2) := by decide +kernel
theorem d_Law_law_270 : decode M_Law_law.2.1 270 = .ok (.if_icmp .eq 5, 3) := by decide +kernel
theorem d_Law_law_275 : decode M_Law_law.2.1 275 = .ok (.iload 5, 2) := by decide +kernel
theorem d_Law_law_277 : decode M_Law_law.2.1 277 = .ok (.ifCond .ne 15, 3) := by decide +kernel
theorem d_Law_law_292 : decode M_Law_law.2.1 292 = .ok (.goto 337, 3) := by decide +kernel
theorem d_Law_law_295 : decode M_Law_law.2.1 295 = .ok (.aload_n 1, 1) := by decide +kernel
theorem d_Law_law_296 : decode M_Law_law.2.1 296 = .ok (.invokevirtual 53, 3) := by decide +kernel
theorem xw_277 : (Jvm.Cond.code ({ cls := "MarkerText", name := "place", desc := "()I" } : Jvm.MethodName) prog_1_method_6_code (1 : Nat) (Option.some Jvm.ClassFile.FieldType.int)) ∈ xT := xT_at 277 (by decide +kernel) (by decide +kernel)
theorem xcb_MT_place : xcb M_MT_place 0 := ⟨xw_277, xw_1, by decide, by decide, by decide, by decide +kernel⟩
theorem xw_275 : (Jvm.Cond.instanceMethod ({ cls := "MarkerText", name := "place", desc := "()I" } : Jvm.MethodName)) ∈ xT := xT_at 275 (by decide +kernel) (by decide +kernel)
theorem xw_274 : (Jvm.Cond.methodLink "MarkerTextLaw" (53 : Nat) ({ cls := "MarkerText", name := "place", desc := "()I" } : Jvm.MethodName)) ∈ xT := xT_at 274 (by decide +kernel) (by decide +kernel)
theorem xw_276 : (Jvm.Cond.selects "MarkerText" ({ cls := "MarkerText", name := "place", desc := "()I" } : Jvm.MethodName) ({ cls := "MarkerText", name := "place", desc := "()I" } : Jvm.MethodName)) ∈ xT := xT_at 276 (by decide +kernel) (by decide +kernel)
theorem xcv_Law_53_MT : xCV "MarkerTextLaw" 53 "MarkerText" M_MT_place 0 := ⟨xcb_MT_place, xw_275, Or.inl ⟨xw_274, Or.inl xw_276⟩⟩
theorem d_Law_law_299 : decode M_Law_law.2.1 299 = .ok (.aload_n 2, 1) := by decide +kernel
theorem d_Law_law_300 : decode M_Law_law.2.1 300 = .ok (.invokevirtual 56, 3) := by decide +kernel
theorem xw_1478 : (Jvm.Cond.code ({ cls := "MarkerTextModel", name := "place", desc := "()I" } : Jvm.MethodName) prog_13_method_37_code (1 : Nat) (Option.some Jvm.ClassFile.FieldType.int)) ∈ xT := xT_at 1478 (by decide +kernel) (by decide +kernel)
theorem xcb_Mo_place : xcb M_Mo_place 0 := ⟨xw_1478, xw_8, by decide, by decide, by decide, by decide +kernel⟩
theorem xw_1476 : (Jvm.Cond.instanceMethod ({ cls := "MarkerTextModel", name := "place", desc := "()I" } : Jvm.MethodName)) ∈ xT := xT_at 1476 (by decide +kernel) (by decide +kernel)
theorem xw_1475 : (Jvm.Cond.methodLink "MarkerTextLaw" (56 : Nat) ({ cls := "MarkerTextModel", name := "place", desc := "()I" } : Jvm.MethodName)) ∈ xT := xT_at 1475 (by decide +kernel) (by decide +kernel)
theorem xw_1477 : (Jvm.Cond.selects "MarkerTextModel" ({ cls := "MarkerTextModel", name := "place", desc := "()I" } : Jvm.MethodName) ({ cls := "MarkerTextModel", name := "place", desc := "()I" } : Jvm.MethodName)) ∈ xT := xT_at 1477 (by decide +kernel) (by decide +kernel)
theorem xcv_Law_56_Mo : xCV "MarkerTextLaw" 56 "MarkerTextModel" M_Mo_place 0 := ⟨xcb_Mo_place, xw_1476, Or.inl ⟨xw_1475, Or.inl xw_1477⟩⟩
theorem d_Law_law_303 : decode M_Law_law.2.1 303 = .ok (.if_icmp .eq 326, 3) := by decide +kernel
theorem d_Law_law_308 : decode M_Law_law.2.1 308 = .ok (.aload_n 1, 1) := by decide +kernel
theorem d_Law_law_309 : decode M_Law_law.2.1 309 = .ok (.aload_n 0, 1) := by decide +kernel
theorem d_Law_law_310 : decode M_Law_law.2.1 310 = .ok (.iload 4, 2) := by decide +kernel
theorem d_Law_law_312 : decode M_Law_law.2.1 312 = .ok (.iconst 1, 1) := by decide +kernel
theorem d_Law_law_313 : decode M_Law_law.2.1 313 = .ok (.iadd, 1) := by decide +kernel
theorem d_Law_law_314 : decode M_Law_law.2.1 314 = .ok (.iaload, 1) := by decide +kernel
theorem d_Law_law_315 : decode M_Law_law.2.1 315 = .ok (.invokestatic 57, 3) := by decide +kernel
theorem xcbw_Law_give : xcbW M_Law_give [((0 : Nat), (5 : Nat), (8 : Nat), (13 : Nat))] 2 := ⟨xw_1158, xw_0, by decide, by decide, by decide, by decide +kernel⟩
theorem xw_1157 : (Jvm.Cond.static ({ cls := "MarkerTextLaw", name := "give", desc := "(LMarkerText;I)I" } : Jvm.MethodName)) ∈ xT := xT_at 1157 (by decide +kernel) (by decide +kernel)
theorem xw_1156 : (Jvm.Cond.methodLink "MarkerTextLaw" (57 : Nat) ({ cls := "MarkerTextLaw", name := "give", desc := "(LMarkerText;I)I" } : Jvm.MethodName)) ∈ xT := xT_at 1156 (by decide +kernel) (by decide +kernel)
theorem d_Law_law_318 : decode M_Law_law.2.1 318 = .ok (.istore 5, 2) := by decide +kernel
theorem d_Law_law_320 : decode M_Law_law.2.1 320 = .ok (.aload_n 2, 1) := by decide +kernel
theorem d_Law_law_321 : decode M_Law_law.2.1 321 = .ok (.aload_n 0, 1) := by decide +kernel
theorem d_Law_law_322 : decode M_Law_law.2.1 322 = .ok (.iload 4, 2) := by decide +kernel
theorem d_Law_law_324 : decode M_Law_law.2.1 324 = .ok (.iconst 1, 1) := by decide +kernel
theorem d_Law_law_325 : decode M_Law_law.2.1 325 = .ok (.iadd, 1) := by decide +kernel
theorem d_Law_law_326 : decode M_Law_law.2.1 326 = .ok (.iaload, 1) := by decide +kernel
theorem d_Law_law_327 : decode M_Law_law.2.1 327 = .ok (.invokevirtual 60, 3) := by decide +kernel
theorem xw_1394 : (Jvm.Cond.code ({ cls := "MarkerTextModel", name := "give", desc := "(I)V" } : Jvm.MethodName) prog_13_method_17_code (4 : Nat) (Option.none : Option Jvm.ClassFile.FieldType)) ∈ xT := xT_at 1394 (by decide +kernel) (by decide +kernel)
theorem xcb_Mo_give : xcb M_Mo_give 1 := ⟨xw_1394, xw_8, by decide, by decide, by decide, by decide +kernel⟩
theorem xw_1392 : (Jvm.Cond.instanceMethod ({ cls := "MarkerTextModel", name := "give", desc := "(I)V" } : Jvm.MethodName)) ∈ xT := xT_at 1392 (by decide +kernel) (by decide +kernel)
theorem xw_1391 : (Jvm.Cond.methodLink "MarkerTextLaw" (60 : Nat) ({ cls := "MarkerTextModel", name := "give", desc := "(I)V" } : Jvm.MethodName)) ∈ xT := xT_at 1391 (by decide +kernel) (by decide +kernel)
theorem xw_1393 : (Jvm.Cond.selects "MarkerTextModel" ({ cls := "MarkerTextModel", name := "give", desc := "(I)V" } : Jvm.MethodName) ({ cls := "MarkerTextModel", name := "give", desc := "(I)V" } : Jvm.MethodName)) ∈ xT := xT_at 1393 (by decide +kernel) (by decide +kernel)
theorem xcv_Law_60_Mo : xCV "MarkerTextLaw" 60 "MarkerTextModel" M_Mo_give 1 := ⟨xcb_Mo_give, xw_1392, Or.inl ⟨xw_1391, Or.inl xw_1393⟩⟩
theorem d_Law_law_330 : decode M_Law_law.2.1 330 = .ok (.aload_n 2, 1) := by decide +kernel
theorem d_Law_law_331 : decode M_Law_law.2.1 331 = .ok (.invokevirtual 43, 3) := by decide +kernel
theorem d_Law_law_334 : decode M_Law_law.2.1 334 = .ok (.iload 5, 2) := by decide +kernel
theorem d_Law_law_336 : decode M_Law_law.2.1 336 = .ok (.if_icmp .eq 5, 3) := by decide +kernel
theorem d_Law_law_341 : decode M_Law_law.2.1 341 = .ok (.goto 288, 3) := by decide +kernel
theorem d_Law_law_344 : decode M_Law_law.2.1 344 = .ok (.aload_n 1, 1) := by decide +kernel
theorem d_Law_law_345 : decode M_Law_law.2.1 345 = .ok (.aload_n 0, 1) := by decide +kernel
theorem d_Law_law_346 : decode M_Law_law.2.1 346 = .ok (.iload 4, 2) := by decide +kernel
theorem d_Law_law_348 : decode M_Law_law.2.1 348 = .ok (.iconst 1, 1) := by decide +kernel
theorem d_Law_law_349 : decode M_Law_law.2.1 349 = .ok (.iadd, 1) := by decide +kernel
theorem d_Law_law_350 : decode M_Law_law.2.1 350 = .ok (.iaload, 1) := by decide +kernel
theorem d_Law_law_351 : decode M_Law_law.2.1 351 = .ok (.invokevirtual 61, 3) := by decide +kernel
theorem xw_281 : (Jvm.Cond.code ({ cls := "MarkerText", name := "holds", desc := "(I)Z" } : Jvm.MethodName) prog_1_method_8_code (3 : Nat) (Option.some Jvm.ClassFile.FieldType.boolean)) ∈ xT := xT_at 281 (by decide +kernel) (by decide +kernel)
theorem xcb_MT_holds : xcb M_MT_holds 1 := ⟨xw_281, xw_1, by decide, by decide, by decide, by decide +kernel⟩
theorem xw_279 : (Jvm.Cond.instanceMethod ({ cls := "MarkerText", name := "holds", desc := "(I)Z" } : Jvm.MethodName)) ∈ xT := xT_at 279 (by decide +kernel) (by decide +kernel)
theorem xw_278 : (Jvm.Cond.methodLink "MarkerTextLaw" (61 : Nat) ({ cls := "MarkerText", name := "holds", desc := "(I)Z" } : Jvm.MethodName)) ∈ xT := xT_at 278 (by decide +kernel) (by decide +kernel)
theorem xw_280 : (Jvm.Cond.selects "MarkerText" ({ cls := "MarkerText", name := "holds", desc := "(I)Z" } : Jvm.MethodName) ({ cls := "MarkerText", name := "holds", desc := "(I)Z" } : Jvm.MethodName)) ∈ xT := xT_at 280 (by decide +kernel) (by decide +kernel)
theorem xcv_Law_61_MT : xCV "MarkerTextLaw" 61 "MarkerText" M_MT_holds 1 := ⟨xcb_MT_holds, xw_279, Or.inl ⟨xw_278, Or.inl xw_280⟩⟩
theorem d_Law_law_354 : decode M_Law_law.2.1 354 = .ok (.aload_n 2, 1) := by decide +kernel
theorem d_Law_law_355 : decode M_Law_law.2.1 355 = .ok (.aload_n 0, 1) := by decide +kernel
theorem d_Law_law_356 : decode M_Law_law.2.1 356 = .ok (.iload 4, 2) := by decide +kernel
theorem d_Law_law_358 : decode M_Law_law.2.1 358 = .ok (.iconst 1, 1) := by decide +kernel
theorem d_Law_law_359 : decode M_Law_law.2.1 359 = .ok (.iadd, 1) := by decide +kernel
theorem d_Law_law_360 : decode M_Law_law.2.1 360 = .ok (.iaload, 1) := by decide +kernel
theorem d_Law_law_361 : decode M_Law_law.2.1 361 = .ok (.invokevirtual 65, 3) := by decide +kernel
theorem xw_1482 : (Jvm.Cond.code ({ cls := "MarkerTextModel", name := "holds", desc := "(I)Z" } : Jvm.MethodName) prog_13_method_42_code (2 : Nat) (Option.some Jvm.ClassFile.FieldType.boolean)) ∈ xT := xT_at 1482 (by decide +kernel) (by decide +kernel)
theorem xcb_Mo_holds : xcb M_Mo_holds 1 := ⟨xw_1482, xw_8, by decide, by decide, by decide, by decide +kernel⟩
theorem xw_1480 : (Jvm.Cond.instanceMethod ({ cls := "MarkerTextModel", name := "holds", desc := "(I)Z" } : Jvm.MethodName)) ∈ xT := xT_at 1480 (by decide +kernel) (by decide +kernel)
theorem xw_1479 : (Jvm.Cond.methodLink "MarkerTextLaw" (65 : Nat) ({ cls := "MarkerTextModel", name := "holds", desc := "(I)Z" } : Jvm.MethodName)) ∈ xT := xT_at 1479 (by decide +kernel) (by decide +kernel)
theorem xw_1481 : (Jvm.Cond.selects "MarkerTextModel" ({ cls := "MarkerTextModel", name := "holds", desc := "(I)Z" } : Jvm.MethodName) ({ cls := "MarkerTextModel", name := "holds", desc := "(I)Z" } : Jvm.MethodName)) ∈ xT := xT_at 1481 (by decide +kernel) (by decide +kernel)
theorem xcv_Law_65_Mo : xCV "MarkerTextLaw" 65 "MarkerTextModel" M_Mo_holds 1 := ⟨xcb_Mo_holds, xw_1480, Or.inl ⟨xw_1479, Or.inl xw_1481⟩⟩
theorem d_Law_law_364 : decode M_Law_law.2.1 364 = .ok (.if_icmp .eq 265, 3) := by decide +kernel
theorem d_Law_law_369 : decode M_Law_law.2.1 369 = .ok (.aload_n 1, 1) := by decide +kernel
theorem d_Law_law_370 : decode M_Law_law.2.1 370 = .ok (.aload_n 0, 1) := by decide +kernel
theorem d_Law_law_371 : decode M_Law_law.2.1 371 = .ok (.iload 4, 2) := by decide +kernel
theorem d_Law_law_373 : decode M_Law_law.2.1 373 = .ok (.iconst 1, 1) := by decide +kernel
theorem d_Law_law_374 : decode M_Law_law.2.1 374 = .ok (.iadd, 1) := by decide +kernel
theorem d_Law_law_375 : decode M_Law_law.2.1 375 = .ok (.iaload, 1) := by decide +kernel
theorem d_Law_law_376 : decode M_Law_law.2.1 376 = .ok (.invokevirtual 66, 3) := by decide +kernel
theorem xw_309 : (Jvm.Cond.code ({ cls := "MarkerText", name := "ever", desc := "(I)I" } : Jvm.MethodName) prog_1_method_9_code (2 : Nat) (Option.some Jvm.ClassFile.FieldType.int)) ∈ xT := xT_at 309 (by decide +kernel) (by decide +kernel)
theorem xcb_MT_ever : xcb M_MT_ever 1 := ⟨xw_309, xw_1, by decide, by decide, by decide, by decide +kernel⟩
theorem xw_307 : (Jvm.Cond.instanceMethod ({ cls := "MarkerText", name := "ever", desc := "(I)I" } : Jvm.MethodName)) ∈ xT := xT_at 307 (by decide +kernel) (by decide +kernel)
theorem xw_306 : (Jvm.Cond.methodLink "MarkerTextLaw" (66 : Nat) ({ cls := "MarkerText", name := "ever", desc := "(I)I" } : Jvm.MethodName)) ∈ xT := xT_at 306 (by decide +kernel) (by decide +kernel)
theorem xw_308 : (Jvm.Cond.selects "MarkerText" ({ cls := "MarkerText", name := "ever", desc := "(I)I" } : Jvm.MethodName) ({ cls := "MarkerText", name := "ever", desc := "(I)I" } : Jvm.MethodName)) ∈ xT := xT_at 308 (by decide +kernel) (by decide +kernel)
theorem xcv_Law_66_MT : xCV "MarkerTextLaw" 66 "MarkerText" M_MT_ever 1 := ⟨xcb_MT_ever, xw_307, Or.inl ⟨xw_306, Or.inl xw_308⟩⟩
theorem d_Law_law_379 : decode M_Law_law.2.1 379 = .ok (.aload_n 2, 1) := by decide +kernel
theorem d_Law_law_380 : decode M_Law_law.2.1 380 = .ok (.aload_n 0, 1) := by decide +kernel
theorem d_Law_law_381 : decode M_Law_law.2.1 381 = .ok (.iload 4, 2) := by decide +kernel
theorem d_Law_law_383 : decode M_Law_law.2.1 383 = .ok (.iconst 1, 1) := by decide +kernel
theorem d_Law_law_384 : decode M_Law_law.2.1 384 = .ok (.iadd, 1) := by decide +kernel
theorem d_Law_law_385 : decode M_Law_law.2.1 385 = .ok (.iaload, 1) := by decide +kernel
theorem d_Law_law_386 : decode M_Law_law.2.1 386 = .ok (.invokevirtual 69, 3) := by decide +kernel
theorem xw_1501 : (Jvm.Cond.code ({ cls := "MarkerTextModel", name := "ever", desc := "(I)I" } : Jvm.MethodName) prog_13_method_51_code (2 : Nat) (Option.some Jvm.ClassFile.FieldType.int)) ∈ xT := xT_at 1501 (by decide +kernel) (by decide +kernel)
theorem xcb_Mo_ever : xcb M_Mo_ever 1 := ⟨xw_1501, xw_8, by decide, by decide, by decide, by decide +kernel⟩
theorem xw_1499 : (Jvm.Cond.instanceMethod ({ cls := "MarkerTextModel", name := "ever", desc := "(I)I" } : Jvm.MethodName)) ∈ xT := xT_at 1499 (by decide +kernel) (by decide +kernel)
theorem xw_1498 : (Jvm.Cond.methodLink "MarkerTextLaw" (69 : Nat) ({ cls := "MarkerTextModel", name := "ever", desc := "(I)I" } : Jvm.MethodName)) ∈ xT := xT_at 1498 (by decide +kernel) (by decide +kernel)
theorem xw_1500 : (Jvm.Cond.selects "MarkerTextModel" ({ cls := "MarkerTextModel", name := "ever", desc := "(I)I" } : Jvm.MethodName) ({ cls := "MarkerTextModel", name := "ever", desc := "(I)I" } : Jvm.MethodName)) ∈ xT := xT_at 1500 (by decide +kernel) (by decide +kernel)
theorem xcv_Law_69_Mo : xCV "MarkerTextLaw" 69 "MarkerTextModel" M_Mo_ever 1 := ⟨xcb_Mo_ever, xw_1499, Or.inl ⟨xw_1498, Or.inl xw_1500⟩⟩
theorem d_Law_law_389 : decode M_Law_law.2.1 389 = .ok (.if_icmp .eq 240, 3) := by decide +kernel
theorem d_Law_law_394 : decode M_Law_law.2.1 394 = .ok (.aload_n 1, 1) := by decide +kernel
theorem d_Law_law_395 : decode M_Law_law.2.1 395 = .ok (.aload_n 0, 1) := by decide +kernel
theorem d_Law_law_396 : decode M_Law_law.2.1 396 = .ok (.iload 4, 2) := by decide +kernel
theorem d_Law_law_398 : decode M_Law_law.2.1 398 = .ok (.iconst 1, 1) := by decide +kernel
theorem d_Law_law_399 : decode M_Law_law.2.1 399 = .ok (.iadd, 1) := by decide +kernel
theorem d_Law_law_400 : decode M_Law_law.2.1 400 = .ok (.iaload, 1) := by decide +kernel
theorem d_Law_law_401 : decode M_Law_law.2.1 401 = .ok (.aload_n 0, 1) := by decide +kernel
theorem d_Law_law_402 : decode M_Law_law.2.1 402 = .ok (.iload 4, 2) := by decide +kernel
theorem d_Law_law_404 : decode M_Law_law.2.1 404 = .ok (.iconst 2, 1) := by decide +kernel
theorem d_Law_law_405 : decode M_Law_law.2.1 405 = .ok (.iadd, 1) := by decide +kernel
theorem d_Law_law_406 : decode M_Law_law.2.1 406 = .ok (.iaload, 1) := by decide +kernel
theorem d_Law_law_407 : decode M_Law_law.2.1 407 = .ok (.invokevirtual 70, 3) := by decide +kernel
theorem xw_366 : (Jvm.Cond.code ({ cls := "MarkerText", name := "implies", desc := "(II)I" } : Jvm.MethodName) prog_1_method_10_code (3 : Nat) (Option.some Jvm.ClassFile.FieldType.int)) ∈ xT := xT_at 366 (by decide +kernel) (by decide +kernel)
theorem xcb_MT_implies : xcb M_MT_implies 2 := ⟨xw_366, xw_1, by decide, by decide, by decide, by decide +kernel⟩
theorem xw_364 : (Jvm.Cond.instanceMethod ({ cls := "MarkerText", name := "implies", desc := "(II)I" } : Jvm.MethodName)) ∈ xT := xT_at 364 (by decide +kernel) (by decide +kernel)
theorem xw_363 : (Jvm.Cond.methodLink "MarkerTextLaw" (70 : Nat) ({ cls := "MarkerText", name := "implies", desc := "(II)I" } : Jvm.MethodName)) ∈ xT := xT_at 363 (by decide +kernel) (by decide +kernel)
theorem xw_365 : (Jvm.Cond.selects "MarkerText" ({ cls := "MarkerText", name := "implies", desc := "(II)I" } : Jvm.MethodName) ({ cls := "MarkerText", name := "implies", desc := "(II)I" } : Jvm.MethodName)) ∈ xT := xT_at 365 (by decide +kernel) (by decide +kernel)
theorem xcv_Law_70_MT : xCV "MarkerTextLaw" 70 "MarkerText" M_MT_implies 2 := ⟨xcb_MT_implies, xw_364, Or.inl ⟨xw_363, Or.inl xw_365⟩⟩
theorem d_Law_law_410 : decode M_Law_law.2.1 410 = .ok (.aload_n 2, 1) := by decide +kernel
theorem d_Law_law_411 : decode M_Law_law.2.1 411 = .ok (.aload_n 0, 1) := by decide +kernel
theorem d_Law_law_412 : decode M_Law_law.2.1 412 = .ok (.iload 4, 2) := by decide +kernel
theorem d_Law_law_414 : decode M_Law_law.2.1 414 = .ok (.iconst 1, 1) := by decide +kernel
theorem d_Law_law_415 : decode M_Law_law.2.1 415 = .ok (.iadd, 1) := by decide +kernel
theorem d_Law_law_416 : decode M_Law_law.2.1 416 = .ok (.iaload, 1) := by decide +kernel
theorem d_Law_law_417 : decode M_Law_law.2.1 417 = .ok (.aload_n 0, 1) := by decide +kernel
theorem d_Law_law_418 : decode M_Law_law.2.1 418 = .ok (.iload 4, 2) := by decide +kernel
theorem d_Law_law_420 : decode M_Law_law.2.1 420 = .ok (.iconst 2, 1) := by decide +kernel
theorem d_Law_law_421 : decode M_Law_law.2.1 421 = .ok (.iadd, 1) := by decide +kernel
theorem d_Law_law_422 : decode M_Law_law.2.1 422 = .ok (.iaload, 1) := by decide +kernel
theorem d_Law_law_423 : decode M_Law_law.2.1 423 = .ok (.invokevirtual 74, 3) := by decide +kernel
theorem xw_1538 : (Jvm.Cond.code ({ cls := "MarkerTextModel", name := "implies", desc := "(II)I" } : Jvm.MethodName) prog_13_method_52_code (4 : Nat) (Option.some Jvm.ClassFile.FieldType.int)) ∈ xT := xT_at 1538 (by decide +kernel) (by decide +kernel)
theorem xcb_Mo_implies : xcb M_Mo_implies 2 := ⟨xw_1538, xw_8, by decide, by decide, by decide, by decide +kernel⟩
theorem xw_1536 : (Jvm.Cond.instanceMethod ({ cls := "MarkerTextModel", name := "implies", desc := "(II)I" } : Jvm.MethodName)) ∈ xT := xT_at 1536 (by decide +kernel) (by decide +kernel)
theorem xw_1535 : (Jvm.Cond.methodLink "MarkerTextLaw" (74 : Nat) ({ cls := "MarkerTextModel", name := "implies", desc := "(II)I" } : Jvm.MethodName)) ∈ xT := xT_at 1535 (by decide +kernel) (by decide +kernel)
theorem xw_1537 : (Jvm.Cond.selects "MarkerTextModel" ({ cls := "MarkerTextModel", name := "implies", desc := "(II)I" } : Jvm.MethodName) ({ cls := "MarkerTextModel", name := "implies", desc := "(II)I" } : Jvm.MethodName)) ∈ xT := xT_at 1537 (by decide +kernel) (by decide +kernel)
theorem xcv_Law_74_Mo : xCV "MarkerTextLaw" 74 "MarkerTextModel" M_Mo_implies 2 := ⟨xcb_Mo_implies, xw_1536, Or.inl ⟨xw_1535, Or.inl xw_1537⟩⟩
theorem d_Law_law_426 : decode M_Law_law.2.1 426 = .ok (.if_icmp .eq 203, 3) := by decide +kernel
theorem d_Law_law_431 : decode M_Law_law.2.1 431 = .ok (.aload_n 1, 1) := by decide +kernel
theorem d_Law_law_432 : decode M_Law_law.2.1 432 = .ok (.aload_n 0, 1) := by decide +kernel
theorem d_Law_law_433 : decode M_Law_law.2.1 433 = .ok (.iload 4, 2) := by decide +kernel
theorem d_Law_law_435 : decode M_Law_law.2.1 435 = .ok (.iconst 1, 1) := by decide +kernel
theorem d_Law_law_436 : decode M_Law_law.2.1 436 = .ok (.iadd, 1) := by decide +kernel
theorem d_Law_law_437 : decode M_Law_law.2.1 437 = .ok (.iaload, 1) := by decide +kernel
theorem d_Law_law_438 : decode M_Law_law.2.1 438 = .ok (.aload_n 0, 1) := by decide +kernel
theorem d_Law_law_439 : decode M_Law_law.2.1 439 = .ok (.iload 4, 2) := by decide +kernel
theorem d_Law_law_441 : decode M_Law_law.2.1 441 = .ok (.iconst 2, 1) := by decide +kernel
theorem d_Law_law_442 : decode M_Law_law.2.1 442 = .ok (.iadd, 1) := by decide +kernel
theorem d_Law_law_443 : decode M_Law_law.2.1 443 = .ok (.iaload, 1) := by decide +kernel
theorem d_Law_law_444 : decode M_Law_law.2.1 444 = .ok (.invokevirtual 75, 3) := by decide +kernel
theorem xw_373 : (Jvm.Cond.code ({ cls := "MarkerText", name := "apart", desc := "(II)I" } : Jvm.MethodName) prog_1_method_11_code (3 : Nat) (Option.some Jvm.ClassFile.FieldType.int)) ∈ xT := xT_at 373 (by decide +kernel) (by decide +kernel)
theorem xcb_MT_apart : xcb M_MT_apart 2 := ⟨xw_373, xw_1, by decide, by decide, by decide, by decide +kernel⟩
theorem xw_371 : (Jvm.Cond.instanceMethod ({ cls := "MarkerText", name := "apart", desc := "(II)I" } : Jvm.MethodName)) ∈ xT := xT_at 371 (by decide +kernel) (by decide +kernel)
theorem xw_370 : (Jvm.Cond.methodLink "MarkerTextLaw" (75 : Nat) ({ cls := "MarkerText", name := "apart", desc := "(II)I" } : Jvm.MethodName)) ∈ xT := xT_at 370 (by decide +kernel) (by decide +kernel)
theorem xw_372 : (Jvm.Cond.selects "MarkerText" ({ cls := "MarkerText", name := "apart", desc := "(II)I" } : Jvm.MethodName) ({ cls := "MarkerText", name := "apart", desc := "(II)I" } : Jvm.MethodName)) ∈ xT := xT_at 372 (by decide +kernel) (by decide +kernel)
theorem xcv_Law_75_MT : xCV "MarkerTextLaw" 75 "MarkerText" M_MT_apart 2 := ⟨xcb_MT_apart, xw_371, Or.inl ⟨xw_370, Or.inl xw_372⟩⟩
theorem d_Law_law_447 : decode M_Law_law.2.1 447 = .ok (.aload_n 2, 1) := by decide +kernel
theorem d_Law_law_448 : decode M_Law_law.2.1 448 = .ok (.aload_n 0, 1) := by decide +kernel
theorem d_Law_law_449 : decode M_Law_law.2.1 449 = .ok (.iload 4, 2) := by decide +kernel
theorem d_Law_law_451 : decode M_Law_law.2.1 451 = .ok (.iconst 1, 1) := by decide +kernel
theorem d_Law_law_452 : decode M_Law_law.2.1 452 = .ok (.iadd, 1) := by decide +kernel
theorem d_Law_law_453 : decode M_Law_law.2.1 453 = .ok (.iaload, 1) := by decide +kernel
theorem d_Law_law_454 : decode M_Law_law.2.1 454 = .ok (.aload_n 0, 1) := by decide +kernel
theorem d_Law_law_455 : decode M_Law_law.2.1 455 = .ok (.iload 4, 2) := by decide +kernel
theorem d_Law_law_457 : decode M_Law_law.2.1 457 = .ok (.iconst 2, 1) := by decide +kernel
theorem d_Law_law_458 : decode M_Law_law.2.1 458 = .ok (.iadd, 1) := by decide +kernel
theorem d_Law_law_459 : decode M_Law_law.2.1 459 = .ok (.iaload, 1) := by decide +kernel
theorem d_Law_law_460 : decode M_Law_law.2.1 460 = .ok (.invokevirtual 78, 3) := by decide +kernel
theorem xw_1542 : (Jvm.Cond.code ({ cls := "MarkerTextModel", name := "apart", desc := "(II)I" } : Jvm.MethodName) prog_13_method_53_code (4 : Nat) (Option.some Jvm.ClassFile.FieldType.int)) ∈ xT := xT_at 1542 (by decide +kernel) (by decide +kernel)
theorem xcb_Mo_apart : xcb M_Mo_apart 2 := ⟨xw_1542, xw_8, by decide, by decide, by decide, by decide +kernel⟩
theorem xw_1540 : (Jvm.Cond.instanceMethod ({ cls := "MarkerTextModel", name := "apart", desc := "(II)I" } : Jvm.MethodName)) ∈ xT := xT_at 1540 (by decide +kernel) (by decide +kernel)
theorem xw_1539 : (Jvm.Cond.methodLink "MarkerTextLaw" (78 : Nat) ({ cls := "MarkerTextModel", name := "apart", desc := "(II)I" } : Jvm.MethodName)) ∈ xT := xT_at 1539 (by decide +kernel) (by decide +kernel)
theorem xw_1541 : (Jvm.Cond.selects "MarkerTextModel" ({ cls := "MarkerTextModel", name := "apart", desc := "(II)I" } : Jvm.MethodName) ({ cls := "MarkerTextModel", name := "apart", desc := "(II)I" } : Jvm.MethodName)) ∈ xT := xT_at 1541 (by decide +kernel) (by decide +kernel)
theorem xcv_Law_78_Mo : xCV "MarkerTextLaw" 78 "MarkerTextModel" M_Mo_apart 2 := ⟨xcb_Mo_apart, xw_1540, Or.inl ⟨xw_1539, Or.inl xw_1541⟩⟩
theorem d_Law_law_463 : decode M_Law_law.2.1 463 = .ok (.if_icmp .eq 166, 3) := by decide +kernel
theorem d_Law_law_468 : decode M_Law_law.2.1 468 = .ok (.aload_n 1, 1) := by decide +kernel
theorem d_Law_law_469 : decode M_Law_law.2.1 469 = .ok (.aload_n 0, 1) := by decide +kernel
theorem d_Law_law_470 : decode M_Law_law.2.1 470 = .ok (.iload 4, 2) := by decide +kernel
theorem d_Law_law_472 : decode M_Law_law.2.1 472 = .ok (.iconst 1, 1) := by decide +kernel
theorem d_Law_law_473 : decode M_Law_law.2.1 473 = .ok (.iadd, 1) := by decide +kernel
theorem d_Law_law_474 : decode M_Law_law.2.1 474 = .ok (.iaload, 1) := by decide +kernel
theorem d_Law_law_475 : decode M_Law_law.2.1 475 = .ok (.invokevirtual 79, 3) := by decide +kernel
theorem xw_377 : (Jvm.Cond.code ({ cls := "MarkerText", name := "classes", desc := "(I)I" } : Jvm.MethodName) prog_1_method_12_code (3 : Nat) (Option.some Jvm.ClassFile.FieldType.int)) ∈ xT := xT_at 377 (by decide +kernel) (by decide +kernel)
theorem xcb_MT_classes : xcb M_MT_classes 1 := ⟨xw_377, xw_1, by decide, by decide, by decide, by decide +kernel⟩
theorem xw_375 : (Jvm.Cond.instanceMethod ({ cls := "MarkerText", name := "classes", desc := "(I)I" } : Jvm.MethodName)) ∈ xT := xT_at 375 (by decide +kernel) (by decide +kernel)
theorem xw_374 : (Jvm.Cond.methodLink "MarkerTextLaw" (79 : Nat) ({ cls := "MarkerText", name := "classes", desc := "(I)I" } : Jvm.MethodName)) ∈ xT := xT_at 374 (by decide +kernel) (by decide +kernel)
theorem xw_376 : (Jvm.Cond.selects "MarkerText" ({ cls := "MarkerText", name := "classes", desc := "(I)I" } : Jvm.MethodName) ({ cls := "MarkerText", name := "classes", desc := "(I)I" } : Jvm.MethodName)) ∈ xT := xT_at 376 (by decide +kernel) (by decide +kernel)
theorem xcv_Law_79_MT : xCV "MarkerTextLaw" 79 "MarkerText" M_MT_classes 1 := ⟨xcb_MT_classes, xw_375, Or.inl ⟨xw_374, Or.inl xw_376⟩⟩
theorem d_Law_law_478 : decode M_Law_law.2.1 478 = .ok (.aload_n 2, 1) := by decide +kernel
theorem d_Law_law_479 : decode M_Law_law.2.1 479 = .ok (.aload_n 0, 1) := by decide +kernel
theorem d_Law_law_480 : decode M_Law_law.2.1 480 = .ok (.iload 4, 2) := by decide +kernel
theorem d_Law_law_482 : decode M_Law_law.2.1 482 = .ok (.iconst 1, 1) := by decide +kernel
theorem d_Law_law_483 : decode M_Law_law.2.1 483 = .ok (.iadd, 1) := by decide +kernel
theorem d_Law_law_484 : decode M_Law_law.2.1 484 = .ok (.iaload, 1) := by decide +kernel
theorem d_Law_law_485 : decode M_Law_law.2.1 485 = .ok (.invokevirtual 82, 3) := by decide +kernel
theorem xw_1546 : (Jvm.Cond.code ({ cls := "MarkerTextModel", name := "classes", desc := "(I)I" } : Jvm.MethodName) prog_13_method_54_code (7 : Nat) (Option.some Jvm.ClassFile.FieldType.int)) ∈ xT := xT_at 1546 (by decide +kernel) (by decide +kernel)
theorem xcb_Mo_classes : xcb M_Mo_classes 1 := ⟨xw_1546, xw_8, by decide, by decide, by decide, by decide +kernel⟩
theorem xw_1544 : (Jvm.Cond.instanceMethod ({ cls := "MarkerTextModel", name := "classes", desc := "(I)I" } : Jvm.MethodName)) ∈ xT := xT_at 1544 (by decide +kernel) (by decide +kernel)
theorem xw_1543 : (Jvm.Cond.methodLink "MarkerTextLaw" (82 : Nat) ({ cls := "MarkerTextModel", name := "classes", desc := "(I)I" } : Jvm.MethodName)) ∈ xT := xT_at 1543 (by decide +kernel) (by decide +kernel)
theorem xw_1545 : (Jvm.Cond.selects "MarkerTextModel" ({ cls := "MarkerTextModel", name := "classes", desc := "(I)I" } : Jvm.MethodName) ({ cls := "MarkerTextModel", name := "classes", desc := "(I)I" } : Jvm.MethodName)) ∈ xT := xT_at 1545 (by decide +kernel) (by decide +kernel)
theorem xcv_Law_82_Mo : xCV "MarkerTextLaw" 82 "MarkerTextModel" M_Mo_classes 1 := ⟨xcb_Mo_classes, xw_1544, Or.inl ⟨xw_1543, Or.inl xw_1545⟩⟩
theorem d_Law_law_488 : decode M_Law_law.2.1 488 = .ok (.if_icmp .eq 141, 3) := by decide +kernel
theorem d_Law_law_493 : decode M_Law_law.2.1 493 = .ok (.aload_n 1, 1) := by decide +kernel
theorem d_Law_law_494 : decode M_Law_law.2.1 494 = .ok (.aload_n 0, 1) := by decide +kernel
theorem d_Law_law_495 : decode M_Law_law.2.1 495 = .ok (.iload 4, 2) := by decide +kernel
theorem d_Law_law_497 : decode M_Law_law.2.1 497 = .ok (.iconst 1, 1) := by decide +kernel
theorem d_Law_law_498 : decode M_Law_law.2.1 498 = .ok (.iadd, 1) := by decide +kernel
theorem d_Law_law_499 : decode M_Law_law.2.1 499 = .ok (.iaload, 1) := by decide +kernel
theorem d_Law_law_500 : decode M_Law_law.2.1 500 = .ok (.invokevirtual 83, 3) := by decide +kernel
theorem xw_399 : (Jvm.Cond.code ({ cls := "MarkerText", name := "many", desc := "(I)I" } : Jvm.MethodName) prog_1_method_13_code (2 : Nat) (Option.some Jvm.ClassFile.FieldType.int)) ∈ xT := xT_at 399 (by decide +kernel) (by decide +kernel)
theorem xcb_MT_many : xcb M_MT_many 1 := ⟨xw_399, xw_1, by decide, by decide, by decide, by decide +kernel⟩
theorem xw_397 : (Jvm.Cond.instanceMethod ({ cls := "MarkerText", name := "many", desc := "(I)I" } : Jvm.MethodName)) ∈ xT := xT_at 397 (by decide +kernel) (by decide +kernel)
theorem xw_396 : (Jvm.Cond.methodLink "MarkerTextLaw" (83 : Nat) ({ cls := "MarkerText", name := "many", desc := "(I)I" } : Jvm.MethodName)) ∈ xT := xT_at 396 (by decide +kernel) (by decide +kernel)
theorem xw_398 : (Jvm.Cond.selects "MarkerText" ({ cls := "MarkerText", name := "many", desc := "(I)I" } : Jvm.MethodName) ({ cls := "MarkerText", name := "many", desc := "(I)I" } : Jvm.MethodName)) ∈ xT := xT_at 398 (by decide +kernel) (by decide +kernel)
theorem xcv_Law_83_MT : xCV "MarkerTextLaw" 83 "MarkerText" M_MT_many 1 := ⟨xcb_MT_many, xw_397, Or.inl ⟨xw_396, Or.inl xw_398⟩⟩
theorem d_Law_law_503 : decode M_Law_law.2.1 503 = .ok (.aload_n 2, 1) := by decide +kernel
theorem d_Law_law_504 : decode M_Law_law.2.1 504 = .ok (.aload_n 0, 1) := by decide +kernel
theorem d_Law_law_505 : decode M_Law_law.2.1 505 = .ok (.iload 4, 2) := by decide +kernel
theorem d_Law_law_507 : decode M_Law_law.2.1 507 = .ok (.iconst 1, 1) := by decide +kernel
theorem d_Law_law_508 : decode M_Law_law.2.1 508 = .ok (.iadd, 1) := by decide +kernel
theorem d_Law_law_509 : decode M_Law_law.2.1 509 = .ok (.iaload, 1) := by decide +kernel
theorem d_Law_law_510 : decode M_Law_law.2.1 510 = .ok (.invokevirtual 86, 3) := by decide +kernel
theorem xw_1550 : (Jvm.Cond.code ({ cls := "MarkerTextModel", name := "many", desc := "(I)I" } : Jvm.MethodName) prog_13_method_55_code (2 : Nat) (Option.some Jvm.ClassFile.FieldType.int)) ∈ xT := xT_at 1550 (by decide +kernel) (by decide +kernel)
theorem xcb_Mo_many : xcb M_Mo_many 1 := ⟨xw_1550, xw_8, by decide, by decide, by decide, by decide +kernel⟩
theorem xw_1548 : (Jvm.Cond.instanceMethod ({ cls := "MarkerTextModel", name := "many", desc := "(I)I" } : Jvm.MethodName)) ∈ xT := xT_at 1548 (by decide +kernel) (by decide +kernel)
theorem xw_1547 : (Jvm.Cond.methodLink "MarkerTextLaw" (86 : Nat) ({ cls := "MarkerTextModel", name := "many", desc := "(I)I" } : Jvm.MethodName)) ∈ xT := xT_at 1547 (by decide +kernel) (by decide +kernel)
theorem xw_1549 : (Jvm.Cond.selects "MarkerTextModel" ({ cls := "MarkerTextModel", name := "many", desc := "(I)I" } : Jvm.MethodName) ({ cls := "MarkerTextModel", name := "many", desc := "(I)I" } : Jvm.MethodName)) ∈ xT := xT_at 1549 (by decide +kernel) (by decide +kernel)
theorem xcv_Law_86_Mo : xCV "MarkerTextLaw" 86 "MarkerTextModel" M_Mo_many 1 := ⟨xcb_Mo_many, xw_1548, Or.inl ⟨xw_1547, Or.inl xw_1549⟩⟩
theorem d_Law_law_513 : decode M_Law_law.2.1 513 = .ok (.if_icmp .eq 116, 3) := by decide +kernel
theorem d_Law_law_518 : decode M_Law_law.2.1 518 = .ok (.aload_n 1, 1) := by decide +kernel
theorem d_Law_law_519 : decode M_Law_law.2.1 519 = .ok (.aload_n 0, 1) := by decide +kernel
theorem d_Law_law_520 : decode M_Law_law.2.1 520 = .ok (.iload 4, 2) := by decide +kernel
theorem d_Law_law_522 : decode M_Law_law.2.1 522 = .ok (.iconst 1, 1) := by decide +kernel
theorem d_Law_law_523 : decode M_Law_law.2.1 523 = .ok (.iadd, 1) := by decide +kernel
theorem d_Law_law_524 : decode M_Law_law.2.1 524 = .ok (.iaload, 1) := by decide +kernel
theorem d_Law_law_525 : decode M_Law_law.2.1 525 = .ok (.aload_n 0, 1) := by decide +kernel
theorem d_Law_law_526 : decode M_Law_law.2.1 526 = .ok (.iload 4, 2) := by decide +kernel
theorem d_Law_law_528 : decode M_Law_law.2.1 528 = .ok (.iconst 2, 1) := by decide +kernel
theorem d_Law_law_529 : decode M_Law_law.2.1 529 = .ok (.iadd, 1) := by decide +kernel
theorem d_Law_law_530 : decode M_Law_law.2.1 530 = .ok (.iaload, 1) := by decide +kernel
theorem d_Law_law_531 : decode M_Law_law.2.1 531 = .ok (.invokevirtual 87, 3) := by decide +kernel
theorem xw_404 : (Jvm.Cond.code ({ cls := "MarkerText", name := "inClass", desc := "(II)Z" } : Jvm.MethodName) prog_1_method_14_code (3 : Nat) (Option.some Jvm.ClassFile.FieldType.boolean)) ∈ xT := xT_at 404 (by decide +kernel) (by decide +kernel)
theorem xcb_MT_inClass : xcb M_MT_inClass 2 := ⟨xw_404, xw_1, by decide, by decide, by decide, by decide +kernel⟩
theorem xw_402 : (Jvm.Cond.instanceMethod ({ cls := "MarkerText", name := "inClass", desc := "(II)Z" } : Jvm.MethodName)) ∈ xT := xT_at 402 (by decide +kernel) (by decide +kernel)
theorem xw_401 : (Jvm.Cond.methodLink "MarkerTextLaw" (87 : Nat) ({ cls := "MarkerText", name := "inClass", desc := "(II)Z" } : Jvm.MethodName)) ∈ xT := xT_at 401 (by decide +kernel) (by decide +kernel)
theorem xw_403 : (Jvm.Cond.selects "MarkerText" ({ cls := "MarkerText", name := "inClass", desc := "(II)Z" } : Jvm.MethodName) ({ cls := "MarkerText", name := "inClass", desc := "(II)Z" } : Jvm.MethodName)) ∈ xT := xT_at 403 (by decide +kernel) (by decide +kernel)
theorem xcv_Law_87_MT : xCV "MarkerTextLaw" 87 "MarkerText" M_MT_inClass 2 := ⟨xcb_MT_inClass, xw_402, Or.inl ⟨xw_401, Or.inl xw_403⟩⟩
theorem d_Law_law_534 : decode M_Law_law.2.1 534 = .ok (.aload_n 2, 1) := by decide +kernel
theorem d_Law_law_535 : decode M_Law_law.2.1 535 = .ok (.aload_n 0, 1) := by decide +kernel
theorem d_Law_law_536 : decode M_Law_law.2.1 536 = .ok (.iload 4, 2) := by decide +kernel
theorem d_Law_law_538 : decode M_Law_law.2.1 538 = .ok (.iconst 1, 1) := by decide +kernel
theorem d_Law_law_539 : decode M_Law_law.2.1 539 = .ok (.iadd, 1) := by decide +kernel
theorem d_Law_law_540 : decode M_Law_law.2.1 540 = .ok (.iaload, 1) := by decide +kernel
theorem d_Law_law_541 : decode M_Law_law.2.1 541 = .ok (.aload_n 0, 1) := by decide +kernel
theorem d_Law_law_542 : decode M_Law_law.2.1 542 = .ok (.iload 4, 2) := by decide +kernel
theorem d_Law_law_544 : decode M_Law_law.2.1 544 = .ok (.iconst 2, 1) := by decide +kernel
theorem d_Law_law_545 : decode M_Law_law.2.1 545 = .ok (.iadd, 1) := by decide +kernel
theorem d_Law_law_546 : decode M_Law_law.2.1 546 = .ok (.iaload, 1) := by decide +kernel
theorem d_Law_law_547 : decode M_Law_law.2.1 547 = .ok (.invokevirtual 91, 3) := by decide +kernel
theorem xw_1554 : (Jvm.Cond.code ({ cls := "MarkerTextModel", name := "inClass", desc := "(II)Z" } : Jvm.MethodName) prog_13_method_56_code (3 : Nat) (Option.some Jvm.ClassFile.FieldType.boolean)) ∈ xT := xT_at 1554 (by decide +kernel) (by decide +kernel)
theorem xcb_Mo_inClass : xcb M_Mo_inClass 2 := ⟨xw_1554, xw_8, by decide, by decide, by decide, by decide +kernel⟩
theorem xw_1552 : (Jvm.Cond.instanceMethod ({ cls := "MarkerTextModel", name := "inClass", desc := "(II)Z" } : Jvm.MethodName)) ∈ xT := xT_at 1552 (by decide +kernel) (by decide +kernel)
theorem xw_1551 : (Jvm.Cond.methodLink "MarkerTextLaw" (91 : Nat) ({ cls := "MarkerTextModel", name := "inClass", desc := "(II)Z" } : Jvm.MethodName)) ∈ xT := xT_at 1551 (by decide +kernel) (by decide +kernel)
theorem xw_1553 : (Jvm.Cond.selects "MarkerTextModel" ({ cls := "MarkerTextModel", name := "inClass", desc := "(II)Z" } : Jvm.MethodName) ({ cls := "MarkerTextModel", name := "inClass", desc := "(II)Z" } : Jvm.MethodName)) ∈ xT := xT_at 1553 (by decide +kernel) (by decide +kernel)
theorem xcv_Law_91_Mo : xCV "MarkerTextLaw" 91 "MarkerTextModel" M_Mo_inClass 2 := ⟨xcb_Mo_inClass, xw_1552, Or.inl ⟨xw_1551, Or.inl xw_1553⟩⟩
theorem d_Law_law_550 : decode M_Law_law.2.1 550 = .ok (.if_icmp .eq 79, 3) := by decide +kernel
theorem d_Law_law_555 : decode M_Law_law.2.1 555 = .ok (.aload_n 1, 1) := by decide +kernel
theorem d_Law_law_556 : decode M_Law_law.2.1 556 = .ok (.aload_n 0, 1) := by decide +kernel
theorem d_Law_law_557 : decode M_Law_law.2.1 557 = .ok (.iload 4, 2) := by decide +kernel
theorem d_Law_law_559 : decode M_Law_law.2.1 559 = .ok (.iconst 1, 1) := by decide +kernel
theorem d_Law_law_560 : decode M_Law_law.2.1 560 = .ok (.iadd, 1) := by decide +kernel
theorem d_Law_law_561 : decode M_Law_law.2.1 561 = .ok (.iaload, 1) := by decide +kernel
theorem d_Law_law_562 : decode M_Law_law.2.1 562 = .ok (.aload_n 0, 1) := by decide +kernel
theorem d_Law_law_563 : decode M_Law_law.2.1 563 = .ok (.iload 4, 2) := by decide +kernel
theorem d_Law_law_565 : decode M_Law_law.2.1 565 = .ok (.iconst 2, 1) := by decide +kernel
theorem d_Law_law_566 : decode M_Law_law.2.1 566 = .ok (.iadd, 1) := by decide +kernel
theorem d_Law_law_567 : decode M_Law_law.2.1 567 = .ok (.iaload, 1) := by decide +kernel
theorem d_Law_law_568 : decode M_Law_law.2.1 568 = .ok (.invokevirtual 92, 3) := by decide +kernel
theorem xw_408 : (Jvm.Cond.code ({ cls := "MarkerText", name := "sample", desc := "(II)I" } : Jvm.MethodName) prog_1_method_15_code (3 : Nat) (Option.some Jvm.ClassFile.FieldType.int)) ∈ xT := xT_at 408 (by decide +kernel) (by decide +kernel)
theorem xcb_MT_sample : xcb M_MT_sample 2 := ⟨xw_408, xw_1, by decide, by decide, by decide, by decide +kernel⟩
theorem xw_406 : (Jvm.Cond.instanceMethod ({ cls := "MarkerText", name := "sample", desc := "(II)I" } : Jvm.MethodName)) ∈ xT := xT_at 406 (by decide +kernel) (by decide +kernel)
theorem xw_405 : (Jvm.Cond.methodLink "MarkerTextLaw" (92 : Nat) ({ cls := "MarkerText", name := "sample", desc := "(II)I" } : Jvm.MethodName)) ∈ xT := xT_at 405 (by decide +kernel) (by decide +kernel)
theorem xw_407 : (Jvm.Cond.selects "MarkerText" ({ cls := "MarkerText", name := "sample", desc := "(II)I" } : Jvm.MethodName) ({ cls := "MarkerText", name := "sample", desc := "(II)I" } : Jvm.MethodName)) ∈ xT := xT_at 407 (by decide +kernel) (by decide +kernel)
theorem xcv_Law_92_MT : xCV "MarkerTextLaw" 92 "MarkerText" M_MT_sample 2 := ⟨xcb_MT_sample, xw_406, Or.inl ⟨xw_405, Or.inl xw_407⟩⟩
theorem d_Law_law_571 : decode M_Law_law.2.1 571 = .ok (.aload_n 2, 1) := by decide +kernel
theorem d_Law_law_572 : decode M_Law_law.2.1 572 = .ok (.aload_n 0, 1) := by decide +kernel
theorem d_Law_law_573 : decode M_Law_law.2.1 573 = .ok (.iload 4, 2) := by decide +kernel
theorem d_Law_law_575 : decode M_Law_law.2.1 575 = .ok (.iconst 1, 1) := by decide +kernel
theorem d_Law_law_576 : decode M_Law_law.2.1 576 = .ok (.iadd, 1) := by decide +kernel
theorem d_Law_law_577 : decode M_Law_law.2.1 577 = .ok (.iaload, 1) := by decide +kernel
theorem d_Law_law_578 : decode M_Law_law.2.1 578 = .ok (.aload_n 0, 1) := by decide +kernel
theorem d_Law_law_579 : decode M_Law_law.2.1 579 = .ok (.iload 4, 2) := by decide +kernel
theorem d_Law_law_581 : decode M_Law_law.2.1 581 = .ok (.iconst 2, 1) := by decide +kernel
theorem d_Law_law_582 : decode M_Law_law.2.1 582 = .ok (.iadd, 1) := by decide +kernel
theorem d_Law_law_583 : decode M_Law_law.2.1 583 = .ok (.iaload, 1) := by decide +kernel
theorem d_Law_law_584 : decode M_Law_law.2.1 584 = .ok (.invokevirtual 95, 3) := by decide +kernel
theorem xw_1558 : (Jvm.Cond.code ({ cls := "MarkerTextModel", name := "sample", desc := "(II)I" } : Jvm.MethodName) prog_13_method_57_code (3 : Nat) (Option.some Jvm.ClassFile.FieldType.int)) ∈ xT := xT_at 1558 (by decide +kernel) (by decide +kernel)
theorem xcb_Mo_sample : xcb M_Mo_sample 2 := ⟨xw_1558, xw_8, by decide, by decide, by decide, by decide +kernel⟩
theorem xw_1556 : (Jvm.Cond.instanceMethod ({ cls := "MarkerTextModel", name := "sample", desc := "(II)I" } : Jvm.MethodName)) ∈ xT := xT_at 1556 (by decide +kernel) (by decide +kernel)
theorem xw_1555 : (Jvm.Cond.methodLink "MarkerTextLaw" (95 : Nat) ({ cls := "MarkerTextModel", name := "sample", desc := "(II)I" } : Jvm.MethodName)) ∈ xT := xT_at 1555 (by decide +kernel) (by decide +kernel)
theorem xw_1557 : (Jvm.Cond.selects "MarkerTextModel" ({ cls := "MarkerTextModel", name := "sample", desc := "(II)I" } : Jvm.MethodName) ({ cls := "MarkerTextModel", name := "sample", desc := "(II)I" } : Jvm.MethodName)) ∈ xT := xT_at 1557 (by decide +kernel) (by decide +kernel)
theorem xcv_Law_95_Mo : xCV "MarkerTextLaw" 95 "MarkerTextModel" M_Mo_sample 2 := ⟨xcb_Mo_sample, xw_1556, Or.inl ⟨xw_1555, Or.inl xw_1557⟩⟩
theorem d_Law_law_587 : decode M_Law_law.2.1 587 = .ok (.if_icmp .eq 42, 3) := by decide +kernel
theorem d_Law_law_592 : decode M_Law_law.2.1 592 = .ok (.aload_n 1, 1) := by decide +kernel
theorem d_Law_law_593 : decode M_Law_law.2.1 593 = .ok (.aload_n 0, 1) := by decide +kernel
theorem d_Law_law_594 : decode M_Law_law.2.1 594 = .ok (.iload 4, 2) := by decide +kernel
theorem d_Law_law_596 : decode M_Law_law.2.1 596 = .ok (.iconst 1, 1) := by decide +kernel
theorem d_Law_law_597 : decode M_Law_law.2.1 597 = .ok (.iadd, 1) := by decide +kernel
theorem d_Law_law_598 : decode M_Law_law.2.1 598 = .ok (.iaload, 1) := by decide +kernel
theorem d_Law_law_599 : decode M_Law_law.2.1 599 = .ok (.aload_n 0, 1) := by decide +kernel
theorem d_Law_law_600 : decode M_Law_law.2.1 600 = .ok (.iload 4, 2) := by decide +kernel
theorem d_Law_law_602 : decode M_Law_law.2.1 602 = .ok (.iconst 2, 1) := by decide +kernel
theorem d_Law_law_603 : decode M_Law_law.2.1 603 = .ok (.iadd, 1) := by decide +kernel
theorem d_Law_law_604 : decode M_Law_law.2.1 604 = .ok (.iaload, 1) := by decide +kernel
theorem d_Law_law_605 : decode M_Law_law.2.1 605 = .ok (.invokevirtual 96, 3) := by decide +kernel
theorem xw_420 : (Jvm.Cond.code ({ cls := "MarkerText", name := "printed", desc := "(II)I" } : Jvm.MethodName) prog_1_method_16_code (4 : Nat) (Option.some Jvm.ClassFile.FieldType.int)) ∈ xT := xT_at 420 (by decide +kernel) (by decide +kernel)
theorem xcb_MT_printed : xcb M_MT_printed 2 := ⟨xw_420, xw_1, by decide, by decide, by decide, by decide +kernel⟩
theorem xw_418 : (Jvm.Cond.instanceMethod ({ cls := "MarkerText", name := "printed", desc := "(II)I" } : Jvm.MethodName)) ∈ xT := xT_at 418 (by decide +kernel) (by decide +kernel)
theorem xw_417 : (Jvm.Cond.methodLink "MarkerTextLaw" (96 : Nat) ({ cls := "MarkerText", name := "printed", desc := "(II)I" } : Jvm.MethodName)) ∈ xT := xT_at 417 (by decide +kernel) (by decide +kernel)
theorem xw_419 : (Jvm.Cond.selects "MarkerText" ({ cls := "MarkerText", name := "printed", desc := "(II)I" } : Jvm.MethodName) ({ cls := "MarkerText", name := "printed", desc := "(II)I" } : Jvm.MethodName)) ∈ xT := xT_at 419 (by decide +kernel) (by decide +kernel)
theorem xcv_Law_96_MT : xCV "MarkerTextLaw" 96 "MarkerText" M_MT_printed 2 := ⟨xcb_MT_printed, xw_418, Or.inl ⟨xw_417, Or.inl xw_419⟩⟩
theorem d_Law_law_608 : decode M_Law_law.2.1 608 = .ok (.aload_n 2, 1) := by decide +kernel
theorem d_Law_law_609 : decode M_Law_law.2.1 609 = .ok (.aload_n 0, 1) := by decide +kernel
theorem d_Law_law_610 : decode M_Law_law.2.1 610 = .ok (.iload 4, 2) := by decide +kernel
theorem d_Law_law_612 : decode M_Law_law.2.1 612 = .ok (.iconst 1, 1) := by decide +kernel
theorem d_Law_law_613 : decode M_Law_law.2.1 613 = .ok (.iadd, 1) := by decide +kernel
theorem d_Law_law_614 : decode M_Law_law.2.1 614 = .ok (.iaload, 1) := by decide +kernel
theorem d_Law_law_615 : decode M_Law_law.2.1 615 = .ok (.aload_n 0, 1) := by decide +kernel
theorem d_Law_law_616 : decode M_Law_law.2.1 616 = .ok (.iload 4, 2) := by decide +kernel
theorem d_Law_law_618 : decode M_Law_law.2.1 618 = .ok (.iconst 2, 1) := by decide +kernel
theorem d_Law_law_619 : decode M_Law_law.2.1 619 = .ok (.iadd, 1) := by decide +kernel
theorem d_Law_law_620 : decode M_Law_law.2.1 620 = .ok (.iaload, 1) := by decide +kernel
theorem d_Law_law_621 : decode M_Law_law.2.1 621 = .ok (.invokevirtual 99, 3) := by decide +kernel
theorem xw_1562 : (Jvm.Cond.code ({ cls := "MarkerTextModel", name := "printed", desc := "(II)I" } : Jvm.MethodName) prog_13_method_65_code (3 : Nat) (Option.some Jvm.ClassFile.FieldType.int)) ∈ xT := xT_at 1562 (by decide +kernel) (by decide +kernel)
theorem xcb_Mo_printed : xcb M_Mo_printed 2 := ⟨xw_1562, xw_8, by decide, by decide, by decide, by decide +kernel⟩
theorem xw_1560 : (Jvm.Cond.instanceMethod ({ cls := "MarkerTextModel", name := "printed", desc := "(II)I" } : Jvm.MethodName)) ∈ xT := xT_at 1560 (by decide +kernel) (by decide +kernel)
theorem xw_1559 : (Jvm.Cond.methodLink "MarkerTextLaw" (99 : Nat) ({ cls := "MarkerTextModel", name := "printed", desc := "(II)I" } : Jvm.MethodName)) ∈ xT := xT_at 1559 (by decide +kernel) (by decide +kernel)
theorem xw_1561 : (Jvm.Cond.selects "MarkerTextModel" ({ cls := "MarkerTextModel", name := "printed", desc := "(II)I" } : Jvm.MethodName) ({ cls := "MarkerTextModel", name := "printed", desc := "(II)I" } : Jvm.MethodName)) ∈ xT := xT_at 1561 (by decide +kernel) (by decide +kernel)
theorem xcv_Law_99_Mo : xCV "MarkerTextLaw" 99 "MarkerTextModel" M_Mo_printed 2 := ⟨xcb_Mo_printed, xw_1560, Or.inl ⟨xw_1559, Or.inl xw_1561⟩⟩
theorem d_Law_law_624 : decode M_Law_law.2.1 624 = .ok (.if_icmp .eq 5, 3) := by decide +kernel
end
section LAWB
variable {l : Launch} {G : XG} {h : XH} {c n d : Nat}
/-- the law's own end -/
def xlawQ (G : XG) : XPo := fun below args s _ t => (s.heap.size = G.2.1 ∧ ∃ b, args = #[Value.ref b]) → lw_Z below args s t
theorem x_lawret {pc : Nat} {L : List (Option Value)} (hd : decode M_Law_law.2.1 pc = .ok (.ireturn, 1)) : XX l G M_Law_law d pc L [.int 1] h c n (xlawQ G) := by
  intro p e R s m args below meth cd H locs cells slots ls hF hR hl hL hV hS hN
  by_cases hy : s.heap.size = G.2.1 ∧ ∃ b, args = #[Value.ref b]
  · obtain ⟨h1, b, rfl⟩ := id hy
    obtain ⟨r1, r2, r3, r4, r5⟩ := hR
    obtain ⟨s1, s2, s3, s4, s5, s6⟩ := hS
    refine x_tight (k := xCB) (j := xSB) r5 (by omega) (by omega) ?_
    intro T hT X
    have X0 : Stand p l e R s m #[Value.ref b] below meth cd T [] xCB xSB := Stand.forget (locs := []) (extra := locs) X (fun y hy => by rw [h1]; exact hN.2.2 y hy)
    obtain ⟨fs, hret, hrun, hended, hW, hframe⟩ := X0.leave (v := some (.int 1)) (hlocks := hF.2.2.2.2.2.1) (fun hz => by rw [hF.2.2.2.1] at hz; cases hz)
    have hmeth' : T.vm.method? m = some meth := X0.method'
    have hb : cd.code = M_Law_law.2.1 := hF.2.1
    have hr : meth.sig.returnType = M_Law_law.2.2.2 := hF.2.2.2.1
    refine ⟨T.setFrames fs, ?_, fun _ => ⟨.returned (some (.int 1)), hrun, hended, rfl, ⟨_, rfl⟩, hW, hframe⟩⟩
    jvm_step X0.here [X0.here.top, hF.1, hb, hd, hmeth', hr, narrow_b1]
    (try refine ⟨rfl, ?_⟩); (try refine ⟨rfl, ?_⟩)
    first | (intro acts; rw [hret _ acts rfl rfl rfl]) | rw [hret _ _ rfl rfl rfl]
    exact Steps.refl _
  · intro T hT X
    exact ⟨_, Steps.refl _, fun z => absurd z hy⟩
theorem and15 (x : Int32) : ∃ j, j < 16 ∧ x &&& 15 = nI j := by
  refine ⟨(x &&& 15).toBitVec.toNat, ?_, ?_⟩
  · rw [Int32.toBitVec_and, BitVec.toNat_and]
    exact Nat.lt_of_le_of_lt Nat.and_le_right (by decide)
  · apply Int32.toBitVec_inj.mp
    show _ = BitVec.ofNat 32 _
    simp
theorem i2cN (x : Int32) : ∃ j, j < 65536 ∧ (x.toUInt32 % 65536).toInt32 = nI j := by
  refine ⟨(x.toUInt32 % 65536).toNat, ?_, ?_⟩
  · rw [UInt32.toNat_mod]
    exact Nat.mod_lt _ (by decide)
  · apply Int32.toBitVec_inj.mp
    generalize x.toUInt32 % 65536 = u
    show u.toBitVec = BitVec.ofNat 32 u.toBitVec.toNat
    simp
abbrev pM (w : Option Value) (c n : Nat) : Option Value → XH → Nat → Nat → Prop := fun v _ c' n' => v = w ∧ c' ≤ c + 1000 ∧ n' ≤ n + 300000
abbrev pMt (o : Nat) (c n : Nat) (V : Option Value → Prop) : Option Value → XH → Nat → Nat → Prop := fun v h' c' n' => V v ∧ (∃ e, h' o = some (k_MarkerTextModel, .int 1 :: e)) ∧ c' ≤ c + 1000 ∧ n' ≤ n + 300000
/-- what the reference answers on a new object of its own -/
def RefOK (l : Launch) (G : XG) (RF : XH → Nat → Prop) : Prop :=
  (∀ {h : XH} {c n d o : Nat}, 20 ≤ d → h o = some (k_MarkerTextModel, [.int 0, .null, .int 0, .int 0, .null, .null, .null, .null, .null, .null, .null, .int 0, .null, .null, .null, .null, .null, .null, .null, .null, .null, .null, .null, .null, .null, .null, .null, .int 0, .int 0, .int 0, .int 0, .null, .int 0, .int 0, .null, .int 0, .long 0, .null, .null, .null, .null, .null, .int 0, .int 0, .int 0, .null, .null, .null, .null, .int 0, .null, .int 0]) → c + 1000 ≤ xCB → n + 300000 ≤ xSB → XM l G d M_Mo_init [.ref o] h c n (fun v h' c' n' => v = none ∧ RF h' o ∧ xfr h h' [o] ∧ c' ≤ c + 1000 ∧ n' ≤ n + 300000)) ∧
  (∀ {h h' : XH} {F : List Nat} {o : Nat}, RF h o → xfr h h' F → xno h F RK → RF h' o) ∧
  (∀ {h : XH} {o : Nat}, RF h o → ∃ vs, h o = some (k_MarkerTextModel, vs)) ∧
  (∀ {h : XH} {c n d o : Nat} {t : Int32} {e : List Value}, h o = some (k_MarkerTextModel, .int t :: e) → XM l G d M_Mo_thrown [.ref o] h c n (xSame (.int t) h c n)) ∧
  (∀ {h : XH} {c n d o ch : Nat}, ch < 65536 → 20 ≤ d → RF h o → c + 1000 ≤ xCB → n + 300000 ≤ xSB → XM l G d M_Mo_type [.ref o, .int (nI ch)] h c n (pM (some (.int (if 32 ≤ ch ∧ ch ≤ 126 then 1 else 0))) c n)) ∧
  (∀ {h : XH} {c n d o : Nat} {k : Int32}, 20 ≤ d → RF h o → c + 1000 ≤ xCB → n + 300000 ≤ xSB → XM l G d M_Mo_name [.ref o, .int k] h c n (pMt o c n (fun v => ∃ q, v = some (.int q)))) ∧
  (∀ {h : XH} {c n d o : Nat} {k : Int32}, 20 ≤ d → RF h o → c + 1000 ≤ xCB → n + 300000 ≤ xSB → XM l G d M_Mo_value [.ref o, .int k] h c n (pMt o c n (fun v => ∃ q, v = some (.int q)))) ∧
  (∀ {h : XH} {c n d o : Nat}, 20 ≤ d → RF h o → c + 1000 ≤ xCB → n + 300000 ≤ xSB → XM l G d M_Mo_condition [.ref o] h c n (pMt o c n (fun v => ∃ q, v = some (.int q)))) ∧
  (∀ {h : XH} {c n d o : Nat}, 20 ≤ d → RF h o → c + 1000 ≤ xCB → n + 300000 ≤ xSB → XM l G d M_Mo_place [.ref o] h c n (pM (some (.int (-1))) c n)) ∧
  (∀ {h : XH} {c n d o : Nat} {k : Int32}, 20 ≤ d → RF h o → c + 1000 ≤ xCB → n + 300000 ≤ xSB → XM l G d M_Mo_give [.ref o, .int k] h c n (pMt o c n (fun v => v = none))) ∧
  (∀ {h : XH} {c n d o : Nat} {k : Int32}, 20 ≤ d → RF h o → c + 1000 ≤ xCB → n + 300000 ≤ xSB → XM l G d M_Mo_holds [.ref o, .int k] h c n (pM (some (.int 0)) c n)) ∧
  (∀ {h : XH} {c n d o : Nat} {k : Int32}, 20 ≤ d → RF h o → c + 1000 ≤ xCB → n + 300000 ≤ xSB → XM l G d M_Mo_ever [.ref o, .int k] h c n (pM (some (.int (-1))) c n)) ∧
  (∀ {h : XH} {c n d o : Nat} {k j : Int32}, 20 ≤ d → RF h o → c + 1000 ≤ xCB → n + 300000 ≤ xSB → XM l G d M_Mo_implies [.ref o, .int k, .int j] h c n (pM (some (.int (-1))) c n)) ∧
  (∀ {h : XH} {c n d o : Nat} {k j : Int32}, 20 ≤ d → RF h o → c + 1000 ≤ xCB → n + 300000 ≤ xSB → XM l G d M_Mo_apart [.ref o, .int k, .int j] h c n (pM (some (.int (-1))) c n)) ∧
  (∀ {h : XH} {c n d o : Nat} {k : Int32}, 20 ≤ d → RF h o → c + 1000 ≤ xCB → n + 300000 ≤ xSB → XM l G d M_Mo_classes [.ref o, .int k] h c n (pM (some (.int 1)) c n)) ∧
  (∀ {h : XH} {c n d o : Nat} {k : Int32}, 20 ≤ d → RF h o → c + 1000 ≤ xCB → n + 300000 ≤ xSB → XM l G d M_Mo_many [.ref o, .int k] h c n (pM (some (.int (-1))) c n)) ∧
  (∀ {h : XH} {c n d o : Nat} {k j : Int32}, 20 ≤ d → RF h o → c + 1000 ≤ xCB → n + 300000 ≤ xSB → XM l G d M_Mo_inClass [.ref o, .int k, .int j] h c n (pM (some (.int 0)) c n)) ∧
  (∀ {h : XH} {c n d o : Nat} {k j : Int32}, 20 ≤ d → RF h o → c + 1000 ≤ xCB → n + 300000 ≤ xSB → XM l G d M_Mo_sample [.ref o, .int k, .int j] h c n (pM (some (.int (-1))) c n)) ∧
  (∀ {h : XH} {c n d o : Nat} {k j : Int32}, 20 ≤ d → RF h o → c + 1000 ≤ xCB → n + 300000 ≤ xSB → XM l G d M_Mo_printed [.ref o, .int k, .int j] h c n (pM (some (.int 0)) c n))
set_option maxHeartbeats 4000000 in
theorem law_p1 (hG : xGk G) (htr : l.stackTraces = false) {RF : XH → Nat → Prop} (hR : RefOK l G RF) {b L : Nat} {xs : Nat → Int32} (hL : L ≤ 3) (hb : G.2.2.1 b = some (k_aint, (List.range L).map (fun i => Value.int (xs i)))) : XX l G M_Law_law 1216 0 (xin [Value.ref b] ++ List.replicate (M_Law_law.2.2.1 - (xin [Value.ref b]).length) none) [] (fun _ => none) 0 0 (xlawQ G) := by
  have hcb : (600002 : Nat) ≤ xCB := Nat.le_refl _
  have hsb : (7302232 : Nat) ≤ xSB := Nat.le_refl _
  show XX l G M_Law_law (1215 + 1) 0 [some (.ref b), none, none, none, none, none, none] [] (fun _ => none) 0 0 (xlawQ G)
  refine x_new xnw_Law_8 (by omega) (by omega) d_Law_law_0 (fun x hn_x hk_x => ?_)
  refine x_dup d_Law_law_3 rfl ?_
  refine x_callI (As := []) xci_Law_28 (c_MT_init (by omega) xup_self (by omega) (by omega)) rfl rfl (Nat.le_of_ble_eq_true rfl) d_Law_law_4 ?_
  rintro v h1 c1 n1 ⟨rfl, hx1, f1, rfl, hn1⟩
  refine x_astore_n (L' := [_, _, _, _, _, _, _]) d_Law_law_7 rfl rfl rfl ?_
  refine x_new xnw_Law_29 (by omega) (by omega) d_Law_law_8 (fun m hn_m hk_m => ?_)
  refine x_dup d_Law_law_11 rfl ?_
  refine x_callI (As := []) xci_Law_31 (hR.1 (by omega) xup_self (by omega) (by omega)) rfl rfl (Nat.le_of_ble_eq_true rfl) d_Law_law_12 ?_
  rintro v h2 c2 n2 ⟨rfl, hm2, f2, hc2, hn2⟩
  have hx2 : mt0 h2 x := (hx1.fr (F := []) (xfr.rf.up (Or.inr hn_m)) (fun q hq => by cases hq)).fr f2 (xno1 xup_self (by decide))
  refine x_astore_n (L' := [_, _, _, _, _, _, _]) d_Law_law_15 rfl rfl rfl ?_
  refine x_iconst (v := 1) d_Law_law_16 (by decide) ?_
  refine x_newa (k := k_avals) rfl rfl (fun _ hz => by cases hz) xw_110 (by decide) (by decide : Int32.toNatClampNeg 1 = 1) (by decide) (by omega) (by omega) d_Law_law_17 (fun o hn_o hk_o => ?_)
  refine x_any (R := fun h3 => mt0 h3 x ∧ RF h3 m) ⟨hx2.fr (F := []) (xfr.rf.up (Or.inr hn_o)) (fun q hq => by cases hq), hR.2.1 hm2 (F := []) (xfr.rf.up (Or.inr hn_o)) (fun q hq => by cases hq)⟩ (fun h3 ⟨hx3, hm3⟩ => ?_)
  obtain ⟨c3, hc3, hc3'⟩ : ∃ c3, c3 = c2 + 1 ∧ c3 ≤ 2000 := ⟨_, rfl, by omega⟩
  obtain ⟨n3, hn3, hn3'⟩ : ∃ n3, n3 = n2 + 1 ∧ n3 ≤ 400000 := ⟨_, rfl, by omega⟩
  rw [← hc3, ← hn3]
  clear hc3 hn3 hc2 hn2 hn1 hm2 hx2 hx1 f1 f2
  refine x_astore_n (L' := [_, _, _, _, _, _, _]) d_Law_law_19 rfl rfl rfl ?_
  refine x_iconst (v := 0) d_Law_law_20 (by decide) ?_
  refine x_istore (L' := [_, _, _, _, _, _, _]) d_Law_law_21 rfl rfl ?_
  by_cases hL3 : L = 3
  · subst hL3
    have at629 : ∀ (h' : XH) (c' n' : Nat) (e5 e6 : Option Value), XX l G M_Law_law (1215 + 1) 629 [some (.ref b), some (.ref x), some (.ref m), some (.ref o), some (.int 0), e5, e6] [] h' c' n' (xlawQ G) := by
      intro h' c' n' e5 e6
      refine x_iinc (v := 3) (L' := [_, _, _, _, _, _, _]) d_Law_law_629 rfl (by decide) rfl rfl ?_
      refine x_goto (tgt := 23) d_Law_law_632 (by decide) ?_
      refine x_iload d_Law_law_23 rfl ?_
      refine x_aload_n d_Law_law_25 rfl rfl ?_
      refine x_alen (k := k_aint) rfl (Or.inr hb) (v := nI 3) rfl d_Law_law_26 ?_
      refine x_iconst (v := 3) d_Law_law_27 (by decide) ?_
      refine x_isub d_Law_law_28 ?_
      refine x_icmp_gt (tgt := 635) d_Law_law_29 (by decide) (fun _ => ?_) (fun hn => absurd (by decide) hn)
      refine x_iconst (v := 1) d_Law_law_635 (by decide) ?_
      exact x_lawret d_Law_law_636
    have v0 : ((List.range 3).map (fun i => Value.int (xs i)))[(0 : Int32).toNatClampNeg]? = some (.int (xs 0)) := by rw [show (0 : Int32).toNatClampNeg = 0 from by decide]; rfl
    have v1 : ((List.range 3).map (fun i => Value.int (xs i)))[((0 : Int32) + 1).toNatClampNeg]? = some (.int (xs 1)) := by rw [show ((0 : Int32) + 1).toNatClampNeg = 1 from by decide]; rfl
    have v2 : ((List.range 3).map (fun i => Value.int (xs i)))[((0 : Int32) + 2).toNatClampNeg]? = some (.int (xs 2)) := by rw [show ((0 : Int32) + 2).toNatClampNeg = 2 from by decide]; rfl
    obtain ⟨ta, va, na, ca, ea, co, pa, e0, -⟩ := id hx3
    obtain ⟨mv, em⟩ := hR.2.2.1 hm3
    refine x_iload d_Law_law_23 rfl ?_
    refine x_aload_n d_Law_law_25 rfl rfl ?_
    refine x_alen (k := k_aint) rfl (Or.inr hb) (v := nI 3) rfl d_Law_law_26 ?_
    refine x_iconst (v := 3) d_Law_law_27 (by decide) ?_
    refine x_isub d_Law_law_28 ?_
    refine x_icmp_gt (tgt := 635) d_Law_law_29 (by decide) (fun ht => absurd ht (by decide)) (fun _ => ?_)
    refine x_aload_n d_Law_law_32 rfl rfl ?_
    refine x_iload d_Law_law_33 rfl ?_
    refine x_iald (k := k_aint) rfl (Or.inr hb) (by decide) v0 d_Law_law_35 ?_
    refine x_bipush (v := 15) d_Law_law_36 (by decide) ?_
    refine x_iand d_Law_law_38 ?_
    obtain ⟨j, hj, hje⟩ := and15 (xs 0)
    refine x_top (w := .int (nI j)) (by rw [hje]) ?_
    have hjj : j = 0 ∨ j = 1 ∨ j = 2 ∨ j = 3 ∨ j = 4 ∨ j = 5 ∨ j = 6 ∨ j = 7 ∨ j = 8 ∨ j = 9 ∨ j = 10 ∨ j = 11 ∨ j = 12 ∨ j = 13 ∨ j = 14 ∨ j = 15 := by omega
    rcases hjj with rfl | rfl | rfl | rfl | rfl | rfl | rfl | rfl | rfl | rfl | rfl | rfl | rfl | rfl | rfl | rfl
    · refine x_tableIn (tgt := 112) (off := 73) d_Law_law_39 (by decide) (by decide) (by decide) (by decide) ?_
      obtain ⟨ch, hch, hce⟩ := i2cN (xs 1)
      refine x_aload_n d_Law_law_112 rfl rfl ?_
      refine x_aload_n d_Law_law_113 rfl rfl ?_
      refine x_iload d_Law_law_114 rfl ?_
      refine x_iconst (v := 1) d_Law_law_116 (by decide) ?_
      refine x_iadd d_Law_law_117 ?_
      refine x_iald (k := k_aint) rfl (Or.inr hb) (by decide) v1 d_Law_law_118 ?_
      refine x_i2c d_Law_law_119 ?_
      refine x_top (w := .int (nI ch)) (by rw [hce]) ?_
      refine x_callV (As := [_]) (k := k_MarkerText) rfl xcv_Law_32_MT (Or.inl e0) (c_type0 (by omega) hx3 hch (by omega) (by omega)) rfl rfl (Nat.le_of_ble_eq_true rfl) d_Law_law_120 ?_
      rintro v h4 c4 n4 ⟨rfl, ⟨F4, f4, q4⟩, hc4, hn4⟩
      have hm4 := hR.2.1 hm3 f4 q4
      obtain ⟨mv4, em4⟩ := hR.2.2.1 hm4
      refine x_aload_n d_Law_law_123 rfl rfl ?_
      refine x_aload_n d_Law_law_124 rfl rfl ?_
      refine x_iload d_Law_law_125 rfl ?_
      refine x_iconst (v := 1) d_Law_law_127 (by decide) ?_
      refine x_iadd d_Law_law_128 ?_
      refine x_iald (k := k_aint) rfl (Or.inr hb) (by decide) v1 d_Law_law_129 ?_
      refine x_i2c d_Law_law_130 ?_
      refine x_top (w := .int (nI ch)) (by rw [hce]) ?_
      refine x_callV (As := [_]) (k := k_MarkerTextModel) rfl xcv_Law_36_Mo (Or.inl em4) (hR.2.2.2.2.1 hch (by omega) hm4 (by omega) (by omega)) rfl rfl (Nat.le_of_ble_eq_true rfl) d_Law_law_131 ?_
      rintro v h5 c5 n5 ⟨rfl, hc5, hn5⟩
      refine x_icmp_eq (tgt := 629) d_Law_law_134 (by decide) (fun _ => ?_) (fun hn => absurd rfl hn)
      exact at629 _ _ _ _ _
    · refine x_tableIn (tgt := 139) (off := 100) d_Law_law_39 (by decide) (by decide) (by decide) (by decide) ?_
      refine x_aload_n d_Law_law_139 rfl rfl ?_
      refine x_aload_n d_Law_law_140 rfl rfl ?_
      refine x_iload d_Law_law_141 rfl ?_
      refine x_iconst (v := 1) d_Law_law_143 (by decide) ?_
      refine x_iadd d_Law_law_144 ?_
      refine x_iald (k := k_aint) rfl (Or.inr hb) (by decide) v1 d_Law_law_145 ?_
      refine x_aload_n d_Law_law_146 rfl rfl ?_
      refine x_callSW (As := [_, _, _]) xcbw_Law_name xw_449 xw_448 (c_Lname0 hG htr (by omega) hx3 (by omega) (by omega)) rfl rfl (Nat.le_of_ble_eq_true rfl) d_Law_law_147 ?_
      rintro v h4 c4 n4 ⟨rfl, ⟨F4, f4, q4⟩, hc4, hn4⟩
      have hm4 := hR.2.1 hm3 f4 q4
      obtain ⟨mv4, em4⟩ := hR.2.2.1 hm4
      refine x_istore (L' := [_, _, _, _, _, _, _]) d_Law_law_150 rfl rfl ?_
      refine x_aload_n d_Law_law_152 rfl rfl ?_
      refine x_aload_n d_Law_law_153 rfl rfl ?_
      refine x_iload d_Law_law_154 rfl ?_
      refine x_iconst (v := 1) d_Law_law_156 (by decide) ?_
      refine x_iadd d_Law_law_157 ?_
      refine x_iald (k := k_aint) rfl (Or.inr hb) (by decide) v1 d_Law_law_158 ?_
      refine x_callV (As := [_]) (k := k_MarkerTextModel) rfl xcv_Law_42_Mo (Or.inl em4) (hR.2.2.2.2.2.1 (by omega) hm4 (by omega) (by omega)) rfl rfl (Nat.le_of_ble_eq_true rfl) d_Law_law_159 ?_
      rintro v h5 c5 n5 ⟨⟨bb, rfl⟩, ⟨ee, em5⟩, hc5, hn5⟩
      refine x_istore (L' := [_, _, _, _, _, _, _]) d_Law_law_162 rfl rfl ?_
      refine x_aload_n d_Law_law_164 rfl rfl ?_
      refine x_callV (As := []) (k := k_MarkerTextModel) rfl xcv_Law_43_Mo (Or.inl em5) (hR.2.2.2.1 em5) rfl rfl (Nat.le_of_ble_eq_true rfl) d_Law_law_165 ?_
      rintro v h6 c6 n6 ⟨rfl, rfl, rfl, rfl⟩
      refine x_iload d_Law_law_168 rfl ?_
      refine x_icmp_eq (tgt := 175) d_Law_law_170 (by decide) (fun _ => ?_) (fun hn => absurd rfl hn)
      refine x_iload d_Law_law_175 rfl ?_
      refine x_if_ne (tgt := 192) d_Law_law_177 (by decide) (fun _ => ?_) (fun hn => absurd hn (by decide))
      refine x_goto (tgt := 629) d_Law_law_192 (by decide) ?_
      exact at629 _ _ _ _ _
    · refine x_tableIn (tgt := 195) (off := 156) d_Law_law_39 (by decide) (by decide) (by decide) (by decide) ?_
      refine x_aload_n d_Law_law_195 rfl rfl ?_
      refine x_aload_n d_Law_law_196 rfl rfl ?_
      refine x_iload d_Law_law_197 rfl ?_
      refine x_iconst (v := 1) d_Law_law_199 (by decide) ?_
      refine x_iadd d_Law_law_200 ?_
      refine x_iald (k := k_aint) rfl (Or.inr hb) (by decide) v1 d_Law_law_201 ?_
      refine x_aload_n d_Law_law_202 rfl rfl ?_
      refine x_callSW (As := [_, _, _]) xcbw_Law_value xw_738 xw_737 (c_Lvalue0 hG htr (by omega) hx3 (by omega) (by omega)) rfl rfl (Nat.le_of_ble_eq_true rfl) d_Law_law_203 ?_
      rintro v h4 c4 n4 ⟨rfl, ⟨F4, f4, q4⟩, hc4, hn4⟩
      have hm4 := hR.2.1 hm3 f4 q4
      obtain ⟨mv4, em4⟩ := hR.2.2.1 hm4
      refine x_istore (L' := [_, _, _, _, _, _, _]) d_Law_law_206 rfl rfl ?_
      refine x_aload_n d_Law_law_208 rfl rfl ?_
      refine x_aload_n d_Law_law_209 rfl rfl ?_
      refine x_iload d_Law_law_210 rfl ?_
      refine x_iconst (v := 1) d_Law_law_212 (by decide) ?_
      refine x_iadd d_Law_law_213 ?_
      refine x_iald (k := k_aint) rfl (Or.inr hb) (by decide) v1 d_Law_law_214 ?_
      refine x_callV (As := [_]) (k := k_MarkerTextModel) rfl xcv_Law_48_Mo (Or.inl em4) (hR.2.2.2.2.2.2.1 (by omega) hm4 (by omega) (by omega)) rfl rfl (Nat.le_of_ble_eq_true rfl) d_Law_law_215 ?_
      rintro v h5 c5 n5 ⟨⟨bb, rfl⟩, ⟨ee, em5⟩, hc5, hn5⟩
      refine x_istore (L' := [_, _, _, _, _, _, _]) d_Law_law_218 rfl rfl ?_
      refine x_aload_n d_Law_law_220 rfl rfl ?_
      refine x_callV (As := []) (k := k_MarkerTextModel) rfl xcv_Law_43_Mo (Or.inl em5) (hR.2.2.2.1 em5) rfl rfl (Nat.le_of_ble_eq_true rfl) d_Law_law_221 ?_
      rintro v h6 c6 n6 ⟨rfl, rfl, rfl, rfl⟩
      refine x_iload d_Law_law_224 rfl ?_
      refine x_icmp_eq (tgt := 231) d_Law_law_226 (by decide) (fun _ => ?_) (fun hn => absurd rfl hn)
      refine x_iload d_Law_law_231 rfl ?_
      refine x_if_ne (tgt := 248) d_Law_law_233 (by decide) (fun _ => ?_) (fun hn => absurd hn (by decide))
      refine x_goto (tgt := 629) d_Law_law_248 (by decide) ?_
      exact at629 _ _ _ _ _
    · refine x_tableIn (tgt := 251) (off := 212) d_Law_law_39 (by decide) (by decide) (by decide) (by decide) ?_
      refine x_aload_n d_Law_law_251 rfl rfl ?_
      refine x_aload_n d_Law_law_252 rfl rfl ?_
      refine x_callSW (As := [_, _]) xcbw_Law_condition xw_817 xw_816 (c_Lcondition0 hG htr (by omega) hx3 (by omega) (by omega)) rfl rfl (Nat.le_of_ble_eq_true rfl) d_Law_law_253 ?_
      rintro v h4 c4 n4 ⟨rfl, ⟨F4, f4, q4⟩, hc4, hn4⟩
      have hm4 := hR.2.1 hm3 f4 q4
      obtain ⟨mv4, em4⟩ := hR.2.2.1 hm4
      refine x_istore (L' := [_, _, _, _, _, _, _]) d_Law_law_256 rfl rfl ?_
      refine x_aload_n d_Law_law_258 rfl rfl ?_
      refine x_callV (As := []) (k := k_MarkerTextModel) rfl xcv_Law_52_Mo (Or.inl em4) (hR.2.2.2.2.2.2.2.1 (by omega) hm4 (by omega) (by omega)) rfl rfl (Nat.le_of_ble_eq_true rfl) d_Law_law_259 ?_
      rintro v h5 c5 n5 ⟨⟨bb, rfl⟩, ⟨ee, em5⟩, hc5, hn5⟩
      refine x_istore (L' := [_, _, _, _, _, _, _]) d_Law_law_262 rfl rfl ?_
      refine x_aload_n d_Law_law_264 rfl rfl ?_
      refine x_callV (As := []) (k := k_MarkerTextModel) rfl xcv_Law_43_Mo (Or.inl em5) (hR.2.2.2.1 em5) rfl rfl (Nat.le_of_ble_eq_true rfl) d_Law_law_265 ?_
      rintro v h6 c6 n6 ⟨rfl, rfl, rfl, rfl⟩
      refine x_iload d_Law_law_268 rfl ?_
      refine x_icmp_eq (tgt := 275) d_Law_law_270 (by decide) (fun _ => ?_) (fun hn => absurd rfl hn)
      refine x_iload d_Law_law_275 rfl ?_
      refine x_if_ne (tgt := 292) d_Law_law_277 (by decide) (fun _ => ?_) (fun hn => absurd hn (by decide))
      refine x_goto (tgt := 629) d_Law_law_292 (by decide) ?_
      exact at629 _ _ _ _ _
    · refine x_tableIn (tgt := 295) (off := 256) d_Law_law_39 (by decide) (by decide) (by decide) (by decide) ?_
      refine x_aload_n d_Law_law_295 rfl rfl ?_
      refine x_callV (As := []) (k := k_MarkerText) rfl xcv_Law_53_MT (Or.inl e0) (c_place0 hx3) rfl rfl (Nat.le_of_ble_eq_true rfl) d_Law_law_296 ?_
      rintro v h4 c4 n4 ⟨rfl, rfl, rfl, rfl⟩
      have hm4 := hm3
      obtain ⟨mv4, em4⟩ := hR.2.2.1 hm4
      refine x_aload_n d_Law_law_299 rfl rfl ?_
      refine x_callV (As := []) (k := k_MarkerTextModel) rfl xcv_Law_56_Mo (Or.inl em4) (hR.2.2.2.2.2.2.2.2.1 (by omega) hm4 (by omega) (by omega)) rfl rfl (Nat.le_of_ble_eq_true rfl) d_Law_law_300 ?_
      rintro v h5 c5 n5 ⟨rfl, hc5, hn5⟩
      refine x_icmp_eq (tgt := 629) d_Law_law_303 (by decide) (fun _ => ?_) (fun hn => absurd rfl hn)
      exact at629 _ _ _ _ _
    · refine x_tableIn (tgt := 308) (off := 269) d_Law_law_39 (by decide) (by decide) (by decide) (by decide) ?_
      refine x_aload_n d_Law_law_308 rfl rfl ?_
      refine x_aload_n d_Law_law_309 rfl rfl ?_
      refine x_iload d_Law_law_310 rfl ?_
      refine x_iconst (v := 1) d_Law_law_312 (by decide) ?_
      refine x_iadd d_Law_law_313 ?_
      refine x_iald (k := k_aint) rfl (Or.inr hb) (by decide) v1 d_Law_law_314 ?_
      refine x_callSW (As := [_, _]) xcbw_Law_give xw_1157 xw_1156 (c_Lgive0 hG htr (by omega) hx3 (by omega) (by omega)) rfl rfl (Nat.le_of_ble_eq_true rfl) d_Law_law_315 ?_
      rintro v h4 c4 n4 ⟨rfl, ⟨F4, f4, q4⟩, hc4, hn4⟩
      have hm4 := hR.2.1 hm3 f4 q4
      obtain ⟨mv4, em4⟩ := hR.2.2.1 hm4
      refine x_istore (L' := [_, _, _, _, _, _, _]) d_Law_law_318 rfl rfl ?_
      refine x_aload_n d_Law_law_320 rfl rfl ?_
      refine x_aload_n d_Law_law_321 rfl rfl ?_
      refine x_iload d_Law_law_322 rfl ?_
      refine x_iconst (v := 1) d_Law_law_324 (by decide) ?_
      refine x_iadd d_Law_law_325 ?_
      refine x_iald (k := k_aint) rfl (Or.inr hb) (by decide) v1 d_Law_law_326 ?_
      refine x_callV (As := [_]) (k := k_MarkerTextModel) rfl xcv_Law_60_Mo (Or.inl em4) (hR.2.2.2.2.2.2.2.2.2.1 (by omega) hm4 (by omega) (by omega)) rfl rfl (Nat.le_of_ble_eq_true rfl) d_Law_law_327 ?_
      rintro v h5 c5 n5 ⟨rfl, ⟨ee, em5⟩, hc5, hn5⟩
      refine x_aload_n d_Law_law_330 rfl rfl ?_
      refine x_callV (As := []) (k := k_MarkerTextModel) rfl xcv_Law_43_Mo (Or.inl em5) (hR.2.2.2.1 em5) rfl rfl (Nat.le_of_ble_eq_true rfl) d_Law_law_331 ?_
      rintro v h6 c6 n6 ⟨rfl, rfl, rfl, rfl⟩
      refine x_iload d_Law_law_334 rfl ?_
      refine x_icmp_eq (tgt := 341) d_Law_law_336 (by decide) (fun _ => ?_) (fun hn => absurd rfl hn)
      refine x_goto (tgt := 629) d_Law_law_341 (by decide) ?_
      exact at629 _ _ _ _ _
    · refine x_tableIn (tgt := 344) (off := 305) d_Law_law_39 (by decide) (by decide) (by decide) (by decide) ?_
      refine x_aload_n d_Law_law_344 rfl rfl ?_
      refine x_aload_n d_Law_law_345 rfl rfl ?_
      refine x_iload d_Law_law_346 rfl ?_
      refine x_iconst (v := 1) d_Law_law_348 (by decide) ?_
      refine x_iadd d_Law_law_349 ?_
      refine x_iald (k := k_aint) rfl (Or.inr hb) (by decide) v1 d_Law_law_350 ?_
      refine x_callV (As := [_]) (k := k_MarkerText) rfl xcv_Law_61_MT (Or.inl e0) (c_holds0 (by omega) hx3) rfl rfl (Nat.le_of_ble_eq_true rfl) d_Law_law_351 ?_
      rintro v h4 c4 n4 ⟨rfl, rfl, rfl, rfl⟩
      have hm4 := hm3
      obtain ⟨mv4, em4⟩ := hR.2.2.1 hm4
      refine x_aload_n d_Law_law_354 rfl rfl ?_
      refine x_aload_n d_Law_law_355 rfl rfl ?_
      refine x_iload d_Law_law_356 rfl ?_
      refine x_iconst (v := 1) d_Law_law_358 (by decide) ?_
      refine x_iadd d_Law_law_359 ?_
      refine x_iald (k := k_aint) rfl (Or.inr hb) (by decide) v1 d_Law_law_360 ?_
      refine x_callV (As := [_]) (k := k_MarkerTextModel) rfl xcv_Law_65_Mo (Or.inl em4) (hR.2.2.2.2.2.2.2.2.2.2.1 (by omega) hm4 (by omega) (by omega)) rfl rfl (Nat.le_of_ble_eq_true rfl) d_Law_law_361 ?_
      rintro v h5 c5 n5 ⟨rfl, hc5, hn5⟩
      refine x_icmp_eq (tgt := 629) d_Law_law_364 (by decide) (fun _ => ?_) (fun hn => absurd rfl hn)
      exact at629 _ _ _ _ _
    · refine x_tableIn (tgt := 369) (off := 330) d_Law_law_39 (by decide) (by decide) (by decide) (by decide) ?_
      refine x_aload_n d_Law_law_369 rfl rfl ?_
      refine x_aload_n d_Law_law_370 rfl rfl ?_
      refine x_iload d_Law_law_371 rfl ?_
      refine x_iconst (v := 1) d_Law_law_373 (by decide) ?_
      refine x_iadd d_Law_law_374 ?_
      refine x_iald (k := k_aint) rfl (Or.inr hb) (by decide) v1 d_Law_law_375 ?_
      refine x_callV (As := [_]) (k := k_MarkerText) rfl xcv_Law_66_MT (Or.inl e0) (c_ever0 (by omega) hx3) rfl rfl (Nat.le_of_ble_eq_true rfl) d_Law_law_376 ?_
      rintro v h4 c4 n4 ⟨rfl, rfl, rfl, rfl⟩
      have hm4 := hm3
      obtain ⟨mv4, em4⟩ := hR.2.2.1 hm4
      refine x_aload_n d_Law_law_379 rfl rfl ?_
      refine x_aload_n d_Law_law_380 rfl rfl ?_
      refine x_iload d_Law_law_381 rfl ?_
      refine x_iconst (v := 1) d_Law_law_383 (by decide) ?_
      refine x_iadd d_Law_law_384 ?_
      refine x_iald (k := k_aint) rfl (Or.inr hb) (by decide) v1 d_Law_law_385 ?_
      refine x_callV (As := [_]) (k := k_MarkerTextModel) rfl xcv_Law_69_Mo (Or.inl em4) (hR.2.2.2.2.2.2.2.2.2.2.2.1 (by omega) hm4 (by omega) (by omega)) rfl rfl (Nat.le_of_ble_eq_true rfl) d_Law_law_386 ?_
      rintro v h5 c5 n5 ⟨rfl, hc5, hn5⟩
      refine x_icmp_eq (tgt := 629) d_Law_law_389 (by decide) (fun _ => ?_) (fun hn => absurd rfl hn)
      exact at629 _ _ _ _ _
    · refine x_tableIn (tgt := 394) (off := 355) d_Law_law_39 (by decide) (by decide) (by decide) (by decide) ?_
      refine x_aload_n d_Law_law_394 rfl rfl ?_
      refine x_aload_n d_Law_law_395 rfl rfl ?_
      refine x_iload d_Law_law_396 rfl ?_
      refine x_iconst (v := 1) d_Law_law_398 (by decide) ?_
      refine x_iadd d_Law_law_399 ?_
      refine x_iald (k := k_aint) rfl (Or.inr hb) (by decide) v1 d_Law_law_400 ?_
      refine x_aload_n d_Law_law_401 rfl rfl ?_
      refine x_iload d_Law_law_402 rfl ?_
      refine x_iconst (v := 2) d_Law_law_404 (by decide) ?_
      refine x_iadd d_Law_law_405 ?_
      refine x_iald (k := k_aint) rfl (Or.inr hb) (by decide) v2 d_Law_law_406 ?_
      refine x_callV (As := [_, _]) (k := k_MarkerText) rfl xcv_Law_70_MT (Or.inl e0) (c_implies0 (by omega) hx3) rfl rfl (Nat.le_of_ble_eq_true rfl) d_Law_law_407 ?_
      rintro v h4 c4 n4 ⟨rfl, rfl, rfl, rfl⟩
      have hm4 := hm3
      obtain ⟨mv4, em4⟩ := hR.2.2.1 hm4
      refine x_aload_n d_Law_law_410 rfl rfl ?_
      refine x_aload_n d_Law_law_411 rfl rfl ?_
      refine x_iload d_Law_law_412 rfl ?_
      refine x_iconst (v := 1) d_Law_law_414 (by decide) ?_
      refine x_iadd d_Law_law_415 ?_
      refine x_iald (k := k_aint) rfl (Or.inr hb) (by decide) v1 d_Law_law_416 ?_
      refine x_aload_n d_Law_law_417 rfl rfl ?_
      refine x_iload d_Law_law_418 rfl ?_
      refine x_iconst (v := 2) d_Law_law_420 (by decide) ?_
      refine x_iadd d_Law_law_421 ?_
      refine x_iald (k := k_aint) rfl (Or.inr hb) (by decide) v2 d_Law_law_422 ?_
      refine x_callV (As := [_, _]) (k := k_MarkerTextModel) rfl xcv_Law_74_Mo (Or.inl em4) (hR.2.2.2.2.2.2.2.2.2.2.2.2.1 (by omega) hm4 (by omega) (by omega)) rfl rfl (Nat.le_of_ble_eq_true rfl) d_Law_law_423 ?_
      rintro v h5 c5 n5 ⟨rfl, hc5, hn5⟩
      refine x_icmp_eq (tgt := 629) d_Law_law_426 (by decide) (fun _ => ?_) (fun hn => absurd rfl hn)
      exact at629 _ _ _ _ _
    · refine x_tableIn (tgt := 431) (off := 392) d_Law_law_39 (by decide) (by decide) (by decide) (by decide) ?_
      refine x_aload_n d_Law_law_431 rfl rfl ?_
      refine x_aload_n d_Law_law_432 rfl rfl ?_
      refine x_iload d_Law_law_433 rfl ?_
      refine x_iconst (v := 1) d_Law_law_435 (by decide) ?_
      refine x_iadd d_Law_law_436 ?_
      refine x_iald (k := k_aint) rfl (Or.inr hb) (by decide) v1 d_Law_law_437 ?_
      refine x_aload_n d_Law_law_438 rfl rfl ?_
      refine x_iload d_Law_law_439 rfl ?_
      refine x_iconst (v := 2) d_Law_law_441 (by decide) ?_
      refine x_iadd d_Law_law_442 ?_
      refine x_iald (k := k_aint) rfl (Or.inr hb) (by decide) v2 d_Law_law_443 ?_
      refine x_callV (As := [_, _]) (k := k_MarkerText) rfl xcv_Law_75_MT (Or.inl e0) (c_apart0 (by omega) hx3) rfl rfl (Nat.le_of_ble_eq_true rfl) d_Law_law_444 ?_
      rintro v h4 c4 n4 ⟨rfl, rfl, rfl, rfl⟩
      have hm4 := hm3
      obtain ⟨mv4, em4⟩ := hR.2.2.1 hm4
      refine x_aload_n d_Law_law_447 rfl rfl ?_
      refine x_aload_n d_Law_law_448 rfl rfl ?_
      refine x_iload d_Law_law_449 rfl ?_
      refine x_iconst (v := 1) d_Law_law_451 (by decide) ?_
      refine x_iadd d_Law_law_452 ?_
      refine x_iald (k := k_aint) rfl (Or.inr hb) (by decide) v1 d_Law_law_453 ?_
      refine x_aload_n d_Law_law_454 rfl rfl ?_
      refine x_iload d_Law_law_455 rfl ?_
      refine x_iconst (v := 2) d_Law_law_457 (by decide) ?_
      refine x_iadd d_Law_law_458 ?_
      refine x_iald (k := k_aint) rfl (Or.inr hb) (by decide) v2 d_Law_law_459 ?_
      refine x_callV (As := [_, _]) (k := k_MarkerTextModel) rfl xcv_Law_78_Mo (Or.inl em4) (hR.2.2.2.2.2.2.2.2.2.2.2.2.2.1 (by omega) hm4 (by omega) (by omega)) rfl rfl (Nat.le_of_ble_eq_true rfl) d_Law_law_460 ?_
      rintro v h5 c5 n5 ⟨rfl, hc5, hn5⟩
      refine x_icmp_eq (tgt := 629) d_Law_law_463 (by decide) (fun _ => ?_) (fun hn => absurd rfl hn)
      exact at629 _ _ _ _ _
    · refine x_tableIn (tgt := 468) (off := 429) d_Law_law_39 (by decide) (by decide) (by decide) (by decide) ?_
      refine x_aload_n d_Law_law_468 rfl rfl ?_
      refine x_aload_n d_Law_law_469 rfl rfl ?_
      refine x_iload d_Law_law_470 rfl ?_
      refine x_iconst (v := 1) d_Law_law_472 (by decide) ?_
      refine x_iadd d_Law_law_473 ?_
      refine x_iald (k := k_aint) rfl (Or.inr hb) (by decide) v1 d_Law_law_474 ?_
      refine x_callV (As := [_]) (k := k_MarkerText) rfl xcv_Law_79_MT (Or.inl e0) (c_classes0 (by omega) hx3) rfl rfl (Nat.le_of_ble_eq_true rfl) d_Law_law_475 ?_
      rintro v h4 c4 n4 ⟨rfl, ⟨F4, f4, q4⟩, hc4, hn4⟩
      have hm4 := hR.2.1 hm3 f4 q4
      obtain ⟨mv4, em4⟩ := hR.2.2.1 hm4
      refine x_aload_n d_Law_law_478 rfl rfl ?_
      refine x_aload_n d_Law_law_479 rfl rfl ?_
      refine x_iload d_Law_law_480 rfl ?_
      refine x_iconst (v := 1) d_Law_law_482 (by decide) ?_
      refine x_iadd d_Law_law_483 ?_
      refine x_iald (k := k_aint) rfl (Or.inr hb) (by decide) v1 d_Law_law_484 ?_
      refine x_callV (As := [_]) (k := k_MarkerTextModel) rfl xcv_Law_82_Mo (Or.inl em4) (hR.2.2.2.2.2.2.2.2.2.2.2.2.2.2.1 (by omega) hm4 (by omega) (by omega)) rfl rfl (Nat.le_of_ble_eq_true rfl) d_Law_law_485 ?_
      rintro v h5 c5 n5 ⟨rfl, hc5, hn5⟩
      refine x_icmp_eq (tgt := 629) d_Law_law_488 (by decide) (fun _ => ?_) (fun hn => absurd rfl hn)
      exact at629 _ _ _ _ _
    · refine x_tableIn (tgt := 493) (off := 454) d_Law_law_39 (by decide) (by decide) (by decide) (by decide) ?_
      refine x_aload_n d_Law_law_493 rfl rfl ?_
      refine x_aload_n d_Law_law_494 rfl rfl ?_
      refine x_iload d_Law_law_495 rfl ?_
      refine x_iconst (v := 1) d_Law_law_497 (by decide) ?_
      refine x_iadd d_Law_law_498 ?_
      refine x_iald (k := k_aint) rfl (Or.inr hb) (by decide) v1 d_Law_law_499 ?_
      refine x_callV (As := [_]) (k := k_MarkerText) rfl xcv_Law_83_MT (Or.inl e0) (c_many0 (by omega) hx3) rfl rfl (Nat.le_of_ble_eq_true rfl) d_Law_law_500 ?_
      rintro v h4 c4 n4 ⟨rfl, rfl, rfl, rfl⟩
      have hm4 := hm3
      obtain ⟨mv4, em4⟩ := hR.2.2.1 hm4
      refine x_aload_n d_Law_law_503 rfl rfl ?_
      refine x_aload_n d_Law_law_504 rfl rfl ?_
      refine x_iload d_Law_law_505 rfl ?_
      refine x_iconst (v := 1) d_Law_law_507 (by decide) ?_
      refine x_iadd d_Law_law_508 ?_
      refine x_iald (k := k_aint) rfl (Or.inr hb) (by decide) v1 d_Law_law_509 ?_
      refine x_callV (As := [_]) (k := k_MarkerTextModel) rfl xcv_Law_86_Mo (Or.inl em4) (hR.2.2.2.2.2.2.2.2.2.2.2.2.2.2.2.1 (by omega) hm4 (by omega) (by omega)) rfl rfl (Nat.le_of_ble_eq_true rfl) d_Law_law_510 ?_
      rintro v h5 c5 n5 ⟨rfl, hc5, hn5⟩
      refine x_icmp_eq (tgt := 629) d_Law_law_513 (by decide) (fun _ => ?_) (fun hn => absurd rfl hn)
      exact at629 _ _ _ _ _
    · refine x_tableIn (tgt := 518) (off := 479) d_Law_law_39 (by decide) (by decide) (by decide) (by decide) ?_
      refine x_aload_n d_Law_law_518 rfl rfl ?_
      refine x_aload_n d_Law_law_519 rfl rfl ?_
      refine x_iload d_Law_law_520 rfl ?_
      refine x_iconst (v := 1) d_Law_law_522 (by decide) ?_
      refine x_iadd d_Law_law_523 ?_
      refine x_iald (k := k_aint) rfl (Or.inr hb) (by decide) v1 d_Law_law_524 ?_
      refine x_aload_n d_Law_law_525 rfl rfl ?_
      refine x_iload d_Law_law_526 rfl ?_
      refine x_iconst (v := 2) d_Law_law_528 (by decide) ?_
      refine x_iadd d_Law_law_529 ?_
      refine x_iald (k := k_aint) rfl (Or.inr hb) (by decide) v2 d_Law_law_530 ?_
      refine x_callV (As := [_, _]) (k := k_MarkerText) rfl xcv_Law_87_MT (Or.inl e0) (c_inClass0 (by omega) hx3) rfl rfl (Nat.le_of_ble_eq_true rfl) d_Law_law_531 ?_
      rintro v h4 c4 n4 ⟨rfl, rfl, rfl, rfl⟩
      have hm4 := hm3
      obtain ⟨mv4, em4⟩ := hR.2.2.1 hm4
      refine x_aload_n d_Law_law_534 rfl rfl ?_
      refine x_aload_n d_Law_law_535 rfl rfl ?_
      refine x_iload d_Law_law_536 rfl ?_
      refine x_iconst (v := 1) d_Law_law_538 (by decide) ?_
      refine x_iadd d_Law_law_539 ?_
      refine x_iald (k := k_aint) rfl (Or.inr hb) (by decide) v1 d_Law_law_540 ?_
      refine x_aload_n d_Law_law_541 rfl rfl ?_
      refine x_iload d_Law_law_542 rfl ?_
      refine x_iconst (v := 2) d_Law_law_544 (by decide) ?_
      refine x_iadd d_Law_law_545 ?_
      refine x_iald (k := k_aint) rfl (Or.inr hb) (by decide) v2 d_Law_law_546 ?_
      refine x_callV (As := [_, _]) (k := k_MarkerTextModel) rfl xcv_Law_91_Mo (Or.inl em4) (hR.2.2.2.2.2.2.2.2.2.2.2.2.2.2.2.2.1 (by omega) hm4 (by omega) (by omega)) rfl rfl (Nat.le_of_ble_eq_true rfl) d_Law_law_547 ?_
      rintro v h5 c5 n5 ⟨rfl, hc5, hn5⟩
      refine x_icmp_eq (tgt := 629) d_Law_law_550 (by decide) (fun _ => ?_) (fun hn => absurd rfl hn)
      exact at629 _ _ _ _ _
    · refine x_tableIn (tgt := 555) (off := 516) d_Law_law_39 (by decide) (by decide) (by decide) (by decide) ?_
      refine x_aload_n d_Law_law_555 rfl rfl ?_
      refine x_aload_n d_Law_law_556 rfl rfl ?_
      refine x_iload d_Law_law_557 rfl ?_
      refine x_iconst (v := 1) d_Law_law_559 (by decide) ?_
      refine x_iadd d_Law_law_560 ?_
      refine x_iald (k := k_aint) rfl (Or.inr hb) (by decide) v1 d_Law_law_561 ?_
      refine x_aload_n d_Law_law_562 rfl rfl ?_
      refine x_iload d_Law_law_563 rfl ?_
      refine x_iconst (v := 2) d_Law_law_565 (by decide) ?_
      refine x_iadd d_Law_law_566 ?_
      refine x_iald (k := k_aint) rfl (Or.inr hb) (by decide) v2 d_Law_law_567 ?_
      refine x_callV (As := [_, _]) (k := k_MarkerText) rfl xcv_Law_92_MT (Or.inl e0) (c_sample0 (by omega) hx3) rfl rfl (Nat.le_of_ble_eq_true rfl) d_Law_law_568 ?_
      rintro v h4 c4 n4 ⟨rfl, rfl, rfl, rfl⟩
      have hm4 := hm3
      obtain ⟨mv4, em4⟩ := hR.2.2.1 hm4
      refine x_aload_n d_Law_law_571 rfl rfl ?_
      refine x_aload_n d_Law_law_572 rfl rfl ?_
      refine x_iload d_Law_law_573 rfl ?_
      refine x_iconst (v := 1) d_Law_law_575 (by decide) ?_
      refine x_iadd d_Law_law_576 ?_
      refine x_iald (k := k_aint) rfl (Or.inr hb) (by decide) v1 d_Law_law_577 ?_
      refine x_aload_n d_Law_law_578 rfl rfl ?_
      refine x_iload d_Law_law_579 rfl ?_
      refine x_iconst (v := 2) d_Law_law_581 (by decide) ?_
      refine x_iadd d_Law_law_582 ?_
      refine x_iald (k := k_aint) rfl (Or.inr hb) (by decide) v2 d_Law_law_583 ?_
      refine x_callV (As := [_, _]) (k := k_MarkerTextModel) rfl xcv_Law_95_Mo (Or.inl em4) (hR.2.2.2.2.2.2.2.2.2.2.2.2.2.2.2.2.2.1 (by omega) hm4 (by omega) (by omega)) rfl rfl (Nat.le_of_ble_eq_true rfl) d_Law_law_584 ?_
      rintro v h5 c5 n5 ⟨rfl, hc5, hn5⟩
      refine x_icmp_eq (tgt := 629) d_Law_law_587 (by decide) (fun _ => ?_) (fun hn => absurd rfl hn)
      exact at629 _ _ _ _ _
    · refine x_tableIn (tgt := 592) (off := 553) d_Law_law_39 (by decide) (by decide) (by decide) (by decide) ?_
      refine x_aload_n d_Law_law_592 rfl rfl ?_
      refine x_aload_n d_Law_law_593 rfl rfl ?_
      refine x_iload d_Law_law_594 rfl ?_
      refine x_iconst (v := 1) d_Law_law_596 (by decide) ?_
      refine x_iadd d_Law_law_597 ?_
      refine x_iald (k := k_aint) rfl (Or.inr hb) (by decide) v1 d_Law_law_598 ?_
      refine x_aload_n d_Law_law_599 rfl rfl ?_
      refine x_iload d_Law_law_600 rfl ?_
      refine x_iconst (v := 2) d_Law_law_602 (by decide) ?_
      refine x_iadd d_Law_law_603 ?_
      refine x_iald (k := k_aint) rfl (Or.inr hb) (by decide) v2 d_Law_law_604 ?_
      refine x_callV (As := [_, _]) (k := k_MarkerText) rfl xcv_Law_96_MT (Or.inl e0) (c_printed0 (by omega) hx3) rfl rfl (Nat.le_of_ble_eq_true rfl) d_Law_law_605 ?_
      rintro v h4 c4 n4 ⟨rfl, rfl, rfl, rfl⟩
      have hm4 := hm3
      obtain ⟨mv4, em4⟩ := hR.2.2.1 hm4
      refine x_aload_n d_Law_law_608 rfl rfl ?_
      refine x_aload_n d_Law_law_609 rfl rfl ?_
      refine x_iload d_Law_law_610 rfl ?_
      refine x_iconst (v := 1) d_Law_law_612 (by decide) ?_
      refine x_iadd d_Law_law_613 ?_
      refine x_iald (k := k_aint) rfl (Or.inr hb) (by decide) v1 d_Law_law_614 ?_
      refine x_aload_n d_Law_law_615 rfl rfl ?_
      refine x_iload d_Law_law_616 rfl ?_
      refine x_iconst (v := 2) d_Law_law_618 (by decide) ?_
      refine x_iadd d_Law_law_619 ?_
      refine x_iald (k := k_aint) rfl (Or.inr hb) (by decide) v2 d_Law_law_620 ?_
      refine x_callV (As := [_, _]) (k := k_MarkerTextModel) rfl xcv_Law_99_Mo (Or.inl em4) (hR.2.2.2.2.2.2.2.2.2.2.2.2.2.2.2.2.2.2 (by omega) hm4 (by omega) (by omega)) rfl rfl (Nat.le_of_ble_eq_true rfl) d_Law_law_621 ?_
      rintro v h5 c5 n5 ⟨rfl, hc5, hn5⟩
      refine x_icmp_eq (tgt := 629) d_Law_law_624 (by decide) (fun _ => ?_) (fun hn => absurd rfl hn)
      exact at629 _ _ _ _ _
    · refine x_tableOut (tgt := 629) d_Law_law_39 (Or.inr (by decide)) (by decide) ?_
      exact at629 _ _ _ _ _
  · refine x_iload d_Law_law_23 rfl ?_
    refine x_aload_n d_Law_law_25 rfl rfl ?_
    refine x_alen (k := k_aint) rfl (Or.inr hb) (v := nI L) (by rw [List.length_map, List.length_range]; rfl) d_Law_law_26 ?_
    refine x_iconst (v := 3) d_Law_law_27 (by decide) ?_
    refine x_isub d_Law_law_28 ?_
    have hlt : nI L - 3 < 0 := by
      have : L = 0 ∨ L = 1 ∨ L = 2 := by omega
      rcases this with rfl | rfl | rfl <;> decide
    refine x_icmp_gt (tgt := 635) d_Law_law_29 (by decide) (fun _ => ?_) (fun hn => absurd hlt hn)
    refine x_iconst (v := 1) d_Law_law_635 (by decide) ?_
    exact x_lawret d_Law_law_636
end LAWB
