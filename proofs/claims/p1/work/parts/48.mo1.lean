section
abbrev y_Mo_init : MethodName := ⟨"MarkerTextModel", "<init>", "()V"⟩
abbrev M_Mo_init : XMt := (y_Mo_init, prog_13_method_1_code, 1, none)
theorem d_Mo_init_0 : decode M_Mo_init.2.1 0 = .ok (.aload_n 0, 1) := by decide +kernel
theorem d_Mo_init_1 : decode M_Mo_init.2.1 1 = .ok (.invokespecial 1, 3) := by decide +kernel
theorem xw_1169 : (Jvm.Cond.methodLink "MarkerTextModel" (1 : Nat) ({ cls := "java/lang/Object", name := "<init>", desc := "()V" } : Jvm.MethodName)) ∈ xT := xT_at 1169 (by decide +kernel) (by decide +kernel)
theorem d_Mo_init_4 : decode M_Mo_init.2.1 4 = .ok (.aload_n 0, 1) := by decide +kernel
theorem d_Mo_init_5 : decode M_Mo_init.2.1 5 = .ok (.sipush 160, 3) := by decide +kernel
theorem d_Mo_init_8 : decode M_Mo_init.2.1 8 = .ok (.newarray .int, 2) := by decide +kernel
theorem d_Mo_init_10 : decode M_Mo_init.2.1 10 = .ok (.putfield 7, 3) := by decide +kernel
theorem xw_1171 : (Jvm.Cond.fieldLink "MarkerTextModel" (7 : Nat) "MarkerTextModel" "text" "[I") ∈ xT := xT_at 1171 (by decide +kernel) (by decide +kernel)
theorem xf_Mo_7_Mo : xF "MarkerTextModel" 7 k_MarkerTextModel 1 := ⟨_, _, _, "MarkerTextModel", rfl, by decide, Or.inl xw_1171, Or.inl rfl⟩
theorem xp_Mo_1 : xP k_MarkerTextModel 1 true (.array .int) := ⟨_, _, _, rfl, rfl, by decide +kernel⟩
theorem d_Mo_init_13 : decode M_Mo_init.2.1 13 = .ok (.aload_n 0, 1) := by decide +kernel
theorem d_Mo_init_14 : decode M_Mo_init.2.1 14 = .ok (.bipush 48, 2) := by decide +kernel
theorem d_Mo_init_16 : decode M_Mo_init.2.1 16 = .ok (.newarray .int, 2) := by decide +kernel
theorem d_Mo_init_18 : decode M_Mo_init.2.1 18 = .ok (.putfield 13, 3) := by decide +kernel
theorem xw_1174 : (Jvm.Cond.fieldLink "MarkerTextModel" (13 : Nat) "MarkerTextModel" "letters" "[I") ∈ xT := xT_at 1174 (by decide +kernel) (by decide +kernel)
theorem xf_Mo_13_Mo : xF "MarkerTextModel" 13 k_MarkerTextModel 4 := ⟨_, _, _, "MarkerTextModel", rfl, by decide, Or.inl xw_1174, Or.inl rfl⟩
theorem xp_Mo_4 : xP k_MarkerTextModel 4 true (.array .int) := ⟨_, _, _, rfl, rfl, by decide +kernel⟩
theorem d_Mo_init_21 : decode M_Mo_init.2.1 21 = .ok (.aload_n 0, 1) := by decide +kernel
theorem d_Mo_init_22 : decode M_Mo_init.2.1 22 = .ok (.bipush 6, 2) := by decide +kernel
theorem d_Mo_init_24 : decode M_Mo_init.2.1 24 = .ok (.newarray .int, 2) := by decide +kernel
theorem d_Mo_init_26 : decode M_Mo_init.2.1 26 = .ok (.putfield 16, 3) := by decide +kernel
theorem xw_1175 : (Jvm.Cond.fieldLink "MarkerTextModel" (16 : Nat) "MarkerTextModel" "lengths" "[I") ∈ xT := xT_at 1175 (by decide +kernel) (by decide +kernel)
theorem xf_Mo_16_Mo : xF "MarkerTextModel" 16 k_MarkerTextModel 5 := ⟨_, _, _, "MarkerTextModel", rfl, by decide, Or.inl xw_1175, Or.inl rfl⟩
theorem xp_Mo_5 : xP k_MarkerTextModel 5 true (.array .int) := ⟨_, _, _, rfl, rfl, by decide +kernel⟩
theorem d_Mo_init_29 : decode M_Mo_init.2.1 29 = .ok (.aload_n 0, 1) := by decide +kernel
theorem d_Mo_init_30 : decode M_Mo_init.2.1 30 = .ok (.bipush 6, 2) := by decide +kernel
theorem d_Mo_init_32 : decode M_Mo_init.2.1 32 = .ok (.newarray .int, 2) := by decide +kernel
theorem d_Mo_init_34 : decode M_Mo_init.2.1 34 = .ok (.putfield 19, 3) := by decide +kernel
theorem xw_1176 : (Jvm.Cond.fieldLink "MarkerTextModel" (19 : Nat) "MarkerTextModel" "kinds" "[I") ∈ xT := xT_at 1176 (by decide +kernel) (by decide +kernel)
theorem xf_Mo_19_Mo : xF "MarkerTextModel" 19 k_MarkerTextModel 6 := ⟨_, _, _, "MarkerTextModel", rfl, by decide, Or.inl xw_1176, Or.inl rfl⟩
theorem xp_Mo_6 : xP k_MarkerTextModel 6 true (.array .int) := ⟨_, _, _, rfl, rfl, by decide +kernel⟩
theorem d_Mo_init_37 : decode M_Mo_init.2.1 37 = .ok (.aload_n 0, 1) := by decide +kernel
theorem d_Mo_init_38 : decode M_Mo_init.2.1 38 = .ok (.bipush 6, 2) := by decide +kernel
theorem d_Mo_init_40 : decode M_Mo_init.2.1 40 = .ok (.newarray .int, 2) := by decide +kernel
theorem d_Mo_init_42 : decode M_Mo_init.2.1 42 = .ok (.putfield 22, 3) := by decide +kernel
theorem xw_1177 : (Jvm.Cond.fieldLink "MarkerTextModel" (22 : Nat) "MarkerTextModel" "knownMany" "[I") ∈ xT := xT_at 1177 (by decide +kernel) (by decide +kernel)
theorem xf_Mo_22_Mo : xF "MarkerTextModel" 22 k_MarkerTextModel 7 := ⟨_, _, _, "MarkerTextModel", rfl, by decide, Or.inl xw_1177, Or.inl rfl⟩
theorem xp_Mo_7 : xP k_MarkerTextModel 7 true (.array .int) := ⟨_, _, _, rfl, rfl, by decide +kernel⟩
theorem d_Mo_init_45 : decode M_Mo_init.2.1 45 = .ok (.aload_n 0, 1) := by decide +kernel
theorem d_Mo_init_46 : decode M_Mo_init.2.1 46 = .ok (.bipush 36, 2) := by decide +kernel
theorem d_Mo_init_48 : decode M_Mo_init.2.1 48 = .ok (.newarray .long, 2) := by decide +kernel
theorem d_Mo_init_50 : decode M_Mo_init.2.1 50 = .ok (.putfield 25, 3) := by decide +kernel
theorem xw_1178 : (Jvm.Cond.fieldLink "MarkerTextModel" (25 : Nat) "MarkerTextModel" "known" "[J") ∈ xT := xT_at 1178 (by decide +kernel) (by decide +kernel)
theorem xf_Mo_25_Mo : xF "MarkerTextModel" 25 k_MarkerTextModel 8 := ⟨_, _, _, "MarkerTextModel", rfl, by decide, Or.inl xw_1178, Or.inl rfl⟩
theorem xp_Mo_8 : xP k_MarkerTextModel 8 true (.array .long) := ⟨_, _, _, rfl, rfl, by decide +kernel⟩
theorem d_Mo_init_53 : decode M_Mo_init.2.1 53 = .ok (.aload_n 0, 1) := by decide +kernel
theorem d_Mo_init_54 : decode M_Mo_init.2.1 54 = .ok (.bipush 6, 2) := by decide +kernel
theorem d_Mo_init_56 : decode M_Mo_init.2.1 56 = .ok (.newarray .boolean, 2) := by decide +kernel
theorem xw_1327 : (Jvm.Cond.arrayClass Jvm.ClassFile.FieldType.boolean) ∈ xT := xT_at 1327 (by decide +kernel) (by decide +kernel)
theorem d_Mo_init_58 : decode M_Mo_init.2.1 58 = .ok (.putfield 29, 3) := by decide +kernel
theorem xw_1179 : (Jvm.Cond.fieldLink "MarkerTextModel" (29 : Nat) "MarkerTextModel" "given" "[Z") ∈ xT := xT_at 1179 (by decide +kernel) (by decide +kernel)
theorem xf_Mo_29_Mo : xF "MarkerTextModel" 29 k_MarkerTextModel 9 := ⟨_, _, _, "MarkerTextModel", rfl, by decide, Or.inl xw_1179, Or.inl rfl⟩
theorem xp_Mo_9 : xP k_MarkerTextModel 9 true (.array .boolean) := ⟨_, _, _, rfl, rfl, by decide +kernel⟩
theorem d_Mo_init_61 : decode M_Mo_init.2.1 61 = .ok (.aload_n 0, 1) := by decide +kernel
theorem d_Mo_init_62 : decode M_Mo_init.2.1 62 = .ok (.bipush 6, 2) := by decide +kernel
theorem d_Mo_init_64 : decode M_Mo_init.2.1 64 = .ok (.newarray .long, 2) := by decide +kernel
theorem d_Mo_init_66 : decode M_Mo_init.2.1 66 = .ok (.putfield 33, 3) := by decide +kernel
theorem xw_1180 : (Jvm.Cond.fieldLink "MarkerTextModel" (33 : Nat) "MarkerTextModel" "gives" "[J") ∈ xT := xT_at 1180 (by decide +kernel) (by decide +kernel)
theorem xf_Mo_33_Mo : xF "MarkerTextModel" 33 k_MarkerTextModel 10 := ⟨_, _, _, "MarkerTextModel", rfl, by decide, Or.inl xw_1180, Or.inl rfl⟩
theorem xp_Mo_10 : xP k_MarkerTextModel 10 true (.array .long) := ⟨_, _, _, rfl, rfl, by decide +kernel⟩
theorem d_Mo_init_69 : decode M_Mo_init.2.1 69 = .ok (.aload_n 0, 1) := by decide +kernel
theorem d_Mo_init_70 : decode M_Mo_init.2.1 70 = .ok (.sipush 1152, 3) := by decide +kernel
theorem d_Mo_init_73 : decode M_Mo_init.2.1 73 = .ok (.newarray .int, 2) := by decide +kernel
theorem d_Mo_init_75 : decode M_Mo_init.2.1 75 = .ok (.putfield 36, 3) := by decide +kernel
theorem xw_1182 : (Jvm.Cond.fieldLink "MarkerTextModel" (36 : Nat) "MarkerTextModel" "nodeKinds" "[I") ∈ xT := xT_at 1182 (by decide +kernel) (by decide +kernel)
theorem xf_Mo_36_Mo : xF "MarkerTextModel" 36 k_MarkerTextModel 12 := ⟨_, _, _, "MarkerTextModel", rfl, by decide, Or.inl xw_1182, Or.inl rfl⟩
theorem xp_Mo_12 : xP k_MarkerTextModel 12 true (.array .int) := ⟨_, _, _, rfl, rfl, by decide +kernel⟩
theorem d_Mo_init_78 : decode M_Mo_init.2.1 78 = .ok (.aload_n 0, 1) := by decide +kernel
theorem d_Mo_init_79 : decode M_Mo_init.2.1 79 = .ok (.sipush 1152, 3) := by decide +kernel
theorem d_Mo_init_82 : decode M_Mo_init.2.1 82 = .ok (.newarray .int, 2) := by decide +kernel
theorem d_Mo_init_84 : decode M_Mo_init.2.1 84 = .ok (.putfield 39, 3) := by decide +kernel
theorem xw_1183 : (Jvm.Cond.fieldLink "MarkerTextModel" (39 : Nat) "MarkerTextModel" "lefts" "[I") ∈ xT := xT_at 1183 (by decide +kernel) (by decide +kernel)
theorem xf_Mo_39_Mo : xF "MarkerTextModel" 39 k_MarkerTextModel 13 := ⟨_, _, _, "MarkerTextModel", rfl, by decide, Or.inl xw_1183, Or.inl rfl⟩
theorem xp_Mo_13 : xP k_MarkerTextModel 13 true (.array .int) := ⟨_, _, _, rfl, rfl, by decide +kernel⟩
theorem d_Mo_init_87 : decode M_Mo_init.2.1 87 = .ok (.aload_n 0, 1) := by decide +kernel
theorem d_Mo_init_88 : decode M_Mo_init.2.1 88 = .ok (.sipush 1152, 3) := by decide +kernel
theorem d_Mo_init_91 : decode M_Mo_init.2.1 91 = .ok (.newarray .int, 2) := by decide +kernel
theorem d_Mo_init_93 : decode M_Mo_init.2.1 93 = .ok (.putfield 42, 3) := by decide +kernel
theorem xw_1184 : (Jvm.Cond.fieldLink "MarkerTextModel" (42 : Nat) "MarkerTextModel" "rights" "[I") ∈ xT := xT_at 1184 (by decide +kernel) (by decide +kernel)
theorem xf_Mo_42_Mo : xF "MarkerTextModel" 42 k_MarkerTextModel 14 := ⟨_, _, _, "MarkerTextModel", rfl, by decide, Or.inl xw_1184, Or.inl rfl⟩
theorem xp_Mo_14 : xP k_MarkerTextModel 14 true (.array .int) := ⟨_, _, _, rfl, rfl, by decide +kernel⟩
theorem d_Mo_init_96 : decode M_Mo_init.2.1 96 = .ok (.aload_n 0, 1) := by decide +kernel
theorem d_Mo_init_97 : decode M_Mo_init.2.1 97 = .ok (.bipush 9, 2) := by decide +kernel
theorem d_Mo_init_99 : decode M_Mo_init.2.1 99 = .ok (.newarray .int, 2) := by decide +kernel
theorem d_Mo_init_101 : decode M_Mo_init.2.1 101 = .ok (.putfield 45, 3) := by decide +kernel
theorem xw_1185 : (Jvm.Cond.fieldLink "MarkerTextModel" (45 : Nat) "MarkerTextModel" "nodes" "[I") ∈ xT := xT_at 1185 (by decide +kernel) (by decide +kernel)
theorem xf_Mo_45_Mo : xF "MarkerTextModel" 45 k_MarkerTextModel 15 := ⟨_, _, _, "MarkerTextModel", rfl, by decide, Or.inl xw_1185, Or.inl rfl⟩
theorem xp_Mo_15 : xP k_MarkerTextModel 15 true (.array .int) := ⟨_, _, _, rfl, rfl, by decide +kernel⟩
theorem d_Mo_init_104 : decode M_Mo_init.2.1 104 = .ok (.aload_n 0, 1) := by decide +kernel
theorem d_Mo_init_105 : decode M_Mo_init.2.1 105 = .ok (.bipush 9, 2) := by decide +kernel
theorem d_Mo_init_107 : decode M_Mo_init.2.1 107 = .ok (.newarray .int, 2) := by decide +kernel
theorem d_Mo_init_109 : decode M_Mo_init.2.1 109 = .ok (.putfield 48, 3) := by decide +kernel
theorem xw_1186 : (Jvm.Cond.fieldLink "MarkerTextModel" (48 : Nat) "MarkerTextModel" "tops" "[I") ∈ xT := xT_at 1186 (by decide +kernel) (by decide +kernel)
theorem xf_Mo_48_Mo : xF "MarkerTextModel" 48 k_MarkerTextModel 16 := ⟨_, _, _, "MarkerTextModel", rfl, by decide, Or.inl xw_1186, Or.inl rfl⟩
theorem xp_Mo_16 : xP k_MarkerTextModel 16 true (.array .int) := ⟨_, _, _, rfl, rfl, by decide +kernel⟩
theorem d_Mo_init_112 : decode M_Mo_init.2.1 112 = .ok (.aload_n 0, 1) := by decide +kernel
theorem d_Mo_init_113 : decode M_Mo_init.2.1 113 = .ok (.sipush 360, 3) := by decide +kernel
theorem d_Mo_init_116 : decode M_Mo_init.2.1 116 = .ok (.newarray .int, 2) := by decide +kernel
theorem d_Mo_init_118 : decode M_Mo_init.2.1 118 = .ok (.putfield 51, 3) := by decide +kernel
theorem xw_1187 : (Jvm.Cond.fieldLink "MarkerTextModel" (51 : Nat) "MarkerTextModel" "testNames" "[I") ∈ xT := xT_at 1187 (by decide +kernel) (by decide +kernel)
theorem xf_Mo_51_Mo : xF "MarkerTextModel" 51 k_MarkerTextModel 17 := ⟨_, _, _, "MarkerTextModel", rfl, by decide, Or.inl xw_1187, Or.inl rfl⟩
theorem xp_Mo_17 : xP k_MarkerTextModel 17 true (.array .int) := ⟨_, _, _, rfl, rfl, by decide +kernel⟩
theorem d_Mo_init_121 : decode M_Mo_init.2.1 121 = .ok (.aload_n 0, 1) := by decide +kernel
theorem d_Mo_init_122 : decode M_Mo_init.2.1 122 = .ok (.sipush 360, 3) := by decide +kernel
theorem d_Mo_init_125 : decode M_Mo_init.2.1 125 = .ok (.newarray .int, 2) := by decide +kernel
theorem d_Mo_init_127 : decode M_Mo_init.2.1 127 = .ok (.putfield 54, 3) := by decide +kernel
theorem xw_1188 : (Jvm.Cond.fieldLink "MarkerTextModel" (54 : Nat) "MarkerTextModel" "operators" "[I") ∈ xT := xT_at 1188 (by decide +kernel) (by decide +kernel)
theorem xf_Mo_54_Mo : xF "MarkerTextModel" 54 k_MarkerTextModel 18 := ⟨_, _, _, "MarkerTextModel", rfl, by decide, Or.inl xw_1188, Or.inl rfl⟩
theorem xp_Mo_18 : xP k_MarkerTextModel 18 true (.array .int) := ⟨_, _, _, rfl, rfl, by decide +kernel⟩
theorem d_Mo_init_130 : decode M_Mo_init.2.1 130 = .ok (.aload_n 0, 1) := by decide +kernel
theorem d_Mo_init_131 : decode M_Mo_init.2.1 131 = .ok (.sipush 360, 3) := by decide +kernel
theorem d_Mo_init_134 : decode M_Mo_init.2.1 134 = .ok (.newarray .int, 2) := by decide +kernel
theorem d_Mo_init_136 : decode M_Mo_init.2.1 136 = .ok (.putfield 57, 3) := by decide +kernel
theorem xw_1189 : (Jvm.Cond.fieldLink "MarkerTextModel" (57 : Nat) "MarkerTextModel" "firsts" "[I") ∈ xT := xT_at 1189 (by decide +kernel) (by decide +kernel)
theorem xf_Mo_57_Mo : xF "MarkerTextModel" 57 k_MarkerTextModel 19 := ⟨_, _, _, "MarkerTextModel", rfl, by decide, Or.inl xw_1189, Or.inl rfl⟩
theorem xp_Mo_19 : xP k_MarkerTextModel 19 true (.array .int) := ⟨_, _, _, rfl, rfl, by decide +kernel⟩
theorem d_Mo_init_139 : decode M_Mo_init.2.1 139 = .ok (.aload_n 0, 1) := by decide +kernel
theorem d_Mo_init_140 : decode M_Mo_init.2.1 140 = .ok (.sipush 360, 3) := by decide +kernel
theorem d_Mo_init_143 : decode M_Mo_init.2.1 143 = .ok (.newarray .int, 2) := by decide +kernel
theorem d_Mo_init_145 : decode M_Mo_init.2.1 145 = .ok (.putfield 60, 3) := by decide +kernel
theorem xw_1190 : (Jvm.Cond.fieldLink "MarkerTextModel" (60 : Nat) "MarkerTextModel" "manies" "[I") ∈ xT := xT_at 1190 (by decide +kernel) (by decide +kernel)
theorem xf_Mo_60_Mo : xF "MarkerTextModel" 60 k_MarkerTextModel 20 := ⟨_, _, _, "MarkerTextModel", rfl, by decide, Or.inl xw_1190, Or.inl rfl⟩
theorem xp_Mo_20 : xP k_MarkerTextModel 20 true (.array .int) := ⟨_, _, _, rfl, rfl, by decide +kernel⟩
theorem d_Mo_init_148 : decode M_Mo_init.2.1 148 = .ok (.aload_n 0, 1) := by decide +kernel
theorem d_Mo_init_149 : decode M_Mo_init.2.1 149 = .ok (.bipush 9, 2) := by decide +kernel
theorem d_Mo_init_151 : decode M_Mo_init.2.1 151 = .ok (.newarray .int, 2) := by decide +kernel
theorem d_Mo_init_153 : decode M_Mo_init.2.1 153 = .ok (.putfield 63, 3) := by decide +kernel
theorem xw_1191 : (Jvm.Cond.fieldLink "MarkerTextModel" (63 : Nat) "MarkerTextModel" "tests" "[I") ∈ xT := xT_at 1191 (by decide +kernel) (by decide +kernel)
theorem xf_Mo_63_Mo : xF "MarkerTextModel" 63 k_MarkerTextModel 21 := ⟨_, _, _, "MarkerTextModel", rfl, by decide, Or.inl xw_1191, Or.inl rfl⟩
theorem xp_Mo_21 : xP k_MarkerTextModel 21 true (.array .int) := ⟨_, _, _, rfl, rfl, by decide +kernel⟩
theorem d_Mo_init_156 : decode M_Mo_init.2.1 156 = .ok (.aload_n 0, 1) := by decide +kernel
theorem d_Mo_init_157 : decode M_Mo_init.2.1 157 = .ok (.sipush 576, 3) := by decide +kernel
theorem d_Mo_init_160 : decode M_Mo_init.2.1 160 = .ok (.newarray .long, 2) := by decide +kernel
theorem d_Mo_init_162 : decode M_Mo_init.2.1 162 = .ok (.putfield 66, 3) := by decide +kernel
theorem xw_1192 : (Jvm.Cond.fieldLink "MarkerTextModel" (66 : Nat) "MarkerTextModel" "keys" "[J") ∈ xT := xT_at 1192 (by decide +kernel) (by decide +kernel)
theorem xf_Mo_66_Mo : xF "MarkerTextModel" 66 k_MarkerTextModel 22 := ⟨_, _, _, "MarkerTextModel", rfl, by decide, Or.inl xw_1192, Or.inl rfl⟩
theorem xp_Mo_22 : xP k_MarkerTextModel 22 true (.array .long) := ⟨_, _, _, rfl, rfl, by decide +kernel⟩
theorem d_Mo_init_165 : decode M_Mo_init.2.1 165 = .ok (.aload_n 0, 1) := by decide +kernel
theorem d_Mo_init_166 : decode M_Mo_init.2.1 166 = .ok (.sipush 6336, 3) := by decide +kernel
theorem d_Mo_init_169 : decode M_Mo_init.2.1 169 = .ok (.newarray .int, 2) := by decide +kernel
theorem d_Mo_init_171 : decode M_Mo_init.2.1 171 = .ok (.putfield 69, 3) := by decide +kernel
theorem xw_1193 : (Jvm.Cond.fieldLink "MarkerTextModel" (69 : Nat) "MarkerTextModel" "written" "[I") ∈ xT := xT_at 1193 (by decide +kernel) (by decide +kernel)
theorem xf_Mo_69_Mo : xF "MarkerTextModel" 69 k_MarkerTextModel 23 := ⟨_, _, _, "MarkerTextModel", rfl, by decide, Or.inl xw_1193, Or.inl rfl⟩
theorem xp_Mo_23 : xP k_MarkerTextModel 23 true (.array .int) := ⟨_, _, _, rfl, rfl, by decide +kernel⟩
theorem d_Mo_init_174 : decode M_Mo_init.2.1 174 = .ok (.aload_n 0, 1) := by decide +kernel
theorem d_Mo_init_175 : decode M_Mo_init.2.1 175 = .ok (.sipush 576, 3) := by decide +kernel
theorem d_Mo_init_178 : decode M_Mo_init.2.1 178 = .ok (.newarray .int, 2) := by decide +kernel
theorem d_Mo_init_180 : decode M_Mo_init.2.1 180 = .ok (.putfield 72, 3) := by decide +kernel
theorem xw_1194 : (Jvm.Cond.fieldLink "MarkerTextModel" (72 : Nat) "MarkerTextModel" "writtenSizes" "[I") ∈ xT := xT_at 1194 (by decide +kernel) (by decide +kernel)
theorem xf_Mo_72_Mo : xF "MarkerTextModel" 72 k_MarkerTextModel 24 := ⟨_, _, _, "MarkerTextModel", rfl, by decide, Or.inl xw_1194, Or.inl rfl⟩
theorem xp_Mo_24 : xP k_MarkerTextModel 24 true (.array .int) := ⟨_, _, _, rfl, rfl, by decide +kernel⟩
theorem d_Mo_init_183 : decode M_Mo_init.2.1 183 = .ok (.aload_n 0, 1) := by decide +kernel
theorem d_Mo_init_184 : decode M_Mo_init.2.1 184 = .ok (.sipush 576, 3) := by decide +kernel
theorem d_Mo_init_187 : decode M_Mo_init.2.1 187 = .ok (.newarray .int, 2) := by decide +kernel
theorem d_Mo_init_189 : decode M_Mo_init.2.1 189 = .ok (.putfield 75, 3) := by decide +kernel
theorem xw_1195 : (Jvm.Cond.fieldLink "MarkerTextModel" (75 : Nat) "MarkerTextModel" "places" "[I") ∈ xT := xT_at 1195 (by decide +kernel) (by decide +kernel)
theorem xf_Mo_75_Mo : xF "MarkerTextModel" 75 k_MarkerTextModel 25 := ⟨_, _, _, "MarkerTextModel", rfl, by decide, Or.inl xw_1195, Or.inl rfl⟩
theorem xp_Mo_25 : xP k_MarkerTextModel 25 true (.array .int) := ⟨_, _, _, rfl, rfl, by decide +kernel⟩
theorem d_Mo_init_192 : decode M_Mo_init.2.1 192 = .ok (.aload_n 0, 1) := by decide +kernel
theorem d_Mo_init_193 : decode M_Mo_init.2.1 193 = .ok (.bipush 9, 2) := by decide +kernel
theorem d_Mo_init_195 : decode M_Mo_init.2.1 195 = .ok (.newarray .int, 2) := by decide +kernel
theorem d_Mo_init_197 : decode M_Mo_init.2.1 197 = .ok (.putfield 78, 3) := by decide +kernel
theorem xw_1196 : (Jvm.Cond.fieldLink "MarkerTextModel" (78 : Nat) "MarkerTextModel" "values" "[I") ∈ xT := xT_at 1196 (by decide +kernel) (by decide +kernel)
theorem xf_Mo_78_Mo : xF "MarkerTextModel" 78 k_MarkerTextModel 26 := ⟨_, _, _, "MarkerTextModel", rfl, by decide, Or.inl xw_1196, Or.inl rfl⟩
theorem xp_Mo_26 : xP k_MarkerTextModel 26 true (.array .int) := ⟨_, _, _, rfl, rfl, by decide +kernel⟩
theorem d_Mo_init_200 : decode M_Mo_init.2.1 200 = .ok (.aload_n 0, 1) := by decide +kernel
theorem d_Mo_init_201 : decode M_Mo_init.2.1 201 = .ok (.iconst (-1), 1) := by decide +kernel
theorem d_Mo_init_202 : decode M_Mo_init.2.1 202 = .ok (.putfield 81, 3) := by decide +kernel
theorem xw_1200 : (Jvm.Cond.fieldLink "MarkerTextModel" (81 : Nat) "MarkerTextModel" "place" "I") ∈ xT := xT_at 1200 (by decide +kernel) (by decide +kernel)
theorem xf_Mo_81_Mo : xF "MarkerTextModel" 81 k_MarkerTextModel 30 := ⟨_, _, _, "MarkerTextModel", rfl, by decide, Or.inl xw_1200, Or.inl rfl⟩
theorem xp_Mo_30 : xP k_MarkerTextModel 30 false .int := ⟨_, _, _, rfl, rfl, by decide +kernel⟩
theorem d_Mo_init_205 : decode M_Mo_init.2.1 205 = .ok (.aload_n 0, 1) := by decide +kernel
theorem d_Mo_init_206 : decode M_Mo_init.2.1 206 = .ok (.bipush 80, 2) := by decide +kernel
theorem d_Mo_init_208 : decode M_Mo_init.2.1 208 = .ok (.newarray .int, 2) := by decide +kernel
theorem d_Mo_init_210 : decode M_Mo_init.2.1 210 = .ok (.putfield 85, 3) := by decide +kernel
theorem xw_1201 : (Jvm.Cond.fieldLink "MarkerTextModel" (85 : Nat) "MarkerTextModel" "piles" "[I") ∈ xT := xT_at 1201 (by decide +kernel) (by decide +kernel)
theorem xf_Mo_85_Mo : xF "MarkerTextModel" 85 k_MarkerTextModel 31 := ⟨_, _, _, "MarkerTextModel", rfl, by decide, Or.inl xw_1201, Or.inl rfl⟩
theorem xp_Mo_31 : xP k_MarkerTextModel 31 true (.array .int) := ⟨_, _, _, rfl, rfl, by decide +kernel⟩
theorem d_Mo_init_213 : decode M_Mo_init.2.1 213 = .ok (.aload_n 0, 1) := by decide +kernel
theorem d_Mo_init_214 : decode M_Mo_init.2.1 214 = .ok (.bipush 80, 2) := by decide +kernel
theorem d_Mo_init_216 : decode M_Mo_init.2.1 216 = .ok (.newarray .int, 2) := by decide +kernel
theorem d_Mo_init_218 : decode M_Mo_init.2.1 218 = .ok (.putfield 88, 3) := by decide +kernel
theorem xw_1204 : (Jvm.Cond.fieldLink "MarkerTextModel" (88 : Nat) "MarkerTextModel" "ready" "[I") ∈ xT := xT_at 1204 (by decide +kernel) (by decide +kernel)
theorem xf_Mo_88_Mo : xF "MarkerTextModel" 88 k_MarkerTextModel 34 := ⟨_, _, _, "MarkerTextModel", rfl, by decide, Or.inl xw_1204, Or.inl rfl⟩
theorem xp_Mo_34 : xP k_MarkerTextModel 34 true (.array .int) := ⟨_, _, _, rfl, rfl, by decide +kernel⟩
theorem d_Mo_init_221 : decode M_Mo_init.2.1 221 = .ok (.aload_n 0, 1) := by decide +kernel
theorem d_Mo_init_222 : decode M_Mo_init.2.1 222 = .ok (.sipush 1980, 3) := by decide +kernel
theorem d_Mo_init_225 : decode M_Mo_init.2.1 225 = .ok (.newarray .long, 2) := by decide +kernel
theorem d_Mo_init_227 : decode M_Mo_init.2.1 227 = .ok (.putfield 91, 3) := by decide +kernel
theorem xw_1207 : (Jvm.Cond.fieldLink "MarkerTextModel" (91 : Nat) "MarkerTextModel" "sorted" "[J") ∈ xT := xT_at 1207 (by decide +kernel) (by decide +kernel)
theorem xf_Mo_91_Mo : xF "MarkerTextModel" 91 k_MarkerTextModel 37 := ⟨_, _, _, "MarkerTextModel", rfl, by decide, Or.inl xw_1207, Or.inl rfl⟩
theorem xp_Mo_37 : xP k_MarkerTextModel 37 true (.array .long) := ⟨_, _, _, rfl, rfl, by decide +kernel⟩
theorem d_Mo_init_230 : decode M_Mo_init.2.1 230 = .ok (.aload_n 0, 1) := by decide +kernel
theorem d_Mo_init_231 : decode M_Mo_init.2.1 231 = .ok (.bipush 6, 2) := by decide +kernel
theorem d_Mo_init_233 : decode M_Mo_init.2.1 233 = .ok (.newarray .int, 2) := by decide +kernel
theorem d_Mo_init_235 : decode M_Mo_init.2.1 235 = .ok (.putfield 94, 3) := by decide +kernel
theorem xw_1208 : (Jvm.Cond.fieldLink "MarkerTextModel" (94 : Nat) "MarkerTextModel" "many" "[I") ∈ xT := xT_at 1208 (by decide +kernel) (by decide +kernel)
theorem xf_Mo_94_Mo : xF "MarkerTextModel" 94 k_MarkerTextModel 38 := ⟨_, _, _, "MarkerTextModel", rfl, by decide, Or.inl xw_1208, Or.inl rfl⟩
theorem xp_Mo_38 : xP k_MarkerTextModel 38 true (.array .int) := ⟨_, _, _, rfl, rfl, by decide +kernel⟩
theorem d_Mo_init_238 : decode M_Mo_init.2.1 238 = .ok (.aload_n 0, 1) := by decide +kernel
theorem d_Mo_init_239 : decode M_Mo_init.2.1 239 = .ok (.bipush 6, 2) := by decide +kernel
theorem d_Mo_init_241 : decode M_Mo_init.2.1 241 = .ok (.newarray .boolean, 2) := by decide +kernel
theorem d_Mo_init_243 : decode M_Mo_init.2.1 243 = .ok (.putfield 97, 3) := by decide +kernel
theorem xw_1209 : (Jvm.Cond.fieldLink "MarkerTextModel" (97 : Nat) "MarkerTextModel" "asked" "[Z") ∈ xT := xT_at 1209 (by decide +kernel) (by decide +kernel)
theorem xf_Mo_97_Mo : xF "MarkerTextModel" 97 k_MarkerTextModel 39 := ⟨_, _, _, "MarkerTextModel", rfl, by decide, Or.inl xw_1209, Or.inl rfl⟩
theorem xp_Mo_39 : xP k_MarkerTextModel 39 true (.array .boolean) := ⟨_, _, _, rfl, rfl, by decide +kernel⟩
theorem d_Mo_init_246 : decode M_Mo_init.2.1 246 = .ok (.aload_n 0, 1) := by decide +kernel
theorem d_Mo_init_247 : decode M_Mo_init.2.1 247 = .ok (.bipush 6, 2) := by decide +kernel
theorem d_Mo_init_249 : decode M_Mo_init.2.1 249 = .ok (.newarray .int, 2) := by decide +kernel
theorem d_Mo_init_251 : decode M_Mo_init.2.1 251 = .ok (.putfield 100, 3) := by decide +kernel
theorem xw_1210 : (Jvm.Cond.fieldLink "MarkerTextModel" (100 : Nat) "MarkerTextModel" "choice" "[I") ∈ xT := xT_at 1210 (by decide +kernel) (by decide +kernel)
theorem xf_Mo_100_Mo : xF "MarkerTextModel" 100 k_MarkerTextModel 40 := ⟨_, _, _, "MarkerTextModel", rfl, by decide, Or.inl xw_1210, Or.inl rfl⟩
theorem xp_Mo_40 : xP k_MarkerTextModel 40 true (.array .int) := ⟨_, _, _, rfl, rfl, by decide +kernel⟩
theorem d_Mo_init_254 : decode M_Mo_init.2.1 254 = .ok (.aload_n 0, 1) := by decide +kernel
theorem d_Mo_init_255 : decode M_Mo_init.2.1 255 = .ok (.sipush 128, 3) := by decide +kernel
theorem d_Mo_init_258 : decode M_Mo_init.2.1 258 = .ok (.newarray .boolean, 2) := by decide +kernel
theorem d_Mo_init_260 : decode M_Mo_init.2.1 260 = .ok (.putfield 103, 3) := by decide +kernel
theorem xw_1211 : (Jvm.Cond.fieldLink "MarkerTextModel" (103 : Nat) "MarkerTextModel" "truths" "[Z") ∈ xT := xT_at 1211 (by decide +kernel) (by decide +kernel)
theorem xf_Mo_103_Mo : xF "MarkerTextModel" 103 k_MarkerTextModel 41 := ⟨_, _, _, "MarkerTextModel", rfl, by decide, Or.inl xw_1211, Or.inl rfl⟩
theorem xp_Mo_41 : xP k_MarkerTextModel 41 true (.array .boolean) := ⟨_, _, _, rfl, rfl, by decide +kernel⟩
theorem d_Mo_init_263 : decode M_Mo_init.2.1 263 = .ok (.aload_n 0, 1) := by decide +kernel
theorem d_Mo_init_264 : decode M_Mo_init.2.1 264 = .ok (.sipush 256, 3) := by decide +kernel
theorem d_Mo_init_267 : decode M_Mo_init.2.1 267 = .ok (.newarray .int, 2) := by decide +kernel
theorem d_Mo_init_269 : decode M_Mo_init.2.1 269 = .ok (.putfield 106, 3) := by decide +kernel
theorem xw_1215 : (Jvm.Cond.fieldLink "MarkerTextModel" (106 : Nat) "MarkerTextModel" "classBits" "[I") ∈ xT := xT_at 1215 (by decide +kernel) (by decide +kernel)
theorem xf_Mo_106_Mo : xF "MarkerTextModel" 106 k_MarkerTextModel 45 := ⟨_, _, _, "MarkerTextModel", rfl, by decide, Or.inl xw_1215, Or.inl rfl⟩
theorem xp_Mo_45 : xP k_MarkerTextModel 45 true (.array .int) := ⟨_, _, _, rfl, rfl, by decide +kernel⟩
theorem d_Mo_init_272 : decode M_Mo_init.2.1 272 = .ok (.aload_n 0, 1) := by decide +kernel
theorem d_Mo_init_273 : decode M_Mo_init.2.1 273 = .ok (.sipush 256, 3) := by decide +kernel
theorem d_Mo_init_276 : decode M_Mo_init.2.1 276 = .ok (.newarray .int, 2) := by decide +kernel
theorem d_Mo_init_278 : decode M_Mo_init.2.1 278 = .ok (.putfield 109, 3) := by decide +kernel
theorem xw_1216 : (Jvm.Cond.fieldLink "MarkerTextModel" (109 : Nat) "MarkerTextModel" "classMany" "[I") ∈ xT := xT_at 1216 (by decide +kernel) (by decide +kernel)
theorem xf_Mo_109_Mo : xF "MarkerTextModel" 109 k_MarkerTextModel 46 := ⟨_, _, _, "MarkerTextModel", rfl, by decide, Or.inl xw_1216, Or.inl rfl⟩
theorem xp_Mo_46 : xP k_MarkerTextModel 46 true (.array .int) := ⟨_, _, _, rfl, rfl, by decide +kernel⟩
theorem d_Mo_init_281 : decode M_Mo_init.2.1 281 = .ok (.aload_n 0, 1) := by decide +kernel
theorem d_Mo_init_282 : decode M_Mo_init.2.1 282 = .ok (.sipush 1536, 3) := by decide +kernel
theorem d_Mo_init_285 : decode M_Mo_init.2.1 285 = .ok (.newarray .int, 2) := by decide +kernel
theorem d_Mo_init_287 : decode M_Mo_init.2.1 287 = .ok (.putfield 112, 3) := by decide +kernel
theorem xw_1217 : (Jvm.Cond.fieldLink "MarkerTextModel" (112 : Nat) "MarkerTextModel" "classSamples" "[I") ∈ xT := xT_at 1217 (by decide +kernel) (by decide +kernel)
theorem xf_Mo_112_Mo : xF "MarkerTextModel" 112 k_MarkerTextModel 47 := ⟨_, _, _, "MarkerTextModel", rfl, by decide, Or.inl xw_1217, Or.inl rfl⟩
theorem xp_Mo_47 : xP k_MarkerTextModel 47 true (.array .int) := ⟨_, _, _, rfl, rfl, by decide +kernel⟩
theorem d_Mo_init_290 : decode M_Mo_init.2.1 290 = .ok (.aload_n 0, 1) := by decide +kernel
theorem d_Mo_init_291 : decode M_Mo_init.2.1 291 = .ok (.sipush 1000, 3) := by decide +kernel
theorem d_Mo_init_294 : decode M_Mo_init.2.1 294 = .ok (.newarray .int, 2) := by decide +kernel
theorem d_Mo_init_296 : decode M_Mo_init.2.1 296 = .ok (.putfield 115, 3) := by decide +kernel
theorem xw_1218 : (Jvm.Cond.fieldLink "MarkerTextModel" (115 : Nat) "MarkerTextModel" "print" "[I") ∈ xT := xT_at 1218 (by decide +kernel) (by decide +kernel)
theorem xf_Mo_115_Mo : xF "MarkerTextModel" 115 k_MarkerTextModel 48 := ⟨_, _, _, "MarkerTextModel", rfl, by decide, Or.inl xw_1218, Or.inl rfl⟩
theorem xp_Mo_48 : xP k_MarkerTextModel 48 true (.array .int) := ⟨_, _, _, rfl, rfl, by decide +kernel⟩
theorem d_Mo_init_299 : decode M_Mo_init.2.1 299 = .ok (.aload_n 0, 1) := by decide +kernel
theorem d_Mo_init_300 : decode M_Mo_init.2.1 300 = .ok (.sipush 600, 3) := by decide +kernel
theorem d_Mo_init_303 : decode M_Mo_init.2.1 303 = .ok (.newarray .int, 2) := by decide +kernel
theorem d_Mo_init_305 : decode M_Mo_init.2.1 305 = .ok (.putfield 118, 3) := by decide +kernel
theorem xw_1220 : (Jvm.Cond.fieldLink "MarkerTextModel" (118 : Nat) "MarkerTextModel" "todo" "[I") ∈ xT := xT_at 1220 (by decide +kernel) (by decide +kernel)
theorem xf_Mo_118_Mo : xF "MarkerTextModel" 118 k_MarkerTextModel 50 := ⟨_, _, _, "MarkerTextModel", rfl, by decide, Or.inl xw_1220, Or.inl rfl⟩
theorem xp_Mo_50 : xP k_MarkerTextModel 50 true (.array .int) := ⟨_, _, _, rfl, rfl, by decide +kernel⟩
theorem d_Mo_init_308 : decode M_Mo_init.2.1 308 = .ok (.return_, 1) := by decide +kernel
end
section MO1
variable {l : Launch} {G : XG} {h : XH} {c n d : Nat}
abbrev moV (rf : Nat → Nat) (th sz wa sl wr pl pi op rm cl cs cn : Int32) : List Value := [.int th, .ref (rf 1), .int sz, .int 0, .ref (rf 4), .ref (rf 5), .ref (rf 6), .ref (rf 7), .ref (rf 8), .ref (rf 9), .ref (rf 10), .int 0, .ref (rf 12), .ref (rf 13), .ref (rf 14), .ref (rf 15), .ref (rf 16), .ref (rf 17), .ref (rf 18), .ref (rf 19), .ref (rf 20), .ref (rf 21), .ref (rf 22), .ref (rf 23), .ref (rf 24), .ref (rf 25), .ref (rf 26), .int wa, .int sl, .int wr, .int pl, .ref (rf 31), .int pi, .int op, .ref (rf 34), .int rm, .long 0, .ref (rf 37), .ref (rf 38), .ref (rf 39), .ref (rf 40), .ref (rf 41), .int cl, .int cs, .int cn, .ref (rf 45), .ref (rf 46), .ref (rf 47), .ref (rf 48), .int 0, .ref (rf 50), .int 0]
/-- the arrays of the reference that a first call reaches -/
abbrev moA (h : XH) (rf : Nat → Nat) : Prop := h (rf 1) = some (k_aint, List.replicate 160 (.int 0)) ∧ h (rf 15) = some (k_aint, List.replicate 9 (.int 0)) ∧ h (rf 21) = some (k_aint, List.replicate 9 (.int 0)) ∧ h (rf 26) = some (k_aint, List.replicate 9 (.int 0)) ∧ h (rf 38) = some (k_aint, List.replicate 6 (.int 0)) ∧ h (rf 39) = some (k_aboolean, List.replicate 6 (.int 0)) ∧ h (rf 40) = some (k_aint, List.replicate 6 (.int 0)) ∧ h (rf 45) = some (k_aint, List.replicate 256 (.int 0)) ∧ h (rf 46) = some (k_aint, List.replicate 256 (.int 0)) ∧ h (rf 47) = some (k_aint, List.replicate 1536 (.int 0))
theorem moA.fr {h' : XH} {F : List Nat} {rf : Nat → Nat} (hA : moA h rf) (hf : xfr h h' F) (hn : xno h F [k_aint, k_aboolean]) : moA h' rf := by
  obtain ⟨e0, e1, e2, e3, e4, e5, e6, e7, e8, e9⟩ := hA
  exact ⟨hf.1 _ _ e0 (hn.at e0 (by decide)), hf.1 _ _ e1 (hn.at e1 (by decide)), hf.1 _ _ e2 (hn.at e2 (by decide)), hf.1 _ _ e3 (hn.at e3 (by decide)), hf.1 _ _ e4 (hn.at e4 (by decide)), hf.1 _ _ e5 (hn.at e5 (by decide)), hf.1 _ _ e6 (hn.at e6 (by decide)), hf.1 _ _ e7 (hn.at e7 (by decide)), hf.1 _ _ e8 (hn.at e8 (by decide)), hf.1 _ _ e9 (hn.at e9 (by decide))⟩
theorem moA.o {o : Nat} {rf : Nat → Nat} {vs : List Value} {e : Nat × List Value} (hA : moA h rf) (ho : h o = some (k_MarkerTextModel, vs)) : moA (xup h o e) rf := hA.fr (F := [o]) (xfr.rf.up (Or.inl (by simp))) (xno1 ho (by decide))
theorem x_mo {M : XMt} {pc o : Nat} {L : List (Option Value)} {st : List Value} {Q : XPo} {rf : Nat → Nat} {vs vs' : List Value} (hA : moA h rf) (ho : h o = some (k_MarkerTextModel, vs)) (k : ∀ h2, h2 o = some (k_MarkerTextModel, vs') → moA h2 rf → XX l G M d pc L st h2 c n Q) : XX l G M d pc L st (xup h o (k_MarkerTextModel, vs')) c n Q := k _ xup_self (hA.o ho)
/-- a reference as it is made -/
def RF0 (h : XH) (o : Nat) : Prop := ∃ rf : Nat → Nat, h o = some (k_MarkerTextModel, moV rf 0 0 0 0 0 (-1) 0 0 0 0 0 0) ∧ moA h rf
theorem RF0.fr {h' : XH} {F : List Nat} {o : Nat} (hR : RF0 h o) (hf : xfr h h' F) (hn : xno h F RK) : RF0 h' o := by
  obtain ⟨rf, e, hA⟩ := hR
  exact ⟨rf, hf.1 _ _ e (hn.at e (by decide)), hA.fr hf (hn.sub (by decide))⟩
set_option maxHeartbeats 2000000 in
theorem c_Mo_init (hd : 1 ≤ d) {o : Nat} (ho : h o = some (k_MarkerTextModel, [.int 0, .null, .int 0, .int 0, .null, .null, .null, .null, .null, .null, .null, .int 0, .null, .null, .null, .null, .null, .null, .null, .null, .null, .null, .null, .null, .null, .null, .null, .int 0, .int 0, .int 0, .int 0, .null, .int 0, .int 0, .null, .int 0, .long 0, .null, .null, .null, .null, .null, .int 0, .int 0, .int 0, .null, .null, .null, .null, .int 0, .null, .int 0])) (hc : c + 1000 ≤ xCB) (hn : n + 300000 ≤ xSB) : XM l G d M_Mo_init [.ref o] h c n (fun v h' c' n' => v = none ∧ RF0 h' o ∧ xfr h h' [o] ∧ c' ≤ c + 1000 ∧ n' ≤ n + 300000) := by
  obtain ⟨d, rfl⟩ : ∃ q, d = q + 1 := ⟨d - 1, by omega⟩
  refine XM.of (by decide +kernel) (Nat.le_of_ble_eq_true rfl) ?_
  refine x_aload_n d_Mo_init_0 rfl rfl ?_
  refine x_objInit xw_1169 xw_40 xw_41 (Nat.le_of_ble_eq_true rfl) d_Mo_init_1 ?_
  have f_0 : xfr h h [o] := xfr.rf
  refine x_aload_n d_Mo_init_4 rfl rfl ?_
  refine x_sipush (v := 160) d_Mo_init_5 (by decide) ?_
  refine x_newa (k := k_aint) rfl rfl (fun _ hz => by cases hz) xw_111 (by decide) (by decide : Int32.toNatClampNeg 160 = 160) (by decide) (by omega) (by omega) d_Mo_init_8 (fun q1 hn_q1 hk_q1 => ?_)
  have n_q1 : o ≠ q1 := xneN ho hn_q1
  refine x_putF xf_Mo_7_Mo xp_Mo_1 ⟨_, _, _, rfl, rfl, xw_1171⟩ rfl rfl rfl (xup_old ho hn_q1) rfl rfl d_Mo_init_10 ?_
  refine x_any (R := fun h2 => h2 o = some (k_MarkerTextModel, [.int 0, .ref q1, .int 0, .int 0, .null, .null, .null, .null, .null, .null, .null, .int 0, .null, .null, .null, .null, .null, .null, .null, .null, .null, .null, .null, .null, .null, .null, .null, .int 0, .int 0, .int 0, .int 0, .null, .int 0, .int 0, .null, .int 0, .long 0, .null, .null, .null, .null, .null, .int 0, .int 0, .int 0, .null, .null, .null, .null, .int 0, .null, .int 0]) ∧ h2 q1 = some (k_aint, List.replicate 160 (.int 0)) ∧ xfr h h2 [o]) ⟨xup_self, (by rw [xup_ne (Ne.symm n_q1), xup_self]; try rfl), ((f_0.up (Or.inr (f_0.2 _ hn_q1))).up (Or.inl (by simp)))⟩ (fun h1 ⟨ho_1, q1_1, f_1⟩ => ?_)
  refine x_aload_n d_Mo_init_13 rfl rfl ?_
  refine x_bipush (v := 48) d_Mo_init_14 (by decide) ?_
  refine x_newa (k := k_aint) rfl rfl (fun _ hz => by cases hz) xw_111 (by decide) (by decide : Int32.toNatClampNeg 48 = 48) (by decide) (by omega) (by omega) d_Mo_init_16 (fun q4 hn_q4 hk_q4 => ?_)
  have n_q4 : o ≠ q4 := xneN ho_1 hn_q4
  refine x_putF xf_Mo_13_Mo xp_Mo_4 ⟨_, _, _, rfl, rfl, xw_1174⟩ rfl rfl rfl (xup_old ho_1 hn_q4) rfl rfl d_Mo_init_18 ?_
  refine x_any (R := fun h2 => h2 o = some (k_MarkerTextModel, [.int 0, .ref q1, .int 0, .int 0, .ref q4, .null, .null, .null, .null, .null, .null, .int 0, .null, .null, .null, .null, .null, .null, .null, .null, .null, .null, .null, .null, .null, .null, .null, .int 0, .int 0, .int 0, .int 0, .null, .int 0, .int 0, .null, .int 0, .long 0, .null, .null, .null, .null, .null, .int 0, .int 0, .int 0, .null, .null, .null, .null, .int 0, .null, .int 0]) ∧ h2 q1 = some (k_aint, List.replicate 160 (.int 0)) ∧ xfr h h2 [o]) ⟨xup_self, (by rw [xup_ne (xne q1_1 ho_1 (by decide))]; exact xup_old q1_1 hn_q4), ((f_1.up (Or.inr (f_1.2 _ hn_q4))).up (Or.inl (by simp)))⟩ (fun h2 ⟨ho_2, q1_2, f_2⟩ => ?_)
  refine x_aload_n d_Mo_init_21 rfl rfl ?_
  refine x_bipush (v := 6) d_Mo_init_22 (by decide) ?_
  refine x_newa (k := k_aint) rfl rfl (fun _ hz => by cases hz) xw_111 (by decide) (by decide : Int32.toNatClampNeg 6 = 6) (by decide) (by omega) (by omega) d_Mo_init_24 (fun q5 hn_q5 hk_q5 => ?_)
  have n_q5 : o ≠ q5 := xneN ho_2 hn_q5
  refine x_putF xf_Mo_16_Mo xp_Mo_5 ⟨_, _, _, rfl, rfl, xw_1175⟩ rfl rfl rfl (xup_old ho_2 hn_q5) rfl rfl d_Mo_init_26 ?_
  refine x_any (R := fun h2 => h2 o = some (k_MarkerTextModel, [.int 0, .ref q1, .int 0, .int 0, .ref q4, .ref q5, .null, .null, .null, .null, .null, .int 0, .null, .null, .null, .null, .null, .null, .null, .null, .null, .null, .null, .null, .null, .null, .null, .int 0, .int 0, .int 0, .int 0, .null, .int 0, .int 0, .null, .int 0, .long 0, .null, .null, .null, .null, .null, .int 0, .int 0, .int 0, .null, .null, .null, .null, .int 0, .null, .int 0]) ∧ h2 q1 = some (k_aint, List.replicate 160 (.int 0)) ∧ xfr h h2 [o]) ⟨xup_self, (by rw [xup_ne (xne q1_2 ho_2 (by decide))]; exact xup_old q1_2 hn_q5), ((f_2.up (Or.inr (f_2.2 _ hn_q5))).up (Or.inl (by simp)))⟩ (fun h3 ⟨ho_3, q1_3, f_3⟩ => ?_)
  refine x_aload_n d_Mo_init_29 rfl rfl ?_
  refine x_bipush (v := 6) d_Mo_init_30 (by decide) ?_
  refine x_newa (k := k_aint) rfl rfl (fun _ hz => by cases hz) xw_111 (by decide) (by decide : Int32.toNatClampNeg 6 = 6) (by decide) (by omega) (by omega) d_Mo_init_32 (fun q6 hn_q6 hk_q6 => ?_)
  have n_q6 : o ≠ q6 := xneN ho_3 hn_q6
  refine x_putF xf_Mo_19_Mo xp_Mo_6 ⟨_, _, _, rfl, rfl, xw_1176⟩ rfl rfl rfl (xup_old ho_3 hn_q6) rfl rfl d_Mo_init_34 ?_
  refine x_any (R := fun h2 => h2 o = some (k_MarkerTextModel, [.int 0, .ref q1, .int 0, .int 0, .ref q4, .ref q5, .ref q6, .null, .null, .null, .null, .int 0, .null, .null, .null, .null, .null, .null, .null, .null, .null, .null, .null, .null, .null, .null, .null, .int 0, .int 0, .int 0, .int 0, .null, .int 0, .int 0, .null, .int 0, .long 0, .null, .null, .null, .null, .null, .int 0, .int 0, .int 0, .null, .null, .null, .null, .int 0, .null, .int 0]) ∧ h2 q1 = some (k_aint, List.replicate 160 (.int 0)) ∧ xfr h h2 [o]) ⟨xup_self, (by rw [xup_ne (xne q1_3 ho_3 (by decide))]; exact xup_old q1_3 hn_q6), ((f_3.up (Or.inr (f_3.2 _ hn_q6))).up (Or.inl (by simp)))⟩ (fun h4 ⟨ho_4, q1_4, f_4⟩ => ?_)
  refine x_aload_n d_Mo_init_37 rfl rfl ?_
  refine x_bipush (v := 6) d_Mo_init_38 (by decide) ?_
  refine x_newa (k := k_aint) rfl rfl (fun _ hz => by cases hz) xw_111 (by decide) (by decide : Int32.toNatClampNeg 6 = 6) (by decide) (by omega) (by omega) d_Mo_init_40 (fun q7 hn_q7 hk_q7 => ?_)
  have n_q7 : o ≠ q7 := xneN ho_4 hn_q7
  refine x_putF xf_Mo_22_Mo xp_Mo_7 ⟨_, _, _, rfl, rfl, xw_1177⟩ rfl rfl rfl (xup_old ho_4 hn_q7) rfl rfl d_Mo_init_42 ?_
  refine x_any (R := fun h2 => h2 o = some (k_MarkerTextModel, [.int 0, .ref q1, .int 0, .int 0, .ref q4, .ref q5, .ref q6, .ref q7, .null, .null, .null, .int 0, .null, .null, .null, .null, .null, .null, .null, .null, .null, .null, .null, .null, .null, .null, .null, .int 0, .int 0, .int 0, .int 0, .null, .int 0, .int 0, .null, .int 0, .long 0, .null, .null, .null, .null, .null, .int 0, .int 0, .int 0, .null, .null, .null, .null, .int 0, .null, .int 0]) ∧ h2 q1 = some (k_aint, List.replicate 160 (.int 0)) ∧ xfr h h2 [o]) ⟨xup_self, (by rw [xup_ne (xne q1_4 ho_4 (by decide))]; exact xup_old q1_4 hn_q7), ((f_4.up (Or.inr (f_4.2 _ hn_q7))).up (Or.inl (by simp)))⟩ (fun h5 ⟨ho_5, q1_5, f_5⟩ => ?_)
  refine x_aload_n d_Mo_init_45 rfl rfl ?_
  refine x_bipush (v := 36) d_Mo_init_46 (by decide) ?_
  refine x_newa (k := k_along) rfl rfl (fun _ hz => by cases hz) xw_110 (by decide) (by decide : Int32.toNatClampNeg 36 = 36) (by decide) (by omega) (by omega) d_Mo_init_48 (fun q8 hn_q8 hk_q8 => ?_)
  have n_q8 : o ≠ q8 := xneN ho_5 hn_q8
  refine x_putF xf_Mo_25_Mo xp_Mo_8 ⟨_, _, _, rfl, rfl, xw_1178⟩ rfl rfl rfl (xup_old ho_5 hn_q8) rfl rfl d_Mo_init_50 ?_
  refine x_any (R := fun h2 => h2 o = some (k_MarkerTextModel, [.int 0, .ref q1, .int 0, .int 0, .ref q4, .ref q5, .ref q6, .ref q7, .ref q8, .null, .null, .int 0, .null, .null, .null, .null, .null, .null, .null, .null, .null, .null, .null, .null, .null, .null, .null, .int 0, .int 0, .int 0, .int 0, .null, .int 0, .int 0, .null, .int 0, .long 0, .null, .null, .null, .null, .null, .int 0, .int 0, .int 0, .null, .null, .null, .null, .int 0, .null, .int 0]) ∧ h2 q1 = some (k_aint, List.replicate 160 (.int 0)) ∧ xfr h h2 [o]) ⟨xup_self, (by rw [xup_ne (xne q1_5 ho_5 (by decide))]; exact xup_old q1_5 hn_q8), ((f_5.up (Or.inr (f_5.2 _ hn_q8))).up (Or.inl (by simp)))⟩ (fun h6 ⟨ho_6, q1_6, f_6⟩ => ?_)
  refine x_aload_n d_Mo_init_53 rfl rfl ?_
  refine x_bipush (v := 6) d_Mo_init_54 (by decide) ?_
  refine x_newa (k := k_aboolean) rfl rfl (fun _ hz => by cases hz) xw_1327 (by decide) (by decide : Int32.toNatClampNeg 6 = 6) (by decide) (by omega) (by omega) d_Mo_init_56 (fun q9 hn_q9 hk_q9 => ?_)
  have n_q9 : o ≠ q9 := xneN ho_6 hn_q9
  refine x_putF xf_Mo_29_Mo xp_Mo_9 ⟨_, _, _, rfl, rfl, xw_1179⟩ rfl rfl rfl (xup_old ho_6 hn_q9) rfl rfl d_Mo_init_58 ?_
  refine x_any (R := fun h2 => h2 o = some (k_MarkerTextModel, [.int 0, .ref q1, .int 0, .int 0, .ref q4, .ref q5, .ref q6, .ref q7, .ref q8, .ref q9, .null, .int 0, .null, .null, .null, .null, .null, .null, .null, .null, .null, .null, .null, .null, .null, .null, .null, .int 0, .int 0, .int 0, .int 0, .null, .int 0, .int 0, .null, .int 0, .long 0, .null, .null, .null, .null, .null, .int 0, .int 0, .int 0, .null, .null, .null, .null, .int 0, .null, .int 0]) ∧ h2 q1 = some (k_aint, List.replicate 160 (.int 0)) ∧ xfr h h2 [o]) ⟨xup_self, (by rw [xup_ne (xne q1_6 ho_6 (by decide))]; exact xup_old q1_6 hn_q9), ((f_6.up (Or.inr (f_6.2 _ hn_q9))).up (Or.inl (by simp)))⟩ (fun h7 ⟨ho_7, q1_7, f_7⟩ => ?_)
  refine x_aload_n d_Mo_init_61 rfl rfl ?_
  refine x_bipush (v := 6) d_Mo_init_62 (by decide) ?_
  refine x_newa (k := k_along) rfl rfl (fun _ hz => by cases hz) xw_110 (by decide) (by decide : Int32.toNatClampNeg 6 = 6) (by decide) (by omega) (by omega) d_Mo_init_64 (fun q10 hn_q10 hk_q10 => ?_)
  have n_q10 : o ≠ q10 := xneN ho_7 hn_q10
  refine x_putF xf_Mo_33_Mo xp_Mo_10 ⟨_, _, _, rfl, rfl, xw_1180⟩ rfl rfl rfl (xup_old ho_7 hn_q10) rfl rfl d_Mo_init_66 ?_
  refine x_any (R := fun h2 => h2 o = some (k_MarkerTextModel, [.int 0, .ref q1, .int 0, .int 0, .ref q4, .ref q5, .ref q6, .ref q7, .ref q8, .ref q9, .ref q10, .int 0, .null, .null, .null, .null, .null, .null, .null, .null, .null, .null, .null, .null, .null, .null, .null, .int 0, .int 0, .int 0, .int 0, .null, .int 0, .int 0, .null, .int 0, .long 0, .null, .null, .null, .null, .null, .int 0, .int 0, .int 0, .null, .null, .null, .null, .int 0, .null, .int 0]) ∧ h2 q1 = some (k_aint, List.replicate 160 (.int 0)) ∧ xfr h h2 [o]) ⟨xup_self, (by rw [xup_ne (xne q1_7 ho_7 (by decide))]; exact xup_old q1_7 hn_q10), ((f_7.up (Or.inr (f_7.2 _ hn_q10))).up (Or.inl (by simp)))⟩ (fun h8 ⟨ho_8, q1_8, f_8⟩ => ?_)
  refine x_aload_n d_Mo_init_69 rfl rfl ?_
  refine x_sipush (v := 1152) d_Mo_init_70 (by decide) ?_
  refine x_newa (k := k_aint) rfl rfl (fun _ hz => by cases hz) xw_111 (by decide) (by decide : Int32.toNatClampNeg 1152 = 1152) (by decide) (by omega) (by omega) d_Mo_init_73 (fun q12 hn_q12 hk_q12 => ?_)
  have n_q12 : o ≠ q12 := xneN ho_8 hn_q12
  refine x_putF xf_Mo_36_Mo xp_Mo_12 ⟨_, _, _, rfl, rfl, xw_1182⟩ rfl rfl rfl (xup_old ho_8 hn_q12) rfl rfl d_Mo_init_75 ?_
  refine x_any (R := fun h2 => h2 o = some (k_MarkerTextModel, [.int 0, .ref q1, .int 0, .int 0, .ref q4, .ref q5, .ref q6, .ref q7, .ref q8, .ref q9, .ref q10, .int 0, .ref q12, .null, .null, .null, .null, .null, .null, .null, .null, .null, .null, .null, .null, .null, .null, .int 0, .int 0, .int 0, .int 0, .null, .int 0, .int 0, .null, .int 0, .long 0, .null, .null, .null, .null, .null, .int 0, .int 0, .int 0, .null, .null, .null, .null, .int 0, .null, .int 0]) ∧ h2 q1 = some (k_aint, List.replicate 160 (.int 0)) ∧ xfr h h2 [o]) ⟨xup_self, (by rw [xup_ne (xne q1_8 ho_8 (by decide))]; exact xup_old q1_8 hn_q12), ((f_8.up (Or.inr (f_8.2 _ hn_q12))).up (Or.inl (by simp)))⟩ (fun h9 ⟨ho_9, q1_9, f_9⟩ => ?_)
  refine x_aload_n d_Mo_init_78 rfl rfl ?_
  refine x_sipush (v := 1152) d_Mo_init_79 (by decide) ?_
  refine x_newa (k := k_aint) rfl rfl (fun _ hz => by cases hz) xw_111 (by decide) (by decide : Int32.toNatClampNeg 1152 = 1152) (by decide) (by omega) (by omega) d_Mo_init_82 (fun q13 hn_q13 hk_q13 => ?_)
  have n_q13 : o ≠ q13 := xneN ho_9 hn_q13
  refine x_putF xf_Mo_39_Mo xp_Mo_13 ⟨_, _, _, rfl, rfl, xw_1183⟩ rfl rfl rfl (xup_old ho_9 hn_q13) rfl rfl d_Mo_init_84 ?_
  refine x_any (R := fun h2 => h2 o = some (k_MarkerTextModel, [.int 0, .ref q1, .int 0, .int 0, .ref q4, .ref q5, .ref q6, .ref q7, .ref q8, .ref q9, .ref q10, .int 0, .ref q12, .ref q13, .null, .null, .null, .null, .null, .null, .null, .null, .null, .null, .null, .null, .null, .int 0, .int 0, .int 0, .int 0, .null, .int 0, .int 0, .null, .int 0, .long 0, .null, .null, .null, .null, .null, .int 0, .int 0, .int 0, .null, .null, .null, .null, .int 0, .null, .int 0]) ∧ h2 q1 = some (k_aint, List.replicate 160 (.int 0)) ∧ xfr h h2 [o]) ⟨xup_self, (by rw [xup_ne (xne q1_9 ho_9 (by decide))]; exact xup_old q1_9 hn_q13), ((f_9.up (Or.inr (f_9.2 _ hn_q13))).up (Or.inl (by simp)))⟩ (fun h10 ⟨ho_10, q1_10, f_10⟩ => ?_)
  refine x_aload_n d_Mo_init_87 rfl rfl ?_
  refine x_sipush (v := 1152) d_Mo_init_88 (by decide) ?_
  refine x_newa (k := k_aint) rfl rfl (fun _ hz => by cases hz) xw_111 (by decide) (by decide : Int32.toNatClampNeg 1152 = 1152) (by decide) (by omega) (by omega) d_Mo_init_91 (fun q14 hn_q14 hk_q14 => ?_)
  have n_q14 : o ≠ q14 := xneN ho_10 hn_q14
  refine x_putF xf_Mo_42_Mo xp_Mo_14 ⟨_, _, _, rfl, rfl, xw_1184⟩ rfl rfl rfl (xup_old ho_10 hn_q14) rfl rfl d_Mo_init_93 ?_
  refine x_any (R := fun h2 => h2 o = some (k_MarkerTextModel, [.int 0, .ref q1, .int 0, .int 0, .ref q4, .ref q5, .ref q6, .ref q7, .ref q8, .ref q9, .ref q10, .int 0, .ref q12, .ref q13, .ref q14, .null, .null, .null, .null, .null, .null, .null, .null, .null, .null, .null, .null, .int 0, .int 0, .int 0, .int 0, .null, .int 0, .int 0, .null, .int 0, .long 0, .null, .null, .null, .null, .null, .int 0, .int 0, .int 0, .null, .null, .null, .null, .int 0, .null, .int 0]) ∧ h2 q1 = some (k_aint, List.replicate 160 (.int 0)) ∧ xfr h h2 [o]) ⟨xup_self, (by rw [xup_ne (xne q1_10 ho_10 (by decide))]; exact xup_old q1_10 hn_q14), ((f_10.up (Or.inr (f_10.2 _ hn_q14))).up (Or.inl (by simp)))⟩ (fun h11 ⟨ho_11, q1_11, f_11⟩ => ?_)
  refine x_aload_n d_Mo_init_96 rfl rfl ?_
  refine x_bipush (v := 9) d_Mo_init_97 (by decide) ?_
  refine x_newa (k := k_aint) rfl rfl (fun _ hz => by cases hz) xw_111 (by decide) (by decide : Int32.toNatClampNeg 9 = 9) (by decide) (by omega) (by omega) d_Mo_init_99 (fun q15 hn_q15 hk_q15 => ?_)
  have n_q15 : o ≠ q15 := xneN ho_11 hn_q15
  refine x_putF xf_Mo_45_Mo xp_Mo_15 ⟨_, _, _, rfl, rfl, xw_1185⟩ rfl rfl rfl (xup_old ho_11 hn_q15) rfl rfl d_Mo_init_101 ?_
  refine x_any (R := fun h2 => h2 o = some (k_MarkerTextModel, [.int 0, .ref q1, .int 0, .int 0, .ref q4, .ref q5, .ref q6, .ref q7, .ref q8, .ref q9, .ref q10, .int 0, .ref q12, .ref q13, .ref q14, .ref q15, .null, .null, .null, .null, .null, .null, .null, .null, .null, .null, .null, .int 0, .int 0, .int 0, .int 0, .null, .int 0, .int 0, .null, .int 0, .long 0, .null, .null, .null, .null, .null, .int 0, .int 0, .int 0, .null, .null, .null, .null, .int 0, .null, .int 0]) ∧ h2 q1 = some (k_aint, List.replicate 160 (.int 0)) ∧ h2 q15 = some (k_aint, List.replicate 9 (.int 0)) ∧ xfr h h2 [o]) ⟨xup_self, (by rw [xup_ne (xne q1_11 ho_11 (by decide))]; exact xup_old q1_11 hn_q15), (by rw [xup_ne (Ne.symm n_q15), xup_self]; try rfl), ((f_11.up (Or.inr (f_11.2 _ hn_q15))).up (Or.inl (by simp)))⟩ (fun h12 ⟨ho_12, q1_12, q15_12, f_12⟩ => ?_)
  refine x_aload_n d_Mo_init_104 rfl rfl ?_
  refine x_bipush (v := 9) d_Mo_init_105 (by decide) ?_
  refine x_newa (k := k_aint) rfl rfl (fun _ hz => by cases hz) xw_111 (by decide) (by decide : Int32.toNatClampNeg 9 = 9) (by decide) (by omega) (by omega) d_Mo_init_107 (fun q16 hn_q16 hk_q16 => ?_)
  have n_q16 : o ≠ q16 := xneN ho_12 hn_q16
  refine x_putF xf_Mo_48_Mo xp_Mo_16 ⟨_, _, _, rfl, rfl, xw_1186⟩ rfl rfl rfl (xup_old ho_12 hn_q16) rfl rfl d_Mo_init_109 ?_
  refine x_any (R := fun h2 => h2 o = some (k_MarkerTextModel, [.int 0, .ref q1, .int 0, .int 0, .ref q4, .ref q5, .ref q6, .ref q7, .ref q8, .ref q9, .ref q10, .int 0, .ref q12, .ref q13, .ref q14, .ref q15, .ref q16, .null, .null, .null, .null, .null, .null, .null, .null, .null, .null, .int 0, .int 0, .int 0, .int 0, .null, .int 0, .int 0, .null, .int 0, .long 0, .null, .null, .null, .null, .null, .int 0, .int 0, .int 0, .null, .null, .null, .null, .int 0, .null, .int 0]) ∧ h2 q1 = some (k_aint, List.replicate 160 (.int 0)) ∧ h2 q15 = some (k_aint, List.replicate 9 (.int 0)) ∧ xfr h h2 [o]) ⟨xup_self, (by rw [xup_ne (xne q1_12 ho_12 (by decide))]; exact xup_old q1_12 hn_q16), (by rw [xup_ne (xne q15_12 ho_12 (by decide))]; exact xup_old q15_12 hn_q16), ((f_12.up (Or.inr (f_12.2 _ hn_q16))).up (Or.inl (by simp)))⟩ (fun h13 ⟨ho_13, q1_13, q15_13, f_13⟩ => ?_)
  refine x_aload_n d_Mo_init_112 rfl rfl ?_
  refine x_sipush (v := 360) d_Mo_init_113 (by decide) ?_
  refine x_newa (k := k_aint) rfl rfl (fun _ hz => by cases hz) xw_111 (by decide) (by decide : Int32.toNatClampNeg 360 = 360) (by decide) (by omega) (by omega) d_Mo_init_116 (fun q17 hn_q17 hk_q17 => ?_)
  have n_q17 : o ≠ q17 := xneN ho_13 hn_q17
  refine x_putF xf_Mo_51_Mo xp_Mo_17 ⟨_, _, _, rfl, rfl, xw_1187⟩ rfl rfl rfl (xup_old ho_13 hn_q17) rfl rfl d_Mo_init_118 ?_
  refine x_any (R := fun h2 => h2 o = some (k_MarkerTextModel, [.int 0, .ref q1, .int 0, .int 0, .ref q4, .ref q5, .ref q6, .ref q7, .ref q8, .ref q9, .ref q10, .int 0, .ref q12, .ref q13, .ref q14, .ref q15, .ref q16, .ref q17, .null, .null, .null, .null, .null, .null, .null, .null, .null, .int 0, .int 0, .int 0, .int 0, .null, .int 0, .int 0, .null, .int 0, .long 0, .null, .null, .null, .null, .null, .int 0, .int 0, .int 0, .null, .null, .null, .null, .int 0, .null, .int 0]) ∧ h2 q1 = some (k_aint, List.replicate 160 (.int 0)) ∧ h2 q15 = some (k_aint, List.replicate 9 (.int 0)) ∧ xfr h h2 [o]) ⟨xup_self, (by rw [xup_ne (xne q1_13 ho_13 (by decide))]; exact xup_old q1_13 hn_q17), (by rw [xup_ne (xne q15_13 ho_13 (by decide))]; exact xup_old q15_13 hn_q17), ((f_13.up (Or.inr (f_13.2 _ hn_q17))).up (Or.inl (by simp)))⟩ (fun h14 ⟨ho_14, q1_14, q15_14, f_14⟩ => ?_)
  refine x_aload_n d_Mo_init_121 rfl rfl ?_
  refine x_sipush (v := 360) d_Mo_init_122 (by decide) ?_
  refine x_newa (k := k_aint) rfl rfl (fun _ hz => by cases hz) xw_111 (by decide) (by decide : Int32.toNatClampNeg 360 = 360) (by decide) (by omega) (by omega) d_Mo_init_125 (fun q18 hn_q18 hk_q18 => ?_)
  have n_q18 : o ≠ q18 := xneN ho_14 hn_q18
  refine x_putF xf_Mo_54_Mo xp_Mo_18 ⟨_, _, _, rfl, rfl, xw_1188⟩ rfl rfl rfl (xup_old ho_14 hn_q18) rfl rfl d_Mo_init_127 ?_
  refine x_any (R := fun h2 => h2 o = some (k_MarkerTextModel, [.int 0, .ref q1, .int 0, .int 0, .ref q4, .ref q5, .ref q6, .ref q7, .ref q8, .ref q9, .ref q10, .int 0, .ref q12, .ref q13, .ref q14, .ref q15, .ref q16, .ref q17, .ref q18, .null, .null, .null, .null, .null, .null, .null, .null, .int 0, .int 0, .int 0, .int 0, .null, .int 0, .int 0, .null, .int 0, .long 0, .null, .null, .null, .null, .null, .int 0, .int 0, .int 0, .null, .null, .null, .null, .int 0, .null, .int 0]) ∧ h2 q1 = some (k_aint, List.replicate 160 (.int 0)) ∧ h2 q15 = some (k_aint, List.replicate 9 (.int 0)) ∧ xfr h h2 [o]) ⟨xup_self, (by rw [xup_ne (xne q1_14 ho_14 (by decide))]; exact xup_old q1_14 hn_q18), (by rw [xup_ne (xne q15_14 ho_14 (by decide))]; exact xup_old q15_14 hn_q18), ((f_14.up (Or.inr (f_14.2 _ hn_q18))).up (Or.inl (by simp)))⟩ (fun h15 ⟨ho_15, q1_15, q15_15, f_15⟩ => ?_)
  refine x_aload_n d_Mo_init_130 rfl rfl ?_
  refine x_sipush (v := 360) d_Mo_init_131 (by decide) ?_
  refine x_newa (k := k_aint) rfl rfl (fun _ hz => by cases hz) xw_111 (by decide) (by decide : Int32.toNatClampNeg 360 = 360) (by decide) (by omega) (by omega) d_Mo_init_134 (fun q19 hn_q19 hk_q19 => ?_)
  have n_q19 : o ≠ q19 := xneN ho_15 hn_q19
  refine x_putF xf_Mo_57_Mo xp_Mo_19 ⟨_, _, _, rfl, rfl, xw_1189⟩ rfl rfl rfl (xup_old ho_15 hn_q19) rfl rfl d_Mo_init_136 ?_
  refine x_any (R := fun h2 => h2 o = some (k_MarkerTextModel, [.int 0, .ref q1, .int 0, .int 0, .ref q4, .ref q5, .ref q6, .ref q7, .ref q8, .ref q9, .ref q10, .int 0, .ref q12, .ref q13, .ref q14, .ref q15, .ref q16, .ref q17, .ref q18, .ref q19, .null, .null, .null, .null, .null, .null, .null, .int 0, .int 0, .int 0, .int 0, .null, .int 0, .int 0, .null, .int 0, .long 0, .null, .null, .null, .null, .null, .int 0, .int 0, .int 0, .null, .null, .null, .null, .int 0, .null, .int 0]) ∧ h2 q1 = some (k_aint, List.replicate 160 (.int 0)) ∧ h2 q15 = some (k_aint, List.replicate 9 (.int 0)) ∧ xfr h h2 [o]) ⟨xup_self, (by rw [xup_ne (xne q1_15 ho_15 (by decide))]; exact xup_old q1_15 hn_q19), (by rw [xup_ne (xne q15_15 ho_15 (by decide))]; exact xup_old q15_15 hn_q19), ((f_15.up (Or.inr (f_15.2 _ hn_q19))).up (Or.inl (by simp)))⟩ (fun h16 ⟨ho_16, q1_16, q15_16, f_16⟩ => ?_)
  refine x_aload_n d_Mo_init_139 rfl rfl ?_
  refine x_sipush (v := 360) d_Mo_init_140 (by decide) ?_
  refine x_newa (k := k_aint) rfl rfl (fun _ hz => by cases hz) xw_111 (by decide) (by decide : Int32.toNatClampNeg 360 = 360) (by decide) (by omega) (by omega) d_Mo_init_143 (fun q20 hn_q20 hk_q20 => ?_)
  have n_q20 : o ≠ q20 := xneN ho_16 hn_q20
  refine x_putF xf_Mo_60_Mo xp_Mo_20 ⟨_, _, _, rfl, rfl, xw_1190⟩ rfl rfl rfl (xup_old ho_16 hn_q20) rfl rfl d_Mo_init_145 ?_
  refine x_any (R := fun h2 => h2 o = some (k_MarkerTextModel, [.int 0, .ref q1, .int 0, .int 0, .ref q4, .ref q5, .ref q6, .ref q7, .ref q8, .ref q9, .ref q10, .int 0, .ref q12, .ref q13, .ref q14, .ref q15, .ref q16, .ref q17, .ref q18, .ref q19, .ref q20, .null, .null, .null, .null, .null, .null, .int 0, .int 0, .int 0, .int 0, .null, .int 0, .int 0, .null, .int 0, .long 0, .null, .null, .null, .null, .null, .int 0, .int 0, .int 0, .null, .null, .null, .null, .int 0, .null, .int 0]) ∧ h2 q1 = some (k_aint, List.replicate 160 (.int 0)) ∧ h2 q15 = some (k_aint, List.replicate 9 (.int 0)) ∧ xfr h h2 [o]) ⟨xup_self, (by rw [xup_ne (xne q1_16 ho_16 (by decide))]; exact xup_old q1_16 hn_q20), (by rw [xup_ne (xne q15_16 ho_16 (by decide))]; exact xup_old q15_16 hn_q20), ((f_16.up (Or.inr (f_16.2 _ hn_q20))).up (Or.inl (by simp)))⟩ (fun h17 ⟨ho_17, q1_17, q15_17, f_17⟩ => ?_)
  refine x_aload_n d_Mo_init_148 rfl rfl ?_
  refine x_bipush (v := 9) d_Mo_init_149 (by decide) ?_
  refine x_newa (k := k_aint) rfl rfl (fun _ hz => by cases hz) xw_111 (by decide) (by decide : Int32.toNatClampNeg 9 = 9) (by decide) (by omega) (by omega) d_Mo_init_151 (fun q21 hn_q21 hk_q21 => ?_)
  have n_q21 : o ≠ q21 := xneN ho_17 hn_q21
  refine x_putF xf_Mo_63_Mo xp_Mo_21 ⟨_, _, _, rfl, rfl, xw_1191⟩ rfl rfl rfl (xup_old ho_17 hn_q21) rfl rfl d_Mo_init_153 ?_
  refine x_any (R := fun h2 => h2 o = some (k_MarkerTextModel, [.int 0, .ref q1, .int 0, .int 0, .ref q4, .ref q5, .ref q6, .ref q7, .ref q8, .ref q9, .ref q10, .int 0, .ref q12, .ref q13, .ref q14, .ref q15, .ref q16, .ref q17, .ref q18, .ref q19, .ref q20, .ref q21, .null, .null, .null, .null, .null, .int 0, .int 0, .int 0, .int 0, .null, .int 0, .int 0, .null, .int 0, .long 0, .null, .null, .null, .null, .null, .int 0, .int 0, .int 0, .null, .null, .null, .null, .int 0, .null, .int 0]) ∧ h2 q1 = some (k_aint, List.replicate 160 (.int 0)) ∧ h2 q15 = some (k_aint, List.replicate 9 (.int 0)) ∧ h2 q21 = some (k_aint, List.replicate 9 (.int 0)) ∧ xfr h h2 [o]) ⟨xup_self, (by rw [xup_ne (xne q1_17 ho_17 (by decide))]; exact xup_old q1_17 hn_q21), (by rw [xup_ne (xne q15_17 ho_17 (by decide))]; exact xup_old q15_17 hn_q21), (by rw [xup_ne (Ne.symm n_q21), xup_self]; try rfl), ((f_17.up (Or.inr (f_17.2 _ hn_q21))).up (Or.inl (by simp)))⟩ (fun h18 ⟨ho_18, q1_18, q15_18, q21_18, f_18⟩ => ?_)
  refine x_aload_n d_Mo_init_156 rfl rfl ?_
  refine x_sipush (v := 576) d_Mo_init_157 (by decide) ?_
  refine x_newa (k := k_along) rfl rfl (fun _ hz => by cases hz) xw_110 (by decide) (by decide : Int32.toNatClampNeg 576 = 576) (by decide) (by omega) (by omega) d_Mo_init_160 (fun q22 hn_q22 hk_q22 => ?_)
  have n_q22 : o ≠ q22 := xneN ho_18 hn_q22
  refine x_putF xf_Mo_66_Mo xp_Mo_22 ⟨_, _, _, rfl, rfl, xw_1192⟩ rfl rfl rfl (xup_old ho_18 hn_q22) rfl rfl d_Mo_init_162 ?_
  refine x_any (R := fun h2 => h2 o = some (k_MarkerTextModel, [.int 0, .ref q1, .int 0, .int 0, .ref q4, .ref q5, .ref q6, .ref q7, .ref q8, .ref q9, .ref q10, .int 0, .ref q12, .ref q13, .ref q14, .ref q15, .ref q16, .ref q17, .ref q18, .ref q19, .ref q20, .ref q21, .ref q22, .null, .null, .null, .null, .int 0, .int 0, .int 0, .int 0, .null, .int 0, .int 0, .null, .int 0, .long 0, .null, .null, .null, .null, .null, .int 0, .int 0, .int 0, .null, .null, .null, .null, .int 0, .null, .int 0]) ∧ h2 q1 = some (k_aint, List.replicate 160 (.int 0)) ∧ h2 q15 = some (k_aint, List.replicate 9 (.int 0)) ∧ h2 q21 = some (k_aint, List.replicate 9 (.int 0)) ∧ xfr h h2 [o]) ⟨xup_self, (by rw [xup_ne (xne q1_18 ho_18 (by decide))]; exact xup_old q1_18 hn_q22), (by rw [xup_ne (xne q15_18 ho_18 (by decide))]; exact xup_old q15_18 hn_q22), (by rw [xup_ne (xne q21_18 ho_18 (by decide))]; exact xup_old q21_18 hn_q22), ((f_18.up (Or.inr (f_18.2 _ hn_q22))).up (Or.inl (by simp)))⟩ (fun h19 ⟨ho_19, q1_19, q15_19, q21_19, f_19⟩ => ?_)
  refine x_aload_n d_Mo_init_165 rfl rfl ?_
  refine x_sipush (v := 6336) d_Mo_init_166 (by decide) ?_
  refine x_newa (k := k_aint) rfl rfl (fun _ hz => by cases hz) xw_111 (by decide) (by decide : Int32.toNatClampNeg 6336 = 6336) (by decide) (by omega) (by omega) d_Mo_init_169 (fun q23 hn_q23 hk_q23 => ?_)
  have n_q23 : o ≠ q23 := xneN ho_19 hn_q23
  refine x_putF xf_Mo_69_Mo xp_Mo_23 ⟨_, _, _, rfl, rfl, xw_1193⟩ rfl rfl rfl (xup_old ho_19 hn_q23) rfl rfl d_Mo_init_171 ?_
  refine x_any (R := fun h2 => h2 o = some (k_MarkerTextModel, [.int 0, .ref q1, .int 0, .int 0, .ref q4, .ref q5, .ref q6, .ref q7, .ref q8, .ref q9, .ref q10, .int 0, .ref q12, .ref q13, .ref q14, .ref q15, .ref q16, .ref q17, .ref q18, .ref q19, .ref q20, .ref q21, .ref q22, .ref q23, .null, .null, .null, .int 0, .int 0, .int 0, .int 0, .null, .int 0, .int 0, .null, .int 0, .long 0, .null, .null, .null, .null, .null, .int 0, .int 0, .int 0, .null, .null, .null, .null, .int 0, .null, .int 0]) ∧ h2 q1 = some (k_aint, List.replicate 160 (.int 0)) ∧ h2 q15 = some (k_aint, List.replicate 9 (.int 0)) ∧ h2 q21 = some (k_aint, List.replicate 9 (.int 0)) ∧ xfr h h2 [o]) ⟨xup_self, (by rw [xup_ne (xne q1_19 ho_19 (by decide))]; exact xup_old q1_19 hn_q23), (by rw [xup_ne (xne q15_19 ho_19 (by decide))]; exact xup_old q15_19 hn_q23), (by rw [xup_ne (xne q21_19 ho_19 (by decide))]; exact xup_old q21_19 hn_q23), ((f_19.up (Or.inr (f_19.2 _ hn_q23))).up (Or.inl (by simp)))⟩ (fun h20 ⟨ho_20, q1_20, q15_20, q21_20, f_20⟩ => ?_)
  refine x_aload_n d_Mo_init_174 rfl rfl ?_
  refine x_sipush (v := 576) d_Mo_init_175 (by decide) ?_
  refine x_newa (k := k_aint) rfl rfl (fun _ hz => by cases hz) xw_111 (by decide) (by decide : Int32.toNatClampNeg 576 = 576) (by decide) (by omega) (by omega) d_Mo_init_178 (fun q24 hn_q24 hk_q24 => ?_)
  have n_q24 : o ≠ q24 := xneN ho_20 hn_q24
  refine x_putF xf_Mo_72_Mo xp_Mo_24 ⟨_, _, _, rfl, rfl, xw_1194⟩ rfl rfl rfl (xup_old ho_20 hn_q24) rfl rfl d_Mo_init_180 ?_
  refine x_any (R := fun h2 => h2 o = some (k_MarkerTextModel, [.int 0, .ref q1, .int 0, .int 0, .ref q4, .ref q5, .ref q6, .ref q7, .ref q8, .ref q9, .ref q10, .int 0, .ref q12, .ref q13, .ref q14, .ref q15, .ref q16, .ref q17, .ref q18, .ref q19, .ref q20, .ref q21, .ref q22, .ref q23, .ref q24, .null, .null, .int 0, .int 0, .int 0, .int 0, .null, .int 0, .int 0, .null, .int 0, .long 0, .null, .null, .null, .null, .null, .int 0, .int 0, .int 0, .null, .null, .null, .null, .int 0, .null, .int 0]) ∧ h2 q1 = some (k_aint, List.replicate 160 (.int 0)) ∧ h2 q15 = some (k_aint, List.replicate 9 (.int 0)) ∧ h2 q21 = some (k_aint, List.replicate 9 (.int 0)) ∧ xfr h h2 [o]) ⟨xup_self, (by rw [xup_ne (xne q1_20 ho_20 (by decide))]; exact xup_old q1_20 hn_q24), (by rw [xup_ne (xne q15_20 ho_20 (by decide))]; exact xup_old q15_20 hn_q24), (by rw [xup_ne (xne q21_20 ho_20 (by decide))]; exact xup_old q21_20 hn_q24), ((f_20.up (Or.inr (f_20.2 _ hn_q24))).up (Or.inl (by simp)))⟩ (fun h21 ⟨ho_21, q1_21, q15_21, q21_21, f_21⟩ => ?_)
  refine x_aload_n d_Mo_init_183 rfl rfl ?_
  refine x_sipush (v := 576) d_Mo_init_184 (by decide) ?_
  refine x_newa (k := k_aint) rfl rfl (fun _ hz => by cases hz) xw_111 (by decide) (by decide : Int32.toNatClampNeg 576 = 576) (by decide) (by omega) (by omega) d_Mo_init_187 (fun q25 hn_q25 hk_q25 => ?_)
  have n_q25 : o ≠ q25 := xneN ho_21 hn_q25
  refine x_putF xf_Mo_75_Mo xp_Mo_25 ⟨_, _, _, rfl, rfl, xw_1195⟩ rfl rfl rfl (xup_old ho_21 hn_q25) rfl rfl d_Mo_init_189 ?_
  refine x_any (R := fun h2 => h2 o = some (k_MarkerTextModel, [.int 0, .ref q1, .int 0, .int 0, .ref q4, .ref q5, .ref q6, .ref q7, .ref q8, .ref q9, .ref q10, .int 0, .ref q12, .ref q13, .ref q14, .ref q15, .ref q16, .ref q17, .ref q18, .ref q19, .ref q20, .ref q21, .ref q22, .ref q23, .ref q24, .ref q25, .null, .int 0, .int 0, .int 0, .int 0, .null, .int 0, .int 0, .null, .int 0, .long 0, .null, .null, .null, .null, .null, .int 0, .int 0, .int 0, .null, .null, .null, .null, .int 0, .null, .int 0]) ∧ h2 q1 = some (k_aint, List.replicate 160 (.int 0)) ∧ h2 q15 = some (k_aint, List.replicate 9 (.int 0)) ∧ h2 q21 = some (k_aint, List.replicate 9 (.int 0)) ∧ xfr h h2 [o]) ⟨xup_self, (by rw [xup_ne (xne q1_21 ho_21 (by decide))]; exact xup_old q1_21 hn_q25), (by rw [xup_ne (xne q15_21 ho_21 (by decide))]; exact xup_old q15_21 hn_q25), (by rw [xup_ne (xne q21_21 ho_21 (by decide))]; exact xup_old q21_21 hn_q25), ((f_21.up (Or.inr (f_21.2 _ hn_q25))).up (Or.inl (by simp)))⟩ (fun h22 ⟨ho_22, q1_22, q15_22, q21_22, f_22⟩ => ?_)
  refine x_aload_n d_Mo_init_192 rfl rfl ?_
  refine x_bipush (v := 9) d_Mo_init_193 (by decide) ?_
  refine x_newa (k := k_aint) rfl rfl (fun _ hz => by cases hz) xw_111 (by decide) (by decide : Int32.toNatClampNeg 9 = 9) (by decide) (by omega) (by omega) d_Mo_init_195 (fun q26 hn_q26 hk_q26 => ?_)
  have n_q26 : o ≠ q26 := xneN ho_22 hn_q26
  refine x_putF xf_Mo_78_Mo xp_Mo_26 ⟨_, _, _, rfl, rfl, xw_1196⟩ rfl rfl rfl (xup_old ho_22 hn_q26) rfl rfl d_Mo_init_197 ?_
  refine x_any (R := fun h2 => h2 o = some (k_MarkerTextModel, [.int 0, .ref q1, .int 0, .int 0, .ref q4, .ref q5, .ref q6, .ref q7, .ref q8, .ref q9, .ref q10, .int 0, .ref q12, .ref q13, .ref q14, .ref q15, .ref q16, .ref q17, .ref q18, .ref q19, .ref q20, .ref q21, .ref q22, .ref q23, .ref q24, .ref q25, .ref q26, .int 0, .int 0, .int 0, .int 0, .null, .int 0, .int 0, .null, .int 0, .long 0, .null, .null, .null, .null, .null, .int 0, .int 0, .int 0, .null, .null, .null, .null, .int 0, .null, .int 0]) ∧ h2 q1 = some (k_aint, List.replicate 160 (.int 0)) ∧ h2 q15 = some (k_aint, List.replicate 9 (.int 0)) ∧ h2 q21 = some (k_aint, List.replicate 9 (.int 0)) ∧ h2 q26 = some (k_aint, List.replicate 9 (.int 0)) ∧ xfr h h2 [o]) ⟨xup_self, (by rw [xup_ne (xne q1_22 ho_22 (by decide))]; exact xup_old q1_22 hn_q26), (by rw [xup_ne (xne q15_22 ho_22 (by decide))]; exact xup_old q15_22 hn_q26), (by rw [xup_ne (xne q21_22 ho_22 (by decide))]; exact xup_old q21_22 hn_q26), (by rw [xup_ne (Ne.symm n_q26), xup_self]; try rfl), ((f_22.up (Or.inr (f_22.2 _ hn_q26))).up (Or.inl (by simp)))⟩ (fun h23 ⟨ho_23, q1_23, q15_23, q21_23, q26_23, f_23⟩ => ?_)
  refine x_aload_n d_Mo_init_200 rfl rfl ?_
  refine x_iconst (v := (-1)) d_Mo_init_201 (by decide) ?_
  refine x_put xf_Mo_81_Mo xp_Mo_30 rfl rfl ho_23 rfl rfl d_Mo_init_202 ?_
  refine x_any (R := fun h2 => h2 o = some (k_MarkerTextModel, [.int 0, .ref q1, .int 0, .int 0, .ref q4, .ref q5, .ref q6, .ref q7, .ref q8, .ref q9, .ref q10, .int 0, .ref q12, .ref q13, .ref q14, .ref q15, .ref q16, .ref q17, .ref q18, .ref q19, .ref q20, .ref q21, .ref q22, .ref q23, .ref q24, .ref q25, .ref q26, .int 0, .int 0, .int 0, .int (-1), .null, .int 0, .int 0, .null, .int 0, .long 0, .null, .null, .null, .null, .null, .int 0, .int 0, .int 0, .null, .null, .null, .null, .int 0, .null, .int 0]) ∧ h2 q1 = some (k_aint, List.replicate 160 (.int 0)) ∧ h2 q15 = some (k_aint, List.replicate 9 (.int 0)) ∧ h2 q21 = some (k_aint, List.replicate 9 (.int 0)) ∧ h2 q26 = some (k_aint, List.replicate 9 (.int 0)) ∧ xfr h h2 [o]) ⟨xup_self, (by rw [xup_ne (xne q1_23 ho_23 (by decide))]; exact q1_23), (by rw [xup_ne (xne q15_23 ho_23 (by decide))]; exact q15_23), (by rw [xup_ne (xne q21_23 ho_23 (by decide))]; exact q21_23), (by rw [xup_ne (xne q26_23 ho_23 (by decide))]; exact q26_23), (f_23.up (Or.inl (by simp)))⟩ (fun h24 ⟨ho_24, q1_24, q15_24, q21_24, q26_24, f_24⟩ => ?_)
  refine x_aload_n d_Mo_init_205 rfl rfl ?_
  refine x_bipush (v := 80) d_Mo_init_206 (by decide) ?_
  refine x_newa (k := k_aint) rfl rfl (fun _ hz => by cases hz) xw_111 (by decide) (by decide : Int32.toNatClampNeg 80 = 80) (by decide) (by omega) (by omega) d_Mo_init_208 (fun q31 hn_q31 hk_q31 => ?_)
  have n_q31 : o ≠ q31 := xneN ho_24 hn_q31
  refine x_putF xf_Mo_85_Mo xp_Mo_31 ⟨_, _, _, rfl, rfl, xw_1201⟩ rfl rfl rfl (xup_old ho_24 hn_q31) rfl rfl d_Mo_init_210 ?_
  refine x_any (R := fun h2 => h2 o = some (k_MarkerTextModel, [.int 0, .ref q1, .int 0, .int 0, .ref q4, .ref q5, .ref q6, .ref q7, .ref q8, .ref q9, .ref q10, .int 0, .ref q12, .ref q13, .ref q14, .ref q15, .ref q16, .ref q17, .ref q18, .ref q19, .ref q20, .ref q21, .ref q22, .ref q23, .ref q24, .ref q25, .ref q26, .int 0, .int 0, .int 0, .int (-1), .ref q31, .int 0, .int 0, .null, .int 0, .long 0, .null, .null, .null, .null, .null, .int 0, .int 0, .int 0, .null, .null, .null, .null, .int 0, .null, .int 0]) ∧ h2 q1 = some (k_aint, List.replicate 160 (.int 0)) ∧ h2 q15 = some (k_aint, List.replicate 9 (.int 0)) ∧ h2 q21 = some (k_aint, List.replicate 9 (.int 0)) ∧ h2 q26 = some (k_aint, List.replicate 9 (.int 0)) ∧ xfr h h2 [o]) ⟨xup_self, (by rw [xup_ne (xne q1_24 ho_24 (by decide))]; exact xup_old q1_24 hn_q31), (by rw [xup_ne (xne q15_24 ho_24 (by decide))]; exact xup_old q15_24 hn_q31), (by rw [xup_ne (xne q21_24 ho_24 (by decide))]; exact xup_old q21_24 hn_q31), (by rw [xup_ne (xne q26_24 ho_24 (by decide))]; exact xup_old q26_24 hn_q31), ((f_24.up (Or.inr (f_24.2 _ hn_q31))).up (Or.inl (by simp)))⟩ (fun h25 ⟨ho_25, q1_25, q15_25, q21_25, q26_25, f_25⟩ => ?_)
  refine x_aload_n d_Mo_init_213 rfl rfl ?_
  refine x_bipush (v := 80) d_Mo_init_214 (by decide) ?_
  refine x_newa (k := k_aint) rfl rfl (fun _ hz => by cases hz) xw_111 (by decide) (by decide : Int32.toNatClampNeg 80 = 80) (by decide) (by omega) (by omega) d_Mo_init_216 (fun q34 hn_q34 hk_q34 => ?_)
  have n_q34 : o ≠ q34 := xneN ho_25 hn_q34
  refine x_putF xf_Mo_88_Mo xp_Mo_34 ⟨_, _, _, rfl, rfl, xw_1204⟩ rfl rfl rfl (xup_old ho_25 hn_q34) rfl rfl d_Mo_init_218 ?_
  refine x_any (R := fun h2 => h2 o = some (k_MarkerTextModel, [.int 0, .ref q1, .int 0, .int 0, .ref q4, .ref q5, .ref q6, .ref q7, .ref q8, .ref q9, .ref q10, .int 0, .ref q12, .ref q13, .ref q14, .ref q15, .ref q16, .ref q17, .ref q18, .ref q19, .ref q20, .ref q21, .ref q22, .ref q23, .ref q24, .ref q25, .ref q26, .int 0, .int 0, .int 0, .int (-1), .ref q31, .int 0, .int 0, .ref q34, .int 0, .long 0, .null, .null, .null, .null, .null, .int 0, .int 0, .int 0, .null, .null, .null, .null, .int 0, .null, .int 0]) ∧ h2 q1 = some (k_aint, List.replicate 160 (.int 0)) ∧ h2 q15 = some (k_aint, List.replicate 9 (.int 0)) ∧ h2 q21 = some (k_aint, List.replicate 9 (.int 0)) ∧ h2 q26 = some (k_aint, List.replicate 9 (.int 0)) ∧ xfr h h2 [o]) ⟨xup_self, (by rw [xup_ne (xne q1_25 ho_25 (by decide))]; exact xup_old q1_25 hn_q34), (by rw [xup_ne (xne q15_25 ho_25 (by decide))]; exact xup_old q15_25 hn_q34), (by rw [xup_ne (xne q21_25 ho_25 (by decide))]; exact xup_old q21_25 hn_q34), (by rw [xup_ne (xne q26_25 ho_25 (by decide))]; exact xup_old q26_25 hn_q34), ((f_25.up (Or.inr (f_25.2 _ hn_q34))).up (Or.inl (by simp)))⟩ (fun h26 ⟨ho_26, q1_26, q15_26, q21_26, q26_26, f_26⟩ => ?_)
  refine x_aload_n d_Mo_init_221 rfl rfl ?_
  refine x_sipush (v := 1980) d_Mo_init_222 (by decide) ?_
  refine x_newa (k := k_along) rfl rfl (fun _ hz => by cases hz) xw_110 (by decide) (by decide : Int32.toNatClampNeg 1980 = 1980) (by decide) (by omega) (by omega) d_Mo_init_225 (fun q37 hn_q37 hk_q37 => ?_)
  have n_q37 : o ≠ q37 := xneN ho_26 hn_q37
  refine x_putF xf_Mo_91_Mo xp_Mo_37 ⟨_, _, _, rfl, rfl, xw_1207⟩ rfl rfl rfl (xup_old ho_26 hn_q37) rfl rfl d_Mo_init_227 ?_
  refine x_any (R := fun h2 => h2 o = some (k_MarkerTextModel, [.int 0, .ref q1, .int 0, .int 0, .ref q4, .ref q5, .ref q6, .ref q7, .ref q8, .ref q9, .ref q10, .int 0, .ref q12, .ref q13, .ref q14, .ref q15, .ref q16, .ref q17, .ref q18, .ref q19, .ref q20, .ref q21, .ref q22, .ref q23, .ref q24, .ref q25, .ref q26, .int 0, .int 0, .int 0, .int (-1), .ref q31, .int 0, .int 0, .ref q34, .int 0, .long 0, .ref q37, .null, .null, .null, .null, .int 0, .int 0, .int 0, .null, .null, .null, .null, .int 0, .null, .int 0]) ∧ h2 q1 = some (k_aint, List.replicate 160 (.int 0)) ∧ h2 q15 = some (k_aint, List.replicate 9 (.int 0)) ∧ h2 q21 = some (k_aint, List.replicate 9 (.int 0)) ∧ h2 q26 = some (k_aint, List.replicate 9 (.int 0)) ∧ xfr h h2 [o]) ⟨xup_self, (by rw [xup_ne (xne q1_26 ho_26 (by decide))]; exact xup_old q1_26 hn_q37), (by rw [xup_ne (xne q15_26 ho_26 (by decide))]; exact xup_old q15_26 hn_q37), (by rw [xup_ne (xne q21_26 ho_26 (by decide))]; exact xup_old q21_26 hn_q37), (by rw [xup_ne (xne q26_26 ho_26 (by decide))]; exact xup_old q26_26 hn_q37), ((f_26.up (Or.inr (f_26.2 _ hn_q37))).up (Or.inl (by simp)))⟩ (fun h27 ⟨ho_27, q1_27, q15_27, q21_27, q26_27, f_27⟩ => ?_)
  refine x_aload_n d_Mo_init_230 rfl rfl ?_
  refine x_bipush (v := 6) d_Mo_init_231 (by decide) ?_
  refine x_newa (k := k_aint) rfl rfl (fun _ hz => by cases hz) xw_111 (by decide) (by decide : Int32.toNatClampNeg 6 = 6) (by decide) (by omega) (by omega) d_Mo_init_233 (fun q38 hn_q38 hk_q38 => ?_)
  have n_q38 : o ≠ q38 := xneN ho_27 hn_q38
  refine x_putF xf_Mo_94_Mo xp_Mo_38 ⟨_, _, _, rfl, rfl, xw_1208⟩ rfl rfl rfl (xup_old ho_27 hn_q38) rfl rfl d_Mo_init_235 ?_
  refine x_any (R := fun h2 => h2 o = some (k_MarkerTextModel, [.int 0, .ref q1, .int 0, .int 0, .ref q4, .ref q5, .ref q6, .ref q7, .ref q8, .ref q9, .ref q10, .int 0, .ref q12, .ref q13, .ref q14, .ref q15, .ref q16, .ref q17, .ref q18, .ref q19, .ref q20, .ref q21, .ref q22, .ref q23, .ref q24, .ref q25, .ref q26, .int 0, .int 0, .int 0, .int (-1), .ref q31, .int 0, .int 0, .ref q34, .int 0, .long 0, .ref q37, .ref q38, .null, .null, .null, .int 0, .int 0, .int 0, .null, .null, .null, .null, .int 0, .null, .int 0]) ∧ h2 q1 = some (k_aint, List.replicate 160 (.int 0)) ∧ h2 q15 = some (k_aint, List.replicate 9 (.int 0)) ∧ h2 q21 = some (k_aint, List.replicate 9 (.int 0)) ∧ h2 q26 = some (k_aint, List.replicate 9 (.int 0)) ∧ h2 q38 = some (k_aint, List.replicate 6 (.int 0)) ∧ xfr h h2 [o]) ⟨xup_self, (by rw [xup_ne (xne q1_27 ho_27 (by decide))]; exact xup_old q1_27 hn_q38), (by rw [xup_ne (xne q15_27 ho_27 (by decide))]; exact xup_old q15_27 hn_q38), (by rw [xup_ne (xne q21_27 ho_27 (by decide))]; exact xup_old q21_27 hn_q38), (by rw [xup_ne (xne q26_27 ho_27 (by decide))]; exact xup_old q26_27 hn_q38), (by rw [xup_ne (Ne.symm n_q38), xup_self]; try rfl), ((f_27.up (Or.inr (f_27.2 _ hn_q38))).up (Or.inl (by simp)))⟩ (fun h28 ⟨ho_28, q1_28, q15_28, q21_28, q26_28, q38_28, f_28⟩ => ?_)
  refine x_aload_n d_Mo_init_238 rfl rfl ?_
  refine x_bipush (v := 6) d_Mo_init_239 (by decide) ?_
  refine x_newa (k := k_aboolean) rfl rfl (fun _ hz => by cases hz) xw_1327 (by decide) (by decide : Int32.toNatClampNeg 6 = 6) (by decide) (by omega) (by omega) d_Mo_init_241 (fun q39 hn_q39 hk_q39 => ?_)
  have n_q39 : o ≠ q39 := xneN ho_28 hn_q39
  refine x_putF xf_Mo_97_Mo xp_Mo_39 ⟨_, _, _, rfl, rfl, xw_1209⟩ rfl rfl rfl (xup_old ho_28 hn_q39) rfl rfl d_Mo_init_243 ?_
  refine x_any (R := fun h2 => h2 o = some (k_MarkerTextModel, [.int 0, .ref q1, .int 0, .int 0, .ref q4, .ref q5, .ref q6, .ref q7, .ref q8, .ref q9, .ref q10, .int 0, .ref q12, .ref q13, .ref q14, .ref q15, .ref q16, .ref q17, .ref q18, .ref q19, .ref q20, .ref q21, .ref q22, .ref q23, .ref q24, .ref q25, .ref q26, .int 0, .int 0, .int 0, .int (-1), .ref q31, .int 0, .int 0, .ref q34, .int 0, .long 0, .ref q37, .ref q38, .ref q39, .null, .null, .int 0, .int 0, .int 0, .null, .null, .null, .null, .int 0, .null, .int 0]) ∧ h2 q1 = some (k_aint, List.replicate 160 (.int 0)) ∧ h2 q15 = some (k_aint, List.replicate 9 (.int 0)) ∧ h2 q21 = some (k_aint, List.replicate 9 (.int 0)) ∧ h2 q26 = some (k_aint, List.replicate 9 (.int 0)) ∧ h2 q38 = some (k_aint, List.replicate 6 (.int 0)) ∧ h2 q39 = some (k_aboolean, List.replicate 6 (.int 0)) ∧ xfr h h2 [o]) ⟨xup_self, (by rw [xup_ne (xne q1_28 ho_28 (by decide))]; exact xup_old q1_28 hn_q39), (by rw [xup_ne (xne q15_28 ho_28 (by decide))]; exact xup_old q15_28 hn_q39), (by rw [xup_ne (xne q21_28 ho_28 (by decide))]; exact xup_old q21_28 hn_q39), (by rw [xup_ne (xne q26_28 ho_28 (by decide))]; exact xup_old q26_28 hn_q39), (by rw [xup_ne (xne q38_28 ho_28 (by decide))]; exact xup_old q38_28 hn_q39), (by rw [xup_ne (Ne.symm n_q39), xup_self]; try rfl), ((f_28.up (Or.inr (f_28.2 _ hn_q39))).up (Or.inl (by simp)))⟩ (fun h29 ⟨ho_29, q1_29, q15_29, q21_29, q26_29, q38_29, q39_29, f_29⟩ => ?_)
  refine x_aload_n d_Mo_init_246 rfl rfl ?_
  refine x_bipush (v := 6) d_Mo_init_247 (by decide) ?_
  refine x_newa (k := k_aint) rfl rfl (fun _ hz => by cases hz) xw_111 (by decide) (by decide : Int32.toNatClampNeg 6 = 6) (by decide) (by omega) (by omega) d_Mo_init_249 (fun q40 hn_q40 hk_q40 => ?_)
  have n_q40 : o ≠ q40 := xneN ho_29 hn_q40
  refine x_putF xf_Mo_100_Mo xp_Mo_40 ⟨_, _, _, rfl, rfl, xw_1210⟩ rfl rfl rfl (xup_old ho_29 hn_q40) rfl rfl d_Mo_init_251 ?_
  refine x_any (R := fun h2 => h2 o = some (k_MarkerTextModel, [.int 0, .ref q1, .int 0, .int 0, .ref q4, .ref q5, .ref q6, .ref q7, .ref q8, .ref q9, .ref q10, .int 0, .ref q12, .ref q13, .ref q14, .ref q15, .ref q16, .ref q17, .ref q18, .ref q19, .ref q20, .ref q21, .ref q22, .ref q23, .ref q24, .ref q25, .ref q26, .int 0, .int 0, .int 0, .int (-1), .ref q31, .int 0, .int 0, .ref q34, .int 0, .long 0, .ref q37, .ref q38, .ref q39, .ref q40, .null, .int 0, .int 0, .int 0, .null, .null, .null, .null, .int 0, .null, .int 0]) ∧ h2 q1 = some (k_aint, List.replicate 160 (.int 0)) ∧ h2 q15 = some (k_aint, List.replicate 9 (.int 0)) ∧ h2 q21 = some (k_aint, List.replicate 9 (.int 0)) ∧ h2 q26 = some (k_aint, List.replicate 9 (.int 0)) ∧ h2 q38 = some (k_aint, List.replicate 6 (.int 0)) ∧ h2 q39 = some (k_aboolean, List.replicate 6 (.int 0)) ∧ h2 q40 = some (k_aint, List.replicate 6 (.int 0)) ∧ xfr h h2 [o]) ⟨xup_self, (by rw [xup_ne (xne q1_29 ho_29 (by decide))]; exact xup_old q1_29 hn_q40), (by rw [xup_ne (xne q15_29 ho_29 (by decide))]; exact xup_old q15_29 hn_q40), (by rw [xup_ne (xne q21_29 ho_29 (by decide))]; exact xup_old q21_29 hn_q40), (by rw [xup_ne (xne q26_29 ho_29 (by decide))]; exact xup_old q26_29 hn_q40), (by rw [xup_ne (xne q38_29 ho_29 (by decide))]; exact xup_old q38_29 hn_q40), (by rw [xup_ne (xne q39_29 ho_29 (by decide))]; exact xup_old q39_29 hn_q40), (by rw [xup_ne (Ne.symm n_q40), xup_self]; try rfl), ((f_29.up (Or.inr (f_29.2 _ hn_q40))).up (Or.inl (by simp)))⟩ (fun h30 ⟨ho_30, q1_30, q15_30, q21_30, q26_30, q38_30, q39_30, q40_30, f_30⟩ => ?_)
  refine x_aload_n d_Mo_init_254 rfl rfl ?_
  refine x_sipush (v := 128) d_Mo_init_255 (by decide) ?_
  refine x_newa (k := k_aboolean) rfl rfl (fun _ hz => by cases hz) xw_1327 (by decide) (by decide : Int32.toNatClampNeg 128 = 128) (by decide) (by omega) (by omega) d_Mo_init_258 (fun q41 hn_q41 hk_q41 => ?_)
  have n_q41 : o ≠ q41 := xneN ho_30 hn_q41
  refine x_putF xf_Mo_103_Mo xp_Mo_41 ⟨_, _, _, rfl, rfl, xw_1211⟩ rfl rfl rfl (xup_old ho_30 hn_q41) rfl rfl d_Mo_init_260 ?_
  refine x_any (R := fun h2 => h2 o = some (k_MarkerTextModel, [.int 0, .ref q1, .int 0, .int 0, .ref q4, .ref q5, .ref q6, .ref q7, .ref q8, .ref q9, .ref q10, .int 0, .ref q12, .ref q13, .ref q14, .ref q15, .ref q16, .ref q17, .ref q18, .ref q19, .ref q20, .ref q21, .ref q22, .ref q23, .ref q24, .ref q25, .ref q26, .int 0, .int 0, .int 0, .int (-1), .ref q31, .int 0, .int 0, .ref q34, .int 0, .long 0, .ref q37, .ref q38, .ref q39, .ref q40, .ref q41, .int 0, .int 0, .int 0, .null, .null, .null, .null, .int 0, .null, .int 0]) ∧ h2 q1 = some (k_aint, List.replicate 160 (.int 0)) ∧ h2 q15 = some (k_aint, List.replicate 9 (.int 0)) ∧ h2 q21 = some (k_aint, List.replicate 9 (.int 0)) ∧ h2 q26 = some (k_aint, List.replicate 9 (.int 0)) ∧ h2 q38 = some (k_aint, List.replicate 6 (.int 0)) ∧ h2 q39 = some (k_aboolean, List.replicate 6 (.int 0)) ∧ h2 q40 = some (k_aint, List.replicate 6 (.int 0)) ∧ xfr h h2 [o]) ⟨xup_self, (by rw [xup_ne (xne q1_30 ho_30 (by decide))]; exact xup_old q1_30 hn_q41), (by rw [xup_ne (xne q15_30 ho_30 (by decide))]; exact xup_old q15_30 hn_q41), (by rw [xup_ne (xne q21_30 ho_30 (by decide))]; exact xup_old q21_30 hn_q41), (by rw [xup_ne (xne q26_30 ho_30 (by decide))]; exact xup_old q26_30 hn_q41), (by rw [xup_ne (xne q38_30 ho_30 (by decide))]; exact xup_old q38_30 hn_q41), (by rw [xup_ne (xne q39_30 ho_30 (by decide))]; exact xup_old q39_30 hn_q41), (by rw [xup_ne (xne q40_30 ho_30 (by decide))]; exact xup_old q40_30 hn_q41), ((f_30.up (Or.inr (f_30.2 _ hn_q41))).up (Or.inl (by simp)))⟩ (fun h31 ⟨ho_31, q1_31, q15_31, q21_31, q26_31, q38_31, q39_31, q40_31, f_31⟩ => ?_)
  refine x_aload_n d_Mo_init_263 rfl rfl ?_
  refine x_sipush (v := 256) d_Mo_init_264 (by decide) ?_
  refine x_newa (k := k_aint) rfl rfl (fun _ hz => by cases hz) xw_111 (by decide) (by decide : Int32.toNatClampNeg 256 = 256) (by decide) (by omega) (by omega) d_Mo_init_267 (fun q45 hn_q45 hk_q45 => ?_)
  have n_q45 : o ≠ q45 := xneN ho_31 hn_q45
  refine x_putF xf_Mo_106_Mo xp_Mo_45 ⟨_, _, _, rfl, rfl, xw_1215⟩ rfl rfl rfl (xup_old ho_31 hn_q45) rfl rfl d_Mo_init_269 ?_
  refine x_any (R := fun h2 => h2 o = some (k_MarkerTextModel, [.int 0, .ref q1, .int 0, .int 0, .ref q4, .ref q5, .ref q6, .ref q7, .ref q8, .ref q9, .ref q10, .int 0, .ref q12, .ref q13, .ref q14, .ref q15, .ref q16, .ref q17, .ref q18, .ref q19, .ref q20, .ref q21, .ref q22, .ref q23, .ref q24, .ref q25, .ref q26, .int 0, .int 0, .int 0, .int (-1), .ref q31, .int 0, .int 0, .ref q34, .int 0, .long 0, .ref q37, .ref q38, .ref q39, .ref q40, .ref q41, .int 0, .int 0, .int 0, .ref q45, .null, .null, .null, .int 0, .null, .int 0]) ∧ h2 q1 = some (k_aint, List.replicate 160 (.int 0)) ∧ h2 q15 = some (k_aint, List.replicate 9 (.int 0)) ∧ h2 q21 = some (k_aint, List.replicate 9 (.int 0)) ∧ h2 q26 = some (k_aint, List.replicate 9 (.int 0)) ∧ h2 q38 = some (k_aint, List.replicate 6 (.int 0)) ∧ h2 q39 = some (k_aboolean, List.replicate 6 (.int 0)) ∧ h2 q40 = some (k_aint, List.replicate 6 (.int 0)) ∧ h2 q45 = some (k_aint, List.replicate 256 (.int 0)) ∧ xfr h h2 [o]) ⟨xup_self, (by rw [xup_ne (xne q1_31 ho_31 (by decide))]; exact xup_old q1_31 hn_q45), (by rw [xup_ne (xne q15_31 ho_31 (by decide))]; exact xup_old q15_31 hn_q45), (by rw [xup_ne (xne q21_31 ho_31 (by decide))]; exact xup_old q21_31 hn_q45), (by rw [xup_ne (xne q26_31 ho_31 (by decide))]; exact xup_old q26_31 hn_q45), (by rw [xup_ne (xne q38_31 ho_31 (by decide))]; exact xup_old q38_31 hn_q45), (by rw [xup_ne (xne q39_31 ho_31 (by decide))]; exact xup_old q39_31 hn_q45), (by rw [xup_ne (xne q40_31 ho_31 (by decide))]; exact xup_old q40_31 hn_q45), (by rw [xup_ne (Ne.symm n_q45), xup_self]; try rfl), ((f_31.up (Or.inr (f_31.2 _ hn_q45))).up (Or.inl (by simp)))⟩ (fun h32 ⟨ho_32, q1_32, q15_32, q21_32, q26_32, q38_32, q39_32, q40_32, q45_32, f_32⟩ => ?_)
  refine x_aload_n d_Mo_init_272 rfl rfl ?_
  refine x_sipush (v := 256) d_Mo_init_273 (by decide) ?_
  refine x_newa (k := k_aint) rfl rfl (fun _ hz => by cases hz) xw_111 (by decide) (by decide : Int32.toNatClampNeg 256 = 256) (by decide) (by omega) (by omega) d_Mo_init_276 (fun q46 hn_q46 hk_q46 => ?_)
  have n_q46 : o ≠ q46 := xneN ho_32 hn_q46
  refine x_putF xf_Mo_109_Mo xp_Mo_46 ⟨_, _, _, rfl, rfl, xw_1216⟩ rfl rfl rfl (xup_old ho_32 hn_q46) rfl rfl d_Mo_init_278 ?_
  refine x_any (R := fun h2 => h2 o = some (k_MarkerTextModel, [.int 0, .ref q1, .int 0, .int 0, .ref q4, .ref q5, .ref q6, .ref q7, .ref q8, .ref q9, .ref q10, .int 0, .ref q12, .ref q13, .ref q14, .ref q15, .ref q16, .ref q17, .ref q18, .ref q19, .ref q20, .ref q21, .ref q22, .ref q23, .ref q24, .ref q25, .ref q26, .int 0, .int 0, .int 0, .int (-1), .ref q31, .int 0, .int 0, .ref q34, .int 0, .long 0, .ref q37, .ref q38, .ref q39, .ref q40, .ref q41, .int 0, .int 0, .int 0, .ref q45, .ref q46, .null, .null, .int 0, .null, .int 0]) ∧ h2 q1 = some (k_aint, List.replicate 160 (.int 0)) ∧ h2 q15 = some (k_aint, List.replicate 9 (.int 0)) ∧ h2 q21 = some (k_aint, List.replicate 9 (.int 0)) ∧ h2 q26 = some (k_aint, List.replicate 9 (.int 0)) ∧ h2 q38 = some (k_aint, List.replicate 6 (.int 0)) ∧ h2 q39 = some (k_aboolean, List.replicate 6 (.int 0)) ∧ h2 q40 = some (k_aint, List.replicate 6 (.int 0)) ∧ h2 q45 = some (k_aint, List.replicate 256 (.int 0)) ∧ h2 q46 = some (k_aint, List.replicate 256 (.int 0)) ∧ xfr h h2 [o]) ⟨xup_self, (by rw [xup_ne (xne q1_32 ho_32 (by decide))]; exact xup_old q1_32 hn_q46), (by rw [xup_ne (xne q15_32 ho_32 (by decide))]; exact xup_old q15_32 hn_q46), (by rw [xup_ne (xne q21_32 ho_32 (by decide))]; exact xup_old q21_32 hn_q46), (by rw [xup_ne (xne q26_32 ho_32 (by decide))]; exact xup_old q26_32 hn_q46), (by rw [xup_ne (xne q38_32 ho_32 (by decide))]; exact xup_old q38_32 hn_q46), (by rw [xup_ne (xne q39_32 ho_32 (by decide))]; exact xup_old q39_32 hn_q46), (by rw [xup_ne (xne q40_32 ho_32 (by decide))]; exact xup_old q40_32 hn_q46), (by rw [xup_ne (xne q45_32 ho_32 (by decide))]; exact xup_old q45_32 hn_q46), (by rw [xup_ne (Ne.symm n_q46), xup_self]; try rfl), ((f_32.up (Or.inr (f_32.2 _ hn_q46))).up (Or.inl (by simp)))⟩ (fun h33 ⟨ho_33, q1_33, q15_33, q21_33, q26_33, q38_33, q39_33, q40_33, q45_33, q46_33, f_33⟩ => ?_)
  refine x_aload_n d_Mo_init_281 rfl rfl ?_
  refine x_sipush (v := 1536) d_Mo_init_282 (by decide) ?_
  refine x_newa (k := k_aint) rfl rfl (fun _ hz => by cases hz) xw_111 (by decide) (by decide : Int32.toNatClampNeg 1536 = 1536) (by decide) (by omega) (by omega) d_Mo_init_285 (fun q47 hn_q47 hk_q47 => ?_)
  have n_q47 : o ≠ q47 := xneN ho_33 hn_q47
  refine x_putF xf_Mo_112_Mo xp_Mo_47 ⟨_, _, _, rfl, rfl, xw_1217⟩ rfl rfl rfl (xup_old ho_33 hn_q47) rfl rfl d_Mo_init_287 ?_
  refine x_any (R := fun h2 => h2 o = some (k_MarkerTextModel, [.int 0, .ref q1, .int 0, .int 0, .ref q4, .ref q5, .ref q6, .ref q7, .ref q8, .ref q9, .ref q10, .int 0, .ref q12, .ref q13, .ref q14, .ref q15, .ref q16, .ref q17, .ref q18, .ref q19, .ref q20, .ref q21, .ref q22, .ref q23, .ref q24, .ref q25, .ref q26, .int 0, .int 0, .int 0, .int (-1), .ref q31, .int 0, .int 0, .ref q34, .int 0, .long 0, .ref q37, .ref q38, .ref q39, .ref q40, .ref q41, .int 0, .int 0, .int 0, .ref q45, .ref q46, .ref q47, .null, .int 0, .null, .int 0]) ∧ h2 q1 = some (k_aint, List.replicate 160 (.int 0)) ∧ h2 q15 = some (k_aint, List.replicate 9 (.int 0)) ∧ h2 q21 = some (k_aint, List.replicate 9 (.int 0)) ∧ h2 q26 = some (k_aint, List.replicate 9 (.int 0)) ∧ h2 q38 = some (k_aint, List.replicate 6 (.int 0)) ∧ h2 q39 = some (k_aboolean, List.replicate 6 (.int 0)) ∧ h2 q40 = some (k_aint, List.replicate 6 (.int 0)) ∧ h2 q45 = some (k_aint, List.replicate 256 (.int 0)) ∧ h2 q46 = some (k_aint, List.replicate 256 (.int 0)) ∧ h2 q47 = some (k_aint, List.replicate 1536 (.int 0)) ∧ xfr h h2 [o]) ⟨xup_self, (by rw [xup_ne (xne q1_33 ho_33 (by decide))]; exact xup_old q1_33 hn_q47), (by rw [xup_ne (xne q15_33 ho_33 (by decide))]; exact xup_old q15_33 hn_q47), (by rw [xup_ne (xne q21_33 ho_33 (by decide))]; exact xup_old q21_33 hn_q47), (by rw [xup_ne (xne q26_33 ho_33 (by decide))]; exact xup_old q26_33 hn_q47), (by rw [xup_ne (xne q38_33 ho_33 (by decide))]; exact xup_old q38_33 hn_q47), (by rw [xup_ne (xne q39_33 ho_33 (by decide))]; exact xup_old q39_33 hn_q47), (by rw [xup_ne (xne q40_33 ho_33 (by decide))]; exact xup_old q40_33 hn_q47), (by rw [xup_ne (xne q45_33 ho_33 (by decide))]; exact xup_old q45_33 hn_q47), (by rw [xup_ne (xne q46_33 ho_33 (by decide))]; exact xup_old q46_33 hn_q47), (by rw [xup_ne (Ne.symm n_q47), xup_self]; try rfl), ((f_33.up (Or.inr (f_33.2 _ hn_q47))).up (Or.inl (by simp)))⟩ (fun h34 ⟨ho_34, q1_34, q15_34, q21_34, q26_34, q38_34, q39_34, q40_34, q45_34, q46_34, q47_34, f_34⟩ => ?_)
  refine x_aload_n d_Mo_init_290 rfl rfl ?_
  refine x_sipush (v := 1000) d_Mo_init_291 (by decide) ?_
  refine x_newa (k := k_aint) rfl rfl (fun _ hz => by cases hz) xw_111 (by decide) (by decide : Int32.toNatClampNeg 1000 = 1000) (by decide) (by omega) (by omega) d_Mo_init_294 (fun q48 hn_q48 hk_q48 => ?_)
  have n_q48 : o ≠ q48 := xneN ho_34 hn_q48
  refine x_putF xf_Mo_115_Mo xp_Mo_48 ⟨_, _, _, rfl, rfl, xw_1218⟩ rfl rfl rfl (xup_old ho_34 hn_q48) rfl rfl d_Mo_init_296 ?_
  refine x_any (R := fun h2 => h2 o = some (k_MarkerTextModel, [.int 0, .ref q1, .int 0, .int 0, .ref q4, .ref q5, .ref q6, .ref q7, .ref q8, .ref q9, .ref q10, .int 0, .ref q12, .ref q13, .ref q14, .ref q15, .ref q16, .ref q17, .ref q18, .ref q19, .ref q20, .ref q21, .ref q22, .ref q23, .ref q24, .ref q25, .ref q26, .int 0, .int 0, .int 0, .int (-1), .ref q31, .int 0, .int 0, .ref q34, .int 0, .long 0, .ref q37, .ref q38, .ref q39, .ref q40, .ref q41, .int 0, .int 0, .int 0, .ref q45, .ref q46, .ref q47, .ref q48, .int 0, .null, .int 0]) ∧ h2 q1 = some (k_aint, List.replicate 160 (.int 0)) ∧ h2 q15 = some (k_aint, List.replicate 9 (.int 0)) ∧ h2 q21 = some (k_aint, List.replicate 9 (.int 0)) ∧ h2 q26 = some (k_aint, List.replicate 9 (.int 0)) ∧ h2 q38 = some (k_aint, List.replicate 6 (.int 0)) ∧ h2 q39 = some (k_aboolean, List.replicate 6 (.int 0)) ∧ h2 q40 = some (k_aint, List.replicate 6 (.int 0)) ∧ h2 q45 = some (k_aint, List.replicate 256 (.int 0)) ∧ h2 q46 = some (k_aint, List.replicate 256 (.int 0)) ∧ h2 q47 = some (k_aint, List.replicate 1536 (.int 0)) ∧ xfr h h2 [o]) ⟨xup_self, (by rw [xup_ne (xne q1_34 ho_34 (by decide))]; exact xup_old q1_34 hn_q48), (by rw [xup_ne (xne q15_34 ho_34 (by decide))]; exact xup_old q15_34 hn_q48), (by rw [xup_ne (xne q21_34 ho_34 (by decide))]; exact xup_old q21_34 hn_q48), (by rw [xup_ne (xne q26_34 ho_34 (by decide))]; exact xup_old q26_34 hn_q48), (by rw [xup_ne (xne q38_34 ho_34 (by decide))]; exact xup_old q38_34 hn_q48), (by rw [xup_ne (xne q39_34 ho_34 (by decide))]; exact xup_old q39_34 hn_q48), (by rw [xup_ne (xne q40_34 ho_34 (by decide))]; exact xup_old q40_34 hn_q48), (by rw [xup_ne (xne q45_34 ho_34 (by decide))]; exact xup_old q45_34 hn_q48), (by rw [xup_ne (xne q46_34 ho_34 (by decide))]; exact xup_old q46_34 hn_q48), (by rw [xup_ne (xne q47_34 ho_34 (by decide))]; exact xup_old q47_34 hn_q48), ((f_34.up (Or.inr (f_34.2 _ hn_q48))).up (Or.inl (by simp)))⟩ (fun h35 ⟨ho_35, q1_35, q15_35, q21_35, q26_35, q38_35, q39_35, q40_35, q45_35, q46_35, q47_35, f_35⟩ => ?_)
  refine x_aload_n d_Mo_init_299 rfl rfl ?_
  refine x_sipush (v := 600) d_Mo_init_300 (by decide) ?_
  refine x_newa (k := k_aint) rfl rfl (fun _ hz => by cases hz) xw_111 (by decide) (by decide : Int32.toNatClampNeg 600 = 600) (by decide) (by omega) (by omega) d_Mo_init_303 (fun q50 hn_q50 hk_q50 => ?_)
  have n_q50 : o ≠ q50 := xneN ho_35 hn_q50
  refine x_putF xf_Mo_118_Mo xp_Mo_50 ⟨_, _, _, rfl, rfl, xw_1220⟩ rfl rfl rfl (xup_old ho_35 hn_q50) rfl rfl d_Mo_init_305 ?_
  refine x_any (R := fun h2 => h2 o = some (k_MarkerTextModel, [.int 0, .ref q1, .int 0, .int 0, .ref q4, .ref q5, .ref q6, .ref q7, .ref q8, .ref q9, .ref q10, .int 0, .ref q12, .ref q13, .ref q14, .ref q15, .ref q16, .ref q17, .ref q18, .ref q19, .ref q20, .ref q21, .ref q22, .ref q23, .ref q24, .ref q25, .ref q26, .int 0, .int 0, .int 0, .int (-1), .ref q31, .int 0, .int 0, .ref q34, .int 0, .long 0, .ref q37, .ref q38, .ref q39, .ref q40, .ref q41, .int 0, .int 0, .int 0, .ref q45, .ref q46, .ref q47, .ref q48, .int 0, .ref q50, .int 0]) ∧ h2 q1 = some (k_aint, List.replicate 160 (.int 0)) ∧ h2 q15 = some (k_aint, List.replicate 9 (.int 0)) ∧ h2 q21 = some (k_aint, List.replicate 9 (.int 0)) ∧ h2 q26 = some (k_aint, List.replicate 9 (.int 0)) ∧ h2 q38 = some (k_aint, List.replicate 6 (.int 0)) ∧ h2 q39 = some (k_aboolean, List.replicate 6 (.int 0)) ∧ h2 q40 = some (k_aint, List.replicate 6 (.int 0)) ∧ h2 q45 = some (k_aint, List.replicate 256 (.int 0)) ∧ h2 q46 = some (k_aint, List.replicate 256 (.int 0)) ∧ h2 q47 = some (k_aint, List.replicate 1536 (.int 0)) ∧ xfr h h2 [o]) ⟨xup_self, (by rw [xup_ne (xne q1_35 ho_35 (by decide))]; exact xup_old q1_35 hn_q50), (by rw [xup_ne (xne q15_35 ho_35 (by decide))]; exact xup_old q15_35 hn_q50), (by rw [xup_ne (xne q21_35 ho_35 (by decide))]; exact xup_old q21_35 hn_q50), (by rw [xup_ne (xne q26_35 ho_35 (by decide))]; exact xup_old q26_35 hn_q50), (by rw [xup_ne (xne q38_35 ho_35 (by decide))]; exact xup_old q38_35 hn_q50), (by rw [xup_ne (xne q39_35 ho_35 (by decide))]; exact xup_old q39_35 hn_q50), (by rw [xup_ne (xne q40_35 ho_35 (by decide))]; exact xup_old q40_35 hn_q50), (by rw [xup_ne (xne q45_35 ho_35 (by decide))]; exact xup_old q45_35 hn_q50), (by rw [xup_ne (xne q46_35 ho_35 (by decide))]; exact xup_old q46_35 hn_q50), (by rw [xup_ne (xne q47_35 ho_35 (by decide))]; exact xup_old q47_35 hn_q50), ((f_35.up (Or.inr (f_35.2 _ hn_q50))).up (Or.inl (by simp)))⟩ (fun h36 ⟨ho_36, q1_36, q15_36, q21_36, q26_36, q38_36, q39_36, q40_36, q45_36, q46_36, q47_36, f_36⟩ => ?_)
  refine x_vret d_Mo_init_308 rfl ?_
  exact ⟨rfl, ⟨fun z => if z = 1 then q1 else if z = 4 then q4 else if z = 5 then q5 else if z = 6 then q6 else if z = 7 then q7 else if z = 8 then q8 else if z = 9 then q9 else if z = 10 then q10 else if z = 12 then q12 else if z = 13 then q13 else if z = 14 then q14 else if z = 15 then q15 else if z = 16 then q16 else if z = 17 then q17 else if z = 18 then q18 else if z = 19 then q19 else if z = 20 then q20 else if z = 21 then q21 else if z = 22 then q22 else if z = 23 then q23 else if z = 24 then q24 else if z = 25 then q25 else if z = 26 then q26 else if z = 31 then q31 else if z = 34 then q34 else if z = 37 then q37 else if z = 38 then q38 else if z = 39 then q39 else if z = 40 then q40 else if z = 41 then q41 else if z = 45 then q45 else if z = 46 then q46 else if z = 47 then q47 else if z = 48 then q48 else if z = 50 then q50 else 0, ho_36, q1_36, q15_36, q21_36, q26_36, q38_36, q39_36, q40_36, q45_36, q46_36, q47_36⟩, f_36, by omega, by omega⟩
end MO1
