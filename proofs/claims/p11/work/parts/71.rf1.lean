section
abbrev y_Mo_init : MethodName := ⟨"MarkerTextModel", "<init>", "()V"⟩
abbrev M_Mo_init : XMt := (y_Mo_init, prog_13_method_1_code, 1, none)
theorem d_Mo_init_0 : decode M_Mo_init.2.1 0 = .ok (.aload_n 0, 1) := by decide +kernel
theorem d_Mo_init_1 : decode M_Mo_init.2.1 1 = .ok (.invokespecial 1, 3) := by decide +kernel
theorem xw_1169 : (Jvm.Cond.methodLink "MarkerTextModel" (1 : Nat) ({ cls := "java/lang/Object", name := "<init>", desc := "()V" } : Jvm.MethodName)) ∈ xT := xT_at 1169 (by decide +kernel) (by decide +kernel)
theorem d_Mo_init_4 : decode M_Mo_init.2.1 4 = .ok (.aload_n 0, 1) := by decide +kernel
theorem d_Mo_init_5 : decode M_Mo_init.2.1 5 = .ok (.sipush 160, 3) := by decide +kernel
theorem d_Mo_init_8 : decode M_Mo_init.2.1 8 = .ok (.newarray .int, 2) := by decide +kernel
theorem d_Mo_init_10 : decode M_Mo_init.2.1 10 = .ok (.putfield 7, 3) := by decide +kernel
theorem xw_1171 : (Jvm.Cond.fieldLink "MarkerTextModel" (7 : Nat) "MarkerTextModel" "text" "[I") ∈ xT := xT_at 1171 (by decide +kernel) (by decide +kernel)
theorem xf_Mo_7_Mo : xF "MarkerTextModel" 7 k_MarkerTextModel 1 := ⟨_, _, _, "MarkerTextModel", rfl, by decide, Or.inl xw_1171, Or.inl rfl⟩
theorem xp_Mo_1 : xP k_MarkerTextModel 1 true (.array .int) := ⟨_, _, _, rfl, rfl, by decide +kernel⟩
theorem d_Mo_init_13 : decode M_Mo_init.2.1 13 = .ok (.aload_n 0, 1) := by decide +kernel
theorem d_Mo_init_14 : decode M_Mo_init.2.1 14 = .ok (.bipush 48, 2) := by decide +kernel
theorem d_Mo_init_16 : decode M_Mo_init.2.1 16 = .ok (.newarray .int, 2) := by decide +kernel
theorem d_Mo_init_18 : decode M_Mo_init.2.1 18 = .ok (.putfield 13, 3) := by decide +kernel
theorem xw_1174 : (Jvm.Cond.fieldLink "MarkerTextModel" (13 : Nat) "MarkerTextModel" "letters" "[I") ∈ xT := xT_at 1174 (by decide +kernel) (by decide +kernel)
theorem xf_Mo_13_Mo : xF "MarkerTextModel" 13 k_MarkerTextModel 4 := ⟨_, _, _, "MarkerTextModel", rfl, by decide, Or.inl xw_1174, Or.inl rfl⟩
theorem xp_Mo_4 : xP k_MarkerTextModel 4 true (.array .int) := ⟨_, _, _, rfl, rfl, by decide +kernel⟩
theorem d_Mo_init_21 : decode M_Mo_init.2.1 21 = .ok (.aload_n 0, 1) := by decide +kernel
theorem d_Mo_init_22 : decode M_Mo_init.2.1 22 = .ok (.bipush 6, 2) := by decide +kernel
theorem d_Mo_init_24 : decode M_Mo_init.2.1 24 = .ok (.newarray .int, 2) := by decide +kernel
theorem d_Mo_init_26 : decode M_Mo_init.2.1 26 = .ok (.putfield 16, 3) := by decide +kernel
theorem xw_1175 : (Jvm.Cond.fieldLink "MarkerTextModel" (16 : Nat) "MarkerTextModel" "lengths" "[I") ∈ xT := xT_at 1175 (by decide +kernel) (by decide +kernel)
theorem xf_Mo_16_Mo : xF "MarkerTextModel" 16 k_MarkerTextModel 5 := ⟨_, _, _, "MarkerTextModel", rfl, by decide, Or.inl xw_1175, Or.inl rfl⟩
theorem xp_Mo_5 : xP k_MarkerTextModel 5 true (.array .int) := ⟨_, _, _, rfl, rfl, by decide +kernel⟩
theorem d_Mo_init_29 : decode M_Mo_init.2.1 29 = .ok (.aload_n 0, 1) := by decide +kernel
theorem d_Mo_init_30 : decode M_Mo_init.2.1 30 = .ok (.bipush 6, 2) := by decide +kernel
theorem d_Mo_init_32 : decode M_Mo_init.2.1 32 = .ok (.newarray .int, 2) := by decide +kernel
theorem d_Mo_init_34 : decode M_Mo_init.2.1 34 = .ok (.putfield 19, 3) := by decide +kernel
theorem xw_1176 : (Jvm.Cond.fieldLink "MarkerTextModel" (19 : Nat) "MarkerTextModel" "kinds" "[I") ∈ xT := xT_at 1176 (by decide +kernel) (by decide +kernel)
theorem xf_Mo_19_Mo : xF "MarkerTextModel" 19 k_MarkerTextModel 6 := ⟨_, _, _, "MarkerTextModel", rfl, by decide, Or.inl xw_1176, Or.inl rfl⟩
theorem xp_Mo_6 : xP k_MarkerTextModel 6 true (.array .int) := ⟨_, _, _, rfl, rfl, by decide +kernel⟩
theorem d_Mo_init_37 : decode M_Mo_init.2.1 37 = .ok (.aload_n 0, 1) := by decide +kernel
theorem d_Mo_init_38 : decode M_Mo_init.2.1 38 = .ok (.bipush 6, 2) := by decide +kernel
theorem d_Mo_init_40 : decode M_Mo_init.2.1 40 = .ok (.newarray .int, 2) := by decide +kernel
theorem d_Mo_init_42 : decode M_Mo_init.2.1 42 = .ok (.putfield 22, 3) := by decide +kernel
theorem xw_1177 : (Jvm.Cond.fieldLink "MarkerTextModel" (22 : Nat) "MarkerTextModel" "knownMany" "[I") ∈ xT := xT_at 1177 (by decide +kernel) (by decide +kernel)
theorem xf_Mo_22_Mo : xF "MarkerTextModel" 22 k_MarkerTextModel 7 := ⟨_, _, _, "MarkerTextModel", rfl, by decide, Or.inl xw_1177, Or.inl rfl⟩
theorem xp_Mo_7 : xP k_MarkerTextModel 7 true (.array .int) := ⟨_, _, _, rfl, rfl, by decide +kernel⟩
theorem d_Mo_init_45 : decode M_Mo_init.2.1 45 = .ok (.aload_n 0, 1) := by decide +kernel
theorem d_Mo_init_46 : decode M_Mo_init.2.1 46 = .ok (.bipush 36, 2) := by decide +kernel
theorem d_Mo_init_48 : decode M_Mo_init.2.1 48 = .ok (.newarray .long, 2) := by decide +kernel
theorem d_Mo_init_50 : decode M_Mo_init.2.1 50 = .ok (.putfield 25, 3) := by decide +kernel
theorem xw_1178 : (Jvm.Cond.fieldLink "MarkerTextModel" (25 : Nat) "MarkerTextModel" "known" "[J") ∈ xT := xT_at 1178 (by decide +kernel) (by decide +kernel)
theorem xf_Mo_25_Mo : xF "MarkerTextModel" 25 k_MarkerTextModel 8 := ⟨_, _, _, "MarkerTextModel", rfl, by decide, Or.inl xw_1178, Or.inl rfl⟩
theorem xp_Mo_8 : xP k_MarkerTextModel 8 true (.array .long) := ⟨_, _, _, rfl, rfl, by decide +kernel⟩
theorem d_Mo_init_53 : decode M_Mo_init.2.1 53 = .ok (.aload_n 0, 1) := by decide +kernel
theorem d_Mo_init_54 : decode M_Mo_init.2.1 54 = .ok (.bipush 6, 2) := by decide +kernel
theorem d_Mo_init_56 : decode M_Mo_init.2.1 56 = .ok (.newarray .boolean, 2) := by decide +kernel
theorem xw_1327 : (Jvm.Cond.arrayClass Jvm.ClassFile.FieldType.boolean) ∈ xT := xT_at 1327 (by decide +kernel) (by decide +kernel)
theorem d_Mo_init_58 : decode M_Mo_init.2.1 58 = .ok (.putfield 29, 3) := by decide +kernel
theorem xw_1179 : (Jvm.Cond.fieldLink "MarkerTextModel" (29 : Nat) "MarkerTextModel" "given" "[Z") ∈ xT := xT_at 1179 (by decide +kernel) (by decide +kernel)
theorem xf_Mo_29_Mo : xF "MarkerTextModel" 29 k_MarkerTextModel 9 := ⟨_, _, _, "MarkerTextModel", rfl, by decide, Or.inl xw_1179, Or.inl rfl⟩
theorem xp_Mo_9 : xP k_MarkerTextModel 9 true (.array .boolean) := ⟨_, _, _, rfl, rfl, by decide +kernel⟩
theorem d_Mo_init_61 : decode M_Mo_init.2.1 61 = .ok (.aload_n 0, 1) := by decide +kernel
theorem d_Mo_init_62 : decode M_Mo_init.2.1 62 = .ok (.bipush 6, 2) := by decide +kernel
theorem d_Mo_init_64 : decode M_Mo_init.2.1 64 = .ok (.newarray .long, 2) := by decide +kernel
theorem d_Mo_init_66 : decode M_Mo_init.2.1 66 = .ok (.putfield 33, 3) := by decide +kernel
theorem xw_1180 : (Jvm.Cond.fieldLink "MarkerTextModel" (33 : Nat) "MarkerTextModel" "gives" "[J") ∈ xT := xT_at 1180 (by decide +kernel) (by decide +kernel)
theorem xf_Mo_33_Mo : xF "MarkerTextModel" 33 k_MarkerTextModel 10 := ⟨_, _, _, "MarkerTextModel", rfl, by decide, Or.inl xw_1180, Or.inl rfl⟩
theorem xp_Mo_10 : xP k_MarkerTextModel 10 true (.array .long) := ⟨_, _, _, rfl, rfl, by decide +kernel⟩
theorem d_Mo_init_69 : decode M_Mo_init.2.1 69 = .ok (.aload_n 0, 1) := by decide +kernel
theorem d_Mo_init_70 : decode M_Mo_init.2.1 70 = .ok (.sipush 1152, 3) := by decide +kernel
theorem d_Mo_init_73 : decode M_Mo_init.2.1 73 = .ok (.newarray .int, 2) := by decide +kernel
theorem d_Mo_init_75 : decode M_Mo_init.2.1 75 = .ok (.putfield 36, 3) := by decide +kernel
theorem xw_1182 : (Jvm.Cond.fieldLink "MarkerTextModel" (36 : Nat) "MarkerTextModel" "nodeKinds" "[I") ∈ xT := xT_at 1182 (by decide +kernel) (by decide +kernel)
theorem xf_Mo_36_Mo : xF "MarkerTextModel" 36 k_MarkerTextModel 12 := ⟨_, _, _, "MarkerTextModel", rfl, by decide, Or.inl xw_1182, Or.inl rfl⟩
theorem xp_Mo_12 : xP k_MarkerTextModel 12 true (.array .int) := ⟨_, _, _, rfl, rfl, by decide +kernel⟩
theorem d_Mo_init_78 : decode M_Mo_init.2.1 78 = .ok (.aload_n 0, 1) := by decide +kernel
theorem d_Mo_init_79 : decode M_Mo_init.2.1 79 = .ok (.sipush 1152, 3) := by decide +kernel
theorem d_Mo_init_82 : decode M_Mo_init.2.1 82 = .ok (.newarray .int, 2) := by decide +kernel
theorem d_Mo_init_84 : decode M_Mo_init.2.1 84 = .ok (.putfield 39, 3) := by decide +kernel
theorem xw_1183 : (Jvm.Cond.fieldLink "MarkerTextModel" (39 : Nat) "MarkerTextModel" "lefts" "[I") ∈ xT := xT_at 1183 (by decide +kernel) (by decide +kernel)
theorem xf_Mo_39_Mo : xF "MarkerTextModel" 39 k_MarkerTextModel 13 := ⟨_, _, _, "MarkerTextModel", rfl, by decide, Or.inl xw_1183, Or.inl rfl⟩
theorem xp_Mo_13 : xP k_MarkerTextModel 13 true (.array .int) := ⟨_, _, _, rfl, rfl, by decide +kernel⟩
theorem d_Mo_init_87 : decode M_Mo_init.2.1 87 = .ok (.aload_n 0, 1) := by decide +kernel
theorem d_Mo_init_88 : decode M_Mo_init.2.1 88 = .ok (.sipush 1152, 3) := by decide +kernel
theorem d_Mo_init_91 : decode M_Mo_init.2.1 91 = .ok (.newarray .int, 2) := by decide +kernel
theorem d_Mo_init_93 : decode M_Mo_init.2.1 93 = .ok (.putfield 42, 3) := by decide +kernel
theorem xw_1184 : (Jvm.Cond.fieldLink "MarkerTextModel" (42 : Nat) "MarkerTextModel" "rights" "[I") ∈ xT := xT_at 1184 (by decide +kernel) (by decide +kernel)
theorem xf_Mo_42_Mo : xF "MarkerTextModel" 42 k_MarkerTextModel 14 := ⟨_, _, _, "MarkerTextModel", rfl, by decide, Or.inl xw_1184, Or.inl rfl⟩
theorem xp_Mo_14 : xP k_MarkerTextModel 14 true (.array .int) := ⟨_, _, _, rfl, rfl, by decide +kernel⟩
theorem d_Mo_init_96 : decode M_Mo_init.2.1 96 = .ok (.aload_n 0, 1) := by decide +kernel
theorem d_Mo_init_97 : decode M_Mo_init.2.1 97 = .ok (.bipush 9, 2) := by decide +kernel
theorem d_Mo_init_99 : decode M_Mo_init.2.1 99 = .ok (.newarray .int, 2) := by decide +kernel
theorem d_Mo_init_101 : decode M_Mo_init.2.1 101 = .ok (.putfield 45, 3) := by decide +kernel
theorem xw_1185 : (Jvm.Cond.fieldLink "MarkerTextModel" (45 : Nat) "MarkerTextModel" "nodes" "[I") ∈ xT := xT_at 1185 (by decide +kernel) (by decide +kernel)
theorem xf_Mo_45_Mo : xF "MarkerTextModel" 45 k_MarkerTextModel 15 := ⟨_, _, _, "MarkerTextModel", rfl, by decide, Or.inl xw_1185, Or.inl rfl⟩
theorem xp_Mo_15 : xP k_MarkerTextModel 15 true (.array .int) := ⟨_, _, _, rfl, rfl, by decide +kernel⟩
theorem d_Mo_init_104 : decode M_Mo_init.2.1 104 = .ok (.aload_n 0, 1) := by decide +kernel
theorem d_Mo_init_105 : decode M_Mo_init.2.1 105 = .ok (.bipush 9, 2) := by decide +kernel
theorem d_Mo_init_107 : decode M_Mo_init.2.1 107 = .ok (.newarray .int, 2) := by decide +kernel
theorem d_Mo_init_109 : decode M_Mo_init.2.1 109 = .ok (.putfield 48, 3) := by decide +kernel
theorem xw_1186 : (Jvm.Cond.fieldLink "MarkerTextModel" (48 : Nat) "MarkerTextModel" "tops" "[I") ∈ xT := xT_at 1186 (by decide +kernel) (by decide +kernel)
theorem xf_Mo_48_Mo : xF "MarkerTextModel" 48 k_MarkerTextModel 16 := ⟨_, _, _, "MarkerTextModel", rfl, by decide, Or.inl xw_1186, Or.inl rfl⟩
theorem xp_Mo_16 : xP k_MarkerTextModel 16 true (.array .int) := ⟨_, _, _, rfl, rfl, by decide +kernel⟩
theorem d_Mo_init_112 : decode M_Mo_init.2.1 112 = .ok (.aload_n 0, 1) := by decide +kernel
theorem d_Mo_init_113 : decode M_Mo_init.2.1 113 = .ok (.sipush 360, 3) := by decide +kernel
theorem d_Mo_init_116 : decode M_Mo_init.2.1 116 = .ok (.newarray .int, 2) := by decide +kernel
theorem d_Mo_init_118 : decode M_Mo_init.2.1 118 = .ok (.putfield 51, 3) := by decide +kernel
theorem xw_1187 : (Jvm.Cond.fieldLink "MarkerTextModel" (51 : Nat) "MarkerTextModel" "testNames" "[I") ∈ xT := xT_at 1187 (by decide +kernel) (by decide +kernel)
theorem xf_Mo_51_Mo : xF "MarkerTextModel" 51 k_MarkerTextModel 17 := ⟨_, _, _, "MarkerTextModel", rfl, by decide, Or.inl xw_1187, Or.inl rfl⟩
theorem xp_Mo_17 : xP k_MarkerTextModel 17 true (.array .int) := ⟨_, _, _, rfl, rfl, by decide +kernel⟩
theorem d_Mo_init_121 : decode M_Mo_init.2.1 121 = .ok (.aload_n 0, 1) := by decide +kernel
theorem d_Mo_init_122 : decode M_Mo_init.2.1 122 = .ok (.sipush 360, 3) := by decide +kernel
theorem d_Mo_init_125 : decode M_Mo_init.2.1 125 = .ok (.newarray .int, 2) := by decide +kernel
theorem d_Mo_init_127 : decode M_Mo_init.2.1 127 = .ok (.putfield 54, 3) := by decide +kernel
theorem xw_1188 : (Jvm.Cond.fieldLink "MarkerTextModel" (54 : Nat) "MarkerTextModel" "operators" "[I") ∈ xT := xT_at 1188 (by decide +kernel) (by decide +kernel)
theorem xf_Mo_54_Mo : xF "MarkerTextModel" 54 k_MarkerTextModel 18 := ⟨_, _, _, "MarkerTextModel", rfl, by decide, Or.inl xw_1188, Or.inl rfl⟩
theorem xp_Mo_18 : xP k_MarkerTextModel 18 true (.array .int) := ⟨_, _, _, rfl, rfl, by decide +kernel⟩
theorem d_Mo_init_130 : decode M_Mo_init.2.1 130 = .ok (.aload_n 0, 1) := by decide +kernel
theorem d_Mo_init_131 : decode M_Mo_init.2.1 131 = .ok (.sipush 360, 3) := by decide +kernel
theorem d_Mo_init_134 : decode M_Mo_init.2.1 134 = .ok (.newarray .int, 2) := by decide +kernel
theorem d_Mo_init_136 : decode M_Mo_init.2.1 136 = .ok (.putfield 57, 3) := by decide +kernel
theorem xw_1189 : (Jvm.Cond.fieldLink "MarkerTextModel" (57 : Nat) "MarkerTextModel" "firsts" "[I") ∈ xT := xT_at 1189 (by decide +kernel) (by decide +kernel)
theorem xf_Mo_57_Mo : xF "MarkerTextModel" 57 k_MarkerTextModel 19 := ⟨_, _, _, "MarkerTextModel", rfl, by decide, Or.inl xw_1189, Or.inl rfl⟩
theorem xp_Mo_19 : xP k_MarkerTextModel 19 true (.array .int) := ⟨_, _, _, rfl, rfl, by decide +kernel⟩
theorem d_Mo_init_139 : decode M_Mo_init.2.1 139 = .ok (.aload_n 0, 1) := by decide +kernel
theorem d_Mo_init_140 : decode M_Mo_init.2.1 140 = .ok (.sipush 360, 3) := by decide +kernel
theorem d_Mo_init_143 : decode M_Mo_init.2.1 143 = .ok (.newarray .int, 2) := by decide +kernel
theorem d_Mo_init_145 : decode M_Mo_init.2.1 145 = .ok (.putfield 60, 3) := by decide +kernel
theorem xw_1190 : (Jvm.Cond.fieldLink "MarkerTextModel" (60 : Nat) "MarkerTextModel" "manies" "[I") ∈ xT := xT_at 1190 (by decide +kernel) (by decide +kernel)
theorem xf_Mo_60_Mo : xF "MarkerTextModel" 60 k_MarkerTextModel 20 := ⟨_, _, _, "MarkerTextModel", rfl, by decide, Or.inl xw_1190, Or.inl rfl⟩
theorem xp_Mo_20 : xP k_MarkerTextModel 20 true (.array .int) := ⟨_, _, _, rfl, rfl, by decide +kernel⟩
theorem d_Mo_init_148 : decode M_Mo_init.2.1 148 = .ok (.aload_n 0, 1) := by decide +kernel
theorem d_Mo_init_149 : decode M_Mo_init.2.1 149 = .ok (.bipush 9, 2) := by decide +kernel
theorem d_Mo_init_151 : decode M_Mo_init.2.1 151 = .ok (.newarray .int, 2) := by decide +kernel
theorem d_Mo_init_153 : decode M_Mo_init.2.1 153 = .ok (.putfield 63, 3) := by decide +kernel
theorem xw_1191 : (Jvm.Cond.fieldLink "MarkerTextModel" (63 : Nat) "MarkerTextModel" "tests" "[I") ∈ xT := xT_at 1191 (by decide +kernel) (by decide +kernel)
theorem xf_Mo_63_Mo : xF "MarkerTextModel" 63 k_MarkerTextModel 21 := ⟨_, _, _, "MarkerTextModel", rfl, by decide, Or.inl xw_1191, Or.inl rfl⟩
theorem xp_Mo_21 : xP k_MarkerTextModel 21 true (.array .int) := ⟨_, _, _, rfl, rfl, by decide +kernel⟩
theorem d_Mo_init_156 : decode M_Mo_init.2.1 156 = .ok (.aload_n 0, 1) := by decide +kernel
theorem d_Mo_init_157 : decode M_Mo_init.2.1 157 = .ok (.sipush 576, 3) := by decide +kernel
theorem d_Mo_init_160 : decode M_Mo_init.2.1 160 = .ok (.newarray .long, 2) := by decide +kernel
theorem d_Mo_init_162 : decode M_Mo_init.2.1 162 = .ok (.putfield 66, 3) := by decide +kernel
theorem xw_1192 : (Jvm.Cond.fieldLink "MarkerTextModel" (66 : Nat) "MarkerTextModel" "keys" "[J") ∈ xT := xT_at 1192 (by decide +kernel) (by decide +kernel)
theorem xf_Mo_66_Mo : xF "MarkerTextModel" 66 k_MarkerTextModel 22 := ⟨_, _, _, "MarkerTextModel", rfl, by decide, Or.inl xw_1192, Or.inl rfl⟩
theorem xp_Mo_22 : xP k_MarkerTextModel 22 true (.array .long) := ⟨_, _, _, rfl, rfl, by decide +kernel⟩
theorem d_Mo_init_165 : decode M_Mo_init.2.1 165 = .ok (.aload_n 0, 1) := by decide +kernel
theorem d_Mo_init_166 : decode M_Mo_init.2.1 166 = .ok (.sipush 6336, 3) := by decide +kernel
theorem d_Mo_init_169 : decode M_Mo_init.2.1 169 = .ok (.newarray .int, 2) := by decide +kernel
theorem d_Mo_init_171 : decode M_Mo_init.2.1 171 = .ok (.putfield 69, 3) := by decide +kernel
theorem xw_1193 : (Jvm.Cond.fieldLink "MarkerTextModel" (69 : Nat) "MarkerTextModel" "written" "[I") ∈ xT := xT_at 1193 (by decide +kernel) (by decide +kernel)
theorem xf_Mo_69_Mo : xF "MarkerTextModel" 69 k_MarkerTextModel 23 := ⟨_, _, _, "MarkerTextModel", rfl, by decide, Or.inl xw_1193, Or.inl rfl⟩
theorem xp_Mo_23 : xP k_MarkerTextModel 23 true (.array .int) := ⟨_, _, _, rfl, rfl, by decide +kernel⟩
theorem d_Mo_init_174 : decode M_Mo_init.2.1 174 = .ok (.aload_n 0, 1) := by decide +kernel
theorem d_Mo_init_175 : decode M_Mo_init.2.1 175 = .ok (.sipush 576, 3) := by decide +kernel
theorem d_Mo_init_178 : decode M_Mo_init.2.1 178 = .ok (.newarray .int, 2) := by decide +kernel
theorem d_Mo_init_180 : decode M_Mo_init.2.1 180 = .ok (.putfield 72, 3) := by decide +kernel
theorem xw_1194 : (Jvm.Cond.fieldLink "MarkerTextModel" (72 : Nat) "MarkerTextModel" "writtenSizes" "[I") ∈ xT := xT_at 1194 (by decide +kernel) (by decide +kernel)
theorem xf_Mo_72_Mo : xF "MarkerTextModel" 72 k_MarkerTextModel 24 := ⟨_, _, _, "MarkerTextModel", rfl, by decide, Or.inl xw_1194, Or.inl rfl⟩
theorem xp_Mo_24 : xP k_MarkerTextModel 24 true (.array .int) := ⟨_, _, _, rfl, rfl, by decide +kernel⟩
theorem d_Mo_init_183 : decode M_Mo_init.2.1 183 = .ok (.aload_n 0, 1) := by decide +kernel
theorem d_Mo_init_184 : decode M_Mo_init.2.1 184 = .ok (.sipush 576, 3) := by decide +kernel
theorem d_Mo_init_187 : decode M_Mo_init.2.1 187 = .ok (.newarray .int, 2) := by decide +kernel
theorem d_Mo_init_189 : decode M_Mo_init.2.1 189 = .ok (.putfield 75, 3) := by decide +kernel
theorem xw_1195 : (Jvm.Cond.fieldLink "MarkerTextModel" (75 : Nat) "MarkerTextModel" "places" "[I") ∈ xT := xT_at 1195 (by decide +kernel) (by decide +kernel)
theorem xf_Mo_75_Mo : xF "MarkerTextModel" 75 k_MarkerTextModel 25 := ⟨_, _, _, "MarkerTextModel", rfl, by decide, Or.inl xw_1195, Or.inl rfl⟩
theorem xp_Mo_25 : xP k_MarkerTextModel 25 true (.array .int) := ⟨_, _, _, rfl, rfl, by decide +kernel⟩
theorem d_Mo_init_192 : decode M_Mo_init.2.1 192 = .ok (.aload_n 0, 1) := by decide +kernel
theorem d_Mo_init_193 : decode M_Mo_init.2.1 193 = .ok (.bipush 9, 2) := by decide +kernel
theorem d_Mo_init_195 : decode M_Mo_init.2.1 195 = .ok (.newarray .int, 2) := by decide +kernel
theorem d_Mo_init_197 : decode M_Mo_init.2.1 197 = .ok (.putfield 78, 3) := by decide +kernel
theorem xw_1196 : (Jvm.Cond.fieldLink "MarkerTextModel" (78 : Nat) "MarkerTextModel" "values" "[I") ∈ xT := xT_at 1196 (by decide +kernel) (by decide +kernel)
theorem xf_Mo_78_Mo : xF "MarkerTextModel" 78 k_MarkerTextModel 26 := ⟨_, _, _, "MarkerTextModel", rfl, by decide, Or.inl xw_1196, Or.inl rfl⟩
theorem xp_Mo_26 : xP k_MarkerTextModel 26 true (.array .int) := ⟨_, _, _, rfl, rfl, by decide +kernel⟩
theorem d_Mo_init_200 : decode M_Mo_init.2.1 200 = .ok (.aload_n 0, 1) := by decide +kernel
theorem d_Mo_init_201 : decode M_Mo_init.2.1 201 = .ok (.iconst (-1), 1) := by decide +kernel
theorem d_Mo_init_202 : decode M_Mo_init.2.1 202 = .ok (.putfield 81, 3) := by decide +kernel
theorem xw_1200 : (Jvm.Cond.fieldLink "MarkerTextModel" (81 : Nat) "MarkerTextModel" "place" "I") ∈ xT := xT_at 1200 (by decide +kernel) (by decide +kernel)
theorem xf_Mo_81_Mo : xF "MarkerTextModel" 81 k_MarkerTextModel 30 := ⟨_, _, _, "MarkerTextModel", rfl, by decide, Or.inl xw_1200, Or.inl rfl⟩
theorem xp_Mo_30 : xP k_MarkerTextModel 30 false .int := ⟨_, _, _, rfl, rfl, by decide +kernel⟩
theorem d_Mo_init_205 : decode M_Mo_init.2.1 205 = .ok (.aload_n 0, 1) := by decide +kernel
theorem d_Mo_init_206 : decode M_Mo_init.2.1 206 = .ok (.bipush 80, 2) := by decide +kernel
theorem d_Mo_init_208 : decode M_Mo_init.2.1 208 = .ok (.newarray .int, 2) := by decide +kernel
theorem d_Mo_init_210 : decode M_Mo_init.2.1 210 = .ok (.putfield 85, 3) := by decide +kernel
theorem xw_1201 : (Jvm.Cond.fieldLink "MarkerTextModel" (85 : Nat) "MarkerTextModel" "piles" "[I") ∈ xT := xT_at 1201 (by decide +kernel) (by decide +kernel)
theorem xf_Mo_85_Mo : xF "MarkerTextModel" 85 k_MarkerTextModel 31 := ⟨_, _, _, "MarkerTextModel", rfl, by decide, Or.inl xw_1201, Or.inl rfl⟩
theorem xp_Mo_31 : xP k_MarkerTextModel 31 true (.array .int) := ⟨_, _, _, rfl, rfl, by decide +kernel⟩
theorem d_Mo_init_213 : decode M_Mo_init.2.1 213 = .ok (.aload_n 0, 1) := by decide +kernel
theorem d_Mo_init_214 : decode M_Mo_init.2.1 214 = .ok (.bipush 80, 2) := by decide +kernel
theorem d_Mo_init_216 : decode M_Mo_init.2.1 216 = .ok (.newarray .int, 2) := by decide +kernel
theorem d_Mo_init_218 : decode M_Mo_init.2.1 218 = .ok (.putfield 88, 3) := by decide +kernel
theorem xw_1204 : (Jvm.Cond.fieldLink "MarkerTextModel" (88 : Nat) "MarkerTextModel" "ready" "[I") ∈ xT := xT_at 1204 (by decide +kernel) (by decide +kernel)
theorem xf_Mo_88_Mo : xF "MarkerTextModel" 88 k_MarkerTextModel 34 := ⟨_, _, _, "MarkerTextModel", rfl, by decide, Or.inl xw_1204, Or.inl rfl⟩
theorem xp_Mo_34 : xP k_MarkerTextModel 34 true (.array .int) := ⟨_, _, _, rfl, rfl, by decide +kernel⟩
theorem d_Mo_init_221 : decode M_Mo_init.2.1 221 = .ok (.aload_n 0, 1) := by decide +kernel
theorem d_Mo_init_222 : decode M_Mo_init.2.1 222 = .ok (.sipush 1980, 3) := by decide +kernel
theorem d_Mo_init_225 : decode M_Mo_init.2.1 225 = .ok (.newarray .long, 2) := by decide +kernel
theorem d_Mo_init_227 : decode M_Mo_init.2.1 227 = .ok (.putfield 91, 3) := by decide +kernel
theorem xw_1207 : (Jvm.Cond.fieldLink "MarkerTextModel" (91 : Nat) "MarkerTextModel" "sorted" "[J") ∈ xT := xT_at 1207 (by decide +kernel) (by decide +kernel)
theorem xf_Mo_91_Mo : xF "MarkerTextModel" 91 k_MarkerTextModel 37 := ⟨_, _, _, "MarkerTextModel", rfl, by decide, Or.inl xw_1207, Or.inl rfl⟩
theorem xp_Mo_37 : xP k_MarkerTextModel 37 true (.array .long) := ⟨_, _, _, rfl, rfl, by decide +kernel⟩
theorem d_Mo_init_230 : decode M_Mo_init.2.1 230 = .ok (.aload_n 0, 1) := by decide +kernel
theorem d_Mo_init_231 : decode M_Mo_init.2.1 231 = .ok (.bipush 6, 2) := by decide +kernel
theorem d_Mo_init_233 : decode M_Mo_init.2.1 233 = .ok (.newarray .int, 2) := by decide +kernel
theorem d_Mo_init_235 : decode M_Mo_init.2.1 235 = .ok (.putfield 94, 3) := by decide +kernel
theorem xw_1208 : (Jvm.Cond.fieldLink "MarkerTextModel" (94 : Nat) "MarkerTextModel" "many" "[I") ∈ xT := xT_at 1208 (by decide +kernel) (by decide +kernel)
theorem xf_Mo_94_Mo : xF "MarkerTextModel" 94 k_MarkerTextModel 38 := ⟨_, _, _, "MarkerTextModel", rfl, by decide, Or.inl xw_1208, Or.inl rfl⟩
theorem xp_Mo_38 : xP k_MarkerTextModel 38 true (.array .int) := ⟨_, _, _, rfl, rfl, by decide +kernel⟩
theorem d_Mo_init_238 : decode M_Mo_init.2.1 238 = .ok (.aload_n 0, 1) := by decide +kernel
theorem d_Mo_init_239 : decode M_Mo_init.2.1 239 = .ok (.bipush 6, 2) := by decide +kernel
theorem d_Mo_init_241 : decode M_Mo_init.2.1 241 = .ok (.newarray .boolean, 2) := by decide +kernel
theorem d_Mo_init_243 : decode M_Mo_init.2.1 243 = .ok (.putfield 97, 3) := by decide +kernel
theorem xw_1209 : (Jvm.Cond.fieldLink "MarkerTextModel" (97 : Nat) "MarkerTextModel" "asked" "[Z") ∈ xT := xT_at 1209 (by decide +kernel) (by decide +kernel)
theorem xf_Mo_97_Mo : xF "MarkerTextModel" 97 k_MarkerTextModel 39 := ⟨_, _, _, "MarkerTextModel", rfl, by decide, Or.inl xw_1209, Or.inl rfl⟩
theorem xp_Mo_39 : xP k_MarkerTextModel 39 true (.array .boolean) := ⟨_, _, _, rfl, rfl, by decide +kernel⟩
theorem d_Mo_init_246 : decode M_Mo_init.2.1 246 = .ok (.aload_n 0, 1) := by decide +kernel
theorem d_Mo_init_247 : decode M_Mo_init.2.1 247 = .ok (.bipush 6, 2) := by decide +kernel
theorem d_Mo_init_249 : decode M_Mo_init.2.1 249 = .ok (.newarray .int, 2) := by decide +kernel
theorem d_Mo_init_251 : decode M_Mo_init.2.1 251 = .ok (.putfield 100, 3) := by decide +kernel
theorem xw_1210 : (Jvm.Cond.fieldLink "MarkerTextModel" (100 : Nat) "MarkerTextModel" "choice" "[I") ∈ xT := xT_at 1210 (by decide +kernel) (by decide +kernel)
theorem xf_Mo_100_Mo : xF "MarkerTextModel" 100 k_MarkerTextModel 40 := ⟨_, _, _, "MarkerTextModel", rfl, by decide, Or.inl xw_1210, Or.inl rfl⟩
theorem xp_Mo_40 : xP k_MarkerTextModel 40 true (.array .int) := ⟨_, _, _, rfl, rfl, by decide +kernel⟩
theorem d_Mo_init_254 : decode M_Mo_init.2.1 254 = .ok (.aload_n 0, 1) := by decide +kernel
theorem d_Mo_init_255 : decode M_Mo_init.2.1 255 = .ok (.sipush 128, 3) := by decide +kernel
theorem d_Mo_init_258 : decode M_Mo_init.2.1 258 = .ok (.newarray .boolean, 2) := by decide +kernel
theorem d_Mo_init_260 : decode M_Mo_init.2.1 260 = .ok (.putfield 103, 3) := by decide +kernel
theorem xw_1211 : (Jvm.Cond.fieldLink "MarkerTextModel" (103 : Nat) "MarkerTextModel" "truths" "[Z") ∈ xT := xT_at 1211 (by decide +kernel) (by decide +kernel)
theorem xf_Mo_103_Mo : xF "MarkerTextModel" 103 k_MarkerTextModel 41 := ⟨_, _, _, "MarkerTextModel", rfl, by decide, Or.inl xw_1211, Or.inl rfl⟩
theorem xp_Mo_41 : xP k_MarkerTextModel 41 true (.array .boolean) := ⟨_, _, _, rfl, rfl, by decide +kernel⟩
theorem d_Mo_init_263 : decode M_Mo_init.2.1 263 = .ok (.aload_n 0, 1) := by decide +kernel
theorem d_Mo_init_264 : decode M_Mo_init.2.1 264 = .ok (.sipush 256, 3) := by decide +kernel
theorem d_Mo_init_267 : decode M_Mo_init.2.1 267 = .ok (.newarray .int, 2) := by decide +kernel
theorem d_Mo_init_269 : decode M_Mo_init.2.1 269 = .ok (.putfield 106, 3) := by decide +kernel
theorem xw_1215 : (Jvm.Cond.fieldLink "MarkerTextModel" (106 : Nat) "MarkerTextModel" "classBits" "[I") ∈ xT := xT_at 1215 (by decide +kernel) (by decide +kernel)
theorem xf_Mo_106_Mo : xF "MarkerTextModel" 106 k_MarkerTextModel 45 := ⟨_, _, _, "MarkerTextModel", rfl, by decide, Or.inl xw_1215, Or.inl rfl⟩
theorem xp_Mo_45 : xP k_MarkerTextModel 45 true (.array .int) := ⟨_, _, _, rfl, rfl, by decide +kernel⟩
theorem d_Mo_init_272 : decode M_Mo_init.2.1 272 = .ok (.aload_n 0, 1) := by decide +kernel
theorem d_Mo_init_273 : decode M_Mo_init.2.1 273 = .ok (.sipush 256, 3) := by decide +kernel
theorem d_Mo_init_276 : decode M_Mo_init.2.1 276 = .ok (.newarray .int, 2) := by decide +kernel
theorem d_Mo_init_278 : decode M_Mo_init.2.1 278 = .ok (.putfield 109, 3) := by decide +kernel
theorem xw_1216 : (Jvm.Cond.fieldLink "MarkerTextModel" (109 : Nat) "MarkerTextModel" "classMany" "[I") ∈ xT := xT_at 1216 (by decide +kernel) (by decide +kernel)
theorem xf_Mo_109_Mo : xF "MarkerTextModel" 109 k_MarkerTextModel 46 := ⟨_, _, _, "MarkerTextModel", rfl, by decide, Or.inl xw_1216, Or.inl rfl⟩
theorem xp_Mo_46 : xP k_MarkerTextModel 46 true (.array .int) := ⟨_, _, _, rfl, rfl, by decide +kernel⟩
theorem d_Mo_init_281 : decode M_Mo_init.2.1 281 = .ok (.aload_n 0, 1) := by decide +kernel
theorem d_Mo_init_282 : decode M_Mo_init.2.1 282 = .ok (.sipush 1536, 3) := by decide +kernel
theorem d_Mo_init_285 : decode M_Mo_init.2.1 285 = .ok (.newarray .int, 2) := by decide +kernel
theorem d_Mo_init_287 : decode M_Mo_init.2.1 287 = .ok (.putfield 112, 3) := by decide +kernel
theorem xw_1217 : (Jvm.Cond.fieldLink "MarkerTextModel" (112 : Nat) "MarkerTextModel" "classSamples" "[I") ∈ xT := xT_at 1217 (by decide +kernel) (by decide +kernel)
theorem xf_Mo_112_Mo : xF "MarkerTextModel" 112 k_MarkerTextModel 47 := ⟨_, _, _, "MarkerTextModel", rfl, by decide, Or.inl xw_1217, Or.inl rfl⟩
theorem xp_Mo_47 : xP k_MarkerTextModel 47 true (.array .int) := ⟨_, _, _, rfl, rfl, by decide +kernel⟩
theorem d_Mo_init_290 : decode M_Mo_init.2.1 290 = .ok (.aload_n 0, 1) := by decide +kernel
theorem d_Mo_init_291 : decode M_Mo_init.2.1 291 = .ok (.sipush 1000, 3) := by decide +kernel
theorem d_Mo_init_294 : decode M_Mo_init.2.1 294 = .ok (.newarray .int, 2) := by decide +kernel
theorem d_Mo_init_296 : decode M_Mo_init.2.1 296 = .ok (.putfield 115, 3) := by decide +kernel
theorem xw_1218 : (Jvm.Cond.fieldLink "MarkerTextModel" (115 : Nat) "MarkerTextModel" "print" "[I") ∈ xT := xT_at 1218 (by decide +kernel) (by decide +kernel)
theorem xf_Mo_115_Mo : xF "MarkerTextModel" 115 k_MarkerTextModel 48 := ⟨_, _, _, "MarkerTextModel", rfl, by decide, Or.inl xw_1218, Or.inl rfl⟩
theorem xp_Mo_48 : xP k_MarkerTextModel 48 true (.array .int) := ⟨_, _, _, rfl, rfl, by decide +kernel⟩
theorem d_Mo_init_299 : decode M_Mo_init.2.1 299 = .ok (.aload_n 0, 1) := by decide +kernel
theorem d_Mo_init_300 : decode M_Mo_init.2.1 300 = .ok (.sipush 600, 3) := by decide +kernel
theorem d_Mo_init_303 : decode M_Mo_init.2.1 303 = .ok (.newarray .int, 2) := by decide +kernel
theorem d_Mo_init_305 : decode M_Mo_init.2.1 305 = .ok (.putfield 118, 3) := by decide +kernel
theorem xw_1220 : (Jvm.Cond.fieldLink "MarkerTextModel" (118 : Nat) "MarkerTextModel" "todo" "[I") ∈ xT := xT_at 1220 (by decide +kernel) (by decide +kernel)
theorem xf_Mo_118_Mo : xF "MarkerTextModel" 118 k_MarkerTextModel 50 := ⟨_, _, _, "MarkerTextModel", rfl, by decide, Or.inl xw_1220, Or.inl rfl⟩
theorem xp_Mo_50 : xP k_MarkerTextModel 50 true (.array .int) := ⟨_, _, _, rfl, rfl, by decide +kernel⟩
theorem d_Mo_init_308 : decode M_Mo_init.2.1 308 = .ok (.return_, 1) := by decide +kernel
end
section RF1
variable {l : Launch} {G : XG} {h : XH} {c n d : Nat}
/-- arrays of zeros -/
def pAr (h : XH) (as : List (Nat × Nat × Nat × Value)) : Prop := ∀ q ∈ as, q.2.1 ≠ k_MarkerTextModel ∧ h q.1 = some (q.2.1, List.replicate q.2.2.1 q.2.2.2)
theorem pAr.new {as : List (Nat × Nat × Nat × Value)} {a k z o : Nat} {v : Value} {vs : List Value} {e : Nat × List Value} (hA : pAr h as) (ha : h a = none) (hk : k ≠ k_MarkerTextModel) (ho : h o = some (k_MarkerTextModel, vs)) : pAr (xup (xup h a (k, List.replicate z v)) o e) ((a, k, z, v) :: as) := by
  intro q hq
  rcases List.mem_cons.mp hq with rfl | hq
  · refine ⟨hk, ?_⟩
    show xup (xup h a (k, List.replicate z v)) o e a = _
    rw [xup_ne (Ne.symm (xneN ho ha)), xup_self]
  · obtain ⟨g1, g2⟩ := hA q hq
    refine ⟨g1, ?_⟩
    rw [xup_ne (xne (xup_old (e := (k, List.replicate z v)) g2 ha) (xup_old (e := (k, List.replicate z v)) ho ha) g1)]
    exact xup_old g2 ha
theorem pAr.o {as : List (Nat × Nat × Nat × Value)} {o : Nat} {vs : List Value} {e : Nat × List Value} (hA : pAr h as) (ho : h o = some (k_MarkerTextModel, vs)) : pAr (xup h o e) as := by
  intro q hq
  obtain ⟨g1, g2⟩ := hA q hq
  exact ⟨g1, by rw [xup_ne (xne g2 ho g1)]; exact g2⟩
/-- the reference as it is made -/
def S0 : MS := (fun j => if j = 30 then -1 else 0, fun i => List.replicate (rLn i) 0, fun i => List.replicate (rLn i) 0, 0)
theorem S0_z (i : Nat) : zV (S0.2.1 i) = List.replicate (rLn i) (.int 0) := by
  show List.map _ (List.replicate (rLn i) 0) = _
  rw [List.map_replicate]
  rfl
theorem S0_l (i : Nat) : lV (S0.2.2.1 i) = List.replicate (rLn i) (.long 0) := by
  show List.map _ (List.replicate (rLn i) 0) = _
  rw [List.map_replicate]
theorem isR_0 {o q1 q4 q5 q6 q7 q8 q9 q10 q12 q13 q14 q15 q16 q17 q18 q19 q20 q21 q22 q23 q24 q25 q26 q31 q34 q37 q38 q39 q40 q41 q45 q46 q47 q48 q50 : Nat} (ho : h o = some (k_MarkerTextModel, [.int 0, .ref q1, .int 0, .int 0, .ref q4, .ref q5, .ref q6, .ref q7, .ref q8, .ref q9, .ref q10, .int 0, .ref q12, .ref q13, .ref q14, .ref q15, .ref q16, .ref q17, .ref q18, .ref q19, .ref q20, .ref q21, .ref q22, .ref q23, .ref q24, .ref q25, .ref q26, .int 0, .int 0, .int 0, .int (-1), .ref q31, .int 0, .int 0, .ref q34, .int 0, .long 0, .ref q37, .ref q38, .ref q39, .ref q40, .ref q41, .int 0, .int 0, .int 0, .ref q45, .ref q46, .ref q47, .ref q48, .int 0, .ref q50, .int 0])) (hA : pAr h [(q50, k_ar50, 600, (.int 0)), (q48, k_ar48, 1000, (.int 0)), (q47, k_ar47, 1536, (.int 0)), (q46, k_ar46, 256, (.int 0)), (q45, k_ar45, 256, (.int 0)), (q41, k_ar41, 128, (.int 0)), (q40, k_ar40, 6, (.int 0)), (q39, k_ar39, 6, (.int 0)), (q38, k_ar38, 6, (.int 0)), (q37, k_ar37, 1980, (.long 0)), (q34, k_ar34, 80, (.int 0)), (q31, k_ar31, 80, (.int 0)), (q26, k_ar26, 9, (.int 0)), (q25, k_ar25, 576, (.int 0)), (q24, k_ar24, 576, (.int 0)), (q23, k_ar23, 6336, (.int 0)), (q22, k_ar22, 576, (.long 0)), (q21, k_ar21, 9, (.int 0)), (q20, k_ar20, 360, (.int 0)), (q19, k_ar19, 360, (.int 0)), (q18, k_ar18, 360, (.int 0)), (q17, k_ar17, 360, (.int 0)), (q16, k_ar16, 9, (.int 0)), (q15, k_ar15, 9, (.int 0)), (q14, k_ar14, 1152, (.int 0)), (q13, k_ar13, 1152, (.int 0)), (q12, k_ar12, 1152, (.int 0)), (q10, k_ar10, 6, (.long 0)), (q9, k_ar9, 6, (.int 0)), (q8, k_ar8, 36, (.long 0)), (q7, k_ar7, 6, (.int 0)), (q6, k_ar6, 6, (.int 0)), (q5, k_ar5, 6, (.int 0)), (q4, k_ar4, 48, (.int 0)), (q1, k_ar1, 160, (.int 0))]) : isR h o (fun z => match z with | 1 => q1 | 4 => q4 | 5 => q5 | 6 => q6 | 7 => q7 | 8 => q8 | 9 => q9 | 10 => q10 | 12 => q12 | 13 => q13 | 14 => q14 | 15 => q15 | 16 => q16 | 17 => q17 | 18 => q18 | 19 => q19 | 20 => q20 | 21 => q21 | 22 => q22 | 23 => q23 | 24 => q24 | 25 => q25 | 26 => q26 | 31 => q31 | 34 => q34 | 37 => q37 | 38 => q38 | 39 => q39 | 40 => q40 | 41 => q41 | 45 => q45 | 46 => q46 | 47 => q47 | 48 => q48 | 50 => q50 | _ => 0) S0 := by
  refine ⟨ho, ?_, ?_, ?_⟩
  · show ∀ i ∈ [1, 4, 5, 6, 7, 9, 12, 13, 14, 15, 16, 17, 18, 19, 20, 21, 23, 24, 25, 26, 31, 34, 38, 39, 40, 41, 45, 46, 47, 48, 50], _
    refine List.forall_mem_cons.mpr ⟨⟨by rw [S0_z, show rLn 1 = 160 from rfl]; exact (hA _ (List.mem_of_getElem? (i := 34) rfl)).2, List.length_replicate, fun z hz => by rw [List.eq_of_mem_replicate hz]; exact ⟨by decide, fun _ => Or.inl rfl⟩⟩, ?_⟩
    refine List.forall_mem_cons.mpr ⟨⟨by rw [S0_z, show rLn 4 = 48 from rfl]; exact (hA _ (List.mem_of_getElem? (i := 33) rfl)).2, List.length_replicate, fun z hz => by rw [List.eq_of_mem_replicate hz]; exact ⟨by decide, fun _ => Or.inl rfl⟩⟩, ?_⟩
    refine List.forall_mem_cons.mpr ⟨⟨by rw [S0_z, show rLn 5 = 6 from rfl]; exact (hA _ (List.mem_of_getElem? (i := 32) rfl)).2, List.length_replicate, fun z hz => by rw [List.eq_of_mem_replicate hz]; exact ⟨by decide, fun _ => Or.inl rfl⟩⟩, ?_⟩
    refine List.forall_mem_cons.mpr ⟨⟨by rw [S0_z, show rLn 6 = 6 from rfl]; exact (hA _ (List.mem_of_getElem? (i := 31) rfl)).2, List.length_replicate, fun z hz => by rw [List.eq_of_mem_replicate hz]; exact ⟨by decide, fun _ => Or.inl rfl⟩⟩, ?_⟩
    refine List.forall_mem_cons.mpr ⟨⟨by rw [S0_z, show rLn 7 = 6 from rfl]; exact (hA _ (List.mem_of_getElem? (i := 30) rfl)).2, List.length_replicate, fun z hz => by rw [List.eq_of_mem_replicate hz]; exact ⟨by decide, fun _ => Or.inl rfl⟩⟩, ?_⟩
    refine List.forall_mem_cons.mpr ⟨⟨by rw [S0_z, show rLn 9 = 6 from rfl]; exact (hA _ (List.mem_of_getElem? (i := 28) rfl)).2, List.length_replicate, fun z hz => by rw [List.eq_of_mem_replicate hz]; exact ⟨by decide, fun _ => Or.inl rfl⟩⟩, ?_⟩
    refine List.forall_mem_cons.mpr ⟨⟨by rw [S0_z, show rLn 12 = 1152 from rfl]; exact (hA _ (List.mem_of_getElem? (i := 26) rfl)).2, List.length_replicate, fun z hz => by rw [List.eq_of_mem_replicate hz]; exact ⟨by decide, fun _ => Or.inl rfl⟩⟩, ?_⟩
    refine List.forall_mem_cons.mpr ⟨⟨by rw [S0_z, show rLn 13 = 1152 from rfl]; exact (hA _ (List.mem_of_getElem? (i := 25) rfl)).2, List.length_replicate, fun z hz => by rw [List.eq_of_mem_replicate hz]; exact ⟨by decide, fun _ => Or.inl rfl⟩⟩, ?_⟩
    refine List.forall_mem_cons.mpr ⟨⟨by rw [S0_z, show rLn 14 = 1152 from rfl]; exact (hA _ (List.mem_of_getElem? (i := 24) rfl)).2, List.length_replicate, fun z hz => by rw [List.eq_of_mem_replicate hz]; exact ⟨by decide, fun _ => Or.inl rfl⟩⟩, ?_⟩
    refine List.forall_mem_cons.mpr ⟨⟨by rw [S0_z, show rLn 15 = 9 from rfl]; exact (hA _ (List.mem_of_getElem? (i := 23) rfl)).2, List.length_replicate, fun z hz => by rw [List.eq_of_mem_replicate hz]; exact ⟨by decide, fun _ => Or.inl rfl⟩⟩, ?_⟩
    refine List.forall_mem_cons.mpr ⟨⟨by rw [S0_z, show rLn 16 = 9 from rfl]; exact (hA _ (List.mem_of_getElem? (i := 22) rfl)).2, List.length_replicate, fun z hz => by rw [List.eq_of_mem_replicate hz]; exact ⟨by decide, fun _ => Or.inl rfl⟩⟩, ?_⟩
    refine List.forall_mem_cons.mpr ⟨⟨by rw [S0_z, show rLn 17 = 360 from rfl]; exact (hA _ (List.mem_of_getElem? (i := 21) rfl)).2, List.length_replicate, fun z hz => by rw [List.eq_of_mem_replicate hz]; exact ⟨by decide, fun _ => Or.inl rfl⟩⟩, ?_⟩
    refine List.forall_mem_cons.mpr ⟨⟨by rw [S0_z, show rLn 18 = 360 from rfl]; exact (hA _ (List.mem_of_getElem? (i := 20) rfl)).2, List.length_replicate, fun z hz => by rw [List.eq_of_mem_replicate hz]; exact ⟨by decide, fun _ => Or.inl rfl⟩⟩, ?_⟩
    refine List.forall_mem_cons.mpr ⟨⟨by rw [S0_z, show rLn 19 = 360 from rfl]; exact (hA _ (List.mem_of_getElem? (i := 19) rfl)).2, List.length_replicate, fun z hz => by rw [List.eq_of_mem_replicate hz]; exact ⟨by decide, fun _ => Or.inl rfl⟩⟩, ?_⟩
    refine List.forall_mem_cons.mpr ⟨⟨by rw [S0_z, show rLn 20 = 360 from rfl]; exact (hA _ (List.mem_of_getElem? (i := 18) rfl)).2, List.length_replicate, fun z hz => by rw [List.eq_of_mem_replicate hz]; exact ⟨by decide, fun _ => Or.inl rfl⟩⟩, ?_⟩
    refine List.forall_mem_cons.mpr ⟨⟨by rw [S0_z, show rLn 21 = 9 from rfl]; exact (hA _ (List.mem_of_getElem? (i := 17) rfl)).2, List.length_replicate, fun z hz => by rw [List.eq_of_mem_replicate hz]; exact ⟨by decide, fun _ => Or.inl rfl⟩⟩, ?_⟩
    refine List.forall_mem_cons.mpr ⟨⟨by rw [S0_z, show rLn 23 = 6336 from rfl]; exact (hA _ (List.mem_of_getElem? (i := 15) rfl)).2, List.length_replicate, fun z hz => by rw [List.eq_of_mem_replicate hz]; exact ⟨by decide, fun _ => Or.inl rfl⟩⟩, ?_⟩
    refine List.forall_mem_cons.mpr ⟨⟨by rw [S0_z, show rLn 24 = 576 from rfl]; exact (hA _ (List.mem_of_getElem? (i := 14) rfl)).2, List.length_replicate, fun z hz => by rw [List.eq_of_mem_replicate hz]; exact ⟨by decide, fun _ => Or.inl rfl⟩⟩, ?_⟩
    refine List.forall_mem_cons.mpr ⟨⟨by rw [S0_z, show rLn 25 = 576 from rfl]; exact (hA _ (List.mem_of_getElem? (i := 13) rfl)).2, List.length_replicate, fun z hz => by rw [List.eq_of_mem_replicate hz]; exact ⟨by decide, fun _ => Or.inl rfl⟩⟩, ?_⟩
    refine List.forall_mem_cons.mpr ⟨⟨by rw [S0_z, show rLn 26 = 9 from rfl]; exact (hA _ (List.mem_of_getElem? (i := 12) rfl)).2, List.length_replicate, fun z hz => by rw [List.eq_of_mem_replicate hz]; exact ⟨by decide, fun _ => Or.inl rfl⟩⟩, ?_⟩
    refine List.forall_mem_cons.mpr ⟨⟨by rw [S0_z, show rLn 31 = 80 from rfl]; exact (hA _ (List.mem_of_getElem? (i := 11) rfl)).2, List.length_replicate, fun z hz => by rw [List.eq_of_mem_replicate hz]; exact ⟨by decide, fun _ => Or.inl rfl⟩⟩, ?_⟩
    refine List.forall_mem_cons.mpr ⟨⟨by rw [S0_z, show rLn 34 = 80 from rfl]; exact (hA _ (List.mem_of_getElem? (i := 10) rfl)).2, List.length_replicate, fun z hz => by rw [List.eq_of_mem_replicate hz]; exact ⟨by decide, fun _ => Or.inl rfl⟩⟩, ?_⟩
    refine List.forall_mem_cons.mpr ⟨⟨by rw [S0_z, show rLn 38 = 6 from rfl]; exact (hA _ (List.mem_of_getElem? (i := 8) rfl)).2, List.length_replicate, fun z hz => by rw [List.eq_of_mem_replicate hz]; exact ⟨by decide, fun _ => Or.inl rfl⟩⟩, ?_⟩
    refine List.forall_mem_cons.mpr ⟨⟨by rw [S0_z, show rLn 39 = 6 from rfl]; exact (hA _ (List.mem_of_getElem? (i := 7) rfl)).2, List.length_replicate, fun z hz => by rw [List.eq_of_mem_replicate hz]; exact ⟨by decide, fun _ => Or.inl rfl⟩⟩, ?_⟩
    refine List.forall_mem_cons.mpr ⟨⟨by rw [S0_z, show rLn 40 = 6 from rfl]; exact (hA _ (List.mem_of_getElem? (i := 6) rfl)).2, List.length_replicate, fun z hz => by rw [List.eq_of_mem_replicate hz]; exact ⟨by decide, fun _ => Or.inl rfl⟩⟩, ?_⟩
    refine List.forall_mem_cons.mpr ⟨⟨by rw [S0_z, show rLn 41 = 128 from rfl]; exact (hA _ (List.mem_of_getElem? (i := 5) rfl)).2, List.length_replicate, fun z hz => by rw [List.eq_of_mem_replicate hz]; exact ⟨by decide, fun _ => Or.inl rfl⟩⟩, ?_⟩
    refine List.forall_mem_cons.mpr ⟨⟨by rw [S0_z, show rLn 45 = 256 from rfl]; exact (hA _ (List.mem_of_getElem? (i := 4) rfl)).2, List.length_replicate, fun z hz => by rw [List.eq_of_mem_replicate hz]; exact ⟨by decide, fun _ => Or.inl rfl⟩⟩, ?_⟩
    refine List.forall_mem_cons.mpr ⟨⟨by rw [S0_z, show rLn 46 = 256 from rfl]; exact (hA _ (List.mem_of_getElem? (i := 3) rfl)).2, List.length_replicate, fun z hz => by rw [List.eq_of_mem_replicate hz]; exact ⟨by decide, fun _ => Or.inl rfl⟩⟩, ?_⟩
    refine List.forall_mem_cons.mpr ⟨⟨by rw [S0_z, show rLn 47 = 1536 from rfl]; exact (hA _ (List.mem_of_getElem? (i := 2) rfl)).2, List.length_replicate, fun z hz => by rw [List.eq_of_mem_replicate hz]; exact ⟨by decide, fun _ => Or.inl rfl⟩⟩, ?_⟩
    refine List.forall_mem_cons.mpr ⟨⟨by rw [S0_z, show rLn 48 = 1000 from rfl]; exact (hA _ (List.mem_of_getElem? (i := 1) rfl)).2, List.length_replicate, fun z hz => by rw [List.eq_of_mem_replicate hz]; exact ⟨by decide, fun _ => Or.inl rfl⟩⟩, ?_⟩
    refine List.forall_mem_cons.mpr ⟨⟨by rw [S0_z, show rLn 50 = 600 from rfl]; exact (hA _ (List.mem_of_getElem? (i := 0) rfl)).2, List.length_replicate, fun z hz => by rw [List.eq_of_mem_replicate hz]; exact ⟨by decide, fun _ => Or.inl rfl⟩⟩, ?_⟩
    exact fun _ hz => by cases hz
  · show ∀ i ∈ [8, 10, 22, 37], _
    refine List.forall_mem_cons.mpr ⟨⟨by rw [S0_l, show rLn 8 = 36 from rfl]; exact (hA _ (List.mem_of_getElem? (i := 29) rfl)).2, List.length_replicate⟩, ?_⟩
    refine List.forall_mem_cons.mpr ⟨⟨by rw [S0_l, show rLn 10 = 6 from rfl]; exact (hA _ (List.mem_of_getElem? (i := 27) rfl)).2, List.length_replicate⟩, ?_⟩
    refine List.forall_mem_cons.mpr ⟨⟨by rw [S0_l, show rLn 22 = 576 from rfl]; exact (hA _ (List.mem_of_getElem? (i := 16) rfl)).2, List.length_replicate⟩, ?_⟩
    refine List.forall_mem_cons.mpr ⟨⟨by rw [S0_l, show rLn 37 = 1980 from rfl]; exact (hA _ (List.mem_of_getElem? (i := 9) rfl)).2, List.length_replicate⟩, ?_⟩
    exact fun _ hz => by cases hz
  · intro j
    show inR (if j = 30 then -1 else 0)
    split <;> decide
set_option maxRecDepth 100000 in
set_option maxHeartbeats 2000000 in
theorem r_init (hd : 1 ≤ d) {o : Nat} (ho : h o = some (k_MarkerTextModel, [.int 0, .null, .int 0, .int 0, .null, .null, .null, .null, .null, .null, .null, .int 0, .null, .null, .null, .null, .null, .null, .null, .null, .null, .null, .null, .null, .null, .null, .null, .int 0, .int 0, .int 0, .int 0, .null, .int 0, .int 0, .null, .int 0, .long 0, .null, .null, .null, .null, .null, .int 0, .int 0, .int 0, .null, .null, .null, .null, .int 0, .null, .int 0])) (hc : c + 35 ≤ xCB) (hn : n + 19204 ≤ xSB) : XM l G d M_Mo_init [.ref o] h c n (fun v h' c' n' => v = none ∧ (∃ rf, isR h' o rf S0) ∧ xfr h h' [o] ∧ c' = c + 35 ∧ n' = n + 19204) := by
  obtain ⟨d, rfl⟩ : ∃ q, d = q + 1 := ⟨d - 1, by omega⟩
  refine XM.of (by decide +kernel) (Nat.le_of_ble_eq_true rfl) ?_
  refine x_aload_n d_Mo_init_0 rfl rfl ?_
  refine x_objInit xw_1169 xw_40 xw_41 (Nat.le_of_ble_eq_true rfl) d_Mo_init_1 ?_
  have f_0 : xfr h h [o] := xfr.rf
  have A_0 : pAr h [] := fun q hq => by cases hq
  refine x_aload_n d_Mo_init_4 rfl rfl ?_
  refine x_sipush (v := 160) d_Mo_init_5 (by decide) ?_
  refine x_newa (k := k_ar1) rfl rfl (fun _ hz => by cases hz) xw_111 (by decide) (by decide : Int32.toNatClampNeg 160 = 160) (by decide) (by omega) (by omega) d_Mo_init_8 (fun q1 hn_q1 hk_q1 => ?_)
  refine x_putF xf_Mo_7_Mo xp_Mo_1 ⟨_, _, _, rfl, rfl, xw_1171⟩ rfl rfl rfl (xup_old ho hn_q1) rfl rfl d_Mo_init_10 ?_
  refine x_any (R := fun h2 => h2 o = some (k_MarkerTextModel, [.int 0, .ref q1, .int 0, .int 0, .null, .null, .null, .null, .null, .null, .null, .int 0, .null, .null, .null, .null, .null, .null, .null, .null, .null, .null, .null, .null, .null, .null, .null, .int 0, .int 0, .int 0, .int 0, .null, .int 0, .int 0, .null, .int 0, .long 0, .null, .null, .null, .null, .null, .int 0, .int 0, .int 0, .null, .null, .null, .null, .int 0, .null, .int 0]) ∧ pAr h2 [(q1, k_ar1, 160, (.int 0))] ∧ xfr h h2 [o]) ⟨xup_self, A_0.new hn_q1 (by decide) ho, ((f_0.up (Or.inr (f_0.2 _ hn_q1))).up (Or.inl (by simp)))⟩ (fun h1 ⟨ho_1, A_1, f_1⟩ => ?_)
  refine x_aload_n d_Mo_init_13 rfl rfl ?_
  refine x_bipush (v := 48) d_Mo_init_14 (by decide) ?_
  refine x_newa (k := k_ar4) rfl rfl (fun _ hz => by cases hz) xw_111 (by decide) (by decide : Int32.toNatClampNeg 48 = 48) (by decide) (by omega) (by omega) d_Mo_init_16 (fun q4 hn_q4 hk_q4 => ?_)
  refine x_putF xf_Mo_13_Mo xp_Mo_4 ⟨_, _, _, rfl, rfl, xw_1174⟩ rfl rfl rfl (xup_old ho_1 hn_q4) rfl rfl d_Mo_init_18 ?_
  refine x_any (R := fun h2 => h2 o = some (k_MarkerTextModel, [.int 0, .ref q1, .int 0, .int 0, .ref q4, .null, .null, .null, .null, .null, .null, .int 0, .null, .null, .null, .null, .null, .null, .null, .null, .null, .null, .null, .null, .null, .null, .null, .int 0, .int 0, .int 0, .int 0, .null, .int 0, .int 0, .null, .int 0, .long 0, .null, .null, .null, .null, .null, .int 0, .int 0, .int 0, .null, .null, .null, .null, .int 0, .null, .int 0]) ∧ pAr h2 [(q4, k_ar4, 48, (.int 0)), (q1, k_ar1, 160, (.int 0))] ∧ xfr h h2 [o]) ⟨xup_self, A_1.new hn_q4 (by decide) ho_1, ((f_1.up (Or.inr (f_1.2 _ hn_q4))).up (Or.inl (by simp)))⟩ (fun h2 ⟨ho_2, A_2, f_2⟩ => ?_)
  refine x_aload_n d_Mo_init_21 rfl rfl ?_
  refine x_bipush (v := 6) d_Mo_init_22 (by decide) ?_
  refine x_newa (k := k_ar5) rfl rfl (fun _ hz => by cases hz) xw_111 (by decide) (by decide : Int32.toNatClampNeg 6 = 6) (by decide) (by omega) (by omega) d_Mo_init_24 (fun q5 hn_q5 hk_q5 => ?_)
  refine x_putF xf_Mo_16_Mo xp_Mo_5 ⟨_, _, _, rfl, rfl, xw_1175⟩ rfl rfl rfl (xup_old ho_2 hn_q5) rfl rfl d_Mo_init_26 ?_
  refine x_any (R := fun h2 => h2 o = some (k_MarkerTextModel, [.int 0, .ref q1, .int 0, .int 0, .ref q4, .ref q5, .null, .null, .null, .null, .null, .int 0, .null, .null, .null, .null, .null, .null, .null, .null, .null, .null, .null, .null, .null, .null, .null, .int 0, .int 0, .int 0, .int 0, .null, .int 0, .int 0, .null, .int 0, .long 0, .null, .null, .null, .null, .null, .int 0, .int 0, .int 0, .null, .null, .null, .null, .int 0, .null, .int 0]) ∧ pAr h2 [(q5, k_ar5, 6, (.int 0)), (q4, k_ar4, 48, (.int 0)), (q1, k_ar1, 160, (.int 0))] ∧ xfr h h2 [o]) ⟨xup_self, A_2.new hn_q5 (by decide) ho_2, ((f_2.up (Or.inr (f_2.2 _ hn_q5))).up (Or.inl (by simp)))⟩ (fun h3 ⟨ho_3, A_3, f_3⟩ => ?_)
  refine x_aload_n d_Mo_init_29 rfl rfl ?_
  refine x_bipush (v := 6) d_Mo_init_30 (by decide) ?_
  refine x_newa (k := k_ar6) rfl rfl (fun _ hz => by cases hz) xw_111 (by decide) (by decide : Int32.toNatClampNeg 6 = 6) (by decide) (by omega) (by omega) d_Mo_init_32 (fun q6 hn_q6 hk_q6 => ?_)
  refine x_putF xf_Mo_19_Mo xp_Mo_6 ⟨_, _, _, rfl, rfl, xw_1176⟩ rfl rfl rfl (xup_old ho_3 hn_q6) rfl rfl d_Mo_init_34 ?_
  refine x_any (R := fun h2 => h2 o = some (k_MarkerTextModel, [.int 0, .ref q1, .int 0, .int 0, .ref q4, .ref q5, .ref q6, .null, .null, .null, .null, .int 0, .null, .null, .null, .null, .null, .null, .null, .null, .null, .null, .null, .null, .null, .null, .null, .int 0, .int 0, .int 0, .int 0, .null, .int 0, .int 0, .null, .int 0, .long 0, .null, .null, .null, .null, .null, .int 0, .int 0, .int 0, .null, .null, .null, .null, .int 0, .null, .int 0]) ∧ pAr h2 [(q6, k_ar6, 6, (.int 0)), (q5, k_ar5, 6, (.int 0)), (q4, k_ar4, 48, (.int 0)), (q1, k_ar1, 160, (.int 0))] ∧ xfr h h2 [o]) ⟨xup_self, A_3.new hn_q6 (by decide) ho_3, ((f_3.up (Or.inr (f_3.2 _ hn_q6))).up (Or.inl (by simp)))⟩ (fun h4 ⟨ho_4, A_4, f_4⟩ => ?_)
  refine x_aload_n d_Mo_init_37 rfl rfl ?_
  refine x_bipush (v := 6) d_Mo_init_38 (by decide) ?_
  refine x_newa (k := k_ar7) rfl rfl (fun _ hz => by cases hz) xw_111 (by decide) (by decide : Int32.toNatClampNeg 6 = 6) (by decide) (by omega) (by omega) d_Mo_init_40 (fun q7 hn_q7 hk_q7 => ?_)
  refine x_putF xf_Mo_22_Mo xp_Mo_7 ⟨_, _, _, rfl, rfl, xw_1177⟩ rfl rfl rfl (xup_old ho_4 hn_q7) rfl rfl d_Mo_init_42 ?_
  refine x_any (R := fun h2 => h2 o = some (k_MarkerTextModel, [.int 0, .ref q1, .int 0, .int 0, .ref q4, .ref q5, .ref q6, .ref q7, .null, .null, .null, .int 0, .null, .null, .null, .null, .null, .null, .null, .null, .null, .null, .null, .null, .null, .null, .null, .int 0, .int 0, .int 0, .int 0, .null, .int 0, .int 0, .null, .int 0, .long 0, .null, .null, .null, .null, .null, .int 0, .int 0, .int 0, .null, .null, .null, .null, .int 0, .null, .int 0]) ∧ pAr h2 [(q7, k_ar7, 6, (.int 0)), (q6, k_ar6, 6, (.int 0)), (q5, k_ar5, 6, (.int 0)), (q4, k_ar4, 48, (.int 0)), (q1, k_ar1, 160, (.int 0))] ∧ xfr h h2 [o]) ⟨xup_self, A_4.new hn_q7 (by decide) ho_4, ((f_4.up (Or.inr (f_4.2 _ hn_q7))).up (Or.inl (by simp)))⟩ (fun h5 ⟨ho_5, A_5, f_5⟩ => ?_)
  refine x_aload_n d_Mo_init_45 rfl rfl ?_
  refine x_bipush (v := 36) d_Mo_init_46 (by decide) ?_
  refine x_newa (k := k_ar8) rfl rfl (fun _ hz => by cases hz) xw_110 (by decide) (by decide : Int32.toNatClampNeg 36 = 36) (by decide) (by omega) (by omega) d_Mo_init_48 (fun q8 hn_q8 hk_q8 => ?_)
  refine x_putF xf_Mo_25_Mo xp_Mo_8 ⟨_, _, _, rfl, rfl, xw_1178⟩ rfl rfl rfl (xup_old ho_5 hn_q8) rfl rfl d_Mo_init_50 ?_
  refine x_any (R := fun h2 => h2 o = some (k_MarkerTextModel, [.int 0, .ref q1, .int 0, .int 0, .ref q4, .ref q5, .ref q6, .ref q7, .ref q8, .null, .null, .int 0, .null, .null, .null, .null, .null, .null, .null, .null, .null, .null, .null, .null, .null, .null, .null, .int 0, .int 0, .int 0, .int 0, .null, .int 0, .int 0, .null, .int 0, .long 0, .null, .null, .null, .null, .null, .int 0, .int 0, .int 0, .null, .null, .null, .null, .int 0, .null, .int 0]) ∧ pAr h2 [(q8, k_ar8, 36, (.long 0)), (q7, k_ar7, 6, (.int 0)), (q6, k_ar6, 6, (.int 0)), (q5, k_ar5, 6, (.int 0)), (q4, k_ar4, 48, (.int 0)), (q1, k_ar1, 160, (.int 0))] ∧ xfr h h2 [o]) ⟨xup_self, A_5.new hn_q8 (by decide) ho_5, ((f_5.up (Or.inr (f_5.2 _ hn_q8))).up (Or.inl (by simp)))⟩ (fun h6 ⟨ho_6, A_6, f_6⟩ => ?_)
  refine x_aload_n d_Mo_init_53 rfl rfl ?_
  refine x_bipush (v := 6) d_Mo_init_54 (by decide) ?_
  refine x_newa (k := k_ar9) rfl rfl (fun _ hz => by cases hz) xw_1327 (by decide) (by decide : Int32.toNatClampNeg 6 = 6) (by decide) (by omega) (by omega) d_Mo_init_56 (fun q9 hn_q9 hk_q9 => ?_)
  refine x_putF xf_Mo_29_Mo xp_Mo_9 ⟨_, _, _, rfl, rfl, xw_1179⟩ rfl rfl rfl (xup_old ho_6 hn_q9) rfl rfl d_Mo_init_58 ?_
  refine x_any (R := fun h2 => h2 o = some (k_MarkerTextModel, [.int 0, .ref q1, .int 0, .int 0, .ref q4, .ref q5, .ref q6, .ref q7, .ref q8, .ref q9, .null, .int 0, .null, .null, .null, .null, .null, .null, .null, .null, .null, .null, .null, .null, .null, .null, .null, .int 0, .int 0, .int 0, .int 0, .null, .int 0, .int 0, .null, .int 0, .long 0, .null, .null, .null, .null, .null, .int 0, .int 0, .int 0, .null, .null, .null, .null, .int 0, .null, .int 0]) ∧ pAr h2 [(q9, k_ar9, 6, (.int 0)), (q8, k_ar8, 36, (.long 0)), (q7, k_ar7, 6, (.int 0)), (q6, k_ar6, 6, (.int 0)), (q5, k_ar5, 6, (.int 0)), (q4, k_ar4, 48, (.int 0)), (q1, k_ar1, 160, (.int 0))] ∧ xfr h h2 [o]) ⟨xup_self, A_6.new hn_q9 (by decide) ho_6, ((f_6.up (Or.inr (f_6.2 _ hn_q9))).up (Or.inl (by simp)))⟩ (fun h7 ⟨ho_7, A_7, f_7⟩ => ?_)
  refine x_aload_n d_Mo_init_61 rfl rfl ?_
  refine x_bipush (v := 6) d_Mo_init_62 (by decide) ?_
  refine x_newa (k := k_ar10) rfl rfl (fun _ hz => by cases hz) xw_110 (by decide) (by decide : Int32.toNatClampNeg 6 = 6) (by decide) (by omega) (by omega) d_Mo_init_64 (fun q10 hn_q10 hk_q10 => ?_)
  refine x_putF xf_Mo_33_Mo xp_Mo_10 ⟨_, _, _, rfl, rfl, xw_1180⟩ rfl rfl rfl (xup_old ho_7 hn_q10) rfl rfl d_Mo_init_66 ?_
  refine x_any (R := fun h2 => h2 o = some (k_MarkerTextModel, [.int 0, .ref q1, .int 0, .int 0, .ref q4, .ref q5, .ref q6, .ref q7, .ref q8, .ref q9, .ref q10, .int 0, .null, .null, .null, .null, .null, .null, .null, .null, .null, .null, .null, .null, .null, .null, .null, .int 0, .int 0, .int 0, .int 0, .null, .int 0, .int 0, .null, .int 0, .long 0, .null, .null, .null, .null, .null, .int 0, .int 0, .int 0, .null, .null, .null, .null, .int 0, .null, .int 0]) ∧ pAr h2 [(q10, k_ar10, 6, (.long 0)), (q9, k_ar9, 6, (.int 0)), (q8, k_ar8, 36, (.long 0)), (q7, k_ar7, 6, (.int 0)), (q6, k_ar6, 6, (.int 0)), (q5, k_ar5, 6, (.int 0)), (q4, k_ar4, 48, (.int 0)), (q1, k_ar1, 160, (.int 0))] ∧ xfr h h2 [o]) ⟨xup_self, A_7.new hn_q10 (by decide) ho_7, ((f_7.up (Or.inr (f_7.2 _ hn_q10))).up (Or.inl (by simp)))⟩ (fun h8 ⟨ho_8, A_8, f_8⟩ => ?_)
  refine x_aload_n d_Mo_init_69 rfl rfl ?_
  refine x_sipush (v := 1152) d_Mo_init_70 (by decide) ?_
  refine x_newa (k := k_ar12) rfl rfl (fun _ hz => by cases hz) xw_111 (by decide) (by decide : Int32.toNatClampNeg 1152 = 1152) (by decide) (by omega) (by omega) d_Mo_init_73 (fun q12 hn_q12 hk_q12 => ?_)
  refine x_putF xf_Mo_36_Mo xp_Mo_12 ⟨_, _, _, rfl, rfl, xw_1182⟩ rfl rfl rfl (xup_old ho_8 hn_q12) rfl rfl d_Mo_init_75 ?_
  refine x_any (R := fun h2 => h2 o = some (k_MarkerTextModel, [.int 0, .ref q1, .int 0, .int 0, .ref q4, .ref q5, .ref q6, .ref q7, .ref q8, .ref q9, .ref q10, .int 0, .ref q12, .null, .null, .null, .null, .null, .null, .null, .null, .null, .null, .null, .null, .null, .null, .int 0, .int 0, .int 0, .int 0, .null, .int 0, .int 0, .null, .int 0, .long 0, .null, .null, .null, .null, .null, .int 0, .int 0, .int 0, .null, .null, .null, .null, .int 0, .null, .int 0]) ∧ pAr h2 [(q12, k_ar12, 1152, (.int 0)), (q10, k_ar10, 6, (.long 0)), (q9, k_ar9, 6, (.int 0)), (q8, k_ar8, 36, (.long 0)), (q7, k_ar7, 6, (.int 0)), (q6, k_ar6, 6, (.int 0)), (q5, k_ar5, 6, (.int 0)), (q4, k_ar4, 48, (.int 0)), (q1, k_ar1, 160, (.int 0))] ∧ xfr h h2 [o]) ⟨xup_self, A_8.new hn_q12 (by decide) ho_8, ((f_8.up (Or.inr (f_8.2 _ hn_q12))).up (Or.inl (by simp)))⟩ (fun h9 ⟨ho_9, A_9, f_9⟩ => ?_)
  refine x_aload_n d_Mo_init_78 rfl rfl ?_
  refine x_sipush (v := 1152) d_Mo_init_79 (by decide) ?_
  refine x_newa (k := k_ar13) rfl rfl (fun _ hz => by cases hz) xw_111 (by decide) (by decide : Int32.toNatClampNeg 1152 = 1152) (by decide) (by omega) (by omega) d_Mo_init_82 (fun q13 hn_q13 hk_q13 => ?_)
  refine x_putF xf_Mo_39_Mo xp_Mo_13 ⟨_, _, _, rfl, rfl, xw_1183⟩ rfl rfl rfl (xup_old ho_9 hn_q13) rfl rfl d_Mo_init_84 ?_
  refine x_any (R := fun h2 => h2 o = some (k_MarkerTextModel, [.int 0, .ref q1, .int 0, .int 0, .ref q4, .ref q5, .ref q6, .ref q7, .ref q8, .ref q9, .ref q10, .int 0, .ref q12, .ref q13, .null, .null, .null, .null, .null, .null, .null, .null, .null, .null, .null, .null, .null, .int 0, .int 0, .int 0, .int 0, .null, .int 0, .int 0, .null, .int 0, .long 0, .null, .null, .null, .null, .null, .int 0, .int 0, .int 0, .null, .null, .null, .null, .int 0, .null, .int 0]) ∧ pAr h2 [(q13, k_ar13, 1152, (.int 0)), (q12, k_ar12, 1152, (.int 0)), (q10, k_ar10, 6, (.long 0)), (q9, k_ar9, 6, (.int 0)), (q8, k_ar8, 36, (.long 0)), (q7, k_ar7, 6, (.int 0)), (q6, k_ar6, 6, (.int 0)), (q5, k_ar5, 6, (.int 0)), (q4, k_ar4, 48, (.int 0)), (q1, k_ar1, 160, (.int 0))] ∧ xfr h h2 [o]) ⟨xup_self, A_9.new hn_q13 (by decide) ho_9, ((f_9.up (Or.inr (f_9.2 _ hn_q13))).up (Or.inl (by simp)))⟩ (fun h10 ⟨ho_10, A_10, f_10⟩ => ?_)
  refine x_aload_n d_Mo_init_87 rfl rfl ?_
  refine x_sipush (v := 1152) d_Mo_init_88 (by decide) ?_
  refine x_newa (k := k_ar14) rfl rfl (fun _ hz => by cases hz) xw_111 (by decide) (by decide : Int32.toNatClampNeg 1152 = 1152) (by decide) (by omega) (by omega) d_Mo_init_91 (fun q14 hn_q14 hk_q14 => ?_)
  refine x_putF xf_Mo_42_Mo xp_Mo_14 ⟨_, _, _, rfl, rfl, xw_1184⟩ rfl rfl rfl (xup_old ho_10 hn_q14) rfl rfl d_Mo_init_93 ?_
  refine x_any (R := fun h2 => h2 o = some (k_MarkerTextModel, [.int 0, .ref q1, .int 0, .int 0, .ref q4, .ref q5, .ref q6, .ref q7, .ref q8, .ref q9, .ref q10, .int 0, .ref q12, .ref q13, .ref q14, .null, .null, .null, .null, .null, .null, .null, .null, .null, .null, .null, .null, .int 0, .int 0, .int 0, .int 0, .null, .int 0, .int 0, .null, .int 0, .long 0, .null, .null, .null, .null, .null, .int 0, .int 0, .int 0, .null, .null, .null, .null, .int 0, .null, .int 0]) ∧ pAr h2 [(q14, k_ar14, 1152, (.int 0)), (q13, k_ar13, 1152, (.int 0)), (q12, k_ar12, 1152, (.int 0)), (q10, k_ar10, 6, (.long 0)), (q9, k_ar9, 6, (.int 0)), (q8, k_ar8, 36, (.long 0)), (q7, k_ar7, 6, (.int 0)), (q6, k_ar6, 6, (.int 0)), (q5, k_ar5, 6, (.int 0)), (q4, k_ar4, 48, (.int 0)), (q1, k_ar1, 160, (.int 0))] ∧ xfr h h2 [o]) ⟨xup_self, A_10.new hn_q14 (by decide) ho_10, ((f_10.up (Or.inr (f_10.2 _ hn_q14))).up (Or.inl (by simp)))⟩ (fun h11 ⟨ho_11, A_11, f_11⟩ => ?_)
  refine x_aload_n d_Mo_init_96 rfl rfl ?_
  refine x_bipush (v := 9) d_Mo_init_97 (by decide) ?_
  refine x_newa (k := k_ar15) rfl rfl (fun _ hz => by cases hz) xw_111 (by decide) (by decide : Int32.toNatClampNeg 9 = 9) (by decide) (by omega) (by omega) d_Mo_init_99 (fun q15 hn_q15 hk_q15 => ?_)
  refine x_putF xf_Mo_45_Mo xp_Mo_15 ⟨_, _, _, rfl, rfl, xw_1185⟩ rfl rfl rfl (xup_old ho_11 hn_q15) rfl rfl d_Mo_init_101 ?_
  refine x_any (R := fun h2 => h2 o = some (k_MarkerTextModel, [.int 0, .ref q1, .int 0, .int 0, .ref q4, .ref q5, .ref q6, .ref q7, .ref q8, .ref q9, .ref q10, .int 0, .ref q12, .ref q13, .ref q14, .ref q15, .null, .null, .null, .null, .null, .null, .null, .null, .null, .null, .null, .int 0, .int 0, .int 0, .int 0, .null, .int 0, .int 0, .null, .int 0, .long 0, .null, .null, .null, .null, .null, .int 0, .int 0, .int 0, .null, .null, .null, .null, .int 0, .null, .int 0]) ∧ pAr h2 [(q15, k_ar15, 9, (.int 0)), (q14, k_ar14, 1152, (.int 0)), (q13, k_ar13, 1152, (.int 0)), (q12, k_ar12, 1152, (.int 0)), (q10, k_ar10, 6, (.long 0)), (q9, k_ar9, 6, (.int 0)), (q8, k_ar8, 36, (.long 0)), (q7, k_ar7, 6, (.int 0)), (q6, k_ar6, 6, (.int 0)), (q5, k_ar5, 6, (.int 0)), (q4, k_ar4, 48, (.int 0)), (q1, k_ar1, 160, (.int 0))] ∧ xfr h h2 [o]) ⟨xup_self, A_11.new hn_q15 (by decide) ho_11, ((f_11.up (Or.inr (f_11.2 _ hn_q15))).up (Or.inl (by simp)))⟩ (fun h12 ⟨ho_12, A_12, f_12⟩ => ?_)
  refine x_aload_n d_Mo_init_104 rfl rfl ?_
  refine x_bipush (v := 9) d_Mo_init_105 (by decide) ?_
  refine x_newa (k := k_ar16) rfl rfl (fun _ hz => by cases hz) xw_111 (by decide) (by decide : Int32.toNatClampNeg 9 = 9) (by decide) (by omega) (by omega) d_Mo_init_107 (fun q16 hn_q16 hk_q16 => ?_)
  refine x_putF xf_Mo_48_Mo xp_Mo_16 ⟨_, _, _, rfl, rfl, xw_1186⟩ rfl rfl rfl (xup_old ho_12 hn_q16) rfl rfl d_Mo_init_109 ?_
  refine x_any (R := fun h2 => h2 o = some (k_MarkerTextModel, [.int 0, .ref q1, .int 0, .int 0, .ref q4, .ref q5, .ref q6, .ref q7, .ref q8, .ref q9, .ref q10, .int 0, .ref q12, .ref q13, .ref q14, .ref q15, .ref q16, .null, .null, .null, .null, .null, .null, .null, .null, .null, .null, .int 0, .int 0, .int 0, .int 0, .null, .int 0, .int 0, .null, .int 0, .long 0, .null, .null, .null, .null, .null, .int 0, .int 0, .int 0, .null, .null, .null, .null, .int 0, .null, .int 0]) ∧ pAr h2 [(q16, k_ar16, 9, (.int 0)), (q15, k_ar15, 9, (.int 0)), (q14, k_ar14, 1152, (.int 0)), (q13, k_ar13, 1152, (.int 0)), (q12, k_ar12, 1152, (.int 0)), (q10, k_ar10, 6, (.long 0)), (q9, k_ar9, 6, (.int 0)), (q8, k_ar8, 36, (.long 0)), (q7, k_ar7, 6, (.int 0)), (q6, k_ar6, 6, (.int 0)), (q5, k_ar5, 6, (.int 0)), (q4, k_ar4, 48, (.int 0)), (q1, k_ar1, 160, (.int 0))] ∧ xfr h h2 [o]) ⟨xup_self, A_12.new hn_q16 (by decide) ho_12, ((f_12.up (Or.inr (f_12.2 _ hn_q16))).up (Or.inl (by simp)))⟩ (fun h13 ⟨ho_13, A_13, f_13⟩ => ?_)
  refine x_aload_n d_Mo_init_112 rfl rfl ?_
  refine x_sipush (v := 360) d_Mo_init_113 (by decide) ?_
  refine x_newa (k := k_ar17) rfl rfl (fun _ hz => by cases hz) xw_111 (by decide) (by decide : Int32.toNatClampNeg 360 = 360) (by decide) (by omega) (by omega) d_Mo_init_116 (fun q17 hn_q17 hk_q17 => ?_)
  refine x_putF xf_Mo_51_Mo xp_Mo_17 ⟨_, _, _, rfl, rfl, xw_1187⟩ rfl rfl rfl (xup_old ho_13 hn_q17) rfl rfl d_Mo_init_118 ?_
  refine x_any (R := fun h2 => h2 o = some (k_MarkerTextModel, [.int 0, .ref q1, .int 0, .int 0, .ref q4, .ref q5, .ref q6, .ref q7, .ref q8, .ref q9, .ref q10, .int 0, .ref q12, .ref q13, .ref q14, .ref q15, .ref q16, .ref q17, .null, .null, .null, .null, .null, .null, .null, .null, .null, .int 0, .int 0, .int 0, .int 0, .null, .int 0, .int 0, .null, .int 0, .long 0, .null, .null, .null, .null, .null, .int 0, .int 0, .int 0, .null, .null, .null, .null, .int 0, .null, .int 0]) ∧ pAr h2 [(q17, k_ar17, 360, (.int 0)), (q16, k_ar16, 9, (.int 0)), (q15, k_ar15, 9, (.int 0)), (q14, k_ar14, 1152, (.int 0)), (q13, k_ar13, 1152, (.int 0)), (q12, k_ar12, 1152, (.int 0)), (q10, k_ar10, 6, (.long 0)), (q9, k_ar9, 6, (.int 0)), (q8, k_ar8, 36, (.long 0)), (q7, k_ar7, 6, (.int 0)), (q6, k_ar6, 6, (.int 0)), (q5, k_ar5, 6, (.int 0)), (q4, k_ar4, 48, (.int 0)), (q1, k_ar1, 160, (.int 0))] ∧ xfr h h2 [o]) ⟨xup_self, A_13.new hn_q17 (by decide) ho_13, ((f_13.up (Or.inr (f_13.2 _ hn_q17))).up (Or.inl (by simp)))⟩ (fun h14 ⟨ho_14, A_14, f_14⟩ => ?_)
  refine x_aload_n d_Mo_init_121 rfl rfl ?_
  refine x_sipush (v := 360) d_Mo_init_122 (by decide) ?_
  refine x_newa (k := k_ar18) rfl rfl (fun _ hz => by cases hz) xw_111 (by decide) (by decide : Int32.toNatClampNeg 360 = 360) (by decide) (by omega) (by omega) d_Mo_init_125 (fun q18 hn_q18 hk_q18 => ?_)
  refine x_putF xf_Mo_54_Mo xp_Mo_18 ⟨_, _, _, rfl, rfl, xw_1188⟩ rfl rfl rfl (xup_old ho_14 hn_q18) rfl rfl d_Mo_init_127 ?_
  refine x_any (R := fun h2 => h2 o = some (k_MarkerTextModel, [.int 0, .ref q1, .int 0, .int 0, .ref q4, .ref q5, .ref q6, .ref q7, .ref q8, .ref q9, .ref q10, .int 0, .ref q12, .ref q13, .ref q14, .ref q15, .ref q16, .ref q17, .ref q18, .null, .null, .null, .null, .null, .null, .null, .null, .int 0, .int 0, .int 0, .int 0, .null, .int 0, .int 0, .null, .int 0, .long 0, .null, .null, .null, .null, .null, .int 0, .int 0, .int 0, .null, .null, .null, .null, .int 0, .null, .int 0]) ∧ pAr h2 [(q18, k_ar18, 360, (.int 0)), (q17, k_ar17, 360, (.int 0)), (q16, k_ar16, 9, (.int 0)), (q15, k_ar15, 9, (.int 0)), (q14, k_ar14, 1152, (.int 0)), (q13, k_ar13, 1152, (.int 0)), (q12, k_ar12, 1152, (.int 0)), (q10, k_ar10, 6, (.long 0)), (q9, k_ar9, 6, (.int 0)), (q8, k_ar8, 36, (.long 0)), (q7, k_ar7, 6, (.int 0)), (q6, k_ar6, 6, (.int 0)), (q5, k_ar5, 6, (.int 0)), (q4, k_ar4, 48, (.int 0)), (q1, k_ar1, 160, (.int 0))] ∧ xfr h h2 [o]) ⟨xup_self, A_14.new hn_q18 (by decide) ho_14, ((f_14.up (Or.inr (f_14.2 _ hn_q18))).up (Or.inl (by simp)))⟩ (fun h15 ⟨ho_15, A_15, f_15⟩ => ?_)
  refine x_aload_n d_Mo_init_130 rfl rfl ?_
  refine x_sipush (v := 360) d_Mo_init_131 (by decide) ?_
  refine x_newa (k := k_ar19) rfl rfl (fun _ hz => by cases hz) xw_111 (by decide) (by decide : Int32.toNatClampNeg 360 = 360) (by decide) (by omega) (by omega) d_Mo_init_134 (fun q19 hn_q19 hk_q19 => ?_)
  refine x_putF xf_Mo_57_Mo xp_Mo_19 ⟨_, _, _, rfl, rfl, xw_1189⟩ rfl rfl rfl (xup_old ho_15 hn_q19) rfl rfl d_Mo_init_136 ?_
  refine x_any (R := fun h2 => h2 o = some (k_MarkerTextModel, [.int 0, .ref q1, .int 0, .int 0, .ref q4, .ref q5, .ref q6, .ref q7, .ref q8, .ref q9, .ref q10, .int 0, .ref q12, .ref q13, .ref q14, .ref q15, .ref q16, .ref q17, .ref q18, .ref q19, .null, .null, .null, .null, .null, .null, .null, .int 0, .int 0, .int 0, .int 0, .null, .int 0, .int 0, .null, .int 0, .long 0, .null, .null, .null, .null, .null, .int 0, .int 0, .int 0, .null, .null, .null, .null, .int 0, .null, .int 0]) ∧ pAr h2 [(q19, k_ar19, 360, (.int 0)), (q18, k_ar18, 360, (.int 0)), (q17, k_ar17, 360, (.int 0)), (q16, k_ar16, 9, (.int 0)), (q15, k_ar15, 9, (.int 0)), (q14, k_ar14, 1152, (.int 0)), (q13, k_ar13, 1152, (.int 0)), (q12, k_ar12, 1152, (.int 0)), (q10, k_ar10, 6, (.long 0)), (q9, k_ar9, 6, (.int 0)), (q8, k_ar8, 36, (.long 0)), (q7, k_ar7, 6, (.int 0)), (q6, k_ar6, 6, (.int 0)), (q5, k_ar5, 6, (.int 0)), (q4, k_ar4, 48, (.int 0)), (q1, k_ar1, 160, (.int 0))] ∧ xfr h h2 [o]) ⟨xup_self, A_15.new hn_q19 (by decide) ho_15, ((f_15.up (Or.inr (f_15.2 _ hn_q19))).up (Or.inl (by simp)))⟩ (fun h16 ⟨ho_16, A_16, f_16⟩ => ?_)
  refine x_aload_n d_Mo_init_139 rfl rfl ?_
  refine x_sipush (v := 360) d_Mo_init_140 (by decide) ?_
  refine x_newa (k := k_ar20) rfl rfl (fun _ hz => by cases hz) xw_111 (by decide) (by decide : Int32.toNatClampNeg 360 = 360) (by decide) (by omega) (by omega) d_Mo_init_143 (fun q20 hn_q20 hk_q20 => ?_)
  refine x_putF xf_Mo_60_Mo xp_Mo_20 ⟨_, _, _, rfl, rfl, xw_1190⟩ rfl rfl rfl (xup_old ho_16 hn_q20) rfl rfl d_Mo_init_145 ?_
  refine x_any (R := fun h2 => h2 o = some (k_MarkerTextModel, [.int 0, .ref q1, .int 0, .int 0, .ref q4, .ref q5, .ref q6, .ref q7, .ref q8, .ref q9, .ref q10, .int 0, .ref q12, .ref q13, .ref q14, .ref q15, .ref q16, .ref q17, .ref q18, .ref q19, .ref q20, .null, .null, .null, .null, .null, .null, .int 0, .int 0, .int 0, .int 0, .null, .int 0, .int 0, .null, .int 0, .long 0, .null, .null, .null, .null, .null, .int 0, .int 0, .int 0, .null, .null, .null, .null, .int 0, .null, .int 0]) ∧ pAr h2 [(q20, k_ar20, 360, (.int 0)), (q19, k_ar19, 360, (.int 0)), (q18, k_ar18, 360, (.int 0)), (q17, k_ar17, 360, (.int 0)), (q16, k_ar16, 9, (.int 0)), (q15, k_ar15, 9, (.int 0)), (q14, k_ar14, 1152, (.int 0)), (q13, k_ar13, 1152, (.int 0)), (q12, k_ar12, 1152, (.int 0)), (q10, k_ar10, 6, (.long 0)), (q9, k_ar9, 6, (.int 0)), (q8, k_ar8, 36, (.long 0)), (q7, k_ar7, 6, (.int 0)), (q6, k_ar6, 6, (.int 0)), (q5, k_ar5, 6, (.int 0)), (q4, k_ar4, 48, (.int 0)), (q1, k_ar1, 160, (.int 0))] ∧ xfr h h2 [o]) ⟨xup_self, A_16.new hn_q20 (by decide) ho_16, ((f_16.up (Or.inr (f_16.2 _ hn_q20))).up (Or.inl (by simp)))⟩ (fun h17 ⟨ho_17, A_17, f_17⟩ => ?_)
  refine x_aload_n d_Mo_init_148 rfl rfl ?_
  refine x_bipush (v := 9) d_Mo_init_149 (by decide) ?_
  refine x_newa (k := k_ar21) rfl rfl (fun _ hz => by cases hz) xw_111 (by decide) (by decide : Int32.toNatClampNeg 9 = 9) (by decide) (by omega) (by omega) d_Mo_init_151 (fun q21 hn_q21 hk_q21 => ?_)
  refine x_putF xf_Mo_63_Mo xp_Mo_21 ⟨_, _, _, rfl, rfl, xw_1191⟩ rfl rfl rfl (xup_old ho_17 hn_q21) rfl rfl d_Mo_init_153 ?_
  refine x_any (R := fun h2 => h2 o = some (k_MarkerTextModel, [.int 0, .ref q1, .int 0, .int 0, .ref q4, .ref q5, .ref q6, .ref q7, .ref q8, .ref q9, .ref q10, .int 0, .ref q12, .ref q13, .ref q14, .ref q15, .ref q16, .ref q17, .ref q18, .ref q19, .ref q20, .ref q21, .null, .null, .null, .null, .null, .int 0, .int 0, .int 0, .int 0, .null, .int 0, .int 0, .null, .int 0, .long 0, .null, .null, .null, .null, .null, .int 0, .int 0, .int 0, .null, .null, .null, .null, .int 0, .null, .int 0]) ∧ pAr h2 [(q21, k_ar21, 9, (.int 0)), (q20, k_ar20, 360, (.int 0)), (q19, k_ar19, 360, (.int 0)), (q18, k_ar18, 360, (.int 0)), (q17, k_ar17, 360, (.int 0)), (q16, k_ar16, 9, (.int 0)), (q15, k_ar15, 9, (.int 0)), (q14, k_ar14, 1152, (.int 0)), (q13, k_ar13, 1152, (.int 0)), (q12, k_ar12, 1152, (.int 0)), (q10, k_ar10, 6, (.long 0)), (q9, k_ar9, 6, (.int 0)), (q8, k_ar8, 36, (.long 0)), (q7, k_ar7, 6, (.int 0)), (q6, k_ar6, 6, (.int 0)), (q5, k_ar5, 6, (.int 0)), (q4, k_ar4, 48, (.int 0)), (q1, k_ar1, 160, (.int 0))] ∧ xfr h h2 [o]) ⟨xup_self, A_17.new hn_q21 (by decide) ho_17, ((f_17.up (Or.inr (f_17.2 _ hn_q21))).up (Or.inl (by simp)))⟩ (fun h18 ⟨ho_18, A_18, f_18⟩ => ?_)
  refine x_aload_n d_Mo_init_156 rfl rfl ?_
  refine x_sipush (v := 576) d_Mo_init_157 (by decide) ?_
  refine x_newa (k := k_ar22) rfl rfl (fun _ hz => by cases hz) xw_110 (by decide) (by decide : Int32.toNatClampNeg 576 = 576) (by decide) (by omega) (by omega) d_Mo_init_160 (fun q22 hn_q22 hk_q22 => ?_)
  refine x_putF xf_Mo_66_Mo xp_Mo_22 ⟨_, _, _, rfl, rfl, xw_1192⟩ rfl rfl rfl (xup_old ho_18 hn_q22) rfl rfl d_Mo_init_162 ?_
  refine x_any (R := fun h2 => h2 o = some (k_MarkerTextModel, [.int 0, .ref q1, .int 0, .int 0, .ref q4, .ref q5, .ref q6, .ref q7, .ref q8, .ref q9, .ref q10, .int 0, .ref q12, .ref q13, .ref q14, .ref q15, .ref q16, .ref q17, .ref q18, .ref q19, .ref q20, .ref q21, .ref q22, .null, .null, .null, .null, .int 0, .int 0, .int 0, .int 0, .null, .int 0, .int 0, .null, .int 0, .long 0, .null, .null, .null, .null, .null, .int 0, .int 0, .int 0, .null, .null, .null, .null, .int 0, .null, .int 0]) ∧ pAr h2 [(q22, k_ar22, 576, (.long 0)), (q21, k_ar21, 9, (.int 0)), (q20, k_ar20, 360, (.int 0)), (q19, k_ar19, 360, (.int 0)), (q18, k_ar18, 360, (.int 0)), (q17, k_ar17, 360, (.int 0)), (q16, k_ar16, 9, (.int 0)), (q15, k_ar15, 9, (.int 0)), (q14, k_ar14, 1152, (.int 0)), (q13, k_ar13, 1152, (.int 0)), (q12, k_ar12, 1152, (.int 0)), (q10, k_ar10, 6, (.long 0)), (q9, k_ar9, 6, (.int 0)), (q8, k_ar8, 36, (.long 0)), (q7, k_ar7, 6, (.int 0)), (q6, k_ar6, 6, (.int 0)), (q5, k_ar5, 6, (.int 0)), (q4, k_ar4, 48, (.int 0)), (q1, k_ar1, 160, (.int 0))] ∧ xfr h h2 [o]) ⟨xup_self, A_18.new hn_q22 (by decide) ho_18, ((f_18.up (Or.inr (f_18.2 _ hn_q22))).up (Or.inl (by simp)))⟩ (fun h19 ⟨ho_19, A_19, f_19⟩ => ?_)
  refine x_aload_n d_Mo_init_165 rfl rfl ?_
  refine x_sipush (v := 6336) d_Mo_init_166 (by decide) ?_
  refine x_newa (k := k_ar23) rfl rfl (fun _ hz => by cases hz) xw_111 (by decide) (by decide : Int32.toNatClampNeg 6336 = 6336) (by decide) (by omega) (by omega) d_Mo_init_169 (fun q23 hn_q23 hk_q23 => ?_)
  refine x_putF xf_Mo_69_Mo xp_Mo_23 ⟨_, _, _, rfl, rfl, xw_1193⟩ rfl rfl rfl (xup_old ho_19 hn_q23) rfl rfl d_Mo_init_171 ?_
  refine x_any (R := fun h2 => h2 o = some (k_MarkerTextModel, [.int 0, .ref q1, .int 0, .int 0, .ref q4, .ref q5, .ref q6, .ref q7, .ref q8, .ref q9, .ref q10, .int 0, .ref q12, .ref q13, .ref q14, .ref q15, .ref q16, .ref q17, .ref q18, .ref q19, .ref q20, .ref q21, .ref q22, .ref q23, .null, .null, .null, .int 0, .int 0, .int 0, .int 0, .null, .int 0, .int 0, .null, .int 0, .long 0, .null, .null, .null, .null, .null, .int 0, .int 0, .int 0, .null, .null, .null, .null, .int 0, .null, .int 0]) ∧ pAr h2 [(q23, k_ar23, 6336, (.int 0)), (q22, k_ar22, 576, (.long 0)), (q21, k_ar21, 9, (.int 0)), (q20, k_ar20, 360, (.int 0)), (q19, k_ar19, 360, (.int 0)), (q18, k_ar18, 360, (.int 0)), (q17, k_ar17, 360, (.int 0)), (q16, k_ar16, 9, (.int 0)), (q15, k_ar15, 9, (.int 0)), (q14, k_ar14, 1152, (.int 0)), (q13, k_ar13, 1152, (.int 0)), (q12, k_ar12, 1152, (.int 0)), (q10, k_ar10, 6, (.long 0)), (q9, k_ar9, 6, (.int 0)), (q8, k_ar8, 36, (.long 0)), (q7, k_ar7, 6, (.int 0)), (q6, k_ar6, 6, (.int 0)), (q5, k_ar5, 6, (.int 0)), (q4, k_ar4, 48, (.int 0)), (q1, k_ar1, 160, (.int 0))] ∧ xfr h h2 [o]) ⟨xup_self, A_19.new hn_q23 (by decide) ho_19, ((f_19.up (Or.inr (f_19.2 _ hn_q23))).up (Or.inl (by simp)))⟩ (fun h20 ⟨ho_20, A_20, f_20⟩ => ?_)
  refine x_aload_n d_Mo_init_174 rfl rfl ?_
  refine x_sipush (v := 576) d_Mo_init_175 (by decide) ?_
  refine x_newa (k := k_ar24) rfl rfl (fun _ hz => by cases hz) xw_111 (by decide) (by decide : Int32.toNatClampNeg 576 = 576) (by decide) (by omega) (by omega) d_Mo_init_178 (fun q24 hn_q24 hk_q24 => ?_)
  refine x_putF xf_Mo_72_Mo xp_Mo_24 ⟨_, _, _, rfl, rfl, xw_1194⟩ rfl rfl rfl (xup_old ho_20 hn_q24) rfl rfl d_Mo_init_180 ?_
  refine x_any (R := fun h2 => h2 o = some (k_MarkerTextModel, [.int 0, .ref q1, .int 0, .int 0, .ref q4, .ref q5, .ref q6, .ref q7, .ref q8, .ref q9, .ref q10, .int 0, .ref q12, .ref q13, .ref q14, .ref q15, .ref q16, .ref q17, .ref q18, .ref q19, .ref q20, .ref q21, .ref q22, .ref q23, .ref q24, .null, .null, .int 0, .int 0, .int 0, .int 0, .null, .int 0, .int 0, .null, .int 0, .long 0, .null, .null, .null, .null, .null, .int 0, .int 0, .int 0, .null, .null, .null, .null, .int 0, .null, .int 0]) ∧ pAr h2 [(q24, k_ar24, 576, (.int 0)), (q23, k_ar23, 6336, (.int 0)), (q22, k_ar22, 576, (.long 0)), (q21, k_ar21, 9, (.int 0)), (q20, k_ar20, 360, (.int 0)), (q19, k_ar19, 360, (.int 0)), (q18, k_ar18, 360, (.int 0)), (q17, k_ar17, 360, (.int 0)), (q16, k_ar16, 9, (.int 0)), (q15, k_ar15, 9, (.int 0)), (q14, k_ar14, 1152, (.int 0)), (q13, k_ar13, 1152, (.int 0)), (q12, k_ar12, 1152, (.int 0)), (q10, k_ar10, 6, (.long 0)), (q9, k_ar9, 6, (.int 0)), (q8, k_ar8, 36, (.long 0)), (q7, k_ar7, 6, (.int 0)), (q6, k_ar6, 6, (.int 0)), (q5, k_ar5, 6, (.int 0)), (q4, k_ar4, 48, (.int 0)), (q1, k_ar1, 160, (.int 0))] ∧ xfr h h2 [o]) ⟨xup_self, A_20.new hn_q24 (by decide) ho_20, ((f_20.up (Or.inr (f_20.2 _ hn_q24))).up (Or.inl (by simp)))⟩ (fun h21 ⟨ho_21, A_21, f_21⟩ => ?_)
  refine x_aload_n d_Mo_init_183 rfl rfl ?_
  refine x_sipush (v := 576) d_Mo_init_184 (by decide) ?_
  refine x_newa (k := k_ar25) rfl rfl (fun _ hz => by cases hz) xw_111 (by decide) (by decide : Int32.toNatClampNeg 576 = 576) (by decide) (by omega) (by omega) d_Mo_init_187 (fun q25 hn_q25 hk_q25 => ?_)
  refine x_putF xf_Mo_75_Mo xp_Mo_25 ⟨_, _, _, rfl, rfl, xw_1195⟩ rfl rfl rfl (xup_old ho_21 hn_q25) rfl rfl d_Mo_init_189 ?_
  refine x_any (R := fun h2 => h2 o = some (k_MarkerTextModel, [.int 0, .ref q1, .int 0, .int 0, .ref q4, .ref q5, .ref q6, .ref q7, .ref q8, .ref q9, .ref q10, .int 0, .ref q12, .ref q13, .ref q14, .ref q15, .ref q16, .ref q17, .ref q18, .ref q19, .ref q20, .ref q21, .ref q22, .ref q23, .ref q24, .ref q25, .null, .int 0, .int 0, .int 0, .int 0, .null, .int 0, .int 0, .null, .int 0, .long 0, .null, .null, .null, .null, .null, .int 0, .int 0, .int 0, .null, .null, .null, .null, .int 0, .null, .int 0]) ∧ pAr h2 [(q25, k_ar25, 576, (.int 0)), (q24, k_ar24, 576, (.int 0)), (q23, k_ar23, 6336, (.int 0)), (q22, k_ar22, 576, (.long 0)), (q21, k_ar21, 9, (.int 0)), (q20, k_ar20, 360, (.int 0)), (q19, k_ar19, 360, (.int 0)), (q18, k_ar18, 360, (.int 0)), (q17, k_ar17, 360, (.int 0)), (q16, k_ar16, 9, (.int 0)), (q15, k_ar15, 9, (.int 0)), (q14, k_ar14, 1152, (.int 0)), (q13, k_ar13, 1152, (.int 0)), (q12, k_ar12, 1152, (.int 0)), (q10, k_ar10, 6, (.long 0)), (q9, k_ar9, 6, (.int 0)), (q8, k_ar8, 36, (.long 0)), (q7, k_ar7, 6, (.int 0)), (q6, k_ar6, 6, (.int 0)), (q5, k_ar5, 6, (.int 0)), (q4, k_ar4, 48, (.int 0)), (q1, k_ar1, 160, (.int 0))] ∧ xfr h h2 [o]) ⟨xup_self, A_21.new hn_q25 (by decide) ho_21, ((f_21.up (Or.inr (f_21.2 _ hn_q25))).up (Or.inl (by simp)))⟩ (fun h22 ⟨ho_22, A_22, f_22⟩ => ?_)
  refine x_aload_n d_Mo_init_192 rfl rfl ?_
  refine x_bipush (v := 9) d_Mo_init_193 (by decide) ?_
  refine x_newa (k := k_ar26) rfl rfl (fun _ hz => by cases hz) xw_111 (by decide) (by decide : Int32.toNatClampNeg 9 = 9) (by decide) (by omega) (by omega) d_Mo_init_195 (fun q26 hn_q26 hk_q26 => ?_)
  refine x_putF xf_Mo_78_Mo xp_Mo_26 ⟨_, _, _, rfl, rfl, xw_1196⟩ rfl rfl rfl (xup_old ho_22 hn_q26) rfl rfl d_Mo_init_197 ?_
  refine x_any (R := fun h2 => h2 o = some (k_MarkerTextModel, [.int 0, .ref q1, .int 0, .int 0, .ref q4, .ref q5, .ref q6, .ref q7, .ref q8, .ref q9, .ref q10, .int 0, .ref q12, .ref q13, .ref q14, .ref q15, .ref q16, .ref q17, .ref q18, .ref q19, .ref q20, .ref q21, .ref q22, .ref q23, .ref q24, .ref q25, .ref q26, .int 0, .int 0, .int 0, .int 0, .null, .int 0, .int 0, .null, .int 0, .long 0, .null, .null, .null, .null, .null, .int 0, .int 0, .int 0, .null, .null, .null, .null, .int 0, .null, .int 0]) ∧ pAr h2 [(q26, k_ar26, 9, (.int 0)), (q25, k_ar25, 576, (.int 0)), (q24, k_ar24, 576, (.int 0)), (q23, k_ar23, 6336, (.int 0)), (q22, k_ar22, 576, (.long 0)), (q21, k_ar21, 9, (.int 0)), (q20, k_ar20, 360, (.int 0)), (q19, k_ar19, 360, (.int 0)), (q18, k_ar18, 360, (.int 0)), (q17, k_ar17, 360, (.int 0)), (q16, k_ar16, 9, (.int 0)), (q15, k_ar15, 9, (.int 0)), (q14, k_ar14, 1152, (.int 0)), (q13, k_ar13, 1152, (.int 0)), (q12, k_ar12, 1152, (.int 0)), (q10, k_ar10, 6, (.long 0)), (q9, k_ar9, 6, (.int 0)), (q8, k_ar8, 36, (.long 0)), (q7, k_ar7, 6, (.int 0)), (q6, k_ar6, 6, (.int 0)), (q5, k_ar5, 6, (.int 0)), (q4, k_ar4, 48, (.int 0)), (q1, k_ar1, 160, (.int 0))] ∧ xfr h h2 [o]) ⟨xup_self, A_22.new hn_q26 (by decide) ho_22, ((f_22.up (Or.inr (f_22.2 _ hn_q26))).up (Or.inl (by simp)))⟩ (fun h23 ⟨ho_23, A_23, f_23⟩ => ?_)
  refine x_aload_n d_Mo_init_200 rfl rfl ?_
  refine x_iconst (v := (-1)) d_Mo_init_201 (by decide) ?_
  refine x_put xf_Mo_81_Mo xp_Mo_30 rfl rfl ho_23 rfl rfl d_Mo_init_202 ?_
  refine x_any (R := fun h2 => h2 o = some (k_MarkerTextModel, [.int 0, .ref q1, .int 0, .int 0, .ref q4, .ref q5, .ref q6, .ref q7, .ref q8, .ref q9, .ref q10, .int 0, .ref q12, .ref q13, .ref q14, .ref q15, .ref q16, .ref q17, .ref q18, .ref q19, .ref q20, .ref q21, .ref q22, .ref q23, .ref q24, .ref q25, .ref q26, .int 0, .int 0, .int 0, .int (-1), .null, .int 0, .int 0, .null, .int 0, .long 0, .null, .null, .null, .null, .null, .int 0, .int 0, .int 0, .null, .null, .null, .null, .int 0, .null, .int 0]) ∧ pAr h2 [(q26, k_ar26, 9, (.int 0)), (q25, k_ar25, 576, (.int 0)), (q24, k_ar24, 576, (.int 0)), (q23, k_ar23, 6336, (.int 0)), (q22, k_ar22, 576, (.long 0)), (q21, k_ar21, 9, (.int 0)), (q20, k_ar20, 360, (.int 0)), (q19, k_ar19, 360, (.int 0)), (q18, k_ar18, 360, (.int 0)), (q17, k_ar17, 360, (.int 0)), (q16, k_ar16, 9, (.int 0)), (q15, k_ar15, 9, (.int 0)), (q14, k_ar14, 1152, (.int 0)), (q13, k_ar13, 1152, (.int 0)), (q12, k_ar12, 1152, (.int 0)), (q10, k_ar10, 6, (.long 0)), (q9, k_ar9, 6, (.int 0)), (q8, k_ar8, 36, (.long 0)), (q7, k_ar7, 6, (.int 0)), (q6, k_ar6, 6, (.int 0)), (q5, k_ar5, 6, (.int 0)), (q4, k_ar4, 48, (.int 0)), (q1, k_ar1, 160, (.int 0))] ∧ xfr h h2 [o]) ⟨xup_self, A_23.o ho_23, (f_23.up (Or.inl (by simp)))⟩ (fun h24 ⟨ho_24, A_24, f_24⟩ => ?_)
  refine x_aload_n d_Mo_init_205 rfl rfl ?_
  refine x_bipush (v := 80) d_Mo_init_206 (by decide) ?_
  refine x_newa (k := k_ar31) rfl rfl (fun _ hz => by cases hz) xw_111 (by decide) (by decide : Int32.toNatClampNeg 80 = 80) (by decide) (by omega) (by omega) d_Mo_init_208 (fun q31 hn_q31 hk_q31 => ?_)
  refine x_putF xf_Mo_85_Mo xp_Mo_31 ⟨_, _, _, rfl, rfl, xw_1201⟩ rfl rfl rfl (xup_old ho_24 hn_q31) rfl rfl d_Mo_init_210 ?_
  refine x_any (R := fun h2 => h2 o = some (k_MarkerTextModel, [.int 0, .ref q1, .int 0, .int 0, .ref q4, .ref q5, .ref q6, .ref q7, .ref q8, .ref q9, .ref q10, .int 0, .ref q12, .ref q13, .ref q14, .ref q15, .ref q16, .ref q17, .ref q18, .ref q19, .ref q20, .ref q21, .ref q22, .ref q23, .ref q24, .ref q25, .ref q26, .int 0, .int 0, .int 0, .int (-1), .ref q31, .int 0, .int 0, .null, .int 0, .long 0, .null, .null, .null, .null, .null, .int 0, .int 0, .int 0, .null, .null, .null, .null, .int 0, .null, .int 0]) ∧ pAr h2 [(q31, k_ar31, 80, (.int 0)), (q26, k_ar26, 9, (.int 0)), (q25, k_ar25, 576, (.int 0)), (q24, k_ar24, 576, (.int 0)), (q23, k_ar23, 6336, (.int 0)), (q22, k_ar22, 576, (.long 0)), (q21, k_ar21, 9, (.int 0)), (q20, k_ar20, 360, (.int 0)), (q19, k_ar19, 360, (.int 0)), (q18, k_ar18, 360, (.int 0)), (q17, k_ar17, 360, (.int 0)), (q16, k_ar16, 9, (.int 0)), (q15, k_ar15, 9, (.int 0)), (q14, k_ar14, 1152, (.int 0)), (q13, k_ar13, 1152, (.int 0)), (q12, k_ar12, 1152, (.int 0)), (q10, k_ar10, 6, (.long 0)), (q9, k_ar9, 6, (.int 0)), (q8, k_ar8, 36, (.long 0)), (q7, k_ar7, 6, (.int 0)), (q6, k_ar6, 6, (.int 0)), (q5, k_ar5, 6, (.int 0)), (q4, k_ar4, 48, (.int 0)), (q1, k_ar1, 160, (.int 0))] ∧ xfr h h2 [o]) ⟨xup_self, A_24.new hn_q31 (by decide) ho_24, ((f_24.up (Or.inr (f_24.2 _ hn_q31))).up (Or.inl (by simp)))⟩ (fun h25 ⟨ho_25, A_25, f_25⟩ => ?_)
  refine x_aload_n d_Mo_init_213 rfl rfl ?_
  refine x_bipush (v := 80) d_Mo_init_214 (by decide) ?_
  refine x_newa (k := k_ar34) rfl rfl (fun _ hz => by cases hz) xw_111 (by decide) (by decide : Int32.toNatClampNeg 80 = 80) (by decide) (by omega) (by omega) d_Mo_init_216 (fun q34 hn_q34 hk_q34 => ?_)
  refine x_putF xf_Mo_88_Mo xp_Mo_34 ⟨_, _, _, rfl, rfl, xw_1204⟩ rfl rfl rfl (xup_old ho_25 hn_q34) rfl rfl d_Mo_init_218 ?_
  refine x_any (R := fun h2 => h2 o = some (k_MarkerTextModel, [.int 0, .ref q1, .int 0, .int 0, .ref q4, .ref q5, .ref q6, .ref q7, .ref q8, .ref q9, .ref q10, .int 0, .ref q12, .ref q13, .ref q14, .ref q15, .ref q16, .ref q17, .ref q18, .ref q19, .ref q20, .ref q21, .ref q22, .ref q23, .ref q24, .ref q25, .ref q26, .int 0, .int 0, .int 0, .int (-1), .ref q31, .int 0, .int 0, .ref q34, .int 0, .long 0, .null, .null, .null, .null, .null, .int 0, .int 0, .int 0, .null, .null, .null, .null, .int 0, .null, .int 0]) ∧ pAr h2 [(q34, k_ar34, 80, (.int 0)), (q31, k_ar31, 80, (.int 0)), (q26, k_ar26, 9, (.int 0)), (q25, k_ar25, 576, (.int 0)), (q24, k_ar24, 576, (.int 0)), (q23, k_ar23, 6336, (.int 0)), (q22, k_ar22, 576, (.long 0)), (q21, k_ar21, 9, (.int 0)), (q20, k_ar20, 360, (.int 0)), (q19, k_ar19, 360, (.int 0)), (q18, k_ar18, 360, (.int 0)), (q17, k_ar17, 360, (.int 0)), (q16, k_ar16, 9, (.int 0)), (q15, k_ar15, 9, (.int 0)), (q14, k_ar14, 1152, (.int 0)), (q13, k_ar13, 1152, (.int 0)), (q12, k_ar12, 1152, (.int 0)), (q10, k_ar10, 6, (.long 0)), (q9, k_ar9, 6, (.int 0)), (q8, k_ar8, 36, (.long 0)), (q7, k_ar7, 6, (.int 0)), (q6, k_ar6, 6, (.int 0)), (q5, k_ar5, 6, (.int 0)), (q4, k_ar4, 48, (.int 0)), (q1, k_ar1, 160, (.int 0))] ∧ xfr h h2 [o]) ⟨xup_self, A_25.new hn_q34 (by decide) ho_25, ((f_25.up (Or.inr (f_25.2 _ hn_q34))).up (Or.inl (by simp)))⟩ (fun h26 ⟨ho_26, A_26, f_26⟩ => ?_)
  refine x_aload_n d_Mo_init_221 rfl rfl ?_
  refine x_sipush (v := 1980) d_Mo_init_222 (by decide) ?_
  refine x_newa (k := k_ar37) rfl rfl (fun _ hz => by cases hz) xw_110 (by decide) (by decide : Int32.toNatClampNeg 1980 = 1980) (by decide) (by omega) (by omega) d_Mo_init_225 (fun q37 hn_q37 hk_q37 => ?_)
  refine x_putF xf_Mo_91_Mo xp_Mo_37 ⟨_, _, _, rfl, rfl, xw_1207⟩ rfl rfl rfl (xup_old ho_26 hn_q37) rfl rfl d_Mo_init_227 ?_
  refine x_any (R := fun h2 => h2 o = some (k_MarkerTextModel, [.int 0, .ref q1, .int 0, .int 0, .ref q4, .ref q5, .ref q6, .ref q7, .ref q8, .ref q9, .ref q10, .int 0, .ref q12, .ref q13, .ref q14, .ref q15, .ref q16, .ref q17, .ref q18, .ref q19, .ref q20, .ref q21, .ref q22, .ref q23, .ref q24, .ref q25, .ref q26, .int 0, .int 0, .int 0, .int (-1), .ref q31, .int 0, .int 0, .ref q34, .int 0, .long 0, .ref q37, .null, .null, .null, .null, .int 0, .int 0, .int 0, .null, .null, .null, .null, .int 0, .null, .int 0]) ∧ pAr h2 [(q37, k_ar37, 1980, (.long 0)), (q34, k_ar34, 80, (.int 0)), (q31, k_ar31, 80, (.int 0)), (q26, k_ar26, 9, (.int 0)), (q25, k_ar25, 576, (.int 0)), (q24, k_ar24, 576, (.int 0)), (q23, k_ar23, 6336, (.int 0)), (q22, k_ar22, 576, (.long 0)), (q21, k_ar21, 9, (.int 0)), (q20, k_ar20, 360, (.int 0)), (q19, k_ar19, 360, (.int 0)), (q18, k_ar18, 360, (.int 0)), (q17, k_ar17, 360, (.int 0)), (q16, k_ar16, 9, (.int 0)), (q15, k_ar15, 9, (.int 0)), (q14, k_ar14, 1152, (.int 0)), (q13, k_ar13, 1152, (.int 0)), (q12, k_ar12, 1152, (.int 0)), (q10, k_ar10, 6, (.long 0)), (q9, k_ar9, 6, (.int 0)), (q8, k_ar8, 36, (.long 0)), (q7, k_ar7, 6, (.int 0)), (q6, k_ar6, 6, (.int 0)), (q5, k_ar5, 6, (.int 0)), (q4, k_ar4, 48, (.int 0)), (q1, k_ar1, 160, (.int 0))] ∧ xfr h h2 [o]) ⟨xup_self, A_26.new hn_q37 (by decide) ho_26, ((f_26.up (Or.inr (f_26.2 _ hn_q37))).up (Or.inl (by simp)))⟩ (fun h27 ⟨ho_27, A_27, f_27⟩ => ?_)
  refine x_aload_n d_Mo_init_230 rfl rfl ?_
  refine x_bipush (v := 6) d_Mo_init_231 (by decide) ?_
  refine x_newa (k := k_ar38) rfl rfl (fun _ hz => by cases hz) xw_111 (by decide) (by decide : Int32.toNatClampNeg 6 = 6) (by decide) (by omega) (by omega) d_Mo_init_233 (fun q38 hn_q38 hk_q38 => ?_)
  refine x_putF xf_Mo_94_Mo xp_Mo_38 ⟨_, _, _, rfl, rfl, xw_1208⟩ rfl rfl rfl (xup_old ho_27 hn_q38) rfl rfl d_Mo_init_235 ?_
  refine x_any (R := fun h2 => h2 o = some (k_MarkerTextModel, [.int 0, .ref q1, .int 0, .int 0, .ref q4, .ref q5, .ref q6, .ref q7, .ref q8, .ref q9, .ref q10, .int 0, .ref q12, .ref q13, .ref q14, .ref q15, .ref q16, .ref q17, .ref q18, .ref q19, .ref q20, .ref q21, .ref q22, .ref q23, .ref q24, .ref q25, .ref q26, .int 0, .int 0, .int 0, .int (-1), .ref q31, .int 0, .int 0, .ref q34, .int 0, .long 0, .ref q37, .ref q38, .null, .null, .null, .int 0, .int 0, .int 0, .null, .null, .null, .null, .int 0, .null, .int 0]) ∧ pAr h2 [(q38, k_ar38, 6, (.int 0)), (q37, k_ar37, 1980, (.long 0)), (q34, k_ar34, 80, (.int 0)), (q31, k_ar31, 80, (.int 0)), (q26, k_ar26, 9, (.int 0)), (q25, k_ar25, 576, (.int 0)), (q24, k_ar24, 576, (.int 0)), (q23, k_ar23, 6336, (.int 0)), (q22, k_ar22, 576, (.long 0)), (q21, k_ar21, 9, (.int 0)), (q20, k_ar20, 360, (.int 0)), (q19, k_ar19, 360, (.int 0)), (q18, k_ar18, 360, (.int 0)), (q17, k_ar17, 360, (.int 0)), (q16, k_ar16, 9, (.int 0)), (q15, k_ar15, 9, (.int 0)), (q14, k_ar14, 1152, (.int 0)), (q13, k_ar13, 1152, (.int 0)), (q12, k_ar12, 1152, (.int 0)), (q10, k_ar10, 6, (.long 0)), (q9, k_ar9, 6, (.int 0)), (q8, k_ar8, 36, (.long 0)), (q7, k_ar7, 6, (.int 0)), (q6, k_ar6, 6, (.int 0)), (q5, k_ar5, 6, (.int 0)), (q4, k_ar4, 48, (.int 0)), (q1, k_ar1, 160, (.int 0))] ∧ xfr h h2 [o]) ⟨xup_self, A_27.new hn_q38 (by decide) ho_27, ((f_27.up (Or.inr (f_27.2 _ hn_q38))).up (Or.inl (by simp)))⟩ (fun h28 ⟨ho_28, A_28, f_28⟩ => ?_)
  refine x_aload_n d_Mo_init_238 rfl rfl ?_
  refine x_bipush (v := 6) d_Mo_init_239 (by decide) ?_
  refine x_newa (k := k_ar39) rfl rfl (fun _ hz => by cases hz) xw_1327 (by decide) (by decide : Int32.toNatClampNeg 6 = 6) (by decide) (by omega) (by omega) d_Mo_init_241 (fun q39 hn_q39 hk_q39 => ?_)
  refine x_putF xf_Mo_97_Mo xp_Mo_39 ⟨_, _, _, rfl, rfl, xw_1209⟩ rfl rfl rfl (xup_old ho_28 hn_q39) rfl rfl d_Mo_init_243 ?_
  refine x_any (R := fun h2 => h2 o = some (k_MarkerTextModel, [.int 0, .ref q1, .int 0, .int 0, .ref q4, .ref q5, .ref q6, .ref q7, .ref q8, .ref q9, .ref q10, .int 0, .ref q12, .ref q13, .ref q14, .ref q15, .ref q16, .ref q17, .ref q18, .ref q19, .ref q20, .ref q21, .ref q22, .ref q23, .ref q24, .ref q25, .ref q26, .int 0, .int 0, .int 0, .int (-1), .ref q31, .int 0, .int 0, .ref q34, .int 0, .long 0, .ref q37, .ref q38, .ref q39, .null, .null, .int 0, .int 0, .int 0, .null, .null, .null, .null, .int 0, .null, .int 0]) ∧ pAr h2 [(q39, k_ar39, 6, (.int 0)), (q38, k_ar38, 6, (.int 0)), (q37, k_ar37, 1980, (.long 0)), (q34, k_ar34, 80, (.int 0)), (q31, k_ar31, 80, (.int 0)), (q26, k_ar26, 9, (.int 0)), (q25, k_ar25, 576, (.int 0)), (q24, k_ar24, 576, (.int 0)), (q23, k_ar23, 6336, (.int 0)), (q22, k_ar22, 576, (.long 0)), (q21, k_ar21, 9, (.int 0)), (q20, k_ar20, 360, (.int 0)), (q19, k_ar19, 360, (.int 0)), (q18, k_ar18, 360, (.int 0)), (q17, k_ar17, 360, (.int 0)), (q16, k_ar16, 9, (.int 0)), (q15, k_ar15, 9, (.int 0)), (q14, k_ar14, 1152, (.int 0)), (q13, k_ar13, 1152, (.int 0)), (q12, k_ar12, 1152, (.int 0)), (q10, k_ar10, 6, (.long 0)), (q9, k_ar9, 6, (.int 0)), (q8, k_ar8, 36, (.long 0)), (q7, k_ar7, 6, (.int 0)), (q6, k_ar6, 6, (.int 0)), (q5, k_ar5, 6, (.int 0)), (q4, k_ar4, 48, (.int 0)), (q1, k_ar1, 160, (.int 0))] ∧ xfr h h2 [o]) ⟨xup_self, A_28.new hn_q39 (by decide) ho_28, ((f_28.up (Or.inr (f_28.2 _ hn_q39))).up (Or.inl (by simp)))⟩ (fun h29 ⟨ho_29, A_29, f_29⟩ => ?_)
  refine x_aload_n d_Mo_init_246 rfl rfl ?_
  refine x_bipush (v := 6) d_Mo_init_247 (by decide) ?_
  refine x_newa (k := k_ar40) rfl rfl (fun _ hz => by cases hz) xw_111 (by decide) (by decide : Int32.toNatClampNeg 6 = 6) (by decide) (by omega) (by omega) d_Mo_init_249 (fun q40 hn_q40 hk_q40 => ?_)
  refine x_putF xf_Mo_100_Mo xp_Mo_40 ⟨_, _, _, rfl, rfl, xw_1210⟩ rfl rfl rfl (xup_old ho_29 hn_q40) rfl rfl d_Mo_init_251 ?_
  refine x_any (R := fun h2 => h2 o = some (k_MarkerTextModel, [.int 0, .ref q1, .int 0, .int 0, .ref q4, .ref q5, .ref q6, .ref q7, .ref q8, .ref q9, .ref q10, .int 0, .ref q12, .ref q13, .ref q14, .ref q15, .ref q16, .ref q17, .ref q18, .ref q19, .ref q20, .ref q21, .ref q22, .ref q23, .ref q24, .ref q25, .ref q26, .int 0, .int 0, .int 0, .int (-1), .ref q31, .int 0, .int 0, .ref q34, .int 0, .long 0, .ref q37, .ref q38, .ref q39, .ref q40, .null, .int 0, .int 0, .int 0, .null, .null, .null, .null, .int 0, .null, .int 0]) ∧ pAr h2 [(q40, k_ar40, 6, (.int 0)), (q39, k_ar39, 6, (.int 0)), (q38, k_ar38, 6, (.int 0)), (q37, k_ar37, 1980, (.long 0)), (q34, k_ar34, 80, (.int 0)), (q31, k_ar31, 80, (.int 0)), (q26, k_ar26, 9, (.int 0)), (q25, k_ar25, 576, (.int 0)), (q24, k_ar24, 576, (.int 0)), (q23, k_ar23, 6336, (.int 0)), (q22, k_ar22, 576, (.long 0)), (q21, k_ar21, 9, (.int 0)), (q20, k_ar20, 360, (.int 0)), (q19, k_ar19, 360, (.int 0)), (q18, k_ar18, 360, (.int 0)), (q17, k_ar17, 360, (.int 0)), (q16, k_ar16, 9, (.int 0)), (q15, k_ar15, 9, (.int 0)), (q14, k_ar14, 1152, (.int 0)), (q13, k_ar13, 1152, (.int 0)), (q12, k_ar12, 1152, (.int 0)), (q10, k_ar10, 6, (.long 0)), (q9, k_ar9, 6, (.int 0)), (q8, k_ar8, 36, (.long 0)), (q7, k_ar7, 6, (.int 0)), (q6, k_ar6, 6, (.int 0)), (q5, k_ar5, 6, (.int 0)), (q4, k_ar4, 48, (.int 0)), (q1, k_ar1, 160, (.int 0))] ∧ xfr h h2 [o]) ⟨xup_self, A_29.new hn_q40 (by decide) ho_29, ((f_29.up (Or.inr (f_29.2 _ hn_q40))).up (Or.inl (by simp)))⟩ (fun h30 ⟨ho_30, A_30, f_30⟩ => ?_)
  refine x_aload_n d_Mo_init_254 rfl rfl ?_
  refine x_sipush (v := 128) d_Mo_init_255 (by decide) ?_
  refine x_newa (k := k_ar41) rfl rfl (fun _ hz => by cases hz) xw_1327 (by decide) (by decide : Int32.toNatClampNeg 128 = 128) (by decide) (by omega) (by omega) d_Mo_init_258 (fun q41 hn_q41 hk_q41 => ?_)
  refine x_putF xf_Mo_103_Mo xp_Mo_41 ⟨_, _, _, rfl, rfl, xw_1211⟩ rfl rfl rfl (xup_old ho_30 hn_q41) rfl rfl d_Mo_init_260 ?_
  refine x_any (R := fun h2 => h2 o = some (k_MarkerTextModel, [.int 0, .ref q1, .int 0, .int 0, .ref q4, .ref q5, .ref q6, .ref q7, .ref q8, .ref q9, .ref q10, .int 0, .ref q12, .ref q13, .ref q14, .ref q15, .ref q16, .ref q17, .ref q18, .ref q19, .ref q20, .ref q21, .ref q22, .ref q23, .ref q24, .ref q25, .ref q26, .int 0, .int 0, .int 0, .int (-1), .ref q31, .int 0, .int 0, .ref q34, .int 0, .long 0, .ref q37, .ref q38, .ref q39, .ref q40, .ref q41, .int 0, .int 0, .int 0, .null, .null, .null, .null, .int 0, .null, .int 0]) ∧ pAr h2 [(q41, k_ar41, 128, (.int 0)), (q40, k_ar40, 6, (.int 0)), (q39, k_ar39, 6, (.int 0)), (q38, k_ar38, 6, (.int 0)), (q37, k_ar37, 1980, (.long 0)), (q34, k_ar34, 80, (.int 0)), (q31, k_ar31, 80, (.int 0)), (q26, k_ar26, 9, (.int 0)), (q25, k_ar25, 576, (.int 0)), (q24, k_ar24, 576, (.int 0)), (q23, k_ar23, 6336, (.int 0)), (q22, k_ar22, 576, (.long 0)), (q21, k_ar21, 9, (.int 0)), (q20, k_ar20, 360, (.int 0)), (q19, k_ar19, 360, (.int 0)), (q18, k_ar18, 360, (.int 0)), (q17, k_ar17, 360, (.int 0)), (q16, k_ar16, 9, (.int 0)), (q15, k_ar15, 9, (.int 0)), (q14, k_ar14, 1152, (.int 0)), (q13, k_ar13, 1152, (.int 0)), (q12, k_ar12, 1152, (.int 0)), (q10, k_ar10, 6, (.long 0)), (q9, k_ar9, 6, (.int 0)), (q8, k_ar8, 36, (.long 0)), (q7, k_ar7, 6, (.int 0)), (q6, k_ar6, 6, (.int 0)), (q5, k_ar5, 6, (.int 0)), (q4, k_ar4, 48, (.int 0)), (q1, k_ar1, 160, (.int 0))] ∧ xfr h h2 [o]) ⟨xup_self, A_30.new hn_q41 (by decide) ho_30, ((f_30.up (Or.inr (f_30.2 _ hn_q41))).up (Or.inl (by simp)))⟩ (fun h31 ⟨ho_31, A_31, f_31⟩ => ?_)
  refine x_aload_n d_Mo_init_263 rfl rfl ?_
  refine x_sipush (v := 256) d_Mo_init_264 (by decide) ?_
  refine x_newa (k := k_ar45) rfl rfl (fun _ hz => by cases hz) xw_111 (by decide) (by decide : Int32.toNatClampNeg 256 = 256) (by decide) (by omega) (by omega) d_Mo_init_267 (fun q45 hn_q45 hk_q45 => ?_)
  refine x_putF xf_Mo_106_Mo xp_Mo_45 ⟨_, _, _, rfl, rfl, xw_1215⟩ rfl rfl rfl (xup_old ho_31 hn_q45) rfl rfl d_Mo_init_269 ?_
  refine x_any (R := fun h2 => h2 o = some (k_MarkerTextModel, [.int 0, .ref q1, .int 0, .int 0, .ref q4, .ref q5, .ref q6, .ref q7, .ref q8, .ref q9, .ref q10, .int 0, .ref q12, .ref q13, .ref q14, .ref q15, .ref q16, .ref q17, .ref q18, .ref q19, .ref q20, .ref q21, .ref q22, .ref q23, .ref q24, .ref q25, .ref q26, .int 0, .int 0, .int 0, .int (-1), .ref q31, .int 0, .int 0, .ref q34, .int 0, .long 0, .ref q37, .ref q38, .ref q39, .ref q40, .ref q41, .int 0, .int 0, .int 0, .ref q45, .null, .null, .null, .int 0, .null, .int 0]) ∧ pAr h2 [(q45, k_ar45, 256, (.int 0)), (q41, k_ar41, 128, (.int 0)), (q40, k_ar40, 6, (.int 0)), (q39, k_ar39, 6, (.int 0)), (q38, k_ar38, 6, (.int 0)), (q37, k_ar37, 1980, (.long 0)), (q34, k_ar34, 80, (.int 0)), (q31, k_ar31, 80, (.int 0)), (q26, k_ar26, 9, (.int 0)), (q25, k_ar25, 576, (.int 0)), (q24, k_ar24, 576, (.int 0)), (q23, k_ar23, 6336, (.int 0)), (q22, k_ar22, 576, (.long 0)), (q21, k_ar21, 9, (.int 0)), (q20, k_ar20, 360, (.int 0)), (q19, k_ar19, 360, (.int 0)), (q18, k_ar18, 360, (.int 0)), (q17, k_ar17, 360, (.int 0)), (q16, k_ar16, 9, (.int 0)), (q15, k_ar15, 9, (.int 0)), (q14, k_ar14, 1152, (.int 0)), (q13, k_ar13, 1152, (.int 0)), (q12, k_ar12, 1152, (.int 0)), (q10, k_ar10, 6, (.long 0)), (q9, k_ar9, 6, (.int 0)), (q8, k_ar8, 36, (.long 0)), (q7, k_ar7, 6, (.int 0)), (q6, k_ar6, 6, (.int 0)), (q5, k_ar5, 6, (.int 0)), (q4, k_ar4, 48, (.int 0)), (q1, k_ar1, 160, (.int 0))] ∧ xfr h h2 [o]) ⟨xup_self, A_31.new hn_q45 (by decide) ho_31, ((f_31.up (Or.inr (f_31.2 _ hn_q45))).up (Or.inl (by simp)))⟩ (fun h32 ⟨ho_32, A_32, f_32⟩ => ?_)
  refine x_aload_n d_Mo_init_272 rfl rfl ?_
  refine x_sipush (v := 256) d_Mo_init_273 (by decide) ?_
  refine x_newa (k := k_ar46) rfl rfl (fun _ hz => by cases hz) xw_111 (by decide) (by decide : Int32.toNatClampNeg 256 = 256) (by decide) (by omega) (by omega) d_Mo_init_276 (fun q46 hn_q46 hk_q46 => ?_)
  refine x_putF xf_Mo_109_Mo xp_Mo_46 ⟨_, _, _, rfl, rfl, xw_1216⟩ rfl rfl rfl (xup_old ho_32 hn_q46) rfl rfl d_Mo_init_278 ?_
  refine x_any (R := fun h2 => h2 o = some (k_MarkerTextModel, [.int 0, .ref q1, .int 0, .int 0, .ref q4, .ref q5, .ref q6, .ref q7, .ref q8, .ref q9, .ref q10, .int 0, .ref q12, .ref q13, .ref q14, .ref q15, .ref q16, .ref q17, .ref q18, .ref q19, .ref q20, .ref q21, .ref q22, .ref q23, .ref q24, .ref q25, .ref q26, .int 0, .int 0, .int 0, .int (-1), .ref q31, .int 0, .int 0, .ref q34, .int 0, .long 0, .ref q37, .ref q38, .ref q39, .ref q40, .ref q41, .int 0, .int 0, .int 0, .ref q45, .ref q46, .null, .null, .int 0, .null, .int 0]) ∧ pAr h2 [(q46, k_ar46, 256, (.int 0)), (q45, k_ar45, 256, (.int 0)), (q41, k_ar41, 128, (.int 0)), (q40, k_ar40, 6, (.int 0)), (q39, k_ar39, 6, (.int 0)), (q38, k_ar38, 6, (.int 0)), (q37, k_ar37, 1980, (.long 0)), (q34, k_ar34, 80, (.int 0)), (q31, k_ar31, 80, (.int 0)), (q26, k_ar26, 9, (.int 0)), (q25, k_ar25, 576, (.int 0)), (q24, k_ar24, 576, (.int 0)), (q23, k_ar23, 6336, (.int 0)), (q22, k_ar22, 576, (.long 0)), (q21, k_ar21, 9, (.int 0)), (q20, k_ar20, 360, (.int 0)), (q19, k_ar19, 360, (.int 0)), (q18, k_ar18, 360, (.int 0)), (q17, k_ar17, 360, (.int 0)), (q16, k_ar16, 9, (.int 0)), (q15, k_ar15, 9, (.int 0)), (q14, k_ar14, 1152, (.int 0)), (q13, k_ar13, 1152, (.int 0)), (q12, k_ar12, 1152, (.int 0)), (q10, k_ar10, 6, (.long 0)), (q9, k_ar9, 6, (.int 0)), (q8, k_ar8, 36, (.long 0)), (q7, k_ar7, 6, (.int 0)), (q6, k_ar6, 6, (.int 0)), (q5, k_ar5, 6, (.int 0)), (q4, k_ar4, 48, (.int 0)), (q1, k_ar1, 160, (.int 0))] ∧ xfr h h2 [o]) ⟨xup_self, A_32.new hn_q46 (by decide) ho_32, ((f_32.up (Or.inr (f_32.2 _ hn_q46))).up (Or.inl (by simp)))⟩ (fun h33 ⟨ho_33, A_33, f_33⟩ => ?_)
  refine x_aload_n d_Mo_init_281 rfl rfl ?_
  refine x_sipush (v := 1536) d_Mo_init_282 (by decide) ?_
  refine x_newa (k := k_ar47) rfl rfl (fun _ hz => by cases hz) xw_111 (by decide) (by decide : Int32.toNatClampNeg 1536 = 1536) (by decide) (by omega) (by omega) d_Mo_init_285 (fun q47 hn_q47 hk_q47 => ?_)
  refine x_putF xf_Mo_112_Mo xp_Mo_47 ⟨_, _, _, rfl, rfl, xw_1217⟩ rfl rfl rfl (xup_old ho_33 hn_q47) rfl rfl d_Mo_init_287 ?_
  refine x_any (R := fun h2 => h2 o = some (k_MarkerTextModel, [.int 0, .ref q1, .int 0, .int 0, .ref q4, .ref q5, .ref q6, .ref q7, .ref q8, .ref q9, .ref q10, .int 0, .ref q12, .ref q13, .ref q14, .ref q15, .ref q16, .ref q17, .ref q18, .ref q19, .ref q20, .ref q21, .ref q22, .ref q23, .ref q24, .ref q25, .ref q26, .int 0, .int 0, .int 0, .int (-1), .ref q31, .int 0, .int 0, .ref q34, .int 0, .long 0, .ref q37, .ref q38, .ref q39, .ref q40, .ref q41, .int 0, .int 0, .int 0, .ref q45, .ref q46, .ref q47, .null, .int 0, .null, .int 0]) ∧ pAr h2 [(q47, k_ar47, 1536, (.int 0)), (q46, k_ar46, 256, (.int 0)), (q45, k_ar45, 256, (.int 0)), (q41, k_ar41, 128, (.int 0)), (q40, k_ar40, 6, (.int 0)), (q39, k_ar39, 6, (.int 0)), (q38, k_ar38, 6, (.int 0)), (q37, k_ar37, 1980, (.long 0)), (q34, k_ar34, 80, (.int 0)), (q31, k_ar31, 80, (.int 0)), (q26, k_ar26, 9, (.int 0)), (q25, k_ar25, 576, (.int 0)), (q24, k_ar24, 576, (.int 0)), (q23, k_ar23, 6336, (.int 0)), (q22, k_ar22, 576, (.long 0)), (q21, k_ar21, 9, (.int 0)), (q20, k_ar20, 360, (.int 0)), (q19, k_ar19, 360, (.int 0)), (q18, k_ar18, 360, (.int 0)), (q17, k_ar17, 360, (.int 0)), (q16, k_ar16, 9, (.int 0)), (q15, k_ar15, 9, (.int 0)), (q14, k_ar14, 1152, (.int 0)), (q13, k_ar13, 1152, (.int 0)), (q12, k_ar12, 1152, (.int 0)), (q10, k_ar10, 6, (.long 0)), (q9, k_ar9, 6, (.int 0)), (q8, k_ar8, 36, (.long 0)), (q7, k_ar7, 6, (.int 0)), (q6, k_ar6, 6, (.int 0)), (q5, k_ar5, 6, (.int 0)), (q4, k_ar4, 48, (.int 0)), (q1, k_ar1, 160, (.int 0))] ∧ xfr h h2 [o]) ⟨xup_self, A_33.new hn_q47 (by decide) ho_33, ((f_33.up (Or.inr (f_33.2 _ hn_q47))).up (Or.inl (by simp)))⟩ (fun h34 ⟨ho_34, A_34, f_34⟩ => ?_)
  refine x_aload_n d_Mo_init_290 rfl rfl ?_
  refine x_sipush (v := 1000) d_Mo_init_291 (by decide) ?_
  refine x_newa (k := k_ar48) rfl rfl (fun _ hz => by cases hz) xw_111 (by decide) (by decide : Int32.toNatClampNeg 1000 = 1000) (by decide) (by omega) (by omega) d_Mo_init_294 (fun q48 hn_q48 hk_q48 => ?_)
  refine x_putF xf_Mo_115_Mo xp_Mo_48 ⟨_, _, _, rfl, rfl, xw_1218⟩ rfl rfl rfl (xup_old ho_34 hn_q48) rfl rfl d_Mo_init_296 ?_
  refine x_any (R := fun h2 => h2 o = some (k_MarkerTextModel, [.int 0, .ref q1, .int 0, .int 0, .ref q4, .ref q5, .ref q6, .ref q7, .ref q8, .ref q9, .ref q10, .int 0, .ref q12, .ref q13, .ref q14, .ref q15, .ref q16, .ref q17, .ref q18, .ref q19, .ref q20, .ref q21, .ref q22, .ref q23, .ref q24, .ref q25, .ref q26, .int 0, .int 0, .int 0, .int (-1), .ref q31, .int 0, .int 0, .ref q34, .int 0, .long 0, .ref q37, .ref q38, .ref q39, .ref q40, .ref q41, .int 0, .int 0, .int 0, .ref q45, .ref q46, .ref q47, .ref q48, .int 0, .null, .int 0]) ∧ pAr h2 [(q48, k_ar48, 1000, (.int 0)), (q47, k_ar47, 1536, (.int 0)), (q46, k_ar46, 256, (.int 0)), (q45, k_ar45, 256, (.int 0)), (q41, k_ar41, 128, (.int 0)), (q40, k_ar40, 6, (.int 0)), (q39, k_ar39, 6, (.int 0)), (q38, k_ar38, 6, (.int 0)), (q37, k_ar37, 1980, (.long 0)), (q34, k_ar34, 80, (.int 0)), (q31, k_ar31, 80, (.int 0)), (q26, k_ar26, 9, (.int 0)), (q25, k_ar25, 576, (.int 0)), (q24, k_ar24, 576, (.int 0)), (q23, k_ar23, 6336, (.int 0)), (q22, k_ar22, 576, (.long 0)), (q21, k_ar21, 9, (.int 0)), (q20, k_ar20, 360, (.int 0)), (q19, k_ar19, 360, (.int 0)), (q18, k_ar18, 360, (.int 0)), (q17, k_ar17, 360, (.int 0)), (q16, k_ar16, 9, (.int 0)), (q15, k_ar15, 9, (.int 0)), (q14, k_ar14, 1152, (.int 0)), (q13, k_ar13, 1152, (.int 0)), (q12, k_ar12, 1152, (.int 0)), (q10, k_ar10, 6, (.long 0)), (q9, k_ar9, 6, (.int 0)), (q8, k_ar8, 36, (.long 0)), (q7, k_ar7, 6, (.int 0)), (q6, k_ar6, 6, (.int 0)), (q5, k_ar5, 6, (.int 0)), (q4, k_ar4, 48, (.int 0)), (q1, k_ar1, 160, (.int 0))] ∧ xfr h h2 [o]) ⟨xup_self, A_34.new hn_q48 (by decide) ho_34, ((f_34.up (Or.inr (f_34.2 _ hn_q48))).up (Or.inl (by simp)))⟩ (fun h35 ⟨ho_35, A_35, f_35⟩ => ?_)
  refine x_aload_n d_Mo_init_299 rfl rfl ?_
  refine x_sipush (v := 600) d_Mo_init_300 (by decide) ?_
  refine x_newa (k := k_ar50) rfl rfl (fun _ hz => by cases hz) xw_111 (by decide) (by decide : Int32.toNatClampNeg 600 = 600) (by decide) (by omega) (by omega) d_Mo_init_303 (fun q50 hn_q50 hk_q50 => ?_)
  refine x_putF xf_Mo_118_Mo xp_Mo_50 ⟨_, _, _, rfl, rfl, xw_1220⟩ rfl rfl rfl (xup_old ho_35 hn_q50) rfl rfl d_Mo_init_305 ?_
  refine x_any (R := fun h2 => h2 o = some (k_MarkerTextModel, [.int 0, .ref q1, .int 0, .int 0, .ref q4, .ref q5, .ref q6, .ref q7, .ref q8, .ref q9, .ref q10, .int 0, .ref q12, .ref q13, .ref q14, .ref q15, .ref q16, .ref q17, .ref q18, .ref q19, .ref q20, .ref q21, .ref q22, .ref q23, .ref q24, .ref q25, .ref q26, .int 0, .int 0, .int 0, .int (-1), .ref q31, .int 0, .int 0, .ref q34, .int 0, .long 0, .ref q37, .ref q38, .ref q39, .ref q40, .ref q41, .int 0, .int 0, .int 0, .ref q45, .ref q46, .ref q47, .ref q48, .int 0, .ref q50, .int 0]) ∧ pAr h2 [(q50, k_ar50, 600, (.int 0)), (q48, k_ar48, 1000, (.int 0)), (q47, k_ar47, 1536, (.int 0)), (q46, k_ar46, 256, (.int 0)), (q45, k_ar45, 256, (.int 0)), (q41, k_ar41, 128, (.int 0)), (q40, k_ar40, 6, (.int 0)), (q39, k_ar39, 6, (.int 0)), (q38, k_ar38, 6, (.int 0)), (q37, k_ar37, 1980, (.long 0)), (q34, k_ar34, 80, (.int 0)), (q31, k_ar31, 80, (.int 0)), (q26, k_ar26, 9, (.int 0)), (q25, k_ar25, 576, (.int 0)), (q24, k_ar24, 576, (.int 0)), (q23, k_ar23, 6336, (.int 0)), (q22, k_ar22, 576, (.long 0)), (q21, k_ar21, 9, (.int 0)), (q20, k_ar20, 360, (.int 0)), (q19, k_ar19, 360, (.int 0)), (q18, k_ar18, 360, (.int 0)), (q17, k_ar17, 360, (.int 0)), (q16, k_ar16, 9, (.int 0)), (q15, k_ar15, 9, (.int 0)), (q14, k_ar14, 1152, (.int 0)), (q13, k_ar13, 1152, (.int 0)), (q12, k_ar12, 1152, (.int 0)), (q10, k_ar10, 6, (.long 0)), (q9, k_ar9, 6, (.int 0)), (q8, k_ar8, 36, (.long 0)), (q7, k_ar7, 6, (.int 0)), (q6, k_ar6, 6, (.int 0)), (q5, k_ar5, 6, (.int 0)), (q4, k_ar4, 48, (.int 0)), (q1, k_ar1, 160, (.int 0))] ∧ xfr h h2 [o]) ⟨xup_self, A_35.new hn_q50 (by decide) ho_35, ((f_35.up (Or.inr (f_35.2 _ hn_q50))).up (Or.inl (by simp)))⟩ (fun h36 ⟨ho_36, A_36, f_36⟩ => ?_)
  refine x_vret d_Mo_init_308 rfl ?_
  exact ⟨rfl, ⟨_, isR_0 ho_36 A_36⟩, f_36, by omega, by omega⟩
end RF1
