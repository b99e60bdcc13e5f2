section
abbrev y_Mo_name : MethodName := ⟨"MarkerTextModel", "name", "(I)I"⟩
abbrev M_Mo_name : XMt := (y_Mo_name, prog_13_method_11_code, 5, (some .int))
theorem d_Mo_name_123 : decode M_Mo_name.2.1 123 = .ok (.iload 4, 2) := by decide +kernel
theorem d_Mo_name_125 : decode M_Mo_name.2.1 125 = .ok (.iload_n 2, 1) := by decide +kernel
theorem d_Mo_name_126 : decode M_Mo_name.2.1 126 = .ok (.if_icmp .ge 31, 3) := by decide +kernel
theorem d_Mo_name_157 : decode M_Mo_name.2.1 157 = .ok (.aload_n 0, 1) := by decide +kernel
theorem d_Mo_name_158 : decode M_Mo_name.2.1 158 = .ok (.getfield 16, 3) := by decide +kernel
theorem d_Mo_name_161 : decode M_Mo_name.2.1 161 = .ok (.aload_n 0, 1) := by decide +kernel
theorem d_Mo_name_162 : decode M_Mo_name.2.1 162 = .ok (.getfield 147, 3) := by decide +kernel
theorem d_Mo_name_165 : decode M_Mo_name.2.1 165 = .ok (.iload_n 2, 1) := by decide +kernel
theorem d_Mo_name_166 : decode M_Mo_name.2.1 166 = .ok (.iastore, 1) := by decide +kernel
theorem d_Mo_name_167 : decode M_Mo_name.2.1 167 = .ok (.aload_n 0, 1) := by decide +kernel
theorem d_Mo_name_168 : decode M_Mo_name.2.1 168 = .ok (.getfield 19, 3) := by decide +kernel
theorem d_Mo_name_171 : decode M_Mo_name.2.1 171 = .ok (.aload_n 0, 1) := by decide +kernel
theorem d_Mo_name_172 : decode M_Mo_name.2.1 172 = .ok (.getfield 147, 3) := by decide +kernel
theorem d_Mo_name_175 : decode M_Mo_name.2.1 175 = .ok (.iload_n 1, 1) := by decide +kernel
theorem d_Mo_name_176 : decode M_Mo_name.2.1 176 = .ok (.iastore, 1) := by decide +kernel
theorem d_Mo_name_177 : decode M_Mo_name.2.1 177 = .ok (.aload_n 0, 1) := by decide +kernel
theorem d_Mo_name_178 : decode M_Mo_name.2.1 178 = .ok (.dup, 1) := by decide +kernel
theorem d_Mo_name_179 : decode M_Mo_name.2.1 179 = .ok (.getfield 147, 3) := by decide +kernel
theorem d_Mo_name_182 : decode M_Mo_name.2.1 182 = .ok (.iconst 1, 1) := by decide +kernel
theorem d_Mo_name_183 : decode M_Mo_name.2.1 183 = .ok (.iadd, 1) := by decide +kernel
theorem d_Mo_name_184 : decode M_Mo_name.2.1 184 = .ok (.putfield 147, 3) := by decide +kernel
theorem xp_Mo_3 : xP k_MarkerTextModel 3 false .int := ⟨_, _, _, rfl, rfl, by decide +kernel⟩
theorem d_Mo_name_187 : decode M_Mo_name.2.1 187 = .ok (.aload_n 0, 1) := by decide +kernel
theorem d_Mo_name_188 : decode M_Mo_name.2.1 188 = .ok (.getfield 147, 3) := by decide +kernel
theorem d_Mo_name_191 : decode M_Mo_name.2.1 191 = .ok (.iconst 1, 1) := by decide +kernel
theorem d_Mo_name_192 : decode M_Mo_name.2.1 192 = .ok (.isub, 1) := by decide +kernel
theorem d_Mo_name_193 : decode M_Mo_name.2.1 193 = .ok (.ireturn, 1) := by decide +kernel
theorem d_Mo_name_129 : decode M_Mo_name.2.1 129 = .ok (.aload_n 0, 1) := by decide +kernel
theorem d_Mo_name_130 : decode M_Mo_name.2.1 130 = .ok (.getfield 13, 3) := by decide +kernel
theorem d_Mo_name_133 : decode M_Mo_name.2.1 133 = .ok (.bipush 8, 2) := by decide +kernel
theorem d_Mo_name_135 : decode M_Mo_name.2.1 135 = .ok (.aload_n 0, 1) := by decide +kernel
theorem d_Mo_name_136 : decode M_Mo_name.2.1 136 = .ok (.getfield 147, 3) := by decide +kernel
theorem d_Mo_name_139 : decode M_Mo_name.2.1 139 = .ok (.imul, 1) := by decide +kernel
theorem d_Mo_name_140 : decode M_Mo_name.2.1 140 = .ok (.iload 4, 2) := by decide +kernel
theorem d_Mo_name_142 : decode M_Mo_name.2.1 142 = .ok (.iadd, 1) := by decide +kernel
theorem d_Mo_name_143 : decode M_Mo_name.2.1 143 = .ok (.aload_n 0, 1) := by decide +kernel
theorem d_Mo_name_144 : decode M_Mo_name.2.1 144 = .ok (.getfield 7, 3) := by decide +kernel
theorem d_Mo_name_147 : decode M_Mo_name.2.1 147 = .ok (.iload 4, 2) := by decide +kernel
theorem d_Mo_name_149 : decode M_Mo_name.2.1 149 = .ok (.iaload, 1) := by decide +kernel
theorem d_Mo_name_150 : decode M_Mo_name.2.1 150 = .ok (.iastore, 1) := by decide +kernel
theorem d_Mo_name_151 : decode M_Mo_name.2.1 151 = .ok (.iinc 4 1, 3) := by decide +kernel
theorem d_Mo_name_154 : decode M_Mo_name.2.1 154 = .ok (.goto (-31), 3) := by decide +kernel
theorem d_Mo_name_120 : decode M_Mo_name.2.1 120 = .ok (.iconst 0, 1) := by decide +kernel
theorem d_Mo_name_121 : decode M_Mo_name.2.1 121 = .ok (.istore 4, 2) := by decide +kernel
theorem d_Mo_name_87 : decode M_Mo_name.2.1 87 = .ok (.istore_n 3, 1) := by decide +kernel
theorem d_Mo_name_88 : decode M_Mo_name.2.1 88 = .ok (.aload_n 0, 1) := by decide +kernel
theorem d_Mo_name_89 : decode M_Mo_name.2.1 89 = .ok (.iload_n 3, 1) := by decide +kernel
theorem d_Mo_name_90 : decode M_Mo_name.2.1 90 = .ok (.ifCond .ne 7, 3) := by decide +kernel
theorem d_Mo_name_97 : decode M_Mo_name.2.1 97 = .ok (.iconst 0, 1) := by decide +kernel
theorem d_Mo_name_98 : decode M_Mo_name.2.1 98 = .ok (.aload_n 0, 1) := by decide +kernel
theorem d_Mo_name_99 : decode M_Mo_name.2.1 99 = .ok (.getfield 147, 3) := by decide +kernel
theorem d_Mo_name_102 : decode M_Mo_name.2.1 102 = .ok (.bipush 6, 2) := by decide +kernel
theorem d_Mo_name_104 : decode M_Mo_name.2.1 104 = .ok (.if_icmp .ne 7, 3) := by decide +kernel
theorem d_Mo_name_111 : decode M_Mo_name.2.1 111 = .ok (.iconst 0, 1) := by decide +kernel
theorem d_Mo_name_112 : decode M_Mo_name.2.1 112 = .ok (.invokevirtual 162, 3) := by decide +kernel
theorem xw_1365 : (Jvm.Cond.code ({ cls := "MarkerTextModel", name := "fails", desc := "(ZZ)Z" } : Jvm.MethodName) prog_13_method_3_code (3 : Nat) (Option.some Jvm.ClassFile.FieldType.boolean)) ∈ xT := xT_at 1365 (by decide +kernel) (by decide +kernel)
theorem xcb_Mo_fails : xcb M_Mo_fails 2 := ⟨xw_1365, xw_8, by decide, by decide, by decide, by decide +kernel⟩
theorem xw_1364 : (Jvm.Cond.instanceMethod ({ cls := "MarkerTextModel", name := "fails", desc := "(ZZ)Z" } : Jvm.MethodName)) ∈ xT := xT_at 1364 (by decide +kernel) (by decide +kernel)
theorem xw_1362 : (Jvm.Cond.methodLink "MarkerTextModel" (162 : Nat) ({ cls := "MarkerTextModel", name := "fails", desc := "(ZZ)Z" } : Jvm.MethodName)) ∈ xT := xT_at 1362 (by decide +kernel) (by decide +kernel)
theorem xsel_Mo_fails : Cond.selects "MarkerTextModel" y_Mo_fails y_Mo_fails ∈ xT := xT_sel (q := (y_Mo_fails, 52)) (by decide +kernel) (by decide +kernel)
theorem xcv_Mo_162_Mo : xCV "MarkerTextModel" 162 "MarkerTextModel" M_Mo_fails 2 := ⟨xcb_Mo_fails, xw_1364, Or.inl ⟨xw_1362, Or.inl xsel_Mo_fails⟩⟩
theorem d_Mo_name_115 : decode M_Mo_name.2.1 115 = .ok (.ifCond .eq 5, 3) := by decide +kernel
theorem d_Mo_name_118 : decode M_Mo_name.2.1 118 = .ok (.iconst 0, 1) := by decide +kernel
theorem d_Mo_name_119 : decode M_Mo_name.2.1 119 = .ok (.ireturn, 1) := by decide +kernel
theorem d_Mo_name_107 : decode M_Mo_name.2.1 107 = .ok (.iconst 1, 1) := by decide +kernel
theorem d_Mo_name_108 : decode M_Mo_name.2.1 108 = .ok (.goto 4, 3) := by decide +kernel
theorem d_Mo_name_93 : decode M_Mo_name.2.1 93 = .ok (.iconst 1, 1) := by decide +kernel
theorem d_Mo_name_94 : decode M_Mo_name.2.1 94 = .ok (.goto 4, 3) := by decide +kernel
theorem d_Mo_name_38 : decode M_Mo_name.2.1 38 = .ok (.iload 4, 2) := by decide +kernel
theorem d_Mo_name_40 : decode M_Mo_name.2.1 40 = .ok (.iload_n 2, 1) := by decide +kernel
theorem d_Mo_name_41 : decode M_Mo_name.2.1 41 = .ok (.if_icmp .ge 24, 3) := by decide +kernel
theorem d_Mo_name_65 : decode M_Mo_name.2.1 65 = .ok (.iload_n 3, 1) := by decide +kernel
theorem d_Mo_name_66 : decode M_Mo_name.2.1 66 = .ok (.ifCond .eq 20, 3) := by decide +kernel
theorem d_Mo_name_86 : decode M_Mo_name.2.1 86 = .ok (.iconst 0, 1) := by decide +kernel
theorem d_Mo_name_69 : decode M_Mo_name.2.1 69 = .ok (.aload_n 0, 1) := by decide +kernel
theorem d_Mo_name_70 : decode M_Mo_name.2.1 70 = .ok (.aload_n 0, 1) := by decide +kernel
theorem d_Mo_name_71 : decode M_Mo_name.2.1 71 = .ok (.iconst 0, 1) := by decide +kernel
theorem d_Mo_name_72 : decode M_Mo_name.2.1 72 = .ok (.iload_n 2, 1) := by decide +kernel
theorem d_Mo_name_73 : decode M_Mo_name.2.1 73 = .ok (.invokevirtual 154, 3) := by decide +kernel
theorem xw_1349 : (Jvm.Cond.code ({ cls := "MarkerTextModel", name := "word", desc := "(II)J" } : Jvm.MethodName) prog_13_method_9_code (6 : Nat) (Option.some Jvm.ClassFile.FieldType.long)) ∈ xT := xT_at 1349 (by decide +kernel) (by decide +kernel)
theorem xcb_Mo_word : xcb M_Mo_word 2 := ⟨xw_1349, xw_8, by decide, by decide, by decide, by decide +kernel⟩
theorem xw_1348 : (Jvm.Cond.instanceMethod ({ cls := "MarkerTextModel", name := "word", desc := "(II)J" } : Jvm.MethodName)) ∈ xT := xT_at 1348 (by decide +kernel) (by decide +kernel)
theorem xw_1346 : (Jvm.Cond.methodLink "MarkerTextModel" (154 : Nat) ({ cls := "MarkerTextModel", name := "word", desc := "(II)J" } : Jvm.MethodName)) ∈ xT := xT_at 1346 (by decide +kernel) (by decide +kernel)
theorem xsel_Mo_word : Cond.selects "MarkerTextModel" y_Mo_word y_Mo_word ∈ xT := xT_sel (q := (y_Mo_word, 52)) (by decide +kernel) (by decide +kernel)
theorem xcv_Mo_154_Mo : xCV "MarkerTextModel" 154 "MarkerTextModel" M_Mo_word 2 := ⟨xcb_Mo_word, xw_1348, Or.inl ⟨xw_1346, Or.inl xsel_Mo_word⟩⟩
theorem d_Mo_name_76 : decode M_Mo_name.2.1 76 = .ok (.invokevirtual 158, 3) := by decide +kernel
theorem xw_1355 : (Jvm.Cond.code ({ cls := "MarkerTextModel", name := "meaning", desc := "(J)I" } : Jvm.MethodName) prog_13_method_10_code (8 : Nat) (Option.some Jvm.ClassFile.FieldType.int)) ∈ xT := xT_at 1355 (by decide +kernel) (by decide +kernel)
theorem xcb_Mo_meaning : xcb M_Mo_meaning 1 := ⟨xw_1355, xw_8, by decide, by decide, by decide, by decide +kernel⟩
theorem xw_1354 : (Jvm.Cond.instanceMethod ({ cls := "MarkerTextModel", name := "meaning", desc := "(J)I" } : Jvm.MethodName)) ∈ xT := xT_at 1354 (by decide +kernel) (by decide +kernel)
theorem xw_1352 : (Jvm.Cond.methodLink "MarkerTextModel" (158 : Nat) ({ cls := "MarkerTextModel", name := "meaning", desc := "(J)I" } : Jvm.MethodName)) ∈ xT := xT_at 1352 (by decide +kernel) (by decide +kernel)
theorem xsel_Mo_meaning : Cond.selects "MarkerTextModel" y_Mo_meaning y_Mo_meaning ∈ xT := xT_sel (q := (y_Mo_meaning, 52)) (by decide +kernel) (by decide +kernel)
theorem xcv_Mo_158_Mo : xCV "MarkerTextModel" 158 "MarkerTextModel" M_Mo_meaning 1 := ⟨xcb_Mo_meaning, xw_1354, Or.inl ⟨xw_1352, Or.inl xsel_Mo_meaning⟩⟩
theorem d_Mo_name_79 : decode M_Mo_name.2.1 79 = .ok (.ifCond .ne 7, 3) := by decide +kernel
theorem d_Mo_name_82 : decode M_Mo_name.2.1 82 = .ok (.iconst 1, 1) := by decide +kernel
theorem d_Mo_name_83 : decode M_Mo_name.2.1 83 = .ok (.goto 4, 3) := by decide +kernel
theorem d_Mo_name_44 : decode M_Mo_name.2.1 44 = .ok (.iload_n 3, 1) := by decide +kernel
theorem d_Mo_name_45 : decode M_Mo_name.2.1 45 = .ok (.ifCond .eq 20, 3) := by decide +kernel
theorem d_Mo_name_48 : decode M_Mo_name.2.1 48 = .ok (.aload_n 0, 1) := by decide +kernel
theorem d_Mo_name_49 : decode M_Mo_name.2.1 49 = .ok (.getfield 7, 3) := by decide +kernel
theorem d_Mo_name_52 : decode M_Mo_name.2.1 52 = .ok (.iload 4, 2) := by decide +kernel
theorem d_Mo_name_54 : decode M_Mo_name.2.1 54 = .ok (.iaload, 1) := by decide +kernel
theorem d_Mo_name_55 : decode M_Mo_name.2.1 55 = .ok (.invokestatic 127, 3) := by decide +kernel
theorem d_Mo_name_58 : decode M_Mo_name.2.1 58 = .ok (.istore_n 3, 1) := by decide +kernel
theorem d_Mo_name_59 : decode M_Mo_name.2.1 59 = .ok (.iinc 4 1, 3) := by decide +kernel
theorem d_Mo_name_62 : decode M_Mo_name.2.1 62 = .ok (.goto (-24), 3) := by decide +kernel
theorem d_Mo_name_0 : decode M_Mo_name.2.1 0 = .ok (.aload_n 0, 1) := by decide +kernel
theorem d_Mo_name_1 : decode M_Mo_name.2.1 1 = .ok (.getfield 124, 3) := by decide +kernel
theorem d_Mo_name_4 : decode M_Mo_name.2.1 4 = .ok (.istore_n 2, 1) := by decide +kernel
theorem d_Mo_name_5 : decode M_Mo_name.2.1 5 = .ok (.aload_n 0, 1) := by decide +kernel
theorem d_Mo_name_6 : decode M_Mo_name.2.1 6 = .ok (.iconst 0, 1) := by decide +kernel
theorem d_Mo_name_7 : decode M_Mo_name.2.1 7 = .ok (.putfield 124, 3) := by decide +kernel
theorem d_Mo_name_10 : decode M_Mo_name.2.1 10 = .ok (.iload_n 2, 1) := by decide +kernel
theorem d_Mo_name_11 : decode M_Mo_name.2.1 11 = .ok (.iconst 1, 1) := by decide +kernel
theorem d_Mo_name_12 : decode M_Mo_name.2.1 12 = .ok (.bipush 8, 2) := by decide +kernel
theorem d_Mo_name_14 : decode M_Mo_name.2.1 14 = .ok (.invokestatic 150, 3) := by decide +kernel
theorem d_Mo_name_17 : decode M_Mo_name.2.1 17 = .ok (.ifCond .eq 16, 3) := by decide +kernel
theorem d_Mo_name_33 : decode M_Mo_name.2.1 33 = .ok (.iconst 0, 1) := by decide +kernel
theorem d_Mo_name_34 : decode M_Mo_name.2.1 34 = .ok (.istore_n 3, 1) := by decide +kernel
theorem d_Mo_name_35 : decode M_Mo_name.2.1 35 = .ok (.iconst 0, 1) := by decide +kernel
theorem d_Mo_name_36 : decode M_Mo_name.2.1 36 = .ok (.istore 4, 2) := by decide +kernel
theorem d_Mo_name_20 : decode M_Mo_name.2.1 20 = .ok (.iload_n 1, 1) := by decide +kernel
theorem d_Mo_name_21 : decode M_Mo_name.2.1 21 = .ok (.iconst 0, 1) := by decide +kernel
theorem d_Mo_name_22 : decode M_Mo_name.2.1 22 = .ok (.iconst 1, 1) := by decide +kernel
theorem d_Mo_name_23 : decode M_Mo_name.2.1 23 = .ok (.invokestatic 150, 3) := by decide +kernel
theorem d_Mo_name_26 : decode M_Mo_name.2.1 26 = .ok (.ifCond .eq 7, 3) := by decide +kernel
theorem d_Mo_name_29 : decode M_Mo_name.2.1 29 = .ok (.iconst 1, 1) := by decide +kernel
theorem d_Mo_name_30 : decode M_Mo_name.2.1 30 = .ok (.goto 4, 3) := by decide +kernel
abbrev y_Mo_value : MethodName := ⟨"MarkerTextModel", "value", "(I)I"⟩
abbrev M_Mo_value : XMt := (y_Mo_value, prog_13_method_16_code, 5, (some .int))
theorem d_Mo_value_139 : decode M_Mo_value.2.1 139 = .ok (.aload_n 0, 1) := by decide +kernel
theorem d_Mo_value_140 : decode M_Mo_value.2.1 140 = .ok (.getfield 25, 3) := by decide +kernel
theorem d_Mo_value_143 : decode M_Mo_value.2.1 143 = .ok (.bipush 6, 2) := by decide +kernel
theorem d_Mo_value_145 : decode M_Mo_value.2.1 145 = .ok (.iload_n 1, 1) := by decide +kernel
theorem d_Mo_value_146 : decode M_Mo_value.2.1 146 = .ok (.imul, 1) := by decide +kernel
theorem d_Mo_value_147 : decode M_Mo_value.2.1 147 = .ok (.aload_n 0, 1) := by decide +kernel
theorem d_Mo_value_148 : decode M_Mo_value.2.1 148 = .ok (.getfield 22, 3) := by decide +kernel
theorem d_Mo_value_151 : decode M_Mo_value.2.1 151 = .ok (.iload_n 1, 1) := by decide +kernel
theorem d_Mo_value_152 : decode M_Mo_value.2.1 152 = .ok (.iaload, 1) := by decide +kernel
theorem d_Mo_value_153 : decode M_Mo_value.2.1 153 = .ok (.iadd, 1) := by decide +kernel
theorem d_Mo_value_154 : decode M_Mo_value.2.1 154 = .ok (.aload_n 0, 1) := by decide +kernel
theorem d_Mo_value_155 : decode M_Mo_value.2.1 155 = .ok (.getfield 173, 3) := by decide +kernel
theorem d_Mo_value_158 : decode M_Mo_value.2.1 158 = .ok (.lastore, 1) := by decide +kernel
theorem d_Mo_value_159 : decode M_Mo_value.2.1 159 = .ok (.aload_n 0, 1) := by decide +kernel
theorem d_Mo_value_160 : decode M_Mo_value.2.1 160 = .ok (.getfield 22, 3) := by decide +kernel
theorem d_Mo_value_163 : decode M_Mo_value.2.1 163 = .ok (.iload_n 1, 1) := by decide +kernel
theorem d_Mo_value_164 : decode M_Mo_value.2.1 164 = .ok (.dup2, 1) := by decide +kernel
theorem d_Mo_value_165 : decode M_Mo_value.2.1 165 = .ok (.iaload, 1) := by decide +kernel
theorem d_Mo_value_166 : decode M_Mo_value.2.1 166 = .ok (.iconst 1, 1) := by decide +kernel
theorem d_Mo_value_167 : decode M_Mo_value.2.1 167 = .ok (.iadd, 1) := by decide +kernel
theorem d_Mo_value_168 : decode M_Mo_value.2.1 168 = .ok (.iastore, 1) := by decide +kernel
theorem d_Mo_value_169 : decode M_Mo_value.2.1 169 = .ok (.aload_n 0, 1) := by decide +kernel
theorem d_Mo_value_170 : decode M_Mo_value.2.1 170 = .ok (.getfield 22, 3) := by decide +kernel
theorem d_Mo_value_173 : decode M_Mo_value.2.1 173 = .ok (.iload_n 1, 1) := by decide +kernel
theorem d_Mo_value_174 : decode M_Mo_value.2.1 174 = .ok (.iaload, 1) := by decide +kernel
theorem d_Mo_value_175 : decode M_Mo_value.2.1 175 = .ok (.ireturn, 1) := by decide +kernel
theorem d_Mo_value_101 : decode M_Mo_value.2.1 101 = .ok (.aload_n 0, 1) := by decide +kernel
theorem d_Mo_value_102 : decode M_Mo_value.2.1 102 = .ok (.iload_n 3, 1) := by decide +kernel
theorem d_Mo_value_103 : decode M_Mo_value.2.1 103 = .ok (.ifCond .ne 7, 3) := by decide +kernel
theorem d_Mo_value_110 : decode M_Mo_value.2.1 110 = .ok (.iconst 0, 1) := by decide +kernel
theorem d_Mo_value_111 : decode M_Mo_value.2.1 111 = .ok (.iload_n 3, 1) := by decide +kernel
theorem d_Mo_value_112 : decode M_Mo_value.2.1 112 = .ok (.ifCond .eq 18, 3) := by decide +kernel
theorem d_Mo_value_130 : decode M_Mo_value.2.1 130 = .ok (.iconst 0, 1) := by decide +kernel
theorem d_Mo_value_131 : decode M_Mo_value.2.1 131 = .ok (.invokevirtual 162, 3) := by decide +kernel
theorem d_Mo_value_134 : decode M_Mo_value.2.1 134 = .ok (.ifCond .eq 5, 3) := by decide +kernel
theorem d_Mo_value_137 : decode M_Mo_value.2.1 137 = .ok (.iconst 0, 1) := by decide +kernel
theorem d_Mo_value_138 : decode M_Mo_value.2.1 138 = .ok (.ireturn, 1) := by decide +kernel
theorem d_Mo_value_115 : decode M_Mo_value.2.1 115 = .ok (.aload_n 0, 1) := by decide +kernel
theorem d_Mo_value_116 : decode M_Mo_value.2.1 116 = .ok (.getfield 22, 3) := by decide +kernel
theorem d_Mo_value_119 : decode M_Mo_value.2.1 119 = .ok (.iload_n 1, 1) := by decide +kernel
theorem d_Mo_value_120 : decode M_Mo_value.2.1 120 = .ok (.iaload, 1) := by decide +kernel
theorem d_Mo_value_121 : decode M_Mo_value.2.1 121 = .ok (.bipush 6, 2) := by decide +kernel
theorem d_Mo_value_123 : decode M_Mo_value.2.1 123 = .ok (.if_icmp .ne 7, 3) := by decide +kernel
theorem d_Mo_value_126 : decode M_Mo_value.2.1 126 = .ok (.iconst 1, 1) := by decide +kernel
theorem d_Mo_value_127 : decode M_Mo_value.2.1 127 = .ok (.goto 4, 3) := by decide +kernel
theorem d_Mo_value_106 : decode M_Mo_value.2.1 106 = .ok (.iconst 1, 1) := by decide +kernel
theorem d_Mo_value_107 : decode M_Mo_value.2.1 107 = .ok (.goto 4, 3) := by decide +kernel
theorem d_Mo_value_54 : decode M_Mo_value.2.1 54 = .ok (.iload_n 3, 1) := by decide +kernel
theorem d_Mo_value_55 : decode M_Mo_value.2.1 55 = .ok (.ifCond .eq 46, 3) := by decide +kernel
theorem d_Mo_value_58 : decode M_Mo_value.2.1 58 = .ok (.iload 4, 2) := by decide +kernel
theorem d_Mo_value_60 : decode M_Mo_value.2.1 60 = .ok (.aload_n 0, 1) := by decide +kernel
theorem d_Mo_value_61 : decode M_Mo_value.2.1 61 = .ok (.getfield 22, 3) := by decide +kernel
theorem d_Mo_value_64 : decode M_Mo_value.2.1 64 = .ok (.iload_n 1, 1) := by decide +kernel
theorem d_Mo_value_65 : decode M_Mo_value.2.1 65 = .ok (.iaload, 1) := by decide +kernel
theorem d_Mo_value_66 : decode M_Mo_value.2.1 66 = .ok (.if_icmp .ge 35, 3) := by decide +kernel
theorem d_Mo_value_69 : decode M_Mo_value.2.1 69 = .ok (.aload_n 0, 1) := by decide +kernel
theorem d_Mo_value_70 : decode M_Mo_value.2.1 70 = .ok (.getfield 25, 3) := by decide +kernel
theorem d_Mo_value_73 : decode M_Mo_value.2.1 73 = .ok (.bipush 6, 2) := by decide +kernel
theorem d_Mo_value_75 : decode M_Mo_value.2.1 75 = .ok (.iload_n 1, 1) := by decide +kernel
theorem d_Mo_value_76 : decode M_Mo_value.2.1 76 = .ok (.imul, 1) := by decide +kernel
theorem d_Mo_value_77 : decode M_Mo_value.2.1 77 = .ok (.iload 4, 2) := by decide +kernel
theorem d_Mo_value_79 : decode M_Mo_value.2.1 79 = .ok (.iadd, 1) := by decide +kernel
theorem d_Mo_value_80 : decode M_Mo_value.2.1 80 = .ok (.laload, 1) := by decide +kernel
theorem d_Mo_value_81 : decode M_Mo_value.2.1 81 = .ok (.aload_n 0, 1) := by decide +kernel
theorem d_Mo_value_82 : decode M_Mo_value.2.1 82 = .ok (.getfield 173, 3) := by decide +kernel
theorem d_Mo_value_85 : decode M_Mo_value.2.1 85 = .ok (.lcmp, 1) := by decide +kernel
theorem d_Mo_value_86 : decode M_Mo_value.2.1 86 = .ok (.ifCond .eq 7, 3) := by decide +kernel
theorem d_Mo_value_93 : decode M_Mo_value.2.1 93 = .ok (.iconst 0, 1) := by decide +kernel
theorem d_Mo_value_94 : decode M_Mo_value.2.1 94 = .ok (.istore_n 3, 1) := by decide +kernel
theorem d_Mo_value_95 : decode M_Mo_value.2.1 95 = .ok (.iinc 4 1, 3) := by decide +kernel
theorem d_Mo_value_98 : decode M_Mo_value.2.1 98 = .ok (.goto (-44), 3) := by decide +kernel
theorem d_Mo_value_89 : decode M_Mo_value.2.1 89 = .ok (.iconst 1, 1) := by decide +kernel
theorem d_Mo_value_90 : decode M_Mo_value.2.1 90 = .ok (.goto 4, 3) := by decide +kernel
theorem d_Mo_value_50 : decode M_Mo_value.2.1 50 = .ok (.istore_n 3, 1) := by decide +kernel
theorem d_Mo_value_51 : decode M_Mo_value.2.1 51 = .ok (.iconst 0, 1) := by decide +kernel
theorem d_Mo_value_52 : decode M_Mo_value.2.1 52 = .ok (.istore 4, 2) := by decide +kernel
theorem d_Mo_value_0 : decode M_Mo_value.2.1 0 = .ok (.aload_n 0, 1) := by decide +kernel
theorem d_Mo_value_1 : decode M_Mo_value.2.1 1 = .ok (.getfield 124, 3) := by decide +kernel
theorem d_Mo_value_4 : decode M_Mo_value.2.1 4 = .ok (.istore_n 2, 1) := by decide +kernel
theorem d_Mo_value_5 : decode M_Mo_value.2.1 5 = .ok (.aload_n 0, 1) := by decide +kernel
theorem d_Mo_value_6 : decode M_Mo_value.2.1 6 = .ok (.iconst 0, 1) := by decide +kernel
theorem d_Mo_value_7 : decode M_Mo_value.2.1 7 = .ok (.putfield 124, 3) := by decide +kernel
theorem d_Mo_value_10 : decode M_Mo_value.2.1 10 = .ok (.aload_n 0, 1) := by decide +kernel
theorem d_Mo_value_11 : decode M_Mo_value.2.1 11 = .ok (.iload_n 1, 1) := by decide +kernel
theorem d_Mo_value_12 : decode M_Mo_value.2.1 12 = .ok (.invokevirtual 184, 3) := by decide +kernel
theorem xw_1373 : (Jvm.Cond.code ({ cls := "MarkerTextModel", name := "isName", desc := "(I)Z" } : Jvm.MethodName) prog_13_method_15_code (2 : Nat) (Option.some Jvm.ClassFile.FieldType.boolean)) ∈ xT := xT_at 1373 (by decide +kernel) (by decide +kernel)
theorem xcb_Mo_isName : xcb M_Mo_isName 1 := ⟨xw_1373, xw_8, by decide, by decide, by decide, by decide +kernel⟩
theorem xw_1372 : (Jvm.Cond.instanceMethod ({ cls := "MarkerTextModel", name := "isName", desc := "(I)Z" } : Jvm.MethodName)) ∈ xT := xT_at 1372 (by decide +kernel) (by decide +kernel)
theorem xw_1370 : (Jvm.Cond.methodLink "MarkerTextModel" (184 : Nat) ({ cls := "MarkerTextModel", name := "isName", desc := "(I)Z" } : Jvm.MethodName)) ∈ xT := xT_at 1370 (by decide +kernel) (by decide +kernel)
theorem xsel_Mo_isName : Cond.selects "MarkerTextModel" y_Mo_isName y_Mo_isName ∈ xT := xT_sel (q := (y_Mo_isName, 52)) (by decide +kernel) (by decide +kernel)
theorem xcv_Mo_184_Mo : xCV "MarkerTextModel" 184 "MarkerTextModel" M_Mo_isName 1 := ⟨xcb_Mo_isName, xw_1372, Or.inl ⟨xw_1370, Or.inl xsel_Mo_isName⟩⟩
theorem d_Mo_value_15 : decode M_Mo_value.2.1 15 = .ok (.ifCond .eq 34, 3) := by decide +kernel
theorem d_Mo_value_49 : decode M_Mo_value.2.1 49 = .ok (.iconst 0, 1) := by decide +kernel
theorem d_Mo_value_18 : decode M_Mo_value.2.1 18 = .ok (.aload_n 0, 1) := by decide +kernel
theorem d_Mo_value_19 : decode M_Mo_value.2.1 19 = .ok (.iconst 0, 1) := by decide +kernel
theorem d_Mo_value_20 : decode M_Mo_value.2.1 20 = .ok (.iload_n 2, 1) := by decide +kernel
theorem d_Mo_value_21 : decode M_Mo_value.2.1 21 = .ok (.aload_n 0, 1) := by decide +kernel
theorem d_Mo_value_22 : decode M_Mo_value.2.1 22 = .ok (.getfield 19, 3) := by decide +kernel
theorem d_Mo_value_25 : decode M_Mo_value.2.1 25 = .ok (.aload_n 0, 1) := by decide +kernel
theorem d_Mo_value_26 : decode M_Mo_value.2.1 26 = .ok (.iload_n 1, 1) := by decide +kernel
theorem d_Mo_value_27 : decode M_Mo_value.2.1 27 = .ok (.invokevirtual 184, 3) := by decide +kernel
theorem d_Mo_value_30 : decode M_Mo_value.2.1 30 = .ok (.ifCond .eq 7, 3) := by decide +kernel
theorem d_Mo_value_33 : decode M_Mo_value.2.1 33 = .ok (.iload_n 1, 1) := by decide +kernel
theorem d_Mo_value_34 : decode M_Mo_value.2.1 34 = .ok (.goto 4, 3) := by decide +kernel
theorem d_Mo_value_38 : decode M_Mo_value.2.1 38 = .ok (.iaload, 1) := by decide +kernel
theorem d_Mo_value_39 : decode M_Mo_value.2.1 39 = .ok (.invokevirtual 187, 3) := by decide +kernel
theorem xw_1377 : (Jvm.Cond.code ({ cls := "MarkerTextModel", name := "isValue", desc := "(III)Z" } : Jvm.MethodName) prog_13_method_12_code (4 : Nat) (Option.some Jvm.ClassFile.FieldType.boolean)) ∈ xT := xT_at 1377 (by decide +kernel) (by decide +kernel)
theorem xcb_Mo_isValue : xcb M_Mo_isValue 3 := ⟨xw_1377, xw_8, by decide, by decide, by decide, by decide +kernel⟩
theorem xw_1376 : (Jvm.Cond.instanceMethod ({ cls := "MarkerTextModel", name := "isValue", desc := "(III)Z" } : Jvm.MethodName)) ∈ xT := xT_at 1376 (by decide +kernel) (by decide +kernel)
theorem xw_1374 : (Jvm.Cond.methodLink "MarkerTextModel" (187 : Nat) ({ cls := "MarkerTextModel", name := "isValue", desc := "(III)Z" } : Jvm.MethodName)) ∈ xT := xT_at 1374 (by decide +kernel) (by decide +kernel)
theorem xsel_Mo_isValue : Cond.selects "MarkerTextModel" y_Mo_isValue y_Mo_isValue ∈ xT := xT_sel (q := (y_Mo_isValue, 52)) (by decide +kernel) (by decide +kernel)
theorem xcv_Mo_187_Mo : xCV "MarkerTextModel" 187 "MarkerTextModel" M_Mo_isValue 3 := ⟨xcb_Mo_isValue, xw_1376, Or.inl ⟨xw_1374, Or.inl xsel_Mo_isValue⟩⟩
theorem d_Mo_value_42 : decode M_Mo_value.2.1 42 = .ok (.ifCond .eq 7, 3) := by decide +kernel
theorem d_Mo_value_45 : decode M_Mo_value.2.1 45 = .ok (.iconst 1, 1) := by decide +kernel
theorem d_Mo_value_46 : decode M_Mo_value.2.1 46 = .ok (.goto 4, 3) := by decide +kernel
abbrev y_Mo_give : MethodName := ⟨"MarkerTextModel", "give", "(I)V"⟩
abbrev M_Mo_give : XMt := (y_Mo_give, prog_13_method_17_code, 4, none)
theorem d_Mo_give_54 : decode M_Mo_give.2.1 54 = .ok (.istore_n 3, 1) := by decide +kernel
theorem d_Mo_give_55 : decode M_Mo_give.2.1 55 = .ok (.aload_n 0, 1) := by decide +kernel
theorem d_Mo_give_56 : decode M_Mo_give.2.1 56 = .ok (.iload_n 3, 1) := by decide +kernel
theorem d_Mo_give_57 : decode M_Mo_give.2.1 57 = .ok (.ifCond .ne 7, 3) := by decide +kernel
theorem d_Mo_give_64 : decode M_Mo_give.2.1 64 = .ok (.iconst 0, 1) := by decide +kernel
theorem d_Mo_give_65 : decode M_Mo_give.2.1 65 = .ok (.iconst 0, 1) := by decide +kernel
theorem d_Mo_give_66 : decode M_Mo_give.2.1 66 = .ok (.invokevirtual 162, 3) := by decide +kernel
theorem d_Mo_give_69 : decode M_Mo_give.2.1 69 = .ok (.ifCond .ne 36, 3) := by decide +kernel
theorem d_Mo_give_105 : decode M_Mo_give.2.1 105 = .ok (.return_, 1) := by decide +kernel
theorem d_Mo_give_72 : decode M_Mo_give.2.1 72 = .ok (.aload_n 0, 1) := by decide +kernel
theorem d_Mo_give_73 : decode M_Mo_give.2.1 73 = .ok (.getfield 29, 3) := by decide +kernel
theorem d_Mo_give_76 : decode M_Mo_give.2.1 76 = .ok (.iload_n 1, 1) := by decide +kernel
theorem d_Mo_give_77 : decode M_Mo_give.2.1 77 = .ok (.iload_n 2, 1) := by decide +kernel
theorem d_Mo_give_78 : decode M_Mo_give.2.1 78 = .ok (.ifCond .le 7, 3) := by decide +kernel
theorem d_Mo_give_85 : decode M_Mo_give.2.1 85 = .ok (.iconst 0, 1) := by decide +kernel
theorem d_Mo_give_86 : decode M_Mo_give.2.1 86 = .ok (.bastore, 1) := by decide +kernel
theorem d_Mo_give_87 : decode M_Mo_give.2.1 87 = .ok (.aload_n 0, 1) := by decide +kernel
theorem d_Mo_give_88 : decode M_Mo_give.2.1 88 = .ok (.getfield 33, 3) := by decide +kernel
theorem d_Mo_give_91 : decode M_Mo_give.2.1 91 = .ok (.iload_n 1, 1) := by decide +kernel
theorem d_Mo_give_92 : decode M_Mo_give.2.1 92 = .ok (.iload_n 2, 1) := by decide +kernel
theorem d_Mo_give_93 : decode M_Mo_give.2.1 93 = .ok (.ifCond .le 10, 3) := by decide +kernel
theorem d_Mo_give_103 : decode M_Mo_give.2.1 103 = .ok (.lconst 0, 1) := by decide +kernel
theorem d_Mo_give_104 : decode M_Mo_give.2.1 104 = .ok (.lastore, 1) := by decide +kernel
theorem d_Mo_give_96 : decode M_Mo_give.2.1 96 = .ok (.aload_n 0, 1) := by decide +kernel
theorem d_Mo_give_97 : decode M_Mo_give.2.1 97 = .ok (.getfield 173, 3) := by decide +kernel
theorem d_Mo_give_100 : decode M_Mo_give.2.1 100 = .ok (.goto 4, 3) := by decide +kernel
theorem d_Mo_give_81 : decode M_Mo_give.2.1 81 = .ok (.iconst 1, 1) := by decide +kernel
theorem d_Mo_give_82 : decode M_Mo_give.2.1 82 = .ok (.goto 4, 3) := by decide +kernel
theorem d_Mo_give_60 : decode M_Mo_give.2.1 60 = .ok (.iconst 1, 1) := by decide +kernel
theorem d_Mo_give_61 : decode M_Mo_give.2.1 61 = .ok (.goto 4, 3) := by decide +kernel
theorem d_Mo_give_0 : decode M_Mo_give.2.1 0 = .ok (.aload_n 0, 1) := by decide +kernel
theorem d_Mo_give_1 : decode M_Mo_give.2.1 1 = .ok (.getfield 124, 3) := by decide +kernel
theorem d_Mo_give_4 : decode M_Mo_give.2.1 4 = .ok (.istore_n 2, 1) := by decide +kernel
theorem d_Mo_give_5 : decode M_Mo_give.2.1 5 = .ok (.aload_n 0, 1) := by decide +kernel
theorem d_Mo_give_6 : decode M_Mo_give.2.1 6 = .ok (.iconst 0, 1) := by decide +kernel
theorem d_Mo_give_7 : decode M_Mo_give.2.1 7 = .ok (.putfield 124, 3) := by decide +kernel
theorem d_Mo_give_10 : decode M_Mo_give.2.1 10 = .ok (.aload_n 0, 1) := by decide +kernel
theorem d_Mo_give_11 : decode M_Mo_give.2.1 11 = .ok (.iload_n 1, 1) := by decide +kernel
theorem d_Mo_give_12 : decode M_Mo_give.2.1 12 = .ok (.invokevirtual 184, 3) := by decide +kernel
theorem d_Mo_give_15 : decode M_Mo_give.2.1 15 = .ok (.ifCond .eq 38, 3) := by decide +kernel
theorem d_Mo_give_53 : decode M_Mo_give.2.1 53 = .ok (.iconst 0, 1) := by decide +kernel
theorem d_Mo_give_18 : decode M_Mo_give.2.1 18 = .ok (.iload_n 2, 1) := by decide +kernel
theorem d_Mo_give_19 : decode M_Mo_give.2.1 19 = .ok (.ifCond .eq 30, 3) := by decide +kernel
theorem d_Mo_give_49 : decode M_Mo_give.2.1 49 = .ok (.iconst 1, 1) := by decide +kernel
theorem d_Mo_give_50 : decode M_Mo_give.2.1 50 = .ok (.goto 4, 3) := by decide +kernel
theorem d_Mo_give_22 : decode M_Mo_give.2.1 22 = .ok (.aload_n 0, 1) := by decide +kernel
theorem d_Mo_give_23 : decode M_Mo_give.2.1 23 = .ok (.iconst 0, 1) := by decide +kernel
theorem d_Mo_give_24 : decode M_Mo_give.2.1 24 = .ok (.iload_n 2, 1) := by decide +kernel
theorem d_Mo_give_25 : decode M_Mo_give.2.1 25 = .ok (.aload_n 0, 1) := by decide +kernel
theorem d_Mo_give_26 : decode M_Mo_give.2.1 26 = .ok (.getfield 19, 3) := by decide +kernel
theorem d_Mo_give_29 : decode M_Mo_give.2.1 29 = .ok (.aload_n 0, 1) := by decide +kernel
theorem d_Mo_give_30 : decode M_Mo_give.2.1 30 = .ok (.iload_n 1, 1) := by decide +kernel
theorem d_Mo_give_31 : decode M_Mo_give.2.1 31 = .ok (.invokevirtual 184, 3) := by decide +kernel
theorem d_Mo_give_34 : decode M_Mo_give.2.1 34 = .ok (.ifCond .eq 7, 3) := by decide +kernel
theorem d_Mo_give_37 : decode M_Mo_give.2.1 37 = .ok (.iload_n 1, 1) := by decide +kernel
theorem d_Mo_give_38 : decode M_Mo_give.2.1 38 = .ok (.goto 4, 3) := by decide +kernel
theorem d_Mo_give_42 : decode M_Mo_give.2.1 42 = .ok (.iaload, 1) := by decide +kernel
theorem d_Mo_give_43 : decode M_Mo_give.2.1 43 = .ok (.invokevirtual 187, 3) := by decide +kernel
theorem d_Mo_give_46 : decode M_Mo_give.2.1 46 = .ok (.ifCond .eq 7, 3) := by decide +kernel
end
section RF4
variable {l : Launch} {G : XG} {h : XH} {c n d : Nat} {o : Nat} {rf : Nat → Nat} {S : MS}
theorem gd_se_of {us : List Int} {e f z : Int} {N : Nat} (hl : us.length = N) (he : 0 ≤ e) (h1 : e < N) (hf : 0 ≤ f) : gd (se us e z) f = if f = e then z else gd us f := gd_se he (by omega) hf
theorem se_b {us : List Int} {e z a b : Int} {N : Nat} (hl : us.length = N) (he : 0 ≤ e) (h1 : e < N) (hu : ∀ i : Int, 0 ≤ i → i < N → a ≤ gd us i ∧ gd us i ≤ b) (hz : a ≤ z ∧ z ≤ b) : ∀ i : Int, 0 ≤ i → i < N → a ≤ gd (se us e z) i ∧ gd (se us e z) i ≤ b := by
  intro i h0 hi
  rw [gd_se_of hl he h1 h0]
  split
  · exact hz
  · exact hu i h0 hi
/-- how name() ends -/
abbrev nmQ (S : MS) : Option Value → MS → Prop := fun w S' => (∃ r : Int, w = some (.int (zI r))) ∧ S'.1 2 = 0 ∧ nmOk S' ∧ rSm S S' [0, 2, 3] [4, 5, 6] []
theorem r_name {k : Int} (hd : 2 ≤ d) (hk : inR k) (hz : szOk S) (hn : nmOk S) : RM l G d M_Mo_name [.ref o, .int (zI k)] o rf S (nmQ S) := by
  obtain ⟨d, rfl⟩ : ∃ q, d = q + 1 := ⟨d - 1, by omega⟩
  intro H0 c n hR
  obtain ⟨z1, z2⟩ := hz
  obtain ⟨n1, n2, n3, n4⟩ := id hn
  have hn0 : nmOk (sp S 2 0) := hn
  have le5 := hR.len 5 (by decide)
  refine XM.of (by decide +kernel) (Nat.le_of_ble_eq_true rfl) ?_
  have j120 : ∀ (m g t : Int), 1 ≤ m → m ≤ 8 → S.1 3 < 6 → RX l G M_Mo_name (d + 1) 120 [some (.ref o), some (.int (zI k)), some (.int (zI m)), some (.int (zI g)), some (.int (zI t))] [] H0 o rf c n (sp (sp S 2 0) 0 0) (nmQ S) := by
    intro m g t hm1 hm8 hn6
    have l2 : ∀ (q : Nat) (us : List Int) (i : Int), 0 ≤ i → i ≤ m → m - i ≤ q → RX l G M_Mo_name (d + 1) 123 [some (.ref o), some (.int (zI k)), some (.int (zI m)), some (.int (zI g)), some (.int (zI i))] [] H0 o rf c n (sa (sp (sp S 2 0) 0 0) 4 us) (nmQ S) := by
      intro q
      induction q with
      | zero =>
        intro us i hi1 hi2 hq h hR hX
        refine x_iload d_Mo_name_123 rfl ?_
        refine x_iload_n d_Mo_name_125 rfl ?_
        refine z_icmp_ge (tgt := 157) d_Mo_name_126 (by decide) (by omega) (by omega) (fun _ => ?_) (fun hq => by omega)
        refine x_aload_n d_Mo_name_157 rfl rfl ?_
        refine x_get xf_Mo_16_Mo (Or.inl hR.1) (v := .ref (rf 5)) rfl d_Mo_name_158 ?_
        refine x_aload_n d_Mo_name_161 rfl rfl ?_
        refine x_get xf_Mo_147_Mo (Or.inl hR.1) (v := .int (zI (S.1 3))) rfl d_Mo_name_162 ?_
        have hb162 : inR (S.1 3) := hR.2.2.2 3
        refine x_iload_n d_Mo_name_165 rfl ?_
        refine r_iast (i := 5) (us := (S.2.1 5)) ⟨rfl, rfl⟩ (by decide) hR hX rfl (by omega) (by show S.1 3 < 6; omega) (by omega) d_Mo_name_166 ?_
        intro h hR hX
        refine x_aload_n d_Mo_name_167 rfl rfl ?_
        refine x_get xf_Mo_19_Mo (Or.inl hR.1) (v := .ref (rf 6)) rfl d_Mo_name_168 ?_
        refine x_aload_n d_Mo_name_171 rfl rfl ?_
        refine x_get xf_Mo_147_Mo (Or.inl hR.1) (v := .int (zI (S.1 3))) rfl d_Mo_name_172 ?_
        have hb172 : inR (S.1 3) := hR.2.2.2 3
        refine x_iload_n d_Mo_name_175 rfl ?_
        refine r_iast (i := 6) (us := (S.2.1 6)) ⟨rfl, rfl⟩ (by decide) hR hX rfl (by omega) (by show S.1 3 < 6; omega) (by omega) d_Mo_name_176 ?_
        intro h hR hX
        refine x_aload_n d_Mo_name_177 rfl rfl ?_
        refine x_dup d_Mo_name_178 rfl ?_
        refine x_get xf_Mo_147_Mo (Or.inl hR.1) (v := .int (zI (S.1 3))) rfl d_Mo_name_179 ?_
        have hb179 : inR (S.1 3) := hR.2.2.2 3
        refine x_iconst (v := zI 1) d_Mo_name_182 (by decide) ?_
        refine z_iadd d_Mo_name_183 ?_
        refine r_put xf_Mo_147_Mo xp_Mo_3 hR hX (by omega) rfl rfl d_Mo_name_184 ?_
        intro h hR hX
        refine x_aload_n d_Mo_name_187 rfl rfl ?_
        refine x_get xf_Mo_147_Mo (Or.inl hR.1) (v := .int (zI ((S.1 3) + 1))) rfl d_Mo_name_188 ?_
        have hb188 : inR ((S.1 3) + 1) := hR.2.2.2 3
        refine x_iconst (v := zI 1) d_Mo_name_191 (by decide) ?_
        refine z_isub d_Mo_name_192 ?_
        refine x_iret d_Mo_name_193 rfl ?_
        exact ⟨_, hR, hX, rfl, rfl, ⟨_, rfl⟩, rfl, ⟨by show 0 ≤ S.1 3 + 1; omega, by show S.1 3 + 1 ≤ 6; omega, se_b (N := 6) le5 (by omega) (by omega) n3 (by omega), n4⟩, (((((rSm.r0.sp (by decide)).sp (by decide)).sa (by decide)).sa (by decide)).sa (by decide)).sp (by decide)⟩
      | succ q ih =>
        intro us i hi1 hi2 hq h hR hX
        refine x_iload d_Mo_name_123 rfl ?_
        refine x_iload_n d_Mo_name_125 rfl ?_
        refine z_icmp_ge (tgt := 157) d_Mo_name_126 (by decide) (by omega) (by omega) (fun hc126 => ?_) (fun hc126 => ?_)
        · refine x_aload_n d_Mo_name_157 rfl rfl ?_
          refine x_get xf_Mo_16_Mo (Or.inl hR.1) (v := .ref (rf 5)) rfl d_Mo_name_158 ?_
          refine x_aload_n d_Mo_name_161 rfl rfl ?_
          refine x_get xf_Mo_147_Mo (Or.inl hR.1) (v := .int (zI (S.1 3))) rfl d_Mo_name_162 ?_
          have hb162 : inR (S.1 3) := hR.2.2.2 3
          refine x_iload_n d_Mo_name_165 rfl ?_
          refine r_iast (i := 5) (us := (S.2.1 5)) ⟨rfl, rfl⟩ (by decide) hR hX rfl (by omega) (by show S.1 3 < 6; omega) (by omega) d_Mo_name_166 ?_
          intro h hR hX
          refine x_aload_n d_Mo_name_167 rfl rfl ?_
          refine x_get xf_Mo_19_Mo (Or.inl hR.1) (v := .ref (rf 6)) rfl d_Mo_name_168 ?_
          refine x_aload_n d_Mo_name_171 rfl rfl ?_
          refine x_get xf_Mo_147_Mo (Or.inl hR.1) (v := .int (zI (S.1 3))) rfl d_Mo_name_172 ?_
          have hb172 : inR (S.1 3) := hR.2.2.2 3
          refine x_iload_n d_Mo_name_175 rfl ?_
          refine r_iast (i := 6) (us := (S.2.1 6)) ⟨rfl, rfl⟩ (by decide) hR hX rfl (by omega) (by show S.1 3 < 6; omega) (by omega) d_Mo_name_176 ?_
          intro h hR hX
          refine x_aload_n d_Mo_name_177 rfl rfl ?_
          refine x_dup d_Mo_name_178 rfl ?_
          refine x_get xf_Mo_147_Mo (Or.inl hR.1) (v := .int (zI (S.1 3))) rfl d_Mo_name_179 ?_
          have hb179 : inR (S.1 3) := hR.2.2.2 3
          refine x_iconst (v := zI 1) d_Mo_name_182 (by decide) ?_
          refine z_iadd d_Mo_name_183 ?_
          refine r_put xf_Mo_147_Mo xp_Mo_3 hR hX (by omega) rfl rfl d_Mo_name_184 ?_
          intro h hR hX
          refine x_aload_n d_Mo_name_187 rfl rfl ?_
          refine x_get xf_Mo_147_Mo (Or.inl hR.1) (v := .int (zI ((S.1 3) + 1))) rfl d_Mo_name_188 ?_
          have hb188 : inR ((S.1 3) + 1) := hR.2.2.2 3
          refine x_iconst (v := zI 1) d_Mo_name_191 (by decide) ?_
          refine z_isub d_Mo_name_192 ?_
          refine x_iret d_Mo_name_193 rfl ?_
          exact ⟨_, hR, hX, rfl, rfl, ⟨_, rfl⟩, rfl, ⟨by show 0 ≤ S.1 3 + 1; omega, by show S.1 3 + 1 ≤ 6; omega, se_b (N := 6) le5 (by omega) (by omega) n3 (by omega), n4⟩, (((((rSm.r0.sp (by decide)).sp (by decide)).sa (by decide)).sa (by decide)).sa (by decide)).sp (by decide)⟩
        · refine x_aload_n d_Mo_name_129 rfl rfl ?_
          refine x_get xf_Mo_13_Mo (Or.inl hR.1) (v := .ref (rf 4)) rfl d_Mo_name_130 ?_
          refine x_bipush (v := zI 8) d_Mo_name_133 (by decide) ?_
          refine x_aload_n d_Mo_name_135 rfl rfl ?_
          refine x_get xf_Mo_147_Mo (Or.inl hR.1) (v := .int (zI (S.1 3))) rfl d_Mo_name_136 ?_
          have hb136 : inR (S.1 3) := hR.2.2.2 3
          refine z_imul d_Mo_name_139 ?_
          refine x_iload d_Mo_name_140 rfl ?_
          refine z_iadd d_Mo_name_142 ?_
          refine x_aload_n d_Mo_name_143 rfl rfl ?_
          refine x_get xf_Mo_7_Mo (Or.inl hR.1) (v := .ref (rf 1)) rfl d_Mo_name_144 ?_
          refine x_iload d_Mo_name_147 rfl ?_
          refine r_iald (i := 1) (us := (S.2.1 1)) rfl (by decide) hR rfl (by omega) (by show i < 160; omega) d_Mo_name_149 (fun hr149 => ?_)
          refine r_iast (i := 4) (us := us) ⟨rfl, rfl⟩ (by decide) hR hX rfl (by omega) (by show 8 * S.1 3 + i < 48; omega) (by omega) d_Mo_name_150 ?_
          intro h hR hX
          refine x_iinc (v := zI (i + 1)) (L' := [_, _, _, _, _]) d_Mo_name_151 rfl (zI_add _ _) rfl rfl ?_
          refine x_goto (tgt := 123) d_Mo_name_154 (by decide) ?_
          exact ih _ (i + 1) (by omega) (by omega) (by omega) _ (by rw [sa_sa] at hR; exact hR) hX
    intro h hR hX
    refine x_iconst (v := zI 0) d_Mo_name_120 (by decide) ?_
    refine x_istore (L' := [_, _, _, _, _]) d_Mo_name_121 rfl rfl ?_
    exact l2 8 _ 0 (by omega) (by omega) (by omega) _ (by rw [sa_id]; exact hR) hX
  have j87 : ∀ (m g g' t : Int), (g' = 0 ∨ g' = 1) → (g' = 1 → 1 ≤ m ∧ m ≤ 8) → RX l G M_Mo_name (d + 1) 87 [some (.ref o), some (.int (zI k)), some (.int (zI m)), some (.int (zI g)), some (.int (zI t))] [.int (zI g')] H0 o rf c n (sp S 2 0) (nmQ S) := by
    intro m g g' t hg' hm h hR hX
    refine x_istore_n (L' := [_, _, _, _, _]) d_Mo_name_87 rfl rfl ?_
    refine x_aload_n d_Mo_name_88 rfl rfl ?_
    refine x_iload_n d_Mo_name_89 rfl ?_
    refine z_if_ne (tgt := 97) d_Mo_name_90 (by decide) (by omega) (fun hc90 => ?_) (fun hc90 => ?_)
    · refine x_iconst (v := zI 0) d_Mo_name_97 (by decide) ?_
      refine x_aload_n d_Mo_name_98 rfl rfl ?_
      refine x_get xf_Mo_147_Mo (Or.inl hR.1) (v := .int (zI (S.1 3))) rfl d_Mo_name_99 ?_
      have hb99 : inR (S.1 3) := hR.2.2.2 3
      refine x_bipush (v := zI 6) d_Mo_name_102 (by decide) ?_
      refine z_icmp_ne (tgt := 111) d_Mo_name_104 (by decide) (by omega) (by omega) (fun hc104 => ?_) (fun hc104 => ?_)
      · refine x_iconst (v := zI 0) d_Mo_name_111 (by decide) ?_
        refine x_callV (As := [_, _]) (k := k_MarkerTextModel) rfl xcv_Mo_162_Mo (Or.inl hR.1) (RM.ap hR (r_fails (by decide) (by decide))) rfl rfl (Nat.le_of_ble_eq_true rfl) d_Mo_name_112 ?_
        rintro v112 h cq nq ⟨S112, hR, hX112, rfl, rfl, t112, r112, rfl, rfl, hr112⟩
        replace hX := hX.tr hX112
        refine z_if_eq (tgt := 120) d_Mo_name_115 (by decide) (by omega) (fun hc115 => ?_) (fun hc115 => ?_)
        · obtain rfl : t112 = 0 := by omega
          exact j120 _ _ _ (by omega) (by omega) (by omega) _ hR hX
        · refine x_iconst (v := zI 0) d_Mo_name_118 (by decide) ?_
          refine x_iret d_Mo_name_119 rfl ?_
          exact ⟨_, hR, hX, rfl, rfl, ⟨_, rfl⟩, rfl, hn, (rSm.r0.sp (by decide)).sp (by decide)⟩
      · refine x_iconst (v := zI 1) d_Mo_name_107 (by decide) ?_
        refine x_goto (tgt := 112) d_Mo_name_108 (by decide) ?_
        refine x_callV (As := [_, _]) (k := k_MarkerTextModel) rfl xcv_Mo_162_Mo (Or.inl hR.1) (RM.ap hR (r_fails (by decide) (by decide))) rfl rfl (Nat.le_of_ble_eq_true rfl) d_Mo_name_112 ?_
        rintro v112 h cq nq ⟨S112, hR, hX112, rfl, rfl, t112, r112, rfl, rfl, hr112⟩
        replace hX := hX.tr hX112
        refine z_if_eq (tgt := 120) d_Mo_name_115 (by decide) (by omega) (fun hc115 => ?_) (fun hc115 => ?_)
        · obtain rfl : t112 = 0 := by omega
          exact j120 _ _ _ (by omega) (by omega) (by omega) _ hR hX
        · refine x_iconst (v := zI 0) d_Mo_name_118 (by decide) ?_
          refine x_iret d_Mo_name_119 rfl ?_
          exact ⟨_, hR, hX, rfl, rfl, ⟨_, rfl⟩, rfl, hn, (rSm.r0.sp (by decide)).sp (by decide)⟩
    · refine x_iconst (v := zI 1) d_Mo_name_93 (by decide) ?_
      refine x_goto (tgt := 98) d_Mo_name_94 (by decide) ?_
      refine x_aload_n d_Mo_name_98 rfl rfl ?_
      refine x_get xf_Mo_147_Mo (Or.inl hR.1) (v := .int (zI (S.1 3))) rfl d_Mo_name_99 ?_
      have hb99 : inR (S.1 3) := hR.2.2.2 3
      refine x_bipush (v := zI 6) d_Mo_name_102 (by decide) ?_
      refine z_icmp_ne (tgt := 111) d_Mo_name_104 (by decide) (by omega) (by omega) (fun hc104 => ?_) (fun hc104 => ?_)
      · refine x_iconst (v := zI 0) d_Mo_name_111 (by decide) ?_
        refine x_callV (As := [_, _]) (k := k_MarkerTextModel) rfl xcv_Mo_162_Mo (Or.inl hR.1) (RM.ap hR (r_fails (by decide) (by decide))) rfl rfl (Nat.le_of_ble_eq_true rfl) d_Mo_name_112 ?_
        rintro v112 h cq nq ⟨S112, hR, hX112, rfl, rfl, t112, r112, rfl, rfl, hr112⟩
        replace hX := hX.tr hX112
        refine z_if_eq (tgt := 120) d_Mo_name_115 (by decide) (by omega) (fun hc115 => ?_) (fun hc115 => ?_)
        · obtain rfl : t112 = 0 := by omega
          exact j120 _ _ _ (by omega) (by omega) (by omega) _ hR hX
        · refine x_iconst (v := zI 0) d_Mo_name_118 (by decide) ?_
          refine x_iret d_Mo_name_119 rfl ?_
          exact ⟨_, hR, hX, rfl, rfl, ⟨_, rfl⟩, rfl, hn, (rSm.r0.sp (by decide)).sp (by decide)⟩
      · refine x_iconst (v := zI 1) d_Mo_name_107 (by decide) ?_
        refine x_goto (tgt := 112) d_Mo_name_108 (by decide) ?_
        refine x_callV (As := [_, _]) (k := k_MarkerTextModel) rfl xcv_Mo_162_Mo (Or.inl hR.1) (RM.ap hR (r_fails (by decide) (by decide))) rfl rfl (Nat.le_of_ble_eq_true rfl) d_Mo_name_112 ?_
        rintro v112 h cq nq ⟨S112, hR, hX112, rfl, rfl, t112, r112, rfl, rfl, hr112⟩
        replace hX := hX.tr hX112
        refine z_if_eq (tgt := 120) d_Mo_name_115 (by decide) (by omega) (fun hc115 => ?_) (fun hc115 => ?_)
        · obtain rfl : t112 = 0 := by omega
          exact j120 _ _ _ (by omega) (by omega) (by omega) _ hR hX
        · refine x_iconst (v := zI 0) d_Mo_name_118 (by decide) ?_
          refine x_iret d_Mo_name_119 rfl ?_
          exact ⟨_, hR, hX, rfl, rfl, ⟨_, rfl⟩, rfl, hn, (rSm.r0.sp (by decide)).sp (by decide)⟩
  have l1 : ∀ (q : Nat) (g i : Int), (g = 0 ∨ g = 1) → (g = 1 → 1 ≤ S.1 2 ∧ S.1 2 ≤ 8) → 0 ≤ i → i ≤ S.1 2 → S.1 2 - i ≤ q → RX l G M_Mo_name (d + 1) 38 [some (.ref o), some (.int (zI k)), some (.int (zI (S.1 2))), some (.int (zI g)), some (.int (zI i))] [] H0 o rf c n (sp S 2 0) (nmQ S) := by
    intro q
    induction q with
    | zero =>
      intro g i hg hm hi1 hi2 hq h hR hX
      refine x_iload d_Mo_name_38 rfl ?_
      refine x_iload_n d_Mo_name_40 rfl ?_
      refine z_icmp_ge (tgt := 65) d_Mo_name_41 (by decide) (by omega) (by omega) (fun _ => ?_) (fun hq => by omega)
      refine x_iload_n d_Mo_name_65 rfl ?_
      refine z_if_eq (tgt := 86) d_Mo_name_66 (by decide) (by omega) (fun hc66 => ?_) (fun hc66 => ?_)
      · refine x_iconst (v := zI 0) d_Mo_name_86 (by decide) ?_
        exact j87 _ _ _ _ (by omega) (by omega) _ hR hX
      · refine x_aload_n d_Mo_name_69 rfl rfl ?_
        refine x_aload_n d_Mo_name_70 rfl rfl ?_
        refine x_iconst (v := zI 0) d_Mo_name_71 (by decide) ?_
        refine x_iload_n d_Mo_name_72 rfl ?_
        refine x_callV (As := [_, _]) (k := k_MarkerTextModel) rfl xcv_Mo_154_Mo (Or.inl hR.1) (RM.ap hR (r_word (by decide) (by decide) (by omega) (by omega) (by omega))) rfl rfl (Nat.le_of_ble_eq_true rfl) d_Mo_name_73 ?_
        rintro v73 h cq nq ⟨S73, hR, hX73, rfl, rfl, hE73, r73, rfl⟩
        replace hE73 := Eq.symm hE73
        subst hE73
        replace hX := hX.tr hX73
        refine x_callV (As := [_]) (k := k_MarkerTextModel) rfl xcv_Mo_158_Mo (Or.inl hR.1) (RM.ap hR (r_meaning hn0)) rfl rfl (Nat.le_of_ble_eq_true rfl) d_Mo_name_76 ?_
        rintro v76 h cq nq ⟨S76, hR, hX76, rfl, rfl, hE76, r76, rfl, hr76, hk76⟩
        replace hE76 := Eq.symm hE76
        subst hE76
        replace hX := hX.tr hX76
        replace hr76 : (0 ≤ r76 ∧ r76 ≤ 7 ∧ r76 ≠ 4) ∨ (-100 ≤ r76 ∧ r76 < S.1 3 - 100) := hr76
        refine z_if_ne (tgt := 86) d_Mo_name_79 (by decide) (by omega) (fun hc79 => ?_) (fun hc79 => ?_)
        · refine x_iconst (v := zI 0) d_Mo_name_86 (by decide) ?_
          exact j87 _ _ _ _ (by omega) (by omega) _ hR hX
        · refine x_iconst (v := zI 1) d_Mo_name_82 (by decide) ?_
          refine x_goto (tgt := 87) d_Mo_name_83 (by decide) ?_
          exact j87 _ _ _ _ (by omega) (by omega) _ hR hX
    | succ q ih =>
      intro g i hg hm hi1 hi2 hq h hR hX
      refine x_iload d_Mo_name_38 rfl ?_
      refine x_iload_n d_Mo_name_40 rfl ?_
      refine z_icmp_ge (tgt := 65) d_Mo_name_41 (by decide) (by omega) (by omega) (fun hc41 => ?_) (fun hc41 => ?_)
      · refine x_iload_n d_Mo_name_65 rfl ?_
        refine z_if_eq (tgt := 86) d_Mo_name_66 (by decide) (by omega) (fun hc66 => ?_) (fun hc66 => ?_)
        · refine x_iconst (v := zI 0) d_Mo_name_86 (by decide) ?_
          exact j87 _ _ _ _ (by omega) (by omega) _ hR hX
        · refine x_aload_n d_Mo_name_69 rfl rfl ?_
          refine x_aload_n d_Mo_name_70 rfl rfl ?_
          refine x_iconst (v := zI 0) d_Mo_name_71 (by decide) ?_
          refine x_iload_n d_Mo_name_72 rfl ?_
          refine x_callV (As := [_, _]) (k := k_MarkerTextModel) rfl xcv_Mo_154_Mo (Or.inl hR.1) (RM.ap hR (r_word (by decide) (by decide) (by omega) (by omega) (by omega))) rfl rfl (Nat.le_of_ble_eq_true rfl) d_Mo_name_73 ?_
          rintro v73 h cq nq ⟨S73, hR, hX73, rfl, rfl, hE73, r73, rfl⟩
          replace hE73 := Eq.symm hE73
          subst hE73
          replace hX := hX.tr hX73
          refine x_callV (As := [_]) (k := k_MarkerTextModel) rfl xcv_Mo_158_Mo (Or.inl hR.1) (RM.ap hR (r_meaning hn0)) rfl rfl (Nat.le_of_ble_eq_true rfl) d_Mo_name_76 ?_
          rintro v76 h cq nq ⟨S76, hR, hX76, rfl, rfl, hE76, r76, rfl, hr76, hk76⟩
          replace hE76 := Eq.symm hE76
          subst hE76
          replace hX := hX.tr hX76
          replace hr76 : (0 ≤ r76 ∧ r76 ≤ 7 ∧ r76 ≠ 4) ∨ (-100 ≤ r76 ∧ r76 < S.1 3 - 100) := hr76
          refine z_if_ne (tgt := 86) d_Mo_name_79 (by decide) (by omega) (fun hc79 => ?_) (fun hc79 => ?_)
          · refine x_iconst (v := zI 0) d_Mo_name_86 (by decide) ?_
            exact j87 _ _ _ _ (by omega) (by omega) _ hR hX
          · refine x_iconst (v := zI 1) d_Mo_name_82 (by decide) ?_
            refine x_goto (tgt := 87) d_Mo_name_83 (by decide) ?_
            exact j87 _ _ _ _ (by omega) (by omega) _ hR hX
      · refine x_iload_n d_Mo_name_44 rfl ?_
        refine z_if_eq (tgt := 65) d_Mo_name_45 (by decide) (by omega) (fun hc45 => ?_) (fun hc45 => ?_)
        · refine x_iload_n d_Mo_name_65 rfl ?_
          refine z_if_eq (tgt := 86) d_Mo_name_66 (by decide) (by omega) (fun hc66 => ?_) (fun hc66 => ?_)
          · refine x_iconst (v := zI 0) d_Mo_name_86 (by decide) ?_
            exact j87 _ _ _ _ (by omega) (by omega) _ hR hX
          · refine x_aload_n d_Mo_name_69 rfl rfl ?_
            refine x_aload_n d_Mo_name_70 rfl rfl ?_
            refine x_iconst (v := zI 0) d_Mo_name_71 (by decide) ?_
            refine x_iload_n d_Mo_name_72 rfl ?_
            refine x_callV (As := [_, _]) (k := k_MarkerTextModel) rfl xcv_Mo_154_Mo (Or.inl hR.1) (RM.ap hR (r_word (by decide) (by decide) (by omega) (by omega) (by omega))) rfl rfl (Nat.le_of_ble_eq_true rfl) d_Mo_name_73 ?_
            rintro v73 h cq nq ⟨S73, hR, hX73, rfl, rfl, hE73, r73, rfl⟩
            replace hE73 := Eq.symm hE73
            subst hE73
            replace hX := hX.tr hX73
            refine x_callV (As := [_]) (k := k_MarkerTextModel) rfl xcv_Mo_158_Mo (Or.inl hR.1) (RM.ap hR (r_meaning hn0)) rfl rfl (Nat.le_of_ble_eq_true rfl) d_Mo_name_76 ?_
            rintro v76 h cq nq ⟨S76, hR, hX76, rfl, rfl, hE76, r76, rfl, hr76, hk76⟩
            replace hE76 := Eq.symm hE76
            subst hE76
            replace hX := hX.tr hX76
            replace hr76 : (0 ≤ r76 ∧ r76 ≤ 7 ∧ r76 ≠ 4) ∨ (-100 ≤ r76 ∧ r76 < S.1 3 - 100) := hr76
            refine z_if_ne (tgt := 86) d_Mo_name_79 (by decide) (by omega) (fun hc79 => ?_) (fun hc79 => ?_)
            · refine x_iconst (v := zI 0) d_Mo_name_86 (by decide) ?_
              exact j87 _ _ _ _ (by omega) (by omega) _ hR hX
            · refine x_iconst (v := zI 1) d_Mo_name_82 (by decide) ?_
              refine x_goto (tgt := 87) d_Mo_name_83 (by decide) ?_
              exact j87 _ _ _ _ (by omega) (by omega) _ hR hX
        · refine x_aload_n d_Mo_name_48 rfl rfl ?_
          refine x_get xf_Mo_7_Mo (Or.inl hR.1) (v := .ref (rf 1)) rfl d_Mo_name_49 ?_
          refine x_iload d_Mo_name_52 rfl ?_
          refine r_iald (i := 1) (us := (S.2.1 1)) rfl (by decide) hR rfl (by omega) (by show i < 160; omega) d_Mo_name_54 (fun hr54 => ?_)
          refine x_callS (As := [_]) xcs_Mo_127 (r_isLetter hr54) rfl rfl (Nat.le_of_ble_eq_true rfl) d_Mo_name_55 ?_
          rintro v55 h cq nq ⟨rfl, rfl, rfl, r55, rfl, hr55⟩
          refine x_istore_n (L' := [_, _, _, _, _]) d_Mo_name_58 rfl rfl ?_
          refine x_iinc (v := zI (i + 1)) (L' := [_, _, _, _, _]) d_Mo_name_59 rfl (zI_add _ _) rfl rfl ?_
          refine x_goto (tgt := 38) d_Mo_name_62 (by decide) ?_
          exact ih _ (i + 1) (by omega) (by omega) (by omega) (by omega) (by omega) _ hR hX
  have hX : xonly H0 H0 RKs := xonly.rf
  refine x_aload_n d_Mo_name_0 rfl rfl ?_
  refine x_get xf_Mo_124_Mo (Or.inl hR.1) (v := .int (zI (S.1 2))) rfl d_Mo_name_1 ?_
  have hb1 : inR (S.1 2) := hR.2.2.2 2
  refine x_istore_n (L' := [_, _, _, _, _]) d_Mo_name_4 rfl rfl ?_
  refine x_aload_n d_Mo_name_5 rfl rfl ?_
  refine x_iconst (v := zI 0) d_Mo_name_6 (by decide) ?_
  refine r_put xf_Mo_124_Mo xp_Mo_2 hR hX (by omega) rfl rfl d_Mo_name_7 ?_
  intro h hR hX
  refine x_iload_n d_Mo_name_10 rfl ?_
  refine x_iconst (v := zI 1) d_Mo_name_11 (by decide) ?_
  refine x_bipush (v := zI 8) d_Mo_name_12 (by decide) ?_
  refine x_callS (As := [_, _, _]) xcs_Mo_150 (r_in (by omega) (by decide) (by decide)) rfl rfl (Nat.le_of_ble_eq_true rfl) d_Mo_name_14 ?_
  rintro v14 h cq nq ⟨rfl, rfl, rfl, r14, rfl, hr14⟩
  refine z_if_eq (tgt := 33) d_Mo_name_17 (by decide) (by omega) (fun hc17 => ?_) (fun hc17 => ?_)
  · refine x_iconst (v := zI 0) d_Mo_name_33 (by decide) ?_
    refine x_istore_n (L' := [_, _, _, _, _]) d_Mo_name_34 rfl rfl ?_
    refine x_iconst (v := zI 0) d_Mo_name_35 (by decide) ?_
    refine x_istore (L' := [_, _, _, _, _]) d_Mo_name_36 rfl rfl ?_
    exact l1 160 _ 0 (by omega) (by omega) (by omega) (by omega) (by omega) _ hR hX
  · refine x_iload_n d_Mo_name_20 rfl ?_
    refine x_iconst (v := zI 0) d_Mo_name_21 (by decide) ?_
    refine x_iconst (v := zI 1) d_Mo_name_22 (by decide) ?_
    refine x_callS (As := [_, _, _]) xcs_Mo_150 (r_in hk (by decide) (by decide)) rfl rfl (Nat.le_of_ble_eq_true rfl) d_Mo_name_23 ?_
    rintro v23 h cq nq ⟨rfl, rfl, rfl, r23, rfl, hr23⟩
    refine z_if_eq (tgt := 33) d_Mo_name_26 (by decide) (by omega) (fun hc26 => ?_) (fun hc26 => ?_)
    · refine x_iconst (v := zI 0) d_Mo_name_33 (by decide) ?_
      refine x_istore_n (L' := [_, _, _, _, _]) d_Mo_name_34 rfl rfl ?_
      refine x_iconst (v := zI 0) d_Mo_name_35 (by decide) ?_
      refine x_istore (L' := [_, _, _, _, _]) d_Mo_name_36 rfl rfl ?_
      exact l1 160 _ 0 (by omega) (by omega) (by omega) (by omega) (by omega) _ hR hX
    · refine x_iconst (v := zI 1) d_Mo_name_29 (by decide) ?_
      refine x_goto (tgt := 34) d_Mo_name_30 (by decide) ?_
      refine x_istore_n (L' := [_, _, _, _, _]) d_Mo_name_34 rfl rfl ?_
      refine x_iconst (v := zI 0) d_Mo_name_35 (by decide) ?_
      refine x_istore (L' := [_, _, _, _, _]) d_Mo_name_36 rfl rfl ?_
      exact l1 160 _ 0 (by omega) (by omega) (by omega) (by omega) (by omega) _ hR hX
/-- how value() ends -/
abbrev vlQ (S : MS) : Option Value → MS → Prop := fun w S' => (∃ r : Int, w = some (.int (zI r))) ∧ S'.1 2 = 0 ∧ nmOk S' ∧ rSm S S' [0, 2] [7] [8]
theorem r_value {k : Int} (hd : 3 ≤ d) (hk : inR k) (hz : szOk S) (hn : nmOk S) : RM l G d M_Mo_value [.ref o, .int (zI k)] o rf S (vlQ S) := by
  obtain ⟨d, rfl⟩ : ∃ q, d = q + 1 := ⟨d - 1, by omega⟩
  intro H0 c n hR
  obtain ⟨z1, z2⟩ := hz
  obtain ⟨n1, n2, n3, n4⟩ := id hn
  have hn3' : 0 ≤ (sp S 2 0).1 3 := n1
  have le7 := hR.len 7 (by decide)
  refine XM.of (by decide +kernel) (Nat.le_of_ble_eq_true rfl) ?_
  have j139 : ∀ (x : Int64) (m g i : Int), 0 ≤ k → k < 6 → gd (S.2.1 7) k ≠ 6 → RX l G M_Mo_value (d + 1) 139 [some (.ref o), some (.int (zI k)), some (.int (zI m)), some (.int (zI g)), some (.int (zI i))] [] H0 o rf c n (sp (sk (sp S 2 0) x) 0 0) (vlQ S) := by
    intro x m g i hk0 hk6 hm h hR hX
    have hb := n4 k hk0 hk6
    refine x_aload_n d_Mo_value_139 rfl rfl ?_
    refine x_get xf_Mo_25_Mo (Or.inl hR.1) (v := .ref (rf 8)) rfl d_Mo_value_140 ?_
    refine x_bipush (v := zI 6) d_Mo_value_143 (by decide) ?_
    refine x_iload_n d_Mo_value_145 rfl ?_
    refine z_imul d_Mo_value_146 ?_
    refine x_aload_n d_Mo_value_147 rfl rfl ?_
    refine x_get xf_Mo_22_Mo (Or.inl hR.1) (v := .ref (rf 7)) rfl d_Mo_value_148 ?_
    refine x_iload_n d_Mo_value_151 rfl ?_
    refine r_iald (i := 7) (us := (S.2.1 7)) rfl (by decide) hR rfl (by omega) (by show k < 6; omega) d_Mo_value_152 (fun hr152 => ?_)
    refine z_iadd d_Mo_value_153 ?_
    refine x_aload_n d_Mo_value_154 rfl rfl ?_
    refine x_get xf_Mo_173_Mo (Or.inl hR.1) (v := .long x) rfl d_Mo_value_155 ?_
    refine r_last (i := 8) (us := (S.2.2.1 8)) rfl (by decide) hR hX rfl (by omega) (by show 6 * k + gd (S.2.1 7) k < 36; omega) d_Mo_value_158 ?_
    intro h hR hX
    refine x_aload_n d_Mo_value_159 rfl rfl ?_
    refine x_get xf_Mo_22_Mo (Or.inl hR.1) (v := .ref (rf 7)) rfl d_Mo_value_160 ?_
    refine x_iload_n d_Mo_value_163 rfl ?_
    refine x_dup2_11 d_Mo_value_164 rfl rfl ?_
    refine r_iald (i := 7) (us := (S.2.1 7)) rfl (by decide) hR rfl (by omega) (by show k < 6; omega) d_Mo_value_165 (fun hr165 => ?_)
    refine x_iconst (v := zI 1) d_Mo_value_166 (by decide) ?_
    refine z_iadd d_Mo_value_167 ?_
    refine r_iast (i := 7) (us := (S.2.1 7)) ⟨rfl, rfl⟩ (by decide) hR hX rfl (by omega) (by show k < 6; omega) (by omega) d_Mo_value_168 ?_
    intro h hR hX
    refine x_aload_n d_Mo_value_169 rfl rfl ?_
    refine x_get xf_Mo_22_Mo (Or.inl hR.1) (v := .ref (rf 7)) rfl d_Mo_value_170 ?_
    refine x_iload_n d_Mo_value_173 rfl ?_
    refine r_iald (i := 7) (us := (se (S.2.1 7) k ((gd (S.2.1 7) k) + 1))) rfl (by decide) hR rfl (by omega) (by show k < 6; omega) d_Mo_value_174 (fun hr174 => ?_)
    refine x_iret d_Mo_value_175 rfl ?_
    exact ⟨_, hR, hX, rfl, rfl, ⟨_, rfl⟩, rfl, ⟨n1, n2, n3, se_b (N := 6) le7 (by omega) (by omega) n4 (by omega)⟩, (((rSm.r0.sp (j := 2) (by decide)).sp (j := 0) (z := 0) (by decide)).sl (i := 8) (by decide)).sa (i := 7) (by decide)⟩
  have j101 : ∀ (x : Int64) (m g i : Int), (g = 0 ∨ g = 1) → (g = 1 → 0 ≤ k ∧ k < 6) → RX l G M_Mo_value (d + 1) 101 [some (.ref o), some (.int (zI k)), some (.int (zI m)), some (.int (zI g)), some (.int (zI i))] [] H0 o rf c n (sk (sp S 2 0) x) (vlQ S) := by
    intro x m g i hg hgk h hR hX
    refine x_aload_n d_Mo_value_101 rfl rfl ?_
    refine x_iload_n d_Mo_value_102 rfl ?_
    refine z_if_ne (tgt := 110) d_Mo_value_103 (by decide) (by omega) (fun hc103 => ?_) (fun hc103 => ?_)
    · refine x_iconst (v := zI 0) d_Mo_value_110 (by decide) ?_
      refine x_iload_n d_Mo_value_111 rfl ?_
      refine z_if_eq (tgt := 130) d_Mo_value_112 (by decide) (by omega) (fun hc112 => ?_) (fun hc112 => ?_)
      · refine x_iconst (v := zI 0) d_Mo_value_130 (by decide) ?_
        refine x_callV (As := [_, _]) (k := k_MarkerTextModel) rfl xcv_Mo_162_Mo (Or.inl hR.1) (RM.ap hR (r_fails (by decide) (by decide))) rfl rfl (Nat.le_of_ble_eq_true rfl) d_Mo_value_131 ?_
        rintro v131 h cq nq ⟨S131, hR, hX131, rfl, rfl, t131, r131, rfl, rfl, hr131⟩
        replace hX := hX.tr hX131
        refine z_if_eq (tgt := 139) d_Mo_value_134 (by decide) (by omega) (fun hc134 => ?_) (fun hc134 => ?_)
        · obtain rfl : t131 = 0 := by omega
          exact j139 _ _ _ _ (by omega) (by omega) (by omega) _ hR hX
        · refine x_iconst (v := zI 0) d_Mo_value_137 (by decide) ?_
          refine x_iret d_Mo_value_138 rfl ?_
          exact ⟨_, hR, hX, rfl, rfl, ⟨_, rfl⟩, rfl, hn, (rSm.r0.sp (j := 2) (by decide)).sp (j := 0) (by decide)⟩
      · refine x_aload_n d_Mo_value_115 rfl rfl ?_
        refine x_get xf_Mo_22_Mo (Or.inl hR.1) (v := .ref (rf 7)) rfl d_Mo_value_116 ?_
        refine x_iload_n d_Mo_value_119 rfl ?_
        refine r_iald (i := 7) (us := (S.2.1 7)) rfl (by decide) hR rfl (by omega) (by show k < 6; omega) d_Mo_value_120 (fun hr120 => ?_)
        refine x_bipush (v := zI 6) d_Mo_value_121 (by decide) ?_
        refine z_icmp_ne (tgt := 130) d_Mo_value_123 (by decide) (by omega) (by omega) (fun hc123 => ?_) (fun hc123 => ?_)
        · refine x_iconst (v := zI 0) d_Mo_value_130 (by decide) ?_
          refine x_callV (As := [_, _]) (k := k_MarkerTextModel) rfl xcv_Mo_162_Mo (Or.inl hR.1) (RM.ap hR (r_fails (by decide) (by decide))) rfl rfl (Nat.le_of_ble_eq_true rfl) d_Mo_value_131 ?_
          rintro v131 h cq nq ⟨S131, hR, hX131, rfl, rfl, t131, r131, rfl, rfl, hr131⟩
          replace hX := hX.tr hX131
          refine z_if_eq (tgt := 139) d_Mo_value_134 (by decide) (by omega) (fun hc134 => ?_) (fun hc134 => ?_)
          · obtain rfl : t131 = 0 := by omega
            exact j139 _ _ _ _ (by omega) (by omega) (by omega) _ hR hX
          · refine x_iconst (v := zI 0) d_Mo_value_137 (by decide) ?_
            refine x_iret d_Mo_value_138 rfl ?_
            exact ⟨_, hR, hX, rfl, rfl, ⟨_, rfl⟩, rfl, hn, (rSm.r0.sp (j := 2) (by decide)).sp (j := 0) (by decide)⟩
        · refine x_iconst (v := zI 1) d_Mo_value_126 (by decide) ?_
          refine x_goto (tgt := 131) d_Mo_value_127 (by decide) ?_
          refine x_callV (As := [_, _]) (k := k_MarkerTextModel) rfl xcv_Mo_162_Mo (Or.inl hR.1) (RM.ap hR (r_fails (by decide) (by decide))) rfl rfl (Nat.le_of_ble_eq_true rfl) d_Mo_value_131 ?_
          rintro v131 h cq nq ⟨S131, hR, hX131, rfl, rfl, t131, r131, rfl, rfl, hr131⟩
          replace hX := hX.tr hX131
          refine z_if_eq (tgt := 139) d_Mo_value_134 (by decide) (by omega) (fun hc134 => ?_) (fun hc134 => ?_)
          · obtain rfl : t131 = 0 := by omega
            exact j139 _ _ _ _ (by omega) (by omega) (by omega) _ hR hX
          · refine x_iconst (v := zI 0) d_Mo_value_137 (by decide) ?_
            refine x_iret d_Mo_value_138 rfl ?_
            exact ⟨_, hR, hX, rfl, rfl, ⟨_, rfl⟩, rfl, hn, (rSm.r0.sp (j := 2) (by decide)).sp (j := 0) (by decide)⟩
    · refine x_iconst (v := zI 1) d_Mo_value_106 (by decide) ?_
      refine x_goto (tgt := 111) d_Mo_value_107 (by decide) ?_
      refine x_iload_n d_Mo_value_111 rfl ?_
      refine z_if_eq (tgt := 130) d_Mo_value_112 (by decide) (by omega) (fun hc112 => ?_) (fun hc112 => ?_)
      · refine x_iconst (v := zI 0) d_Mo_value_130 (by decide) ?_
        refine x_callV (As := [_, _]) (k := k_MarkerTextModel) rfl xcv_Mo_162_Mo (Or.inl hR.1) (RM.ap hR (r_fails (by decide) (by decide))) rfl rfl (Nat.le_of_ble_eq_true rfl) d_Mo_value_131 ?_
        rintro v131 h cq nq ⟨S131, hR, hX131, rfl, rfl, t131, r131, rfl, rfl, hr131⟩
        replace hX := hX.tr hX131
        refine z_if_eq (tgt := 139) d_Mo_value_134 (by decide) (by omega) (fun hc134 => ?_) (fun hc134 => ?_)
        · obtain rfl : t131 = 0 := by omega
          exact j139 _ _ _ _ (by omega) (by omega) (by omega) _ hR hX
        · refine x_iconst (v := zI 0) d_Mo_value_137 (by decide) ?_
          refine x_iret d_Mo_value_138 rfl ?_
          exact ⟨_, hR, hX, rfl, rfl, ⟨_, rfl⟩, rfl, hn, (rSm.r0.sp (j := 2) (by decide)).sp (j := 0) (by decide)⟩
      · refine x_aload_n d_Mo_value_115 rfl rfl ?_
        refine x_get xf_Mo_22_Mo (Or.inl hR.1) (v := .ref (rf 7)) rfl d_Mo_value_116 ?_
        refine x_iload_n d_Mo_value_119 rfl ?_
        refine r_iald (i := 7) (us := (S.2.1 7)) rfl (by decide) hR rfl (by omega) (by show k < 6; omega) d_Mo_value_120 (fun hr120 => ?_)
        refine x_bipush (v := zI 6) d_Mo_value_121 (by decide) ?_
        refine z_icmp_ne (tgt := 130) d_Mo_value_123 (by decide) (by omega) (by omega) (fun hc123 => ?_) (fun hc123 => ?_)
        · refine x_iconst (v := zI 0) d_Mo_value_130 (by decide) ?_
          refine x_callV (As := [_, _]) (k := k_MarkerTextModel) rfl xcv_Mo_162_Mo (Or.inl hR.1) (RM.ap hR (r_fails (by decide) (by decide))) rfl rfl (Nat.le_of_ble_eq_true rfl) d_Mo_value_131 ?_
          rintro v131 h cq nq ⟨S131, hR, hX131, rfl, rfl, t131, r131, rfl, rfl, hr131⟩
          replace hX := hX.tr hX131
          refine z_if_eq (tgt := 139) d_Mo_value_134 (by decide) (by omega) (fun hc134 => ?_) (fun hc134 => ?_)
          · obtain rfl : t131 = 0 := by omega
            exact j139 _ _ _ _ (by omega) (by omega) (by omega) _ hR hX
          · refine x_iconst (v := zI 0) d_Mo_value_137 (by decide) ?_
            refine x_iret d_Mo_value_138 rfl ?_
            exact ⟨_, hR, hX, rfl, rfl, ⟨_, rfl⟩, rfl, hn, (rSm.r0.sp (j := 2) (by decide)).sp (j := 0) (by decide)⟩
        · refine x_iconst (v := zI 1) d_Mo_value_126 (by decide) ?_
          refine x_goto (tgt := 131) d_Mo_value_127 (by decide) ?_
          refine x_callV (As := [_, _]) (k := k_MarkerTextModel) rfl xcv_Mo_162_Mo (Or.inl hR.1) (RM.ap hR (r_fails (by decide) (by decide))) rfl rfl (Nat.le_of_ble_eq_true rfl) d_Mo_value_131 ?_
          rintro v131 h cq nq ⟨S131, hR, hX131, rfl, rfl, t131, r131, rfl, rfl, hr131⟩
          replace hX := hX.tr hX131
          refine z_if_eq (tgt := 139) d_Mo_value_134 (by decide) (by omega) (fun hc134 => ?_) (fun hc134 => ?_)
          · obtain rfl : t131 = 0 := by omega
            exact j139 _ _ _ _ (by omega) (by omega) (by omega) _ hR hX
          · refine x_iconst (v := zI 0) d_Mo_value_137 (by decide) ?_
            refine x_iret d_Mo_value_138 rfl ?_
            exact ⟨_, hR, hX, rfl, rfl, ⟨_, rfl⟩, rfl, hn, (rSm.r0.sp (j := 2) (by decide)).sp (j := 0) (by decide)⟩
  have l1 : ∀ (q : Nat) (x : Int64) (m g i : Int), (g = 0 ∨ g = 1) → (g = 1 → 0 ≤ k ∧ k < 6) → 0 ≤ i → i ≤ 6 → 6 - i ≤ q → RX l G M_Mo_value (d + 1) 54 [some (.ref o), some (.int (zI k)), some (.int (zI m)), some (.int (zI g)), some (.int (zI i))] [] H0 o rf c n (sk (sp S 2 0) x) (vlQ S) := by
    intro q
    induction q with
    | zero =>
      intro x m g i hg hgk hi0 hi6 hq h hR hX
      refine x_iload_n d_Mo_value_54 rfl ?_
      refine z_if_eq (tgt := 101) d_Mo_value_55 (by decide) (by omega) (fun hc55 => ?_) (fun hc55 => ?_)
      · exact j101 _ _ _ _ (by omega) (by omega) _ hR hX
      · refine x_iload d_Mo_value_58 rfl ?_
        refine x_aload_n d_Mo_value_60 rfl rfl ?_
        refine x_get xf_Mo_22_Mo (Or.inl hR.1) (v := .ref (rf 7)) rfl d_Mo_value_61 ?_
        refine x_iload_n d_Mo_value_64 rfl ?_
        refine r_iald (i := 7) (us := (S.2.1 7)) rfl (by decide) hR rfl (by omega) (by show k < 6; omega) d_Mo_value_65 (fun hr65 => ?_)
        have hb := n4 k (by omega) (by omega)
        refine z_icmp_ge (tgt := 101) d_Mo_value_66 (by decide) (by omega) (by omega) (fun _ => ?_) (fun hq => by omega)
        exact j101 _ _ _ _ (by omega) (by omega) _ hR hX
    | succ q ih =>
      intro x m g i hg hgk hi0 hi6 hq h hR hX
      refine x_iload_n d_Mo_value_54 rfl ?_
      refine z_if_eq (tgt := 101) d_Mo_value_55 (by decide) (by omega) (fun hc55 => ?_) (fun hc55 => ?_)
      · exact j101 _ _ _ _ (by omega) (by omega) _ hR hX
      · refine x_iload d_Mo_value_58 rfl ?_
        refine x_aload_n d_Mo_value_60 rfl rfl ?_
        refine x_get xf_Mo_22_Mo (Or.inl hR.1) (v := .ref (rf 7)) rfl d_Mo_value_61 ?_
        refine x_iload_n d_Mo_value_64 rfl ?_
        refine r_iald (i := 7) (us := (S.2.1 7)) rfl (by decide) hR rfl (by omega) (by show k < 6; omega) d_Mo_value_65 (fun hr65 => ?_)
        have hb := n4 k (by omega) (by omega)
        refine z_icmp_ge (tgt := 101) d_Mo_value_66 (by decide) (by omega) (by omega) (fun hc66 => ?_) (fun hc66 => ?_)
        · exact j101 _ _ _ _ (by omega) (by omega) _ hR hX
        · refine x_aload_n d_Mo_value_69 rfl rfl ?_
          refine x_get xf_Mo_25_Mo (Or.inl hR.1) (v := .ref (rf 8)) rfl d_Mo_value_70 ?_
          refine x_bipush (v := zI 6) d_Mo_value_73 (by decide) ?_
          refine x_iload_n d_Mo_value_75 rfl ?_
          refine z_imul d_Mo_value_76 ?_
          refine x_iload d_Mo_value_77 rfl ?_
          refine z_iadd d_Mo_value_79 ?_
          refine r_lald (i := 8) (us := (S.2.2.1 8)) rfl (by decide) hR rfl (by omega) (by show 6 * k + i < 36; omega) d_Mo_value_80 ?_
          refine x_aload_n d_Mo_value_81 rfl rfl ?_
          refine x_get xf_Mo_173_Mo (Or.inl hR.1) (v := .long x) rfl d_Mo_value_82 ?_
          refine x_lcmp d_Mo_value_85 (x_zi ?_)
          have hr85 := inR_ti (lg_cmp (gl (S.2.2.1 8) ((6 * k) + i)) x)
          refine z_if_eq (tgt := 93) d_Mo_value_86 (by decide) (by omega) (fun hc86 => ?_) (fun hc86 => ?_)
          · refine x_iconst (v := zI 0) d_Mo_value_93 (by decide) ?_
            refine x_istore_n (L' := [_, _, _, _, _]) d_Mo_value_94 rfl rfl ?_
            refine x_iinc (v := zI (i + 1)) (L' := [_, _, _, _, _]) d_Mo_value_95 rfl (zI_add _ _) rfl rfl ?_
            refine x_goto (tgt := 54) d_Mo_value_98 (by decide) ?_
            exact ih _ _ _ (i + 1) (by omega) (by omega) (by omega) (by omega) (by omega) _ hR hX
          · refine x_iconst (v := zI 1) d_Mo_value_89 (by decide) ?_
            refine x_goto (tgt := 94) d_Mo_value_90 (by decide) ?_
            refine x_istore_n (L' := [_, _, _, _, _]) d_Mo_value_94 rfl rfl ?_
            refine x_iinc (v := zI (i + 1)) (L' := [_, _, _, _, _]) d_Mo_value_95 rfl (zI_add _ _) rfl rfl ?_
            refine x_goto (tgt := 54) d_Mo_value_98 (by decide) ?_
            exact ih _ _ _ (i + 1) (by omega) (by omega) (by omega) (by omega) (by omega) _ hR hX
  have j50 : ∀ (x : Int64) (m g : Int), (g = 0 ∨ g = 1) → (g = 1 → 0 ≤ k ∧ k < 6) → RX l G M_Mo_value (d + 1) 50 [some (.ref o), some (.int (zI k)), some (.int (zI m)), none, none] [.int (zI g)] H0 o rf c n (sk (sp S 2 0) x) (vlQ S) := by
    intro x m g hg hgk h hR hX
    refine x_istore_n (L' := [_, _, _, _, _]) d_Mo_value_50 rfl rfl ?_
    refine x_iconst (v := zI 0) d_Mo_value_51 (by decide) ?_
    refine x_istore (L' := [_, _, _, _, _]) d_Mo_value_52 rfl rfl ?_
    exact l1 6 _ _ _ 0 hg hgk (by omega) (by omega) (by omega) _ hR hX
  have hX : xonly H0 H0 RKs := xonly.rf
  refine x_aload_n d_Mo_value_0 rfl rfl ?_
  refine x_get xf_Mo_124_Mo (Or.inl hR.1) (v := .int (zI (S.1 2))) rfl d_Mo_value_1 ?_
  have hb1 : inR (S.1 2) := hR.2.2.2 2
  refine x_istore_n (L' := [_, _, _, _, _]) d_Mo_value_4 rfl rfl ?_
  refine x_aload_n d_Mo_value_5 rfl rfl ?_
  refine x_iconst (v := zI 0) d_Mo_value_6 (by decide) ?_
  refine r_put xf_Mo_124_Mo xp_Mo_2 hR hX (by omega) rfl rfl d_Mo_value_7 ?_
  intro h hR hX
  refine x_aload_n d_Mo_value_10 rfl rfl ?_
  refine x_iload_n d_Mo_value_11 rfl ?_
  refine x_callV (As := [_]) (k := k_MarkerTextModel) rfl xcv_Mo_184_Mo (Or.inl hR.1) (RM.ap hR (r_isName (by omega) hk hn3')) rfl rfl (Nat.le_of_ble_eq_true rfl) d_Mo_value_12 ?_
  rintro v12 h cq nq ⟨S12, hR, hX12, rfl, rfl, hE12, r12, rfl, hr12⟩
  replace hE12 := Eq.symm hE12
  subst hE12
  replace hX := hX.tr hX12
  replace hr12 : (r12 = 1 ∧ (0 ≤ k ∧ k ≤ S.1 3 - 1)) ∨ (r12 = 0 ∧ ¬ (0 ≤ k ∧ k ≤ S.1 3 - 1)) := hr12
  refine z_if_eq (tgt := 49) d_Mo_value_15 (by decide) (by omega) (fun hc15 => ?_) (fun hc15 => ?_)
  · refine x_iconst (v := zI 0) d_Mo_value_49 (by decide) ?_
    exact j50 _ _ _ (by omega) (by omega) _ hR hX
  · refine x_aload_n d_Mo_value_18 rfl rfl ?_
    refine x_iconst (v := zI 0) d_Mo_value_19 (by decide) ?_
    refine x_iload_n d_Mo_value_20 rfl ?_
    refine x_aload_n d_Mo_value_21 rfl rfl ?_
    refine x_get xf_Mo_19_Mo (Or.inl hR.1) (v := .ref (rf 6)) rfl d_Mo_value_22 ?_
    refine x_aload_n d_Mo_value_25 rfl rfl ?_
    refine x_iload_n d_Mo_value_26 rfl ?_
    refine x_callV (As := [_]) (k := k_MarkerTextModel) rfl xcv_Mo_184_Mo (Or.inl hR.1) (RM.ap hR (r_isName (by omega) hk hn3')) rfl rfl (Nat.le_of_ble_eq_true rfl) d_Mo_value_27 ?_
    rintro v27 h cq nq ⟨S27, hR, hX27, rfl, rfl, hE27, r27, rfl, hr27⟩
    replace hE27 := Eq.symm hE27
    subst hE27
    replace hX := hX.tr hX27
    replace hr27 : (r27 = 1 ∧ (0 ≤ k ∧ k ≤ S.1 3 - 1)) ∨ (r27 = 0 ∧ ¬ (0 ≤ k ∧ k ≤ S.1 3 - 1)) := hr27
    refine z_if_eq (tgt := 37) d_Mo_value_30 (by decide) (by omega) (fun hq => by omega) (fun _ => ?_)
    refine x_iload_n d_Mo_value_33 rfl ?_
    refine x_goto (tgt := 38) d_Mo_value_34 (by decide) ?_
    refine r_iald (i := 6) (us := (S.2.1 6)) rfl (by decide) hR rfl (by omega) (by show k < 6; omega) d_Mo_value_38 (fun hr38 => ?_)
    refine x_callV (As := [_, _, _]) (k := k_MarkerTextModel) rfl xcv_Mo_187_Mo (Or.inl hR.1) (RM.ap hR (r_isValue (by omega) hr38 (by decide) (by omega) (by omega))) rfl rfl (Nat.le_of_ble_eq_true rfl) d_Mo_value_39 ?_
    rintro v39 h cq nq ⟨S39, hR, hX39, rfl, rfl, x39, r39, rfl, rfl, hr39⟩
    replace hX := hX.tr hX39
    refine z_if_eq (tgt := 49) d_Mo_value_42 (by decide) (by omega) (fun hc42 => ?_) (fun hc42 => ?_)
    · refine x_iconst (v := zI 0) d_Mo_value_49 (by decide) ?_
      exact j50 _ _ _ (by omega) (by omega) _ hR hX
    · refine x_iconst (v := zI 1) d_Mo_value_45 (by decide) ?_
      refine x_goto (tgt := 50) d_Mo_value_46 (by decide) ?_
      exact j50 _ _ _ (by omega) (by omega) _ hR hX
/-- how give() ends -/
abbrev gvQ (S : MS) : Option Value → MS → Prop := fun w S' => w = none ∧ S'.1 2 = 0 ∧ rSm S S' [0, 2] [9] [10]
theorem r_give {k : Int} (hd : 3 ≤ d) (hk : inR k) (hz : szOk S) (hn : nmOk S) : RM l G d M_Mo_give [.ref o, .int (zI k)] o rf S (gvQ S) := by
  obtain ⟨d, rfl⟩ : ∃ q, d = q + 1 := ⟨d - 1, by omega⟩
  intro H0 c n hR
  obtain ⟨z1, z2⟩ := hz
  obtain ⟨n1, n2, n3, n4⟩ := id hn
  have hn3' : 0 ≤ (sp S 2 0).1 3 := n1
  refine XM.of (by decide +kernel) (Nat.le_of_ble_eq_true rfl) ?_
  have j54 : ∀ (x : Int64) (m g : Int), inR m → (g = 0 ∨ g = 1) → (g = 1 → 0 ≤ k ∧ k < 6) → RX l G M_Mo_give (d + 1) 54 [some (.ref o), some (.int (zI k)), some (.int (zI m)), none] [.int (zI g)] H0 o rf c n (sk (sp S 2 0) x) (gvQ S) := by
    intro x m g hm hg hgk h hR hX
    refine x_istore_n (L' := [_, _, _, _]) d_Mo_give_54 rfl rfl ?_
    refine x_aload_n d_Mo_give_55 rfl rfl ?_
    refine x_iload_n d_Mo_give_56 rfl ?_
    refine z_if_ne (tgt := 64) d_Mo_give_57 (by decide) (by omega) (fun hc57 => ?_) (fun hc57 => ?_)
    · refine x_iconst (v := zI 0) d_Mo_give_64 (by decide) ?_
      refine x_iconst (v := zI 0) d_Mo_give_65 (by decide) ?_
      refine x_callV (As := [_, _]) (k := k_MarkerTextModel) rfl xcv_Mo_162_Mo (Or.inl hR.1) (RM.ap hR (r_fails (by decide) (by decide))) rfl rfl (Nat.le_of_ble_eq_true rfl) d_Mo_give_66 ?_
      rintro v66 h cq nq ⟨S66, hR, hX66, rfl, rfl, t66, r66, rfl, rfl, hr66⟩
      replace hX := hX.tr hX66
      refine z_if_ne (tgt := 105) d_Mo_give_69 (by decide) (by omega) (fun hc69 => ?_) (fun hc69 => ?_)
      · refine x_vret d_Mo_give_105 rfl ?_
        exact ⟨_, hR, hX, rfl, rfl, rfl, rfl, by first | exact (rSm.r0.sp (j := 2) (by decide)).sp (j := 0) (by decide) | exact (((rSm.r0.sp (j := 2) (by decide)).sp (j := 0) (by decide)).sa (i := 9) (by decide)).sl (i := 10) (by decide)⟩
      · refine x_aload_n d_Mo_give_72 rfl rfl ?_
        refine x_get xf_Mo_29_Mo (Or.inl hR.1) (v := .ref (rf 9)) rfl d_Mo_give_73 ?_
        refine x_iload_n d_Mo_give_76 rfl ?_
        refine x_iload_n d_Mo_give_77 rfl ?_
        refine z_if_le (tgt := 85) d_Mo_give_78 (by decide) (by omega) (fun hc78 => ?_) (fun hc78 => ?_)
        · refine x_iconst (v := zI 0) d_Mo_give_85 (by decide) ?_
          refine r_zast (i := 9) (us := (S.2.1 9)) rfl (by decide) hR hX rfl (by omega) (by show k < 6; omega) (by omega) d_Mo_give_86 ?_
          intro h hR hX
          refine x_aload_n d_Mo_give_87 rfl rfl ?_
          refine x_get xf_Mo_33_Mo (Or.inl hR.1) (v := .ref (rf 10)) rfl d_Mo_give_88 ?_
          refine x_iload_n d_Mo_give_91 rfl ?_
          refine x_iload_n d_Mo_give_92 rfl ?_
          refine z_if_le (tgt := 103) d_Mo_give_93 (by decide) (by omega) (fun hc93 => ?_) (fun hc93 => ?_)
          · refine x_lconst (v := 0) d_Mo_give_103 (by decide) ?_
            refine r_last (i := 10) (us := (S.2.2.1 10)) rfl (by decide) hR hX rfl (by omega) (by show k < 6; omega) d_Mo_give_104 ?_
            intro h hR hX
            refine x_vret d_Mo_give_105 rfl ?_
            exact ⟨_, hR, hX, rfl, rfl, rfl, rfl, by first | exact (rSm.r0.sp (j := 2) (by decide)).sp (j := 0) (by decide) | exact (((rSm.r0.sp (j := 2) (by decide)).sp (j := 0) (by decide)).sa (i := 9) (by decide)).sl (i := 10) (by decide)⟩
          · refine x_aload_n d_Mo_give_96 rfl rfl ?_
            refine x_get xf_Mo_173_Mo (Or.inl hR.1) (v := .long x) rfl d_Mo_give_97 ?_
            refine x_goto (tgt := 104) d_Mo_give_100 (by decide) ?_
            refine r_last (i := 10) (us := (S.2.2.1 10)) rfl (by decide) hR hX rfl (by omega) (by show k < 6; omega) d_Mo_give_104 ?_
            intro h hR hX
            refine x_vret d_Mo_give_105 rfl ?_
            exact ⟨_, hR, hX, rfl, rfl, rfl, rfl, by first | exact (rSm.r0.sp (j := 2) (by decide)).sp (j := 0) (by decide) | exact (((rSm.r0.sp (j := 2) (by decide)).sp (j := 0) (by decide)).sa (i := 9) (by decide)).sl (i := 10) (by decide)⟩
        · refine x_iconst (v := zI 1) d_Mo_give_81 (by decide) ?_
          refine x_goto (tgt := 86) d_Mo_give_82 (by decide) ?_
          refine r_zast (i := 9) (us := (S.2.1 9)) rfl (by decide) hR hX rfl (by omega) (by show k < 6; omega) (by omega) d_Mo_give_86 ?_
          intro h hR hX
          refine x_aload_n d_Mo_give_87 rfl rfl ?_
          refine x_get xf_Mo_33_Mo (Or.inl hR.1) (v := .ref (rf 10)) rfl d_Mo_give_88 ?_
          refine x_iload_n d_Mo_give_91 rfl ?_
          refine x_iload_n d_Mo_give_92 rfl ?_
          refine z_if_le (tgt := 103) d_Mo_give_93 (by decide) (by omega) (fun hc93 => ?_) (fun hc93 => ?_)
          · refine x_lconst (v := 0) d_Mo_give_103 (by decide) ?_
            refine r_last (i := 10) (us := (S.2.2.1 10)) rfl (by decide) hR hX rfl (by omega) (by show k < 6; omega) d_Mo_give_104 ?_
            intro h hR hX
            refine x_vret d_Mo_give_105 rfl ?_
            exact ⟨_, hR, hX, rfl, rfl, rfl, rfl, by first | exact (rSm.r0.sp (j := 2) (by decide)).sp (j := 0) (by decide) | exact (((rSm.r0.sp (j := 2) (by decide)).sp (j := 0) (by decide)).sa (i := 9) (by decide)).sl (i := 10) (by decide)⟩
          · refine x_aload_n d_Mo_give_96 rfl rfl ?_
            refine x_get xf_Mo_173_Mo (Or.inl hR.1) (v := .long x) rfl d_Mo_give_97 ?_
            refine x_goto (tgt := 104) d_Mo_give_100 (by decide) ?_
            refine r_last (i := 10) (us := (S.2.2.1 10)) rfl (by decide) hR hX rfl (by omega) (by show k < 6; omega) d_Mo_give_104 ?_
            intro h hR hX
            refine x_vret d_Mo_give_105 rfl ?_
            exact ⟨_, hR, hX, rfl, rfl, rfl, rfl, by first | exact (rSm.r0.sp (j := 2) (by decide)).sp (j := 0) (by decide) | exact (((rSm.r0.sp (j := 2) (by decide)).sp (j := 0) (by decide)).sa (i := 9) (by decide)).sl (i := 10) (by decide)⟩
    · refine x_iconst (v := zI 1) d_Mo_give_60 (by decide) ?_
      refine x_goto (tgt := 65) d_Mo_give_61 (by decide) ?_
      refine x_iconst (v := zI 0) d_Mo_give_65 (by decide) ?_
      refine x_callV (As := [_, _]) (k := k_MarkerTextModel) rfl xcv_Mo_162_Mo (Or.inl hR.1) (RM.ap hR (r_fails (by decide) (by decide))) rfl rfl (Nat.le_of_ble_eq_true rfl) d_Mo_give_66 ?_
      rintro v66 h cq nq ⟨S66, hR, hX66, rfl, rfl, t66, r66, rfl, rfl, hr66⟩
      replace hX := hX.tr hX66
      refine z_if_ne (tgt := 105) d_Mo_give_69 (by decide) (by omega) (fun hc69 => ?_) (fun hc69 => ?_)
      · refine x_vret d_Mo_give_105 rfl ?_
        exact ⟨_, hR, hX, rfl, rfl, rfl, rfl, by first | exact (rSm.r0.sp (j := 2) (by decide)).sp (j := 0) (by decide) | exact (((rSm.r0.sp (j := 2) (by decide)).sp (j := 0) (by decide)).sa (i := 9) (by decide)).sl (i := 10) (by decide)⟩
      · refine x_aload_n d_Mo_give_72 rfl rfl ?_
        refine x_get xf_Mo_29_Mo (Or.inl hR.1) (v := .ref (rf 9)) rfl d_Mo_give_73 ?_
        refine x_iload_n d_Mo_give_76 rfl ?_
        refine x_iload_n d_Mo_give_77 rfl ?_
        refine z_if_le (tgt := 85) d_Mo_give_78 (by decide) (by omega) (fun hc78 => ?_) (fun hc78 => ?_)
        · refine x_iconst (v := zI 0) d_Mo_give_85 (by decide) ?_
          refine r_zast (i := 9) (us := (S.2.1 9)) rfl (by decide) hR hX rfl (by omega) (by show k < 6; omega) (by omega) d_Mo_give_86 ?_
          intro h hR hX
          refine x_aload_n d_Mo_give_87 rfl rfl ?_
          refine x_get xf_Mo_33_Mo (Or.inl hR.1) (v := .ref (rf 10)) rfl d_Mo_give_88 ?_
          refine x_iload_n d_Mo_give_91 rfl ?_
          refine x_iload_n d_Mo_give_92 rfl ?_
          refine z_if_le (tgt := 103) d_Mo_give_93 (by decide) (by omega) (fun hc93 => ?_) (fun hc93 => ?_)
          · refine x_lconst (v := 0) d_Mo_give_103 (by decide) ?_
            refine r_last (i := 10) (us := (S.2.2.1 10)) rfl (by decide) hR hX rfl (by omega) (by show k < 6; omega) d_Mo_give_104 ?_
            intro h hR hX
            refine x_vret d_Mo_give_105 rfl ?_
            exact ⟨_, hR, hX, rfl, rfl, rfl, rfl, by first | exact (rSm.r0.sp (j := 2) (by decide)).sp (j := 0) (by decide) | exact (((rSm.r0.sp (j := 2) (by decide)).sp (j := 0) (by decide)).sa (i := 9) (by decide)).sl (i := 10) (by decide)⟩
          · refine x_aload_n d_Mo_give_96 rfl rfl ?_
            refine x_get xf_Mo_173_Mo (Or.inl hR.1) (v := .long x) rfl d_Mo_give_97 ?_
            refine x_goto (tgt := 104) d_Mo_give_100 (by decide) ?_
            refine r_last (i := 10) (us := (S.2.2.1 10)) rfl (by decide) hR hX rfl (by omega) (by show k < 6; omega) d_Mo_give_104 ?_
            intro h hR hX
            refine x_vret d_Mo_give_105 rfl ?_
            exact ⟨_, hR, hX, rfl, rfl, rfl, rfl, by first | exact (rSm.r0.sp (j := 2) (by decide)).sp (j := 0) (by decide) | exact (((rSm.r0.sp (j := 2) (by decide)).sp (j := 0) (by decide)).sa (i := 9) (by decide)).sl (i := 10) (by decide)⟩
        · refine x_iconst (v := zI 1) d_Mo_give_81 (by decide) ?_
          refine x_goto (tgt := 86) d_Mo_give_82 (by decide) ?_
          refine r_zast (i := 9) (us := (S.2.1 9)) rfl (by decide) hR hX rfl (by omega) (by show k < 6; omega) (by omega) d_Mo_give_86 ?_
          intro h hR hX
          refine x_aload_n d_Mo_give_87 rfl rfl ?_
          refine x_get xf_Mo_33_Mo (Or.inl hR.1) (v := .ref (rf 10)) rfl d_Mo_give_88 ?_
          refine x_iload_n d_Mo_give_91 rfl ?_
          refine x_iload_n d_Mo_give_92 rfl ?_
          refine z_if_le (tgt := 103) d_Mo_give_93 (by decide) (by omega) (fun hc93 => ?_) (fun hc93 => ?_)
          · refine x_lconst (v := 0) d_Mo_give_103 (by decide) ?_
            refine r_last (i := 10) (us := (S.2.2.1 10)) rfl (by decide) hR hX rfl (by omega) (by show k < 6; omega) d_Mo_give_104 ?_
            intro h hR hX
            refine x_vret d_Mo_give_105 rfl ?_
            exact ⟨_, hR, hX, rfl, rfl, rfl, rfl, by first | exact (rSm.r0.sp (j := 2) (by decide)).sp (j := 0) (by decide) | exact (((rSm.r0.sp (j := 2) (by decide)).sp (j := 0) (by decide)).sa (i := 9) (by decide)).sl (i := 10) (by decide)⟩
          · refine x_aload_n d_Mo_give_96 rfl rfl ?_
            refine x_get xf_Mo_173_Mo (Or.inl hR.1) (v := .long x) rfl d_Mo_give_97 ?_
            refine x_goto (tgt := 104) d_Mo_give_100 (by decide) ?_
            refine r_last (i := 10) (us := (S.2.2.1 10)) rfl (by decide) hR hX rfl (by omega) (by show k < 6; omega) d_Mo_give_104 ?_
            intro h hR hX
            refine x_vret d_Mo_give_105 rfl ?_
            exact ⟨_, hR, hX, rfl, rfl, rfl, rfl, by first | exact (rSm.r0.sp (j := 2) (by decide)).sp (j := 0) (by decide) | exact (((rSm.r0.sp (j := 2) (by decide)).sp (j := 0) (by decide)).sa (i := 9) (by decide)).sl (i := 10) (by decide)⟩
  have hX : xonly H0 H0 RKs := xonly.rf
  refine x_aload_n d_Mo_give_0 rfl rfl ?_
  refine x_get xf_Mo_124_Mo (Or.inl hR.1) (v := .int (zI (S.1 2))) rfl d_Mo_give_1 ?_
  have hb1 : inR (S.1 2) := hR.2.2.2 2
  refine x_istore_n (L' := [_, _, _, _]) d_Mo_give_4 rfl rfl ?_
  refine x_aload_n d_Mo_give_5 rfl rfl ?_
  refine x_iconst (v := zI 0) d_Mo_give_6 (by decide) ?_
  refine r_put xf_Mo_124_Mo xp_Mo_2 hR hX (by omega) rfl rfl d_Mo_give_7 ?_
  intro h hR hX
  refine x_aload_n d_Mo_give_10 rfl rfl ?_
  refine x_iload_n d_Mo_give_11 rfl ?_
  refine x_callV (As := [_]) (k := k_MarkerTextModel) rfl xcv_Mo_184_Mo (Or.inl hR.1) (RM.ap hR (r_isName (by omega) hk hn3')) rfl rfl (Nat.le_of_ble_eq_true rfl) d_Mo_give_12 ?_
  rintro v12 h cq nq ⟨S12, hR, hX12, rfl, rfl, hE12, r12, rfl, hr12⟩
  replace hE12 := Eq.symm hE12
  subst hE12
  replace hX := hX.tr hX12
  replace hr12 : (r12 = 1 ∧ (0 ≤ k ∧ k ≤ S.1 3 - 1)) ∨ (r12 = 0 ∧ ¬ (0 ≤ k ∧ k ≤ S.1 3 - 1)) := hr12
  refine z_if_eq (tgt := 53) d_Mo_give_15 (by decide) (by omega) (fun hc15 => ?_) (fun hc15 => ?_)
  · refine x_iconst (v := zI 0) d_Mo_give_53 (by decide) ?_
    exact j54 _ _ _ (by omega) (by omega) (by omega) _ hR hX
  · refine x_iload_n d_Mo_give_18 rfl ?_
    refine z_if_eq (tgt := 49) d_Mo_give_19 (by decide) (by omega) (fun hc19 => ?_) (fun hc19 => ?_)
    · refine x_iconst (v := zI 1) d_Mo_give_49 (by decide) ?_
      refine x_goto (tgt := 54) d_Mo_give_50 (by decide) ?_
      exact j54 _ _ _ (by omega) (by omega) (by omega) _ hR hX
    · refine x_aload_n d_Mo_give_22 rfl rfl ?_
      refine x_iconst (v := zI 0) d_Mo_give_23 (by decide) ?_
      refine x_iload_n d_Mo_give_24 rfl ?_
      refine x_aload_n d_Mo_give_25 rfl rfl ?_
      refine x_get xf_Mo_19_Mo (Or.inl hR.1) (v := .ref (rf 6)) rfl d_Mo_give_26 ?_
      refine x_aload_n d_Mo_give_29 rfl rfl ?_
      refine x_iload_n d_Mo_give_30 rfl ?_
      refine x_callV (As := [_]) (k := k_MarkerTextModel) rfl xcv_Mo_184_Mo (Or.inl hR.1) (RM.ap hR (r_isName (by omega) hk hn3')) rfl rfl (Nat.le_of_ble_eq_true rfl) d_Mo_give_31 ?_
      rintro v31 h cq nq ⟨S31, hR, hX31, rfl, rfl, hE31, r31, rfl, hr31⟩
      replace hE31 := Eq.symm hE31
      subst hE31
      replace hX := hX.tr hX31
      replace hr31 : (r31 = 1 ∧ (0 ≤ k ∧ k ≤ S.1 3 - 1)) ∨ (r31 = 0 ∧ ¬ (0 ≤ k ∧ k ≤ S.1 3 - 1)) := hr31
      refine z_if_eq (tgt := 41) d_Mo_give_34 (by decide) (by omega) (fun hq => by omega) (fun _ => ?_)
      refine x_iload_n d_Mo_give_37 rfl ?_
      refine x_goto (tgt := 42) d_Mo_give_38 (by decide) ?_
      refine r_iald (i := 6) (us := (S.2.1 6)) rfl (by decide) hR rfl (by omega) (by show k < 6; omega) d_Mo_give_42 (fun hr42 => ?_)
      refine x_callV (As := [_, _, _]) (k := k_MarkerTextModel) rfl xcv_Mo_187_Mo (Or.inl hR.1) (RM.ap hR (r_isValue (by omega) hr42 (by decide) (by omega) (by omega))) rfl rfl (Nat.le_of_ble_eq_true rfl) d_Mo_give_43 ?_
      rintro v43 h cq nq ⟨S43, hR, hX43, rfl, rfl, x43, r43, rfl, rfl, hr43⟩
      replace hX := hX.tr hX43
      refine z_if_eq (tgt := 53) d_Mo_give_46 (by decide) (by omega) (fun hc46 => ?_) (fun hc46 => ?_)
      · refine x_iconst (v := zI 0) d_Mo_give_53 (by decide) ?_
        exact j54 _ _ _ (by omega) (by omega) (by omega) _ hR hX
      · refine x_iconst (v := zI 1) d_Mo_give_49 (by decide) ?_
        refine x_goto (tgt := 54) d_Mo_give_50 (by decide) ?_
        exact j54 _ _ _ (by omega) (by omega) (by omega) _ hR hX
end RF4
