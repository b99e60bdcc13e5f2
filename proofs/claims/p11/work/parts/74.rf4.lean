section
abbrev y_Mo_name : MethodName := ⟨"MarkerTextModel", "name", "(I)I"⟩
abbrev M_Mo_name : XMt := (y_Mo_name, prog_13_method_11_code, 5, (some .int))
theorem d_Mo_name_123 : decode M_Mo_name.2.1 123 = .ok (.iload 4, 2) := by decide +kernel
theorem d_Mo_name_125 : decode M_Mo_name.2.1 125 = .ok (.iload_n 2, 1) := by decide +kernel
theorem d_Mo_name_126 : decode M_Mo_name.2.1 126 = .ok (.if_icmp .ge 31, 3) := by decide +kernel
theorem d_Mo_name_157 : decode M_Mo_name.2.1 157 = .ok (.aload_n 0, 1) := by decide +kernel
theorem d_Mo_name_158 : decode M_Mo_name.2.1 158 = .ok (.getfield 16, 3) := by decide +kernel
theorem d_Mo_name_161 : decode M_Mo_name.2.1 161 = .ok (.aload_n 0, 1) := by decide +kernel
theorem d_Mo_name_162 : decode M_Mo_name.2.1 162 = .ok (.getfield 147, 3) := by decide +kernel
theorem d_Mo_name_165 : decode M_Mo_name.2.1 165 = .ok (.iload_n 2, 1) := by decide +kernel
theorem d_Mo_name_166 : decode M_Mo_name.2.1 166 = .ok (.iastore, 1) := by decide +kernel
theorem d_Mo_name_167 : decode M_Mo_name.2.1 167 = .ok (.aload_n 0, 1) := by decide +kernel
theorem d_Mo_name_168 : decode M_Mo_name.2.1 168 = .ok (.getfield 19, 3) := by decide +kernel
theorem d_Mo_name_171 : decode M_Mo_name.2.1 171 = .ok (.aload_n 0, 1) := by decide +kernel
theorem d_Mo_name_172 : decode M_Mo_name.2.1 172 = .ok (.getfield 147, 3) := by decide +kernel
theorem d_Mo_name_175 : decode M_Mo_name.2.1 175 = .ok (.iload_n 1, 1) := by decide +kernel
theorem d_Mo_name_176 : decode M_Mo_name.2.1 176 = .ok (.iastore, 1) := by decide +kernel
theorem d_Mo_name_177 : decode M_Mo_name.2.1 177 = .ok (.aload_n 0, 1) := by decide +kernel
theorem d_Mo_name_178 : decode M_Mo_name.2.1 178 = .ok (.dup, 1) := by decide +kernel
theorem d_Mo_name_179 : decode M_Mo_name.2.1 179 = .ok (.getfield 147, 3) := by decide +kernel
theorem d_Mo_name_182 : decode M_Mo_name.2.1 182 = .ok (.iconst 1, 1) := by decide +kernel
theorem d_Mo_name_183 : decode M_Mo_name.2.1 183 = .ok (.iadd, 1) := by decide +kernel
theorem d_Mo_name_184 : decode M_Mo_name.2.1 184 = .ok (.putfield 147, 3) := by decide +kernel
theorem xp_Mo_3 : xP k_MarkerTextModel 3 false .int := ⟨_, _, _, rfl, rfl, by decide +kernel⟩
theorem d_Mo_name_187 : decode M_Mo_name.2.1 187 = .ok (.aload_n 0, 1) := by decide +kernel
theorem d_Mo_name_188 : decode M_Mo_name.2.1 188 = .ok (.getfield 147, 3) := by decide +kernel
theorem d_Mo_name_191 : decode M_Mo_name.2.1 191 = .ok (.iconst 1, 1) := by decide +kernel
theorem d_Mo_name_192 : decode M_Mo_name.2.1 192 = .ok (.isub, 1) := by decide +kernel
theorem d_Mo_name_193 : decode M_Mo_name.2.1 193 = .ok (.ireturn, 1) := by decide +kernel
theorem d_Mo_name_129 : decode M_Mo_name.2.1 129 = .ok (.aload_n 0, 1) := by decide +kernel
theorem d_Mo_name_130 : decode M_Mo_name.2.1 130 = .ok (.getfield 13, 3) := by decide +kernel
theorem d_Mo_name_133 : decode M_Mo_name.2.1 133 = .ok (.bipush 8, 2) := by decide +kernel
theorem d_Mo_name_135 : decode M_Mo_name.2.1 135 = .ok (.aload_n 0, 1) := by decide +kernel
theorem d_Mo_name_136 : decode M_Mo_name.2.1 136 = .ok (.getfield 147, 3) := by decide +kernel
theorem d_Mo_name_139 : decode M_Mo_name.2.1 139 = .ok (.imul, 1) := by decide +kernel
theorem d_Mo_name_140 : decode M_Mo_name.2.1 140 = .ok (.iload 4, 2) := by decide +kernel
theorem d_Mo_name_142 : decode M_Mo_name.2.1 142 = .ok (.iadd, 1) := by decide +kernel
theorem d_Mo_name_143 : decode M_Mo_name.2.1 143 = .ok (.aload_n 0, 1) := by decide +kernel
theorem d_Mo_name_144 : decode M_Mo_name.2.1 144 = .ok (.getfield 7, 3) := by decide +kernel
theorem d_Mo_name_147 : decode M_Mo_name.2.1 147 = .ok (.iload 4, 2) := by decide +kernel
theorem d_Mo_name_149 : decode M_Mo_name.2.1 149 = .ok (.iaload, 1) := by decide +kernel
theorem d_Mo_name_150 : decode M_Mo_name.2.1 150 = .ok (.iastore, 1) := by decide +kernel
theorem d_Mo_name_151 : decode M_Mo_name.2.1 151 = .ok (.iinc 4 1, 3) := by decide +kernel
theorem d_Mo_name_154 : decode M_Mo_name.2.1 154 = .ok (.goto (-31), 3) := by decide +kernel
theorem d_Mo_name_120 : decode M_Mo_name.2.1 120 = .ok (.iconst 0, 1) := by decide +kernel
theorem d_Mo_name_121 : decode M_Mo_name.2.1 121 = .ok (.istore 4, 2) := by decide +kernel
theorem d_Mo_name_87 : decode M_Mo_name.2.1 87 = .ok (.istore_n 3, 1) := by decide +kernel
theorem d_Mo_name_88 : decode M_Mo_name.2.1 88 = .ok (.aload_n 0, 1) := by decide +kernel
theorem d_Mo_name_89 : decode M_Mo_name.2.1 89 = .ok (.iload_n 3, 1) := by decide +kernel
theorem d_Mo_name_90 : decode M_Mo_name.2.1 90 = .ok (.ifCond .ne 7, 3) := by decide +kernel
theorem d_Mo_name_97 : decode M_Mo_name.2.1 97 = .ok (.iconst 0, 1) := by decide +kernel
theorem d_Mo_name_98 : decode M_Mo_name.2.1 98 = .ok (.aload_n 0, 1) := by decide +kernel
theorem d_Mo_name_99 : decode M_Mo_name.2.1 99 = .ok (.getfield 147, 3) := by decide +kernel
theorem d_Mo_name_102 : decode M_Mo_name.2.1 102 = .ok (.bipush 6, 2) := by decide +kernel
theorem d_Mo_name_104 : decode M_Mo_name.2.1 104 = .ok (.if_icmp .ne 7, 3) := by decide +kernel
theorem d_Mo_name_111 : decode M_Mo_name.2.1 111 = .ok (.iconst 0, 1) := by decide +kernel
theorem d_Mo_name_112 : decode M_Mo_name.2.1 112 = .ok (.invokevirtual 162, 3) := by decide +kernel
theorem xw_1361 : (Jvm.Cond.code ({ cls := "MarkerTextModel", name := "fails", desc := "(ZZ)Z" } : Jvm.MethodName) prog_13_method_3_code (3 : Nat) (Option.some Jvm.ClassFile.FieldType.boolean)) ∈ xT := xT_at 1361 (by decide +kernel) (by decide +kernel)
theorem xcb_Mo_fails : xcb M_Mo_fails 2 := ⟨xw_1361, xw_8, by decide, by decide, by decide, by decide +kernel⟩
theorem xw_1360 : (Jvm.Cond.instanceMethod ({ cls := "MarkerTextModel", name := "fails", desc := "(ZZ)Z" } : Jvm.MethodName)) ∈ xT := xT_at 1360 (by decide +kernel) (by decide +kernel)
theorem xw_1358 : (Jvm.Cond.methodLink "MarkerTextModel" (162 : Nat) ({ cls := "MarkerTextModel", name := "fails", desc := "(ZZ)Z" } : Jvm.MethodName)) ∈ xT := xT_at 1358 (by decide +kernel) (by decide +kernel)
theorem xsel_Mo_fails : Cond.selects "MarkerTextModel" y_Mo_fails y_Mo_fails ∈ xT := xT_sel (q := (y_Mo_fails, 52)) (by decide +kernel) (by decide +kernel)
theorem xcv_Mo_162_Mo : xCV "MarkerTextModel" 162 "MarkerTextModel" M_Mo_fails 2 := ⟨xcb_Mo_fails, xw_1360, Or.inl ⟨xw_1358, Or.inl xsel_Mo_fails⟩⟩
theorem d_Mo_name_115 : decode M_Mo_name.2.1 115 = .ok (.ifCond .eq 5, 3) := by decide +kernel
theorem d_Mo_name_118 : decode M_Mo_name.2.1 118 = .ok (.iconst 0, 1) := by decide +kernel
theorem d_Mo_name_119 : decode M_Mo_name.2.1 119 = .ok (.ireturn, 1) := by decide +kernel
theorem d_Mo_name_107 : decode M_Mo_name.2.1 107 = .ok (.iconst 1, 1) := by decide +kernel
theorem d_Mo_name_108 : decode M_Mo_name.2.1 108 = .ok (.goto 4, 3) := by decide +kernel
theorem d_Mo_name_93 : decode M_Mo_name.2.1 93 = .ok (.iconst 1, 1) := by decide +kernel
theorem d_Mo_name_94 : decode M_Mo_name.2.1 94 = .ok (.goto 4, 3) := by decide +kernel
theorem d_Mo_name_38 : decode M_Mo_name.2.1 38 = .ok (.iload 4, 2) := by decide +kernel
theorem d_Mo_name_40 : decode M_Mo_name.2.1 40 = .ok (.iload_n 2, 1) := by decide +kernel
theorem d_Mo_name_41 : decode M_Mo_name.2.1 41 = .ok (.if_icmp .ge 24, 3) := by decide +kernel
theorem d_Mo_name_65 : decode M_Mo_name.2.1 65 = .ok (.iload_n 3, 1) := by decide +kernel
theorem d_Mo_name_66 : decode M_Mo_name.2.1 66 = .ok (.ifCond .eq 20, 3) := by decide +kernel
theorem d_Mo_name_86 : decode M_Mo_name.2.1 86 = .ok (.iconst 0, 1) := by decide +kernel
theorem d_Mo_name_69 : decode M_Mo_name.2.1 69 = .ok (.aload_n 0, 1) := by decide +kernel
theorem d_Mo_name_70 : decode M_Mo_name.2.1 70 = .ok (.aload_n 0, 1) := by decide +kernel
theorem d_Mo_name_71 : decode M_Mo_name.2.1 71 = .ok (.iconst 0, 1) := by decide +kernel
theorem d_Mo_name_72 : decode M_Mo_name.2.1 72 = .ok (.iload_n 2, 1) := by decide +kernel
theorem d_Mo_name_73 : decode M_Mo_name.2.1 73 = .ok (.invokevirtual 154, 3) := by decide +kernel
theorem xw_1345 : (Jvm.Cond.code ({ cls := "MarkerTextModel", name := "word", desc := "(II)J" } : Jvm.MethodName) prog_13_method_9_code (6 : Nat) (Option.some Jvm.ClassFile.FieldType.long)) ∈ xT := xT_at 1345 (by decide +kernel) (by decide +kernel)
theorem xcb_Mo_word : xcb M_Mo_word 2 := ⟨xw_1345, xw_8, by decide, by decide, by decide, by decide +kernel⟩
theorem xw_1344 : (Jvm.Cond.instanceMethod ({ cls := "MarkerTextModel", name := "word", desc := "(II)J" } : Jvm.MethodName)) ∈ xT := xT_at 1344 (by decide +kernel) (by decide +kernel)
theorem xw_1342 : (Jvm.Cond.methodLink "MarkerTextModel" (154 : Nat) ({ cls := "MarkerTextModel", name := "word", desc := "(II)J" } : Jvm.MethodName)) ∈ xT := xT_at 1342 (by decide +kernel) (by decide +kernel)
theorem xsel_Mo_word : Cond.selects "MarkerTextModel" y_Mo_word y_Mo_word ∈ xT := xT_sel (q := (y_Mo_word, 52)) (by decide +kernel) (by decide +kernel)
theorem xcv_Mo_154_Mo : xCV "MarkerTextModel" 154 "MarkerTextModel" M_Mo_word 2 := ⟨xcb_Mo_word, xw_1344, Or.inl ⟨xw_1342, Or.inl xsel_Mo_word⟩⟩
theorem d_Mo_name_76 : decode M_Mo_name.2.1 76 = .ok (.invokevirtual 158, 3) := by decide +kernel
theorem xw_1351 : (Jvm.Cond.code ({ cls := "MarkerTextModel", name := "meaning", desc := "(J)I" } : Jvm.MethodName) prog_13_method_10_code (8 : Nat) (Option.some Jvm.ClassFile.FieldType.int)) ∈ xT := xT_at 1351 (by decide +kernel) (by decide +kernel)
theorem xcb_Mo_meaning : xcb M_Mo_meaning 1 := ⟨xw_1351, xw_8, by decide, by decide, by decide, by decide +kernel⟩
theorem xw_1350 : (Jvm.Cond.instanceMethod ({ cls := "MarkerTextModel", name := "meaning", desc := "(J)I" } : Jvm.MethodName)) ∈ xT := xT_at 1350 (by decide +kernel) (by decide +kernel)
theorem xw_1348 : (Jvm.Cond.methodLink "MarkerTextModel" (158 : Nat) ({ cls := "MarkerTextModel", name := "meaning", desc := "(J)I" } : Jvm.MethodName)) ∈ xT := xT_at 1348 (by decide +kernel) (by decide +kernel)
theorem xsel_Mo_meaning : Cond.selects "MarkerTextModel" y_Mo_meaning y_Mo_meaning ∈ xT := xT_sel (q := (y_Mo_meaning, 52)) (by decide +kernel) (by decide +kernel)
theorem xcv_Mo_158_Mo : xCV "MarkerTextModel" 158 "MarkerTextModel" M_Mo_meaning 1 := ⟨xcb_Mo_meaning, xw_1350, Or.inl ⟨xw_1348, Or.inl xsel_Mo_meaning⟩⟩
theorem d_Mo_name_79 : decode M_Mo_name.2.1 79 = .ok (.ifCond .ne 7, 3) := by decide +kernel
theorem d_Mo_name_82 : decode M_Mo_name.2.1 82 = .ok (.iconst 1, 1) := by decide +kernel
theorem d_Mo_name_83 : decode M_Mo_name.2.1 83 = .ok (.goto 4, 3) := by decide +kernel
theorem d_Mo_name_44 : decode M_Mo_name.2.1 44 = .ok (.iload_n 3, 1) := by decide +kernel
theorem d_Mo_name_45 : decode M_Mo_name.2.1 45 = .ok (.ifCond .eq 20, 3) := by decide +kernel
theorem d_Mo_name_48 : decode M_Mo_name.2.1 48 = .ok (.aload_n 0, 1) := by decide +kernel
theorem d_Mo_name_49 : decode M_Mo_name.2.1 49 = .ok (.getfield 7, 3) := by decide +kernel
theorem d_Mo_name_52 : decode M_Mo_name.2.1 52 = .ok (.iload 4, 2) := by decide +kernel
theorem d_Mo_name_54 : decode M_Mo_name.2.1 54 = .ok (.iaload, 1) := by decide +kernel
theorem d_Mo_name_55 : decode M_Mo_name.2.1 55 = .ok (.invokestatic 127, 3) := by decide +kernel
theorem d_Mo_name_58 : decode M_Mo_name.2.1 58 = .ok (.istore_n 3, 1) := by decide +kernel
theorem d_Mo_name_59 : decode M_Mo_name.2.1 59 = .ok (.iinc 4 1, 3) := by decide +kernel
theorem d_Mo_name_62 : decode M_Mo_name.2.1 62 = .ok (.goto (-24), 3) := by decide +kernel
theorem d_Mo_name_0 : decode M_Mo_name.2.1 0 = .ok (.aload_n 0, 1) := by decide +kernel
theorem d_Mo_name_1 : decode M_Mo_name.2.1 1 = .ok (.getfield 124, 3) := by decide +kernel
theorem d_Mo_name_4 : decode M_Mo_name.2.1 4 = .ok (.istore_n 2, 1) := by decide +kernel
theorem d_Mo_name_5 : decode M_Mo_name.2.1 5 = .ok (.aload_n 0, 1) := by decide +kernel
theorem d_Mo_name_6 : decode M_Mo_name.2.1 6 = .ok (.iconst 0, 1) := by decide +kernel
theorem d_Mo_name_7 : decode M_Mo_name.2.1 7 = .ok (.putfield 124, 3) := by decide +kernel
theorem d_Mo_name_10 : decode M_Mo_name.2.1 10 = .ok (.iload_n 2, 1) := by decide +kernel
theorem d_Mo_name_11 : decode M_Mo_name.2.1 11 = .ok (.iconst 1, 1) := by decide +kernel
theorem d_Mo_name_12 : decode M_Mo_name.2.1 12 = .ok (.bipush 8, 2) := by decide +kernel
theorem d_Mo_name_14 : decode M_Mo_name.2.1 14 = .ok (.invokestatic 150, 3) := by decide +kernel
theorem d_Mo_name_17 : decode M_Mo_name.2.1 17 = .ok (.ifCond .eq 16, 3) := by decide +kernel
theorem d_Mo_name_33 : decode M_Mo_name.2.1 33 = .ok (.iconst 0, 1) := by decide +kernel
theorem d_Mo_name_34 : decode M_Mo_name.2.1 34 = .ok (.istore_n 3, 1) := by decide +kernel
theorem d_Mo_name_35 : decode M_Mo_name.2.1 35 = .ok (.iconst 0, 1) := by decide +kernel
theorem d_Mo_name_36 : decode M_Mo_name.2.1 36 = .ok (.istore 4, 2) := by decide +kernel
theorem d_Mo_name_20 : decode M_Mo_name.2.1 20 = .ok (.iload_n 1, 1) := by decide +kernel
theorem d_Mo_name_21 : decode M_Mo_name.2.1 21 = .ok (.iconst 0, 1) := by decide +kernel
theorem d_Mo_name_22 : decode M_Mo_name.2.1 22 = .ok (.iconst 1, 1) := by decide +kernel
theorem d_Mo_name_23 : decode M_Mo_name.2.1 23 = .ok (.invokestatic 150, 3) := by decide +kernel
theorem d_Mo_name_26 : decode M_Mo_name.2.1 26 = .ok (.ifCond .eq 7, 3) := by decide +kernel
theorem d_Mo_name_29 : decode M_Mo_name.2.1 29 = .ok (.iconst 1, 1) := by decide +kernel
theorem d_Mo_name_30 : decode M_Mo_name.2.1 30 = .ok (.goto 4, 3) := by decide +kernel
abbrev y_Mo_value : MethodName := ⟨"MarkerTextModel", "value", "(I)I"⟩
abbrev M_Mo_value : XMt := (y_Mo_value, prog_13_method_16_code, 5, (some .int))
theorem d_Mo_value_139 : decode M_Mo_value.2.1 139 = .ok (.aload_n 0, 1) := by decide +kernel
theorem d_Mo_value_140 : decode M_Mo_value.2.1 140 = .ok (.getfield 25, 3) := by decide +kernel
theorem d_Mo_value_143 : decode M_Mo_value.2.1 143 = .ok (.bipush 6, 2) := by decide +kernel
theorem d_Mo_value_145 : decode M_Mo_value.2.1 145 = .ok (.iload_n 1, 1) := by decide +kernel
theorem d_Mo_value_146 : decode M_Mo_value.2.1 146 = .ok (.imul, 1) := by decide +kernel
theorem d_Mo_value_147 : decode M_Mo_value.2.1 147 = .ok (.aload_n 0, 1) := by decide +kernel
theorem d_Mo_value_148 : decode M_Mo_value.2.1 148 = .ok (.getfield 22, 3) := by decide +kernel
theorem d_Mo_value_151 : decode M_Mo_value.2.1 151 = .ok (.iload_n 1, 1) := by decide +kernel
theorem d_Mo_value_152 : decode M_Mo_value.2.1 152 = .ok (.iaload, 1) := by decide +kernel
theorem d_Mo_value_153 : decode M_Mo_value.2.1 153 = .ok (.iadd, 1) := by decide +kernel
theorem d_Mo_value_154 : decode M_Mo_value.2.1 154 = .ok (.aload_n 0, 1) := by decide +kernel
theorem d_Mo_value_155 : decode M_Mo_value.2.1 155 = .ok (.getfield 173, 3) := by decide +kernel
theorem d_Mo_value_158 : decode M_Mo_value.2.1 158 = .ok (.lastore, 1) := by decide +kernel
theorem d_Mo_value_159 : decode M_Mo_value.2.1 159 = .ok (.aload_n 0, 1) := by decide +kernel
theorem d_Mo_value_160 : decode M_Mo_value.2.1 160 = .ok (.getfield 22, 3) := by decide +kernel
theorem d_Mo_value_163 : decode M_Mo_value.2.1 163 = .ok (.iload_n 1, 1) := by decide +kernel
theorem d_Mo_value_164 : decode M_Mo_value.2.1 164 = .ok (.dup2, 1) := by decide +kernel
theorem d_Mo_value_165 : decode M_Mo_value.2.1 165 = .ok (.iaload, 1) := by decide +kernel
theorem d_Mo_value_166 : decode M_Mo_value.2.1 166 = .ok (.iconst 1, 1) := by decide +kernel
theorem d_Mo_value_167 : decode M_Mo_value.2.1 167 = .ok (.iadd, 1) := by decide +kernel
theorem d_Mo_value_168 : decode M_Mo_value.2.1 168 = .ok (.iastore, 1) := by decide +kernel
theorem d_Mo_value_169 : decode M_Mo_value.2.1 169 = .ok (.aload_n 0, 1) := by decide +kernel
theorem d_Mo_value_170 : decode M_Mo_value.2.1 170 = .ok (.getfield 22, 3) := by decide +kernel
theorem d_Mo_value_173 : decode M_Mo_value.2.1 173 = .ok (.iload_n 1, 1) := by decide +kernel
theorem d_Mo_value_174 : decode M_Mo_value.2.1 174 = .ok (.iaload, 1) := by decide +kernel
theorem d_Mo_value_175 : decode M_Mo_value.2.1 175 = .ok (.ireturn, 1) := by decide +kernel
theorem d_Mo_value_101 : decode M_Mo_value.2.1 101 = .ok (.aload_n 0, 1) := by decide +kernel
theorem d_Mo_value_102 : decode M_Mo_value.2.1 102 = .ok (.iload_n 3, 1) := by decide +kernel
theorem d_Mo_value_103 : decode M_Mo_value.2.1 103 = .ok (.ifCond .ne 7, 3) := by decide +kernel
theorem d_Mo_value_110 : decode M_Mo_value.2.1 110 = .ok (.iconst 0, 1) := by decide +kernel
theorem d_Mo_value_111 : decode M_Mo_value.2.1 111 = .ok (.iload_n 3, 1) := by decide +kernel
theorem d_Mo_value_112 : decode M_Mo_value.2.1 112 = .ok (.ifCond .eq 18, 3) := by decide +kernel
theorem d_Mo_value_130 : decode M_Mo_value.2.1 130 = .ok (.iconst 0, 1) := by decide +kernel
theorem d_Mo_value_131 : decode M_Mo_value.2.1 131 = .ok (.invokevirtual 162, 3) := by decide +kernel
theorem d_Mo_value_134 : decode M_Mo_value.2.1 134 = .ok (.ifCond .eq 5, 3) := by decide +kernel
theorem d_Mo_value_137 : decode M_Mo_value.2.1 137 = .ok (.iconst 0, 1) := by decide +kernel
theorem d_Mo_value_138 : decode M_Mo_value.2.1 138 = .ok (.ireturn, 1) := by decide +kernel
theorem d_Mo_value_115 : decode M_Mo_value.2.1 115 = .ok (.aload_n 0, 1) := by decide +kernel
theorem d_Mo_value_116 : decode M_Mo_value.2.1 116 = .ok (.getfield 22, 3) := by decide +kernel
theorem d_Mo_value_119 : decode M_Mo_value.2.1 119 = .ok (.iload_n 1, 1) := by decide +kernel
theorem d_Mo_value_120 : decode M_Mo_value.2.1 120 = .ok (.iaload, 1) := by decide +kernel
theorem d_Mo_value_121 : decode M_Mo_value.2.1 121 = .ok (.bipush 6, 2) := by decide +kernel
theorem d_Mo_value_123 : decode M_Mo_value.2.1 123 = .ok (.if_icmp .ne 7, 3) := by decide +kernel
theorem d_Mo_value_126 : decode M_Mo_value.2.1 126 = .ok (.iconst 1, 1) := by decide +kernel
theorem d_Mo_value_127 : decode M_Mo_value.2.1 127 = .ok (.goto 4, 3) := by decide +kernel
theorem d_Mo_value_106 : decode M_Mo_value.2.1 106 = .ok (.iconst 1, 1) := by decide +kernel
theorem d_Mo_value_107 : decode M_Mo_value.2.1 107 = .ok (.goto 4, 3) := by decide +kernel
theorem d_Mo_value_54 : decode M_Mo_value.2.1 54 = .ok (.iload_n 3, 1) := by decide +kernel
theorem d_Mo_value_55 : decode M_Mo_value.2.1 55 = .ok (.ifCond .eq 46, 3) := by decide +kernel
theorem d_Mo_value_58 : decode M_Mo_value.2.1 58 = .ok (.iload 4, 2) := by decide +kernel
theorem d_Mo_value_60 : decode M_Mo_value.2.1 60 = .ok (.aload_n 0, 1) := by decide +kernel
theorem d_Mo_value_61 : decode M_Mo_value.2.1 61 = .ok (.getfield 22, 3) := by decide +kernel
theorem d_Mo_value_64 : decode M_Mo_value.2.1 64 = .ok (.iload_n 1, 1) := by decide +kernel
theorem d_Mo_value_65 : decode M_Mo_value.2.1 65 = .ok (.iaload, 1) := by decide +kernel
theorem d_Mo_value_66 : decode M_Mo_value.2.1 66 = .ok (.if_icmp .ge 35, 3) := by decide +kernel
theorem d_Mo_value_69 : decode M_Mo_value.2.1 69 = .ok (.aload_n 0, 1) := by decide +kernel
theorem d_Mo_value_70 : decode M_Mo_value.2.1 70 = .ok (.getfield 25, 3) := by decide +kernel
theorem d_Mo_value_73 : decode M_Mo_value.2.1 73 = .ok (.bipush 6, 2) := by decide +kernel
theorem d_Mo_value_75 : decode M_Mo_value.2.1 75 = .ok (.iload_n 1, 1) := by decide +kernel
theorem d_Mo_value_76 : decode M_Mo_value.2.1 76 = .ok (.imul, 1) := by decide +kernel
theorem d_Mo_value_77 : decode M_Mo_value.2.1 77 = .ok (.iload 4, 2) := by decide +kernel
theorem d_Mo_value_79 : decode M_Mo_value.2.1 79 = .ok (.iadd, 1) := by decide +kernel
theorem d_Mo_value_80 : decode M_Mo_value.2.1 80 = .ok (.laload, 1) := by decide +kernel
theorem d_Mo_value_81 : decode M_Mo_value.2.1 81 = .ok (.aload_n 0, 1) := by decide +kernel
theorem d_Mo_value_82 : decode M_Mo_value.2.1 82 = .ok (.getfield 173, 3) := by decide +kernel
theorem d_Mo_value_85 : decode M_Mo_value.2.1 85 = .ok (.lcmp, 1) := by decide +kernel
theorem d_Mo_value_86 : decode M_Mo_value.2.1 86 = .ok (.ifCond .eq 7, 3) := by decide +kernel
theorem d_Mo_value_93 : decode M_Mo_value.2.1 93 = .ok (.iconst 0, 1) := by decide +kernel
theorem d_Mo_value_94 : decode M_Mo_value.2.1 94 = .ok (.istore_n 3, 1) := by decide +kernel
theorem d_Mo_value_95 : decode M_Mo_value.2.1 95 = .ok (.iinc 4 1, 3) := by decide +kernel
theorem d_Mo_value_98 : decode M_Mo_value.2.1 98 = .ok (.goto (-44), 3) := by decide +kernel
theorem d_Mo_value_89 : decode M_Mo_value.2.1 89 = .ok (.iconst 1, 1) := by decide +kernel
theorem d_Mo_value_90 : decode M_Mo_value.2.1 90 = .ok (.goto 4, 3) := by decide +kernel
theorem d_Mo_value_50 : decode M_Mo_value.2.1 50 = .ok (.istore_n 3, 1) := by decide +kernel
theorem d_Mo_value_51 : decode M_Mo_value.2.1 51 = .ok (.iconst 0, 1) := by decide +kernel
theorem d_Mo_value_52 : decode M_Mo_value.2.1 52 = .ok (.istore 4, 2) := by decide +kernel
theorem d_Mo_value_0 : decode M_Mo_value.2.1 0 = .ok (.aload_n 0, 1) := by decide +kernel
theorem d_Mo_value_1 : decode M_Mo_value.2.1 1 = .ok (.getfield 124, 3) := by decide +kernel
theorem d_Mo_value_4 : decode M_Mo_value.2.1 4 = .ok (.istore_n 2, 1) := by decide +kernel
theorem d_Mo_value_5 : decode M_Mo_value.2.1 5 = .ok (.aload_n 0, 1) := by decide +kernel
theorem d_Mo_value_6 : decode M_Mo_value.2.1 6 = .ok (.iconst 0, 1) := by decide +kernel
theorem d_Mo_value_7 : decode M_Mo_value.2.1 7 = .ok (.putfield 124, 3) := by decide +kernel
theorem d_Mo_value_10 : decode M_Mo_value.2.1 10 = .ok (.aload_n 0, 1) := by decide +kernel
theorem d_Mo_value_11 : decode M_Mo_value.2.1 11 = .ok (.iload_n 1, 1) := by decide +kernel
theorem d_Mo_value_12 : decode M_Mo_value.2.1 12 = .ok (.invokevirtual 184, 3) := by decide +kernel
theorem xw_1369 : (Jvm.Cond.code ({ cls := "MarkerTextModel", name := "isName", desc := "(I)Z" } : Jvm.MethodName) prog_13_method_15_code (2 : Nat) (Option.some Jvm.ClassFile.FieldType.boolean)) ∈ xT := xT_at 1369 (by decide +kernel) (by decide +kernel)
theorem xcb_Mo_isName : xcb M_Mo_isName 1 := ⟨xw_1369, xw_8, by decide, by decide, by decide, by decide +kernel⟩
theorem xw_1368 : (Jvm.Cond.instanceMethod ({ cls := "MarkerTextModel", name := "isName", desc := "(I)Z" } : Jvm.MethodName)) ∈ xT := xT_at 1368 (by decide +kernel) (by decide +kernel)
theorem xw_1366 : (Jvm.Cond.methodLink "MarkerTextModel" (184 : Nat) ({ cls := "MarkerTextModel", name := "isName", desc := "(I)Z" } : Jvm.MethodName)) ∈ xT := xT_at 1366 (by decide +kernel) (by decide +kernel)
theorem xsel_Mo_isName : Cond.selects "MarkerTextModel" y_Mo_isName y_Mo_isName ∈ xT := xT_sel (q := (y_Mo_isName, 52)) (by decide +kernel) (by decide +kernel)
theorem xcv_Mo_184_Mo : xCV "MarkerTextModel" 184 "MarkerTextModel" M_Mo_isName 1 := ⟨xcb_Mo_isName, xw_1368, Or.inl ⟨xw_1366, Or.inl xsel_Mo_isName⟩⟩
theorem d_Mo_value_15 : decode M_Mo_value.2.1 15 = .ok (.ifCond .eq 34, 3) := by decide +kernel
theorem d_Mo_value_49 : decode M_Mo_value.2.1 49 = .ok (.iconst 0, 1) := by decide +kernel
theorem d_Mo_value_18 : decode M_Mo_value.2.1 18 = .ok (.aload_n 0, 1) := by decide +kernel
theorem d_Mo_value_19 : decode M_Mo_value.2.1 19 = .ok (.iconst 0, 1) := by decide +kernel
theorem d_Mo_value_20 : decode M_Mo_value.2.1 20 = .ok (.iload_n 2, 1) := by decide +kernel
theorem d_Mo_value_21 : decode M_Mo_value.2.1 21 = .ok (.aload_n 0, 1) := by decide +kernel
theorem d_Mo_value_22 : decode M_Mo_value.2.1 22 = .ok (.getfield 19, 3) := by decide +kernel
theorem d_Mo_value_25 : decode M_Mo_value.2.1 25 = .ok (.aload_n 0, 1) := by decide +kernel
theorem d_Mo_value_26 : decode M_Mo_value.2.1 26 = .ok (.iload_n 1, 1) := by decide +kernel
theorem d_Mo_value_27 : decode M_Mo_value.2.1 27 = .ok (.invokevirtual 184, 3) := by decide +kernel
theorem d_Mo_value_30 : decode M_Mo_value.2.1 30 = .ok (.ifCond .eq 7, 3) := by decide +kernel
theorem d_Mo_value_33 : decode M_Mo_value.2.1 33 = .ok (.iload_n 1, 1) := by decide +kernel
theorem d_Mo_value_34 : decode M_Mo_value.2.1 34 = .ok (.goto 4, 3) := by decide +kernel
theorem d_Mo_value_38 : decode M_Mo_value.2.1 38 = .ok (.iaload, 1) := by decide +kernel
theorem d_Mo_value_39 : decode M_Mo_value.2.1 39 = .ok (.invokevirtual 187, 3) := by decide +kernel
theorem xw_1373 : (Jvm.Cond.code ({ cls := "MarkerTextModel", name := "isValue", desc := "(III)Z" } : Jvm.MethodName) prog_13_method_12_code (4 : Nat) (Option.some Jvm.ClassFile.FieldType.boolean)) ∈ xT := xT_at 1373 (by decide +kernel) (by decide +kernel)
theorem xcb_Mo_isValue : xcb M_Mo_isValue 3 := ⟨xw_1373, xw_8, by decide, by decide, by decide, by decide +kernel⟩
theorem xw_1372 : (Jvm.Cond.instanceMethod ({ cls := "MarkerTextModel", name := "isValue", desc := "(III)Z" } : Jvm.MethodName)) ∈ xT := xT_at 1372 (by decide +kernel) (by decide +kernel)
theorem xw_1370 : (Jvm.Cond.methodLink "MarkerTextModel" (187 : Nat) ({ cls := "MarkerTextModel", name := "isValue", desc := "(III)Z" } : Jvm.MethodName)) ∈ xT := xT_at 1370 (by decide +kernel) (by decide +kernel)
theorem xsel_Mo_isValue : Cond.selects "MarkerTextModel" y_Mo_isValue y_Mo_isValue ∈ xT := xT_sel (q := (y_Mo_isValue, 52)) (by decide +kernel) (by decide +kernel)
theorem xcv_Mo_187_Mo : xCV "MarkerTextModel" 187 "MarkerTextModel" M_Mo_isValue 3 := ⟨xcb_Mo_isValue, xw_1372, Or.inl ⟨xw_1370, Or.inl xsel_Mo_isValue⟩⟩
theorem d_Mo_value_42 : decode M_Mo_value.2.1 42 = .ok (.ifCond .eq 7, 3) := by decide +kernel
theorem d_Mo_value_45 : decode M_Mo_value.2.1 45 = .ok (.iconst 1, 1) := by decide +kernel
theorem d_Mo_value_46 : decode M_Mo_value.2.1 46 = .ok (.goto 4, 3) := by decide +kernel
abbrev y_Mo_give : MethodName := ⟨"MarkerTextModel", "give", "(I)V"⟩
abbrev M_Mo_give : XMt := (y_Mo_give, prog_13_method_17_code, 4, none)
theorem d_Mo_give_54 : decode M_Mo_give.2.1 54 = .ok (.istore_n 3, 1) := by decide +kernel
theorem d_Mo_give_55 : decode M_Mo_give.2.1 55 = .ok (.aload_n 0, 1) := by decide +kernel
theorem d_Mo_give_56 : decode M_Mo_give.2.1 56 = .ok (.iload_n 3, 1) := by decide +kernel
theorem d_Mo_give_57 : decode M_Mo_give.2.1 57 = .ok (.ifCond .ne 7, 3) := by decide +kernel
theorem d_Mo_give_64 : decode M_Mo_give.2.1 64 = .ok (.iconst 0, 1) := by decide +kernel
theorem d_Mo_give_65 : decode M_Mo_give.2.1 65 = .ok (.iconst 0, 1) := by decide +kernel
theorem d_Mo_give_66 : decode M_Mo_give.2.1 66 = .ok (.invokevirtual 162, 3) := by decide +kernel
theorem d_Mo_give_69 : decode M_Mo_give.2.1 69 = .ok (.ifCond .ne 36, 3) := by decide +kernel
theorem d_Mo_give_105 : decode M_Mo_give.2.1 105 = .ok (.return_, 1) := by decide +kernel
theorem d_Mo_give_72 : decode M_Mo_give.2.1 72 = .ok (.aload_n 0, 1) := by decide +kernel
theorem d_Mo_give_73 : decode M_Mo_give.2.1 73 = .ok (.getfield 29, 3) := by decide +kernel
theorem d_Mo_give_76 : decode M_Mo_give.2.1 76 = .ok (.iload_n 1, 1) := by decide +kernel
theorem d_Mo_give_77 : decode M_Mo_give.2.1 77 = .ok (.iload_n 2, 1) := by decide +kernel
theorem d_Mo_give_78 : decode M_Mo_give.2.1 78 = .ok (.ifCond .le 7, 3) := by decide +kernel
theorem d_Mo_give_85 : decode M_Mo_give.2.1 85 = .ok (.iconst 0, 1) := by decide +kernel
theorem d_Mo_give_86 : decode M_Mo_give.2.1 86 = .ok (.bastore, 1) := by decide +kernel
theorem d_Mo_give_87 : decode M_Mo_give.2.1 87 = .ok (.aload_n 0, 1) := by decide +kernel
theorem d_Mo_give_88 : decode M_Mo_give.2.1 88 = .ok (.getfield 33, 3) := by decide +kernel
theorem d_Mo_give_91 : decode M_Mo_give.2.1 91 = .ok (.iload_n 1, 1) := by decide +kernel
theorem d_Mo_give_92 : decode M_Mo_give.2.1 92 = .ok (.iload_n 2, 1) := by decide +kernel
theorem d_Mo_give_93 : decode M_Mo_give.2.1 93 = .ok (.ifCond .le 10, 3) := by decide +kernel
theorem d_Mo_give_103 : decode M_Mo_give.2.1 103 = .ok (.lconst 0, 1) := by decide +kernel
theorem d_Mo_give_104 : decode M_Mo_give.2.1 104 = .ok (.lastore, 1) := by decide +kernel
theorem d_Mo_give_96 : decode M_Mo_give.2.1 96 = .ok (.aload_n 0, 1) := by decide +kernel
theorem d_Mo_give_97 : decode M_Mo_give.2.1 97 = .ok (.getfield 173, 3) := by decide +kernel
theorem d_Mo_give_100 : decode M_Mo_give.2.1 100 = .ok (.goto 4, 3) := by decide +kernel
theorem d_Mo_give_81 : decode M_Mo_give.2.1 81 = .ok (.iconst 1, 1) := by decide +kernel
theorem d_Mo_give_82 : decode M_Mo_give.2.1 82 = .ok (.goto 4, 3) := by decide +kernel
theorem d_Mo_give_60 : decode M_Mo_give.2.1 60 = .ok (.iconst 1, 1) := by decide +kernel
theorem d_Mo_give_61 : decode M_Mo_give.2.1 61 = .ok (.goto 4, 3) := by decide +kernel
theorem d_Mo_give_0 : decode M_Mo_give.2.1 0 = .ok (.aload_n 0, 1) := by decide +kernel
theorem d_Mo_give_1 : decode M_Mo_give.2.1 1 = .ok (.getfield 124, 3) := by decide +kernel
theorem d_Mo_give_4 : decode M_Mo_give.2.1 4 = .ok (.istore_n 2, 1) := by decide +kernel
theorem d_Mo_give_5 : decode M_Mo_give.2.1 5 = .ok (.aload_n 0, 1) := by decide +kernel
theorem d_Mo_give_6 : decode M_Mo_give.2.1 6 = .ok (.iconst 0, 1) := by decide +kernel
theorem d_Mo_give_7 : decode M_Mo_give.2.1 7 = .ok (.putfield 124, 3) := by decide +kernel
theorem d_Mo_give_10 : decode M_Mo_give.2.1 10 = .ok (.aload_n 0, 1) := by decide +kernel
theorem d_Mo_give_11 : decode M_Mo_give.2.1 11 = .ok (.iload_n 1, 1) := by decide +kernel
theorem d_Mo_give_12 : decode M_Mo_give.2.1 12 = .ok (.invokevirtual 184, 3) := by decide +kernel
theorem d_Mo_give_15 : decode M_Mo_give.2.1 15 = .ok (.ifCond .eq 38, 3) := by decide +kernel
theorem d_Mo_give_53 : decode M_Mo_give.2.1 53 = .ok (.iconst 0, 1) := by decide +kernel
theorem d_Mo_give_18 : decode M_Mo_give.2.1 18 = .ok (.iload_n 2, 1) := by decide +kernel
theorem d_Mo_give_19 : decode M_Mo_give.2.1 19 = .ok (.ifCond .eq 30, 3) := by decide +kernel
theorem d_Mo_give_49 : decode M_Mo_give.2.1 49 = .ok (.iconst 1, 1) := by decide +kernel
theorem d_Mo_give_50 : decode M_Mo_give.2.1 50 = .ok (.goto 4, 3) := by decide +kernel
theorem d_Mo_give_22 : decode M_Mo_give.2.1 22 = .ok (.aload_n 0, 1) := by decide +kernel
theorem d_Mo_give_23 : decode M_Mo_give.2.1 23 = .ok (.iconst 0, 1) := by decide +kernel
theorem d_Mo_give_24 : decode M_Mo_give.2.1 24 = .ok (.iload_n 2, 1) := by decide +kernel
theorem d_Mo_give_25 : decode M_Mo_give.2.1 25 = .ok (.aload_n 0, 1) := by decide +kernel
theorem d_Mo_give_26 : decode M_Mo_give.2.1 26 = .ok (.getfield 19, 3) := by decide +kernel
theorem d_Mo_give_29 : decode M_Mo_give.2.1 29 = .ok (.aload_n 0, 1) := by decide +kernel
theorem d_Mo_give_30 : decode M_Mo_give.2.1 30 = .ok (.iload_n 1, 1) := by decide +kernel
theorem d_Mo_give_31 : decode M_Mo_give.2.1 31 = .ok (.invokevirtual 184, 3) := by decide +kernel
theorem d_Mo_give_34 : decode M_Mo_give.2.1 34 = .ok (.ifCond .eq 7, 3) := by decide +kernel
theorem d_Mo_give_37 : decode M_Mo_give.2.1 37 = .ok (.iload_n 1, 1) := by decide +kernel
theorem d_Mo_give_38 : decode M_Mo_give.2.1 38 = .ok (.goto 4, 3) := by decide +kernel
theorem d_Mo_give_42 : decode M_Mo_give.2.1 42 = .ok (.iaload, 1) := by decide +kernel
theorem d_Mo_give_43 : decode M_Mo_give.2.1 43 = .ok (.invokevirtual 187, 3) := by decide +kernel
theorem d_Mo_give_46 : decode M_Mo_give.2.1 46 = .ok (.ifCond .eq 7, 3) := by decide +kernel
end
section RF4
variable {l : Launch} {G : XG} {h : XH} {c n d : Nat} {o : Nat} {rf : Nat → Nat} {S : MS}
theorem gd_se_of {us : List Int} {e f z : Int} {N : Nat} (hl : us.length = N) (he : 0 ≤ e) (h1 : e < N) (hf : 0 ≤ f) : gd (se us e z) f = if f = e then z else gd us f := gd_se he (by omega) hf
theorem se_b {us : List Int} {e z a b : Int} {N : Nat} (hl : us.length = N) (he : 0 ≤ e) (h1 : e < N) (hu : ∀ i : Int, 0 ≤ i → i < N → a ≤ gd us i ∧ gd us i ≤ b) (hz : a ≤ z ∧ z ≤ b) : ∀ i : Int, 0 ≤ i → i < N → a ≤ gd (se us e z) i ∧ gd (se us e z) i ≤ b := by
  intro i h0 hi
  rw [gd_se_of hl he h1 h0]
  split
  · exact hz
  · exact hu i h0 hi
end RF4
