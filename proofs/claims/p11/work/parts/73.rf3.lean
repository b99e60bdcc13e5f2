section
abbrev y_Mo_isText : MethodName := ⟨"MarkerTextModel", "isText", "(II)Z"⟩
abbrev M_Mo_isText : XMt := (y_Mo_isText, prog_13_method_13_code, 6, (some .boolean))
theorem d_Mo_isText_18 : decode M_Mo_isText.2.1 18 = .ok (.iload 4, 2) := by decide +kernel
theorem d_Mo_isText_20 : decode M_Mo_isText.2.1 20 = .ok (.bipush 8, 2) := by decide +kernel
theorem d_Mo_isText_22 : decode M_Mo_isText.2.1 22 = .ok (.if_icmp .ge 86, 3) := by decide +kernel
theorem d_Mo_isText_108 : decode M_Mo_isText.2.1 108 = .ok (.iload_n 3, 1) := by decide +kernel
theorem d_Mo_isText_109 : decode M_Mo_isText.2.1 109 = .ok (.ireturn, 1) := by decide +kernel
theorem d_Mo_isText_85 : decode M_Mo_isText.2.1 85 = .ok (.istore_n 3, 1) := by decide +kernel
theorem d_Mo_isText_86 : decode M_Mo_isText.2.1 86 = .ok (.aload_n 0, 1) := by decide +kernel
theorem d_Mo_isText_87 : decode M_Mo_isText.2.1 87 = .ok (.ldc2_w 180, 3) := by decide +kernel
theorem xw_1381 : (Jvm.Cond.constantLong "MarkerTextModel" (180 : Nat) (256 : Int64)) ∈ xT := xT_at 1381 (by decide +kernel) (by decide +kernel)
theorem d_Mo_isText_90 : decode M_Mo_isText.2.1 90 = .ok (.aload_n 0, 1) := by decide +kernel
theorem d_Mo_isText_91 : decode M_Mo_isText.2.1 91 = .ok (.getfield 173, 3) := by decide +kernel
theorem xw_1206 : (Jvm.Cond.fieldLink "MarkerTextModel" (173 : Nat) "MarkerTextModel" "key" "J") ∈ xT := xT_at 1206 (by decide +kernel) (by decide +kernel)
theorem xf_Mo_173_Mo : xF "MarkerTextModel" 173 k_MarkerTextModel 36 := ⟨_, _, _, "MarkerTextModel", rfl, by decide, Or.inl xw_1206, Or.inl rfl⟩
theorem d_Mo_isText_94 : decode M_Mo_isText.2.1 94 = .ok (.lmul, 1) := by decide +kernel
theorem d_Mo_isText_95 : decode M_Mo_isText.2.1 95 = .ok (.iload 5, 2) := by decide +kernel
theorem d_Mo_isText_97 : decode M_Mo_isText.2.1 97 = .ok (.i2l, 1) := by decide +kernel
theorem d_Mo_isText_98 : decode M_Mo_isText.2.1 98 = .ok (.ladd, 1) := by decide +kernel
theorem d_Mo_isText_99 : decode M_Mo_isText.2.1 99 = .ok (.putfield 173, 3) := by decide +kernel
theorem xp_Mo_36 : xP k_MarkerTextModel 36 false .long := ⟨_, _, _, rfl, rfl, by decide +kernel⟩
theorem d_Mo_isText_102 : decode M_Mo_isText.2.1 102 = .ok (.iinc 4 1, 3) := by decide +kernel
theorem d_Mo_isText_105 : decode M_Mo_isText.2.1 105 = .ok (.goto (-87), 3) := by decide +kernel
theorem d_Mo_isText_50 : decode M_Mo_isText.2.1 50 = .ok (.istore 5, 2) := by decide +kernel
theorem d_Mo_isText_52 : decode M_Mo_isText.2.1 52 = .ok (.iload 5, 2) := by decide +kernel
theorem d_Mo_isText_54 : decode M_Mo_isText.2.1 54 = .ok (.ifCond .eq 26, 3) := by decide +kernel
theorem d_Mo_isText_80 : decode M_Mo_isText.2.1 80 = .ok (.iconst 1, 1) := by decide +kernel
theorem d_Mo_isText_81 : decode M_Mo_isText.2.1 81 = .ok (.goto 4, 3) := by decide +kernel
theorem d_Mo_isText_57 : decode M_Mo_isText.2.1 57 = .ok (.iload 5, 2) := by decide +kernel
theorem d_Mo_isText_59 : decode M_Mo_isText.2.1 59 = .ok (.invokestatic 127, 3) := by decide +kernel
theorem d_Mo_isText_62 : decode M_Mo_isText.2.1 62 = .ok (.ifCond .ne 18, 3) := by decide +kernel
theorem d_Mo_isText_65 : decode M_Mo_isText.2.1 65 = .ok (.iload 5, 2) := by decide +kernel
theorem d_Mo_isText_67 : decode M_Mo_isText.2.1 67 = .ok (.invokestatic 177, 3) := by decide +kernel
theorem xw_1380 : (Jvm.Cond.code ({ cls := "MarkerTextModel", name := "isDigit", desc := "(I)Z" } : Jvm.MethodName) prog_13_method_7_code (1 : Nat) (Option.some Jvm.ClassFile.FieldType.boolean)) ∈ xT := xT_at 1380 (by decide +kernel) (by decide +kernel)
theorem xcb_Mo_isDigit : xcb M_Mo_isDigit 1 := ⟨xw_1380, xw_8, by decide, by decide, by decide, by decide +kernel⟩
theorem xw_1378 : (Jvm.Cond.methodLink "MarkerTextModel" (177 : Nat) ({ cls := "MarkerTextModel", name := "isDigit", desc := "(I)Z" } : Jvm.MethodName)) ∈ xT := xT_at 1378 (by decide +kernel) (by decide +kernel)
theorem xw_1379 : (Jvm.Cond.static ({ cls := "MarkerTextModel", name := "isDigit", desc := "(I)Z" } : Jvm.MethodName)) ∈ xT := xT_at 1379 (by decide +kernel) (by decide +kernel)
theorem xcs_Mo_177 : xCS "MarkerTextModel" 177 M_Mo_isDigit 1 := ⟨xcb_Mo_isDigit, xw_1379, Or.inl xw_1378⟩
theorem d_Mo_isText_70 : decode M_Mo_isText.2.1 70 = .ok (.ifCond .ne 10, 3) := by decide +kernel
theorem d_Mo_isText_73 : decode M_Mo_isText.2.1 73 = .ok (.iload 5, 2) := by decide +kernel
theorem d_Mo_isText_75 : decode M_Mo_isText.2.1 75 = .ok (.bipush 46, 2) := by decide +kernel
theorem d_Mo_isText_77 : decode M_Mo_isText.2.1 77 = .ok (.if_icmp .ne 7, 3) := by decide +kernel
theorem d_Mo_isText_84 : decode M_Mo_isText.2.1 84 = .ok (.iconst 0, 1) := by decide +kernel
theorem d_Mo_isText_25 : decode M_Mo_isText.2.1 25 = .ok (.iload_n 3, 1) := by decide +kernel
theorem d_Mo_isText_26 : decode M_Mo_isText.2.1 26 = .ok (.ifCond .eq 82, 3) := by decide +kernel
theorem d_Mo_isText_29 : decode M_Mo_isText.2.1 29 = .ok (.iload_n 1, 1) := by decide +kernel
theorem d_Mo_isText_30 : decode M_Mo_isText.2.1 30 = .ok (.iload 4, 2) := by decide +kernel
theorem d_Mo_isText_32 : decode M_Mo_isText.2.1 32 = .ok (.iadd, 1) := by decide +kernel
theorem d_Mo_isText_33 : decode M_Mo_isText.2.1 33 = .ok (.iload_n 2, 1) := by decide +kernel
theorem d_Mo_isText_34 : decode M_Mo_isText.2.1 34 = .ok (.if_icmp .ge 15, 3) := by decide +kernel
theorem d_Mo_isText_49 : decode M_Mo_isText.2.1 49 = .ok (.iconst 0, 1) := by decide +kernel
theorem d_Mo_isText_37 : decode M_Mo_isText.2.1 37 = .ok (.aload_n 0, 1) := by decide +kernel
theorem d_Mo_isText_38 : decode M_Mo_isText.2.1 38 = .ok (.getfield 7, 3) := by decide +kernel
theorem d_Mo_isText_41 : decode M_Mo_isText.2.1 41 = .ok (.iload_n 1, 1) := by decide +kernel
theorem d_Mo_isText_42 : decode M_Mo_isText.2.1 42 = .ok (.iload 4, 2) := by decide +kernel
theorem d_Mo_isText_44 : decode M_Mo_isText.2.1 44 = .ok (.iadd, 1) := by decide +kernel
theorem d_Mo_isText_45 : decode M_Mo_isText.2.1 45 = .ok (.iaload, 1) := by decide +kernel
theorem d_Mo_isText_46 : decode M_Mo_isText.2.1 46 = .ok (.goto 4, 3) := by decide +kernel
theorem d_Mo_isText_0 : decode M_Mo_isText.2.1 0 = .ok (.iload_n 2, 1) := by decide +kernel
theorem d_Mo_isText_1 : decode M_Mo_isText.2.1 1 = .ok (.iload_n 1, 1) := by decide +kernel
theorem d_Mo_isText_2 : decode M_Mo_isText.2.1 2 = .ok (.isub, 1) := by decide +kernel
theorem d_Mo_isText_3 : decode M_Mo_isText.2.1 3 = .ok (.iconst 1, 1) := by decide +kernel
theorem d_Mo_isText_4 : decode M_Mo_isText.2.1 4 = .ok (.bipush 8, 2) := by decide +kernel
theorem d_Mo_isText_6 : decode M_Mo_isText.2.1 6 = .ok (.invokestatic 150, 3) := by decide +kernel
theorem d_Mo_isText_9 : decode M_Mo_isText.2.1 9 = .ok (.istore_n 3, 1) := by decide +kernel
theorem d_Mo_isText_10 : decode M_Mo_isText.2.1 10 = .ok (.aload_n 0, 1) := by decide +kernel
theorem d_Mo_isText_11 : decode M_Mo_isText.2.1 11 = .ok (.lconst 0, 1) := by decide +kernel
theorem d_Mo_isText_12 : decode M_Mo_isText.2.1 12 = .ok (.putfield 173, 3) := by decide +kernel
theorem d_Mo_isText_15 : decode M_Mo_isText.2.1 15 = .ok (.iconst 0, 1) := by decide +kernel
theorem d_Mo_isText_16 : decode M_Mo_isText.2.1 16 = .ok (.istore 4, 2) := by decide +kernel
abbrev y_Mo_isVersion : MethodName := ⟨"MarkerTextModel", "isVersion", "(II)Z"⟩
abbrev M_Mo_isVersion : XMt := (y_Mo_isVersion, prog_13_method_14_code, 8, (some .boolean))
theorem d_Mo_isVersion_197 : decode M_Mo_isVersion.2.1 197 = .ok (.iload 5, 2) := by decide +kernel
theorem d_Mo_isVersion_199 : decode M_Mo_isVersion.2.1 199 = .ok (.iconst 3, 1) := by decide +kernel
theorem d_Mo_isVersion_200 : decode M_Mo_isVersion.2.1 200 = .ok (.if_icmp .ge 21, 3) := by decide +kernel
theorem d_Mo_isVersion_221 : decode M_Mo_isVersion.2.1 221 = .ok (.iload_n 3, 1) := by decide +kernel
theorem d_Mo_isVersion_222 : decode M_Mo_isVersion.2.1 222 = .ok (.ifCond .eq 13, 3) := by decide +kernel
theorem d_Mo_isVersion_235 : decode M_Mo_isVersion.2.1 235 = .ok (.iconst 0, 1) := by decide +kernel
theorem d_Mo_isVersion_236 : decode M_Mo_isVersion.2.1 236 = .ok (.ireturn, 1) := by decide +kernel
theorem d_Mo_isVersion_225 : decode M_Mo_isVersion.2.1 225 = .ok (.iload 4, 2) := by decide +kernel
theorem d_Mo_isVersion_227 : decode M_Mo_isVersion.2.1 227 = .ok (.iload_n 2, 1) := by decide +kernel
theorem d_Mo_isVersion_228 : decode M_Mo_isVersion.2.1 228 = .ok (.if_icmp .ne 7, 3) := by decide +kernel
theorem d_Mo_isVersion_231 : decode M_Mo_isVersion.2.1 231 = .ok (.iconst 1, 1) := by decide +kernel
theorem d_Mo_isVersion_232 : decode M_Mo_isVersion.2.1 232 = .ok (.goto 4, 3) := by decide +kernel
theorem d_Mo_isVersion_203 : decode M_Mo_isVersion.2.1 203 = .ok (.aload_n 0, 1) := by decide +kernel
theorem d_Mo_isVersion_204 : decode M_Mo_isVersion.2.1 204 = .ok (.ldc2_w 182, 3) := by decide +kernel
theorem xw_1386 : (Jvm.Cond.constantLong "MarkerTextModel" (182 : Nat) (1000 : Int64)) ∈ xT := xT_at 1386 (by decide +kernel) (by decide +kernel)
theorem d_Mo_isVersion_207 : decode M_Mo_isVersion.2.1 207 = .ok (.aload_n 0, 1) := by decide +kernel
theorem d_Mo_isVersion_208 : decode M_Mo_isVersion.2.1 208 = .ok (.getfield 173, 3) := by decide +kernel
theorem d_Mo_isVersion_211 : decode M_Mo_isVersion.2.1 211 = .ok (.lmul, 1) := by decide +kernel
theorem d_Mo_isVersion_212 : decode M_Mo_isVersion.2.1 212 = .ok (.putfield 173, 3) := by decide +kernel
theorem d_Mo_isVersion_215 : decode M_Mo_isVersion.2.1 215 = .ok (.iinc 5 1, 3) := by decide +kernel
theorem d_Mo_isVersion_218 : decode M_Mo_isVersion.2.1 218 = .ok (.goto (-21), 3) := by decide +kernel
theorem d_Mo_isVersion_13 : decode M_Mo_isVersion.2.1 13 = .ok (.iload_n 3, 1) := by decide +kernel
theorem d_Mo_isVersion_14 : decode M_Mo_isVersion.2.1 14 = .ok (.ifCond .eq 183, 3) := by decide +kernel
theorem d_Mo_isVersion_17 : decode M_Mo_isVersion.2.1 17 = .ok (.iload 5, 2) := by decide +kernel
theorem d_Mo_isVersion_19 : decode M_Mo_isVersion.2.1 19 = .ok (.iconst 3, 1) := by decide +kernel
theorem d_Mo_isVersion_20 : decode M_Mo_isVersion.2.1 20 = .ok (.if_icmp .ge 177, 3) := by decide +kernel
theorem d_Mo_isVersion_174 : decode M_Mo_isVersion.2.1 174 = .ok (.istore_n 3, 1) := by decide +kernel
theorem d_Mo_isVersion_175 : decode M_Mo_isVersion.2.1 175 = .ok (.aload_n 0, 1) := by decide +kernel
theorem d_Mo_isVersion_176 : decode M_Mo_isVersion.2.1 176 = .ok (.ldc2_w 182, 3) := by decide +kernel
theorem d_Mo_isVersion_179 : decode M_Mo_isVersion.2.1 179 = .ok (.aload_n 0, 1) := by decide +kernel
theorem d_Mo_isVersion_180 : decode M_Mo_isVersion.2.1 180 = .ok (.getfield 173, 3) := by decide +kernel
theorem d_Mo_isVersion_183 : decode M_Mo_isVersion.2.1 183 = .ok (.lmul, 1) := by decide +kernel
theorem d_Mo_isVersion_184 : decode M_Mo_isVersion.2.1 184 = .ok (.iload 7, 2) := by decide +kernel
theorem d_Mo_isVersion_186 : decode M_Mo_isVersion.2.1 186 = .ok (.i2l, 1) := by decide +kernel
theorem d_Mo_isVersion_187 : decode M_Mo_isVersion.2.1 187 = .ok (.ladd, 1) := by decide +kernel
theorem d_Mo_isVersion_188 : decode M_Mo_isVersion.2.1 188 = .ok (.putfield 173, 3) := by decide +kernel
theorem d_Mo_isVersion_191 : decode M_Mo_isVersion.2.1 191 = .ok (.iinc 5 1, 3) := by decide +kernel
theorem d_Mo_isVersion_194 : decode M_Mo_isVersion.2.1 194 = .ok (.goto (-181), 3) := by decide +kernel
theorem d_Mo_isVersion_79 : decode M_Mo_isVersion.2.1 79 = .ok (.iload 4, 2) := by decide +kernel
theorem d_Mo_isVersion_81 : decode M_Mo_isVersion.2.1 81 = .ok (.iload_n 2, 1) := by decide +kernel
theorem d_Mo_isVersion_82 : decode M_Mo_isVersion.2.1 82 = .ok (.if_icmp .ge 49, 3) := by decide +kernel
theorem d_Mo_isVersion_131 : decode M_Mo_isVersion.2.1 131 = .ok (.iload_n 3, 1) := by decide +kernel
theorem d_Mo_isVersion_132 : decode M_Mo_isVersion.2.1 132 = .ok (.ifCond .eq 41, 3) := by decide +kernel
theorem d_Mo_isVersion_173 : decode M_Mo_isVersion.2.1 173 = .ok (.iconst 0, 1) := by decide +kernel
theorem d_Mo_isVersion_135 : decode M_Mo_isVersion.2.1 135 = .ok (.iload 4, 2) := by decide +kernel
theorem d_Mo_isVersion_137 : decode M_Mo_isVersion.2.1 137 = .ok (.iload 6, 2) := by decide +kernel
theorem d_Mo_isVersion_139 : decode M_Mo_isVersion.2.1 139 = .ok (.isub, 1) := by decide +kernel
theorem d_Mo_isVersion_140 : decode M_Mo_isVersion.2.1 140 = .ok (.iconst 1, 1) := by decide +kernel
theorem d_Mo_isVersion_141 : decode M_Mo_isVersion.2.1 141 = .ok (.iconst 3, 1) := by decide +kernel
theorem d_Mo_isVersion_142 : decode M_Mo_isVersion.2.1 142 = .ok (.invokestatic 150, 3) := by decide +kernel
theorem d_Mo_isVersion_145 : decode M_Mo_isVersion.2.1 145 = .ok (.ifCond .eq 28, 3) := by decide +kernel
theorem d_Mo_isVersion_148 : decode M_Mo_isVersion.2.1 148 = .ok (.iload 4, 2) := by decide +kernel
theorem d_Mo_isVersion_150 : decode M_Mo_isVersion.2.1 150 = .ok (.iload 6, 2) := by decide +kernel
theorem d_Mo_isVersion_152 : decode M_Mo_isVersion.2.1 152 = .ok (.iconst 1, 1) := by decide +kernel
theorem d_Mo_isVersion_153 : decode M_Mo_isVersion.2.1 153 = .ok (.iadd, 1) := by decide +kernel
theorem d_Mo_isVersion_154 : decode M_Mo_isVersion.2.1 154 = .ok (.if_icmp .eq 15, 3) := by decide +kernel
theorem d_Mo_isVersion_169 : decode M_Mo_isVersion.2.1 169 = .ok (.iconst 1, 1) := by decide +kernel
theorem d_Mo_isVersion_170 : decode M_Mo_isVersion.2.1 170 = .ok (.goto 4, 3) := by decide +kernel
theorem d_Mo_isVersion_157 : decode M_Mo_isVersion.2.1 157 = .ok (.aload_n 0, 1) := by decide +kernel
theorem d_Mo_isVersion_158 : decode M_Mo_isVersion.2.1 158 = .ok (.getfield 7, 3) := by decide +kernel
theorem d_Mo_isVersion_161 : decode M_Mo_isVersion.2.1 161 = .ok (.iload 6, 2) := by decide +kernel
theorem d_Mo_isVersion_163 : decode M_Mo_isVersion.2.1 163 = .ok (.iaload, 1) := by decide +kernel
theorem d_Mo_isVersion_164 : decode M_Mo_isVersion.2.1 164 = .ok (.bipush 48, 2) := by decide +kernel
theorem d_Mo_isVersion_166 : decode M_Mo_isVersion.2.1 166 = .ok (.if_icmp .eq 7, 3) := by decide +kernel
theorem d_Mo_isVersion_85 : decode M_Mo_isVersion.2.1 85 = .ok (.aload_n 0, 1) := by decide +kernel
theorem d_Mo_isVersion_86 : decode M_Mo_isVersion.2.1 86 = .ok (.getfield 7, 3) := by decide +kernel
theorem d_Mo_isVersion_89 : decode M_Mo_isVersion.2.1 89 = .ok (.iload 4, 2) := by decide +kernel
theorem d_Mo_isVersion_91 : decode M_Mo_isVersion.2.1 91 = .ok (.iaload, 1) := by decide +kernel
theorem d_Mo_isVersion_92 : decode M_Mo_isVersion.2.1 92 = .ok (.invokestatic 177, 3) := by decide +kernel
theorem d_Mo_isVersion_95 : decode M_Mo_isVersion.2.1 95 = .ok (.ifCond .eq 36, 3) := by decide +kernel
theorem d_Mo_isVersion_98 : decode M_Mo_isVersion.2.1 98 = .ok (.iload 4, 2) := by decide +kernel
theorem d_Mo_isVersion_100 : decode M_Mo_isVersion.2.1 100 = .ok (.iload 6, 2) := by decide +kernel
theorem d_Mo_isVersion_102 : decode M_Mo_isVersion.2.1 102 = .ok (.iconst 4, 1) := by decide +kernel
theorem d_Mo_isVersion_103 : decode M_Mo_isVersion.2.1 103 = .ok (.iadd, 1) := by decide +kernel
theorem d_Mo_isVersion_104 : decode M_Mo_isVersion.2.1 104 = .ok (.if_icmp .ge 27, 3) := by decide +kernel
theorem d_Mo_isVersion_107 : decode M_Mo_isVersion.2.1 107 = .ok (.bipush 10, 2) := by decide +kernel
theorem d_Mo_isVersion_109 : decode M_Mo_isVersion.2.1 109 = .ok (.iload 7, 2) := by decide +kernel
theorem d_Mo_isVersion_111 : decode M_Mo_isVersion.2.1 111 = .ok (.imul, 1) := by decide +kernel
theorem d_Mo_isVersion_112 : decode M_Mo_isVersion.2.1 112 = .ok (.aload_n 0, 1) := by decide +kernel
theorem d_Mo_isVersion_113 : decode M_Mo_isVersion.2.1 113 = .ok (.getfield 7, 3) := by decide +kernel
theorem d_Mo_isVersion_116 : decode M_Mo_isVersion.2.1 116 = .ok (.iload 4, 2) := by decide +kernel
theorem d_Mo_isVersion_118 : decode M_Mo_isVersion.2.1 118 = .ok (.iaload, 1) := by decide +kernel
theorem d_Mo_isVersion_119 : decode M_Mo_isVersion.2.1 119 = .ok (.iadd, 1) := by decide +kernel
theorem d_Mo_isVersion_120 : decode M_Mo_isVersion.2.1 120 = .ok (.bipush 48, 2) := by decide +kernel
theorem d_Mo_isVersion_122 : decode M_Mo_isVersion.2.1 122 = .ok (.isub, 1) := by decide +kernel
theorem d_Mo_isVersion_123 : decode M_Mo_isVersion.2.1 123 = .ok (.istore 7, 2) := by decide +kernel
theorem d_Mo_isVersion_125 : decode M_Mo_isVersion.2.1 125 = .ok (.iinc 4 1, 3) := by decide +kernel
theorem d_Mo_isVersion_128 : decode M_Mo_isVersion.2.1 128 = .ok (.goto (-49), 3) := by decide +kernel
theorem d_Mo_isVersion_23 : decode M_Mo_isVersion.2.1 23 = .ok (.iload 5, 2) := by decide +kernel
theorem d_Mo_isVersion_25 : decode M_Mo_isVersion.2.1 25 = .ok (.ifCond .eq 9, 3) := by decide +kernel
theorem d_Mo_isVersion_34 : decode M_Mo_isVersion.2.1 34 = .ok (.iload 5, 2) := by decide +kernel
theorem d_Mo_isVersion_36 : decode M_Mo_isVersion.2.1 36 = .ok (.ifCond .eq 15, 3) := by decide +kernel
theorem d_Mo_isVersion_51 : decode M_Mo_isVersion.2.1 51 = .ok (.iconst 1, 1) := by decide +kernel
theorem d_Mo_isVersion_52 : decode M_Mo_isVersion.2.1 52 = .ok (.goto 4, 3) := by decide +kernel
theorem d_Mo_isVersion_56 : decode M_Mo_isVersion.2.1 56 = .ok (.istore_n 3, 1) := by decide +kernel
theorem d_Mo_isVersion_57 : decode M_Mo_isVersion.2.1 57 = .ok (.iload 4, 2) := by decide +kernel
theorem d_Mo_isVersion_59 : decode M_Mo_isVersion.2.1 59 = .ok (.iload 5, 2) := by decide +kernel
theorem d_Mo_isVersion_61 : decode M_Mo_isVersion.2.1 61 = .ok (.ifCond .ne 7, 3) := by decide +kernel
theorem d_Mo_isVersion_68 : decode M_Mo_isVersion.2.1 68 = .ok (.iconst 1, 1) := by decide +kernel
theorem d_Mo_isVersion_69 : decode M_Mo_isVersion.2.1 69 = .ok (.iadd, 1) := by decide +kernel
theorem d_Mo_isVersion_70 : decode M_Mo_isVersion.2.1 70 = .ok (.istore 4, 2) := by decide +kernel
theorem d_Mo_isVersion_72 : decode M_Mo_isVersion.2.1 72 = .ok (.iload 4, 2) := by decide +kernel
theorem d_Mo_isVersion_74 : decode M_Mo_isVersion.2.1 74 = .ok (.istore 6, 2) := by decide +kernel
theorem d_Mo_isVersion_76 : decode M_Mo_isVersion.2.1 76 = .ok (.iconst 0, 1) := by decide +kernel
theorem d_Mo_isVersion_77 : decode M_Mo_isVersion.2.1 77 = .ok (.istore 7, 2) := by decide +kernel
theorem d_Mo_isVersion_64 : decode M_Mo_isVersion.2.1 64 = .ok (.iconst 0, 1) := by decide +kernel
theorem d_Mo_isVersion_65 : decode M_Mo_isVersion.2.1 65 = .ok (.goto 4, 3) := by decide +kernel
theorem d_Mo_isVersion_39 : decode M_Mo_isVersion.2.1 39 = .ok (.aload_n 0, 1) := by decide +kernel
theorem d_Mo_isVersion_40 : decode M_Mo_isVersion.2.1 40 = .ok (.getfield 7, 3) := by decide +kernel
theorem d_Mo_isVersion_43 : decode M_Mo_isVersion.2.1 43 = .ok (.iload 4, 2) := by decide +kernel
theorem d_Mo_isVersion_45 : decode M_Mo_isVersion.2.1 45 = .ok (.iaload, 1) := by decide +kernel
theorem d_Mo_isVersion_46 : decode M_Mo_isVersion.2.1 46 = .ok (.bipush 46, 2) := by decide +kernel
theorem d_Mo_isVersion_48 : decode M_Mo_isVersion.2.1 48 = .ok (.if_icmp .ne 7, 3) := by decide +kernel
theorem d_Mo_isVersion_55 : decode M_Mo_isVersion.2.1 55 = .ok (.iconst 0, 1) := by decide +kernel
theorem d_Mo_isVersion_28 : decode M_Mo_isVersion.2.1 28 = .ok (.iload 4, 2) := by decide +kernel
theorem d_Mo_isVersion_30 : decode M_Mo_isVersion.2.1 30 = .ok (.iload_n 2, 1) := by decide +kernel
theorem d_Mo_isVersion_31 : decode M_Mo_isVersion.2.1 31 = .ok (.if_icmp .ge 166, 3) := by decide +kernel
theorem d_Mo_isVersion_0 : decode M_Mo_isVersion.2.1 0 = .ok (.aload_n 0, 1) := by decide +kernel
theorem d_Mo_isVersion_1 : decode M_Mo_isVersion.2.1 1 = .ok (.lconst 0, 1) := by decide +kernel
theorem d_Mo_isVersion_2 : decode M_Mo_isVersion.2.1 2 = .ok (.putfield 173, 3) := by decide +kernel
theorem d_Mo_isVersion_5 : decode M_Mo_isVersion.2.1 5 = .ok (.iconst 1, 1) := by decide +kernel
theorem d_Mo_isVersion_6 : decode M_Mo_isVersion.2.1 6 = .ok (.istore_n 3, 1) := by decide +kernel
theorem d_Mo_isVersion_7 : decode M_Mo_isVersion.2.1 7 = .ok (.iload_n 1, 1) := by decide +kernel
theorem d_Mo_isVersion_8 : decode M_Mo_isVersion.2.1 8 = .ok (.istore 4, 2) := by decide +kernel
theorem d_Mo_isVersion_10 : decode M_Mo_isVersion.2.1 10 = .ok (.iconst 0, 1) := by decide +kernel
theorem d_Mo_isVersion_11 : decode M_Mo_isVersion.2.1 11 = .ok (.istore 5, 2) := by decide +kernel
abbrev y_Mo_isValue : MethodName := ⟨"MarkerTextModel", "isValue", "(III)Z"⟩
abbrev M_Mo_isValue : XMt := (y_Mo_isValue, prog_13_method_12_code, 4, (some .boolean))
theorem d_Mo_isValue_0 : decode M_Mo_isValue.2.1 0 = .ok (.iload_n 3, 1) := by decide +kernel
theorem d_Mo_isValue_1 : decode M_Mo_isValue.2.1 1 = .ok (.ifCond .ne 12, 3) := by decide +kernel
theorem d_Mo_isValue_13 : decode M_Mo_isValue.2.1 13 = .ok (.aload_n 0, 1) := by decide +kernel
theorem d_Mo_isValue_14 : decode M_Mo_isValue.2.1 14 = .ok (.iload_n 1, 1) := by decide +kernel
theorem d_Mo_isValue_15 : decode M_Mo_isValue.2.1 15 = .ok (.iload_n 2, 1) := by decide +kernel
theorem d_Mo_isValue_16 : decode M_Mo_isValue.2.1 16 = .ok (.invokevirtual 170, 3) := by decide +kernel
theorem xw_1385 : (Jvm.Cond.code ({ cls := "MarkerTextModel", name := "isVersion", desc := "(II)Z" } : Jvm.MethodName) prog_13_method_14_code (8 : Nat) (Option.some Jvm.ClassFile.FieldType.boolean)) ∈ xT := xT_at 1385 (by decide +kernel) (by decide +kernel)
theorem xcb_Mo_isVersion : xcb M_Mo_isVersion 2 := ⟨xw_1385, xw_8, by decide, by decide, by decide, by decide +kernel⟩
theorem xw_1384 : (Jvm.Cond.instanceMethod ({ cls := "MarkerTextModel", name := "isVersion", desc := "(II)Z" } : Jvm.MethodName)) ∈ xT := xT_at 1384 (by decide +kernel) (by decide +kernel)
theorem xw_1382 : (Jvm.Cond.methodLink "MarkerTextModel" (170 : Nat) ({ cls := "MarkerTextModel", name := "isVersion", desc := "(II)Z" } : Jvm.MethodName)) ∈ xT := xT_at 1382 (by decide +kernel) (by decide +kernel)
theorem xsel_Mo_isVersion : Cond.selects "MarkerTextModel" y_Mo_isVersion y_Mo_isVersion ∈ xT := xT_sel (q := (y_Mo_isVersion, 52)) (by decide +kernel) (by decide +kernel)
theorem xcv_Mo_170_Mo : xCV "MarkerTextModel" 170 "MarkerTextModel" M_Mo_isVersion 2 := ⟨xcb_Mo_isVersion, xw_1384, Or.inl ⟨xw_1382, Or.inl xsel_Mo_isVersion⟩⟩
theorem d_Mo_isValue_19 : decode M_Mo_isValue.2.1 19 = .ok (.ireturn, 1) := by decide +kernel
theorem d_Mo_isValue_4 : decode M_Mo_isValue.2.1 4 = .ok (.aload_n 0, 1) := by decide +kernel
theorem d_Mo_isValue_5 : decode M_Mo_isValue.2.1 5 = .ok (.iload_n 1, 1) := by decide +kernel
theorem d_Mo_isValue_6 : decode M_Mo_isValue.2.1 6 = .ok (.iload_n 2, 1) := by decide +kernel
theorem d_Mo_isValue_7 : decode M_Mo_isValue.2.1 7 = .ok (.invokevirtual 166, 3) := by decide +kernel
theorem xw_1377 : (Jvm.Cond.code ({ cls := "MarkerTextModel", name := "isText", desc := "(II)Z" } : Jvm.MethodName) prog_13_method_13_code (6 : Nat) (Option.some Jvm.ClassFile.FieldType.boolean)) ∈ xT := xT_at 1377 (by decide +kernel) (by decide +kernel)
theorem xcb_Mo_isText : xcb M_Mo_isText 2 := ⟨xw_1377, xw_8, by decide, by decide, by decide, by decide +kernel⟩
theorem xw_1376 : (Jvm.Cond.instanceMethod ({ cls := "MarkerTextModel", name := "isText", desc := "(II)Z" } : Jvm.MethodName)) ∈ xT := xT_at 1376 (by decide +kernel) (by decide +kernel)
theorem xw_1374 : (Jvm.Cond.methodLink "MarkerTextModel" (166 : Nat) ({ cls := "MarkerTextModel", name := "isText", desc := "(II)Z" } : Jvm.MethodName)) ∈ xT := xT_at 1374 (by decide +kernel) (by decide +kernel)
theorem xsel_Mo_isText : Cond.selects "MarkerTextModel" y_Mo_isText y_Mo_isText ∈ xT := xT_sel (q := (y_Mo_isText, 52)) (by decide +kernel) (by decide +kernel)
theorem xcv_Mo_166_Mo : xCV "MarkerTextModel" 166 "MarkerTextModel" M_Mo_isText 2 := ⟨xcb_Mo_isText, xw_1376, Or.inl ⟨xw_1374, Or.inl xsel_Mo_isText⟩⟩
theorem d_Mo_isValue_10 : decode M_Mo_isValue.2.1 10 = .ok (.goto 9, 3) := by decide +kernel
end
section RF3
variable {l : Launch} {G : XG} {h : XH} {c n d : Nat} {o : Nat} {rf : Nat → Nat} {S : MS}
/-- S' is S but for these fields, rows of ints, rows of longs -/
def rSm (S S' : MS) (js is ls : List Nat) : Prop := (∀ j, j ∉ js → S'.1 j = S.1 j) ∧ (∀ i, i ∉ is → S'.2.1 i = S.2.1 i) ∧ ∀ i, i ∉ ls → S'.2.2.1 i = S.2.2.1 i
theorem rSm.r0 {js is ls : List Nat} : rSm S S js is ls := ⟨fun _ _ => rfl, fun _ _ => rfl, fun _ _ => rfl⟩
theorem rSm.sp {S' : MS} {js is ls : List Nat} {j : Nat} {z : Int} (h : rSm S S' js is ls) (hj : j ∈ js) : rSm S (sp S' j z) js is ls := ⟨fun q hq => by show fup S'.1 j z q = _; rw [fup_ne (fun e : q = j => hq (by rw [e]; exact hj))]; exact h.1 q hq, h.2.1, h.2.2⟩
theorem rSm.sa {S' : MS} {js is ls : List Nat} {i : Nat} {us : List Int} (h : rSm S S' js is ls) (hi : i ∈ is) : rSm S (sa S' i us) js is ls := ⟨h.1, fun q hq => by show fup S'.2.1 i us q = _; rw [fup_ne (fun e : q = i => hq (by rw [e]; exact hi))]; exact h.2.1 q hq, h.2.2⟩
theorem rSm.sl {S' : MS} {js is ls : List Nat} {i : Nat} {us : List Int64} (h : rSm S S' js is ls) (hi : i ∈ ls) : rSm S (sl S' i us) js is ls := ⟨h.1, h.2.1, fun q hq => by show fup S'.2.2.1 i us q = _; rw [fup_ne (fun e : q = i => hq (by rw [e]; exact hi))]; exact h.2.2 q hq⟩
theorem rSm.tr {S' S'' : MS} {js is ls : List Nat} (h : rSm S S' js is ls) (h2 : rSm S' S'' js is ls) : rSm S S'' js is ls := ⟨fun q hq => (h2.1 q hq).trans (h.1 q hq), fun q hq => (h2.2.1 q hq).trans (h.2.1 q hq), fun q hq => (h2.2.2 q hq).trans (h.2.2 q hq)⟩
theorem rSm.mono {S' : MS} {js is ls js' is' ls' : List Nat} (h : rSm S S' js is ls) (h1 : ∀ j ∈ js, j ∈ js') (h2 : ∀ j ∈ is, j ∈ is') (h3 : ∀ j ∈ ls, j ∈ ls') : rSm S S' js' is' ls' := ⟨fun q hq => h.1 q (fun z => hq (h1 q z)), fun q hq => h.2.1 q (fun z => hq (h2 q z)), fun q hq => h.2.2 q (fun z => hq (h3 q z))⟩
end RF3
