section
abbrev y_Mo_compares : MethodName := ⟨"MarkerTextModel", "compares", "(II)Z"⟩
abbrev M_Mo_compares : XMt := (y_Mo_compares, prog_13_method_38_code, 2, (some .boolean))
theorem d_Mo_compares_0 : decode M_Mo_compares.2.1 0 = .ok (.iload_n 0, 1) := by decide +kernel
theorem d_Mo_compares_1 : decode M_Mo_compares.2.1 1 = .ok (.tableswitch 85 0 4 #[35, 45, 55, 65, 75], 35) := by decide +kernel
theorem d_Mo_compares_36 : decode M_Mo_compares.2.1 36 = .ok (.iload_n 1, 1) := by decide +kernel
theorem d_Mo_compares_37 : decode M_Mo_compares.2.1 37 = .ok (.ifCond .ne 7, 3) := by decide +kernel
theorem d_Mo_compares_44 : decode M_Mo_compares.2.1 44 = .ok (.iconst 0, 1) := by decide +kernel
theorem d_Mo_compares_45 : decode M_Mo_compares.2.1 45 = .ok (.ireturn, 1) := by decide +kernel
theorem d_Mo_compares_40 : decode M_Mo_compares.2.1 40 = .ok (.iconst 1, 1) := by decide +kernel
theorem d_Mo_compares_41 : decode M_Mo_compares.2.1 41 = .ok (.goto 4, 3) := by decide +kernel
theorem d_Mo_compares_46 : decode M_Mo_compares.2.1 46 = .ok (.iload_n 1, 1) := by decide +kernel
theorem d_Mo_compares_47 : decode M_Mo_compares.2.1 47 = .ok (.ifCond .eq 7, 3) := by decide +kernel
theorem d_Mo_compares_54 : decode M_Mo_compares.2.1 54 = .ok (.iconst 0, 1) := by decide +kernel
theorem d_Mo_compares_55 : decode M_Mo_compares.2.1 55 = .ok (.ireturn, 1) := by decide +kernel
theorem d_Mo_compares_50 : decode M_Mo_compares.2.1 50 = .ok (.iconst 1, 1) := by decide +kernel
theorem d_Mo_compares_51 : decode M_Mo_compares.2.1 51 = .ok (.goto 4, 3) := by decide +kernel
theorem d_Mo_compares_56 : decode M_Mo_compares.2.1 56 = .ok (.iload_n 1, 1) := by decide +kernel
theorem d_Mo_compares_57 : decode M_Mo_compares.2.1 57 = .ok (.ifCond .ge 7, 3) := by decide +kernel
theorem d_Mo_compares_64 : decode M_Mo_compares.2.1 64 = .ok (.iconst 0, 1) := by decide +kernel
theorem d_Mo_compares_65 : decode M_Mo_compares.2.1 65 = .ok (.ireturn, 1) := by decide +kernel
theorem d_Mo_compares_60 : decode M_Mo_compares.2.1 60 = .ok (.iconst 1, 1) := by decide +kernel
theorem d_Mo_compares_61 : decode M_Mo_compares.2.1 61 = .ok (.goto 4, 3) := by decide +kernel
theorem d_Mo_compares_66 : decode M_Mo_compares.2.1 66 = .ok (.iload_n 1, 1) := by decide +kernel
theorem d_Mo_compares_67 : decode M_Mo_compares.2.1 67 = .ok (.ifCond .gt 7, 3) := by decide +kernel
theorem d_Mo_compares_74 : decode M_Mo_compares.2.1 74 = .ok (.iconst 0, 1) := by decide +kernel
theorem d_Mo_compares_75 : decode M_Mo_compares.2.1 75 = .ok (.ireturn, 1) := by decide +kernel
theorem d_Mo_compares_70 : decode M_Mo_compares.2.1 70 = .ok (.iconst 1, 1) := by decide +kernel
theorem d_Mo_compares_71 : decode M_Mo_compares.2.1 71 = .ok (.goto 4, 3) := by decide +kernel
theorem d_Mo_compares_76 : decode M_Mo_compares.2.1 76 = .ok (.iload_n 1, 1) := by decide +kernel
theorem d_Mo_compares_77 : decode M_Mo_compares.2.1 77 = .ok (.ifCond .le 7, 3) := by decide +kernel
theorem d_Mo_compares_84 : decode M_Mo_compares.2.1 84 = .ok (.iconst 0, 1) := by decide +kernel
theorem d_Mo_compares_85 : decode M_Mo_compares.2.1 85 = .ok (.ireturn, 1) := by decide +kernel
theorem d_Mo_compares_80 : decode M_Mo_compares.2.1 80 = .ok (.iconst 1, 1) := by decide +kernel
theorem d_Mo_compares_81 : decode M_Mo_compares.2.1 81 = .ok (.goto 4, 3) := by decide +kernel
theorem d_Mo_compares_86 : decode M_Mo_compares.2.1 86 = .ok (.iload_n 1, 1) := by decide +kernel
theorem d_Mo_compares_87 : decode M_Mo_compares.2.1 87 = .ok (.ifCond .lt 7, 3) := by decide +kernel
theorem d_Mo_compares_94 : decode M_Mo_compares.2.1 94 = .ok (.iconst 0, 1) := by decide +kernel
theorem d_Mo_compares_95 : decode M_Mo_compares.2.1 95 = .ok (.ireturn, 1) := by decide +kernel
theorem d_Mo_compares_90 : decode M_Mo_compares.2.1 90 = .ok (.iconst 1, 1) := by decide +kernel
theorem d_Mo_compares_91 : decode M_Mo_compares.2.1 91 = .ok (.goto 4, 3) := by decide +kernel
abbrev y_Mo_isTrue : MethodName := ⟨"MarkerTextModel", "isTrue", "(IZ)Z"⟩
abbrev M_Mo_isTrue : XMt := (y_Mo_isTrue, prog_13_method_39_code, 10, (some .boolean))
theorem d_Mo_isTrue_86 : decode M_Mo_isTrue.2.1 86 = .ok (.iload 7, 2) := by decide +kernel
theorem d_Mo_isTrue_88 : decode M_Mo_isTrue.2.1 88 = .ok (.aload_n 0, 1) := by decide +kernel
theorem d_Mo_isTrue_89 : decode M_Mo_isTrue.2.1 89 = .ok (.getfield 60, 3) := by decide +kernel
theorem d_Mo_isTrue_92 : decode M_Mo_isTrue.2.1 92 = .ok (.iload_n 1, 1) := by decide +kernel
theorem d_Mo_isTrue_93 : decode M_Mo_isTrue.2.1 93 = .ok (.iaload, 1) := by decide +kernel
theorem d_Mo_isTrue_94 : decode M_Mo_isTrue.2.1 94 = .ok (.if_icmp .ge 120, 3) := by decide +kernel
theorem d_Mo_isTrue_214 : decode M_Mo_isTrue.2.1 214 = .ok (.iload 6, 2) := by decide +kernel
theorem d_Mo_isTrue_216 : decode M_Mo_isTrue.2.1 216 = .ok (.ireturn, 1) := by decide +kernel
theorem d_Mo_isTrue_206 : decode M_Mo_isTrue.2.1 206 = .ok (.istore 6, 2) := by decide +kernel
theorem d_Mo_isTrue_208 : decode M_Mo_isTrue.2.1 208 = .ok (.iinc 7 1, 3) := by decide +kernel
theorem d_Mo_isTrue_211 : decode M_Mo_isTrue.2.1 211 = .ok (.goto (-125), 3) := by decide +kernel
theorem d_Mo_isTrue_175 : decode M_Mo_isTrue.2.1 175 = .ok (.istore 9, 2) := by decide +kernel
theorem d_Mo_isTrue_177 : decode M_Mo_isTrue.2.1 177 = .ok (.iload 6, 2) := by decide +kernel
theorem d_Mo_isTrue_179 : decode M_Mo_isTrue.2.1 179 = .ok (.ifCond .ne 22, 3) := by decide +kernel
theorem d_Mo_isTrue_201 : decode M_Mo_isTrue.2.1 201 = .ok (.iconst 1, 1) := by decide +kernel
theorem d_Mo_isTrue_202 : decode M_Mo_isTrue.2.1 202 = .ok (.goto 4, 3) := by decide +kernel
theorem d_Mo_isTrue_182 : decode M_Mo_isTrue.2.1 182 = .ok (.iload_n 3, 1) := by decide +kernel
theorem d_Mo_isTrue_183 : decode M_Mo_isTrue.2.1 183 = .ok (.bipush 6, 2) := by decide +kernel
theorem d_Mo_isTrue_185 : decode M_Mo_isTrue.2.1 185 = .ok (.if_icmp .ne 7, 3) := by decide +kernel
theorem d_Mo_isTrue_192 : decode M_Mo_isTrue.2.1 192 = .ok (.iload_n 3, 1) := by decide +kernel
theorem d_Mo_isTrue_193 : decode M_Mo_isTrue.2.1 193 = .ok (.iload 9, 2) := by decide +kernel
theorem d_Mo_isTrue_195 : decode M_Mo_isTrue.2.1 195 = .ok (.invokestatic 274, 3) := by decide +kernel
theorem xw_1493 : (Jvm.Cond.code ({ cls := "MarkerTextModel", name := "compares", desc := "(II)Z" } : Jvm.MethodName) prog_13_method_38_code (2 : Nat) (Option.some Jvm.ClassFile.FieldType.boolean)) ∈ xT := xT_at 1493 (by decide +kernel) (by decide +kernel)
theorem xcb_Mo_compares : xcb M_Mo_compares 2 := ⟨xw_1493, xw_8, by decide, by decide, by decide, by decide +kernel⟩
theorem xw_1491 : (Jvm.Cond.methodLink "MarkerTextModel" (274 : Nat) ({ cls := "MarkerTextModel", name := "compares", desc := "(II)Z" } : Jvm.MethodName)) ∈ xT := xT_at 1491 (by decide +kernel) (by decide +kernel)
theorem xw_1492 : (Jvm.Cond.static ({ cls := "MarkerTextModel", name := "compares", desc := "(II)Z" } : Jvm.MethodName)) ∈ xT := xT_at 1492 (by decide +kernel) (by decide +kernel)
theorem xcs_Mo_274 : xCS "MarkerTextModel" 274 M_Mo_compares 2 := ⟨xcb_Mo_compares, xw_1492, Or.inl xw_1491⟩
theorem d_Mo_isTrue_198 : decode M_Mo_isTrue.2.1 198 = .ok (.ifCond .eq 7, 3) := by decide +kernel
theorem d_Mo_isTrue_205 : decode M_Mo_isTrue.2.1 205 = .ok (.iconst 0, 1) := by decide +kernel
theorem d_Mo_isTrue_188 : decode M_Mo_isTrue.2.1 188 = .ok (.iconst 0, 1) := by decide +kernel
theorem d_Mo_isTrue_189 : decode M_Mo_isTrue.2.1 189 = .ok (.goto 4, 3) := by decide +kernel
theorem d_Mo_isTrue_97 : decode M_Mo_isTrue.2.1 97 = .ok (.aload_n 0, 1) := by decide +kernel
theorem d_Mo_isTrue_98 : decode M_Mo_isTrue.2.1 98 = .ok (.getfield 57, 3) := by decide +kernel
theorem d_Mo_isTrue_101 : decode M_Mo_isTrue.2.1 101 = .ok (.iload_n 1, 1) := by decide +kernel
theorem d_Mo_isTrue_102 : decode M_Mo_isTrue.2.1 102 = .ok (.iaload, 1) := by decide +kernel
theorem d_Mo_isTrue_103 : decode M_Mo_isTrue.2.1 103 = .ok (.iload 7, 2) := by decide +kernel
theorem d_Mo_isTrue_105 : decode M_Mo_isTrue.2.1 105 = .ok (.iadd, 1) := by decide +kernel
theorem d_Mo_isTrue_106 : decode M_Mo_isTrue.2.1 106 = .ok (.istore 8, 2) := by decide +kernel
theorem d_Mo_isTrue_108 : decode M_Mo_isTrue.2.1 108 = .ok (.iload_n 2, 1) := by decide +kernel
theorem d_Mo_isTrue_109 : decode M_Mo_isTrue.2.1 109 = .ok (.ifCond .eq 21, 3) := by decide +kernel
theorem d_Mo_isTrue_130 : decode M_Mo_isTrue.2.1 130 = .ok (.aload_n 0, 1) := by decide +kernel
theorem d_Mo_isTrue_131 : decode M_Mo_isTrue.2.1 131 = .ok (.getfield 33, 3) := by decide +kernel
theorem d_Mo_isTrue_134 : decode M_Mo_isTrue.2.1 134 = .ok (.iload 4, 2) := by decide +kernel
theorem d_Mo_isTrue_136 : decode M_Mo_isTrue.2.1 136 = .ok (.laload, 1) := by decide +kernel
theorem d_Mo_isTrue_137 : decode M_Mo_isTrue.2.1 137 = .ok (.aload_n 0, 1) := by decide +kernel
theorem d_Mo_isTrue_138 : decode M_Mo_isTrue.2.1 138 = .ok (.getfield 66, 3) := by decide +kernel
theorem d_Mo_isTrue_141 : decode M_Mo_isTrue.2.1 141 = .ok (.iload 8, 2) := by decide +kernel
theorem d_Mo_isTrue_143 : decode M_Mo_isTrue.2.1 143 = .ok (.laload, 1) := by decide +kernel
theorem d_Mo_isTrue_144 : decode M_Mo_isTrue.2.1 144 = .ok (.lcmp, 1) := by decide +kernel
theorem d_Mo_isTrue_145 : decode M_Mo_isTrue.2.1 145 = .ok (.ifCond .ge 7, 3) := by decide +kernel
theorem d_Mo_isTrue_152 : decode M_Mo_isTrue.2.1 152 = .ok (.aload_n 0, 1) := by decide +kernel
theorem d_Mo_isTrue_153 : decode M_Mo_isTrue.2.1 153 = .ok (.getfield 33, 3) := by decide +kernel
theorem d_Mo_isTrue_156 : decode M_Mo_isTrue.2.1 156 = .ok (.iload 4, 2) := by decide +kernel
theorem d_Mo_isTrue_158 : decode M_Mo_isTrue.2.1 158 = .ok (.laload, 1) := by decide +kernel
theorem d_Mo_isTrue_159 : decode M_Mo_isTrue.2.1 159 = .ok (.aload_n 0, 1) := by decide +kernel
theorem d_Mo_isTrue_160 : decode M_Mo_isTrue.2.1 160 = .ok (.getfield 66, 3) := by decide +kernel
theorem d_Mo_isTrue_163 : decode M_Mo_isTrue.2.1 163 = .ok (.iload 8, 2) := by decide +kernel
theorem d_Mo_isTrue_165 : decode M_Mo_isTrue.2.1 165 = .ok (.laload, 1) := by decide +kernel
theorem d_Mo_isTrue_166 : decode M_Mo_isTrue.2.1 166 = .ok (.lcmp, 1) := by decide +kernel
theorem d_Mo_isTrue_167 : decode M_Mo_isTrue.2.1 167 = .ok (.ifCond .le 7, 3) := by decide +kernel
theorem d_Mo_isTrue_174 : decode M_Mo_isTrue.2.1 174 = .ok (.iconst 0, 1) := by decide +kernel
theorem d_Mo_isTrue_170 : decode M_Mo_isTrue.2.1 170 = .ok (.iconst 1, 1) := by decide +kernel
theorem d_Mo_isTrue_171 : decode M_Mo_isTrue.2.1 171 = .ok (.goto 4, 3) := by decide +kernel
theorem d_Mo_isTrue_148 : decode M_Mo_isTrue.2.1 148 = .ok (.iconst (-1), 1) := by decide +kernel
theorem d_Mo_isTrue_149 : decode M_Mo_isTrue.2.1 149 = .ok (.goto 26, 3) := by decide +kernel
theorem d_Mo_isTrue_112 : decode M_Mo_isTrue.2.1 112 = .ok (.aload_n 0, 1) := by decide +kernel
theorem d_Mo_isTrue_113 : decode M_Mo_isTrue.2.1 113 = .ok (.getfield 100, 3) := by decide +kernel
theorem d_Mo_isTrue_116 : decode M_Mo_isTrue.2.1 116 = .ok (.iload 4, 2) := by decide +kernel
theorem d_Mo_isTrue_118 : decode M_Mo_isTrue.2.1 118 = .ok (.iaload, 1) := by decide +kernel
theorem d_Mo_isTrue_119 : decode M_Mo_isTrue.2.1 119 = .ok (.aload_n 0, 1) := by decide +kernel
theorem d_Mo_isTrue_120 : decode M_Mo_isTrue.2.1 120 = .ok (.getfield 75, 3) := by decide +kernel
theorem d_Mo_isTrue_123 : decode M_Mo_isTrue.2.1 123 = .ok (.iload 8, 2) := by decide +kernel
theorem d_Mo_isTrue_125 : decode M_Mo_isTrue.2.1 125 = .ok (.iaload, 1) := by decide +kernel
theorem d_Mo_isTrue_126 : decode M_Mo_isTrue.2.1 126 = .ok (.isub, 1) := by decide +kernel
theorem d_Mo_isTrue_127 : decode M_Mo_isTrue.2.1 127 = .ok (.goto 48, 3) := by decide +kernel
theorem d_Mo_isTrue_62 : decode M_Mo_isTrue.2.1 62 = .ok (.istore 5, 2) := by decide +kernel
theorem d_Mo_isTrue_64 : decode M_Mo_isTrue.2.1 64 = .ok (.iload 5, 2) := by decide +kernel
theorem d_Mo_isTrue_66 : decode M_Mo_isTrue.2.1 66 = .ok (.ifCond .ne 14, 3) := by decide +kernel
theorem d_Mo_isTrue_80 : decode M_Mo_isTrue.2.1 80 = .ok (.iconst 0, 1) := by decide +kernel
theorem d_Mo_isTrue_81 : decode M_Mo_isTrue.2.1 81 = .ok (.istore 6, 2) := by decide +kernel
theorem d_Mo_isTrue_83 : decode M_Mo_isTrue.2.1 83 = .ok (.iconst 0, 1) := by decide +kernel
theorem d_Mo_isTrue_84 : decode M_Mo_isTrue.2.1 84 = .ok (.istore 7, 2) := by decide +kernel
theorem d_Mo_isTrue_69 : decode M_Mo_isTrue.2.1 69 = .ok (.iload_n 3, 1) := by decide +kernel
theorem d_Mo_isTrue_70 : decode M_Mo_isTrue.2.1 70 = .ok (.iconst 1, 1) := by decide +kernel
theorem d_Mo_isTrue_71 : decode M_Mo_isTrue.2.1 71 = .ok (.if_icmp .ne 7, 3) := by decide +kernel
theorem d_Mo_isTrue_78 : decode M_Mo_isTrue.2.1 78 = .ok (.iconst 0, 1) := by decide +kernel
theorem d_Mo_isTrue_79 : decode M_Mo_isTrue.2.1 79 = .ok (.ireturn, 1) := by decide +kernel
theorem d_Mo_isTrue_74 : decode M_Mo_isTrue.2.1 74 = .ok (.iconst 1, 1) := by decide +kernel
theorem d_Mo_isTrue_75 : decode M_Mo_isTrue.2.1 75 = .ok (.goto 4, 3) := by decide +kernel
theorem d_Mo_isTrue_0 : decode M_Mo_isTrue.2.1 0 = .ok (.aload_n 0, 1) := by decide +kernel
theorem d_Mo_isTrue_1 : decode M_Mo_isTrue.2.1 1 = .ok (.getfield 54, 3) := by decide +kernel
theorem d_Mo_isTrue_4 : decode M_Mo_isTrue.2.1 4 = .ok (.iload_n 1, 1) := by decide +kernel
theorem d_Mo_isTrue_5 : decode M_Mo_isTrue.2.1 5 = .ok (.iaload, 1) := by decide +kernel
theorem d_Mo_isTrue_6 : decode M_Mo_isTrue.2.1 6 = .ok (.istore_n 3, 1) := by decide +kernel
theorem d_Mo_isTrue_7 : decode M_Mo_isTrue.2.1 7 = .ok (.iload_n 3, 1) := by decide +kernel
theorem d_Mo_isTrue_8 : decode M_Mo_isTrue.2.1 8 = .ok (.bipush 6, 2) := by decide +kernel
theorem d_Mo_isTrue_10 : decode M_Mo_isTrue.2.1 10 = .ok (.if_icmp .le 15, 3) := by decide +kernel
theorem d_Mo_isTrue_25 : decode M_Mo_isTrue.2.1 25 = .ok (.aload_n 0, 1) := by decide +kernel
theorem d_Mo_isTrue_26 : decode M_Mo_isTrue.2.1 26 = .ok (.getfield 51, 3) := by decide +kernel
theorem d_Mo_isTrue_29 : decode M_Mo_isTrue.2.1 29 = .ok (.iload_n 1, 1) := by decide +kernel
theorem d_Mo_isTrue_30 : decode M_Mo_isTrue.2.1 30 = .ok (.iaload, 1) := by decide +kernel
theorem d_Mo_isTrue_31 : decode M_Mo_isTrue.2.1 31 = .ok (.istore 4, 2) := by decide +kernel
theorem d_Mo_isTrue_33 : decode M_Mo_isTrue.2.1 33 = .ok (.iload_n 2, 1) := by decide +kernel
theorem d_Mo_isTrue_34 : decode M_Mo_isTrue.2.1 34 = .ok (.ifCond .eq 21, 3) := by decide +kernel
theorem d_Mo_isTrue_55 : decode M_Mo_isTrue.2.1 55 = .ok (.aload_n 0, 1) := by decide +kernel
theorem d_Mo_isTrue_56 : decode M_Mo_isTrue.2.1 56 = .ok (.getfield 29, 3) := by decide +kernel
theorem d_Mo_isTrue_59 : decode M_Mo_isTrue.2.1 59 = .ok (.iload 4, 2) := by decide +kernel
theorem d_Mo_isTrue_61 : decode M_Mo_isTrue.2.1 61 = .ok (.baload, 1) := by decide +kernel
theorem d_Mo_isTrue_37 : decode M_Mo_isTrue.2.1 37 = .ok (.aload_n 0, 1) := by decide +kernel
theorem d_Mo_isTrue_38 : decode M_Mo_isTrue.2.1 38 = .ok (.getfield 100, 3) := by decide +kernel
theorem d_Mo_isTrue_41 : decode M_Mo_isTrue.2.1 41 = .ok (.iload 4, 2) := by decide +kernel
theorem d_Mo_isTrue_43 : decode M_Mo_isTrue.2.1 43 = .ok (.iaload, 1) := by decide +kernel
theorem d_Mo_isTrue_44 : decode M_Mo_isTrue.2.1 44 = .ok (.ifCond .le 7, 3) := by decide +kernel
theorem d_Mo_isTrue_51 : decode M_Mo_isTrue.2.1 51 = .ok (.iconst 0, 1) := by decide +kernel
theorem d_Mo_isTrue_52 : decode M_Mo_isTrue.2.1 52 = .ok (.goto 10, 3) := by decide +kernel
theorem d_Mo_isTrue_47 : decode M_Mo_isTrue.2.1 47 = .ok (.iconst 1, 1) := by decide +kernel
theorem d_Mo_isTrue_48 : decode M_Mo_isTrue.2.1 48 = .ok (.goto 14, 3) := by decide +kernel
theorem d_Mo_isTrue_13 : decode M_Mo_isTrue.2.1 13 = .ok (.iload_n 3, 1) := by decide +kernel
theorem d_Mo_isTrue_14 : decode M_Mo_isTrue.2.1 14 = .ok (.bipush 7, 2) := by decide +kernel
theorem d_Mo_isTrue_16 : decode M_Mo_isTrue.2.1 16 = .ok (.if_icmp .ne 7, 3) := by decide +kernel
theorem d_Mo_isTrue_23 : decode M_Mo_isTrue.2.1 23 = .ok (.iconst 0, 1) := by decide +kernel
theorem d_Mo_isTrue_24 : decode M_Mo_isTrue.2.1 24 = .ok (.ireturn, 1) := by decide +kernel
theorem d_Mo_isTrue_19 : decode M_Mo_isTrue.2.1 19 = .ok (.iconst 1, 1) := by decide +kernel
theorem d_Mo_isTrue_20 : decode M_Mo_isTrue.2.1 20 = .ok (.goto 4, 3) := by decide +kernel
abbrev y_Mo_isHeld : MethodName := ⟨"MarkerTextModel", "isHeld", "(IZ)Z"⟩
abbrev M_Mo_isHeld : XMt := (y_Mo_isHeld, prog_13_method_40_code, 8, (some .boolean))
theorem d_Mo_isHeld_9 : decode M_Mo_isHeld.2.1 9 = .ok (.iload 4, 2) := by decide +kernel
theorem d_Mo_isHeld_11 : decode M_Mo_isHeld.2.1 11 = .ok (.aload_n 0, 1) := by decide +kernel
theorem d_Mo_isHeld_12 : decode M_Mo_isHeld.2.1 12 = .ok (.getfield 45, 3) := by decide +kernel
theorem d_Mo_isHeld_15 : decode M_Mo_isHeld.2.1 15 = .ok (.iload_n 1, 1) := by decide +kernel
theorem d_Mo_isHeld_16 : decode M_Mo_isHeld.2.1 16 = .ok (.iaload, 1) := by decide +kernel
theorem d_Mo_isHeld_17 : decode M_Mo_isHeld.2.1 17 = .ok (.if_icmp .ge 195, 3) := by decide +kernel
theorem d_Mo_isHeld_212 : decode M_Mo_isHeld.2.1 212 = .ok (.aload_n 0, 1) := by decide +kernel
theorem d_Mo_isHeld_213 : decode M_Mo_isHeld.2.1 213 = .ok (.getfield 103, 3) := by decide +kernel
theorem d_Mo_isHeld_216 : decode M_Mo_isHeld.2.1 216 = .ok (.aload_n 0, 1) := by decide +kernel
theorem d_Mo_isHeld_217 : decode M_Mo_isHeld.2.1 217 = .ok (.getfield 48, 3) := by decide +kernel
theorem d_Mo_isHeld_220 : decode M_Mo_isHeld.2.1 220 = .ok (.iload_n 1, 1) := by decide +kernel
theorem d_Mo_isHeld_221 : decode M_Mo_isHeld.2.1 221 = .ok (.iaload, 1) := by decide +kernel
theorem d_Mo_isHeld_222 : decode M_Mo_isHeld.2.1 222 = .ok (.iload_n 3, 1) := by decide +kernel
theorem d_Mo_isHeld_223 : decode M_Mo_isHeld.2.1 223 = .ok (.isub, 1) := by decide +kernel
theorem d_Mo_isHeld_224 : decode M_Mo_isHeld.2.1 224 = .ok (.baload, 1) := by decide +kernel
theorem d_Mo_isHeld_225 : decode M_Mo_isHeld.2.1 225 = .ok (.ireturn, 1) := by decide +kernel
theorem d_Mo_isHeld_205 : decode M_Mo_isHeld.2.1 205 = .ok (.bastore, 1) := by decide +kernel
theorem d_Mo_isHeld_206 : decode M_Mo_isHeld.2.1 206 = .ok (.iinc 4 1, 3) := by decide +kernel
theorem d_Mo_isHeld_209 : decode M_Mo_isHeld.2.1 209 = .ok (.goto (-200), 3) := by decide +kernel
theorem d_Mo_isHeld_104 : decode M_Mo_isHeld.2.1 104 = .ok (.istore 7, 2) := by decide +kernel
theorem d_Mo_isHeld_106 : decode M_Mo_isHeld.2.1 106 = .ok (.aload_n 0, 1) := by decide +kernel
theorem d_Mo_isHeld_107 : decode M_Mo_isHeld.2.1 107 = .ok (.getfield 103, 3) := by decide +kernel
theorem d_Mo_isHeld_110 : decode M_Mo_isHeld.2.1 110 = .ok (.iload 4, 2) := by decide +kernel
theorem d_Mo_isHeld_112 : decode M_Mo_isHeld.2.1 112 = .ok (.aload_n 0, 1) := by decide +kernel
theorem d_Mo_isHeld_113 : decode M_Mo_isHeld.2.1 113 = .ok (.getfield 36, 3) := by decide +kernel
theorem d_Mo_isHeld_116 : decode M_Mo_isHeld.2.1 116 = .ok (.iload 5, 2) := by decide +kernel
theorem d_Mo_isHeld_118 : decode M_Mo_isHeld.2.1 118 = .ok (.iaload, 1) := by decide +kernel
theorem d_Mo_isHeld_119 : decode M_Mo_isHeld.2.1 119 = .ok (.ifCond .ne 18, 3) := by decide +kernel
theorem d_Mo_isHeld_137 : decode M_Mo_isHeld.2.1 137 = .ok (.aload_n 0, 1) := by decide +kernel
theorem d_Mo_isHeld_138 : decode M_Mo_isHeld.2.1 138 = .ok (.getfield 36, 3) := by decide +kernel
theorem d_Mo_isHeld_141 : decode M_Mo_isHeld.2.1 141 = .ok (.iload 5, 2) := by decide +kernel
theorem d_Mo_isHeld_143 : decode M_Mo_isHeld.2.1 143 = .ok (.iaload, 1) := by decide +kernel
theorem d_Mo_isHeld_144 : decode M_Mo_isHeld.2.1 144 = .ok (.iconst 1, 1) := by decide +kernel
theorem d_Mo_isHeld_145 : decode M_Mo_isHeld.2.1 145 = .ok (.if_icmp .ne 16, 3) := by decide +kernel
theorem d_Mo_isHeld_161 : decode M_Mo_isHeld.2.1 161 = .ok (.aload_n 0, 1) := by decide +kernel
theorem d_Mo_isHeld_162 : decode M_Mo_isHeld.2.1 162 = .ok (.getfield 36, 3) := by decide +kernel
theorem d_Mo_isHeld_165 : decode M_Mo_isHeld.2.1 165 = .ok (.iload 5, 2) := by decide +kernel
theorem d_Mo_isHeld_167 : decode M_Mo_isHeld.2.1 167 = .ok (.iaload, 1) := by decide +kernel
theorem d_Mo_isHeld_168 : decode M_Mo_isHeld.2.1 168 = .ok (.iconst 2, 1) := by decide +kernel
theorem d_Mo_isHeld_169 : decode M_Mo_isHeld.2.1 169 = .ok (.if_icmp .ne 21, 3) := by decide +kernel
theorem d_Mo_isHeld_190 : decode M_Mo_isHeld.2.1 190 = .ok (.iload 7, 2) := by decide +kernel
theorem d_Mo_isHeld_192 : decode M_Mo_isHeld.2.1 192 = .ok (.ifCond .ne 8, 3) := by decide +kernel
theorem d_Mo_isHeld_200 : decode M_Mo_isHeld.2.1 200 = .ok (.iconst 1, 1) := by decide +kernel
theorem d_Mo_isHeld_201 : decode M_Mo_isHeld.2.1 201 = .ok (.goto 4, 3) := by decide +kernel
theorem d_Mo_isHeld_195 : decode M_Mo_isHeld.2.1 195 = .ok (.iload 6, 2) := by decide +kernel
theorem d_Mo_isHeld_197 : decode M_Mo_isHeld.2.1 197 = .ok (.ifCond .eq 7, 3) := by decide +kernel
theorem d_Mo_isHeld_204 : decode M_Mo_isHeld.2.1 204 = .ok (.iconst 0, 1) := by decide +kernel
theorem d_Mo_isHeld_172 : decode M_Mo_isHeld.2.1 172 = .ok (.iload 7, 2) := by decide +kernel
theorem d_Mo_isHeld_174 : decode M_Mo_isHeld.2.1 174 = .ok (.ifCond .eq 12, 3) := by decide +kernel
theorem d_Mo_isHeld_186 : decode M_Mo_isHeld.2.1 186 = .ok (.iconst 0, 1) := by decide +kernel
theorem d_Mo_isHeld_187 : decode M_Mo_isHeld.2.1 187 = .ok (.goto 18, 3) := by decide +kernel
theorem d_Mo_isHeld_177 : decode M_Mo_isHeld.2.1 177 = .ok (.iload 6, 2) := by decide +kernel
theorem d_Mo_isHeld_179 : decode M_Mo_isHeld.2.1 179 = .ok (.ifCond .eq 7, 3) := by decide +kernel
theorem d_Mo_isHeld_182 : decode M_Mo_isHeld.2.1 182 = .ok (.iconst 1, 1) := by decide +kernel
theorem d_Mo_isHeld_183 : decode M_Mo_isHeld.2.1 183 = .ok (.goto 22, 3) := by decide +kernel
theorem d_Mo_isHeld_148 : decode M_Mo_isHeld.2.1 148 = .ok (.iload 6, 2) := by decide +kernel
theorem d_Mo_isHeld_150 : decode M_Mo_isHeld.2.1 150 = .ok (.ifCond .ne 7, 3) := by decide +kernel
theorem d_Mo_isHeld_157 : decode M_Mo_isHeld.2.1 157 = .ok (.iconst 0, 1) := by decide +kernel
theorem d_Mo_isHeld_158 : decode M_Mo_isHeld.2.1 158 = .ok (.goto 47, 3) := by decide +kernel
theorem d_Mo_isHeld_153 : decode M_Mo_isHeld.2.1 153 = .ok (.iconst 1, 1) := by decide +kernel
theorem d_Mo_isHeld_154 : decode M_Mo_isHeld.2.1 154 = .ok (.goto 51, 3) := by decide +kernel
theorem d_Mo_isHeld_122 : decode M_Mo_isHeld.2.1 122 = .ok (.aload_n 0, 1) := by decide +kernel
theorem d_Mo_isHeld_123 : decode M_Mo_isHeld.2.1 123 = .ok (.aload_n 0, 1) := by decide +kernel
theorem d_Mo_isHeld_124 : decode M_Mo_isHeld.2.1 124 = .ok (.getfield 39, 3) := by decide +kernel
theorem d_Mo_isHeld_127 : decode M_Mo_isHeld.2.1 127 = .ok (.iload 5, 2) := by decide +kernel
theorem d_Mo_isHeld_129 : decode M_Mo_isHeld.2.1 129 = .ok (.iaload, 1) := by decide +kernel
theorem d_Mo_isHeld_130 : decode M_Mo_isHeld.2.1 130 = .ok (.iload_n 2, 1) := by decide +kernel
theorem d_Mo_isHeld_131 : decode M_Mo_isHeld.2.1 131 = .ok (.invokevirtual 277, 3) := by decide +kernel
theorem xw_1490 : (Jvm.Cond.code ({ cls := "MarkerTextModel", name := "isTrue", desc := "(IZ)Z" } : Jvm.MethodName) prog_13_method_39_code (10 : Nat) (Option.some Jvm.ClassFile.FieldType.boolean)) ∈ xT := xT_at 1490 (by decide +kernel) (by decide +kernel)
theorem xcb_Mo_isTrue : xcb M_Mo_isTrue 2 := ⟨xw_1490, xw_8, by decide, by decide, by decide, by decide +kernel⟩
theorem xw_1489 : (Jvm.Cond.instanceMethod ({ cls := "MarkerTextModel", name := "isTrue", desc := "(IZ)Z" } : Jvm.MethodName)) ∈ xT := xT_at 1489 (by decide +kernel) (by decide +kernel)
theorem xw_1487 : (Jvm.Cond.methodLink "MarkerTextModel" (277 : Nat) ({ cls := "MarkerTextModel", name := "isTrue", desc := "(IZ)Z" } : Jvm.MethodName)) ∈ xT := xT_at 1487 (by decide +kernel) (by decide +kernel)
theorem xsel_Mo_isTrue : Cond.selects "MarkerTextModel" y_Mo_isTrue y_Mo_isTrue ∈ xT := xT_sel (q := (y_Mo_isTrue, 52)) (by decide +kernel) (by decide +kernel)
theorem xcv_Mo_277_Mo : xCV "MarkerTextModel" 277 "MarkerTextModel" M_Mo_isTrue 2 := ⟨xcb_Mo_isTrue, xw_1489, Or.inl ⟨xw_1487, Or.inl xsel_Mo_isTrue⟩⟩
theorem d_Mo_isHeld_134 : decode M_Mo_isHeld.2.1 134 = .ok (.goto 71, 3) := by decide +kernel
theorem d_Mo_isHeld_58 : decode M_Mo_isHeld.2.1 58 = .ok (.istore 6, 2) := by decide +kernel
theorem d_Mo_isHeld_60 : decode M_Mo_isHeld.2.1 60 = .ok (.aload_n 0, 1) := by decide +kernel
theorem d_Mo_isHeld_61 : decode M_Mo_isHeld.2.1 61 = .ok (.getfield 36, 3) := by decide +kernel
theorem d_Mo_isHeld_64 : decode M_Mo_isHeld.2.1 64 = .ok (.iload 5, 2) := by decide +kernel
theorem d_Mo_isHeld_66 : decode M_Mo_isHeld.2.1 66 = .ok (.iaload, 1) := by decide +kernel
theorem d_Mo_isHeld_67 : decode M_Mo_isHeld.2.1 67 = .ok (.iconst 2, 1) := by decide +kernel
theorem d_Mo_isHeld_68 : decode M_Mo_isHeld.2.1 68 = .ok (.if_icmp .eq 14, 3) := by decide +kernel
theorem d_Mo_isHeld_82 : decode M_Mo_isHeld.2.1 82 = .ok (.aload_n 0, 1) := by decide +kernel
theorem d_Mo_isHeld_83 : decode M_Mo_isHeld.2.1 83 = .ok (.getfield 103, 3) := by decide +kernel
theorem d_Mo_isHeld_86 : decode M_Mo_isHeld.2.1 86 = .ok (.aload_n 0, 1) := by decide +kernel
theorem d_Mo_isHeld_87 : decode M_Mo_isHeld.2.1 87 = .ok (.getfield 39, 3) := by decide +kernel
theorem d_Mo_isHeld_90 : decode M_Mo_isHeld.2.1 90 = .ok (.iload 5, 2) := by decide +kernel
theorem d_Mo_isHeld_92 : decode M_Mo_isHeld.2.1 92 = .ok (.iaload, 1) := by decide +kernel
theorem d_Mo_isHeld_93 : decode M_Mo_isHeld.2.1 93 = .ok (.iload_n 3, 1) := by decide +kernel
theorem d_Mo_isHeld_94 : decode M_Mo_isHeld.2.1 94 = .ok (.isub, 1) := by decide +kernel
theorem d_Mo_isHeld_95 : decode M_Mo_isHeld.2.1 95 = .ok (.baload, 1) := by decide +kernel
theorem d_Mo_isHeld_96 : decode M_Mo_isHeld.2.1 96 = .ok (.ifCond .eq 7, 3) := by decide +kernel
theorem d_Mo_isHeld_103 : decode M_Mo_isHeld.2.1 103 = .ok (.iconst 0, 1) := by decide +kernel
theorem d_Mo_isHeld_99 : decode M_Mo_isHeld.2.1 99 = .ok (.iconst 1, 1) := by decide +kernel
theorem d_Mo_isHeld_100 : decode M_Mo_isHeld.2.1 100 = .ok (.goto 4, 3) := by decide +kernel
theorem d_Mo_isHeld_71 : decode M_Mo_isHeld.2.1 71 = .ok (.aload_n 0, 1) := by decide +kernel
theorem d_Mo_isHeld_72 : decode M_Mo_isHeld.2.1 72 = .ok (.getfield 36, 3) := by decide +kernel
theorem d_Mo_isHeld_75 : decode M_Mo_isHeld.2.1 75 = .ok (.iload 5, 2) := by decide +kernel
theorem d_Mo_isHeld_77 : decode M_Mo_isHeld.2.1 77 = .ok (.iaload, 1) := by decide +kernel
theorem d_Mo_isHeld_78 : decode M_Mo_isHeld.2.1 78 = .ok (.iconst 3, 1) := by decide +kernel
theorem d_Mo_isHeld_79 : decode M_Mo_isHeld.2.1 79 = .ok (.if_icmp .ne 24, 3) := by decide +kernel
theorem d_Mo_isHeld_20 : decode M_Mo_isHeld.2.1 20 = .ok (.iload_n 3, 1) := by decide +kernel
theorem d_Mo_isHeld_21 : decode M_Mo_isHeld.2.1 21 = .ok (.iload 4, 2) := by decide +kernel
theorem d_Mo_isHeld_23 : decode M_Mo_isHeld.2.1 23 = .ok (.iadd, 1) := by decide +kernel
theorem d_Mo_isHeld_24 : decode M_Mo_isHeld.2.1 24 = .ok (.istore 5, 2) := by decide +kernel
theorem d_Mo_isHeld_26 : decode M_Mo_isHeld.2.1 26 = .ok (.aload_n 0, 1) := by decide +kernel
theorem d_Mo_isHeld_27 : decode M_Mo_isHeld.2.1 27 = .ok (.getfield 36, 3) := by decide +kernel
theorem d_Mo_isHeld_30 : decode M_Mo_isHeld.2.1 30 = .ok (.iload 5, 2) := by decide +kernel
theorem d_Mo_isHeld_32 : decode M_Mo_isHeld.2.1 32 = .ok (.iaload, 1) := by decide +kernel
theorem d_Mo_isHeld_33 : decode M_Mo_isHeld.2.1 33 = .ok (.ifCond .eq 24, 3) := by decide +kernel
theorem d_Mo_isHeld_57 : decode M_Mo_isHeld.2.1 57 = .ok (.iconst 0, 1) := by decide +kernel
theorem d_Mo_isHeld_36 : decode M_Mo_isHeld.2.1 36 = .ok (.aload_n 0, 1) := by decide +kernel
theorem d_Mo_isHeld_37 : decode M_Mo_isHeld.2.1 37 = .ok (.getfield 103, 3) := by decide +kernel
theorem d_Mo_isHeld_40 : decode M_Mo_isHeld.2.1 40 = .ok (.aload_n 0, 1) := by decide +kernel
theorem d_Mo_isHeld_41 : decode M_Mo_isHeld.2.1 41 = .ok (.getfield 42, 3) := by decide +kernel
theorem d_Mo_isHeld_44 : decode M_Mo_isHeld.2.1 44 = .ok (.iload 5, 2) := by decide +kernel
theorem d_Mo_isHeld_46 : decode M_Mo_isHeld.2.1 46 = .ok (.iaload, 1) := by decide +kernel
theorem d_Mo_isHeld_47 : decode M_Mo_isHeld.2.1 47 = .ok (.iload_n 3, 1) := by decide +kernel
theorem d_Mo_isHeld_48 : decode M_Mo_isHeld.2.1 48 = .ok (.isub, 1) := by decide +kernel
theorem d_Mo_isHeld_49 : decode M_Mo_isHeld.2.1 49 = .ok (.baload, 1) := by decide +kernel
theorem d_Mo_isHeld_50 : decode M_Mo_isHeld.2.1 50 = .ok (.ifCond .eq 7, 3) := by decide +kernel
theorem d_Mo_isHeld_53 : decode M_Mo_isHeld.2.1 53 = .ok (.iconst 1, 1) := by decide +kernel
theorem d_Mo_isHeld_54 : decode M_Mo_isHeld.2.1 54 = .ok (.goto 4, 3) := by decide +kernel
theorem d_Mo_isHeld_0 : decode M_Mo_isHeld.2.1 0 = .ok (.sipush 128, 3) := by decide +kernel
theorem d_Mo_isHeld_3 : decode M_Mo_isHeld.2.1 3 = .ok (.iload_n 1, 1) := by decide +kernel
theorem d_Mo_isHeld_4 : decode M_Mo_isHeld.2.1 4 = .ok (.imul, 1) := by decide +kernel
theorem d_Mo_isHeld_5 : decode M_Mo_isHeld.2.1 5 = .ok (.istore_n 3, 1) := by decide +kernel
theorem d_Mo_isHeld_6 : decode M_Mo_isHeld.2.1 6 = .ok (.iconst 0, 1) := by decide +kernel
theorem d_Mo_isHeld_7 : decode M_Mo_isHeld.2.1 7 = .ok (.istore 4, 2) := by decide +kernel
abbrev y_Mo_holds : MethodName := ⟨"MarkerTextModel", "holds", "(I)Z"⟩
abbrev M_Mo_holds : XMt := (y_Mo_holds, prog_13_method_42_code, 2, (some .boolean))
theorem d_Mo_holds_0 : decode M_Mo_holds.2.1 0 = .ok (.aload_n 0, 1) := by decide +kernel
theorem d_Mo_holds_1 : decode M_Mo_holds.2.1 1 = .ok (.iconst 0, 1) := by decide +kernel
theorem d_Mo_holds_2 : decode M_Mo_holds.2.1 2 = .ok (.putfield 121, 3) := by decide +kernel
theorem d_Mo_holds_5 : decode M_Mo_holds.2.1 5 = .ok (.aload_n 0, 1) := by decide +kernel
theorem d_Mo_holds_6 : decode M_Mo_holds.2.1 6 = .ok (.iload_n 1, 1) := by decide +kernel
theorem d_Mo_holds_7 : decode M_Mo_holds.2.1 7 = .ok (.invokevirtual 281, 3) := by decide +kernel
theorem xw_1482 : (Jvm.Cond.code ({ cls := "MarkerTextModel", name := "isCondition", desc := "(I)Z" } : Jvm.MethodName) prog_13_method_41_code (2 : Nat) (Option.some Jvm.ClassFile.FieldType.boolean)) ∈ xT := xT_at 1482 (by decide +kernel) (by decide +kernel)
theorem xcb_Mo_isCondition : xcb M_Mo_isCondition 1 := ⟨xw_1482, xw_8, by decide, by decide, by decide, by decide +kernel⟩
theorem xw_1481 : (Jvm.Cond.instanceMethod ({ cls := "MarkerTextModel", name := "isCondition", desc := "(I)Z" } : Jvm.MethodName)) ∈ xT := xT_at 1481 (by decide +kernel) (by decide +kernel)
theorem xw_1479 : (Jvm.Cond.methodLink "MarkerTextModel" (281 : Nat) ({ cls := "MarkerTextModel", name := "isCondition", desc := "(I)Z" } : Jvm.MethodName)) ∈ xT := xT_at 1479 (by decide +kernel) (by decide +kernel)
theorem xsel_Mo_isCondition : Cond.selects "MarkerTextModel" y_Mo_isCondition y_Mo_isCondition ∈ xT := xT_sel (q := (y_Mo_isCondition, 52)) (by decide +kernel) (by decide +kernel)
theorem xcv_Mo_281_Mo : xCV "MarkerTextModel" 281 "MarkerTextModel" M_Mo_isCondition 1 := ⟨xcb_Mo_isCondition, xw_1481, Or.inl ⟨xw_1479, Or.inl xsel_Mo_isCondition⟩⟩
theorem d_Mo_holds_10 : decode M_Mo_holds.2.1 10 = .ok (.ifCond .eq 16, 3) := by decide +kernel
theorem d_Mo_holds_26 : decode M_Mo_holds.2.1 26 = .ok (.iconst 0, 1) := by decide +kernel
theorem d_Mo_holds_27 : decode M_Mo_holds.2.1 27 = .ok (.ireturn, 1) := by decide +kernel
theorem d_Mo_holds_13 : decode M_Mo_holds.2.1 13 = .ok (.aload_n 0, 1) := by decide +kernel
theorem d_Mo_holds_14 : decode M_Mo_holds.2.1 14 = .ok (.iload_n 1, 1) := by decide +kernel
theorem d_Mo_holds_15 : decode M_Mo_holds.2.1 15 = .ok (.iconst 0, 1) := by decide +kernel
theorem d_Mo_holds_16 : decode M_Mo_holds.2.1 16 = .ok (.invokevirtual 284, 3) := by decide +kernel
theorem xw_1486 : (Jvm.Cond.code ({ cls := "MarkerTextModel", name := "isHeld", desc := "(IZ)Z" } : Jvm.MethodName) prog_13_method_40_code (8 : Nat) (Option.some Jvm.ClassFile.FieldType.boolean)) ∈ xT := xT_at 1486 (by decide +kernel) (by decide +kernel)
theorem xcb_Mo_isHeld : xcb M_Mo_isHeld 2 := ⟨xw_1486, xw_8, by decide, by decide, by decide, by decide +kernel⟩
theorem xw_1485 : (Jvm.Cond.instanceMethod ({ cls := "MarkerTextModel", name := "isHeld", desc := "(IZ)Z" } : Jvm.MethodName)) ∈ xT := xT_at 1485 (by decide +kernel) (by decide +kernel)
theorem xw_1483 : (Jvm.Cond.methodLink "MarkerTextModel" (284 : Nat) ({ cls := "MarkerTextModel", name := "isHeld", desc := "(IZ)Z" } : Jvm.MethodName)) ∈ xT := xT_at 1483 (by decide +kernel) (by decide +kernel)
theorem xsel_Mo_isHeld : Cond.selects "MarkerTextModel" y_Mo_isHeld y_Mo_isHeld ∈ xT := xT_sel (q := (y_Mo_isHeld, 52)) (by decide +kernel) (by decide +kernel)
theorem xcv_Mo_284_Mo : xCV "MarkerTextModel" 284 "MarkerTextModel" M_Mo_isHeld 2 := ⟨xcb_Mo_isHeld, xw_1485, Or.inl ⟨xw_1483, Or.inl xsel_Mo_isHeld⟩⟩
theorem d_Mo_holds_19 : decode M_Mo_holds.2.1 19 = .ok (.ifCond .eq 7, 3) := by decide +kernel
theorem d_Mo_holds_22 : decode M_Mo_holds.2.1 22 = .ok (.iconst 1, 1) := by decide +kernel
theorem d_Mo_holds_23 : decode M_Mo_holds.2.1 23 = .ok (.goto 4, 3) := by decide +kernel
end
section RF13
variable {l : Launch} {G : XG} {h : XH} {c n d : Nat} {o : Nat} {rf : Nat → Nat} {S : MS}
end RF13
