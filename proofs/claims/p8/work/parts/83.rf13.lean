section
abbrev y_Mo_compares : MethodName := ⟨"MarkerTextModel", "compares", "(II)Z"⟩
abbrev M_Mo_compares : XMt := (y_Mo_compares, prog_13_method_38_code, 2, (some .boolean))
theorem d_Mo_compares_0 : decode M_Mo_compares.2.1 0 = .ok (.iload_n 0, 1) := by decide +kernel
theorem d_Mo_compares_1 : decode M_Mo_compares.2.1 1 = .ok (.tableswitch 85 0 4 #[35, 45, 55, 65, 75], 35) := by decide +kernel
theorem d_Mo_compares_36 : decode M_Mo_compares.2.1 36 = .ok (.iload_n 1, 1) := by decide +kernel
theorem d_Mo_compares_37 : decode M_Mo_compares.2.1 37 = .ok (.ifCond .ne 7, 3) := by decide +kernel
theorem d_Mo_compares_44 : decode M_Mo_compares.2.1 44 = .ok (.iconst 0, 1) := by decide +kernel
theorem d_Mo_compares_45 : decode M_Mo_compares.2.1 45 = .ok (.ireturn, 1) := by decide +kernel
theorem d_Mo_compares_40 : decode M_Mo_compares.2.1 40 = .ok (.iconst 1, 1) := by decide +kernel
theorem d_Mo_compares_41 : decode M_Mo_compares.2.1 41 = .ok (.goto 4, 3) := by decide +kernel
theorem d_Mo_compares_46 : decode M_Mo_compares.2.1 46 = .ok (.iload_n 1, 1) := by decide +kernel
theorem d_Mo_compares_47 : decode M_Mo_compares.2.1 47 = .ok (.ifCond .eq 7, 3) := by decide +kernel
theorem d_Mo_compares_54 : decode M_Mo_compares.2.1 54 = .ok (.iconst 0, 1) := by decide +kernel
theorem d_Mo_compares_55 : decode M_Mo_compares.2.1 55 = .ok (.ireturn, 1) := by decide +kernel
theorem d_Mo_compares_50 : decode M_Mo_compares.2.1 50 = .ok (.iconst 1, 1) := by decide +kernel
theorem d_Mo_compares_51 : decode M_Mo_compares.2.1 51 = .ok (.goto 4, 3) := by decide +kernel
theorem d_Mo_compares_56 : decode M_Mo_compares.2.1 56 = .ok (.iload_n 1, 1) := by decide +kernel
theorem d_Mo_compares_57 : decode M_Mo_compares.2.1 57 = .ok (.ifCond .ge 7, 3) := by decide +kernel
theorem d_Mo_compares_64 : decode M_Mo_compares.2.1 64 = .ok (.iconst 0, 1) := by decide +kernel
theorem d_Mo_compares_65 : decode M_Mo_compares.2.1 65 = .ok (.ireturn, 1) := by decide +kernel
theorem d_Mo_compares_60 : decode M_Mo_compares.2.1 60 = .ok (.iconst 1, 1) := by decide +kernel
theorem d_Mo_compares_61 : decode M_Mo_compares.2.1 61 = .ok (.goto 4, 3) := by decide +kernel
theorem d_Mo_compares_66 : decode M_Mo_compares.2.1 66 = .ok (.iload_n 1, 1) := by decide +kernel
theorem d_Mo_compares_67 : decode M_Mo_compares.2.1 67 = .ok (.ifCond .gt 7, 3) := by decide +kernel
theorem d_Mo_compares_74 : decode M_Mo_compares.2.1 74 = .ok (.iconst 0, 1) := by decide +kernel
theorem d_Mo_compares_75 : decode M_Mo_compares.2.1 75 = .ok (.ireturn, 1) := by decide +kernel
theorem d_Mo_compares_70 : decode M_Mo_compares.2.1 70 = .ok (.iconst 1, 1) := by decide +kernel
theorem d_Mo_compares_71 : decode M_Mo_compares.2.1 71 = .ok (.goto 4, 3) := by decide +kernel
theorem d_Mo_compares_76 : decode M_Mo_compares.2.1 76 = .ok (.iload_n 1, 1) := by decide +kernel
theorem d_Mo_compares_77 : decode M_Mo_compares.2.1 77 = .ok (.ifCond .le 7, 3) := by decide +kernel
theorem d_Mo_compares_84 : decode M_Mo_compares.2.1 84 = .ok (.iconst 0, 1) := by decide +kernel
theorem d_Mo_compares_85 : decode M_Mo_compares.2.1 85 = .ok (.ireturn, 1) := by decide +kernel
theorem d_Mo_compares_80 : decode M_Mo_compares.2.1 80 = .ok (.iconst 1, 1) := by decide +kernel
theorem d_Mo_compares_81 : decode M_Mo_compares.2.1 81 = .ok (.goto 4, 3) := by decide +kernel
theorem d_Mo_compares_86 : decode M_Mo_compares.2.1 86 = .ok (.iload_n 1, 1) := by decide +kernel
theorem d_Mo_compares_87 : decode M_Mo_compares.2.1 87 = .ok (.ifCond .lt 7, 3) := by decide +kernel
theorem d_Mo_compares_94 : decode M_Mo_compares.2.1 94 = .ok (.iconst 0, 1) := by decide +kernel
theorem d_Mo_compares_95 : decode M_Mo_compares.2.1 95 = .ok (.ireturn, 1) := by decide +kernel
theorem d_Mo_compares_90 : decode M_Mo_compares.2.1 90 = .ok (.iconst 1, 1) := by decide +kernel
theorem d_Mo_compares_91 : decode M_Mo_compares.2.1 91 = .ok (.goto 4, 3) := by decide +kernel
abbrev y_Mo_isTrue : MethodName := ⟨"MarkerTextModel", "isTrue", "(IZ)Z"⟩
abbrev M_Mo_isTrue : XMt := (y_Mo_isTrue, prog_13_method_39_code, 10, (some .boolean))
theorem d_Mo_isTrue_86 : decode M_Mo_isTrue.2.1 86 = .ok (.iload 7, 2) := by decide +kernel
theorem d_Mo_isTrue_88 : decode M_Mo_isTrue.2.1 88 = .ok (.aload_n 0, 1) := by decide +kernel
theorem d_Mo_isTrue_89 : decode M_Mo_isTrue.2.1 89 = .ok (.getfield 60, 3) := by decide +kernel
theorem d_Mo_isTrue_92 : decode M_Mo_isTrue.2.1 92 = .ok (.iload_n 1, 1) := by decide +kernel
theorem d_Mo_isTrue_93 : decode M_Mo_isTrue.2.1 93 = .ok (.iaload, 1) := by decide +kernel
theorem d_Mo_isTrue_94 : decode M_Mo_isTrue.2.1 94 = .ok (.if_icmp .ge 120, 3) := by decide +kernel
theorem d_Mo_isTrue_214 : decode M_Mo_isTrue.2.1 214 = .ok (.iload 6, 2) := by decide +kernel
theorem d_Mo_isTrue_216 : decode M_Mo_isTrue.2.1 216 = .ok (.ireturn, 1) := by decide +kernel
theorem d_Mo_isTrue_206 : decode M_Mo_isTrue.2.1 206 = .ok (.istore 6, 2) := by decide +kernel
theorem d_Mo_isTrue_208 : decode M_Mo_isTrue.2.1 208 = .ok (.iinc 7 1, 3) := by decide +kernel
theorem d_Mo_isTrue_211 : decode M_Mo_isTrue.2.1 211 = .ok (.goto (-125), 3) := by decide +kernel
theorem d_Mo_isTrue_175 : decode M_Mo_isTrue.2.1 175 = .ok (.istore 9, 2) := by decide +kernel
theorem d_Mo_isTrue_177 : decode M_Mo_isTrue.2.1 177 = .ok (.iload 6, 2) := by decide +kernel
theorem d_Mo_isTrue_179 : decode M_Mo_isTrue.2.1 179 = .ok (.ifCond .ne 22, 3) := by decide +kernel
theorem d_Mo_isTrue_201 : decode M_Mo_isTrue.2.1 201 = .ok (.iconst 1, 1) := by decide +kernel
theorem d_Mo_isTrue_202 : decode M_Mo_isTrue.2.1 202 = .ok (.goto 4, 3) := by decide +kernel
theorem d_Mo_isTrue_182 : decode M_Mo_isTrue.2.1 182 = .ok (.iload_n 3, 1) := by decide +kernel
theorem d_Mo_isTrue_183 : decode M_Mo_isTrue.2.1 183 = .ok (.bipush 6, 2) := by decide +kernel
theorem d_Mo_isTrue_185 : decode M_Mo_isTrue.2.1 185 = .ok (.if_icmp .ne 7, 3) := by decide +kernel
theorem d_Mo_isTrue_192 : decode M_Mo_isTrue.2.1 192 = .ok (.iload_n 3, 1) := by decide +kernel
theorem d_Mo_isTrue_193 : decode M_Mo_isTrue.2.1 193 = .ok (.iload 9, 2) := by decide +kernel
theorem d_Mo_isTrue_195 : decode M_Mo_isTrue.2.1 195 = .ok (.invokestatic 274, 3) := by decide +kernel
theorem xw_1493 : (Jvm.Cond.code ({ cls := "MarkerTextModel", name := "compares", desc := "(II)Z" } : Jvm.MethodName) prog_13_method_38_code (2 : Nat) (Option.some Jvm.ClassFile.FieldType.boolean)) ∈ xT := xT_at 1493 (by decide +kernel) (by decide +kernel)
theorem xcb_Mo_compares : xcb M_Mo_compares 2 := ⟨xw_1493, xw_8, by decide, by decide, by decide, by decide +kernel⟩
theorem xw_1491 : (Jvm.Cond.methodLink "MarkerTextModel" (274 : Nat) ({ cls := "MarkerTextModel", name := "compares", desc := "(II)Z" } : Jvm.MethodName)) ∈ xT := xT_at 1491 (by decide +kernel) (by decide +kernel)
theorem xw_1492 : (Jvm.Cond.static ({ cls := "MarkerTextModel", name := "compares", desc := "(II)Z" } : Jvm.MethodName)) ∈ xT := xT_at 1492 (by decide +kernel) (by decide +kernel)
theorem xcs_Mo_274 : xCS "MarkerTextModel" 274 M_Mo_compares 2 := ⟨xcb_Mo_compares, xw_1492, Or.inl xw_1491⟩
theorem d_Mo_isTrue_198 : decode M_Mo_isTrue.2.1 198 = .ok (.ifCond .eq 7, 3) := by decide +kernel
theorem d_Mo_isTrue_205 : decode M_Mo_isTrue.2.1 205 = .ok (.iconst 0, 1) := by decide +kernel
theorem d_Mo_isTrue_188 : decode M_Mo_isTrue.2.1 188 = .ok (.iconst 0, 1) := by decide +kernel
theorem d_Mo_isTrue_189 : decode M_Mo_isTrue.2.1 189 = .ok (.goto 4, 3) := by decide +kernel
theorem d_Mo_isTrue_97 : decode M_Mo_isTrue.2.1 97 = .ok (.aload_n 0, 1) := by decide +kernel
theorem d_Mo_isTrue_98 : decode M_Mo_isTrue.2.1 98 = .ok (.getfield 57, 3) := by decide +kernel
theorem d_Mo_isTrue_101 : decode M_Mo_isTrue.2.1 101 = .ok (.iload_n 1, 1) := by decide +kernel
theorem d_Mo_isTrue_102 : decode M_Mo_isTrue.2.1 102 = .ok (.iaload, 1) := by decide +kernel
theorem d_Mo_isTrue_103 : decode M_Mo_isTrue.2.1 103 = .ok (.iload 7, 2) := by decide +kernel
theorem d_Mo_isTrue_105 : decode M_Mo_isTrue.2.1 105 = .ok (.iadd, 1) := by decide +kernel
theorem d_Mo_isTrue_106 : decode M_Mo_isTrue.2.1 106 = .ok (.istore 8, 2) := by decide +kernel
theorem d_Mo_isTrue_108 : decode M_Mo_isTrue.2.1 108 = .ok (.iload_n 2, 1) := by decide +kernel
theorem d_Mo_isTrue_109 : decode M_Mo_isTrue.2.1 109 = .ok (.ifCond .eq 21, 3) := by decide +kernel
theorem d_Mo_isTrue_130 : decode M_Mo_isTrue.2.1 130 = .ok (.aload_n 0, 1) := by decide +kernel
theorem d_Mo_isTrue_131 : decode M_Mo_isTrue.2.1 131 = .ok (.getfield 33, 3) := by decide +kernel
theorem d_Mo_isTrue_134 : decode M_Mo_isTrue.2.1 134 = .ok (.iload 4, 2) := by decide +kernel
theorem d_Mo_isTrue_136 : decode M_Mo_isTrue.2.1 136 = .ok (.laload, 1) := by decide +kernel
theorem d_Mo_isTrue_137 : decode M_Mo_isTrue.2.1 137 = .ok (.aload_n 0, 1) := by decide +kernel
theorem d_Mo_isTrue_138 : decode M_Mo_isTrue.2.1 138 = .ok (.getfield 66, 3) := by decide +kernel
theorem d_Mo_isTrue_141 : decode M_Mo_isTrue.2.1 141 = .ok (.iload 8, 2) := by decide +kernel
theorem d_Mo_isTrue_143 : decode M_Mo_isTrue.2.1 143 = .ok (.laload, 1) := by decide +kernel
theorem d_Mo_isTrue_144 : decode M_Mo_isTrue.2.1 144 = .ok (.lcmp, 1) := by decide +kernel
theorem d_Mo_isTrue_145 : decode M_Mo_isTrue.2.1 145 = .ok (.ifCond .ge 7, 3) := by decide +kernel
theorem d_Mo_isTrue_152 : decode M_Mo_isTrue.2.1 152 = .ok (.aload_n 0, 1) := by decide +kernel
theorem d_Mo_isTrue_153 : decode M_Mo_isTrue.2.1 153 = .ok (.getfield 33, 3) := by decide +kernel
theorem d_Mo_isTrue_156 : decode M_Mo_isTrue.2.1 156 = .ok (.iload 4, 2) := by decide +kernel
theorem d_Mo_isTrue_158 : decode M_Mo_isTrue.2.1 158 = .ok (.laload, 1) := by decide +kernel
theorem d_Mo_isTrue_159 : decode M_Mo_isTrue.2.1 159 = .ok (.aload_n 0, 1) := by decide +kernel
theorem d_Mo_isTrue_160 : decode M_Mo_isTrue.2.1 160 = .ok (.getfield 66, 3) := by decide +kernel
theorem d_Mo_isTrue_163 : decode M_Mo_isTrue.2.1 163 = .ok (.iload 8, 2) := by decide +kernel
theorem d_Mo_isTrue_165 : decode M_Mo_isTrue.2.1 165 = .ok (.laload, 1) := by decide +kernel
theorem d_Mo_isTrue_166 : decode M_Mo_isTrue.2.1 166 = .ok (.lcmp, 1) := by decide +kernel
theorem d_Mo_isTrue_167 : decode M_Mo_isTrue.2.1 167 = .ok (.ifCond .le 7, 3) := by decide +kernel
theorem d_Mo_isTrue_174 : decode M_Mo_isTrue.2.1 174 = .ok (.iconst 0, 1) := by decide +kernel
theorem d_Mo_isTrue_170 : decode M_Mo_isTrue.2.1 170 = .ok (.iconst 1, 1) := by decide +kernel
theorem d_Mo_isTrue_171 : decode M_Mo_isTrue.2.1 171 = .ok (.goto 4, 3) := by decide +kernel
theorem d_Mo_isTrue_148 : decode M_Mo_isTrue.2.1 148 = .ok (.iconst (-1), 1) := by decide +kernel
theorem d_Mo_isTrue_149 : decode M_Mo_isTrue.2.1 149 = .ok (.goto 26, 3) := by decide +kernel
theorem d_Mo_isTrue_112 : decode M_Mo_isTrue.2.1 112 = .ok (.aload_n 0, 1) := by decide +kernel
theorem d_Mo_isTrue_113 : decode M_Mo_isTrue.2.1 113 = .ok (.getfield 100, 3) := by decide +kernel
theorem d_Mo_isTrue_116 : decode M_Mo_isTrue.2.1 116 = .ok (.iload 4, 2) := by decide +kernel
theorem d_Mo_isTrue_118 : decode M_Mo_isTrue.2.1 118 = .ok (.iaload, 1) := by decide +kernel
theorem d_Mo_isTrue_119 : decode M_Mo_isTrue.2.1 119 = .ok (.aload_n 0, 1) := by decide +kernel
theorem d_Mo_isTrue_120 : decode M_Mo_isTrue.2.1 120 = .ok (.getfield 75, 3) := by decide +kernel
theorem d_Mo_isTrue_123 : decode M_Mo_isTrue.2.1 123 = .ok (.iload 8, 2) := by decide +kernel
theorem d_Mo_isTrue_125 : decode M_Mo_isTrue.2.1 125 = .ok (.iaload, 1) := by decide +kernel
theorem d_Mo_isTrue_126 : decode M_Mo_isTrue.2.1 126 = .ok (.isub, 1) := by decide +kernel
theorem d_Mo_isTrue_127 : decode M_Mo_isTrue.2.1 127 = .ok (.goto 48, 3) := by decide +kernel
theorem d_Mo_isTrue_62 : decode M_Mo_isTrue.2.1 62 = .ok (.istore 5, 2) := by decide +kernel
theorem d_Mo_isTrue_64 : decode M_Mo_isTrue.2.1 64 = .ok (.iload 5, 2) := by decide +kernel
theorem d_Mo_isTrue_66 : decode M_Mo_isTrue.2.1 66 = .ok (.ifCond .ne 14, 3) := by decide +kernel
theorem d_Mo_isTrue_80 : decode M_Mo_isTrue.2.1 80 = .ok (.iconst 0, 1) := by decide +kernel
theorem d_Mo_isTrue_81 : decode M_Mo_isTrue.2.1 81 = .ok (.istore 6, 2) := by decide +kernel
theorem d_Mo_isTrue_83 : decode M_Mo_isTrue.2.1 83 = .ok (.iconst 0, 1) := by decide +kernel
theorem d_Mo_isTrue_84 : decode M_Mo_isTrue.2.1 84 = .ok (.istore 7, 2) := by decide +kernel
theorem d_Mo_isTrue_69 : decode M_Mo_isTrue.2.1 69 = .ok (.iload_n 3, 1) := by decide +kernel
theorem d_Mo_isTrue_70 : decode M_Mo_isTrue.2.1 70 = .ok (.iconst 1, 1) := by decide +kernel
theorem d_Mo_isTrue_71 : decode M_Mo_isTrue.2.1 71 = .ok (.if_icmp .ne 7, 3) := by decide +kernel
theorem d_Mo_isTrue_78 : decode M_Mo_isTrue.2.1 78 = .ok (.iconst 0, 1) := by decide +kernel
theorem d_Mo_isTrue_79 : decode M_Mo_isTrue.2.1 79 = .ok (.ireturn, 1) := by decide +kernel
theorem d_Mo_isTrue_74 : decode M_Mo_isTrue.2.1 74 = .ok (.iconst 1, 1) := by decide +kernel
theorem d_Mo_isTrue_75 : decode M_Mo_isTrue.2.1 75 = .ok (.goto 4, 3) := by decide +kernel
theorem d_Mo_isTrue_0 : decode M_Mo_isTrue.2.1 0 = .ok (.aload_n 0, 1) := by decide +kernel
theorem d_Mo_isTrue_1 : decode M_Mo_isTrue.2.1 1 = .ok (.getfield 54, 3) := by decide +kernel
theorem d_Mo_isTrue_4 : decode M_Mo_isTrue.2.1 4 = .ok (.iload_n 1, 1) := by decide +kernel
theorem d_Mo_isTrue_5 : decode M_Mo_isTrue.2.1 5 = .ok (.iaload, 1) := by decide +kernel
theorem d_Mo_isTrue_6 : decode M_Mo_isTrue.2.1 6 = .ok (.istore_n 3, 1) := by decide +kernel
theorem d_Mo_isTrue_7 : decode M_Mo_isTrue.2.1 7 = .ok (.iload_n 3, 1) := by decide +kernel
theorem d_Mo_isTrue_8 : decode M_Mo_isTrue.2.1 8 = .ok (.bipush 6, 2) := by decide +kernel
theorem d_Mo_isTrue_10 : decode M_Mo_isTrue.2.1 10 = .ok (.if_icmp .le 15, 3) := by decide +kernel
theorem d_Mo_isTrue_25 : decode M_Mo_isTrue.2.1 25 = .ok (.aload_n 0, 1) := by decide +kernel
theorem d_Mo_isTrue_26 : decode M_Mo_isTrue.2.1 26 = .ok (.getfield 51, 3) := by decide +kernel
theorem d_Mo_isTrue_29 : decode M_Mo_isTrue.2.1 29 = .ok (.iload_n 1, 1) := by decide +kernel
theorem d_Mo_isTrue_30 : decode M_Mo_isTrue.2.1 30 = .ok (.iaload, 1) := by decide +kernel
theorem d_Mo_isTrue_31 : decode M_Mo_isTrue.2.1 31 = .ok (.istore 4, 2) := by decide +kernel
theorem d_Mo_isTrue_33 : decode M_Mo_isTrue.2.1 33 = .ok (.iload_n 2, 1) := by decide +kernel
theorem d_Mo_isTrue_34 : decode M_Mo_isTrue.2.1 34 = .ok (.ifCond .eq 21, 3) := by decide +kernel
theorem d_Mo_isTrue_55 : decode M_Mo_isTrue.2.1 55 = .ok (.aload_n 0, 1) := by decide +kernel
theorem d_Mo_isTrue_56 : decode M_Mo_isTrue.2.1 56 = .ok (.getfield 29, 3) := by decide +kernel
theorem d_Mo_isTrue_59 : decode M_Mo_isTrue.2.1 59 = .ok (.iload 4, 2) := by decide +kernel
theorem d_Mo_isTrue_61 : decode M_Mo_isTrue.2.1 61 = .ok (.baload, 1) := by decide +kernel
theorem d_Mo_isTrue_37 : decode M_Mo_isTrue.2.1 37 = .ok (.aload_n 0, 1) := by decide +kernel
theorem d_Mo_isTrue_38 : decode M_Mo_isTrue.2.1 38 = .ok (.getfield 100, 3) := by decide +kernel
theorem d_Mo_isTrue_41 : decode M_Mo_isTrue.2.1 41 = .ok (.iload 4, 2) := by decide +kernel
theorem d_Mo_isTrue_43 : decode M_Mo_isTrue.2.1 43 = .ok (.iaload, 1) := by decide +kernel
theorem d_Mo_isTrue_44 : decode M_Mo_isTrue.2.1 44 = .ok (.ifCond .le 7, 3) := by decide +kernel
theorem d_Mo_isTrue_51 : decode M_Mo_isTrue.2.1 51 = .ok (.iconst 0, 1) := by decide +kernel
theorem d_Mo_isTrue_52 : decode M_Mo_isTrue.2.1 52 = .ok (.goto 10, 3) := by decide +kernel
theorem d_Mo_isTrue_47 : decode M_Mo_isTrue.2.1 47 = .ok (.iconst 1, 1) := by decide +kernel
theorem d_Mo_isTrue_48 : decode M_Mo_isTrue.2.1 48 = .ok (.goto 14, 3) := by decide +kernel
theorem d_Mo_isTrue_13 : decode M_Mo_isTrue.2.1 13 = .ok (.iload_n 3, 1) := by decide +kernel
theorem d_Mo_isTrue_14 : decode M_Mo_isTrue.2.1 14 = .ok (.bipush 7, 2) := by decide +kernel
theorem d_Mo_isTrue_16 : decode M_Mo_isTrue.2.1 16 = .ok (.if_icmp .ne 7, 3) := by decide +kernel
theorem d_Mo_isTrue_23 : decode M_Mo_isTrue.2.1 23 = .ok (.iconst 0, 1) := by decide +kernel
theorem d_Mo_isTrue_24 : decode M_Mo_isTrue.2.1 24 = .ok (.ireturn, 1) := by decide +kernel
theorem d_Mo_isTrue_19 : decode M_Mo_isTrue.2.1 19 = .ok (.iconst 1, 1) := by decide +kernel
theorem d_Mo_isTrue_20 : decode M_Mo_isTrue.2.1 20 = .ok (.goto 4, 3) := by decide +kernel
abbrev y_Mo_isHeld : MethodName := ⟨"MarkerTextModel", "isHeld", "(IZ)Z"⟩
abbrev M_Mo_isHeld : XMt := (y_Mo_isHeld, prog_13_method_40_code, 8, (some .boolean))
theorem d_Mo_isHeld_9 : decode M_Mo_isHeld.2.1 9 = .ok (.iload 4, 2) := by decide +kernel
theorem d_Mo_isHeld_11 : decode M_Mo_isHeld.2.1 11 = .ok (.aload_n 0, 1) := by decide +kernel
theorem d_Mo_isHeld_12 : decode M_Mo_isHeld.2.1 12 = .ok (.getfield 45, 3) := by decide +kernel
theorem d_Mo_isHeld_15 : decode M_Mo_isHeld.2.1 15 = .ok (.iload_n 1, 1) := by decide +kernel
theorem d_Mo_isHeld_16 : decode M_Mo_isHeld.2.1 16 = .ok (.iaload, 1) := by decide +kernel
theorem d_Mo_isHeld_17 : decode M_Mo_isHeld.2.1 17 = .ok (.if_icmp .ge 195, 3) := by decide +kernel
theorem d_Mo_isHeld_212 : decode M_Mo_isHeld.2.1 212 = .ok (.aload_n 0, 1) := by decide +kernel
theorem d_Mo_isHeld_213 : decode M_Mo_isHeld.2.1 213 = .ok (.getfield 103, 3) := by decide +kernel
theorem d_Mo_isHeld_216 : decode M_Mo_isHeld.2.1 216 = .ok (.aload_n 0, 1) := by decide +kernel
theorem d_Mo_isHeld_217 : decode M_Mo_isHeld.2.1 217 = .ok (.getfield 48, 3) := by decide +kernel
theorem d_Mo_isHeld_220 : decode M_Mo_isHeld.2.1 220 = .ok (.iload_n 1, 1) := by decide +kernel
theorem d_Mo_isHeld_221 : decode M_Mo_isHeld.2.1 221 = .ok (.iaload, 1) := by decide +kernel
theorem d_Mo_isHeld_222 : decode M_Mo_isHeld.2.1 222 = .ok (.iload_n 3, 1) := by decide +kernel
theorem d_Mo_isHeld_223 : decode M_Mo_isHeld.2.1 223 = .ok (.isub, 1) := by decide +kernel
theorem d_Mo_isHeld_224 : decode M_Mo_isHeld.2.1 224 = .ok (.baload, 1) := by decide +kernel
theorem d_Mo_isHeld_225 : decode M_Mo_isHeld.2.1 225 = .ok (.ireturn, 1) := by decide +kernel
theorem d_Mo_isHeld_205 : decode M_Mo_isHeld.2.1 205 = .ok (.bastore, 1) := by decide +kernel
theorem d_Mo_isHeld_206 : decode M_Mo_isHeld.2.1 206 = .ok (.iinc 4 1, 3) := by decide +kernel
theorem d_Mo_isHeld_209 : decode M_Mo_isHeld.2.1 209 = .ok (.goto (-200), 3) := by decide +kernel
theorem d_Mo_isHeld_104 : decode M_Mo_isHeld.2.1 104 = .ok (.istore 7, 2) := by decide +kernel
theorem d_Mo_isHeld_106 : decode M_Mo_isHeld.2.1 106 = .ok (.aload_n 0, 1) := by decide +kernel
theorem d_Mo_isHeld_107 : decode M_Mo_isHeld.2.1 107 = .ok (.getfield 103, 3) := by decide +kernel
theorem d_Mo_isHeld_110 : decode M_Mo_isHeld.2.1 110 = .ok (.iload 4, 2) := by decide +kernel
theorem d_Mo_isHeld_112 : decode M_Mo_isHeld.2.1 112 = .ok (.aload_n 0, 1) := by decide +kernel
theorem d_Mo_isHeld_113 : decode M_Mo_isHeld.2.1 113 = .ok (.getfield 36, 3) := by decide +kernel
theorem d_Mo_isHeld_116 : decode M_Mo_isHeld.2.1 116 = .ok (.iload 5, 2) := by decide +kernel
theorem d_Mo_isHeld_118 : decode M_Mo_isHeld.2.1 118 = .ok (.iaload, 1) := by decide +kernel
theorem d_Mo_isHeld_119 : decode M_Mo_isHeld.2.1 119 = .ok (.ifCond .ne 18, 3) := by decide +kernel
theorem d_Mo_isHeld_137 : decode M_Mo_isHeld.2.1 137 = .ok (.aload_n 0, 1) := by decide +kernel
theorem d_Mo_isHeld_138 : decode M_Mo_isHeld.2.1 138 = .ok (.getfield 36, 3) := by decide +kernel
theorem d_Mo_isHeld_141 : decode M_Mo_isHeld.2.1 141 = .ok (.iload 5, 2) := by decide +kernel
theorem d_Mo_isHeld_143 : decode M_Mo_isHeld.2.1 143 = .ok (.iaload, 1) := by decide +kernel
theorem d_Mo_isHeld_144 : decode M_Mo_isHeld.2.1 144 = .ok (.iconst 1, 1) := by decide +kernel
theorem d_Mo_isHeld_145 : decode M_Mo_isHeld.2.1 145 = .ok (.if_icmp .ne 16, 3) := by decide +kernel
theorem d_Mo_isHeld_161 : decode M_Mo_isHeld.2.1 161 = .ok (.aload_n 0, 1) := by decide +kernel
theorem d_Mo_isHeld_162 : decode M_Mo_isHeld.2.1 162 = .ok (.getfield 36, 3) := by decide +kernel
theorem d_Mo_isHeld_165 : decode M_Mo_isHeld.2.1 165 = .ok (.iload 5, 2) := by decide +kernel
theorem d_Mo_isHeld_167 : decode M_Mo_isHeld.2.1 167 = .ok (.iaload, 1) := by decide +kernel
theorem d_Mo_isHeld_168 : decode M_Mo_isHeld.2.1 168 = .ok (.iconst 2, 1) := by decide +kernel
theorem d_Mo_isHeld_169 : decode M_Mo_isHeld.2.1 169 = .ok (.if_icmp .ne 21, 3) := by decide +kernel
theorem d_Mo_isHeld_190 : decode M_Mo_isHeld.2.1 190 = .ok (.iload 7, 2) := by decide +kernel
theorem d_Mo_isHeld_192 : decode M_Mo_isHeld.2.1 192 = .ok (.ifCond .ne 8, 3) := by decide +kernel
theorem d_Mo_isHeld_200 : decode M_Mo_isHeld.2.1 200 = .ok (.iconst 1, 1) := by decide +kernel
theorem d_Mo_isHeld_201 : decode M_Mo_isHeld.2.1 201 = .ok (.goto 4, 3) := by decide +kernel
theorem d_Mo_isHeld_195 : decode M_Mo_isHeld.2.1 195 = .ok (.iload 6, 2) := by decide +kernel
theorem d_Mo_isHeld_197 : decode M_Mo_isHeld.2.1 197 = .ok (.ifCond .eq 7, 3) := by decide +kernel
theorem d_Mo_isHeld_204 : decode M_Mo_isHeld.2.1 204 = .ok (.iconst 0, 1) := by decide +kernel
theorem d_Mo_isHeld_172 : decode M_Mo_isHeld.2.1 172 = .ok (.iload 7, 2) := by decide +kernel
theorem d_Mo_isHeld_174 : decode M_Mo_isHeld.2.1 174 = .ok (.ifCond .eq 12, 3) := by decide +kernel
theorem d_Mo_isHeld_186 : decode M_Mo_isHeld.2.1 186 = .ok (.iconst 0, 1) := by decide +kernel
theorem d_Mo_isHeld_187 : decode M_Mo_isHeld.2.1 187 = .ok (.goto 18, 3) := by decide +kernel
theorem d_Mo_isHeld_177 : decode M_Mo_isHeld.2.1 177 = .ok (.iload 6, 2) := by decide +kernel
theorem d_Mo_isHeld_179 : decode M_Mo_isHeld.2.1 179 = .ok (.ifCond .eq 7, 3) := by decide +kernel
theorem d_Mo_isHeld_182 : decode M_Mo_isHeld.2.1 182 = .ok (.iconst 1, 1) := by decide +kernel
theorem d_Mo_isHeld_183 : decode M_Mo_isHeld.2.1 183 = .ok (.goto 22, 3) := by decide +kernel
theorem d_Mo_isHeld_148 : decode M_Mo_isHeld.2.1 148 = .ok (.iload 6, 2) := by decide +kernel
theorem d_Mo_isHeld_150 : decode M_Mo_isHeld.2.1 150 = .ok (.ifCond .ne 7, 3) := by decide +kernel
theorem d_Mo_isHeld_157 : decode M_Mo_isHeld.2.1 157 = .ok (.iconst 0, 1) := by decide +kernel
theorem d_Mo_isHeld_158 : decode M_Mo_isHeld.2.1 158 = .ok (.goto 47, 3) := by decide +kernel
theorem d_Mo_isHeld_153 : decode M_Mo_isHeld.2.1 153 = .ok (.iconst 1, 1) := by decide +kernel
theorem d_Mo_isHeld_154 : decode M_Mo_isHeld.2.1 154 = .ok (.goto 51, 3) := by decide +kernel
theorem d_Mo_isHeld_122 : decode M_Mo_isHeld.2.1 122 = .ok (.aload_n 0, 1) := by decide +kernel
theorem d_Mo_isHeld_123 : decode M_Mo_isHeld.2.1 123 = .ok (.aload_n 0, 1) := by decide +kernel
theorem d_Mo_isHeld_124 : decode M_Mo_isHeld.2.1 124 = .ok (.getfield 39, 3) := by decide +kernel
theorem d_Mo_isHeld_127 : decode M_Mo_isHeld.2.1 127 = .ok (.iload 5, 2) := by decide +kernel
theorem d_Mo_isHeld_129 : decode M_Mo_isHeld.2.1 129 = .ok (.iaload, 1) := by decide +kernel
theorem d_Mo_isHeld_130 : decode M_Mo_isHeld.2.1 130 = .ok (.iload_n 2, 1) := by decide +kernel
theorem d_Mo_isHeld_131 : decode M_Mo_isHeld.2.1 131 = .ok (.invokevirtual 277, 3) := by decide +kernel
theorem xw_1490 : (Jvm.Cond.code ({ cls := "MarkerTextModel", name := "isTrue", desc := "(IZ)Z" } : Jvm.MethodName) prog_13_method_39_code (10 : Nat) (Option.some Jvm.ClassFile.FieldType.boolean)) ∈ xT := xT_at 1490 (by decide +kernel) (by decide +kernel)
theorem xcb_Mo_isTrue : xcb M_Mo_isTrue 2 := ⟨xw_1490, xw_8, by decide, by decide, by decide, by decide +kernel⟩
theorem xw_1489 : (Jvm.Cond.instanceMethod ({ cls := "MarkerTextModel", name := "isTrue", desc := "(IZ)Z" } : Jvm.MethodName)) ∈ xT := xT_at 1489 (by decide +kernel) (by decide +kernel)
theorem xw_1487 : (Jvm.Cond.methodLink "MarkerTextModel" (277 : Nat) ({ cls := "MarkerTextModel", name := "isTrue", desc := "(IZ)Z" } : Jvm.MethodName)) ∈ xT := xT_at 1487 (by decide +kernel) (by decide +kernel)
theorem xsel_Mo_isTrue : Cond.selects "MarkerTextModel" y_Mo_isTrue y_Mo_isTrue ∈ xT := xT_sel (q := (y_Mo_isTrue, 52)) (by decide +kernel) (by decide +kernel)
theorem xcv_Mo_277_Mo : xCV "MarkerTextModel" 277 "MarkerTextModel" M_Mo_isTrue 2 := ⟨xcb_Mo_isTrue, xw_1489, Or.inl ⟨xw_1487, Or.inl xsel_Mo_isTrue⟩⟩
theorem d_Mo_isHeld_134 : decode M_Mo_isHeld.2.1 134 = .ok (.goto 71, 3) := by decide +kernel
theorem d_Mo_isHeld_58 : decode M_Mo_isHeld.2.1 58 = .ok (.istore 6, 2) := by decide +kernel
theorem d_Mo_isHeld_60 : decode M_Mo_isHeld.2.1 60 = .ok (.aload_n 0, 1) := by decide +kernel
theorem d_Mo_isHeld_61 : decode M_Mo_isHeld.2.1 61 = .ok (.getfield 36, 3) := by decide +kernel
theorem d_Mo_isHeld_64 : decode M_Mo_isHeld.2.1 64 = .ok (.iload 5, 2) := by decide +kernel
theorem d_Mo_isHeld_66 : decode M_Mo_isHeld.2.1 66 = .ok (.iaload, 1) := by decide +kernel
theorem d_Mo_isHeld_67 : decode M_Mo_isHeld.2.1 67 = .ok (.iconst 2, 1) := by decide +kernel
theorem d_Mo_isHeld_68 : decode M_Mo_isHeld.2.1 68 = .ok (.if_icmp .eq 14, 3) := by decide +kernel
theorem d_Mo_isHeld_82 : decode M_Mo_isHeld.2.1 82 = .ok (.aload_n 0, 1) := by decide +kernel
theorem d_Mo_isHeld_83 : decode M_Mo_isHeld.2.1 83 = .ok (.getfield 103, 3) := by decide +kernel
theorem d_Mo_isHeld_86 : decode M_Mo_isHeld.2.1 86 = .ok (.aload_n 0, 1) := by decide +kernel
theorem d_Mo_isHeld_87 : decode M_Mo_isHeld.2.1 87 = .ok (.getfield 39, 3) := by decide +kernel
theorem d_Mo_isHeld_90 : decode M_Mo_isHeld.2.1 90 = .ok (.iload 5, 2) := by decide +kernel
theorem d_Mo_isHeld_92 : decode M_Mo_isHeld.2.1 92 = .ok (.iaload, 1) := by decide +kernel
theorem d_Mo_isHeld_93 : decode M_Mo_isHeld.2.1 93 = .ok (.iload_n 3, 1) := by decide +kernel
theorem d_Mo_isHeld_94 : decode M_Mo_isHeld.2.1 94 = .ok (.isub, 1) := by decide +kernel
theorem d_Mo_isHeld_95 : decode M_Mo_isHeld.2.1 95 = .ok (.baload, 1) := by decide +kernel
theorem d_Mo_isHeld_96 : decode M_Mo_isHeld.2.1 96 = .ok (.ifCond .eq 7, 3) := by decide +kernel
theorem d_Mo_isHeld_103 : decode M_Mo_isHeld.2.1 103 = .ok (.iconst 0, 1) := by decide +kernel
theorem d_Mo_isHeld_99 : decode M_Mo_isHeld.2.1 99 = .ok (.iconst 1, 1) := by decide +kernel
theorem d_Mo_isHeld_100 : decode M_Mo_isHeld.2.1 100 = .ok (.goto 4, 3) := by decide +kernel
theorem d_Mo_isHeld_71 : decode M_Mo_isHeld.2.1 71 = .ok (.aload_n 0, 1) := by decide +kernel
theorem d_Mo_isHeld_72 : decode M_Mo_isHeld.2.1 72 = .ok (.getfield 36, 3) := by decide +kernel
theorem d_Mo_isHeld_75 : decode M_Mo_isHeld.2.1 75 = .ok (.iload 5, 2) := by decide +kernel
theorem d_Mo_isHeld_77 : decode M_Mo_isHeld.2.1 77 = .ok (.iaload, 1) := by decide +kernel
theorem d_Mo_isHeld_78 : decode M_Mo_isHeld.2.1 78 = .ok (.iconst 3, 1) := by decide +kernel
theorem d_Mo_isHeld_79 : decode M_Mo_isHeld.2.1 79 = .ok (.if_icmp .ne 24, 3) := by decide +kernel
theorem d_Mo_isHeld_20 : decode M_Mo_isHeld.2.1 20 = .ok (.iload_n 3, 1) := by decide +kernel
theorem d_Mo_isHeld_21 : decode M_Mo_isHeld.2.1 21 = .ok (.iload 4, 2) := by decide +kernel
theorem d_Mo_isHeld_23 : decode M_Mo_isHeld.2.1 23 = .ok (.iadd, 1) := by decide +kernel
theorem d_Mo_isHeld_24 : decode M_Mo_isHeld.2.1 24 = .ok (.istore 5, 2) := by decide +kernel
theorem d_Mo_isHeld_26 : decode M_Mo_isHeld.2.1 26 = .ok (.aload_n 0, 1) := by decide +kernel
theorem d_Mo_isHeld_27 : decode M_Mo_isHeld.2.1 27 = .ok (.getfield 36, 3) := by decide +kernel
theorem d_Mo_isHeld_30 : decode M_Mo_isHeld.2.1 30 = .ok (.iload 5, 2) := by decide +kernel
theorem d_Mo_isHeld_32 : decode M_Mo_isHeld.2.1 32 = .ok (.iaload, 1) := by decide +kernel
theorem d_Mo_isHeld_33 : decode M_Mo_isHeld.2.1 33 = .ok (.ifCond .eq 24, 3) := by decide +kernel
theorem d_Mo_isHeld_57 : decode M_Mo_isHeld.2.1 57 = .ok (.iconst 0, 1) := by decide +kernel
theorem d_Mo_isHeld_36 : decode M_Mo_isHeld.2.1 36 = .ok (.aload_n 0, 1) := by decide +kernel
theorem d_Mo_isHeld_37 : decode M_Mo_isHeld.2.1 37 = .ok (.getfield 103, 3) := by decide +kernel
theorem d_Mo_isHeld_40 : decode M_Mo_isHeld.2.1 40 = .ok (.aload_n 0, 1) := by decide +kernel
theorem d_Mo_isHeld_41 : decode M_Mo_isHeld.2.1 41 = .ok (.getfield 42, 3) := by decide +kernel
theorem d_Mo_isHeld_44 : decode M_Mo_isHeld.2.1 44 = .ok (.iload 5, 2) := by decide +kernel
theorem d_Mo_isHeld_46 : decode M_Mo_isHeld.2.1 46 = .ok (.iaload, 1) := by decide +kernel
theorem d_Mo_isHeld_47 : decode M_Mo_isHeld.2.1 47 = .ok (.iload_n 3, 1) := by decide +kernel
theorem d_Mo_isHeld_48 : decode M_Mo_isHeld.2.1 48 = .ok (.isub, 1) := by decide +kernel
theorem d_Mo_isHeld_49 : decode M_Mo_isHeld.2.1 49 = .ok (.baload, 1) := by decide +kernel
theorem d_Mo_isHeld_50 : decode M_Mo_isHeld.2.1 50 = .ok (.ifCond .eq 7, 3) := by decide +kernel
theorem d_Mo_isHeld_53 : decode M_Mo_isHeld.2.1 53 = .ok (.iconst 1, 1) := by decide +kernel
theorem d_Mo_isHeld_54 : decode M_Mo_isHeld.2.1 54 = .ok (.goto 4, 3) := by decide +kernel
theorem d_Mo_isHeld_0 : decode M_Mo_isHeld.2.1 0 = .ok (.sipush 128, 3) := by decide +kernel
theorem d_Mo_isHeld_3 : decode M_Mo_isHeld.2.1 3 = .ok (.iload_n 1, 1) := by decide +kernel
theorem d_Mo_isHeld_4 : decode M_Mo_isHeld.2.1 4 = .ok (.imul, 1) := by decide +kernel
theorem d_Mo_isHeld_5 : decode M_Mo_isHeld.2.1 5 = .ok (.istore_n 3, 1) := by decide +kernel
theorem d_Mo_isHeld_6 : decode M_Mo_isHeld.2.1 6 = .ok (.iconst 0, 1) := by decide +kernel
theorem d_Mo_isHeld_7 : decode M_Mo_isHeld.2.1 7 = .ok (.istore 4, 2) := by decide +kernel
abbrev y_Mo_holds : MethodName := ⟨"MarkerTextModel", "holds", "(I)Z"⟩
abbrev M_Mo_holds : XMt := (y_Mo_holds, prog_13_method_42_code, 2, (some .boolean))
theorem d_Mo_holds_0 : decode M_Mo_holds.2.1 0 = .ok (.aload_n 0, 1) := by decide +kernel
theorem d_Mo_holds_1 : decode M_Mo_holds.2.1 1 = .ok (.iconst 0, 1) := by decide +kernel
theorem d_Mo_holds_2 : decode M_Mo_holds.2.1 2 = .ok (.putfield 121, 3) := by decide +kernel
theorem d_Mo_holds_5 : decode M_Mo_holds.2.1 5 = .ok (.aload_n 0, 1) := by decide +kernel
theorem d_Mo_holds_6 : decode M_Mo_holds.2.1 6 = .ok (.iload_n 1, 1) := by decide +kernel
theorem d_Mo_holds_7 : decode M_Mo_holds.2.1 7 = .ok (.invokevirtual 281, 3) := by decide +kernel
theorem xw_1482 : (Jvm.Cond.code ({ cls := "MarkerTextModel", name := "isCondition", desc := "(I)Z" } : Jvm.MethodName) prog_13_method_41_code (2 : Nat) (Option.some Jvm.ClassFile.FieldType.boolean)) ∈ xT := xT_at 1482 (by decide +kernel) (by decide +kernel)
theorem xcb_Mo_isCondition : xcb M_Mo_isCondition 1 := ⟨xw_1482, xw_8, by decide, by decide, by decide, by decide +kernel⟩
theorem xw_1481 : (Jvm.Cond.instanceMethod ({ cls := "MarkerTextModel", name := "isCondition", desc := "(I)Z" } : Jvm.MethodName)) ∈ xT := xT_at 1481 (by decide +kernel) (by decide +kernel)
theorem xw_1479 : (Jvm.Cond.methodLink "MarkerTextModel" (281 : Nat) ({ cls := "MarkerTextModel", name := "isCondition", desc := "(I)Z" } : Jvm.MethodName)) ∈ xT := xT_at 1479 (by decide +kernel) (by decide +kernel)
theorem xsel_Mo_isCondition : Cond.selects "MarkerTextModel" y_Mo_isCondition y_Mo_isCondition ∈ xT := xT_sel (q := (y_Mo_isCondition, 52)) (by decide +kernel) (by decide +kernel)
theorem xcv_Mo_281_Mo : xCV "MarkerTextModel" 281 "MarkerTextModel" M_Mo_isCondition 1 := ⟨xcb_Mo_isCondition, xw_1481, Or.inl ⟨xw_1479, Or.inl xsel_Mo_isCondition⟩⟩
theorem d_Mo_holds_10 : decode M_Mo_holds.2.1 10 = .ok (.ifCond .eq 16, 3) := by decide +kernel
theorem d_Mo_holds_26 : decode M_Mo_holds.2.1 26 = .ok (.iconst 0, 1) := by decide +kernel
theorem d_Mo_holds_27 : decode M_Mo_holds.2.1 27 = .ok (.ireturn, 1) := by decide +kernel
theorem d_Mo_holds_13 : decode M_Mo_holds.2.1 13 = .ok (.aload_n 0, 1) := by decide +kernel
theorem d_Mo_holds_14 : decode M_Mo_holds.2.1 14 = .ok (.iload_n 1, 1) := by decide +kernel
theorem d_Mo_holds_15 : decode M_Mo_holds.2.1 15 = .ok (.iconst 0, 1) := by decide +kernel
theorem d_Mo_holds_16 : decode M_Mo_holds.2.1 16 = .ok (.invokevirtual 284, 3) := by decide +kernel
theorem xw_1486 : (Jvm.Cond.code ({ cls := "MarkerTextModel", name := "isHeld", desc := "(IZ)Z" } : Jvm.MethodName) prog_13_method_40_code (8 : Nat) (Option.some Jvm.ClassFile.FieldType.boolean)) ∈ xT := xT_at 1486 (by decide +kernel) (by decide +kernel)
theorem xcb_Mo_isHeld : xcb M_Mo_isHeld 2 := ⟨xw_1486, xw_8, by decide, by decide, by decide, by decide +kernel⟩
theorem xw_1485 : (Jvm.Cond.instanceMethod ({ cls := "MarkerTextModel", name := "isHeld", desc := "(IZ)Z" } : Jvm.MethodName)) ∈ xT := xT_at 1485 (by decide +kernel) (by decide +kernel)
theorem xw_1483 : (Jvm.Cond.methodLink "MarkerTextModel" (284 : Nat) ({ cls := "MarkerTextModel", name := "isHeld", desc := "(IZ)Z" } : Jvm.MethodName)) ∈ xT := xT_at 1483 (by decide +kernel) (by decide +kernel)
theorem xsel_Mo_isHeld : Cond.selects "MarkerTextModel" y_Mo_isHeld y_Mo_isHeld ∈ xT := xT_sel (q := (y_Mo_isHeld, 52)) (by decide +kernel) (by decide +kernel)
theorem xcv_Mo_284_Mo : xCV "MarkerTextModel" 284 "MarkerTextModel" M_Mo_isHeld 2 := ⟨xcb_Mo_isHeld, xw_1485, Or.inl ⟨xw_1483, Or.inl xsel_Mo_isHeld⟩⟩
theorem d_Mo_holds_19 : decode M_Mo_holds.2.1 19 = .ok (.ifCond .eq 7, 3) := by decide +kernel
theorem d_Mo_holds_22 : decode M_Mo_holds.2.1 22 = .ok (.iconst 1, 1) := by decide +kernel
theorem d_Mo_holds_23 : decode M_Mo_holds.2.1 23 = .ok (.goto 4, 3) := by decide +kernel
end
section RF13
variable {l : Launch} {G : XG} {h : XH} {c n d : Nat} {o : Nat} {rf : Nat → Nat} {S : MS}
abbrev rBit (v : Option Value) : Prop := ∃ r : Int, v = some (.int (zI r)) ∧ (r = 0 ∨ r = 1)
theorem r_compares {k q : Int} (hk : inR k) (hq : inR q) : XM l G d M_Mo_compares [.int (zI k), .int (zI q)] h c n (zP h c n rBit) := by
  refine XM.of (by decide +kernel) (Nat.le_of_ble_eq_true rfl) ?_
  refine x_iload_n d_Mo_compares_0 rfl ?_
  by_cases hsw1_0 : k = 0
  · subst hsw1_0
    refine x_tableIn (tgt := 36) (off := 35) d_Mo_compares_1 (by decide) (by decide) (by decide) (by decide) ?_
    refine x_iload_n d_Mo_compares_36 rfl ?_
    refine z_if_ne (tgt := 44) d_Mo_compares_37 (by decide) (by omega) (fun hc37 => ?_) (fun hc37 => ?_)
    · refine x_iconst (v := zI 0) d_Mo_compares_44 (by decide) ?_
      refine x_zret d_Mo_compares_45 rfl (z_nb (by omega)) ?_
      exact ⟨rfl, rfl, rfl, 0, rfl, by omega⟩
    · refine x_iconst (v := zI 1) d_Mo_compares_40 (by decide) ?_
      refine x_goto (tgt := 45) d_Mo_compares_41 (by decide) ?_
      refine x_zret d_Mo_compares_45 rfl (z_nb (by omega)) ?_
      exact ⟨rfl, rfl, rfl, 1, rfl, by omega⟩
  by_cases hsw1_1 : k = 1
  · subst hsw1_1
    refine x_tableIn (tgt := 46) (off := 45) d_Mo_compares_1 (by decide) (by decide) (by decide) (by decide) ?_
    refine x_iload_n d_Mo_compares_46 rfl ?_
    refine z_if_eq (tgt := 54) d_Mo_compares_47 (by decide) (by omega) (fun hc47 => ?_) (fun hc47 => ?_)
    · refine x_iconst (v := zI 0) d_Mo_compares_54 (by decide) ?_
      refine x_zret d_Mo_compares_55 rfl (z_nb (by omega)) ?_
      exact ⟨rfl, rfl, rfl, 0, rfl, by omega⟩
    · refine x_iconst (v := zI 1) d_Mo_compares_50 (by decide) ?_
      refine x_goto (tgt := 55) d_Mo_compares_51 (by decide) ?_
      refine x_zret d_Mo_compares_55 rfl (z_nb (by omega)) ?_
      exact ⟨rfl, rfl, rfl, 1, rfl, by omega⟩
  by_cases hsw1_2 : k = 2
  · subst hsw1_2
    refine x_tableIn (tgt := 56) (off := 55) d_Mo_compares_1 (by decide) (by decide) (by decide) (by decide) ?_
    refine x_iload_n d_Mo_compares_56 rfl ?_
    refine z_if_ge (tgt := 64) d_Mo_compares_57 (by decide) (by omega) (fun hc57 => ?_) (fun hc57 => ?_)
    · refine x_iconst (v := zI 0) d_Mo_compares_64 (by decide) ?_
      refine x_zret d_Mo_compares_65 rfl (z_nb (by omega)) ?_
      exact ⟨rfl, rfl, rfl, 0, rfl, by omega⟩
    · refine x_iconst (v := zI 1) d_Mo_compares_60 (by decide) ?_
      refine x_goto (tgt := 65) d_Mo_compares_61 (by decide) ?_
      refine x_zret d_Mo_compares_65 rfl (z_nb (by omega)) ?_
      exact ⟨rfl, rfl, rfl, 1, rfl, by omega⟩
  by_cases hsw1_3 : k = 3
  · subst hsw1_3
    refine x_tableIn (tgt := 66) (off := 65) d_Mo_compares_1 (by decide) (by decide) (by decide) (by decide) ?_
    refine x_iload_n d_Mo_compares_66 rfl ?_
    refine z_if_gt (tgt := 74) d_Mo_compares_67 (by decide) (by omega) (fun hc67 => ?_) (fun hc67 => ?_)
    · refine x_iconst (v := zI 0) d_Mo_compares_74 (by decide) ?_
      refine x_zret d_Mo_compares_75 rfl (z_nb (by omega)) ?_
      exact ⟨rfl, rfl, rfl, 0, rfl, by omega⟩
    · refine x_iconst (v := zI 1) d_Mo_compares_70 (by decide) ?_
      refine x_goto (tgt := 75) d_Mo_compares_71 (by decide) ?_
      refine x_zret d_Mo_compares_75 rfl (z_nb (by omega)) ?_
      exact ⟨rfl, rfl, rfl, 1, rfl, by omega⟩
  by_cases hsw1_4 : k = 4
  · subst hsw1_4
    refine x_tableIn (tgt := 76) (off := 75) d_Mo_compares_1 (by decide) (by decide) (by decide) (by decide) ?_
    refine x_iload_n d_Mo_compares_76 rfl ?_
    refine z_if_le (tgt := 84) d_Mo_compares_77 (by decide) (by omega) (fun hc77 => ?_) (fun hc77 => ?_)
    · refine x_iconst (v := zI 0) d_Mo_compares_84 (by decide) ?_
      refine x_zret d_Mo_compares_85 rfl (z_nb (by omega)) ?_
      exact ⟨rfl, rfl, rfl, 0, rfl, by omega⟩
    · refine x_iconst (v := zI 1) d_Mo_compares_80 (by decide) ?_
      refine x_goto (tgt := 85) d_Mo_compares_81 (by decide) ?_
      refine x_zret d_Mo_compares_85 rfl (z_nb (by omega)) ?_
      exact ⟨rfl, rfl, rfl, 1, rfl, by omega⟩
  refine x_tableOut (tgt := 86) d_Mo_compares_1 (by rw [zI_ti (by omega)]; omega) (by decide) ?_
  refine x_iload_n d_Mo_compares_86 rfl ?_
  refine z_if_lt (tgt := 94) d_Mo_compares_87 (by decide) (by omega) (fun hc87 => ?_) (fun hc87 => ?_)
  · refine x_iconst (v := zI 0) d_Mo_compares_94 (by decide) ?_
    refine x_zret d_Mo_compares_95 rfl (z_nb (by omega)) ?_
    exact ⟨rfl, rfl, rfl, 0, rfl, by omega⟩
  · refine x_iconst (v := zI 1) d_Mo_compares_90 (by decide) ?_
    refine x_goto (tgt := 95) d_Mo_compares_91 (by decide) ?_
    refine x_zret d_Mo_compares_95 rfl (z_nb (by omega)) ?_
    exact ⟨rfl, rfl, rfl, 1, rfl, by omega⟩
theorem r_isTrue {t b s V : Int} (hd : 1 ≤ d) (hb : b = 0 ∨ b = 1) (hs : 0 ≤ s ∧ s ≤ 8) (ht : 40 * s ≤ t ∧ t < 40 * s + 40) (hV : V ≤ 64) (hT : tsOk S s V t) : RM l G d M_Mo_isTrue [.ref o, .int (zI t), .int (zI b)] o rf S (fun v S' => S' = S ∧ rBit v) := by
  obtain ⟨d, rfl⟩ : ∃ q, d = q + 1 := ⟨d - 1, by omega⟩
  intro H0 c n hR
  refine XM.of (by decide +kernel) (Nat.le_of_ble_eq_true rfl) ?_
  have hX : xonly H0 H0 RKs := xonly.rf
  obtain ⟨t1, t2, t3, t4, t5, t6, t7⟩ := hT
  have lp : ∀ (k : Nat) (op nm hs' i j : Int) (w8 w9 : Option Value), op = gd (S.2.1 18) t → op ≤ 6 → 0 ≤ nm → nm < 6 → (i = 0 ∨ i = 1) → 0 ≤ j → j ≤ gd (S.2.1 20) t → gd (S.2.1 20) t - j ≤ k → RX l G M_Mo_isTrue (d + 1) 86 [some (.ref o), some (.int (zI t)), some (.int (zI b)), some (.int (zI op)), some (.int (zI nm)), some (.int (zI hs')), some (.int (zI i)), some (.int (zI j)), w8, w9] [] H0 o rf c n S (fun v S' => S' = S ∧ rBit v) := by
    intro k
    induction k with
    | zero =>
      intro op nm hs' i j w8 w9 ho1 ho2 hn1 hn2 hi hj1 hj2 hk h hR hX
      refine x_iload d_Mo_isTrue_86 rfl ?_
      refine x_aload_n d_Mo_isTrue_88 rfl rfl ?_
      refine x_get xf_Mo_60_Mo (Or.inl hR.1) (v := .ref (rf 20)) rfl d_Mo_isTrue_89 ?_
      refine x_iload_n d_Mo_isTrue_92 rfl ?_
      refine r_iald (i := 20) (us := (S.2.1 20)) rfl (by decide) hR rfl (by omega) (by show t < 360; omega) d_Mo_isTrue_93 (fun hr93 => ?_)
      refine z_icmp_ge (tgt := 214) d_Mo_isTrue_94 (by decide) (by omega) (by omega) (fun _ => ?_) (fun hq => by omega)
      refine x_iload d_Mo_isTrue_214 rfl ?_
      refine x_zret d_Mo_isTrue_216 rfl (z_nb (by omega)) ?_
      exact ⟨_, hR, hX, rfl, rfl, rfl, _, rfl, hi⟩
    | succ k ih =>
      intro op nm hs' i j w8 w9 ho1 ho2 hn1 hn2 hi hj1 hj2 hk h hR hX
      have j206 : ∀ (v9 i' v8 : Int), (i' = 0 ∨ i' = 1) → j < gd (S.2.1 20) t → RX l G M_Mo_isTrue (d + 1) 206 [some (.ref o), some (.int (zI t)), some (.int (zI b)), some (.int (zI op)), some (.int (zI nm)), some (.int (zI hs')), some (.int (zI i)), some (.int (zI j)), some (.int (zI v8)), some (.int (zI v9))] [.int (zI i')] H0 o rf c n S (fun v S' => S' = S ∧ rBit v) := by
        intro v9 i' v8 hi' hj h hR hX
        refine x_istore (L' := [_, _, _, _, _, _, _, _, _, _]) d_Mo_isTrue_206 rfl rfl ?_
        refine x_iinc (v := zI (j + 1)) (L' := [_, _, _, _, _, _, _, _, _, _]) d_Mo_isTrue_208 rfl (zI_add _ _) rfl rfl ?_
        refine x_goto (tgt := 86) d_Mo_isTrue_211 (by decide) ?_
        exact ih op nm hs' i' (j + 1) _ _ ho1 ho2 hn1 hn2 hi' (by omega) (by omega) (by omega) _ hR hX
      have j175 : ∀ (q v8 : Int), inR q → j < gd (S.2.1 20) t → RX l G M_Mo_isTrue (d + 1) 175 [some (.ref o), some (.int (zI t)), some (.int (zI b)), some (.int (zI op)), some (.int (zI nm)), some (.int (zI hs')), some (.int (zI i)), some (.int (zI j)), some (.int (zI v8)), w9] [.int (zI q)] H0 o rf c n S (fun v S' => S' = S ∧ rBit v) := by
        intro q v8 hq hj h hR hX
        refine x_istore (L' := [_, _, _, _, _, _, _, _, _, _]) d_Mo_isTrue_175 rfl rfl ?_
        refine x_iload d_Mo_isTrue_177 rfl ?_
        refine z_if_ne (tgt := 201) d_Mo_isTrue_179 (by decide) (by omega) (fun hc179 => ?_) (fun hc179 => ?_)
        · refine x_iconst (v := zI 1) d_Mo_isTrue_201 (by decide) ?_
          refine x_goto (tgt := 206) d_Mo_isTrue_202 (by decide) ?_
          exact j206 _ _ _ (by omega) hj _ hR hX
        · refine x_iload_n d_Mo_isTrue_182 rfl ?_
          refine x_bipush (v := zI 6) d_Mo_isTrue_183 (by decide) ?_
          refine z_icmp_ne (tgt := 192) d_Mo_isTrue_185 (by decide) (by omega) (by omega) (fun hc185 => ?_) (fun hc185 => ?_)
          · refine x_iload_n d_Mo_isTrue_192 rfl ?_
            refine x_iload d_Mo_isTrue_193 rfl ?_
            refine x_callS (As := [_, _]) xcs_Mo_274 (r_compares (by omega) hq) rfl rfl (Nat.le_of_ble_eq_true rfl) d_Mo_isTrue_195 ?_
            rintro v195 h cq nq ⟨rfl, rfl, rfl, r195, rfl, hr195⟩
            refine z_if_eq (tgt := 205) d_Mo_isTrue_198 (by decide) (by omega) (fun hc198 => ?_) (fun hc198 => ?_)
            · refine x_iconst (v := zI 0) d_Mo_isTrue_205 (by decide) ?_
              exact j206 _ _ _ (by omega) hj _ hR hX
            · refine x_iconst (v := zI 1) d_Mo_isTrue_201 (by decide) ?_
              refine x_goto (tgt := 206) d_Mo_isTrue_202 (by decide) ?_
              exact j206 _ _ _ (by omega) hj _ hR hX
          · refine x_iconst (v := zI 0) d_Mo_isTrue_188 (by decide) ?_
            refine x_goto (tgt := 193) d_Mo_isTrue_189 (by decide) ?_
            refine x_iload d_Mo_isTrue_193 rfl ?_
            refine x_callS (As := [_, _]) xcs_Mo_274 (r_compares (by omega) hq) rfl rfl (Nat.le_of_ble_eq_true rfl) d_Mo_isTrue_195 ?_
            rintro v195 h cq nq ⟨rfl, rfl, rfl, r195, rfl, hr195⟩
            refine z_if_eq (tgt := 205) d_Mo_isTrue_198 (by decide) (by omega) (fun hc198 => ?_) (fun hc198 => ?_)
            · refine x_iconst (v := zI 0) d_Mo_isTrue_205 (by decide) ?_
              exact j206 _ _ _ (by omega) hj _ hR hX
            · refine x_iconst (v := zI 1) d_Mo_isTrue_201 (by decide) ?_
              refine x_goto (tgt := 206) d_Mo_isTrue_202 (by decide) ?_
              exact j206 _ _ _ (by omega) hj _ hR hX
      refine x_iload d_Mo_isTrue_86 rfl ?_
      refine x_aload_n d_Mo_isTrue_88 rfl rfl ?_
      refine x_get xf_Mo_60_Mo (Or.inl hR.1) (v := .ref (rf 20)) rfl d_Mo_isTrue_89 ?_
      refine x_iload_n d_Mo_isTrue_92 rfl ?_
      refine r_iald (i := 20) (us := (S.2.1 20)) rfl (by decide) hR rfl (by omega) (by show t < 360; omega) d_Mo_isTrue_93 (fun hr93 => ?_)
      refine z_icmp_ge (tgt := 214) d_Mo_isTrue_94 (by decide) (by omega) (by omega) (fun hc94 => ?_) (fun hc94 => ?_)
      · refine x_iload d_Mo_isTrue_214 rfl ?_
        refine x_zret d_Mo_isTrue_216 rfl (z_nb (by omega)) ?_
        exact ⟨_, hR, hX, rfl, rfl, rfl, _, rfl, hi⟩
      · refine x_aload_n d_Mo_isTrue_97 rfl rfl ?_
        refine x_get xf_Mo_57_Mo (Or.inl hR.1) (v := .ref (rf 19)) rfl d_Mo_isTrue_98 ?_
        refine x_iload_n d_Mo_isTrue_101 rfl ?_
        refine r_iald (i := 19) (us := (S.2.1 19)) rfl (by decide) hR rfl (by omega) (by show t < 360; omega) d_Mo_isTrue_102 (fun hr102 => ?_)
        refine x_iload d_Mo_isTrue_103 rfl ?_
        refine z_iadd d_Mo_isTrue_105 ?_
        refine x_istore (L' := [_, _, _, _, _, _, _, _, _, _]) d_Mo_isTrue_106 rfl rfl ?_
        refine x_iload_n d_Mo_isTrue_108 rfl ?_
        refine z_if_eq (tgt := 130) d_Mo_isTrue_109 (by decide) (by omega) (fun hc109 => ?_) (fun hc109 => ?_)
        · refine x_aload_n d_Mo_isTrue_130 rfl rfl ?_
          refine x_get xf_Mo_33_Mo (Or.inl hR.1) (v := .ref (rf 10)) rfl d_Mo_isTrue_131 ?_
          refine x_iload d_Mo_isTrue_134 rfl ?_
          refine r_lald (i := 10) (us := (S.2.2.1 10)) rfl (by decide) hR rfl (by omega) (by show nm < 6; omega) d_Mo_isTrue_136 ?_
          refine x_aload_n d_Mo_isTrue_137 rfl rfl ?_
          refine x_get xf_Mo_66_Mo (Or.inl hR.1) (v := .ref (rf 22)) rfl d_Mo_isTrue_138 ?_
          refine x_iload d_Mo_isTrue_141 rfl ?_
          refine r_lald (i := 22) (us := (S.2.2.1 22)) rfl (by decide) hR rfl (by omega) (by show gd (S.2.1 19) t + j < 576; omega) d_Mo_isTrue_143 ?_
          refine x_lcmp d_Mo_isTrue_144 (x_zi ?_)
          have hr144 := inR_ti (lg_cmp (gl (S.2.2.1 10) nm) (gl (S.2.2.1 22) ((gd (S.2.1 19) t) + j)))
          refine z_if_ge (tgt := 152) d_Mo_isTrue_145 (by decide) (by omega) (fun hc145 => ?_) (fun hc145 => ?_)
          · refine x_aload_n d_Mo_isTrue_152 rfl rfl ?_
            refine x_get xf_Mo_33_Mo (Or.inl hR.1) (v := .ref (rf 10)) rfl d_Mo_isTrue_153 ?_
            refine x_iload d_Mo_isTrue_156 rfl ?_
            refine r_lald (i := 10) (us := (S.2.2.1 10)) rfl (by decide) hR rfl (by omega) (by show nm < 6; omega) d_Mo_isTrue_158 ?_
            refine x_aload_n d_Mo_isTrue_159 rfl rfl ?_
            refine x_get xf_Mo_66_Mo (Or.inl hR.1) (v := .ref (rf 22)) rfl d_Mo_isTrue_160 ?_
            refine x_iload d_Mo_isTrue_163 rfl ?_
            refine r_lald (i := 22) (us := (S.2.2.1 22)) rfl (by decide) hR rfl (by omega) (by show gd (S.2.1 19) t + j < 576; omega) d_Mo_isTrue_165 ?_
            refine x_lcmp d_Mo_isTrue_166 (x_zi ?_)
            have hr166 := inR_ti (lg_cmp (gl (S.2.2.1 10) nm) (gl (S.2.2.1 22) ((gd (S.2.1 19) t) + j)))
            refine z_if_le (tgt := 174) d_Mo_isTrue_167 (by decide) (by omega) (fun hc167 => ?_) (fun hc167 => ?_)
            · refine x_iconst (v := zI 0) d_Mo_isTrue_174 (by decide) ?_
              exact j175 _ _ (by omega) (by omega) _ hR hX
            · refine x_iconst (v := zI 1) d_Mo_isTrue_170 (by decide) ?_
              refine x_goto (tgt := 175) d_Mo_isTrue_171 (by decide) ?_
              exact j175 _ _ (by omega) (by omega) _ hR hX
          · refine x_iconst (v := zI (-1)) d_Mo_isTrue_148 (by decide) ?_
            refine x_goto (tgt := 175) d_Mo_isTrue_149 (by decide) ?_
            exact j175 _ _ (by omega) (by omega) _ hR hX
        · refine x_aload_n d_Mo_isTrue_112 rfl rfl ?_
          refine x_get xf_Mo_100_Mo (Or.inl hR.1) (v := .ref (rf 40)) rfl d_Mo_isTrue_113 ?_
          refine x_iload d_Mo_isTrue_116 rfl ?_
          refine r_iald (i := 40) (us := (S.2.1 40)) rfl (by decide) hR rfl (by omega) (by show nm < 6; omega) d_Mo_isTrue_118 (fun hr118 => ?_)
          refine x_aload_n d_Mo_isTrue_119 rfl rfl ?_
          refine x_get xf_Mo_75_Mo (Or.inl hR.1) (v := .ref (rf 25)) rfl d_Mo_isTrue_120 ?_
          refine x_iload d_Mo_isTrue_123 rfl ?_
          refine r_iald (i := 25) (us := (S.2.1 25)) rfl (by decide) hR rfl (by omega) (by show gd (S.2.1 19) t + j < 576; omega) d_Mo_isTrue_125 (fun hr125 => ?_)
          refine z_isub d_Mo_isTrue_126 (x_zi ?_)
          have hr126 := inR_ti (zI ((gd (S.2.1 40) nm) - (gd (S.2.1 25) ((gd (S.2.1 19) t) + j))))
          refine x_goto (tgt := 175) d_Mo_isTrue_127 (by decide) ?_
          exact j175 _ _ (by omega) (by omega) _ hR hX
  have j62 : ∀ (op nm q : Int), op = gd (S.2.1 18) t → op ≤ 6 → 0 ≤ nm → nm < 6 → (q = 0 ∨ q = 1) → RX l G M_Mo_isTrue (d + 1) 62 [some (.ref o), some (.int (zI t)), some (.int (zI b)), some (.int (zI op)), some (.int (zI nm)), none, none, none, none, none] [.int (zI q)] H0 o rf c n S (fun v S' => S' = S ∧ rBit v) := by
    intro op nm q ho1 ho2 hn1 hn2 hq h hR hX
    refine x_istore (L' := [_, _, _, _, _, _, _, _, _, _]) d_Mo_isTrue_62 rfl rfl ?_
    refine x_iload d_Mo_isTrue_64 rfl ?_
    refine z_if_ne (tgt := 80) d_Mo_isTrue_66 (by decide) (by omega) (fun hc66 => ?_) (fun hc66 => ?_)
    · refine x_iconst (v := zI 0) d_Mo_isTrue_80 (by decide) ?_
      refine x_istore (L' := [_, _, _, _, _, _, _, _, _, _]) d_Mo_isTrue_81 rfl rfl ?_
      refine x_iconst (v := zI 0) d_Mo_isTrue_83 (by decide) ?_
      refine x_istore (L' := [_, _, _, _, _, _, _, _, _, _]) d_Mo_isTrue_84 rfl rfl ?_
      exact lp (gd (S.2.1 20) t).toNat op nm _ 0 0 _ _ ho1 ho2 hn1 hn2 (Or.inl rfl) (by omega) (by omega) (by omega) _ hR hX
    · refine x_iload_n d_Mo_isTrue_69 rfl ?_
      refine x_iconst (v := zI 1) d_Mo_isTrue_70 (by decide) ?_
      refine z_icmp_ne (tgt := 78) d_Mo_isTrue_71 (by decide) (by omega) (by omega) (fun hc71 => ?_) (fun hc71 => ?_)
      · refine x_iconst (v := zI 0) d_Mo_isTrue_78 (by decide) ?_
        refine x_zret d_Mo_isTrue_79 rfl (z_nb (by omega)) ?_
        exact ⟨_, hR, hX, rfl, rfl, rfl, _, rfl, by omega⟩
      · refine x_iconst (v := zI 1) d_Mo_isTrue_74 (by decide) ?_
        refine x_goto (tgt := 79) d_Mo_isTrue_75 (by decide) ?_
        refine x_zret d_Mo_isTrue_79 rfl (z_nb (by omega)) ?_
        exact ⟨_, hR, hX, rfl, rfl, rfl, _, rfl, by omega⟩
  refine x_aload_n d_Mo_isTrue_0 rfl rfl ?_
  refine x_get xf_Mo_54_Mo (Or.inl hR.1) (v := .ref (rf 18)) rfl d_Mo_isTrue_1 ?_
  refine x_iload_n d_Mo_isTrue_4 rfl ?_
  refine r_iald (i := 18) (us := (S.2.1 18)) rfl (by decide) hR rfl (by omega) (by show t < 360; omega) d_Mo_isTrue_5 (fun hr5 => ?_)
  refine x_istore_n (L' := [_, _, _, _, _, _, _, _, _, _]) d_Mo_isTrue_6 rfl rfl ?_
  refine x_iload_n d_Mo_isTrue_7 rfl ?_
  refine x_bipush (v := zI 6) d_Mo_isTrue_8 (by decide) ?_
  refine z_icmp_le (tgt := 25) d_Mo_isTrue_10 (by decide) (by omega) (by omega) (fun hc10 => ?_) (fun hc10 => ?_)
  · refine x_aload_n d_Mo_isTrue_25 rfl rfl ?_
    refine x_get xf_Mo_51_Mo (Or.inl hR.1) (v := .ref (rf 17)) rfl d_Mo_isTrue_26 ?_
    refine x_iload_n d_Mo_isTrue_29 rfl ?_
    refine r_iald (i := 17) (us := (S.2.1 17)) rfl (by decide) hR rfl (by omega) (by show t < 360; omega) d_Mo_isTrue_30 (fun hr30 => ?_)
    refine x_istore (L' := [_, _, _, _, _, _, _, _, _, _]) d_Mo_isTrue_31 rfl rfl ?_
    refine x_iload_n d_Mo_isTrue_33 rfl ?_
    refine z_if_eq (tgt := 55) d_Mo_isTrue_34 (by decide) (by omega) (fun hc34 => ?_) (fun hc34 => ?_)
    · refine x_aload_n d_Mo_isTrue_55 rfl rfl ?_
      refine x_get xf_Mo_29_Mo (Or.inl hR.1) (v := .ref (rf 9)) rfl d_Mo_isTrue_56 ?_
      refine x_iload d_Mo_isTrue_59 rfl ?_
      refine r_zald (i := 9) (us := (S.2.1 9)) ⟨rfl, rfl⟩ (by decide) hR rfl (by omega) (by show gd (S.2.1 17) t < 6; omega) d_Mo_isTrue_61 (fun hr61 => ?_)
      exact j62 _ _ _ rfl (by omega) (by omega) (by omega) (by omega) _ hR hX
    · refine x_aload_n d_Mo_isTrue_37 rfl rfl ?_
      refine x_get xf_Mo_100_Mo (Or.inl hR.1) (v := .ref (rf 40)) rfl d_Mo_isTrue_38 ?_
      refine x_iload d_Mo_isTrue_41 rfl ?_
      refine r_iald (i := 40) (us := (S.2.1 40)) rfl (by decide) hR rfl (by omega) (by show gd (S.2.1 17) t < 6; omega) d_Mo_isTrue_43 (fun hr43 => ?_)
      refine z_if_le (tgt := 51) d_Mo_isTrue_44 (by decide) (by omega) (fun hc44 => ?_) (fun hc44 => ?_)
      · refine x_iconst (v := zI 0) d_Mo_isTrue_51 (by decide) ?_
        refine x_goto (tgt := 62) d_Mo_isTrue_52 (by decide) ?_
        exact j62 _ _ _ rfl (by omega) (by omega) (by omega) (by omega) _ hR hX
      · refine x_iconst (v := zI 1) d_Mo_isTrue_47 (by decide) ?_
        refine x_goto (tgt := 62) d_Mo_isTrue_48 (by decide) ?_
        exact j62 _ _ _ rfl (by omega) (by omega) (by omega) (by omega) _ hR hX
  · refine x_iload_n d_Mo_isTrue_13 rfl ?_
    refine x_bipush (v := zI 7) d_Mo_isTrue_14 (by decide) ?_
    refine z_icmp_ne (tgt := 23) d_Mo_isTrue_16 (by decide) (by omega) (by omega) (fun hc16 => ?_) (fun hc16 => ?_)
    · refine x_iconst (v := zI 0) d_Mo_isTrue_23 (by decide) ?_
      refine x_zret d_Mo_isTrue_24 rfl (z_nb (by omega)) ?_
      exact ⟨_, hR, hX, rfl, rfl, rfl, _, rfl, by omega⟩
    · refine x_iconst (v := zI 1) d_Mo_isTrue_19 (by decide) ?_
      refine x_goto (tgt := 24) d_Mo_isTrue_20 (by decide) ?_
      refine x_zret d_Mo_isTrue_24 rfl (z_nb (by omega)) ?_
      exact ⟨_, hR, hX, rfl, rfl, rfl, _, rfl, by omega⟩
/-- how isHeld() ends -/
abbrev ihQ (S : MS) : Option Value → MS → Prop := fun v S' => ∃ us : List Int, S' = sa S 41 us ∧ rBit v
theorem r_isHeld {s b : Int} (hd : 2 ≤ d) (hb : b = 0 ∨ b = 1) (hs : 0 ≤ s ∧ s ≤ 8) (hC : cdOk S s) : RM l G d M_Mo_isHeld [.ref o, .int (zI s), .int (zI b)] o rf S (ihQ S) := by
  obtain ⟨d, rfl⟩ : ∃ q, d = q + 1 := ⟨d - 1, by omega⟩
  intro H0 c n hR
  refine XM.of (by decide +kernel) (Nat.le_of_ble_eq_true rfl) ?_
  have hX : xonly H0 H0 RKs := xonly.rf
  obtain ⟨w, ⟨p1, p2, p3, p4, p5, p6, p7, p8, p9, p10⟩, q1, q2, q3⟩ := hC
  have lp : ∀ (k : Nat) (us : List Int) (i : Int) (w5 w6 w7 : Option Value), 0 ≤ i → i ≤ gd (S.2.1 15) s → gd (S.2.1 15) s - i ≤ k → RX l G M_Mo_isHeld (d + 1) 9 [some (.ref o), some (.int (zI s)), some (.int (zI b)), some (.int (zI (128 * s))), some (.int (zI i)), w5, w6, w7] [] H0 o rf c n (sa S 41 us) (ihQ S) := by
    intro k
    induction k with
    | zero =>
      intro us i w5 w6 w7 hi1 hi2 hk h hR hX
      refine x_iload d_Mo_isHeld_9 rfl ?_
      refine x_aload_n d_Mo_isHeld_11 rfl rfl ?_
      refine x_get xf_Mo_45_Mo (Or.inl hR.1) (v := .ref (rf 15)) rfl d_Mo_isHeld_12 ?_
      refine x_iload_n d_Mo_isHeld_15 rfl ?_
      refine r_iald (i := 15) (us := (S.2.1 15)) rfl (by decide) hR rfl (by omega) (by show s < 9; omega) d_Mo_isHeld_16 (fun hr16 => ?_)
      refine z_icmp_ge (tgt := 212) d_Mo_isHeld_17 (by decide) (by omega) (by omega) (fun _ => ?_) (fun hq => by omega)
      refine x_aload_n d_Mo_isHeld_212 rfl rfl ?_
      refine x_get xf_Mo_103_Mo (Or.inl hR.1) (v := .ref (rf 41)) rfl d_Mo_isHeld_213 ?_
      refine x_aload_n d_Mo_isHeld_216 rfl rfl ?_
      refine x_get xf_Mo_48_Mo (Or.inl hR.1) (v := .ref (rf 16)) rfl d_Mo_isHeld_217 ?_
      refine x_iload_n d_Mo_isHeld_220 rfl ?_
      refine r_iald (i := 16) (us := (S.2.1 16)) rfl (by decide) hR rfl (by omega) (by show s < 9; omega) d_Mo_isHeld_221 (fun hr221 => ?_)
      refine x_iload_n d_Mo_isHeld_222 rfl ?_
      refine z_isub d_Mo_isHeld_223 ?_
      refine r_zald (i := 41) (us := us) ⟨rfl, rfl⟩ (by decide) hR rfl (by omega) (by show gd (S.2.1 16) s - 128 * s < 128; omega) d_Mo_isHeld_224 (fun hr224 => ?_)
      refine x_zret d_Mo_isHeld_225 rfl (z_nb (by omega)) ?_
      exact ⟨_, hR, hX, rfl, rfl, us, rfl, _, rfl, hr224⟩
    | succ k ih =>
      intro us i w5 w6 w7 hi1 hi2 hk h hR hX
      by_cases hend : gd (S.2.1 15) s ≤ i
      · refine x_iload d_Mo_isHeld_9 rfl ?_
        refine x_aload_n d_Mo_isHeld_11 rfl rfl ?_
        refine x_get xf_Mo_45_Mo (Or.inl hR.1) (v := .ref (rf 15)) rfl d_Mo_isHeld_12 ?_
        refine x_iload_n d_Mo_isHeld_15 rfl ?_
        refine r_iald (i := 15) (us := (S.2.1 15)) rfl (by decide) hR rfl (by omega) (by show s < 9; omega) d_Mo_isHeld_16 (fun hr16 => ?_)
        refine z_icmp_ge (tgt := 212) d_Mo_isHeld_17 (by decide) (by omega) (by omega) (fun _ => ?_) (fun hq => by omega)
        refine x_aload_n d_Mo_isHeld_212 rfl rfl ?_
        refine x_get xf_Mo_103_Mo (Or.inl hR.1) (v := .ref (rf 41)) rfl d_Mo_isHeld_213 ?_
        refine x_aload_n d_Mo_isHeld_216 rfl rfl ?_
        refine x_get xf_Mo_48_Mo (Or.inl hR.1) (v := .ref (rf 16)) rfl d_Mo_isHeld_217 ?_
        refine x_iload_n d_Mo_isHeld_220 rfl ?_
        refine r_iald (i := 16) (us := (S.2.1 16)) rfl (by decide) hR rfl (by omega) (by show s < 9; omega) d_Mo_isHeld_221 (fun hr221 => ?_)
        refine x_iload_n d_Mo_isHeld_222 rfl ?_
        refine z_isub d_Mo_isHeld_223 ?_
        refine r_zald (i := 41) (us := us) ⟨rfl, rfl⟩ (by decide) hR rfl (by omega) (by show gd (S.2.1 16) s - 128 * s < 128; omega) d_Mo_isHeld_224 (fun hr224 => ?_)
        refine x_zret d_Mo_isHeld_225 rfl (z_nb (by omega)) ?_
        exact ⟨_, hR, hX, rfl, rfl, us, rfl, _, rfl, hr224⟩
      · have hn := (p7 (128 * s + i) (by omega) (by omega)).2
        have hkd : gd (S.2.1 12) (128 * s + i) = 0 ∨ gd (S.2.1 12) (128 * s + i) = 1 ∨ gd (S.2.1 12) (128 * s + i) = 2 ∨ gd (S.2.1 12) (128 * s + i) = 3 := by
          rcases hn with ⟨e, -⟩ | ⟨e, -⟩ | ⟨⟨e, -⟩ | ⟨e, -⟩, -⟩ <;> omega
        have hkr : gd (S.2.1 12) (128 * s + i) ≠ 0 → 128 * s ≤ gd (S.2.1 14) (128 * s + i) ∧ gd (S.2.1 14) (128 * s + i) < 128 * s + i := by
          intro hz
          rcases hn with ⟨e, -⟩ | ⟨-, e1, e2, -⟩ | ⟨-, -, -, e1, e2⟩
          · exact absurd e hz
          · exact ⟨e1, e2⟩
          · exact ⟨e1, e2⟩
        have hkl : (gd (S.2.1 12) (128 * s + i) = 2 ∨ gd (S.2.1 12) (128 * s + i) = 3) → 128 * s ≤ gd (S.2.1 13) (128 * s + i) ∧ gd (S.2.1 13) (128 * s + i) < 128 * s + i := by
          intro hz
          rcases hn with ⟨e, -⟩ | ⟨e, -⟩ | ⟨-, e1, e2, -⟩
          · omega
          · omega
          · exact ⟨e1, e2⟩
        have hkt : gd (S.2.1 12) (128 * s + i) = 0 → 40 * s ≤ gd (S.2.1 13) (128 * s + i) ∧ gd (S.2.1 13) (128 * s + i) < 40 * s + gd (S.2.1 21) s := by
          intro hz
          rcases hn with ⟨-, e1, e2, -⟩ | ⟨e, -⟩ | ⟨⟨e, -⟩ | ⟨e, -⟩, -⟩
          · exact ⟨e1, e2⟩
          · omega
          · omega
          · omega
        have j205 : ∀ (r7 r6 z : Int), (z = 0 ∨ z = 1) → RX l G M_Mo_isHeld (d + 1) 205 [some (.ref o), some (.int (zI s)), some (.int (zI b)), some (.int (zI (128 * s))), some (.int (zI i)), some (.int (zI (128 * s + i))), some (.int (zI r6)), some (.int (zI r7))] [.int (zI z), .int (zI i), .ref (rf 41)] H0 o rf c n (sa S 41 us) (ihQ S) := by
          intro r7 r6 z hz h hR hX
          refine r_zast (i := 41) (us := us) rfl (by decide) hR hX rfl (by omega) (by show i < 128; omega) hz d_Mo_isHeld_205 ?_
          intro h hR hX
          refine x_iinc (v := zI (i + 1)) (L' := [_, _, _, _, _, _, _, _]) d_Mo_isHeld_206 rfl (zI_add _ _) rfl rfl ?_
          refine x_goto (tgt := 9) d_Mo_isHeld_209 (by decide) ?_
          exact ih _ (i + 1) _ _ _ (by omega) (by omega) (by omega) _ (by rw [sa_sa] at hR; exact hR) hX
        have j104 : ∀ (r6 z : Int), (r6 = 0 ∨ r6 = 1) → (z = 0 ∨ z = 1) → RX l G M_Mo_isHeld (d + 1) 104 [some (.ref o), some (.int (zI s)), some (.int (zI b)), some (.int (zI (128 * s))), some (.int (zI i)), some (.int (zI (128 * s + i))), some (.int (zI r6)), w7] [.int (zI z)] H0 o rf c n (sa S 41 us) (ihQ S) := by
          intro r6 z hr6 hz h hR hX
          refine x_istore (L' := [_, _, _, _, _, _, _, _]) d_Mo_isHeld_104 rfl rfl ?_
          refine x_aload_n d_Mo_isHeld_106 rfl rfl ?_
          refine x_get xf_Mo_103_Mo (Or.inl hR.1) (v := .ref (rf 41)) rfl d_Mo_isHeld_107 ?_
          refine x_iload d_Mo_isHeld_110 rfl ?_
          refine x_aload_n d_Mo_isHeld_112 rfl rfl ?_
          refine x_get xf_Mo_36_Mo (Or.inl hR.1) (v := .ref (rf 12)) rfl d_Mo_isHeld_113 ?_
          refine x_iload d_Mo_isHeld_116 rfl ?_
          refine r_iald (i := 12) (us := (S.2.1 12)) rfl (by decide) hR rfl (by omega) (by show 128 * s + i < 1152; omega) d_Mo_isHeld_118 (fun hr118 => ?_)
          refine z_if_ne (tgt := 137) d_Mo_isHeld_119 (by decide) (by omega) (fun hc119 => ?_) (fun hc119 => ?_)
          · refine x_aload_n d_Mo_isHeld_137 rfl rfl ?_
            refine x_get xf_Mo_36_Mo (Or.inl hR.1) (v := .ref (rf 12)) rfl d_Mo_isHeld_138 ?_
            refine x_iload d_Mo_isHeld_141 rfl ?_
            refine r_iald (i := 12) (us := (S.2.1 12)) rfl (by decide) hR rfl (by omega) (by show 128 * s + i < 1152; omega) d_Mo_isHeld_143 (fun hr143 => ?_)
            refine x_iconst (v := zI 1) d_Mo_isHeld_144 (by decide) ?_
            refine z_icmp_ne (tgt := 161) d_Mo_isHeld_145 (by decide) (by omega) (by omega) (fun hc145 => ?_) (fun hc145 => ?_)
            · refine x_aload_n d_Mo_isHeld_161 rfl rfl ?_
              refine x_get xf_Mo_36_Mo (Or.inl hR.1) (v := .ref (rf 12)) rfl d_Mo_isHeld_162 ?_
              refine x_iload d_Mo_isHeld_165 rfl ?_
              refine r_iald (i := 12) (us := (S.2.1 12)) rfl (by decide) hR rfl (by omega) (by show 128 * s + i < 1152; omega) d_Mo_isHeld_167 (fun hr167 => ?_)
              refine x_iconst (v := zI 2) d_Mo_isHeld_168 (by decide) ?_
              refine z_icmp_ne (tgt := 190) d_Mo_isHeld_169 (by decide) (by omega) (by omega) (fun hc169 => ?_) (fun hc169 => ?_)
              · refine x_iload d_Mo_isHeld_190 rfl ?_
                refine z_if_ne (tgt := 200) d_Mo_isHeld_192 (by decide) (by omega) (fun hc192 => ?_) (fun hc192 => ?_)
                · refine x_iconst (v := zI 1) d_Mo_isHeld_200 (by decide) ?_
                  refine x_goto (tgt := 205) d_Mo_isHeld_201 (by decide) ?_
                  exact j205 _ _ _ (by omega) _ hR hX
                · refine x_iload d_Mo_isHeld_195 rfl ?_
                  refine z_if_eq (tgt := 204) d_Mo_isHeld_197 (by decide) (by omega) (fun hc197 => ?_) (fun hc197 => ?_)
                  · refine x_iconst (v := zI 0) d_Mo_isHeld_204 (by decide) ?_
                    exact j205 _ _ _ (by omega) _ hR hX
                  · refine x_iconst (v := zI 1) d_Mo_isHeld_200 (by decide) ?_
                    refine x_goto (tgt := 205) d_Mo_isHeld_201 (by decide) ?_
                    exact j205 _ _ _ (by omega) _ hR hX
              · refine x_iload d_Mo_isHeld_172 rfl ?_
                refine z_if_eq (tgt := 186) d_Mo_isHeld_174 (by decide) (by omega) (fun hc174 => ?_) (fun hc174 => ?_)
                · refine x_iconst (v := zI 0) d_Mo_isHeld_186 (by decide) ?_
                  refine x_goto (tgt := 205) d_Mo_isHeld_187 (by decide) ?_
                  exact j205 _ _ _ (by omega) _ hR hX
                · refine x_iload d_Mo_isHeld_177 rfl ?_
                  refine z_if_eq (tgt := 186) d_Mo_isHeld_179 (by decide) (by omega) (fun hc179 => ?_) (fun hc179 => ?_)
                  · refine x_iconst (v := zI 0) d_Mo_isHeld_186 (by decide) ?_
                    refine x_goto (tgt := 205) d_Mo_isHeld_187 (by decide) ?_
                    exact j205 _ _ _ (by omega) _ hR hX
                  · refine x_iconst (v := zI 1) d_Mo_isHeld_182 (by decide) ?_
                    refine x_goto (tgt := 205) d_Mo_isHeld_183 (by decide) ?_
                    exact j205 _ _ _ (by omega) _ hR hX
            · refine x_iload d_Mo_isHeld_148 rfl ?_
              refine z_if_ne (tgt := 157) d_Mo_isHeld_150 (by decide) (by omega) (fun hc150 => ?_) (fun hc150 => ?_)
              · refine x_iconst (v := zI 0) d_Mo_isHeld_157 (by decide) ?_
                refine x_goto (tgt := 205) d_Mo_isHeld_158 (by decide) ?_
                exact j205 _ _ _ (by omega) _ hR hX
              · refine x_iconst (v := zI 1) d_Mo_isHeld_153 (by decide) ?_
                refine x_goto (tgt := 205) d_Mo_isHeld_154 (by decide) ?_
                exact j205 _ _ _ (by omega) _ hR hX
          · refine x_aload_n d_Mo_isHeld_122 rfl rfl ?_
            refine x_aload_n d_Mo_isHeld_123 rfl rfl ?_
            refine x_get xf_Mo_39_Mo (Or.inl hR.1) (v := .ref (rf 13)) rfl d_Mo_isHeld_124 ?_
            refine x_iload d_Mo_isHeld_127 rfl ?_
            refine r_iald (i := 13) (us := (S.2.1 13)) rfl (by decide) hR rfl (by omega) (by show 128 * s + i < 1152; omega) d_Mo_isHeld_129 (fun hr129 => ?_)
            refine x_iload_n d_Mo_isHeld_130 rfl ?_
            refine x_callV (As := [_, _]) (k := k_MarkerTextModel) rfl xcv_Mo_277_Mo (Or.inl hR.1) (RM.ap hR (r_isTrue (s := s) (V := gd (S.2.1 26) s) (by omega) hb hs (by have := hkt (by omega); omega) (by omega) (by exact p8 _ (hkt (by omega)).1 (hkt (by omega)).2))) rfl rfl (Nat.le_of_ble_eq_true rfl) d_Mo_isHeld_131 ?_
            rintro v131 h cq nq ⟨S131, hR, hX131, rfl, rfl, hE131, r131, rfl, hr131⟩
            replace hE131 := Eq.symm hE131
            subst hE131
            replace hX := hX.tr hX131
            refine x_goto (tgt := 205) d_Mo_isHeld_134 (by decide) ?_
            exact j205 _ _ _ (by omega) _ hR hX
        have j58 : ∀ (z : Int), (z = 0 ∨ z = 1) → RX l G M_Mo_isHeld (d + 1) 58 [some (.ref o), some (.int (zI s)), some (.int (zI b)), some (.int (zI (128 * s))), some (.int (zI i)), some (.int (zI (128 * s + i))), w6, w7] [.int (zI z)] H0 o rf c n (sa S 41 us) (ihQ S) := by
          intro z hz h hR hX
          refine x_istore (L' := [_, _, _, _, _, _, _, _]) d_Mo_isHeld_58 rfl rfl ?_
          refine x_aload_n d_Mo_isHeld_60 rfl rfl ?_
          refine x_get xf_Mo_36_Mo (Or.inl hR.1) (v := .ref (rf 12)) rfl d_Mo_isHeld_61 ?_
          refine x_iload d_Mo_isHeld_64 rfl ?_
          refine r_iald (i := 12) (us := (S.2.1 12)) rfl (by decide) hR rfl (by omega) (by show 128 * s + i < 1152; omega) d_Mo_isHeld_66 (fun hr66 => ?_)
          refine x_iconst (v := zI 2) d_Mo_isHeld_67 (by decide) ?_
          refine z_icmp_eq (tgt := 82) d_Mo_isHeld_68 (by decide) (by omega) (by omega) (fun hc68 => ?_) (fun hc68 => ?_)
          · refine x_aload_n d_Mo_isHeld_82 rfl rfl ?_
            refine x_get xf_Mo_103_Mo (Or.inl hR.1) (v := .ref (rf 41)) rfl d_Mo_isHeld_83 ?_
            refine x_aload_n d_Mo_isHeld_86 rfl rfl ?_
            refine x_get xf_Mo_39_Mo (Or.inl hR.1) (v := .ref (rf 13)) rfl d_Mo_isHeld_87 ?_
            refine x_iload d_Mo_isHeld_90 rfl ?_
            refine r_iald (i := 13) (us := (S.2.1 13)) rfl (by decide) hR rfl (by omega) (by show 128 * s + i < 1152; omega) d_Mo_isHeld_92 (fun hr92 => ?_)
            refine x_iload_n d_Mo_isHeld_93 rfl ?_
            refine z_isub d_Mo_isHeld_94 ?_
            refine r_zald (i := 41) (us := us) ⟨rfl, rfl⟩ (by decide) hR rfl (by have := hkl (by omega); omega) (by show gd (S.2.1 13) (128 * s + i) - 128 * s < 128; have := hkl (by omega); omega) d_Mo_isHeld_95 (fun hr95 => ?_)
            refine z_if_eq (tgt := 103) d_Mo_isHeld_96 (by decide) (by omega) (fun hc96 => ?_) (fun hc96 => ?_)
            · refine x_iconst (v := zI 0) d_Mo_isHeld_103 (by decide) ?_
              exact j104 _ _ hz (by omega) _ hR hX
            · refine x_iconst (v := zI 1) d_Mo_isHeld_99 (by decide) ?_
              refine x_goto (tgt := 104) d_Mo_isHeld_100 (by decide) ?_
              exact j104 _ _ hz (by omega) _ hR hX
          · refine x_aload_n d_Mo_isHeld_71 rfl rfl ?_
            refine x_get xf_Mo_36_Mo (Or.inl hR.1) (v := .ref (rf 12)) rfl d_Mo_isHeld_72 ?_
            refine x_iload d_Mo_isHeld_75 rfl ?_
            refine r_iald (i := 12) (us := (S.2.1 12)) rfl (by decide) hR rfl (by omega) (by show 128 * s + i < 1152; omega) d_Mo_isHeld_77 (fun hr77 => ?_)
            refine x_iconst (v := zI 3) d_Mo_isHeld_78 (by decide) ?_
            refine z_icmp_ne (tgt := 103) d_Mo_isHeld_79 (by decide) (by omega) (by omega) (fun hc79 => ?_) (fun hc79 => ?_)
            · refine x_iconst (v := zI 0) d_Mo_isHeld_103 (by decide) ?_
              exact j104 _ _ hz (by omega) _ hR hX
            · refine x_aload_n d_Mo_isHeld_82 rfl rfl ?_
              refine x_get xf_Mo_103_Mo (Or.inl hR.1) (v := .ref (rf 41)) rfl d_Mo_isHeld_83 ?_
              refine x_aload_n d_Mo_isHeld_86 rfl rfl ?_
              refine x_get xf_Mo_39_Mo (Or.inl hR.1) (v := .ref (rf 13)) rfl d_Mo_isHeld_87 ?_
              refine x_iload d_Mo_isHeld_90 rfl ?_
              refine r_iald (i := 13) (us := (S.2.1 13)) rfl (by decide) hR rfl (by omega) (by show 128 * s + i < 1152; omega) d_Mo_isHeld_92 (fun hr92 => ?_)
              refine x_iload_n d_Mo_isHeld_93 rfl ?_
              refine z_isub d_Mo_isHeld_94 ?_
              refine r_zald (i := 41) (us := us) ⟨rfl, rfl⟩ (by decide) hR rfl (by have := hkl (by omega); omega) (by show gd (S.2.1 13) (128 * s + i) - 128 * s < 128; have := hkl (by omega); omega) d_Mo_isHeld_95 (fun hr95 => ?_)
              refine z_if_eq (tgt := 103) d_Mo_isHeld_96 (by decide) (by omega) (fun hc96 => ?_) (fun hc96 => ?_)
              · refine x_iconst (v := zI 0) d_Mo_isHeld_103 (by decide) ?_
                exact j104 _ _ hz (by omega) _ hR hX
              · refine x_iconst (v := zI 1) d_Mo_isHeld_99 (by decide) ?_
                refine x_goto (tgt := 104) d_Mo_isHeld_100 (by decide) ?_
                exact j104 _ _ hz (by omega) _ hR hX
        refine x_iload d_Mo_isHeld_9 rfl ?_
        refine x_aload_n d_Mo_isHeld_11 rfl rfl ?_
        refine x_get xf_Mo_45_Mo (Or.inl hR.1) (v := .ref (rf 15)) rfl d_Mo_isHeld_12 ?_
        refine x_iload_n d_Mo_isHeld_15 rfl ?_
        refine r_iald (i := 15) (us := (S.2.1 15)) rfl (by decide) hR rfl (by omega) (by show s < 9; omega) d_Mo_isHeld_16 (fun hr16 => ?_)
        refine z_icmp_ge (tgt := 212) d_Mo_isHeld_17 (by decide) (by omega) (by omega) (fun hq => by omega) (fun _ => ?_)
        refine x_iload_n d_Mo_isHeld_20 rfl ?_
        refine x_iload d_Mo_isHeld_21 rfl ?_
        refine z_iadd d_Mo_isHeld_23 ?_
        refine x_istore (L' := [_, _, _, _, _, _, _, _]) d_Mo_isHeld_24 rfl rfl ?_
        refine x_aload_n d_Mo_isHeld_26 rfl rfl ?_
        refine x_get xf_Mo_36_Mo (Or.inl hR.1) (v := .ref (rf 12)) rfl d_Mo_isHeld_27 ?_
        refine x_iload d_Mo_isHeld_30 rfl ?_
        refine r_iald (i := 12) (us := (S.2.1 12)) rfl (by decide) hR rfl (by omega) (by show 128 * s + i < 1152; omega) d_Mo_isHeld_32 (fun hr32 => ?_)
        refine z_if_eq (tgt := 57) d_Mo_isHeld_33 (by decide) (by omega) (fun hc33 => ?_) (fun hc33 => ?_)
        · refine x_iconst (v := zI 0) d_Mo_isHeld_57 (by decide) ?_
          exact j58 _ (by omega) _ hR hX
        · refine x_aload_n d_Mo_isHeld_36 rfl rfl ?_
          refine x_get xf_Mo_103_Mo (Or.inl hR.1) (v := .ref (rf 41)) rfl d_Mo_isHeld_37 ?_
          refine x_aload_n d_Mo_isHeld_40 rfl rfl ?_
          refine x_get xf_Mo_42_Mo (Or.inl hR.1) (v := .ref (rf 14)) rfl d_Mo_isHeld_41 ?_
          refine x_iload d_Mo_isHeld_44 rfl ?_
          refine r_iald (i := 14) (us := (S.2.1 14)) rfl (by decide) hR rfl (by omega) (by show 128 * s + i < 1152; omega) d_Mo_isHeld_46 (fun hr46 => ?_)
          refine x_iload_n d_Mo_isHeld_47 rfl ?_
          refine z_isub d_Mo_isHeld_48 ?_
          refine r_zald (i := 41) (us := us) ⟨rfl, rfl⟩ (by decide) hR rfl (by have := hkr (by omega); omega) (by show gd (S.2.1 14) (128 * s + i) - 128 * s < 128; have := hkr (by omega); omega) d_Mo_isHeld_49 (fun hr49 => ?_)
          refine z_if_eq (tgt := 57) d_Mo_isHeld_50 (by decide) (by omega) (fun hc50 => ?_) (fun hc50 => ?_)
          · refine x_iconst (v := zI 0) d_Mo_isHeld_57 (by decide) ?_
            exact j58 _ (by omega) _ hR hX
          · refine x_iconst (v := zI 1) d_Mo_isHeld_53 (by decide) ?_
            refine x_goto (tgt := 58) d_Mo_isHeld_54 (by decide) ?_
            exact j58 _ (by omega) _ hR hX
  refine x_sipush (v := zI 128) d_Mo_isHeld_0 (by decide) ?_
  refine x_iload_n d_Mo_isHeld_3 rfl ?_
  refine z_imul d_Mo_isHeld_4 ?_
  refine x_istore_n (L' := [_, _, _, _, _, _, _, _]) d_Mo_isHeld_5 rfl rfl ?_
  refine x_iconst (v := zI 0) d_Mo_isHeld_6 (by decide) ?_
  refine x_istore (L' := [_, _, _, _, _, _, _, _]) d_Mo_isHeld_7 rfl rfl ?_
  exact lp 128 _ 0 _ _ _ (by omega) (by omega) (by omega) _ (by rw [sa_id (i := 41)]; exact hR) hX
end RF13
