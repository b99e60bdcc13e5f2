section
abbrev y_Mo_push : MethodName := ⟨"MarkerTextModel", "push", "(I)V"⟩
abbrev M_Mo_push : XMt := (y_Mo_push, prog_13_method_25_code, 2, none)
theorem d_Mo_push_0 : decode M_Mo_push.2.1 0 = .ok (.aload_n 0, 1) := by decide +kernel
theorem d_Mo_push_1 : decode M_Mo_push.2.1 1 = .ok (.getfield 85, 3) := by decide +kernel
theorem d_Mo_push_4 : decode M_Mo_push.2.1 4 = .ok (.aload_n 0, 1) := by decide +kernel
theorem d_Mo_push_5 : decode M_Mo_push.2.1 5 = .ok (.getfield 199, 3) := by decide +kernel
theorem d_Mo_push_8 : decode M_Mo_push.2.1 8 = .ok (.iload_n 1, 1) := by decide +kernel
theorem d_Mo_push_9 : decode M_Mo_push.2.1 9 = .ok (.iastore, 1) := by decide +kernel
theorem d_Mo_push_10 : decode M_Mo_push.2.1 10 = .ok (.aload_n 0, 1) := by decide +kernel
theorem d_Mo_push_11 : decode M_Mo_push.2.1 11 = .ok (.dup, 1) := by decide +kernel
theorem d_Mo_push_12 : decode M_Mo_push.2.1 12 = .ok (.getfield 199, 3) := by decide +kernel
theorem d_Mo_push_15 : decode M_Mo_push.2.1 15 = .ok (.iconst 1, 1) := by decide +kernel
theorem d_Mo_push_16 : decode M_Mo_push.2.1 16 = .ok (.iadd, 1) := by decide +kernel
theorem d_Mo_push_17 : decode M_Mo_push.2.1 17 = .ok (.putfield 199, 3) := by decide +kernel
theorem d_Mo_push_20 : decode M_Mo_push.2.1 20 = .ok (.return_, 1) := by decide +kernel
abbrev y_Mo_open : MethodName := ⟨"MarkerTextModel", "open", "(II)V"⟩
abbrev M_Mo_open : XMt := (y_Mo_open, prog_13_method_26_code, 3, none)
theorem d_Mo_open_0 : decode M_Mo_open.2.1 0 = .ok (.aload_n 0, 1) := by decide +kernel
theorem d_Mo_open_1 : decode M_Mo_open.2.1 1 = .ok (.getfield 202, 3) := by decide +kernel
theorem d_Mo_open_4 : decode M_Mo_open.2.1 4 = .ok (.bipush 12, 2) := by decide +kernel
theorem d_Mo_open_6 : decode M_Mo_open.2.1 6 = .ok (.if_icmp .ne 11, 3) := by decide +kernel
theorem d_Mo_open_17 : decode M_Mo_open.2.1 17 = .ok (.aload_n 0, 1) := by decide +kernel
theorem d_Mo_open_18 : decode M_Mo_open.2.1 18 = .ok (.dup, 1) := by decide +kernel
theorem d_Mo_open_19 : decode M_Mo_open.2.1 19 = .ok (.getfield 202, 3) := by decide +kernel
theorem d_Mo_open_22 : decode M_Mo_open.2.1 22 = .ok (.iconst 1, 1) := by decide +kernel
theorem d_Mo_open_23 : decode M_Mo_open.2.1 23 = .ok (.iadd, 1) := by decide +kernel
theorem d_Mo_open_24 : decode M_Mo_open.2.1 24 = .ok (.putfield 202, 3) := by decide +kernel
theorem d_Mo_open_27 : decode M_Mo_open.2.1 27 = .ok (.aload_n 0, 1) := by decide +kernel
theorem d_Mo_open_28 : decode M_Mo_open.2.1 28 = .ok (.iload_n 1, 1) := by decide +kernel
theorem d_Mo_open_29 : decode M_Mo_open.2.1 29 = .ok (.invokevirtual 222, 3) := by decide +kernel
theorem xw_1422 : (Jvm.Cond.code ({ cls := "MarkerTextModel", name := "push", desc := "(I)V" } : Jvm.MethodName) prog_13_method_25_code (2 : Nat) (Option.none : Option Jvm.ClassFile.FieldType)) ∈ xT := xT_at 1422 (by decide +kernel) (by decide +kernel)
theorem xcb_Mo_push : xcb M_Mo_push 1 := ⟨xw_1422, xw_8, by decide, by decide, by decide, by decide +kernel⟩
theorem xw_1421 : (Jvm.Cond.instanceMethod ({ cls := "MarkerTextModel", name := "push", desc := "(I)V" } : Jvm.MethodName)) ∈ xT := xT_at 1421 (by decide +kernel) (by decide +kernel)
theorem xw_1419 : (Jvm.Cond.methodLink "MarkerTextModel" (222 : Nat) ({ cls := "MarkerTextModel", name := "push", desc := "(I)V" } : Jvm.MethodName)) ∈ xT := xT_at 1419 (by decide +kernel) (by decide +kernel)
theorem xsel_Mo_push : Cond.selects "MarkerTextModel" y_Mo_push y_Mo_push ∈ xT := xT_sel (q := (y_Mo_push, 52)) (by decide +kernel) (by decide +kernel)
theorem xcv_Mo_222_Mo : xCV "MarkerTextModel" 222 "MarkerTextModel" M_Mo_push 1 := ⟨xcb_Mo_push, xw_1421, Or.inl ⟨xw_1419, Or.inl xsel_Mo_push⟩⟩
theorem d_Mo_open_32 : decode M_Mo_open.2.1 32 = .ok (.aload_n 0, 1) := by decide +kernel
theorem d_Mo_open_33 : decode M_Mo_open.2.1 33 = .ok (.dup, 1) := by decide +kernel
theorem d_Mo_open_34 : decode M_Mo_open.2.1 34 = .ok (.getfield 193, 3) := by decide +kernel
theorem d_Mo_open_37 : decode M_Mo_open.2.1 37 = .ok (.iload_n 2, 1) := by decide +kernel
theorem d_Mo_open_38 : decode M_Mo_open.2.1 38 = .ok (.iadd, 1) := by decide +kernel
theorem d_Mo_open_39 : decode M_Mo_open.2.1 39 = .ok (.putfield 193, 3) := by decide +kernel
theorem d_Mo_open_42 : decode M_Mo_open.2.1 42 = .ok (.return_, 1) := by decide +kernel
theorem d_Mo_open_9 : decode M_Mo_open.2.1 9 = .ok (.aload_n 0, 1) := by decide +kernel
theorem d_Mo_open_10 : decode M_Mo_open.2.1 10 = .ok (.aload_n 0, 1) := by decide +kernel
theorem d_Mo_open_11 : decode M_Mo_open.2.1 11 = .ok (.getfield 193, 3) := by decide +kernel
theorem d_Mo_open_14 : decode M_Mo_open.2.1 14 = .ok (.invokevirtual 218, 3) := by decide +kernel
theorem xw_1418 : (Jvm.Cond.code ({ cls := "MarkerTextModel", name := "fault", desc := "(I)V" } : Jvm.MethodName) prog_13_method_18_code (2 : Nat) (Option.none : Option Jvm.ClassFile.FieldType)) ∈ xT := xT_at 1418 (by decide +kernel) (by decide +kernel)
theorem xcb_Mo_fault : xcb M_Mo_fault 1 := ⟨xw_1418, xw_8, by decide, by decide, by decide, by decide +kernel⟩
theorem xw_1417 : (Jvm.Cond.instanceMethod ({ cls := "MarkerTextModel", name := "fault", desc := "(I)V" } : Jvm.MethodName)) ∈ xT := xT_at 1417 (by decide +kernel) (by decide +kernel)
theorem xw_1415 : (Jvm.Cond.methodLink "MarkerTextModel" (218 : Nat) ({ cls := "MarkerTextModel", name := "fault", desc := "(I)V" } : Jvm.MethodName)) ∈ xT := xT_at 1415 (by decide +kernel) (by decide +kernel)
theorem xsel_Mo_fault : Cond.selects "MarkerTextModel" y_Mo_fault y_Mo_fault ∈ xT := xT_sel (q := (y_Mo_fault, 52)) (by decide +kernel) (by decide +kernel)
theorem xcv_Mo_218_Mo : xCV "MarkerTextModel" 218 "MarkerTextModel" M_Mo_fault 1 := ⟨xcb_Mo_fault, xw_1417, Or.inl ⟨xw_1415, Or.inl xsel_Mo_fault⟩⟩
abbrev y_Mo_complete : MethodName := ⟨"MarkerTextModel", "complete", "()V"⟩
abbrev M_Mo_complete : XMt := (y_Mo_complete, prog_13_method_24_code, 1, none)
theorem d_Mo_complete_0 : decode M_Mo_complete.2.1 0 = .ok (.aload_n 0, 1) := by decide +kernel
theorem d_Mo_complete_1 : decode M_Mo_complete.2.1 1 = .ok (.iconst 1, 1) := by decide +kernel
theorem d_Mo_complete_2 : decode M_Mo_complete.2.1 2 = .ok (.invokevirtual 212, 3) := by decide +kernel
theorem xw_1462 : (Jvm.Cond.code ({ cls := "MarkerTextModel", name := "isOnTop", desc := "(I)Z" } : Jvm.MethodName) prog_13_method_23_code (2 : Nat) (Option.some Jvm.ClassFile.FieldType.boolean)) ∈ xT := xT_at 1462 (by decide +kernel) (by decide +kernel)
theorem xcb_Mo_isOnTop : xcb M_Mo_isOnTop 1 := ⟨xw_1462, xw_8, by decide, by decide, by decide, by decide +kernel⟩
theorem xw_1461 : (Jvm.Cond.instanceMethod ({ cls := "MarkerTextModel", name := "isOnTop", desc := "(I)Z" } : Jvm.MethodName)) ∈ xT := xT_at 1461 (by decide +kernel) (by decide +kernel)
theorem xw_1459 : (Jvm.Cond.methodLink "MarkerTextModel" (212 : Nat) ({ cls := "MarkerTextModel", name := "isOnTop", desc := "(I)Z" } : Jvm.MethodName)) ∈ xT := xT_at 1459 (by decide +kernel) (by decide +kernel)
theorem xsel_Mo_isOnTop : Cond.selects "MarkerTextModel" y_Mo_isOnTop y_Mo_isOnTop ∈ xT := xT_sel (q := (y_Mo_isOnTop, 52)) (by decide +kernel) (by decide +kernel)
theorem xcv_Mo_212_Mo : xCV "MarkerTextModel" 212 "MarkerTextModel" M_Mo_isOnTop 1 := ⟨xcb_Mo_isOnTop, xw_1461, Or.inl ⟨xw_1459, Or.inl xsel_Mo_isOnTop⟩⟩
theorem d_Mo_complete_5 : decode M_Mo_complete.2.1 5 = .ok (.ifCond .eq 10, 3) := by decide +kernel
theorem d_Mo_complete_15 : decode M_Mo_complete.2.1 15 = .ok (.return_, 1) := by decide +kernel
theorem d_Mo_complete_8 : decode M_Mo_complete.2.1 8 = .ok (.aload_n 0, 1) := by decide +kernel
theorem d_Mo_complete_9 : decode M_Mo_complete.2.1 9 = .ok (.invokevirtual 215, 3) := by decide +kernel
theorem xw_1466 : (Jvm.Cond.code ({ cls := "MarkerTextModel", name := "apply", desc := "()V" } : Jvm.MethodName) prog_13_method_22_code (4 : Nat) (Option.none : Option Jvm.ClassFile.FieldType)) ∈ xT := xT_at 1466 (by decide +kernel) (by decide +kernel)
theorem xcb_Mo_apply : xcb M_Mo_apply 0 := ⟨xw_1466, xw_8, by decide, by decide, by decide, by decide +kernel⟩
theorem xw_1465 : (Jvm.Cond.instanceMethod ({ cls := "MarkerTextModel", name := "apply", desc := "()V" } : Jvm.MethodName)) ∈ xT := xT_at 1465 (by decide +kernel) (by decide +kernel)
theorem xw_1463 : (Jvm.Cond.methodLink "MarkerTextModel" (215 : Nat) ({ cls := "MarkerTextModel", name := "apply", desc := "()V" } : Jvm.MethodName)) ∈ xT := xT_at 1463 (by decide +kernel) (by decide +kernel)
theorem xsel_Mo_apply : Cond.selects "MarkerTextModel" y_Mo_apply y_Mo_apply ∈ xT := xT_sel (q := (y_Mo_apply, 52)) (by decide +kernel) (by decide +kernel)
theorem xcv_Mo_215_Mo : xCV "MarkerTextModel" 215 "MarkerTextModel" M_Mo_apply 0 := ⟨xcb_Mo_apply, xw_1465, Or.inl ⟨xw_1463, Or.inl xsel_Mo_apply⟩⟩
theorem d_Mo_complete_12 : decode M_Mo_complete.2.1 12 = .ok (.goto (-12), 3) := by decide +kernel
abbrev y_Mo_readValue : MethodName := ⟨"MarkerTextModel", "readValue", "(I)V"⟩
abbrev M_Mo_readValue : XMt := (y_Mo_readValue, prog_13_method_27_code, 6, none)
theorem d_Mo_readValue_140 : decode M_Mo_readValue.2.1 140 = .ok (.iload 5, 2) := by decide +kernel
theorem d_Mo_readValue_142 : decode M_Mo_readValue.2.1 142 = .ok (.iload_n 3, 1) := by decide +kernel
theorem d_Mo_readValue_143 : decode M_Mo_readValue.2.1 143 = .ok (.iload_n 2, 1) := by decide +kernel
theorem d_Mo_readValue_144 : decode M_Mo_readValue.2.1 144 = .ok (.isub, 1) := by decide +kernel
theorem d_Mo_readValue_145 : decode M_Mo_readValue.2.1 145 = .ok (.if_icmp .ge 31, 3) := by decide +kernel
theorem d_Mo_readValue_176 : decode M_Mo_readValue.2.1 176 = .ok (.aload_n 0, 1) := by decide +kernel
theorem d_Mo_readValue_177 : decode M_Mo_readValue.2.1 177 = .ok (.getfield 78, 3) := by decide +kernel
theorem d_Mo_readValue_180 : decode M_Mo_readValue.2.1 180 = .ok (.aload_n 0, 1) := by decide +kernel
theorem d_Mo_readValue_181 : decode M_Mo_readValue.2.1 181 = .ok (.getfield 196, 3) := by decide +kernel
theorem d_Mo_readValue_184 : decode M_Mo_readValue.2.1 184 = .ok (.dup2, 1) := by decide +kernel
theorem d_Mo_readValue_185 : decode M_Mo_readValue.2.1 185 = .ok (.iaload, 1) := by decide +kernel
theorem d_Mo_readValue_186 : decode M_Mo_readValue.2.1 186 = .ok (.iconst 1, 1) := by decide +kernel
theorem d_Mo_readValue_187 : decode M_Mo_readValue.2.1 187 = .ok (.iadd, 1) := by decide +kernel
theorem d_Mo_readValue_188 : decode M_Mo_readValue.2.1 188 = .ok (.iastore, 1) := by decide +kernel
theorem d_Mo_readValue_189 : decode M_Mo_readValue.2.1 189 = .ok (.aload_n 0, 1) := by decide +kernel
theorem d_Mo_readValue_190 : decode M_Mo_readValue.2.1 190 = .ok (.iload_n 3, 1) := by decide +kernel
theorem d_Mo_readValue_191 : decode M_Mo_readValue.2.1 191 = .ok (.iconst 1, 1) := by decide +kernel
theorem d_Mo_readValue_192 : decode M_Mo_readValue.2.1 192 = .ok (.iadd, 1) := by decide +kernel
theorem d_Mo_readValue_193 : decode M_Mo_readValue.2.1 193 = .ok (.putfield 193, 3) := by decide +kernel
theorem d_Mo_readValue_196 : decode M_Mo_readValue.2.1 196 = .ok (.return_, 1) := by decide +kernel
theorem d_Mo_readValue_148 : decode M_Mo_readValue.2.1 148 = .ok (.aload_n 0, 1) := by decide +kernel
theorem d_Mo_readValue_149 : decode M_Mo_readValue.2.1 149 = .ok (.getfield 69, 3) := by decide +kernel
theorem d_Mo_readValue_152 : decode M_Mo_readValue.2.1 152 = .ok (.bipush 11, 2) := by decide +kernel
theorem d_Mo_readValue_154 : decode M_Mo_readValue.2.1 154 = .ok (.iload 4, 2) := by decide +kernel
theorem d_Mo_readValue_156 : decode M_Mo_readValue.2.1 156 = .ok (.imul, 1) := by decide +kernel
theorem d_Mo_readValue_157 : decode M_Mo_readValue.2.1 157 = .ok (.iload 5, 2) := by decide +kernel
theorem d_Mo_readValue_159 : decode M_Mo_readValue.2.1 159 = .ok (.iadd, 1) := by decide +kernel
theorem d_Mo_readValue_160 : decode M_Mo_readValue.2.1 160 = .ok (.aload_n 0, 1) := by decide +kernel
theorem d_Mo_readValue_161 : decode M_Mo_readValue.2.1 161 = .ok (.getfield 7, 3) := by decide +kernel
theorem d_Mo_readValue_164 : decode M_Mo_readValue.2.1 164 = .ok (.iload_n 2, 1) := by decide +kernel
theorem d_Mo_readValue_165 : decode M_Mo_readValue.2.1 165 = .ok (.iload 5, 2) := by decide +kernel
theorem d_Mo_readValue_167 : decode M_Mo_readValue.2.1 167 = .ok (.iadd, 1) := by decide +kernel
theorem d_Mo_readValue_168 : decode M_Mo_readValue.2.1 168 = .ok (.iaload, 1) := by decide +kernel
theorem d_Mo_readValue_169 : decode M_Mo_readValue.2.1 169 = .ok (.iastore, 1) := by decide +kernel
theorem d_Mo_readValue_170 : decode M_Mo_readValue.2.1 170 = .ok (.iinc 5 1, 3) := by decide +kernel
theorem d_Mo_readValue_173 : decode M_Mo_readValue.2.1 173 = .ok (.goto (-33), 3) := by decide +kernel
theorem d_Mo_readValue_56 : decode M_Mo_readValue.2.1 56 = .ok (.iload_n 3, 1) := by decide +kernel
theorem d_Mo_readValue_57 : decode M_Mo_readValue.2.1 57 = .ok (.aload_n 0, 1) := by decide +kernel
theorem d_Mo_readValue_58 : decode M_Mo_readValue.2.1 58 = .ok (.getfield 124, 3) := by decide +kernel
theorem d_Mo_readValue_61 : decode M_Mo_readValue.2.1 61 = .ok (.if_icmp .ne 12, 3) := by decide +kernel
theorem d_Mo_readValue_73 : decode M_Mo_readValue.2.1 73 = .ok (.aload_n 0, 1) := by decide +kernel
theorem d_Mo_readValue_74 : decode M_Mo_readValue.2.1 74 = .ok (.iload_n 2, 1) := by decide +kernel
theorem d_Mo_readValue_75 : decode M_Mo_readValue.2.1 75 = .ok (.iload_n 3, 1) := by decide +kernel
theorem d_Mo_readValue_76 : decode M_Mo_readValue.2.1 76 = .ok (.aload_n 0, 1) := by decide +kernel
theorem d_Mo_readValue_77 : decode M_Mo_readValue.2.1 77 = .ok (.getfield 19, 3) := by decide +kernel
theorem d_Mo_readValue_80 : decode M_Mo_readValue.2.1 80 = .ok (.iload_n 1, 1) := by decide +kernel
theorem d_Mo_readValue_81 : decode M_Mo_readValue.2.1 81 = .ok (.iaload, 1) := by decide +kernel
theorem d_Mo_readValue_82 : decode M_Mo_readValue.2.1 82 = .ok (.invokevirtual 187, 3) := by decide +kernel
theorem d_Mo_readValue_85 : decode M_Mo_readValue.2.1 85 = .ok (.ifCond .ne 12, 3) := by decide +kernel
theorem d_Mo_readValue_97 : decode M_Mo_readValue.2.1 97 = .ok (.bipush 64, 2) := by decide +kernel
theorem d_Mo_readValue_99 : decode M_Mo_readValue.2.1 99 = .ok (.aload_n 0, 1) := by decide +kernel
theorem d_Mo_readValue_100 : decode M_Mo_readValue.2.1 100 = .ok (.getfield 196, 3) := by decide +kernel
theorem d_Mo_readValue_103 : decode M_Mo_readValue.2.1 103 = .ok (.imul, 1) := by decide +kernel
theorem d_Mo_readValue_104 : decode M_Mo_readValue.2.1 104 = .ok (.aload_n 0, 1) := by decide +kernel
theorem d_Mo_readValue_105 : decode M_Mo_readValue.2.1 105 = .ok (.getfield 78, 3) := by decide +kernel
theorem d_Mo_readValue_108 : decode M_Mo_readValue.2.1 108 = .ok (.aload_n 0, 1) := by decide +kernel
theorem d_Mo_readValue_109 : decode M_Mo_readValue.2.1 109 = .ok (.getfield 196, 3) := by decide +kernel
theorem d_Mo_readValue_112 : decode M_Mo_readValue.2.1 112 = .ok (.iaload, 1) := by decide +kernel
theorem d_Mo_readValue_113 : decode M_Mo_readValue.2.1 113 = .ok (.iadd, 1) := by decide +kernel
theorem d_Mo_readValue_114 : decode M_Mo_readValue.2.1 114 = .ok (.istore 4, 2) := by decide +kernel
theorem d_Mo_readValue_116 : decode M_Mo_readValue.2.1 116 = .ok (.aload_n 0, 1) := by decide +kernel
theorem d_Mo_readValue_117 : decode M_Mo_readValue.2.1 117 = .ok (.getfield 66, 3) := by decide +kernel
theorem d_Mo_readValue_120 : decode M_Mo_readValue.2.1 120 = .ok (.iload 4, 2) := by decide +kernel
theorem d_Mo_readValue_122 : decode M_Mo_readValue.2.1 122 = .ok (.aload_n 0, 1) := by decide +kernel
theorem d_Mo_readValue_123 : decode M_Mo_readValue.2.1 123 = .ok (.getfield 173, 3) := by decide +kernel
theorem d_Mo_readValue_126 : decode M_Mo_readValue.2.1 126 = .ok (.lastore, 1) := by decide +kernel
theorem d_Mo_readValue_127 : decode M_Mo_readValue.2.1 127 = .ok (.aload_n 0, 1) := by decide +kernel
theorem d_Mo_readValue_128 : decode M_Mo_readValue.2.1 128 = .ok (.getfield 72, 3) := by decide +kernel
theorem d_Mo_readValue_131 : decode M_Mo_readValue.2.1 131 = .ok (.iload 4, 2) := by decide +kernel
theorem d_Mo_readValue_133 : decode M_Mo_readValue.2.1 133 = .ok (.iload_n 3, 1) := by decide +kernel
theorem d_Mo_readValue_134 : decode M_Mo_readValue.2.1 134 = .ok (.iload_n 2, 1) := by decide +kernel
theorem d_Mo_readValue_135 : decode M_Mo_readValue.2.1 135 = .ok (.isub, 1) := by decide +kernel
theorem d_Mo_readValue_136 : decode M_Mo_readValue.2.1 136 = .ok (.iastore, 1) := by decide +kernel
theorem d_Mo_readValue_137 : decode M_Mo_readValue.2.1 137 = .ok (.iconst 0, 1) := by decide +kernel
theorem d_Mo_readValue_138 : decode M_Mo_readValue.2.1 138 = .ok (.istore 5, 2) := by decide +kernel
theorem d_Mo_readValue_88 : decode M_Mo_readValue.2.1 88 = .ok (.aload_n 0, 1) := by decide +kernel
theorem d_Mo_readValue_89 : decode M_Mo_readValue.2.1 89 = .ok (.aload_n 0, 1) := by decide +kernel
theorem d_Mo_readValue_90 : decode M_Mo_readValue.2.1 90 = .ok (.getfield 193, 3) := by decide +kernel
theorem d_Mo_readValue_93 : decode M_Mo_readValue.2.1 93 = .ok (.invokevirtual 218, 3) := by decide +kernel
theorem d_Mo_readValue_96 : decode M_Mo_readValue.2.1 96 = .ok (.return_, 1) := by decide +kernel
theorem d_Mo_readValue_64 : decode M_Mo_readValue.2.1 64 = .ok (.aload_n 0, 1) := by decide +kernel
theorem d_Mo_readValue_65 : decode M_Mo_readValue.2.1 65 = .ok (.aload_n 0, 1) := by decide +kernel
theorem d_Mo_readValue_66 : decode M_Mo_readValue.2.1 66 = .ok (.getfield 124, 3) := by decide +kernel
theorem d_Mo_readValue_69 : decode M_Mo_readValue.2.1 69 = .ok (.invokevirtual 218, 3) := by decide +kernel
theorem d_Mo_readValue_72 : decode M_Mo_readValue.2.1 72 = .ok (.return_, 1) := by decide +kernel
theorem d_Mo_readValue_31 : decode M_Mo_readValue.2.1 31 = .ok (.iload_n 3, 1) := by decide +kernel
theorem d_Mo_readValue_32 : decode M_Mo_readValue.2.1 32 = .ok (.aload_n 0, 1) := by decide +kernel
theorem d_Mo_readValue_33 : decode M_Mo_readValue.2.1 33 = .ok (.getfield 124, 3) := by decide +kernel
theorem d_Mo_readValue_36 : decode M_Mo_readValue.2.1 36 = .ok (.if_icmp .ge 20, 3) := by decide +kernel
theorem d_Mo_readValue_39 : decode M_Mo_readValue.2.1 39 = .ok (.aload_n 0, 1) := by decide +kernel
theorem d_Mo_readValue_40 : decode M_Mo_readValue.2.1 40 = .ok (.getfield 7, 3) := by decide +kernel
theorem d_Mo_readValue_43 : decode M_Mo_readValue.2.1 43 = .ok (.iload_n 3, 1) := by decide +kernel
theorem d_Mo_readValue_44 : decode M_Mo_readValue.2.1 44 = .ok (.iaload, 1) := by decide +kernel
theorem d_Mo_readValue_45 : decode M_Mo_readValue.2.1 45 = .ok (.bipush 39, 2) := by decide +kernel
theorem d_Mo_readValue_47 : decode M_Mo_readValue.2.1 47 = .ok (.if_icmp .eq 9, 3) := by decide +kernel
theorem d_Mo_readValue_50 : decode M_Mo_readValue.2.1 50 = .ok (.iinc 3 1, 3) := by decide +kernel
theorem d_Mo_readValue_53 : decode M_Mo_readValue.2.1 53 = .ok (.goto (-22), 3) := by decide +kernel
theorem d_Mo_readValue_0 : decode M_Mo_readValue.2.1 0 = .ok (.aload_n 0, 1) := by decide +kernel
theorem d_Mo_readValue_1 : decode M_Mo_readValue.2.1 1 = .ok (.invokevirtual 225, 3) := by decide +kernel
theorem xw_1402 : (Jvm.Cond.code ({ cls := "MarkerTextModel", name := "skip", desc := "()V" } : Jvm.MethodName) prog_13_method_19_code (1 : Nat) (Option.none : Option Jvm.ClassFile.FieldType)) ∈ xT := xT_at 1402 (by decide +kernel) (by decide +kernel)
theorem xcb_Mo_skip : xcb M_Mo_skip 0 := ⟨xw_1402, xw_8, by decide, by decide, by decide, by decide +kernel⟩
theorem xw_1401 : (Jvm.Cond.instanceMethod ({ cls := "MarkerTextModel", name := "skip", desc := "()V" } : Jvm.MethodName)) ∈ xT := xT_at 1401 (by decide +kernel) (by decide +kernel)
theorem xw_1399 : (Jvm.Cond.methodLink "MarkerTextModel" (225 : Nat) ({ cls := "MarkerTextModel", name := "skip", desc := "()V" } : Jvm.MethodName)) ∈ xT := xT_at 1399 (by decide +kernel) (by decide +kernel)
theorem xsel_Mo_skip : Cond.selects "MarkerTextModel" y_Mo_skip y_Mo_skip ∈ xT := xT_sel (q := (y_Mo_skip, 52)) (by decide +kernel) (by decide +kernel)
theorem xcv_Mo_225_Mo : xCV "MarkerTextModel" 225 "MarkerTextModel" M_Mo_skip 0 := ⟨xcb_Mo_skip, xw_1401, Or.inl ⟨xw_1399, Or.inl xsel_Mo_skip⟩⟩
theorem d_Mo_readValue_4 : decode M_Mo_readValue.2.1 4 = .ok (.aload_n 0, 1) := by decide +kernel
theorem d_Mo_readValue_5 : decode M_Mo_readValue.2.1 5 = .ok (.invokevirtual 228, 3) := by decide +kernel
theorem xw_1410 : (Jvm.Cond.code ({ cls := "MarkerTextModel", name := "now", desc := "()I" } : Jvm.MethodName) prog_13_method_20_code (1 : Nat) (Option.some Jvm.ClassFile.FieldType.int)) ∈ xT := xT_at 1410 (by decide +kernel) (by decide +kernel)
theorem xcb_Mo_now : xcb M_Mo_now 0 := ⟨xw_1410, xw_8, by decide, by decide, by decide, by decide +kernel⟩
theorem xw_1409 : (Jvm.Cond.instanceMethod ({ cls := "MarkerTextModel", name := "now", desc := "()I" } : Jvm.MethodName)) ∈ xT := xT_at 1409 (by decide +kernel) (by decide +kernel)
theorem xw_1407 : (Jvm.Cond.methodLink "MarkerTextModel" (228 : Nat) ({ cls := "MarkerTextModel", name := "now", desc := "()I" } : Jvm.MethodName)) ∈ xT := xT_at 1407 (by decide +kernel) (by decide +kernel)
theorem xsel_Mo_now : Cond.selects "MarkerTextModel" y_Mo_now y_Mo_now ∈ xT := xT_sel (q := (y_Mo_now, 52)) (by decide +kernel) (by decide +kernel)
theorem xcv_Mo_228_Mo : xCV "MarkerTextModel" 228 "MarkerTextModel" M_Mo_now 0 := ⟨xcb_Mo_now, xw_1409, Or.inl ⟨xw_1407, Or.inl xsel_Mo_now⟩⟩
theorem d_Mo_readValue_8 : decode M_Mo_readValue.2.1 8 = .ok (.bipush 39, 2) := by decide +kernel
theorem d_Mo_readValue_10 : decode M_Mo_readValue.2.1 10 = .ok (.if_icmp .eq 12, 3) := by decide +kernel
theorem d_Mo_readValue_22 : decode M_Mo_readValue.2.1 22 = .ok (.aload_n 0, 1) := by decide +kernel
theorem d_Mo_readValue_23 : decode M_Mo_readValue.2.1 23 = .ok (.getfield 193, 3) := by decide +kernel
theorem d_Mo_readValue_26 : decode M_Mo_readValue.2.1 26 = .ok (.iconst 1, 1) := by decide +kernel
theorem d_Mo_readValue_27 : decode M_Mo_readValue.2.1 27 = .ok (.iadd, 1) := by decide +kernel
theorem d_Mo_readValue_28 : decode M_Mo_readValue.2.1 28 = .ok (.istore_n 2, 1) := by decide +kernel
theorem d_Mo_readValue_29 : decode M_Mo_readValue.2.1 29 = .ok (.iload_n 2, 1) := by decide +kernel
theorem d_Mo_readValue_30 : decode M_Mo_readValue.2.1 30 = .ok (.istore_n 3, 1) := by decide +kernel
theorem d_Mo_readValue_13 : decode M_Mo_readValue.2.1 13 = .ok (.aload_n 0, 1) := by decide +kernel
theorem d_Mo_readValue_14 : decode M_Mo_readValue.2.1 14 = .ok (.aload_n 0, 1) := by decide +kernel
theorem d_Mo_readValue_15 : decode M_Mo_readValue.2.1 15 = .ok (.getfield 193, 3) := by decide +kernel
theorem d_Mo_readValue_18 : decode M_Mo_readValue.2.1 18 = .ok (.invokevirtual 218, 3) := by decide +kernel
theorem d_Mo_readValue_21 : decode M_Mo_readValue.2.1 21 = .ok (.return_, 1) := by decide +kernel
abbrev y_Mo_expect : MethodName := ⟨"MarkerTextModel", "expect", "(I)V"⟩
abbrev M_Mo_expect : XMt := (y_Mo_expect, prog_13_method_28_code, 2, none)
theorem d_Mo_expect_0 : decode M_Mo_expect.2.1 0 = .ok (.aload_n 0, 1) := by decide +kernel
theorem d_Mo_expect_1 : decode M_Mo_expect.2.1 1 = .ok (.invokevirtual 225, 3) := by decide +kernel
theorem d_Mo_expect_4 : decode M_Mo_expect.2.1 4 = .ok (.aload_n 0, 1) := by decide +kernel
theorem d_Mo_expect_5 : decode M_Mo_expect.2.1 5 = .ok (.invokevirtual 228, 3) := by decide +kernel
theorem d_Mo_expect_8 : decode M_Mo_expect.2.1 8 = .ok (.iload_n 1, 1) := by decide +kernel
theorem d_Mo_expect_9 : decode M_Mo_expect.2.1 9 = .ok (.if_icmp .ne 16, 3) := by decide +kernel
theorem d_Mo_expect_25 : decode M_Mo_expect.2.1 25 = .ok (.aload_n 0, 1) := by decide +kernel
theorem d_Mo_expect_26 : decode M_Mo_expect.2.1 26 = .ok (.aload_n 0, 1) := by decide +kernel
theorem d_Mo_expect_27 : decode M_Mo_expect.2.1 27 = .ok (.getfield 193, 3) := by decide +kernel
theorem d_Mo_expect_30 : decode M_Mo_expect.2.1 30 = .ok (.invokevirtual 218, 3) := by decide +kernel
theorem d_Mo_expect_33 : decode M_Mo_expect.2.1 33 = .ok (.return_, 1) := by decide +kernel
theorem d_Mo_expect_12 : decode M_Mo_expect.2.1 12 = .ok (.aload_n 0, 1) := by decide +kernel
theorem d_Mo_expect_13 : decode M_Mo_expect.2.1 13 = .ok (.dup, 1) := by decide +kernel
theorem d_Mo_expect_14 : decode M_Mo_expect.2.1 14 = .ok (.getfield 193, 3) := by decide +kernel
theorem d_Mo_expect_17 : decode M_Mo_expect.2.1 17 = .ok (.iconst 1, 1) := by decide +kernel
theorem d_Mo_expect_18 : decode M_Mo_expect.2.1 18 = .ok (.iadd, 1) := by decide +kernel
theorem d_Mo_expect_19 : decode M_Mo_expect.2.1 19 = .ok (.putfield 193, 3) := by decide +kernel
theorem d_Mo_expect_22 : decode M_Mo_expect.2.1 22 = .ok (.goto 11, 3) := by decide +kernel
abbrev y_Mo_operator : MethodName := ⟨"MarkerTextModel", "operator", "()I"⟩
abbrev M_Mo_operator : XMt := (y_Mo_operator, prog_13_method_29_code, 3, (some .int))
theorem d_Mo_operator_30 : decode M_Mo_operator.2.1 30 = .ok (.iload_n 1, 1) := by decide +kernel
theorem d_Mo_operator_31 : decode M_Mo_operator.2.1 31 = .ok (.bipush 60, 2) := by decide +kernel
theorem d_Mo_operator_33 : decode M_Mo_operator.2.1 33 = .ok (.if_icmp .eq 9, 3) := by decide +kernel
theorem d_Mo_operator_42 : decode M_Mo_operator.2.1 42 = .ok (.aload_n 0, 1) := by decide +kernel
theorem d_Mo_operator_43 : decode M_Mo_operator.2.1 43 = .ok (.dup, 1) := by decide +kernel
theorem d_Mo_operator_44 : decode M_Mo_operator.2.1 44 = .ok (.getfield 193, 3) := by decide +kernel
theorem d_Mo_operator_47 : decode M_Mo_operator.2.1 47 = .ok (.iload_n 2, 1) := by decide +kernel
theorem d_Mo_operator_48 : decode M_Mo_operator.2.1 48 = .ok (.ifCond .eq 7, 3) := by decide +kernel
theorem d_Mo_operator_55 : decode M_Mo_operator.2.1 55 = .ok (.iconst 0, 1) := by decide +kernel
theorem d_Mo_operator_56 : decode M_Mo_operator.2.1 56 = .ok (.iadd, 1) := by decide +kernel
theorem d_Mo_operator_57 : decode M_Mo_operator.2.1 57 = .ok (.putfield 193, 3) := by decide +kernel
theorem d_Mo_operator_60 : decode M_Mo_operator.2.1 60 = .ok (.iload_n 1, 1) := by decide +kernel
theorem d_Mo_operator_61 : decode M_Mo_operator.2.1 61 = .ok (.bipush 60, 2) := by decide +kernel
theorem d_Mo_operator_63 : decode M_Mo_operator.2.1 63 = .ok (.if_icmp .ne 7, 3) := by decide +kernel
theorem d_Mo_operator_70 : decode M_Mo_operator.2.1 70 = .ok (.iconst 4, 1) := by decide +kernel
theorem d_Mo_operator_71 : decode M_Mo_operator.2.1 71 = .ok (.iload_n 2, 1) := by decide +kernel
theorem d_Mo_operator_72 : decode M_Mo_operator.2.1 72 = .ok (.ifCond .eq 7, 3) := by decide +kernel
theorem d_Mo_operator_79 : decode M_Mo_operator.2.1 79 = .ok (.iconst 0, 1) := by decide +kernel
theorem d_Mo_operator_80 : decode M_Mo_operator.2.1 80 = .ok (.iadd, 1) := by decide +kernel
theorem d_Mo_operator_81 : decode M_Mo_operator.2.1 81 = .ok (.ireturn, 1) := by decide +kernel
theorem d_Mo_operator_75 : decode M_Mo_operator.2.1 75 = .ok (.iconst 1, 1) := by decide +kernel
theorem d_Mo_operator_76 : decode M_Mo_operator.2.1 76 = .ok (.goto 4, 3) := by decide +kernel
theorem d_Mo_operator_66 : decode M_Mo_operator.2.1 66 = .ok (.iconst 2, 1) := by decide +kernel
theorem d_Mo_operator_67 : decode M_Mo_operator.2.1 67 = .ok (.goto 4, 3) := by decide +kernel
theorem d_Mo_operator_51 : decode M_Mo_operator.2.1 51 = .ok (.iconst 1, 1) := by decide +kernel
theorem d_Mo_operator_52 : decode M_Mo_operator.2.1 52 = .ok (.goto 4, 3) := by decide +kernel
theorem d_Mo_operator_36 : decode M_Mo_operator.2.1 36 = .ok (.iload_n 1, 1) := by decide +kernel
theorem d_Mo_operator_37 : decode M_Mo_operator.2.1 37 = .ok (.bipush 62, 2) := by decide +kernel
theorem d_Mo_operator_39 : decode M_Mo_operator.2.1 39 = .ok (.if_icmp .ne 43, 3) := by decide +kernel
theorem d_Mo_operator_82 : decode M_Mo_operator.2.1 82 = .ok (.iload_n 1, 1) := by decide +kernel
theorem d_Mo_operator_83 : decode M_Mo_operator.2.1 83 = .ok (.bipush 61, 2) := by decide +kernel
theorem d_Mo_operator_85 : decode M_Mo_operator.2.1 85 = .ok (.if_icmp .eq 21, 3) := by decide +kernel
theorem d_Mo_operator_106 : decode M_Mo_operator.2.1 106 = .ok (.iload_n 2, 1) := by decide +kernel
theorem d_Mo_operator_107 : decode M_Mo_operator.2.1 107 = .ok (.ifCond .ne 31, 3) := by decide +kernel
theorem d_Mo_operator_138 : decode M_Mo_operator.2.1 138 = .ok (.aload_n 0, 1) := by decide +kernel
theorem d_Mo_operator_139 : decode M_Mo_operator.2.1 139 = .ok (.dup, 1) := by decide +kernel
theorem d_Mo_operator_140 : decode M_Mo_operator.2.1 140 = .ok (.getfield 193, 3) := by decide +kernel
theorem d_Mo_operator_143 : decode M_Mo_operator.2.1 143 = .ok (.iconst 1, 1) := by decide +kernel
theorem d_Mo_operator_144 : decode M_Mo_operator.2.1 144 = .ok (.iadd, 1) := by decide +kernel
theorem d_Mo_operator_145 : decode M_Mo_operator.2.1 145 = .ok (.putfield 193, 3) := by decide +kernel
theorem d_Mo_operator_148 : decode M_Mo_operator.2.1 148 = .ok (.iload_n 1, 1) := by decide +kernel
theorem d_Mo_operator_149 : decode M_Mo_operator.2.1 149 = .ok (.bipush 61, 2) := by decide +kernel
theorem d_Mo_operator_151 : decode M_Mo_operator.2.1 151 = .ok (.if_icmp .ne 7, 3) := by decide +kernel
theorem d_Mo_operator_158 : decode M_Mo_operator.2.1 158 = .ok (.iconst 1, 1) := by decide +kernel
theorem d_Mo_operator_159 : decode M_Mo_operator.2.1 159 = .ok (.ireturn, 1) := by decide +kernel
theorem d_Mo_operator_154 : decode M_Mo_operator.2.1 154 = .ok (.iconst 0, 1) := by decide +kernel
theorem d_Mo_operator_155 : decode M_Mo_operator.2.1 155 = .ok (.goto 4, 3) := by decide +kernel
theorem d_Mo_operator_110 : decode M_Mo_operator.2.1 110 = .ok (.aload_n 0, 1) := by decide +kernel
theorem d_Mo_operator_111 : decode M_Mo_operator.2.1 111 = .ok (.aload_n 0, 1) := by decide +kernel
theorem d_Mo_operator_112 : decode M_Mo_operator.2.1 112 = .ok (.getfield 193, 3) := by decide +kernel
theorem d_Mo_operator_115 : decode M_Mo_operator.2.1 115 = .ok (.aload_n 0, 1) := by decide +kernel
theorem d_Mo_operator_116 : decode M_Mo_operator.2.1 116 = .ok (.getfield 124, 3) := by decide +kernel
theorem d_Mo_operator_119 : decode M_Mo_operator.2.1 119 = .ok (.if_icmp .ge 10, 3) := by decide +kernel
theorem d_Mo_operator_129 : decode M_Mo_operator.2.1 129 = .ok (.aload_n 0, 1) := by decide +kernel
theorem d_Mo_operator_130 : decode M_Mo_operator.2.1 130 = .ok (.getfield 124, 3) := by decide +kernel
theorem d_Mo_operator_133 : decode M_Mo_operator.2.1 133 = .ok (.invokevirtual 218, 3) := by decide +kernel
theorem d_Mo_operator_136 : decode M_Mo_operator.2.1 136 = .ok (.iconst 0, 1) := by decide +kernel
theorem d_Mo_operator_137 : decode M_Mo_operator.2.1 137 = .ok (.ireturn, 1) := by decide +kernel
theorem d_Mo_operator_122 : decode M_Mo_operator.2.1 122 = .ok (.aload_n 0, 1) := by decide +kernel
theorem d_Mo_operator_123 : decode M_Mo_operator.2.1 123 = .ok (.getfield 193, 3) := by decide +kernel
theorem d_Mo_operator_126 : decode M_Mo_operator.2.1 126 = .ok (.goto 7, 3) := by decide +kernel
theorem d_Mo_operator_88 : decode M_Mo_operator.2.1 88 = .ok (.iload_n 1, 1) := by decide +kernel
theorem d_Mo_operator_89 : decode M_Mo_operator.2.1 89 = .ok (.bipush 33, 2) := by decide +kernel
theorem d_Mo_operator_91 : decode M_Mo_operator.2.1 91 = .ok (.if_icmp .eq 15, 3) := by decide +kernel
theorem d_Mo_operator_94 : decode M_Mo_operator.2.1 94 = .ok (.aload_n 0, 1) := by decide +kernel
theorem d_Mo_operator_95 : decode M_Mo_operator.2.1 95 = .ok (.aload_n 0, 1) := by decide +kernel
theorem d_Mo_operator_96 : decode M_Mo_operator.2.1 96 = .ok (.getfield 193, 3) := by decide +kernel
theorem d_Mo_operator_99 : decode M_Mo_operator.2.1 99 = .ok (.iconst 1, 1) := by decide +kernel
theorem d_Mo_operator_100 : decode M_Mo_operator.2.1 100 = .ok (.isub, 1) := by decide +kernel
theorem d_Mo_operator_101 : decode M_Mo_operator.2.1 101 = .ok (.invokevirtual 218, 3) := by decide +kernel
theorem d_Mo_operator_104 : decode M_Mo_operator.2.1 104 = .ok (.iconst 0, 1) := by decide +kernel
theorem d_Mo_operator_105 : decode M_Mo_operator.2.1 105 = .ok (.ireturn, 1) := by decide +kernel
theorem d_Mo_operator_0 : decode M_Mo_operator.2.1 0 = .ok (.aload_n 0, 1) := by decide +kernel
theorem d_Mo_operator_1 : decode M_Mo_operator.2.1 1 = .ok (.invokevirtual 228, 3) := by decide +kernel
theorem d_Mo_operator_4 : decode M_Mo_operator.2.1 4 = .ok (.istore_n 1, 1) := by decide +kernel
theorem d_Mo_operator_5 : decode M_Mo_operator.2.1 5 = .ok (.aload_n 0, 1) := by decide +kernel
theorem d_Mo_operator_6 : decode M_Mo_operator.2.1 6 = .ok (.dup, 1) := by decide +kernel
theorem d_Mo_operator_7 : decode M_Mo_operator.2.1 7 = .ok (.getfield 193, 3) := by decide +kernel
theorem d_Mo_operator_10 : decode M_Mo_operator.2.1 10 = .ok (.iconst 1, 1) := by decide +kernel
theorem d_Mo_operator_11 : decode M_Mo_operator.2.1 11 = .ok (.iadd, 1) := by decide +kernel
theorem d_Mo_operator_12 : decode M_Mo_operator.2.1 12 = .ok (.putfield 193, 3) := by decide +kernel
theorem d_Mo_operator_15 : decode M_Mo_operator.2.1 15 = .ok (.aload_n 0, 1) := by decide +kernel
theorem d_Mo_operator_16 : decode M_Mo_operator.2.1 16 = .ok (.invokevirtual 228, 3) := by decide +kernel
theorem d_Mo_operator_19 : decode M_Mo_operator.2.1 19 = .ok (.bipush 61, 2) := by decide +kernel
theorem d_Mo_operator_21 : decode M_Mo_operator.2.1 21 = .ok (.if_icmp .ne 7, 3) := by decide +kernel
theorem d_Mo_operator_28 : decode M_Mo_operator.2.1 28 = .ok (.iconst 0, 1) := by decide +kernel
theorem d_Mo_operator_29 : decode M_Mo_operator.2.1 29 = .ok (.istore_n 2, 1) := by decide +kernel
theorem d_Mo_operator_24 : decode M_Mo_operator.2.1 24 = .ok (.iconst 1, 1) := by decide +kernel
theorem d_Mo_operator_25 : decode M_Mo_operator.2.1 25 = .ok (.goto 4, 3) := by decide +kernel
end
section RF7
variable {l : Launch} {G : XG} {h : XH} {c n d : Nat} {o : Nat} {rf : Nat → Nat} {S : MS}
theorem r_push {k : Int} (hk : inR k) (hp : 0 ≤ S.1 32 ∧ S.1 32 < 80) : RM l G d M_Mo_push [.ref o, .int (zI k)] o rf S (fun v S' => S' = sp (sa S 31 (se (S.2.1 31) (S.1 32) k)) 32 (S.1 32 + 1) ∧ v = none) := by
  intro H0 c n hR
  refine XM.of (by decide +kernel) (Nat.le_of_ble_eq_true rfl) ?_
  have hX : xonly H0 H0 RKs := xonly.rf
  refine x_aload_n d_Mo_push_0 rfl rfl ?_
  refine x_get xf_Mo_85_Mo (Or.inl hR.1) (v := .ref (rf 31)) rfl d_Mo_push_1 ?_
  refine x_aload_n d_Mo_push_4 rfl rfl ?_
  refine x_get xf_Mo_199_Mo (Or.inl hR.1) (v := .int (zI (S.1 32))) rfl d_Mo_push_5 ?_
  have hb5 : inR (S.1 32) := hR.2.2.2 32
  refine x_iload_n d_Mo_push_8 rfl ?_
  refine r_iast (i := 31) (us := (S.2.1 31)) ⟨rfl, rfl⟩ (by decide) hR hX rfl (by omega) (by show S.1 32 < 80; omega) (by omega) d_Mo_push_9 ?_
  intro h hR hX
  refine x_aload_n d_Mo_push_10 rfl rfl ?_
  refine x_dup d_Mo_push_11 rfl ?_
  refine x_get xf_Mo_199_Mo (Or.inl hR.1) (v := .int (zI (S.1 32))) rfl d_Mo_push_12 ?_
  have hb12 : inR (S.1 32) := hR.2.2.2 32
  refine x_iconst (v := zI 1) d_Mo_push_15 (by decide) ?_
  refine z_iadd d_Mo_push_16 ?_
  refine r_put xf_Mo_199_Mo xp_Mo_32 hR hX (by omega) rfl rfl d_Mo_push_17 ?_
  intro h hR hX
  refine x_vret d_Mo_push_20 rfl ?_
  exact ⟨_, hR, hX, rfl, rfl, rfl, rfl⟩
theorem rdOk.pl {P R : List Int} {w : Int → Int} (hS : rdOk S P R w) : S.1 32 = P.length ∧ stk (S.2.1 31) P ∧ (P.length : Int) ≤ 53 := by
  obtain ⟨s1, s2, s3, s4, ⟨s5, s6, s7⟩, ⟨s8, s9⟩, ⟨s10, s11, s12⟩, ⟨s13, s13b⟩, s14, s15, s16, s17⟩ := hS
  obtain ⟨p1, p2, p3, p4, p5, p6, -⟩ := id s14
  have hpl := okPl_len s7
  exact ⟨s5, s6, by omega⟩
abbrev apJ : List Nat := [32, 33, 35]
abbrev apA : List Nat := [12, 13, 14, 15, 34]
end RF7
