section
abbrev y_Mo_push : MethodName := ⟨"MarkerTextModel", "push", "(I)V"⟩
abbrev M_Mo_push : XMt := (y_Mo_push, prog_13_method_25_code, 2, none)
theorem d_Mo_push_0 : decode M_Mo_push.2.1 0 = .ok (.aload_n 0, 1) := by decide +kernel
theorem d_Mo_push_1 : decode M_Mo_push.2.1 1 = .ok (.getfield 85, 3) := by decide +kernel
theorem d_Mo_push_4 : decode M_Mo_push.2.1 4 = .ok (.aload_n 0, 1) := by decide +kernel
theorem d_Mo_push_5 : decode M_Mo_push.2.1 5 = .ok (.getfield 199, 3) := by decide +kernel
theorem d_Mo_push_8 : decode M_Mo_push.2.1 8 = .ok (.iload_n 1, 1) := by decide +kernel
theorem d_Mo_push_9 : decode M_Mo_push.2.1 9 = .ok (.iastore, 1) := by decide +kernel
theorem d_Mo_push_10 : decode M_Mo_push.2.1 10 = .ok (.aload_n 0, 1) := by decide +kernel
theorem d_Mo_push_11 : decode M_Mo_push.2.1 11 = .ok (.dup, 1) := by decide +kernel
theorem d_Mo_push_12 : decode M_Mo_push.2.1 12 = .ok (.getfield 199, 3) := by decide +kernel
theorem d_Mo_push_15 : decode M_Mo_push.2.1 15 = .ok (.iconst 1, 1) := by decide +kernel
theorem d_Mo_push_16 : decode M_Mo_push.2.1 16 = .ok (.iadd, 1) := by decide +kernel
theorem d_Mo_push_17 : decode M_Mo_push.2.1 17 = .ok (.putfield 199, 3) := by decide +kernel
theorem d_Mo_push_20 : decode M_Mo_push.2.1 20 = .ok (.return_, 1) := by decide +kernel
abbrev y_Mo_open : MethodName := ⟨"MarkerTextModel", "open", "(II)V"⟩
abbrev M_Mo_open : XMt := (y_Mo_open, prog_13_method_26_code, 3, none)
theorem d_Mo_open_0 : decode M_Mo_open.2.1 0 = .ok (.aload_n 0, 1) := by decide +kernel
theorem d_Mo_open_1 : decode M_Mo_open.2.1 1 = .ok (.getfield 202, 3) := by decide +kernel
theorem d_Mo_open_4 : decode M_Mo_open.2.1 4 = .ok (.bipush 12, 2) := by decide +kernel
theorem d_Mo_open_6 : decode M_Mo_open.2.1 6 = .ok (.if_icmp .ne 11, 3) := by decide +kernel
theorem d_Mo_open_17 : decode M_Mo_open.2.1 17 = .ok (.aload_n 0, 1) := by decide +kernel
theorem d_Mo_open_18 : decode M_Mo_open.2.1 18 = .ok (.dup, 1) := by decide +kernel
theorem d_Mo_open_19 : decode M_Mo_open.2.1 19 = .ok (.getfield 202, 3) := by decide +kernel
theorem d_Mo_open_22 : decode M_Mo_open.2.1 22 = .ok (.iconst 1, 1) := by decide +kernel
theorem d_Mo_open_23 : decode M_Mo_open.2.1 23 = .ok (.iadd, 1) := by decide +kernel
theorem d_Mo_open_24 : decode M_Mo_open.2.1 24 = .ok (.putfield 202, 3) := by decide +kernel
theorem d_Mo_open_27 : decode M_Mo_open.2.1 27 = .ok (.aload_n 0, 1) := by decide +kernel
theorem d_Mo_open_28 : decode M_Mo_open.2.1 28 = .ok (.iload_n 1, 1) := by decide +kernel
theorem d_Mo_open_29 : decode M_Mo_open.2.1 29 = .ok (.invokevirtual 222, 3) := by decide +kernel
theorem xw_1426 : (Jvm.Cond.code ({ cls := "MarkerTextModel", name := "push", desc := "(I)V" } : Jvm.MethodName) prog_13_method_25_code (2 : Nat) (Option.none : Option Jvm.ClassFile.FieldType)) ∈ xT := xT_at 1426 (by decide +kernel) (by decide +kernel)
theorem xcb_Mo_push : xcb M_Mo_push 1 := ⟨xw_1426, xw_8, by decide, by decide, by decide, by decide +kernel⟩
theorem xw_1425 : (Jvm.Cond.instanceMethod ({ cls := "MarkerTextModel", name := "push", desc := "(I)V" } : Jvm.MethodName)) ∈ xT := xT_at 1425 (by decide +kernel) (by decide +kernel)
theorem xw_1423 : (Jvm.Cond.methodLink "MarkerTextModel" (222 : Nat) ({ cls := "MarkerTextModel", name := "push", desc := "(I)V" } : Jvm.MethodName)) ∈ xT := xT_at 1423 (by decide +kernel) (by decide +kernel)
theorem xsel_Mo_push : Cond.selects "MarkerTextModel" y_Mo_push y_Mo_push ∈ xT := xT_sel (q := (y_Mo_push, 52)) (by decide +kernel) (by decide +kernel)
theorem xcv_Mo_222_Mo : xCV "MarkerTextModel" 222 "MarkerTextModel" M_Mo_push 1 := ⟨xcb_Mo_push, xw_1425, Or.inl ⟨xw_1423, Or.inl xsel_Mo_push⟩⟩
theorem d_Mo_open_32 : decode M_Mo_open.2.1 32 = .ok (.aload_n 0, 1) := by decide +kernel
theorem d_Mo_open_33 : decode M_Mo_open.2.1 33 = .ok (.dup, 1) := by decide +kernel
theorem d_Mo_open_34 : decode M_Mo_open.2.1 34 = .ok (.getfield 193, 3) := by decide +kernel
theorem d_Mo_open_37 : decode M_Mo_open.2.1 37 = .ok (.iload_n 2, 1) := by decide +kernel
theorem d_Mo_open_38 : decode M_Mo_open.2.1 38 = .ok (.iadd, 1) := by decide +kernel
theorem d_Mo_open_39 : decode M_Mo_open.2.1 39 = .ok (.putfield 193, 3) := by decide +kernel
theorem d_Mo_open_42 : decode M_Mo_open.2.1 42 = .ok (.return_, 1) := by decide +kernel
theorem d_Mo_open_9 : decode M_Mo_open.2.1 9 = .ok (.aload_n 0, 1) := by decide +kernel
theorem d_Mo_open_10 : decode M_Mo_open.2.1 10 = .ok (.aload_n 0, 1) := by decide +kernel
theorem d_Mo_open_11 : decode M_Mo_open.2.1 11 = .ok (.getfield 193, 3) := by decide +kernel
theorem d_Mo_open_14 : decode M_Mo_open.2.1 14 = .ok (.invokevirtual 218, 3) := by decide +kernel
theorem xw_1422 : (Jvm.Cond.code ({ cls := "MarkerTextModel", name := "fault", desc := "(I)V" } : Jvm.MethodName) prog_13_method_18_code (2 : Nat) (Option.none : Option Jvm.ClassFile.FieldType)) ∈ xT := xT_at 1422 (by decide +kernel) (by decide +kernel)
theorem xcb_Mo_fault : xcb M_Mo_fault 1 := ⟨xw_1422, xw_8, by decide, by decide, by decide, by decide +kernel⟩
theorem xw_1421 : (Jvm.Cond.instanceMethod ({ cls := "MarkerTextModel", name := "fault", desc := "(I)V" } : Jvm.MethodName)) ∈ xT := xT_at 1421 (by decide +kernel) (by decide +kernel)
theorem xw_1419 : (Jvm.Cond.methodLink "MarkerTextModel" (218 : Nat) ({ cls := "MarkerTextModel", name := "fault", desc := "(I)V" } : Jvm.MethodName)) ∈ xT := xT_at 1419 (by decide +kernel) (by decide +kernel)
theorem xsel_Mo_fault : Cond.selects "MarkerTextModel" y_Mo_fault y_Mo_fault ∈ xT := xT_sel (q := (y_Mo_fault, 52)) (by decide +kernel) (by decide +kernel)
theorem xcv_Mo_218_Mo : xCV "MarkerTextModel" 218 "MarkerTextModel" M_Mo_fault 1 := ⟨xcb_Mo_fault, xw_1421, Or.inl ⟨xw_1419, Or.inl xsel_Mo_fault⟩⟩
abbrev y_Mo_complete : MethodName := ⟨"MarkerTextModel", "complete", "()V"⟩
abbrev M_Mo_complete : XMt := (y_Mo_complete, prog_13_method_24_code, 1, none)
theorem d_Mo_complete_0 : decode M_Mo_complete.2.1 0 = .ok (.aload_n 0, 1) := by decide +kernel
theorem d_Mo_complete_1 : decode M_Mo_complete.2.1 1 = .ok (.iconst 1, 1) := by decide +kernel
theorem d_Mo_complete_2 : decode M_Mo_complete.2.1 2 = .ok (.invokevirtual 212, 3) := by decide +kernel
theorem xw_1466 : (Jvm.Cond.code ({ cls := "MarkerTextModel", name := "isOnTop", desc := "(I)Z" } : Jvm.MethodName) prog_13_method_23_code (2 : Nat) (Option.some Jvm.ClassFile.FieldType.boolean)) ∈ xT := xT_at 1466 (by decide +kernel) (by decide +kernel)
theorem xcb_Mo_isOnTop : xcb M_Mo_isOnTop 1 := ⟨xw_1466, xw_8, by decide, by decide, by decide, by decide +kernel⟩
theorem xw_1465 : (Jvm.Cond.instanceMethod ({ cls := "MarkerTextModel", name := "isOnTop", desc := "(I)Z" } : Jvm.MethodName)) ∈ xT := xT_at 1465 (by decide +kernel) (by decide +kernel)
theorem xw_1463 : (Jvm.Cond.methodLink "MarkerTextModel" (212 : Nat) ({ cls := "MarkerTextModel", name := "isOnTop", desc := "(I)Z" } : Jvm.MethodName)) ∈ xT := xT_at 1463 (by decide +kernel) (by decide +kernel)
theorem xsel_Mo_isOnTop : Cond.selects "MarkerTextModel" y_Mo_isOnTop y_Mo_isOnTop ∈ xT := xT_sel (q := (y_Mo_isOnTop, 52)) (by decide +kernel) (by decide +kernel)
theorem xcv_Mo_212_Mo : xCV "MarkerTextModel" 212 "MarkerTextModel" M_Mo_isOnTop 1 := ⟨xcb_Mo_isOnTop, xw_1465, Or.inl ⟨xw_1463, Or.inl xsel_Mo_isOnTop⟩⟩
theorem d_Mo_complete_5 : decode M_Mo_complete.2.1 5 = .ok (.ifCond .eq 10, 3) := by decide +kernel
theorem d_Mo_complete_15 : decode M_Mo_complete.2.1 15 = .ok (.return_, 1) := by decide +kernel
theorem d_Mo_complete_8 : decode M_Mo_complete.2.1 8 = .ok (.aload_n 0, 1) := by decide +kernel
theorem d_Mo_complete_9 : decode M_Mo_complete.2.1 9 = .ok (.invokevirtual 215, 3) := by decide +kernel
theorem xw_1470 : (Jvm.Cond.code ({ cls := "MarkerTextModel", name := "apply", desc := "()V" } : Jvm.MethodName) prog_13_method_22_code (4 : Nat) (Option.none : Option Jvm.ClassFile.FieldType)) ∈ xT := xT_at 1470 (by decide +kernel) (by decide +kernel)
theorem xcb_Mo_apply : xcb M_Mo_apply 0 := ⟨xw_1470, xw_8, by decide, by decide, by decide, by decide +kernel⟩
theorem xw_1469 : (Jvm.Cond.instanceMethod ({ cls := "MarkerTextModel", name := "apply", desc := "()V" } : Jvm.MethodName)) ∈ xT := xT_at 1469 (by decide +kernel) (by decide +kernel)
theorem xw_1467 : (Jvm.Cond.methodLink "MarkerTextModel" (215 : Nat) ({ cls := "MarkerTextModel", name := "apply", desc := "()V" } : Jvm.MethodName)) ∈ xT := xT_at 1467 (by decide +kernel) (by decide +kernel)
theorem xsel_Mo_apply : Cond.selects "MarkerTextModel" y_Mo_apply y_Mo_apply ∈ xT := xT_sel (q := (y_Mo_apply, 52)) (by decide +kernel) (by decide +kernel)
theorem xcv_Mo_215_Mo : xCV "MarkerTextModel" 215 "MarkerTextModel" M_Mo_apply 0 := ⟨xcb_Mo_apply, xw_1469, Or.inl ⟨xw_1467, Or.inl xsel_Mo_apply⟩⟩
theorem d_Mo_complete_12 : decode M_Mo_complete.2.1 12 = .ok (.goto (-12), 3) := by decide +kernel
abbrev y_Mo_readValue : MethodName := ⟨"MarkerTextModel", "readValue", "(I)V"⟩
abbrev M_Mo_readValue : XMt := (y_Mo_readValue, prog_13_method_27_code, 6, none)
theorem d_Mo_readValue_140 : decode M_Mo_readValue.2.1 140 = .ok (.iload 5, 2) := by decide +kernel
theorem d_Mo_readValue_142 : decode M_Mo_readValue.2.1 142 = .ok (.iload_n 3, 1) := by decide +kernel
theorem d_Mo_readValue_143 : decode M_Mo_readValue.2.1 143 = .ok (.iload_n 2, 1) := by decide +kernel
theorem d_Mo_readValue_144 : decode M_Mo_readValue.2.1 144 = .ok (.isub, 1) := by decide +kernel
theorem d_Mo_readValue_145 : decode M_Mo_readValue.2.1 145 = .ok (.if_icmp .ge 31, 3) := by decide +kernel
theorem d_Mo_readValue_176 : decode M_Mo_readValue.2.1 176 = .ok (.aload_n 0, 1) := by decide +kernel
theorem d_Mo_readValue_177 : decode M_Mo_readValue.2.1 177 = .ok (.getfield 78, 3) := by decide +kernel
theorem d_Mo_readValue_180 : decode M_Mo_readValue.2.1 180 = .ok (.aload_n 0, 1) := by decide +kernel
theorem d_Mo_readValue_181 : decode M_Mo_readValue.2.1 181 = .ok (.getfield 196, 3) := by decide +kernel
theorem d_Mo_readValue_184 : decode M_Mo_readValue.2.1 184 = .ok (.dup2, 1) := by decide +kernel
theorem d_Mo_readValue_185 : decode M_Mo_readValue.2.1 185 = .ok (.iaload, 1) := by decide +kernel
theorem d_Mo_readValue_186 : decode M_Mo_readValue.2.1 186 = .ok (.iconst 1, 1) := by decide +kernel
theorem d_Mo_readValue_187 : decode M_Mo_readValue.2.1 187 = .ok (.iadd, 1) := by decide +kernel
theorem d_Mo_readValue_188 : decode M_Mo_readValue.2.1 188 = .ok (.iastore, 1) := by decide +kernel
theorem d_Mo_readValue_189 : decode M_Mo_readValue.2.1 189 = .ok (.aload_n 0, 1) := by decide +kernel
theorem d_Mo_readValue_190 : decode M_Mo_readValue.2.1 190 = .ok (.iload_n 3, 1) := by decide +kernel
theorem d_Mo_readValue_191 : decode M_Mo_readValue.2.1 191 = .ok (.iconst 1, 1) := by decide +kernel
theorem d_Mo_readValue_192 : decode M_Mo_readValue.2.1 192 = .ok (.iadd, 1) := by decide +kernel
theorem d_Mo_readValue_193 : decode M_Mo_readValue.2.1 193 = .ok (.putfield 193, 3) := by decide +kernel
theorem d_Mo_readValue_196 : decode M_Mo_readValue.2.1 196 = .ok (.return_, 1) := by decide +kernel
theorem d_Mo_readValue_148 : decode M_Mo_readValue.2.1 148 = .ok (.aload_n 0, 1) := by decide +kernel
theorem d_Mo_readValue_149 : decode M_Mo_readValue.2.1 149 = .ok (.getfield 69, 3) := by decide +kernel
theorem d_Mo_readValue_152 : decode M_Mo_readValue.2.1 152 = .ok (.bipush 11, 2) := by decide +kernel
theorem d_Mo_readValue_154 : decode M_Mo_readValue.2.1 154 = .ok (.iload 4, 2) := by decide +kernel
theorem d_Mo_readValue_156 : decode M_Mo_readValue.2.1 156 = .ok (.imul, 1) := by decide +kernel
theorem d_Mo_readValue_157 : decode M_Mo_readValue.2.1 157 = .ok (.iload 5, 2) := by decide +kernel
theorem d_Mo_readValue_159 : decode M_Mo_readValue.2.1 159 = .ok (.iadd, 1) := by decide +kernel
theorem d_Mo_readValue_160 : decode M_Mo_readValue.2.1 160 = .ok (.aload_n 0, 1) := by decide +kernel
theorem d_Mo_readValue_161 : decode M_Mo_readValue.2.1 161 = .ok (.getfield 7, 3) := by decide +kernel
theorem d_Mo_readValue_164 : decode M_Mo_readValue.2.1 164 = .ok (.iload_n 2, 1) := by decide +kernel
theorem d_Mo_readValue_165 : decode M_Mo_readValue.2.1 165 = .ok (.iload 5, 2) := by decide +kernel
theorem d_Mo_readValue_167 : decode M_Mo_readValue.2.1 167 = .ok (.iadd, 1) := by decide +kernel
theorem d_Mo_readValue_168 : decode M_Mo_readValue.2.1 168 = .ok (.iaload, 1) := by decide +kernel
theorem d_Mo_readValue_169 : decode M_Mo_readValue.2.1 169 = .ok (.iastore, 1) := by decide +kernel
theorem d_Mo_readValue_170 : decode M_Mo_readValue.2.1 170 = .ok (.iinc 5 1, 3) := by decide +kernel
theorem d_Mo_readValue_173 : decode M_Mo_readValue.2.1 173 = .ok (.goto (-33), 3) := by decide +kernel
theorem d_Mo_readValue_56 : decode M_Mo_readValue.2.1 56 = .ok (.iload_n 3, 1) := by decide +kernel
theorem d_Mo_readValue_57 : decode M_Mo_readValue.2.1 57 = .ok (.aload_n 0, 1) := by decide +kernel
theorem d_Mo_readValue_58 : decode M_Mo_readValue.2.1 58 = .ok (.getfield 124, 3) := by decide +kernel
theorem d_Mo_readValue_61 : decode M_Mo_readValue.2.1 61 = .ok (.if_icmp .ne 12, 3) := by decide +kernel
theorem d_Mo_readValue_73 : decode M_Mo_readValue.2.1 73 = .ok (.aload_n 0, 1) := by decide +kernel
theorem d_Mo_readValue_74 : decode M_Mo_readValue.2.1 74 = .ok (.iload_n 2, 1) := by decide +kernel
theorem d_Mo_readValue_75 : decode M_Mo_readValue.2.1 75 = .ok (.iload_n 3, 1) := by decide +kernel
theorem d_Mo_readValue_76 : decode M_Mo_readValue.2.1 76 = .ok (.aload_n 0, 1) := by decide +kernel
theorem d_Mo_readValue_77 : decode M_Mo_readValue.2.1 77 = .ok (.getfield 19, 3) := by decide +kernel
theorem d_Mo_readValue_80 : decode M_Mo_readValue.2.1 80 = .ok (.iload_n 1, 1) := by decide +kernel
theorem d_Mo_readValue_81 : decode M_Mo_readValue.2.1 81 = .ok (.iaload, 1) := by decide +kernel
theorem d_Mo_readValue_82 : decode M_Mo_readValue.2.1 82 = .ok (.invokevirtual 187, 3) := by decide +kernel
theorem d_Mo_readValue_85 : decode M_Mo_readValue.2.1 85 = .ok (.ifCond .ne 12, 3) := by decide +kernel
theorem d_Mo_readValue_97 : decode M_Mo_readValue.2.1 97 = .ok (.bipush 64, 2) := by decide +kernel
theorem d_Mo_readValue_99 : decode M_Mo_readValue.2.1 99 = .ok (.aload_n 0, 1) := by decide +kernel
theorem d_Mo_readValue_100 : decode M_Mo_readValue.2.1 100 = .ok (.getfield 196, 3) := by decide +kernel
theorem d_Mo_readValue_103 : decode M_Mo_readValue.2.1 103 = .ok (.imul, 1) := by decide +kernel
theorem d_Mo_readValue_104 : decode M_Mo_readValue.2.1 104 = .ok (.aload_n 0, 1) := by decide +kernel
theorem d_Mo_readValue_105 : decode M_Mo_readValue.2.1 105 = .ok (.getfield 78, 3) := by decide +kernel
theorem d_Mo_readValue_108 : decode M_Mo_readValue.2.1 108 = .ok (.aload_n 0, 1) := by decide +kernel
theorem d_Mo_readValue_109 : decode M_Mo_readValue.2.1 109 = .ok (.getfield 196, 3) := by decide +kernel
theorem d_Mo_readValue_112 : decode M_Mo_readValue.2.1 112 = .ok (.iaload, 1) := by decide +kernel
theorem d_Mo_readValue_113 : decode M_Mo_readValue.2.1 113 = .ok (.iadd, 1) := by decide +kernel
theorem d_Mo_readValue_114 : decode M_Mo_readValue.2.1 114 = .ok (.istore 4, 2) := by decide +kernel
theorem d_Mo_readValue_116 : decode M_Mo_readValue.2.1 116 = .ok (.aload_n 0, 1) := by decide +kernel
theorem d_Mo_readValue_117 : decode M_Mo_readValue.2.1 117 = .ok (.getfield 66, 3) := by decide +kernel
theorem d_Mo_readValue_120 : decode M_Mo_readValue.2.1 120 = .ok (.iload 4, 2) := by decide +kernel
theorem d_Mo_readValue_122 : decode M_Mo_readValue.2.1 122 = .ok (.aload_n 0, 1) := by decide +kernel
theorem d_Mo_readValue_123 : decode M_Mo_readValue.2.1 123 = .ok (.getfield 173, 3) := by decide +kernel
theorem d_Mo_readValue_126 : decode M_Mo_readValue.2.1 126 = .ok (.lastore, 1) := by decide +kernel
theorem d_Mo_readValue_127 : decode M_Mo_readValue.2.1 127 = .ok (.aload_n 0, 1) := by decide +kernel
theorem d_Mo_readValue_128 : decode M_Mo_readValue.2.1 128 = .ok (.getfield 72, 3) := by decide +kernel
theorem d_Mo_readValue_131 : decode M_Mo_readValue.2.1 131 = .ok (.iload 4, 2) := by decide +kernel
theorem d_Mo_readValue_133 : decode M_Mo_readValue.2.1 133 = .ok (.iload_n 3, 1) := by decide +kernel
theorem d_Mo_readValue_134 : decode M_Mo_readValue.2.1 134 = .ok (.iload_n 2, 1) := by decide +kernel
theorem d_Mo_readValue_135 : decode M_Mo_readValue.2.1 135 = .ok (.isub, 1) := by decide +kernel
theorem d_Mo_readValue_136 : decode M_Mo_readValue.2.1 136 = .ok (.iastore, 1) := by decide +kernel
theorem d_Mo_readValue_137 : decode M_Mo_readValue.2.1 137 = .ok (.iconst 0, 1) := by decide +kernel
theorem d_Mo_readValue_138 : decode M_Mo_readValue.2.1 138 = .ok (.istore 5, 2) := by decide +kernel
theorem d_Mo_readValue_88 : decode M_Mo_readValue.2.1 88 = .ok (.aload_n 0, 1) := by decide +kernel
theorem d_Mo_readValue_89 : decode M_Mo_readValue.2.1 89 = .ok (.aload_n 0, 1) := by decide +kernel
theorem d_Mo_readValue_90 : decode M_Mo_readValue.2.1 90 = .ok (.getfield 193, 3) := by decide +kernel
theorem d_Mo_readValue_93 : decode M_Mo_readValue.2.1 93 = .ok (.invokevirtual 218, 3) := by decide +kernel
theorem d_Mo_readValue_96 : decode M_Mo_readValue.2.1 96 = .ok (.return_, 1) := by decide +kernel
theorem d_Mo_readValue_64 : decode M_Mo_readValue.2.1 64 = .ok (.aload_n 0, 1) := by decide +kernel
theorem d_Mo_readValue_65 : decode M_Mo_readValue.2.1 65 = .ok (.aload_n 0, 1) := by decide +kernel
theorem d_Mo_readValue_66 : decode M_Mo_readValue.2.1 66 = .ok (.getfield 124, 3) := by decide +kernel
theorem d_Mo_readValue_69 : decode M_Mo_readValue.2.1 69 = .ok (.invokevirtual 218, 3) := by decide +kernel
theorem d_Mo_readValue_72 : decode M_Mo_readValue.2.1 72 = .ok (.return_, 1) := by decide +kernel
theorem d_Mo_readValue_31 : decode M_Mo_readValue.2.1 31 = .ok (.iload_n 3, 1) := by decide +kernel
theorem d_Mo_readValue_32 : decode M_Mo_readValue.2.1 32 = .ok (.aload_n 0, 1) := by decide +kernel
theorem d_Mo_readValue_33 : decode M_Mo_readValue.2.1 33 = .ok (.getfield 124, 3) := by decide +kernel
theorem d_Mo_readValue_36 : decode M_Mo_readValue.2.1 36 = .ok (.if_icmp .ge 20, 3) := by decide +kernel
theorem d_Mo_readValue_39 : decode M_Mo_readValue.2.1 39 = .ok (.aload_n 0, 1) := by decide +kernel
theorem d_Mo_readValue_40 : decode M_Mo_readValue.2.1 40 = .ok (.getfield 7, 3) := by decide +kernel
theorem d_Mo_readValue_43 : decode M_Mo_readValue.2.1 43 = .ok (.iload_n 3, 1) := by decide +kernel
theorem d_Mo_readValue_44 : decode M_Mo_readValue.2.1 44 = .ok (.iaload, 1) := by decide +kernel
theorem d_Mo_readValue_45 : decode M_Mo_readValue.2.1 45 = .ok (.bipush 39, 2) := by decide +kernel
theorem d_Mo_readValue_47 : decode M_Mo_readValue.2.1 47 = .ok (.if_icmp .eq 9, 3) := by decide +kernel
theorem d_Mo_readValue_50 : decode M_Mo_readValue.2.1 50 = .ok (.iinc 3 1, 3) := by decide +kernel
theorem d_Mo_readValue_53 : decode M_Mo_readValue.2.1 53 = .ok (.goto (-22), 3) := by decide +kernel
theorem d_Mo_readValue_0 : decode M_Mo_readValue.2.1 0 = .ok (.aload_n 0, 1) := by decide +kernel
theorem d_Mo_readValue_1 : decode M_Mo_readValue.2.1 1 = .ok (.invokevirtual 225, 3) := by decide +kernel
theorem xw_1406 : (Jvm.Cond.code ({ cls := "MarkerTextModel", name := "skip", desc := "()V" } : Jvm.MethodName) prog_13_method_19_code (1 : Nat) (Option.none : Option Jvm.ClassFile.FieldType)) ∈ xT := xT_at 1406 (by decide +kernel) (by decide +kernel)
theorem xcb_Mo_skip : xcb M_Mo_skip 0 := ⟨xw_1406, xw_8, by decide, by decide, by decide, by decide +kernel⟩
theorem xw_1405 : (Jvm.Cond.instanceMethod ({ cls := "MarkerTextModel", name := "skip", desc := "()V" } : Jvm.MethodName)) ∈ xT := xT_at 1405 (by decide +kernel) (by decide +kernel)
theorem xw_1403 : (Jvm.Cond.methodLink "MarkerTextModel" (225 : Nat) ({ cls := "MarkerTextModel", name := "skip", desc := "()V" } : Jvm.MethodName)) ∈ xT := xT_at 1403 (by decide +kernel) (by decide +kernel)
theorem xsel_Mo_skip : Cond.selects "MarkerTextModel" y_Mo_skip y_Mo_skip ∈ xT := xT_sel (q := (y_Mo_skip, 52)) (by decide +kernel) (by decide +kernel)
theorem xcv_Mo_225_Mo : xCV "MarkerTextModel" 225 "MarkerTextModel" M_Mo_skip 0 := ⟨xcb_Mo_skip, xw_1405, Or.inl ⟨xw_1403, Or.inl xsel_Mo_skip⟩⟩
theorem d_Mo_readValue_4 : decode M_Mo_readValue.2.1 4 = .ok (.aload_n 0, 1) := by decide +kernel
theorem d_Mo_readValue_5 : decode M_Mo_readValue.2.1 5 = .ok (.invokevirtual 228, 3) := by decide +kernel
theorem xw_1414 : (Jvm.Cond.code ({ cls := "MarkerTextModel", name := "now", desc := "()I" } : Jvm.MethodName) prog_13_method_20_code (1 : Nat) (Option.some Jvm.ClassFile.FieldType.int)) ∈ xT := xT_at 1414 (by decide +kernel) (by decide +kernel)
theorem xcb_Mo_now : xcb M_Mo_now 0 := ⟨xw_1414, xw_8, by decide, by decide, by decide, by decide +kernel⟩
theorem xw_1413 : (Jvm.Cond.instanceMethod ({ cls := "MarkerTextModel", name := "now", desc := "()I" } : Jvm.MethodName)) ∈ xT := xT_at 1413 (by decide +kernel) (by decide +kernel)
theorem xw_1411 : (Jvm.Cond.methodLink "MarkerTextModel" (228 : Nat) ({ cls := "MarkerTextModel", name := "now", desc := "()I" } : Jvm.MethodName)) ∈ xT := xT_at 1411 (by decide +kernel) (by decide +kernel)
theorem xsel_Mo_now : Cond.selects "MarkerTextModel" y_Mo_now y_Mo_now ∈ xT := xT_sel (q := (y_Mo_now, 52)) (by decide +kernel) (by decide +kernel)
theorem xcv_Mo_228_Mo : xCV "MarkerTextModel" 228 "MarkerTextModel" M_Mo_now 0 := ⟨xcb_Mo_now, xw_1413, Or.inl ⟨xw_1411, Or.inl xsel_Mo_now⟩⟩
theorem d_Mo_readValue_8 : decode M_Mo_readValue.2.1 8 = .ok (.bipush 39, 2) := by decide +kernel
theorem d_Mo_readValue_10 : decode M_Mo_readValue.2.1 10 = .ok (.if_icmp .eq 12, 3) := by decide +kernel
theorem d_Mo_readValue_22 : decode M_Mo_readValue.2.1 22 = .ok (.aload_n 0, 1) := by decide +kernel
theorem d_Mo_readValue_23 : decode M_Mo_readValue.2.1 23 = .ok (.getfield 193, 3) := by decide +kernel
theorem d_Mo_readValue_26 : decode M_Mo_readValue.2.1 26 = .ok (.iconst 1, 1) := by decide +kernel
theorem d_Mo_readValue_27 : decode M_Mo_readValue.2.1 27 = .ok (.iadd, 1) := by decide +kernel
theorem d_Mo_readValue_28 : decode M_Mo_readValue.2.1 28 = .ok (.istore_n 2, 1) := by decide +kernel
theorem d_Mo_readValue_29 : decode M_Mo_readValue.2.1 29 = .ok (.iload_n 2, 1) := by decide +kernel
theorem d_Mo_readValue_30 : decode M_Mo_readValue.2.1 30 = .ok (.istore_n 3, 1) := by decide +kernel
theorem d_Mo_readValue_13 : decode M_Mo_readValue.2.1 13 = .ok (.aload_n 0, 1) := by decide +kernel
theorem d_Mo_readValue_14 : decode M_Mo_readValue.2.1 14 = .ok (.aload_n 0, 1) := by decide +kernel
theorem d_Mo_readValue_15 : decode M_Mo_readValue.2.1 15 = .ok (.getfield 193, 3) := by decide +kernel
theorem d_Mo_readValue_18 : decode M_Mo_readValue.2.1 18 = .ok (.invokevirtual 218, 3) := by decide +kernel
theorem d_Mo_readValue_21 : decode M_Mo_readValue.2.1 21 = .ok (.return_, 1) := by decide +kernel
abbrev y_Mo_expect : MethodName := ⟨"MarkerTextModel", "expect", "(I)V"⟩
abbrev M_Mo_expect : XMt := (y_Mo_expect, prog_13_method_28_code, 2, none)
theorem d_Mo_expect_0 : decode M_Mo_expect.2.1 0 = .ok (.aload_n 0, 1) := by decide +kernel
theorem d_Mo_expect_1 : decode M_Mo_expect.2.1 1 = .ok (.invokevirtual 225, 3) := by decide +kernel
theorem d_Mo_expect_4 : decode M_Mo_expect.2.1 4 = .ok (.aload_n 0, 1) := by decide +kernel
theorem d_Mo_expect_5 : decode M_Mo_expect.2.1 5 = .ok (.invokevirtual 228, 3) := by decide +kernel
theorem d_Mo_expect_8 : decode M_Mo_expect.2.1 8 = .ok (.iload_n 1, 1) := by decide +kernel
theorem d_Mo_expect_9 : decode M_Mo_expect.2.1 9 = .ok (.if_icmp .ne 16, 3) := by decide +kernel
theorem d_Mo_expect_25 : decode M_Mo_expect.2.1 25 = .ok (.aload_n 0, 1) := by decide +kernel
theorem d_Mo_expect_26 : decode M_Mo_expect.2.1 26 = .ok (.aload_n 0, 1) := by decide +kernel
theorem d_Mo_expect_27 : decode M_Mo_expect.2.1 27 = .ok (.getfield 193, 3) := by decide +kernel
theorem d_Mo_expect_30 : decode M_Mo_expect.2.1 30 = .ok (.invokevirtual 218, 3) := by decide +kernel
theorem d_Mo_expect_33 : decode M_Mo_expect.2.1 33 = .ok (.return_, 1) := by decide +kernel
theorem d_Mo_expect_12 : decode M_Mo_expect.2.1 12 = .ok (.aload_n 0, 1) := by decide +kernel
theorem d_Mo_expect_13 : decode M_Mo_expect.2.1 13 = .ok (.dup, 1) := by decide +kernel
theorem d_Mo_expect_14 : decode M_Mo_expect.2.1 14 = .ok (.getfield 193, 3) := by decide +kernel
theorem d_Mo_expect_17 : decode M_Mo_expect.2.1 17 = .ok (.iconst 1, 1) := by decide +kernel
theorem d_Mo_expect_18 : decode M_Mo_expect.2.1 18 = .ok (.iadd, 1) := by decide +kernel
theorem d_Mo_expect_19 : decode M_Mo_expect.2.1 19 = .ok (.putfield 193, 3) := by decide +kernel
theorem d_Mo_expect_22 : decode M_Mo_expect.2.1 22 = .ok (.goto 11, 3) := by decide +kernel
abbrev y_Mo_operator : MethodName := ⟨"MarkerTextModel", "operator", "()I"⟩
abbrev M_Mo_operator : XMt := (y_Mo_operator, prog_13_method_29_code, 3, (some .int))
theorem d_Mo_operator_30 : decode M_Mo_operator.2.1 30 = .ok (.iload_n 1, 1) := by decide +kernel
theorem d_Mo_operator_31 : decode M_Mo_operator.2.1 31 = .ok (.bipush 60, 2) := by decide +kernel
theorem d_Mo_operator_33 : decode M_Mo_operator.2.1 33 = .ok (.if_icmp .eq 9, 3) := by decide +kernel
theorem d_Mo_operator_42 : decode M_Mo_operator.2.1 42 = .ok (.aload_n 0, 1) := by decide +kernel
theorem d_Mo_operator_43 : decode M_Mo_operator.2.1 43 = .ok (.dup, 1) := by decide +kernel
theorem d_Mo_operator_44 : decode M_Mo_operator.2.1 44 = .ok (.getfield 193, 3) := by decide +kernel
theorem d_Mo_operator_47 : decode M_Mo_operator.2.1 47 = .ok (.iload_n 2, 1) := by decide +kernel
theorem d_Mo_operator_48 : decode M_Mo_operator.2.1 48 = .ok (.ifCond .eq 7, 3) := by decide +kernel
theorem d_Mo_operator_55 : decode M_Mo_operator.2.1 55 = .ok (.iconst 0, 1) := by decide +kernel
theorem d_Mo_operator_56 : decode M_Mo_operator.2.1 56 = .ok (.iadd, 1) := by decide +kernel
theorem d_Mo_operator_57 : decode M_Mo_operator.2.1 57 = .ok (.putfield 193, 3) := by decide +kernel
theorem d_Mo_operator_60 : decode M_Mo_operator.2.1 60 = .ok (.iload_n 1, 1) := by decide +kernel
theorem d_Mo_operator_61 : decode M_Mo_operator.2.1 61 = .ok (.bipush 60, 2) := by decide +kernel
theorem d_Mo_operator_63 : decode M_Mo_operator.2.1 63 = .ok (.if_icmp .ne 7, 3) := by decide +kernel
theorem d_Mo_operator_70 : decode M_Mo_operator.2.1 70 = .ok (.iconst 4, 1) := by decide +kernel
theorem d_Mo_operator_71 : decode M_Mo_operator.2.1 71 = .ok (.iload_n 2, 1) := by decide +kernel
theorem d_Mo_operator_72 : decode M_Mo_operator.2.1 72 = .ok (.ifCond .eq 7, 3) := by decide +kernel
theorem d_Mo_operator_79 : decode M_Mo_operator.2.1 79 = .ok (.iconst 0, 1) := by decide +kernel
theorem d_Mo_operator_80 : decode M_Mo_operator.2.1 80 = .ok (.iadd, 1) := by decide +kernel
theorem d_Mo_operator_81 : decode M_Mo_operator.2.1 81 = .ok (.ireturn, 1) := by decide +kernel
theorem d_Mo_operator_75 : decode M_Mo_operator.2.1 75 = .ok (.iconst 1, 1) := by decide +kernel
theorem d_Mo_operator_76 : decode M_Mo_operator.2.1 76 = .ok (.goto 4, 3) := by decide +kernel
theorem d_Mo_operator_66 : decode M_Mo_operator.2.1 66 = .ok (.iconst 2, 1) := by decide +kernel
theorem d_Mo_operator_67 : decode M_Mo_operator.2.1 67 = .ok (.goto 4, 3) := by decide +kernel
theorem d_Mo_operator_51 : decode M_Mo_operator.2.1 51 = .ok (.iconst 1, 1) := by decide +kernel
theorem d_Mo_operator_52 : decode M_Mo_operator.2.1 52 = .ok (.goto 4, 3) := by decide +kernel
theorem d_Mo_operator_36 : decode M_Mo_operator.2.1 36 = .ok (.iload_n 1, 1) := by decide +kernel
theorem d_Mo_operator_37 : decode M_Mo_operator.2.1 37 = .ok (.bipush 62, 2) := by decide +kernel
theorem d_Mo_operator_39 : decode M_Mo_operator.2.1 39 = .ok (.if_icmp .ne 43, 3) := by decide +kernel
theorem d_Mo_operator_82 : decode M_Mo_operator.2.1 82 = .ok (.iload_n 1, 1) := by decide +kernel
theorem d_Mo_operator_83 : decode M_Mo_operator.2.1 83 = .ok (.bipush 61, 2) := by decide +kernel
theorem d_Mo_operator_85 : decode M_Mo_operator.2.1 85 = .ok (.if_icmp .eq 21, 3) := by decide +kernel
theorem d_Mo_operator_106 : decode M_Mo_operator.2.1 106 = .ok (.iload_n 2, 1) := by decide +kernel
theorem d_Mo_operator_107 : decode M_Mo_operator.2.1 107 = .ok (.ifCond .ne 31, 3) := by decide +kernel
theorem d_Mo_operator_138 : decode M_Mo_operator.2.1 138 = .ok (.aload_n 0, 1) := by decide +kernel
theorem d_Mo_operator_139 : decode M_Mo_operator.2.1 139 = .ok (.dup, 1) := by decide +kernel
theorem d_Mo_operator_140 : decode M_Mo_operator.2.1 140 = .ok (.getfield 193, 3) := by decide +kernel
theorem d_Mo_operator_143 : decode M_Mo_operator.2.1 143 = .ok (.iconst 1, 1) := by decide +kernel
theorem d_Mo_operator_144 : decode M_Mo_operator.2.1 144 = .ok (.iadd, 1) := by decide +kernel
theorem d_Mo_operator_145 : decode M_Mo_operator.2.1 145 = .ok (.putfield 193, 3) := by decide +kernel
theorem d_Mo_operator_148 : decode M_Mo_operator.2.1 148 = .ok (.iload_n 1, 1) := by decide +kernel
theorem d_Mo_operator_149 : decode M_Mo_operator.2.1 149 = .ok (.bipush 61, 2) := by decide +kernel
theorem d_Mo_operator_151 : decode M_Mo_operator.2.1 151 = .ok (.if_icmp .ne 7, 3) := by decide +kernel
theorem d_Mo_operator_158 : decode M_Mo_operator.2.1 158 = .ok (.iconst 1, 1) := by decide +kernel
theorem d_Mo_operator_159 : decode M_Mo_operator.2.1 159 = .ok (.ireturn, 1) := by decide +kernel
theorem d_Mo_operator_154 : decode M_Mo_operator.2.1 154 = .ok (.iconst 0, 1) := by decide +kernel
theorem d_Mo_operator_155 : decode M_Mo_operator.2.1 155 = .ok (.goto 4, 3) := by decide +kernel
theorem d_Mo_operator_110 : decode M_Mo_operator.2.1 110 = .ok (.aload_n 0, 1) := by decide +kernel
theorem d_Mo_operator_111 : decode M_Mo_operator.2.1 111 = .ok (.aload_n 0, 1) := by decide +kernel
theorem d_Mo_operator_112 : decode M_Mo_operator.2.1 112 = .ok (.getfield 193, 3) := by decide +kernel
theorem d_Mo_operator_115 : decode M_Mo_operator.2.1 115 = .ok (.aload_n 0, 1) := by decide +kernel
theorem d_Mo_operator_116 : decode M_Mo_operator.2.1 116 = .ok (.getfield 124, 3) := by decide +kernel
theorem d_Mo_operator_119 : decode M_Mo_operator.2.1 119 = .ok (.if_icmp .ge 10, 3) := by decide +kernel
theorem d_Mo_operator_129 : decode M_Mo_operator.2.1 129 = .ok (.aload_n 0, 1) := by decide +kernel
theorem d_Mo_operator_130 : decode M_Mo_operator.2.1 130 = .ok (.getfield 124, 3) := by decide +kernel
theorem d_Mo_operator_133 : decode M_Mo_operator.2.1 133 = .ok (.invokevirtual 218, 3) := by decide +kernel
theorem d_Mo_operator_136 : decode M_Mo_operator.2.1 136 = .ok (.iconst 0, 1) := by decide +kernel
theorem d_Mo_operator_137 : decode M_Mo_operator.2.1 137 = .ok (.ireturn, 1) := by decide +kernel
theorem d_Mo_operator_122 : decode M_Mo_operator.2.1 122 = .ok (.aload_n 0, 1) := by decide +kernel
theorem d_Mo_operator_123 : decode M_Mo_operator.2.1 123 = .ok (.getfield 193, 3) := by decide +kernel
theorem d_Mo_operator_126 : decode M_Mo_operator.2.1 126 = .ok (.goto 7, 3) := by decide +kernel
theorem d_Mo_operator_88 : decode M_Mo_operator.2.1 88 = .ok (.iload_n 1, 1) := by decide +kernel
theorem d_Mo_operator_89 : decode M_Mo_operator.2.1 89 = .ok (.bipush 33, 2) := by decide +kernel
theorem d_Mo_operator_91 : decode M_Mo_operator.2.1 91 = .ok (.if_icmp .eq 15, 3) := by decide +kernel
theorem d_Mo_operator_94 : decode M_Mo_operator.2.1 94 = .ok (.aload_n 0, 1) := by decide +kernel
theorem d_Mo_operator_95 : decode M_Mo_operator.2.1 95 = .ok (.aload_n 0, 1) := by decide +kernel
theorem d_Mo_operator_96 : decode M_Mo_operator.2.1 96 = .ok (.getfield 193, 3) := by decide +kernel
theorem d_Mo_operator_99 : decode M_Mo_operator.2.1 99 = .ok (.iconst 1, 1) := by decide +kernel
theorem d_Mo_operator_100 : decode M_Mo_operator.2.1 100 = .ok (.isub, 1) := by decide +kernel
theorem d_Mo_operator_101 : decode M_Mo_operator.2.1 101 = .ok (.invokevirtual 218, 3) := by decide +kernel
theorem d_Mo_operator_104 : decode M_Mo_operator.2.1 104 = .ok (.iconst 0, 1) := by decide +kernel
theorem d_Mo_operator_105 : decode M_Mo_operator.2.1 105 = .ok (.ireturn, 1) := by decide +kernel
theorem d_Mo_operator_0 : decode M_Mo_operator.2.1 0 = .ok (.aload_n 0, 1) := by decide +kernel
theorem d_Mo_operator_1 : decode M_Mo_operator.2.1 1 = .ok (.invokevirtual 228, 3) := by decide +kernel
theorem d_Mo_operator_4 : decode M_Mo_operator.2.1 4 = .ok (.istore_n 1, 1) := by decide +kernel
theorem d_Mo_operator_5 : decode M_Mo_operator.2.1 5 = .ok (.aload_n 0, 1) := by decide +kernel
theorem d_Mo_operator_6 : decode M_Mo_operator.2.1 6 = .ok (.dup, 1) := by decide +kernel
theorem d_Mo_operator_7 : decode M_Mo_operator.2.1 7 = .ok (.getfield 193, 3) := by decide +kernel
theorem d_Mo_operator_10 : decode M_Mo_operator.2.1 10 = .ok (.iconst 1, 1) := by decide +kernel
theorem d_Mo_operator_11 : decode M_Mo_operator.2.1 11 = .ok (.iadd, 1) := by decide +kernel
theorem d_Mo_operator_12 : decode M_Mo_operator.2.1 12 = .ok (.putfield 193, 3) := by decide +kernel
theorem d_Mo_operator_15 : decode M_Mo_operator.2.1 15 = .ok (.aload_n 0, 1) := by decide +kernel
theorem d_Mo_operator_16 : decode M_Mo_operator.2.1 16 = .ok (.invokevirtual 228, 3) := by decide +kernel
theorem d_Mo_operator_19 : decode M_Mo_operator.2.1 19 = .ok (.bipush 61, 2) := by decide +kernel
theorem d_Mo_operator_21 : decode M_Mo_operator.2.1 21 = .ok (.if_icmp .ne 7, 3) := by decide +kernel
theorem d_Mo_operator_28 : decode M_Mo_operator.2.1 28 = .ok (.iconst 0, 1) := by decide +kernel
theorem d_Mo_operator_29 : decode M_Mo_operator.2.1 29 = .ok (.istore_n 2, 1) := by decide +kernel
theorem d_Mo_operator_24 : decode M_Mo_operator.2.1 24 = .ok (.iconst 1, 1) := by decide +kernel
theorem d_Mo_operator_25 : decode M_Mo_operator.2.1 25 = .ok (.goto 4, 3) := by decide +kernel
end
section RF7
variable {l : Launch} {G : XG} {h : XH} {c n d : Nat} {o : Nat} {rf : Nat → Nat} {S : MS}
theorem r_push {k : Int} (hk : inR k) (hp : 0 ≤ S.1 32 ∧ S.1 32 < 80) : RM l G d M_Mo_push [.ref o, .int (zI k)] o rf S (fun v S' => S' = sp (sa S 31 (se (S.2.1 31) (S.1 32) k)) 32 (S.1 32 + 1) ∧ v = none) := by
  intro H0 c n hR
  refine XM.of (by decide +kernel) (Nat.le_of_ble_eq_true rfl) ?_
  have hX : xonly H0 H0 RKs := xonly.rf
  refine x_aload_n d_Mo_push_0 rfl rfl ?_
  refine x_get xf_Mo_85_Mo (Or.inl hR.1) (v := .ref (rf 31)) rfl d_Mo_push_1 ?_
  refine x_aload_n d_Mo_push_4 rfl rfl ?_
  refine x_get xf_Mo_199_Mo (Or.inl hR.1) (v := .int (zI (S.1 32))) rfl d_Mo_push_5 ?_
  have hb5 : inR (S.1 32) := hR.2.2.2 32
  refine x_iload_n d_Mo_push_8 rfl ?_
  refine r_iast (i := 31) (us := (S.2.1 31)) ⟨rfl, rfl⟩ (by decide) hR hX rfl (by omega) (by show S.1 32 < 80; omega) (by omega) d_Mo_push_9 ?_
  intro h hR hX
  refine x_aload_n d_Mo_push_10 rfl rfl ?_
  refine x_dup d_Mo_push_11 rfl ?_
  refine x_get xf_Mo_199_Mo (Or.inl hR.1) (v := .int (zI (S.1 32))) rfl d_Mo_push_12 ?_
  have hb12 : inR (S.1 32) := hR.2.2.2 32
  refine x_iconst (v := zI 1) d_Mo_push_15 (by decide) ?_
  refine z_iadd d_Mo_push_16 ?_
  refine r_put xf_Mo_199_Mo xp_Mo_32 hR hX (by omega) rfl rfl d_Mo_push_17 ?_
  intro h hR hX
  refine x_vret d_Mo_push_20 rfl ?_
  exact ⟨_, hR, hX, rfl, rfl, rfl, rfl⟩
theorem rdOk.pl {P R : List Int} {w : Int → Int} (hS : rdOk S P R w) : S.1 32 = P.length ∧ stk (S.2.1 31) P ∧ (P.length : Int) ≤ 53 := by
  obtain ⟨s1, s2, s3, s4, ⟨s5, s6, s7⟩, ⟨s8, s9⟩, ⟨s10, s11, s12⟩, ⟨s13, s13b⟩, s14, s15, s16, s17⟩ := hS
  obtain ⟨p1, p2, p3, p4, p5, p6, -⟩ := id s14
  have hpl := okPl_len s7
  exact ⟨s5, s6, by omega⟩
/-- how open() ends -/
abbrev opQ (S : MS) (P R : List Int) (w : Int → Int) (k e : Int) : Option Value → MS → Prop := fun v S' => v = none ∧ rdOk S' (k :: P) R w ∧ rSm S S' [27, 29, 32, 33] [31] [] ∧ S'.1 27 = S.1 27 + e ∧ ((S.1 33 = 12 ∧ 0 ≤ S'.1 29) ∨ (S.1 33 ≠ 12 ∧ S'.1 29 = S.1 29))
theorem r_open (hd : 1 ≤ d) {P R : List Int} {w : Int → Int} {k e : Int} (hS : rdOk S P R w) (hk : (k = 4 ∧ e = 1) ∨ (k = 1 ∧ e = 3)) (h27 : S.1 27 + e ≤ S.1 2) (hw : S.1 29 < 0) (h33 : S.1 33 ≤ 12) : RM l G d M_Mo_open [.ref o, .int (zI k), .int (zI e)] o rf S (opQ S P R w k e) := by
  obtain ⟨d, rfl⟩ : ∃ q, d = q + 1 := ⟨d - 1, by omega⟩
  intro H0 c n hR
  refine XM.of (by decide +kernel) (Nat.le_of_ble_eq_true rfl) ?_
  have hX : xonly H0 H0 RKs := xonly.rf
  obtain ⟨y1, y2, y3⟩ := hS.pl
  have l31 := hR.len 31 (by decide)
  obtain ⟨s1, s2, s3, s4, ⟨s5, s6, s7⟩, ⟨s8, s9⟩, -⟩ := id hS
  obtain ⟨z1, z2⟩ := id s1
  refine x_aload_n d_Mo_open_0 rfl rfl ?_
  refine x_get xf_Mo_202_Mo (Or.inl hR.1) (v := .int (zI (S.1 33))) rfl d_Mo_open_1 ?_
  have hb1 : inR (S.1 33) := hR.2.2.2 33
  refine x_bipush (v := zI 12) d_Mo_open_4 (by decide) ?_
  refine z_icmp_ne (tgt := 17) d_Mo_open_6 (by decide) (by omega) (by omega) (fun hc6 => ?_) (fun hc6 => ?_)
  · refine x_aload_n d_Mo_open_17 rfl rfl ?_
    refine x_dup d_Mo_open_18 rfl ?_
    refine x_get xf_Mo_202_Mo (Or.inl hR.1) (v := .int (zI (S.1 33))) rfl d_Mo_open_19 ?_
    have hb19 : inR (S.1 33) := hR.2.2.2 33
    refine x_iconst (v := zI 1) d_Mo_open_22 (by decide) ?_
    refine z_iadd d_Mo_open_23 ?_
    refine r_put xf_Mo_202_Mo xp_Mo_33 hR hX (by omega) rfl rfl d_Mo_open_24 ?_
    intro h hR hX
    refine x_aload_n d_Mo_open_27 rfl rfl ?_
    refine x_iload_n d_Mo_open_28 rfl ?_
    refine x_callV (As := [_]) (k := k_MarkerTextModel) rfl xcv_Mo_222_Mo (Or.inl hR.1) (RM.ap hR (r_push (by omega) (by show 0 ≤ S.1 32 ∧ S.1 32 < 80; omega))) rfl rfl (Nat.le_of_ble_eq_true rfl) d_Mo_open_29 ?_
    rintro v29 h cq nq ⟨S29, hR, hX29, rfl, rfl, rfl, rfl⟩
    replace hX := hX.tr hX29
    refine x_aload_n d_Mo_open_32 rfl rfl ?_
    refine x_dup d_Mo_open_33 rfl ?_
    refine x_get xf_Mo_193_Mo (Or.inl hR.1) (v := .int (zI (S.1 27))) rfl d_Mo_open_34 ?_
    have hb34 : inR (S.1 27) := hR.2.2.2 27
    refine x_iload_n d_Mo_open_37 rfl ?_
    refine z_iadd d_Mo_open_38 ?_
    refine r_put xf_Mo_193_Mo xp_Mo_27 hR hX (by omega) rfl rfl d_Mo_open_39 ?_
    intro h hR hX
    refine x_vret d_Mo_open_42 rfl ?_
    first | exact ⟨_, hR, hX, rfl, rfl, rfl, rd_push (e := e) hS (by omega) l31 (js := [27, 29, 32, 33]) (is := [31]) (ls := []) (((((rSm.r0.sp (by decide)).sp (by decide)).sa (by decide)).sp (by decide)).sp (by decide)) (by decide) (by decide) rfl (by omega) rfl rfl (by rw [if_pos (by omega)]; rfl) (by show S.1 33 + 1 ≤ 13; omega), ((((rSm.r0.sp (by decide)).sp (by decide)).sa (by decide)).sp (by decide)).sp (by decide), rfl, Or.inl ⟨by omega, by show 0 ≤ a14; omega⟩⟩ | exact ⟨_, hR, hX, rfl, rfl, rfl, rd_push (e := e) hS (by omega) l31 (js := [27, 29, 32, 33]) (is := [31]) (ls := []) ((((rSm.r0.sp (by decide)).sa (by decide)).sp (by decide)).sp (by decide)) (by decide) (by decide) rfl (by omega) rfl rfl (by rw [if_pos (by omega)]; rfl) (by show S.1 33 + 1 ≤ 13; omega), (((rSm.r0.sp (by decide)).sa (by decide)).sp (by decide)).sp (by decide), rfl, Or.inr ⟨by omega, rfl⟩⟩
  · refine x_aload_n d_Mo_open_9 rfl rfl ?_
    refine x_aload_n d_Mo_open_10 rfl rfl ?_
    refine x_get xf_Mo_193_Mo (Or.inl hR.1) (v := .int (zI (S.1 27))) rfl d_Mo_open_11 ?_
    have hb11 : inR (S.1 27) := hR.2.2.2 27
    refine x_callV (As := [_]) (k := k_MarkerTextModel) rfl xcv_Mo_218_Mo (Or.inl hR.1) (RM.ap hR (r_fault (by omega))) rfl rfl (Nat.le_of_ble_eq_true rfl) d_Mo_open_14 ?_
    rintro v14 h cq nq ⟨S14, hR, hX14, rfl, rfl, a14, rfl, rfl, ha14⟩
    replace hX := hX.tr hX14
    refine x_aload_n d_Mo_open_17 rfl rfl ?_
    refine x_dup d_Mo_open_18 rfl ?_
    refine x_get xf_Mo_202_Mo (Or.inl hR.1) (v := .int (zI (S.1 33))) rfl d_Mo_open_19 ?_
    have hb19 : inR (S.1 33) := hR.2.2.2 33
    refine x_iconst (v := zI 1) d_Mo_open_22 (by decide) ?_
    refine z_iadd d_Mo_open_23 ?_
    refine r_put xf_Mo_202_Mo xp_Mo_33 hR hX (by omega) rfl rfl d_Mo_open_24 ?_
    intro h hR hX
    refine x_aload_n d_Mo_open_27 rfl rfl ?_
    refine x_iload_n d_Mo_open_28 rfl ?_
    refine x_callV (As := [_]) (k := k_MarkerTextModel) rfl xcv_Mo_222_Mo (Or.inl hR.1) (RM.ap hR (r_push (by omega) (by show 0 ≤ S.1 32 ∧ S.1 32 < 80; omega))) rfl rfl (Nat.le_of_ble_eq_true rfl) d_Mo_open_29 ?_
    rintro v29 h cq nq ⟨S29, hR, hX29, rfl, rfl, rfl, rfl⟩
    replace hX := hX.tr hX29
    refine x_aload_n d_Mo_open_32 rfl rfl ?_
    refine x_dup d_Mo_open_33 rfl ?_
    refine x_get xf_Mo_193_Mo (Or.inl hR.1) (v := .int (zI (S.1 27))) rfl d_Mo_open_34 ?_
    have hb34 : inR (S.1 27) := hR.2.2.2 27
    refine x_iload_n d_Mo_open_37 rfl ?_
    refine z_iadd d_Mo_open_38 ?_
    refine r_put xf_Mo_193_Mo xp_Mo_27 hR hX (by omega) rfl rfl d_Mo_open_39 ?_
    intro h hR hX
    refine x_vret d_Mo_open_42 rfl ?_
    first | exact ⟨_, hR, hX, rfl, rfl, rfl, rd_push (e := e) hS (by omega) l31 (js := [27, 29, 32, 33]) (is := [31]) (ls := []) (((((rSm.r0.sp (by decide)).sp (by decide)).sa (by decide)).sp (by decide)).sp (by decide)) (by decide) (by decide) rfl (by omega) rfl rfl (by rw [if_pos (by omega)]; rfl) (by show S.1 33 + 1 ≤ 13; omega), ((((rSm.r0.sp (by decide)).sp (by decide)).sa (by decide)).sp (by decide)).sp (by decide), rfl, Or.inl ⟨by omega, by show 0 ≤ a14; omega⟩⟩ | exact ⟨_, hR, hX, rfl, rfl, rfl, rd_push (e := e) hS (by omega) l31 (js := [27, 29, 32, 33]) (is := [31]) (ls := []) ((((rSm.r0.sp (by decide)).sa (by decide)).sp (by decide)).sp (by decide)) (by decide) (by decide) rfl (by omega) rfl rfl (by rw [if_pos (by omega)]; rfl) (by show S.1 33 + 1 ≤ 13; omega), (((rSm.r0.sp (by decide)).sa (by decide)).sp (by decide)).sp (by decide), rfl, Or.inr ⟨by omega, rfl⟩⟩
abbrev apJ : List Nat := [32, 33, 35]
abbrev apA : List Nat := [12, 13, 14, 15, 34]
/-- how complete() ends -/
abbrev cpQ (S : MS) (P R : List Int) : Option Value → MS → Prop := fun v S' => v = none ∧ ∃ P' R' w', rdOk S' P' R' w' ∧ R'.length = R.length ∧ cnt 2 P' = cnt 2 P ∧ cnt 3 P' = cnt 3 P ∧ S'.1 33 ≤ S.1 33 ∧ rSm S S' apJ apA [] ∧ agO S S' (S.1 28)
theorem r_complete (hd : 2 ≤ d) {P R : List Int} {w : Int → Int} (hS : rdOk S P R w) (hr : 1 ≤ R.length) : RM l G d M_Mo_complete [.ref o] o rf S (cpQ S P R) := by
  obtain ⟨d, rfl⟩ : ∃ q, d = q + 1 := ⟨d - 1, by omega⟩
  intro H0 c n hR
  refine XM.of (by decide +kernel) (Nat.le_of_ble_eq_true rfl) ?_
  have lp : ∀ (k : Nat) (P1 R1 : List Int) (w1 : Int → Int) (S1 : MS), P1.length ≤ k → rdOk S1 P1 R1 w1 → R1.length = R.length → cnt 2 P1 = cnt 2 P → cnt 3 P1 = cnt 3 P → S1.1 33 ≤ S.1 33 → rSm S S1 apJ apA [] → agO S S1 (S.1 28) → RX l G M_Mo_complete (d + 1) 0 [some (.ref o)] [] H0 o rf c n S1 (cpQ S P R) := by
    intro k
    induction k with
    | zero =>
      intro P1 R1 w1 S1 hk hS1 hr1 hc2 hc3 h33 hsm hag h hR hX
      obtain ⟨y1, y2, y3⟩ := hS1.pl
      obtain rfl : P1 = [] := List.length_eq_zero_iff.mp (by omega)
      refine x_aload_n d_Mo_complete_0 rfl rfl ?_
      refine x_iconst (v := zI 1) d_Mo_complete_1 (by decide) ?_
      refine x_callV (As := [_]) (k := k_MarkerTextModel) rfl xcv_Mo_212_Mo (Or.inl hR.1) (RM.ap hR (r_isOnTop (by decide) y1 y2 (by omega))) rfl rfl (Nat.le_of_ble_eq_true rfl) d_Mo_complete_2 ?_
      rintro v2 h cq nq ⟨S2, hR, hX2, rfl, rfl, hE2, r2, rfl, hr2⟩
      replace hE2 := Eq.symm hE2
      subst hE2
      replace hX := hX.tr hX2
      have hr2 : r2 = 0 := hr2.elim (fun ⟨_, _, z⟩ => by cases z) (fun q => q.1)
      refine z_if_eq (tgt := 15) d_Mo_complete_5 (by decide) (by omega) (fun _ => ?_) (fun hq => by omega)
      refine x_vret d_Mo_complete_15 rfl ?_
      exact ⟨_, hR, hX, rfl, rfl, rfl, _, _, _, hS1, hr1, hc2, hc3, h33, hsm, hag⟩
    | succ k ih =>
      intro P1 R1 w1 S1 hk hS1 hr1 hc2 hc3 h33 hsm hag h hR hX
      obtain ⟨y1, y2, y3⟩ := hS1.pl
      have h28 : S1.1 28 = S.1 28 := hsm.1 28 (by decide)
      by_cases htop : ∃ P', P1 = 1 :: P'
      · obtain ⟨P', rfl⟩ := htop
        obtain ⟨b, R', rfl⟩ : ∃ b R', R1 = b :: R' := by
          cases R1 with
          | nil => simp at hr1; omega
          | cons b R' => exact ⟨b, R', rfl⟩
        simp only [cnt] at hc2 hc3
        refine x_aload_n d_Mo_complete_0 rfl rfl ?_
        refine x_iconst (v := zI 1) d_Mo_complete_1 (by decide) ?_
        refine x_callV (As := [_]) (k := k_MarkerTextModel) rfl xcv_Mo_212_Mo (Or.inl hR.1) (RM.ap hR (r_isOnTop (by decide) y1 y2 (by omega))) rfl rfl (Nat.le_of_ble_eq_true rfl) d_Mo_complete_2 ?_
        rintro v2 h cq nq ⟨S2, hR, hX2, rfl, rfl, hE2, r2, rfl, hr2⟩
        replace hE2 := Eq.symm hE2
        subst hE2
        replace hX := hX.tr hX2
        have hr2 : r2 = 1 := hr2.elim (fun q => q.1) (fun q => absurd ⟨P', rfl⟩ q.2)
        refine z_if_eq (tgt := 15) d_Mo_complete_5 (by decide) (by omega) (fun hq => by omega) (fun _ => ?_)
        refine x_aload_n d_Mo_complete_8 rfl rfl ?_
        refine x_callV (As := []) (k := k_MarkerTextModel) rfl xcv_Mo_215_Mo (Or.inl hR.1) (RM.ap hR (r_apply (a := -1) (by omega) hS1 (Or.inl ⟨rfl, rfl, rfl⟩))) rfl rfl (Nat.le_of_ble_eq_true rfl) d_Mo_complete_9 ?_
        rintro v9 h cq nq ⟨S9, hR, hX9, rfl, rfl, rfl, ⟨w9, hS9⟩, hsm9, hag9⟩
        replace hX := hX.tr hX9
        refine x_goto (tgt := 0) d_Mo_complete_12 (by decide) ?_
        rw [h28] at hag9
        exact ih P' _ w9 _ (by simp at hk; omega) hS9 (by simpa using hr1) (by simpa using hc2) (by simpa using hc3) (by have := hS9.2.2.2.2.2.1.1; have := hS1.2.2.2.2.2.1.1; simp only [cnt] at *; have := cnt_nn 1 P'; simp at *; omega) (hsm.tr hsm9) (hag.tr hag9) _ hR hX
      · refine x_aload_n d_Mo_complete_0 rfl rfl ?_
        refine x_iconst (v := zI 1) d_Mo_complete_1 (by decide) ?_
        refine x_callV (As := [_]) (k := k_MarkerTextModel) rfl xcv_Mo_212_Mo (Or.inl hR.1) (RM.ap hR (r_isOnTop (by decide) y1 y2 (by omega))) rfl rfl (Nat.le_of_ble_eq_true rfl) d_Mo_complete_2 ?_
        rintro v2 h cq nq ⟨S2, hR, hX2, rfl, rfl, hE2, r2, rfl, hr2⟩
        replace hE2 := Eq.symm hE2
        subst hE2
        replace hX := hX.tr hX2
        have hr2 : r2 = 0 := hr2.elim (fun q => absurd q.2 htop) (fun q => q.1)
        refine z_if_eq (tgt := 15) d_Mo_complete_5 (by decide) (by omega) (fun _ => ?_) (fun hq => by omega)
        refine x_vret d_Mo_complete_15 rfl ?_
        exact ⟨_, hR, hX, rfl, rfl, rfl, _, _, _, hS1, hr1, hc2, hc3, h33, hsm, hag⟩
  exact lp P.length P R w S (Nat.le_refl _) hS rfl rfl rfl (Int.le_refl _) rSm.r0 agO.r0 _ hR xonly.rf
/-- how readValue() ends -/
abbrev rvQ (S : MS) : Option Value → MS → Prop := fun v S' => v = none ∧ rSm S S' [27, 29] [23, 24, 26] [22] ∧ S.1 27 ≤ S'.1 27 ∧ S'.1 27 ≤ S.1 2 ∧ ((0 ≤ S'.1 29 ∧ S'.2.1 24 = S.2.1 24 ∧ S'.2.1 26 = S.2.1 26) ∨ (S'.1 29 < 0 ∧ ∃ ws : Int, 1 ≤ ws ∧ ws ≤ 11 ∧ S.1 27 + ws + 2 ≤ S'.1 27 ∧ S'.2.1 24 = se (S.2.1 24) (64 * S.1 28 + gd (S.2.1 26) (S.1 28)) ws ∧ S'.2.1 26 = se (S.2.1 26) (S.1 28) (gd (S.2.1 26) (S.1 28) + 1)))
theorem r_readValue {nm : Int} (hd : 3 ≤ d) (hn : 0 ≤ nm ∧ nm < 6) (hz : szOk S) (h27 : 0 ≤ S.1 27 ∧ S.1 27 ≤ S.1 2) (hw : S.1 29 < 0) (hs : 0 ≤ S.1 28 ∧ S.1 28 ≤ 8) (hV : 0 ≤ gd (S.2.1 26) (S.1 28) ∧ gd (S.2.1 26) (S.1 28) ≤ 40) : RM l G d M_Mo_readValue [.ref o, .int (zI nm)] o rf S (rvQ S) := by
  obtain ⟨d, rfl⟩ : ∃ q, d = q + 1 := ⟨d - 1, by omega⟩
  intro H0 c n hR
  obtain ⟨z1, z2⟩ := id hz
  refine XM.of (by decide +kernel) (Nat.le_of_ble_eq_true rfl) ?_
  have hX : xonly H0 H0 RKs := xonly.rf
  have l2 : ∀ (a t vi : Int) (x : Int64) (ks : List Int64), S.1 27 ≤ a → 0 ≤ a → t < S.1 2 → 1 ≤ t - (a + 1) → t - (a + 1) ≤ 11 → vi = 64 * S.1 28 + gd (S.2.1 26) (S.1 28) → ∀ (k : Nat) (us : List Int) (i : Int), 0 ≤ i → i ≤ t - (a + 1) → t - (a + 1) - i ≤ k → RX l G M_Mo_readValue (d + 1) 140 [some (.ref o), some (.int (zI nm)), some (.int (zI (a + 1))), some (.int (zI t)), some (.int (zI vi)), some (.int (zI i))] [] H0 o rf c n (sa (sa (sl (sk (sp S 27 a) x) 22 ks) 24 (se (S.2.1 24) vi (t - (a + 1)))) 23 us) (rvQ S) := by
    intro a t vi x ks ha1 ha0 ht h1 h11 hvi k
    induction k with
    | zero =>
      intro us i hi0 hi1 hk h hR hX
      refine x_iload d_Mo_readValue_140 rfl ?_
      refine x_iload_n d_Mo_readValue_142 rfl ?_
      refine x_iload_n d_Mo_readValue_143 rfl ?_
      refine z_isub d_Mo_readValue_144 ?_
      refine z_icmp_ge (tgt := 176) d_Mo_readValue_145 (by decide) (by omega) (by omega) (fun _ => ?_) (fun hq => by omega)
      refine x_aload_n d_Mo_readValue_176 rfl rfl ?_
      refine x_get xf_Mo_78_Mo (Or.inl hR.1) (v := .ref (rf 26)) rfl d_Mo_readValue_177 ?_
      refine x_aload_n d_Mo_readValue_180 rfl rfl ?_
      refine x_get xf_Mo_196_Mo (Or.inl hR.1) (v := .int (zI (S.1 28))) rfl d_Mo_readValue_181 ?_
      have hb181 : inR (S.1 28) := hR.2.2.2 28
      refine x_dup2_11 d_Mo_readValue_184 rfl rfl ?_
      refine r_iald (i := 26) (us := (S.2.1 26)) rfl (by decide) hR rfl (by omega) (by show S.1 28 < 9; omega) d_Mo_readValue_185 (fun hr185 => ?_)
      refine x_iconst (v := zI 1) d_Mo_readValue_186 (by decide) ?_
      refine z_iadd d_Mo_readValue_187 ?_
      refine r_iast (i := 26) (us := (S.2.1 26)) ⟨rfl, rfl⟩ (by decide) hR hX rfl (by omega) (by show S.1 28 < 9; omega) (by omega) d_Mo_readValue_188 ?_
      intro h hR hX
      refine x_aload_n d_Mo_readValue_189 rfl rfl ?_
      refine x_iload_n d_Mo_readValue_190 rfl ?_
      refine x_iconst (v := zI 1) d_Mo_readValue_191 (by decide) ?_
      refine z_iadd d_Mo_readValue_192 ?_
      refine r_put xf_Mo_193_Mo xp_Mo_27 hR hX (by omega) rfl rfl d_Mo_readValue_193 ?_
      intro h hR hX
      refine x_vret d_Mo_readValue_196 rfl ?_
      exact ⟨_, hR, hX, rfl, rfl, rfl, (((((rSm.r0.sp (j := 27) (by decide)).sl (i := 22) (by decide)).sa (i := 24) (by decide)).sa (i := 23) (by decide)).sa (i := 26) (by decide)).sp (j := 27) (by decide), by show S.1 27 ≤ t + 1; omega, by show t + 1 ≤ S.1 2; omega, Or.inr ⟨hw, _, h1, h11, by show S.1 27 + _ + 2 ≤ t + 1; omega, by rw [← hvi]; rfl, rfl⟩⟩
    | succ k ih =>
      intro us i hi0 hi1 hk h hR hX
      refine x_iload d_Mo_readValue_140 rfl ?_
      refine x_iload_n d_Mo_readValue_142 rfl ?_
      refine x_iload_n d_Mo_readValue_143 rfl ?_
      refine z_isub d_Mo_readValue_144 ?_
      refine z_icmp_ge (tgt := 176) d_Mo_readValue_145 (by decide) (by omega) (by omega) (fun hc145 => ?_) (fun hc145 => ?_)
      · refine x_aload_n d_Mo_readValue_176 rfl rfl ?_
        refine x_get xf_Mo_78_Mo (Or.inl hR.1) (v := .ref (rf 26)) rfl d_Mo_readValue_177 ?_
        refine x_aload_n d_Mo_readValue_180 rfl rfl ?_
        refine x_get xf_Mo_196_Mo (Or.inl hR.1) (v := .int (zI (S.1 28))) rfl d_Mo_readValue_181 ?_
        have hb181 : inR (S.1 28) := hR.2.2.2 28
        refine x_dup2_11 d_Mo_readValue_184 rfl rfl ?_
        refine r_iald (i := 26) (us := (S.2.1 26)) rfl (by decide) hR rfl (by omega) (by show S.1 28 < 9; omega) d_Mo_readValue_185 (fun hr185 => ?_)
        refine x_iconst (v := zI 1) d_Mo_readValue_186 (by decide) ?_
        refine z_iadd d_Mo_readValue_187 ?_
        refine r_iast (i := 26) (us := (S.2.1 26)) ⟨rfl, rfl⟩ (by decide) hR hX rfl (by omega) (by show S.1 28 < 9; omega) (by omega) d_Mo_readValue_188 ?_
        intro h hR hX
        refine x_aload_n d_Mo_readValue_189 rfl rfl ?_
        refine x_iload_n d_Mo_readValue_190 rfl ?_
        refine x_iconst (v := zI 1) d_Mo_readValue_191 (by decide) ?_
        refine z_iadd d_Mo_readValue_192 ?_
        refine r_put xf_Mo_193_Mo xp_Mo_27 hR hX (by omega) rfl rfl d_Mo_readValue_193 ?_
        intro h hR hX
        refine x_vret d_Mo_readValue_196 rfl ?_
        exact ⟨_, hR, hX, rfl, rfl, rfl, (((((rSm.r0.sp (j := 27) (by decide)).sl (i := 22) (by decide)).sa (i := 24) (by decide)).sa (i := 23) (by decide)).sa (i := 26) (by decide)).sp (j := 27) (by decide), by show S.1 27 ≤ t + 1; omega, by show t + 1 ≤ S.1 2; omega, Or.inr ⟨hw, _, h1, h11, by show S.1 27 + _ + 2 ≤ t + 1; omega, by rw [← hvi]; rfl, rfl⟩⟩
      · refine x_aload_n d_Mo_readValue_148 rfl rfl ?_
        refine x_get xf_Mo_69_Mo (Or.inl hR.1) (v := .ref (rf 23)) rfl d_Mo_readValue_149 ?_
        refine x_bipush (v := zI 11) d_Mo_readValue_152 (by decide) ?_
        refine x_iload d_Mo_readValue_154 rfl ?_
        refine z_imul d_Mo_readValue_156 ?_
        refine x_iload d_Mo_readValue_157 rfl ?_
        refine z_iadd d_Mo_readValue_159 ?_
        refine x_aload_n d_Mo_readValue_160 rfl rfl ?_
        refine x_get xf_Mo_7_Mo (Or.inl hR.1) (v := .ref (rf 1)) rfl d_Mo_readValue_161 ?_
        refine x_iload_n d_Mo_readValue_164 rfl ?_
        refine x_iload d_Mo_readValue_165 rfl ?_
        refine z_iadd d_Mo_readValue_167 ?_
        refine r_iald (i := 1) (us := (S.2.1 1)) rfl (by decide) hR rfl (by omega) (by show a + 1 + i < 160; omega) d_Mo_readValue_168 (fun hr168 => ?_)
        refine r_iast (i := 23) (us := us) ⟨rfl, rfl⟩ (by decide) hR hX rfl (by omega) (by show 11 * vi + i < 6336; omega) (by omega) d_Mo_readValue_169 ?_
        intro h hR hX
        refine x_iinc (v := zI (i + 1)) (L' := [_, _, _, _, _, _]) d_Mo_readValue_170 rfl (zI_add _ _) rfl rfl ?_
        refine x_goto (tgt := 140) d_Mo_readValue_173 (by decide) ?_
        exact ih _ (i + 1) (by omega) (by omega) (by omega) _ (by rw [sa_sa] at hR; exact hR) hX
  have j56 : ∀ (a t : Int), S.1 27 ≤ a → 0 ≤ a → a + 1 ≤ t → t ≤ S.1 2 → RX l G M_Mo_readValue (d + 1) 56 [some (.ref o), some (.int (zI nm)), some (.int (zI (a + 1))), some (.int (zI t)), none, none] [] H0 o rf c n (sp S 27 a) (rvQ S) := by
    intro a t ha1 ha0 hat ht h hR hX
    refine x_iload_n d_Mo_readValue_56 rfl ?_
    refine x_aload_n d_Mo_readValue_57 rfl rfl ?_
    refine x_get xf_Mo_124_Mo (Or.inl hR.1) (v := .int (zI (S.1 2))) rfl d_Mo_readValue_58 ?_
    have hb58 : inR (S.1 2) := hR.2.2.2 2
    refine z_icmp_ne (tgt := 73) d_Mo_readValue_61 (by decide) (by omega) (by omega) (fun hc61 => ?_) (fun hc61 => ?_)
    · refine x_aload_n d_Mo_readValue_73 rfl rfl ?_
      refine x_iload_n d_Mo_readValue_74 rfl ?_
      refine x_iload_n d_Mo_readValue_75 rfl ?_
      refine x_aload_n d_Mo_readValue_76 rfl rfl ?_
      refine x_get xf_Mo_19_Mo (Or.inl hR.1) (v := .ref (rf 6)) rfl d_Mo_readValue_77 ?_
      refine x_iload_n d_Mo_readValue_80 rfl ?_
      refine r_iald (i := 6) (us := (S.2.1 6)) rfl (by decide) hR rfl (by omega) (by show nm < 6; omega) d_Mo_readValue_81 (fun hr81 => ?_)
      refine x_callV (As := [_, _, _]) (k := k_MarkerTextModel) rfl xcv_Mo_187_Mo (Or.inl hR.1) (RM.ap hR (r_isValue (by omega) hr81 (by omega) (by omega) (by omega))) rfl rfl (Nat.le_of_ble_eq_true rfl) d_Mo_readValue_82 ?_
      rintro v82 h cq nq ⟨S82, hR, hX82, rfl, rfl, x82, r82, rfl, rfl, hr82⟩
      replace hX := hX.tr hX82
      refine z_if_ne (tgt := 97) d_Mo_readValue_85 (by decide) (by omega) (fun hc85 => ?_) (fun hc85 => ?_)
      · refine x_bipush (v := zI 64) d_Mo_readValue_97 (by decide) ?_
        refine x_aload_n d_Mo_readValue_99 rfl rfl ?_
        refine x_get xf_Mo_196_Mo (Or.inl hR.1) (v := .int (zI (S.1 28))) rfl d_Mo_readValue_100 ?_
        have hb100 : inR (S.1 28) := hR.2.2.2 28
        refine z_imul d_Mo_readValue_103 ?_
        refine x_aload_n d_Mo_readValue_104 rfl rfl ?_
        refine x_get xf_Mo_78_Mo (Or.inl hR.1) (v := .ref (rf 26)) rfl d_Mo_readValue_105 ?_
        refine x_aload_n d_Mo_readValue_108 rfl rfl ?_
        refine x_get xf_Mo_196_Mo (Or.inl hR.1) (v := .int (zI (S.1 28))) rfl d_Mo_readValue_109 ?_
        have hb109 : inR (S.1 28) := hR.2.2.2 28
        refine r_iald (i := 26) (us := (S.2.1 26)) rfl (by decide) hR rfl (by omega) (by show S.1 28 < 9; omega) d_Mo_readValue_112 (fun hr112 => ?_)
        refine z_iadd d_Mo_readValue_113 ?_
        refine x_istore (L' := [_, _, _, _, _, _]) d_Mo_readValue_114 rfl rfl ?_
        refine x_aload_n d_Mo_readValue_116 rfl rfl ?_
        refine x_get xf_Mo_66_Mo (Or.inl hR.1) (v := .ref (rf 22)) rfl d_Mo_readValue_117 ?_
        refine x_iload d_Mo_readValue_120 rfl ?_
        refine x_aload_n d_Mo_readValue_122 rfl rfl ?_
        refine x_get xf_Mo_173_Mo (Or.inl hR.1) (v := .long x82) rfl d_Mo_readValue_123 ?_
        refine r_last (i := 22) (us := (S.2.2.1 22)) rfl (by decide) hR hX rfl (by omega) (by show 64 * S.1 28 + gd (S.2.1 26) (S.1 28) < 576; omega) d_Mo_readValue_126 ?_
        intro h hR hX
        refine x_aload_n d_Mo_readValue_127 rfl rfl ?_
        refine x_get xf_Mo_72_Mo (Or.inl hR.1) (v := .ref (rf 24)) rfl d_Mo_readValue_128 ?_
        refine x_iload d_Mo_readValue_131 rfl ?_
        refine x_iload_n d_Mo_readValue_133 rfl ?_
        refine x_iload_n d_Mo_readValue_134 rfl ?_
        refine z_isub d_Mo_readValue_135 ?_
        refine r_iast (i := 24) (us := (S.2.1 24)) ⟨rfl, rfl⟩ (by decide) hR hX rfl (by omega) (by show 64 * S.1 28 + gd (S.2.1 26) (S.1 28) < 576; omega) (by omega) d_Mo_readValue_136 ?_
        intro h hR hX
        refine x_iconst (v := zI 0) d_Mo_readValue_137 (by decide) ?_
        refine x_istore (L' := [_, _, _, _, _, _]) d_Mo_readValue_138 rfl rfl ?_
        exact l2 a t _ _ _ ha1 ha0 (by omega) (by omega) (by omega) rfl 11 _ 0 (by omega) (by omega) (by omega) _ (by rw [sa_id (i := 23)]; exact hR) hX
      · refine x_aload_n d_Mo_readValue_88 rfl rfl ?_
        refine x_aload_n d_Mo_readValue_89 rfl rfl ?_
        refine x_get xf_Mo_193_Mo (Or.inl hR.1) (v := .int (zI a)) rfl d_Mo_readValue_90 ?_
        have hb90 : inR a := hR.2.2.2 27
        refine x_callV (As := [_]) (k := k_MarkerTextModel) rfl xcv_Mo_218_Mo (Or.inl hR.1) (RM.ap hR (r_fault (by omega))) rfl rfl (Nat.le_of_ble_eq_true rfl) d_Mo_readValue_93 ?_
        rintro v93 h cq nq ⟨S93, hR, hX93, rfl, rfl, a93, rfl, rfl, ha93⟩
        replace hX := hX.tr hX93
        replace ha93 : (S.1 29 < 0 ∧ a93 = a) ∨ (0 ≤ S.1 29 ∧ a93 = S.1 29) := ha93
        refine x_vret d_Mo_readValue_96 rfl ?_
        exact ⟨_, hR, hX, rfl, rfl, rfl, (rSm.r0.sp (j := 27) (by decide)).sp (j := 29) (by decide), by show S.1 27 ≤ a; omega, by show a ≤ S.1 2; omega, Or.inl ⟨by show 0 ≤ a93; omega, rfl, rfl⟩⟩
    · refine x_aload_n d_Mo_readValue_64 rfl rfl ?_
      refine x_aload_n d_Mo_readValue_65 rfl rfl ?_
      refine x_get xf_Mo_124_Mo (Or.inl hR.1) (v := .int (zI (S.1 2))) rfl d_Mo_readValue_66 ?_
      have hb66 : inR (S.1 2) := hR.2.2.2 2
      skip
      refine x_callV (As := [_]) (k := k_MarkerTextModel) rfl xcv_Mo_218_Mo (Or.inl hR.1) (RM.ap hR (r_fault (by omega))) rfl rfl (Nat.le_of_ble_eq_true rfl) d_Mo_readValue_69 ?_
      rintro v69 h cq nq ⟨S69, hR, hX69, rfl, rfl, a69, rfl, rfl, ha69⟩
      replace hX := hX.tr hX69
      replace ha69 : (S.1 29 < 0 ∧ a69 = S.1 2) ∨ (0 ≤ S.1 29 ∧ a69 = S.1 29) := ha69
      refine x_vret d_Mo_readValue_72 rfl ?_
      exact ⟨_, hR, hX, rfl, rfl, rfl, (rSm.r0.sp (j := 27) (by decide)).sp (j := 29) (by decide), by show S.1 27 ≤ a; omega, by show a ≤ S.1 2; omega, Or.inl ⟨by show 0 ≤ a69; omega, rfl, rfl⟩⟩
  have l1 : ∀ (a : Int), S.1 27 ≤ a → 0 ≤ a → ∀ (k : Nat) (t : Int), a + 1 ≤ t → t ≤ S.1 2 → S.1 2 - t ≤ k → RX l G M_Mo_readValue (d + 1) 31 [some (.ref o), some (.int (zI nm)), some (.int (zI (a + 1))), some (.int (zI t)), none, none] [] H0 o rf c n (sp S 27 a) (rvQ S) := by
    intro a ha1 ha0 k
    induction k with
    | zero =>
      intro t ht1 ht2 hk h hR hX
      refine x_iload_n d_Mo_readValue_31 rfl ?_
      refine x_aload_n d_Mo_readValue_32 rfl rfl ?_
      refine x_get xf_Mo_124_Mo (Or.inl hR.1) (v := .int (zI (S.1 2))) rfl d_Mo_readValue_33 ?_
      have hb33 : inR (S.1 2) := hR.2.2.2 2
      refine z_icmp_ge (tgt := 56) d_Mo_readValue_36 (by decide) (by omega) (by omega) (fun _ => ?_) (fun hq => by omega)
      exact j56 a t ha1 ha0 ht1 ht2 _ hR hX
    | succ k ih =>
      intro t ht1 ht2 hk h hR hX
      refine x_iload_n d_Mo_readValue_31 rfl ?_
      refine x_aload_n d_Mo_readValue_32 rfl rfl ?_
      refine x_get xf_Mo_124_Mo (Or.inl hR.1) (v := .int (zI (S.1 2))) rfl d_Mo_readValue_33 ?_
      have hb33 : inR (S.1 2) := hR.2.2.2 2
      refine z_icmp_ge (tgt := 56) d_Mo_readValue_36 (by decide) (by omega) (by omega) (fun hc36 => ?_) (fun hc36 => ?_)
      · exact j56 a t ha1 ha0 ht1 ht2 _ hR hX
      · refine x_aload_n d_Mo_readValue_39 rfl rfl ?_
        refine x_get xf_Mo_7_Mo (Or.inl hR.1) (v := .ref (rf 1)) rfl d_Mo_readValue_40 ?_
        refine x_iload_n d_Mo_readValue_43 rfl ?_
        refine r_iald (i := 1) (us := (S.2.1 1)) rfl (by decide) hR rfl (by omega) (by show t < 160; omega) d_Mo_readValue_44 (fun hr44 => ?_)
        refine x_bipush (v := zI 39) d_Mo_readValue_45 (by decide) ?_
        refine z_icmp_eq (tgt := 56) d_Mo_readValue_47 (by decide) (by omega) (by omega) (fun hc47 => ?_) (fun hc47 => ?_)
        · exact j56 a t ha1 ha0 ht1 ht2 _ hR hX
        · refine x_iinc (v := zI (t + 1)) (L' := [_, _, _, _, _, _]) d_Mo_readValue_50 rfl (zI_add _ _) rfl rfl ?_
          refine x_goto (tgt := 31) d_Mo_readValue_53 (by decide) ?_
          exact ih _ (by omega) (by omega) (by omega) _ hR hX
  refine x_aload_n d_Mo_readValue_0 rfl rfl ?_
  refine x_callV (As := []) (k := k_MarkerTextModel) rfl xcv_Mo_225_Mo (Or.inl hR.1) (RM.ap hR (r_skip h27.1 hz)) rfl rfl (Nat.le_of_ble_eq_true rfl) d_Mo_readValue_1 ?_
  rintro v1 h cq nq ⟨S1, hR, hX1, rfl, rfl, a1, rfl, rfl, ha1, hb1, hc1⟩
  replace hX := hX.tr hX1
  refine x_aload_n d_Mo_readValue_4 rfl rfl ?_
  refine x_callV (As := []) (k := k_MarkerTextModel) rfl xcv_Mo_228_Mo (Or.inl hR.1) (RM.ap hR (r_now (by show 0 ≤ a1; omega) hz)) rfl rfl (Nat.le_of_ble_eq_true rfl) d_Mo_readValue_5 ?_
  rintro v5 h cq nq ⟨S5, hR, hX5, rfl, rfl, hE5, r5, rfl, hi5, hr5⟩
  replace hE5 := Eq.symm hE5
  subst hE5
  replace hX := hX.tr hX5
  refine x_bipush (v := zI 39) d_Mo_readValue_8 (by decide) ?_
  replace hr5 : (a1 < S.1 2 ∧ r5 = gd (S.2.1 1) a1) ∨ (S.1 2 ≤ a1 ∧ r5 = -1) := hr5
  refine z_icmp_eq (tgt := 22) d_Mo_readValue_10 (by decide) (by omega) (by omega) (fun hc10 => ?_) (fun hc10 => ?_)
  · refine x_aload_n d_Mo_readValue_22 rfl rfl ?_
    refine x_get xf_Mo_193_Mo (Or.inl hR.1) (v := .int (zI a1)) rfl d_Mo_readValue_23 ?_
    have hb23 : inR a1 := hR.2.2.2 27
    refine x_iconst (v := zI 1) d_Mo_readValue_26 (by decide) ?_
    refine z_iadd d_Mo_readValue_27 ?_
    refine x_istore_n (L' := [_, _, _, _, _, _]) d_Mo_readValue_28 rfl rfl ?_
    refine x_iload_n d_Mo_readValue_29 rfl ?_
    refine x_istore_n (L' := [_, _, _, _, _, _]) d_Mo_readValue_30 rfl rfl ?_
    exact l1 a1 (by omega) (by omega) 160 _ (by omega) (by omega) (by omega) _ hR hX
  · refine x_aload_n d_Mo_readValue_13 rfl rfl ?_
    refine x_aload_n d_Mo_readValue_14 rfl rfl ?_
    refine x_get xf_Mo_193_Mo (Or.inl hR.1) (v := .int (zI a1)) rfl d_Mo_readValue_15 ?_
    have hb15 : inR a1 := hR.2.2.2 27
    refine x_callV (As := [_]) (k := k_MarkerTextModel) rfl xcv_Mo_218_Mo (Or.inl hR.1) (RM.ap hR (r_fault (by omega))) rfl rfl (Nat.le_of_ble_eq_true rfl) d_Mo_readValue_18 ?_
    rintro v18 h cq nq ⟨S18, hR, hX18, rfl, rfl, a18, rfl, rfl, ha18⟩
    replace hX := hX.tr hX18
    replace ha18 : (S.1 29 < 0 ∧ a18 = a1) ∨ (0 ≤ S.1 29 ∧ a18 = S.1 29) := ha18
    refine x_vret d_Mo_readValue_21 rfl ?_
    exact ⟨_, hR, hX, rfl, rfl, rfl, (rSm.r0.sp (j := 27) (by decide)).sp (j := 29) (by decide), by show S.1 27 ≤ a1; omega, by show a1 ≤ S.1 2; omega, Or.inl ⟨by show 0 ≤ a18; omega, rfl, rfl⟩⟩
/-- how expect() ends -/
theorem r_expect {k : Int} (hd : 1 ≤ d) (hk : inR k) (hk0 : 0 ≤ k) (hz : szOk S) (h27 : 0 ≤ S.1 27 ∧ S.1 27 ≤ S.1 2) (hw : S.1 29 < 0) : RM l G d M_Mo_expect [.ref o, .int (zI k)] o rf S (fun v S' => v = none ∧ rSm S S' [27, 29] [] [] ∧ S'.1 27 ≤ S.1 2 ∧ ((S'.1 29 < 0 ∧ S.1 27 + 1 ≤ S'.1 27) ∨ (0 ≤ S'.1 29 ∧ S.1 27 ≤ S'.1 27))) := by
  obtain ⟨d, rfl⟩ : ∃ q, d = q + 1 := ⟨d - 1, by omega⟩
  intro H0 c n hR
  obtain ⟨z1, z2⟩ := id hz
  refine XM.of (by decide +kernel) (Nat.le_of_ble_eq_true rfl) ?_
  have hX : xonly H0 H0 RKs := xonly.rf
  refine x_aload_n d_Mo_expect_0 rfl rfl ?_
  refine x_callV (As := []) (k := k_MarkerTextModel) rfl xcv_Mo_225_Mo (Or.inl hR.1) (RM.ap hR (r_skip h27.1 hz)) rfl rfl (Nat.le_of_ble_eq_true rfl) d_Mo_expect_1 ?_
  rintro v1 h cq nq ⟨S1, hR, hX1, rfl, rfl, a1, rfl, rfl, ha1, hb1, hc1⟩
  replace hX := hX.tr hX1
  refine x_aload_n d_Mo_expect_4 rfl rfl ?_
  refine x_callV (As := []) (k := k_MarkerTextModel) rfl xcv_Mo_228_Mo (Or.inl hR.1) (RM.ap hR (r_now (by show 0 ≤ a1; omega) hz)) rfl rfl (Nat.le_of_ble_eq_true rfl) d_Mo_expect_5 ?_
  rintro v5 h cq nq ⟨S5, hR, hX5, rfl, rfl, hE5, r5, rfl, hi5, hr5⟩
  replace hE5 := Eq.symm hE5
  subst hE5
  replace hX := hX.tr hX5
  refine x_iload_n d_Mo_expect_8 rfl ?_
  replace hr5 : (a1 < S.1 2 ∧ r5 = gd (S.2.1 1) a1) ∨ (S.1 2 ≤ a1 ∧ r5 = -1) := hr5
  refine z_icmp_ne (tgt := 25) d_Mo_expect_9 (by decide) (by omega) (by omega) (fun hc9 => ?_) (fun hc9 => ?_)
  · refine x_aload_n d_Mo_expect_25 rfl rfl ?_
    refine x_aload_n d_Mo_expect_26 rfl rfl ?_
    refine x_get xf_Mo_193_Mo (Or.inl hR.1) (v := .int (zI a1)) rfl d_Mo_expect_27 ?_
    have hb27 : inR a1 := hR.2.2.2 27
    refine x_callV (As := [_]) (k := k_MarkerTextModel) rfl xcv_Mo_218_Mo (Or.inl hR.1) (RM.ap hR (r_fault (by omega))) rfl rfl (Nat.le_of_ble_eq_true rfl) d_Mo_expect_30 ?_
    rintro v30 h cq nq ⟨S30, hR, hX30, rfl, rfl, a30, rfl, rfl, ha30⟩
    replace hX := hX.tr hX30
    refine x_vret d_Mo_expect_33 rfl ?_
    first | exact ⟨_, hR, hX, rfl, rfl, rfl, (rSm.r0.sp (j := 27) (by decide)).sp (j := 29) (by decide), by show a1 ≤ S.1 2; omega, Or.inr ⟨by show 0 ≤ a30; replace ha30 : (S.1 29 < 0 ∧ a30 = a1) ∨ (0 ≤ S.1 29 ∧ a30 = S.1 29) := ha30; omega, by show S.1 27 ≤ a1; omega⟩⟩ | exact ⟨_, hR, hX, rfl, rfl, rfl, (rSm.r0.sp (j := 27) (by decide)).sp (j := 27) (by decide), by show a1 + 1 ≤ S.1 2; omega, Or.inl ⟨hw, by show S.1 27 + 1 ≤ a1 + 1; omega⟩⟩
  · refine x_aload_n d_Mo_expect_12 rfl rfl ?_
    refine x_dup d_Mo_expect_13 rfl ?_
    refine x_get xf_Mo_193_Mo (Or.inl hR.1) (v := .int (zI a1)) rfl d_Mo_expect_14 ?_
    have hb14 : inR a1 := hR.2.2.2 27
    refine x_iconst (v := zI 1) d_Mo_expect_17 (by decide) ?_
    refine z_iadd d_Mo_expect_18 ?_
    refine r_put xf_Mo_193_Mo xp_Mo_27 hR hX (by omega) rfl rfl d_Mo_expect_19 ?_
    intro h hR hX
    refine x_goto (tgt := 33) d_Mo_expect_22 (by decide) ?_
    refine x_vret d_Mo_expect_33 rfl ?_
    first | exact ⟨_, hR, hX, rfl, rfl, rfl, (rSm.r0.sp (j := 27) (by decide)).sp (j := 29) (by decide), by show a1 ≤ S.1 2; omega, Or.inr ⟨by show 0 ≤ a30; replace ha30 : (S.1 29 < 0 ∧ a30 = a1) ∨ (0 ≤ S.1 29 ∧ a30 = S.1 29) := ha30; omega, by show S.1 27 ≤ a1; omega⟩⟩ | exact ⟨_, hR, hX, rfl, rfl, rfl, (rSm.r0.sp (j := 27) (by decide)).sp (j := 27) (by decide), by show a1 + 1 ≤ S.1 2; omega, Or.inl ⟨hw, by show S.1 27 + 1 ≤ a1 + 1; omega⟩⟩
/-- how operator() ends -/
abbrev oqQ (S : MS) : Option Value → MS → Prop := fun v S' => (∃ r : Int, v = some (.int (zI r)) ∧ 0 ≤ r ∧ r ≤ 5) ∧ rSm S S' [27, 29] [] [] ∧ S.1 27 + 1 ≤ S'.1 27 ∧ ((S'.1 29 < 0 ∧ S'.1 27 ≤ S.1 2) ∨ (0 ≤ S'.1 29 ∧ S'.1 27 ≤ S.1 2 + 1))
theorem r_operator (hd : 1 ≤ d) (hz : szOk S) (h27 : 0 ≤ S.1 27 ∧ S.1 27 ≤ S.1 2) (hw : S.1 29 < 0) : RM l G d M_Mo_operator [.ref o] o rf S (oqQ S) := by
  obtain ⟨d, rfl⟩ : ∃ q, d = q + 1 := ⟨d - 1, by omega⟩
  intro H0 c n hR
  obtain ⟨z1, z2⟩ := id hz
  refine XM.of (by decide +kernel) (Nat.le_of_ble_eq_true rfl) ?_
  have hX : xonly H0 H0 RKs := xonly.rf
  have j30 : ∀ (r1 q : Int), inR r1 → (q = 0 ∨ q = 1) → ((S.1 27 < S.1 2 ∧ r1 = gd (S.2.1 1) (S.1 27)) ∨ (S.1 2 ≤ S.1 27 ∧ r1 = -1)) → (q = 1 → S.1 27 + 1 < S.1 2) → RX l G M_Mo_operator (d + 1) 30 [some (.ref o), some (.int (zI r1)), some (.int (zI q))] [] H0 o rf c n (sp S 27 (S.1 27 + 1)) (oqQ S) := by
    intro r1 q hi1 hq hr1 hq1 h hR hX
    refine x_iload_n d_Mo_operator_30 rfl ?_
    refine x_bipush (v := zI 60) d_Mo_operator_31 (by decide) ?_
    refine z_icmp_eq (tgt := 42) d_Mo_operator_33 (by decide) (by omega) (by omega) (fun hc33 => ?_) (fun hc33 => ?_)
    · refine x_aload_n d_Mo_operator_42 rfl rfl ?_
      refine x_dup d_Mo_operator_43 rfl ?_
      refine x_get xf_Mo_193_Mo (Or.inl hR.1) (v := .int (zI (S.1 27 + 1))) rfl d_Mo_operator_44 ?_
      have hb44 : inR (S.1 27 + 1) := hR.2.2.2 27
      refine x_iload_n d_Mo_operator_47 rfl ?_
      refine z_if_eq (tgt := 55) d_Mo_operator_48 (by decide) (by omega) (fun hc48 => ?_) (fun hc48 => ?_)
      · refine x_iconst (v := zI 0) d_Mo_operator_55 (by decide) ?_
        refine z_iadd d_Mo_operator_56 ?_
        refine r_put xf_Mo_193_Mo xp_Mo_27 hR hX (by omega) rfl rfl d_Mo_operator_57 ?_
        intro h hR hX
        refine x_iload_n d_Mo_operator_60 rfl ?_
        refine x_bipush (v := zI 60) d_Mo_operator_61 (by decide) ?_
        refine z_icmp_ne (tgt := 70) d_Mo_operator_63 (by decide) (by omega) (by omega) (fun hc63 => ?_) (fun hc63 => ?_)
        · refine x_iconst (v := zI 4) d_Mo_operator_70 (by decide) ?_
          refine x_iload_n d_Mo_operator_71 rfl ?_
          refine z_if_eq (tgt := 79) d_Mo_operator_72 (by decide) (by omega) (fun hc72 => ?_) (fun hc72 => ?_)
          · refine x_iconst (v := zI 0) d_Mo_operator_79 (by decide) ?_
            refine z_iadd d_Mo_operator_80 ?_
            refine x_iret d_Mo_operator_81 rfl ?_
            first | exact ⟨_, hR, hX, rfl, rfl, ⟨_, rfl, by omega, by omega⟩, (rSm.r0.sp (j := 27) (by decide)).sp (j := 27) (by decide), by show S.1 27 + 1 ≤ S.1 27 + 1 + _; omega, Or.inl ⟨hw, by show S.1 27 + 1 + _ ≤ S.1 2; omega⟩⟩ | exact ⟨_, hR, hX, rfl, rfl, ⟨_, rfl, by omega, by omega⟩, (rSm.r0.sp (j := 27) (by decide)).sp (j := 29) (by decide), by show S.1 27 + 1 ≤ S.1 27 + 1; omega, Or.inr ⟨by show 0 ≤ a101; replace ha101 : (S.1 29 < 0 ∧ a101 = S.1 27 + 1 - 1) ∨ (0 ≤ S.1 29 ∧ a101 = S.1 29) := ha101; omega, by show S.1 27 + 1 ≤ S.1 2 + 1; omega⟩⟩ | exact ⟨_, hR, hX, rfl, rfl, ⟨_, rfl, by omega, by omega⟩, (rSm.r0.sp (j := 27) (by decide)).sp (j := 29) (by decide), by show S.1 27 + 1 ≤ S.1 27 + 1; omega, Or.inr ⟨by show 0 ≤ a133; replace ha133 : (S.1 29 < 0 ∧ a133 = S.1 27 + 1) ∨ (0 ≤ S.1 29 ∧ a133 = S.1 29) := ha133; omega, by show S.1 27 + 1 ≤ S.1 2 + 1; omega⟩⟩ | exact ⟨_, hR, hX, rfl, rfl, ⟨_, rfl, by omega, by omega⟩, (rSm.r0.sp (j := 27) (by decide)).sp (j := 29) (by decide), by show S.1 27 + 1 ≤ S.1 27 + 1; omega, Or.inr ⟨by show 0 ≤ a133; replace ha133 : (S.1 29 < 0 ∧ a133 = S.1 2) ∨ (0 ≤ S.1 29 ∧ a133 = S.1 29) := ha133; omega, by show S.1 27 + 1 ≤ S.1 2 + 1; omega⟩⟩
          · refine x_iconst (v := zI 1) d_Mo_operator_75 (by decide) ?_
            refine x_goto (tgt := 80) d_Mo_operator_76 (by decide) ?_
            refine z_iadd d_Mo_operator_80 ?_
            refine x_iret d_Mo_operator_81 rfl ?_
            first | exact ⟨_, hR, hX, rfl, rfl, ⟨_, rfl, by omega, by omega⟩, (rSm.r0.sp (j := 27) (by decide)).sp (j := 27) (by decide), by show S.1 27 + 1 ≤ S.1 27 + 1 + _; omega, Or.inl ⟨hw, by show S.1 27 + 1 + _ ≤ S.1 2; omega⟩⟩ | exact ⟨_, hR, hX, rfl, rfl, ⟨_, rfl, by omega, by omega⟩, (rSm.r0.sp (j := 27) (by decide)).sp (j := 29) (by decide), by show S.1 27 + 1 ≤ S.1 27 + 1; omega, Or.inr ⟨by show 0 ≤ a101; replace ha101 : (S.1 29 < 0 ∧ a101 = S.1 27 + 1 - 1) ∨ (0 ≤ S.1 29 ∧ a101 = S.1 29) := ha101; omega, by show S.1 27 + 1 ≤ S.1 2 + 1; omega⟩⟩ | exact ⟨_, hR, hX, rfl, rfl, ⟨_, rfl, by omega, by omega⟩, (rSm.r0.sp (j := 27) (by decide)).sp (j := 29) (by decide), by show S.1 27 + 1 ≤ S.1 27 + 1; omega, Or.inr ⟨by show 0 ≤ a133; replace ha133 : (S.1 29 < 0 ∧ a133 = S.1 27 + 1) ∨ (0 ≤ S.1 29 ∧ a133 = S.1 29) := ha133; omega, by show S.1 27 + 1 ≤ S.1 2 + 1; omega⟩⟩ | exact ⟨_, hR, hX, rfl, rfl, ⟨_, rfl, by omega, by omega⟩, (rSm.r0.sp (j := 27) (by decide)).sp (j := 29) (by decide), by show S.1 27 + 1 ≤ S.1 27 + 1; omega, Or.inr ⟨by show 0 ≤ a133; replace ha133 : (S.1 29 < 0 ∧ a133 = S.1 2) ∨ (0 ≤ S.1 29 ∧ a133 = S.1 29) := ha133; omega, by show S.1 27 + 1 ≤ S.1 2 + 1; omega⟩⟩
        · refine x_iconst (v := zI 2) d_Mo_operator_66 (by decide) ?_
          refine x_goto (tgt := 71) d_Mo_operator_67 (by decide) ?_
          refine x_iload_n d_Mo_operator_71 rfl ?_
          refine z_if_eq (tgt := 79) d_Mo_operator_72 (by decide) (by omega) (fun hc72 => ?_) (fun hc72 => ?_)
          · refine x_iconst (v := zI 0) d_Mo_operator_79 (by decide) ?_
            refine z_iadd d_Mo_operator_80 ?_
            refine x_iret d_Mo_operator_81 rfl ?_
            first | exact ⟨_, hR, hX, rfl, rfl, ⟨_, rfl, by omega, by omega⟩, (rSm.r0.sp (j := 27) (by decide)).sp (j := 27) (by decide), by show S.1 27 + 1 ≤ S.1 27 + 1 + _; omega, Or.inl ⟨hw, by show S.1 27 + 1 + _ ≤ S.1 2; omega⟩⟩ | exact ⟨_, hR, hX, rfl, rfl, ⟨_, rfl, by omega, by omega⟩, (rSm.r0.sp (j := 27) (by decide)).sp (j := 29) (by decide), by show S.1 27 + 1 ≤ S.1 27 + 1; omega, Or.inr ⟨by show 0 ≤ a101; replace ha101 : (S.1 29 < 0 ∧ a101 = S.1 27 + 1 - 1) ∨ (0 ≤ S.1 29 ∧ a101 = S.1 29) := ha101; omega, by show S.1 27 + 1 ≤ S.1 2 + 1; omega⟩⟩ | exact ⟨_, hR, hX, rfl, rfl, ⟨_, rfl, by omega, by omega⟩, (rSm.r0.sp (j := 27) (by decide)).sp (j := 29) (by decide), by show S.1 27 + 1 ≤ S.1 27 + 1; omega, Or.inr ⟨by show 0 ≤ a133; replace ha133 : (S.1 29 < 0 ∧ a133 = S.1 27 + 1) ∨ (0 ≤ S.1 29 ∧ a133 = S.1 29) := ha133; omega, by show S.1 27 + 1 ≤ S.1 2 + 1; omega⟩⟩ | exact ⟨_, hR, hX, rfl, rfl, ⟨_, rfl, by omega, by omega⟩, (rSm.r0.sp (j := 27) (by decide)).sp (j := 29) (by decide), by show S.1 27 + 1 ≤ S.1 27 + 1; omega, Or.inr ⟨by show 0 ≤ a133; replace ha133 : (S.1 29 < 0 ∧ a133 = S.1 2) ∨ (0 ≤ S.1 29 ∧ a133 = S.1 29) := ha133; omega, by show S.1 27 + 1 ≤ S.1 2 + 1; omega⟩⟩
          · refine x_iconst (v := zI 1) d_Mo_operator_75 (by decide) ?_
            refine x_goto (tgt := 80) d_Mo_operator_76 (by decide) ?_
            refine z_iadd d_Mo_operator_80 ?_
            refine x_iret d_Mo_operator_81 rfl ?_
            first | exact ⟨_, hR, hX, rfl, rfl, ⟨_, rfl, by omega, by omega⟩, (rSm.r0.sp (j := 27) (by decide)).sp (j := 27) (by decide), by show S.1 27 + 1 ≤ S.1 27 + 1 + _; omega, Or.inl ⟨hw, by show S.1 27 + 1 + _ ≤ S.1 2; omega⟩⟩ | exact ⟨_, hR, hX, rfl, rfl, ⟨_, rfl, by omega, by omega⟩, (rSm.r0.sp (j := 27) (by decide)).sp (j := 29) (by decide), by show S.1 27 + 1 ≤ S.1 27 + 1; omega, Or.inr ⟨by show 0 ≤ a101; replace ha101 : (S.1 29 < 0 ∧ a101 = S.1 27 + 1 - 1) ∨ (0 ≤ S.1 29 ∧ a101 = S.1 29) := ha101; omega, by show S.1 27 + 1 ≤ S.1 2 + 1; omega⟩⟩ | exact ⟨_, hR, hX, rfl, rfl, ⟨_, rfl, by omega, by omega⟩, (rSm.r0.sp (j := 27) (by decide)).sp (j := 29) (by decide), by show S.1 27 + 1 ≤ S.1 27 + 1; omega, Or.inr ⟨by show 0 ≤ a133; replace ha133 : (S.1 29 < 0 ∧ a133 = S.1 27 + 1) ∨ (0 ≤ S.1 29 ∧ a133 = S.1 29) := ha133; omega, by show S.1 27 + 1 ≤ S.1 2 + 1; omega⟩⟩ | exact ⟨_, hR, hX, rfl, rfl, ⟨_, rfl, by omega, by omega⟩, (rSm.r0.sp (j := 27) (by decide)).sp (j := 29) (by decide), by show S.1 27 + 1 ≤ S.1 27 + 1; omega, Or.inr ⟨by show 0 ≤ a133; replace ha133 : (S.1 29 < 0 ∧ a133 = S.1 2) ∨ (0 ≤ S.1 29 ∧ a133 = S.1 29) := ha133; omega, by show S.1 27 + 1 ≤ S.1 2 + 1; omega⟩⟩
      · refine x_iconst (v := zI 1) d_Mo_operator_51 (by decide) ?_
        refine x_goto (tgt := 56) d_Mo_operator_52 (by decide) ?_
        refine z_iadd d_Mo_operator_56 ?_
        refine r_put xf_Mo_193_Mo xp_Mo_27 hR hX (by omega) rfl rfl d_Mo_operator_57 ?_
        intro h hR hX
        refine x_iload_n d_Mo_operator_60 rfl ?_
        refine x_bipush (v := zI 60) d_Mo_operator_61 (by decide) ?_
        refine z_icmp_ne (tgt := 70) d_Mo_operator_63 (by decide) (by omega) (by omega) (fun hc63 => ?_) (fun hc63 => ?_)
        · refine x_iconst (v := zI 4) d_Mo_operator_70 (by decide) ?_
          refine x_iload_n d_Mo_operator_71 rfl ?_
          refine z_if_eq (tgt := 79) d_Mo_operator_72 (by decide) (by omega) (fun hc72 => ?_) (fun hc72 => ?_)
          · refine x_iconst (v := zI 0) d_Mo_operator_79 (by decide) ?_
            refine z_iadd d_Mo_operator_80 ?_
            refine x_iret d_Mo_operator_81 rfl ?_
            first | exact ⟨_, hR, hX, rfl, rfl, ⟨_, rfl, by omega, by omega⟩, (rSm.r0.sp (j := 27) (by decide)).sp (j := 27) (by decide), by show S.1 27 + 1 ≤ S.1 27 + 1 + _; omega, Or.inl ⟨hw, by show S.1 27 + 1 + _ ≤ S.1 2; omega⟩⟩ | exact ⟨_, hR, hX, rfl, rfl, ⟨_, rfl, by omega, by omega⟩, (rSm.r0.sp (j := 27) (by decide)).sp (j := 29) (by decide), by show S.1 27 + 1 ≤ S.1 27 + 1; omega, Or.inr ⟨by show 0 ≤ a101; replace ha101 : (S.1 29 < 0 ∧ a101 = S.1 27 + 1 - 1) ∨ (0 ≤ S.1 29 ∧ a101 = S.1 29) := ha101; omega, by show S.1 27 + 1 ≤ S.1 2 + 1; omega⟩⟩ | exact ⟨_, hR, hX, rfl, rfl, ⟨_, rfl, by omega, by omega⟩, (rSm.r0.sp (j := 27) (by decide)).sp (j := 29) (by decide), by show S.1 27 + 1 ≤ S.1 27 + 1; omega, Or.inr ⟨by show 0 ≤ a133; replace ha133 : (S.1 29 < 0 ∧ a133 = S.1 27 + 1) ∨ (0 ≤ S.1 29 ∧ a133 = S.1 29) := ha133; omega, by show S.1 27 + 1 ≤ S.1 2 + 1; omega⟩⟩ | exact ⟨_, hR, hX, rfl, rfl, ⟨_, rfl, by omega, by omega⟩, (rSm.r0.sp (j := 27) (by decide)).sp (j := 29) (by decide), by show S.1 27 + 1 ≤ S.1 27 + 1; omega, Or.inr ⟨by show 0 ≤ a133; replace ha133 : (S.1 29 < 0 ∧ a133 = S.1 2) ∨ (0 ≤ S.1 29 ∧ a133 = S.1 29) := ha133; omega, by show S.1 27 + 1 ≤ S.1 2 + 1; omega⟩⟩
          · refine x_iconst (v := zI 1) d_Mo_operator_75 (by decide) ?_
            refine x_goto (tgt := 80) d_Mo_operator_76 (by decide) ?_
            refine z_iadd d_Mo_operator_80 ?_
            refine x_iret d_Mo_operator_81 rfl ?_
            first | exact ⟨_, hR, hX, rfl, rfl, ⟨_, rfl, by omega, by omega⟩, (rSm.r0.sp (j := 27) (by decide)).sp (j := 27) (by decide), by show S.1 27 + 1 ≤ S.1 27 + 1 + _; omega, Or.inl ⟨hw, by show S.1 27 + 1 + _ ≤ S.1 2; omega⟩⟩ | exact ⟨_, hR, hX, rfl, rfl, ⟨_, rfl, by omega, by omega⟩, (rSm.r0.sp (j := 27) (by decide)).sp (j := 29) (by decide), by show S.1 27 + 1 ≤ S.1 27 + 1; omega, Or.inr ⟨by show 0 ≤ a101; replace ha101 : (S.1 29 < 0 ∧ a101 = S.1 27 + 1 - 1) ∨ (0 ≤ S.1 29 ∧ a101 = S.1 29) := ha101; omega, by show S.1 27 + 1 ≤ S.1 2 + 1; omega⟩⟩ | exact ⟨_, hR, hX, rfl, rfl, ⟨_, rfl, by omega, by omega⟩, (rSm.r0.sp (j := 27) (by decide)).sp (j := 29) (by decide), by show S.1 27 + 1 ≤ S.1 27 + 1; omega, Or.inr ⟨by show 0 ≤ a133; replace ha133 : (S.1 29 < 0 ∧ a133 = S.1 27 + 1) ∨ (0 ≤ S.1 29 ∧ a133 = S.1 29) := ha133; omega, by show S.1 27 + 1 ≤ S.1 2 + 1; omega⟩⟩ | exact ⟨_, hR, hX, rfl, rfl, ⟨_, rfl, by omega, by omega⟩, (rSm.r0.sp (j := 27) (by decide)).sp (j := 29) (by decide), by show S.1 27 + 1 ≤ S.1 27 + 1; omega, Or.inr ⟨by show 0 ≤ a133; replace ha133 : (S.1 29 < 0 ∧ a133 = S.1 2) ∨ (0 ≤ S.1 29 ∧ a133 = S.1 29) := ha133; omega, by show S.1 27 + 1 ≤ S.1 2 + 1; omega⟩⟩
        · refine x_iconst (v := zI 2) d_Mo_operator_66 (by decide) ?_
          refine x_goto (tgt := 71) d_Mo_operator_67 (by decide) ?_
          refine x_iload_n d_Mo_operator_71 rfl ?_
          refine z_if_eq (tgt := 79) d_Mo_operator_72 (by decide) (by omega) (fun hc72 => ?_) (fun hc72 => ?_)
          · refine x_iconst (v := zI 0) d_Mo_operator_79 (by decide) ?_
            refine z_iadd d_Mo_operator_80 ?_
            refine x_iret d_Mo_operator_81 rfl ?_
            first | exact ⟨_, hR, hX, rfl, rfl, ⟨_, rfl, by omega, by omega⟩, (rSm.r0.sp (j := 27) (by decide)).sp (j := 27) (by decide), by show S.1 27 + 1 ≤ S.1 27 + 1 + _; omega, Or.inl ⟨hw, by show S.1 27 + 1 + _ ≤ S.1 2; omega⟩⟩ | exact ⟨_, hR, hX, rfl, rfl, ⟨_, rfl, by omega, by omega⟩, (rSm.r0.sp (j := 27) (by decide)).sp (j := 29) (by decide), by show S.1 27 + 1 ≤ S.1 27 + 1; omega, Or.inr ⟨by show 0 ≤ a101; replace ha101 : (S.1 29 < 0 ∧ a101 = S.1 27 + 1 - 1) ∨ (0 ≤ S.1 29 ∧ a101 = S.1 29) := ha101; omega, by show S.1 27 + 1 ≤ S.1 2 + 1; omega⟩⟩ | exact ⟨_, hR, hX, rfl, rfl, ⟨_, rfl, by omega, by omega⟩, (rSm.r0.sp (j := 27) (by decide)).sp (j := 29) (by decide), by show S.1 27 + 1 ≤ S.1 27 + 1; omega, Or.inr ⟨by show 0 ≤ a133; replace ha133 : (S.1 29 < 0 ∧ a133 = S.1 27 + 1) ∨ (0 ≤ S.1 29 ∧ a133 = S.1 29) := ha133; omega, by show S.1 27 + 1 ≤ S.1 2 + 1; omega⟩⟩ | exact ⟨_, hR, hX, rfl, rfl, ⟨_, rfl, by omega, by omega⟩, (rSm.r0.sp (j := 27) (by decide)).sp (j := 29) (by decide), by show S.1 27 + 1 ≤ S.1 27 + 1; omega, Or.inr ⟨by show 0 ≤ a133; replace ha133 : (S.1 29 < 0 ∧ a133 = S.1 2) ∨ (0 ≤ S.1 29 ∧ a133 = S.1 29) := ha133; omega, by show S.1 27 + 1 ≤ S.1 2 + 1; omega⟩⟩
          · refine x_iconst (v := zI 1) d_Mo_operator_75 (by decide) ?_
            refine x_goto (tgt := 80) d_Mo_operator_76 (by decide) ?_
            refine z_iadd d_Mo_operator_80 ?_
            refine x_iret d_Mo_operator_81 rfl ?_
            first | exact ⟨_, hR, hX, rfl, rfl, ⟨_, rfl, by omega, by omega⟩, (rSm.r0.sp (j := 27) (by decide)).sp (j := 27) (by decide), by show S.1 27 + 1 ≤ S.1 27 + 1 + _; omega, Or.inl ⟨hw, by show S.1 27 + 1 + _ ≤ S.1 2; omega⟩⟩ | exact ⟨_, hR, hX, rfl, rfl, ⟨_, rfl, by omega, by omega⟩, (rSm.r0.sp (j := 27) (by decide)).sp (j := 29) (by decide), by show S.1 27 + 1 ≤ S.1 27 + 1; omega, Or.inr ⟨by show 0 ≤ a101; replace ha101 : (S.1 29 < 0 ∧ a101 = S.1 27 + 1 - 1) ∨ (0 ≤ S.1 29 ∧ a101 = S.1 29) := ha101; omega, by show S.1 27 + 1 ≤ S.1 2 + 1; omega⟩⟩ | exact ⟨_, hR, hX, rfl, rfl, ⟨_, rfl, by omega, by omega⟩, (rSm.r0.sp (j := 27) (by decide)).sp (j := 29) (by decide), by show S.1 27 + 1 ≤ S.1 27 + 1; omega, Or.inr ⟨by show 0 ≤ a133; replace ha133 : (S.1 29 < 0 ∧ a133 = S.1 27 + 1) ∨ (0 ≤ S.1 29 ∧ a133 = S.1 29) := ha133; omega, by show S.1 27 + 1 ≤ S.1 2 + 1; omega⟩⟩ | exact ⟨_, hR, hX, rfl, rfl, ⟨_, rfl, by omega, by omega⟩, (rSm.r0.sp (j := 27) (by decide)).sp (j := 29) (by decide), by show S.1 27 + 1 ≤ S.1 27 + 1; omega, Or.inr ⟨by show 0 ≤ a133; replace ha133 : (S.1 29 < 0 ∧ a133 = S.1 2) ∨ (0 ≤ S.1 29 ∧ a133 = S.1 29) := ha133; omega, by show S.1 27 + 1 ≤ S.1 2 + 1; omega⟩⟩
    · refine x_iload_n d_Mo_operator_36 rfl ?_
      refine x_bipush (v := zI 62) d_Mo_operator_37 (by decide) ?_
      refine z_icmp_ne (tgt := 82) d_Mo_operator_39 (by decide) (by omega) (by omega) (fun hc39 => ?_) (fun hc39 => ?_)
      · refine x_iload_n d_Mo_operator_82 rfl ?_
        refine x_bipush (v := zI 61) d_Mo_operator_83 (by decide) ?_
        refine z_icmp_eq (tgt := 106) d_Mo_operator_85 (by decide) (by omega) (by omega) (fun hc85 => ?_) (fun hc85 => ?_)
        · refine x_iload_n d_Mo_operator_106 rfl ?_
          refine z_if_ne (tgt := 138) d_Mo_operator_107 (by decide) (by omega) (fun hc107 => ?_) (fun hc107 => ?_)
          · refine x_aload_n d_Mo_operator_138 rfl rfl ?_
            refine x_dup d_Mo_operator_139 rfl ?_
            refine x_get xf_Mo_193_Mo (Or.inl hR.1) (v := .int (zI (S.1 27 + 1))) rfl d_Mo_operator_140 ?_
            have hb140 : inR (S.1 27 + 1) := hR.2.2.2 27
            refine x_iconst (v := zI 1) d_Mo_operator_143 (by decide) ?_
            refine z_iadd d_Mo_operator_144 ?_
            refine r_put xf_Mo_193_Mo xp_Mo_27 hR hX (by omega) rfl rfl d_Mo_operator_145 ?_
            intro h hR hX
            refine x_iload_n d_Mo_operator_148 rfl ?_
            refine x_bipush (v := zI 61) d_Mo_operator_149 (by decide) ?_
            refine z_icmp_ne (tgt := 158) d_Mo_operator_151 (by decide) (by omega) (by omega) (fun hc151 => ?_) (fun hc151 => ?_)
            · refine x_iconst (v := zI 1) d_Mo_operator_158 (by decide) ?_
              refine x_iret d_Mo_operator_159 rfl ?_
              first | exact ⟨_, hR, hX, rfl, rfl, ⟨_, rfl, by omega, by omega⟩, (rSm.r0.sp (j := 27) (by decide)).sp (j := 27) (by decide), by show S.1 27 + 1 ≤ S.1 27 + 1 + _; omega, Or.inl ⟨hw, by show S.1 27 + 1 + _ ≤ S.1 2; omega⟩⟩ | exact ⟨_, hR, hX, rfl, rfl, ⟨_, rfl, by omega, by omega⟩, (rSm.r0.sp (j := 27) (by decide)).sp (j := 29) (by decide), by show S.1 27 + 1 ≤ S.1 27 + 1; omega, Or.inr ⟨by show 0 ≤ a101; replace ha101 : (S.1 29 < 0 ∧ a101 = S.1 27 + 1 - 1) ∨ (0 ≤ S.1 29 ∧ a101 = S.1 29) := ha101; omega, by show S.1 27 + 1 ≤ S.1 2 + 1; omega⟩⟩ | exact ⟨_, hR, hX, rfl, rfl, ⟨_, rfl, by omega, by omega⟩, (rSm.r0.sp (j := 27) (by decide)).sp (j := 29) (by decide), by show S.1 27 + 1 ≤ S.1 27 + 1; omega, Or.inr ⟨by show 0 ≤ a133; replace ha133 : (S.1 29 < 0 ∧ a133 = S.1 27 + 1) ∨ (0 ≤ S.1 29 ∧ a133 = S.1 29) := ha133; omega, by show S.1 27 + 1 ≤ S.1 2 + 1; omega⟩⟩ | exact ⟨_, hR, hX, rfl, rfl, ⟨_, rfl, by omega, by omega⟩, (rSm.r0.sp (j := 27) (by decide)).sp (j := 29) (by decide), by show S.1 27 + 1 ≤ S.1 27 + 1; omega, Or.inr ⟨by show 0 ≤ a133; replace ha133 : (S.1 29 < 0 ∧ a133 = S.1 2) ∨ (0 ≤ S.1 29 ∧ a133 = S.1 29) := ha133; omega, by show S.1 27 + 1 ≤ S.1 2 + 1; omega⟩⟩
            · refine x_iconst (v := zI 0) d_Mo_operator_154 (by decide) ?_
              refine x_goto (tgt := 159) d_Mo_operator_155 (by decide) ?_
              refine x_iret d_Mo_operator_159 rfl ?_
              first | exact ⟨_, hR, hX, rfl, rfl, ⟨_, rfl, by omega, by omega⟩, (rSm.r0.sp (j := 27) (by decide)).sp (j := 27) (by decide), by show S.1 27 + 1 ≤ S.1 27 + 1 + _; omega, Or.inl ⟨hw, by show S.1 27 + 1 + _ ≤ S.1 2; omega⟩⟩ | exact ⟨_, hR, hX, rfl, rfl, ⟨_, rfl, by omega, by omega⟩, (rSm.r0.sp (j := 27) (by decide)).sp (j := 29) (by decide), by show S.1 27 + 1 ≤ S.1 27 + 1; omega, Or.inr ⟨by show 0 ≤ a101; replace ha101 : (S.1 29 < 0 ∧ a101 = S.1 27 + 1 - 1) ∨ (0 ≤ S.1 29 ∧ a101 = S.1 29) := ha101; omega, by show S.1 27 + 1 ≤ S.1 2 + 1; omega⟩⟩ | exact ⟨_, hR, hX, rfl, rfl, ⟨_, rfl, by omega, by omega⟩, (rSm.r0.sp (j := 27) (by decide)).sp (j := 29) (by decide), by show S.1 27 + 1 ≤ S.1 27 + 1; omega, Or.inr ⟨by show 0 ≤ a133; replace ha133 : (S.1 29 < 0 ∧ a133 = S.1 27 + 1) ∨ (0 ≤ S.1 29 ∧ a133 = S.1 29) := ha133; omega, by show S.1 27 + 1 ≤ S.1 2 + 1; omega⟩⟩ | exact ⟨_, hR, hX, rfl, rfl, ⟨_, rfl, by omega, by omega⟩, (rSm.r0.sp (j := 27) (by decide)).sp (j := 29) (by decide), by show S.1 27 + 1 ≤ S.1 27 + 1; omega, Or.inr ⟨by show 0 ≤ a133; replace ha133 : (S.1 29 < 0 ∧ a133 = S.1 2) ∨ (0 ≤ S.1 29 ∧ a133 = S.1 29) := ha133; omega, by show S.1 27 + 1 ≤ S.1 2 + 1; omega⟩⟩
          · refine x_aload_n d_Mo_operator_110 rfl rfl ?_
            refine x_aload_n d_Mo_operator_111 rfl rfl ?_
            refine x_get xf_Mo_193_Mo (Or.inl hR.1) (v := .int (zI (S.1 27 + 1))) rfl d_Mo_operator_112 ?_
            have hb112 : inR (S.1 27 + 1) := hR.2.2.2 27
            refine x_aload_n d_Mo_operator_115 rfl rfl ?_
            refine x_get xf_Mo_124_Mo (Or.inl hR.1) (v := .int (zI (S.1 2))) rfl d_Mo_operator_116 ?_
            have hb116 : inR (S.1 2) := hR.2.2.2 2
            refine z_icmp_ge (tgt := 129) d_Mo_operator_119 (by decide) (by omega) (by omega) (fun hc119 => ?_) (fun hc119 => ?_)
            · refine x_aload_n d_Mo_operator_129 rfl rfl ?_
              refine x_get xf_Mo_124_Mo (Or.inl hR.1) (v := .int (zI (S.1 2))) rfl d_Mo_operator_130 ?_
              have hb130 : inR (S.1 2) := hR.2.2.2 2
              refine x_callV (As := [_]) (k := k_MarkerTextModel) rfl xcv_Mo_218_Mo (Or.inl hR.1) (RM.ap hR (r_fault (by omega))) rfl rfl (Nat.le_of_ble_eq_true rfl) d_Mo_operator_133 ?_
              rintro v133 h cq nq ⟨S133, hR, hX133, rfl, rfl, a133, rfl, rfl, ha133⟩
              replace hX := hX.tr hX133
              refine x_iconst (v := zI 0) d_Mo_operator_136 (by decide) ?_
              refine x_iret d_Mo_operator_137 rfl ?_
              first | exact ⟨_, hR, hX, rfl, rfl, ⟨_, rfl, by omega, by omega⟩, (rSm.r0.sp (j := 27) (by decide)).sp (j := 27) (by decide), by show S.1 27 + 1 ≤ S.1 27 + 1 + _; omega, Or.inl ⟨hw, by show S.1 27 + 1 + _ ≤ S.1 2; omega⟩⟩ | exact ⟨_, hR, hX, rfl, rfl, ⟨_, rfl, by omega, by omega⟩, (rSm.r0.sp (j := 27) (by decide)).sp (j := 29) (by decide), by show S.1 27 + 1 ≤ S.1 27 + 1; omega, Or.inr ⟨by show 0 ≤ a101; replace ha101 : (S.1 29 < 0 ∧ a101 = S.1 27 + 1 - 1) ∨ (0 ≤ S.1 29 ∧ a101 = S.1 29) := ha101; omega, by show S.1 27 + 1 ≤ S.1 2 + 1; omega⟩⟩ | exact ⟨_, hR, hX, rfl, rfl, ⟨_, rfl, by omega, by omega⟩, (rSm.r0.sp (j := 27) (by decide)).sp (j := 29) (by decide), by show S.1 27 + 1 ≤ S.1 27 + 1; omega, Or.inr ⟨by show 0 ≤ a133; replace ha133 : (S.1 29 < 0 ∧ a133 = S.1 27 + 1) ∨ (0 ≤ S.1 29 ∧ a133 = S.1 29) := ha133; omega, by show S.1 27 + 1 ≤ S.1 2 + 1; omega⟩⟩ | exact ⟨_, hR, hX, rfl, rfl, ⟨_, rfl, by omega, by omega⟩, (rSm.r0.sp (j := 27) (by decide)).sp (j := 29) (by decide), by show S.1 27 + 1 ≤ S.1 27 + 1; omega, Or.inr ⟨by show 0 ≤ a133; replace ha133 : (S.1 29 < 0 ∧ a133 = S.1 2) ∨ (0 ≤ S.1 29 ∧ a133 = S.1 29) := ha133; omega, by show S.1 27 + 1 ≤ S.1 2 + 1; omega⟩⟩
            · refine x_aload_n d_Mo_operator_122 rfl rfl ?_
              refine x_get xf_Mo_193_Mo (Or.inl hR.1) (v := .int (zI (S.1 27 + 1))) rfl d_Mo_operator_123 ?_
              have hb123 : inR (S.1 27 + 1) := hR.2.2.2 27
              refine x_goto (tgt := 133) d_Mo_operator_126 (by decide) ?_
              refine x_callV (As := [_]) (k := k_MarkerTextModel) rfl xcv_Mo_218_Mo (Or.inl hR.1) (RM.ap hR (r_fault (by omega))) rfl rfl (Nat.le_of_ble_eq_true rfl) d_Mo_operator_133 ?_
              rintro v133 h cq nq ⟨S133, hR, hX133, rfl, rfl, a133, rfl, rfl, ha133⟩
              replace hX := hX.tr hX133
              refine x_iconst (v := zI 0) d_Mo_operator_136 (by decide) ?_
              refine x_iret d_Mo_operator_137 rfl ?_
              first | exact ⟨_, hR, hX, rfl, rfl, ⟨_, rfl, by omega, by omega⟩, (rSm.r0.sp (j := 27) (by decide)).sp (j := 27) (by decide), by show S.1 27 + 1 ≤ S.1 27 + 1 + _; omega, Or.inl ⟨hw, by show S.1 27 + 1 + _ ≤ S.1 2; omega⟩⟩ | exact ⟨_, hR, hX, rfl, rfl, ⟨_, rfl, by omega, by omega⟩, (rSm.r0.sp (j := 27) (by decide)).sp (j := 29) (by decide), by show S.1 27 + 1 ≤ S.1 27 + 1; omega, Or.inr ⟨by show 0 ≤ a101; replace ha101 : (S.1 29 < 0 ∧ a101 = S.1 27 + 1 - 1) ∨ (0 ≤ S.1 29 ∧ a101 = S.1 29) := ha101; omega, by show S.1 27 + 1 ≤ S.1 2 + 1; omega⟩⟩ | exact ⟨_, hR, hX, rfl, rfl, ⟨_, rfl, by omega, by omega⟩, (rSm.r0.sp (j := 27) (by decide)).sp (j := 29) (by decide), by show S.1 27 + 1 ≤ S.1 27 + 1; omega, Or.inr ⟨by show 0 ≤ a133; replace ha133 : (S.1 29 < 0 ∧ a133 = S.1 27 + 1) ∨ (0 ≤ S.1 29 ∧ a133 = S.1 29) := ha133; omega, by show S.1 27 + 1 ≤ S.1 2 + 1; omega⟩⟩ | exact ⟨_, hR, hX, rfl, rfl, ⟨_, rfl, by omega, by omega⟩, (rSm.r0.sp (j := 27) (by decide)).sp (j := 29) (by decide), by show S.1 27 + 1 ≤ S.1 27 + 1; omega, Or.inr ⟨by show 0 ≤ a133; replace ha133 : (S.1 29 < 0 ∧ a133 = S.1 2) ∨ (0 ≤ S.1 29 ∧ a133 = S.1 29) := ha133; omega, by show S.1 27 + 1 ≤ S.1 2 + 1; omega⟩⟩
        · refine x_iload_n d_Mo_operator_88 rfl ?_
          refine x_bipush (v := zI 33) d_Mo_operator_89 (by decide) ?_
          refine z_icmp_eq (tgt := 106) d_Mo_operator_91 (by decide) (by omega) (by omega) (fun hc91 => ?_) (fun hc91 => ?_)
          · refine x_iload_n d_Mo_operator_106 rfl ?_
            refine z_if_ne (tgt := 138) d_Mo_operator_107 (by decide) (by omega) (fun hc107 => ?_) (fun hc107 => ?_)
            · refine x_aload_n d_Mo_operator_138 rfl rfl ?_
              refine x_dup d_Mo_operator_139 rfl ?_
              refine x_get xf_Mo_193_Mo (Or.inl hR.1) (v := .int (zI (S.1 27 + 1))) rfl d_Mo_operator_140 ?_
              have hb140 : inR (S.1 27 + 1) := hR.2.2.2 27
              refine x_iconst (v := zI 1) d_Mo_operator_143 (by decide) ?_
              refine z_iadd d_Mo_operator_144 ?_
              refine r_put xf_Mo_193_Mo xp_Mo_27 hR hX (by omega) rfl rfl d_Mo_operator_145 ?_
              intro h hR hX
              refine x_iload_n d_Mo_operator_148 rfl ?_
              refine x_bipush (v := zI 61) d_Mo_operator_149 (by decide) ?_
              refine z_icmp_ne (tgt := 158) d_Mo_operator_151 (by decide) (by omega) (by omega) (fun hc151 => ?_) (fun hc151 => ?_)
              · refine x_iconst (v := zI 1) d_Mo_operator_158 (by decide) ?_
                refine x_iret d_Mo_operator_159 rfl ?_
                first | exact ⟨_, hR, hX, rfl, rfl, ⟨_, rfl, by omega, by omega⟩, (rSm.r0.sp (j := 27) (by decide)).sp (j := 27) (by decide), by show S.1 27 + 1 ≤ S.1 27 + 1 + _; omega, Or.inl ⟨hw, by show S.1 27 + 1 + _ ≤ S.1 2; omega⟩⟩ | exact ⟨_, hR, hX, rfl, rfl, ⟨_, rfl, by omega, by omega⟩, (rSm.r0.sp (j := 27) (by decide)).sp (j := 29) (by decide), by show S.1 27 + 1 ≤ S.1 27 + 1; omega, Or.inr ⟨by show 0 ≤ a101; replace ha101 : (S.1 29 < 0 ∧ a101 = S.1 27 + 1 - 1) ∨ (0 ≤ S.1 29 ∧ a101 = S.1 29) := ha101; omega, by show S.1 27 + 1 ≤ S.1 2 + 1; omega⟩⟩ | exact ⟨_, hR, hX, rfl, rfl, ⟨_, rfl, by omega, by omega⟩, (rSm.r0.sp (j := 27) (by decide)).sp (j := 29) (by decide), by show S.1 27 + 1 ≤ S.1 27 + 1; omega, Or.inr ⟨by show 0 ≤ a133; replace ha133 : (S.1 29 < 0 ∧ a133 = S.1 27 + 1) ∨ (0 ≤ S.1 29 ∧ a133 = S.1 29) := ha133; omega, by show S.1 27 + 1 ≤ S.1 2 + 1; omega⟩⟩ | exact ⟨_, hR, hX, rfl, rfl, ⟨_, rfl, by omega, by omega⟩, (rSm.r0.sp (j := 27) (by decide)).sp (j := 29) (by decide), by show S.1 27 + 1 ≤ S.1 27 + 1; omega, Or.inr ⟨by show 0 ≤ a133; replace ha133 : (S.1 29 < 0 ∧ a133 = S.1 2) ∨ (0 ≤ S.1 29 ∧ a133 = S.1 29) := ha133; omega, by show S.1 27 + 1 ≤ S.1 2 + 1; omega⟩⟩
              · refine x_iconst (v := zI 0) d_Mo_operator_154 (by decide) ?_
                refine x_goto (tgt := 159) d_Mo_operator_155 (by decide) ?_
                refine x_iret d_Mo_operator_159 rfl ?_
                first | exact ⟨_, hR, hX, rfl, rfl, ⟨_, rfl, by omega, by omega⟩, (rSm.r0.sp (j := 27) (by decide)).sp (j := 27) (by decide), by show S.1 27 + 1 ≤ S.1 27 + 1 + _; omega, Or.inl ⟨hw, by show S.1 27 + 1 + _ ≤ S.1 2; omega⟩⟩ | exact ⟨_, hR, hX, rfl, rfl, ⟨_, rfl, by omega, by omega⟩, (rSm.r0.sp (j := 27) (by decide)).sp (j := 29) (by decide), by show S.1 27 + 1 ≤ S.1 27 + 1; omega, Or.inr ⟨by show 0 ≤ a101; replace ha101 : (S.1 29 < 0 ∧ a101 = S.1 27 + 1 - 1) ∨ (0 ≤ S.1 29 ∧ a101 = S.1 29) := ha101; omega, by show S.1 27 + 1 ≤ S.1 2 + 1; omega⟩⟩ | exact ⟨_, hR, hX, rfl, rfl, ⟨_, rfl, by omega, by omega⟩, (rSm.r0.sp (j := 27) (by decide)).sp (j := 29) (by decide), by show S.1 27 + 1 ≤ S.1 27 + 1; omega, Or.inr ⟨by show 0 ≤ a133; replace ha133 : (S.1 29 < 0 ∧ a133 = S.1 27 + 1) ∨ (0 ≤ S.1 29 ∧ a133 = S.1 29) := ha133; omega, by show S.1 27 + 1 ≤ S.1 2 + 1; omega⟩⟩ | exact ⟨_, hR, hX, rfl, rfl, ⟨_, rfl, by omega, by omega⟩, (rSm.r0.sp (j := 27) (by decide)).sp (j := 29) (by decide), by show S.1 27 + 1 ≤ S.1 27 + 1; omega, Or.inr ⟨by show 0 ≤ a133; replace ha133 : (S.1 29 < 0 ∧ a133 = S.1 2) ∨ (0 ≤ S.1 29 ∧ a133 = S.1 29) := ha133; omega, by show S.1 27 + 1 ≤ S.1 2 + 1; omega⟩⟩
            · refine x_aload_n d_Mo_operator_110 rfl rfl ?_
              refine x_aload_n d_Mo_operator_111 rfl rfl ?_
              refine x_get xf_Mo_193_Mo (Or.inl hR.1) (v := .int (zI (S.1 27 + 1))) rfl d_Mo_operator_112 ?_
              have hb112 : inR (S.1 27 + 1) := hR.2.2.2 27
              refine x_aload_n d_Mo_operator_115 rfl rfl ?_
              refine x_get xf_Mo_124_Mo (Or.inl hR.1) (v := .int (zI (S.1 2))) rfl d_Mo_operator_116 ?_
              have hb116 : inR (S.1 2) := hR.2.2.2 2
              refine z_icmp_ge (tgt := 129) d_Mo_operator_119 (by decide) (by omega) (by omega) (fun hc119 => ?_) (fun hc119 => ?_)
              · refine x_aload_n d_Mo_operator_129 rfl rfl ?_
                refine x_get xf_Mo_124_Mo (Or.inl hR.1) (v := .int (zI (S.1 2))) rfl d_Mo_operator_130 ?_
                have hb130 : inR (S.1 2) := hR.2.2.2 2
                refine x_callV (As := [_]) (k := k_MarkerTextModel) rfl xcv_Mo_218_Mo (Or.inl hR.1) (RM.ap hR (r_fault (by omega))) rfl rfl (Nat.le_of_ble_eq_true rfl) d_Mo_operator_133 ?_
                rintro v133 h cq nq ⟨S133, hR, hX133, rfl, rfl, a133, rfl, rfl, ha133⟩
                replace hX := hX.tr hX133
                refine x_iconst (v := zI 0) d_Mo_operator_136 (by decide) ?_
                refine x_iret d_Mo_operator_137 rfl ?_
                first | exact ⟨_, hR, hX, rfl, rfl, ⟨_, rfl, by omega, by omega⟩, (rSm.r0.sp (j := 27) (by decide)).sp (j := 27) (by decide), by show S.1 27 + 1 ≤ S.1 27 + 1 + _; omega, Or.inl ⟨hw, by show S.1 27 + 1 + _ ≤ S.1 2; omega⟩⟩ | exact ⟨_, hR, hX, rfl, rfl, ⟨_, rfl, by omega, by omega⟩, (rSm.r0.sp (j := 27) (by decide)).sp (j := 29) (by decide), by show S.1 27 + 1 ≤ S.1 27 + 1; omega, Or.inr ⟨by show 0 ≤ a101; replace ha101 : (S.1 29 < 0 ∧ a101 = S.1 27 + 1 - 1) ∨ (0 ≤ S.1 29 ∧ a101 = S.1 29) := ha101; omega, by show S.1 27 + 1 ≤ S.1 2 + 1; omega⟩⟩ | exact ⟨_, hR, hX, rfl, rfl, ⟨_, rfl, by omega, by omega⟩, (rSm.r0.sp (j := 27) (by decide)).sp (j := 29) (by decide), by show S.1 27 + 1 ≤ S.1 27 + 1; omega, Or.inr ⟨by show 0 ≤ a133; replace ha133 : (S.1 29 < 0 ∧ a133 = S.1 27 + 1) ∨ (0 ≤ S.1 29 ∧ a133 = S.1 29) := ha133; omega, by show S.1 27 + 1 ≤ S.1 2 + 1; omega⟩⟩ | exact ⟨_, hR, hX, rfl, rfl, ⟨_, rfl, by omega, by omega⟩, (rSm.r0.sp (j := 27) (by decide)).sp (j := 29) (by decide), by show S.1 27 + 1 ≤ S.1 27 + 1; omega, Or.inr ⟨by show 0 ≤ a133; replace ha133 : (S.1 29 < 0 ∧ a133 = S.1 2) ∨ (0 ≤ S.1 29 ∧ a133 = S.1 29) := ha133; omega, by show S.1 27 + 1 ≤ S.1 2 + 1; omega⟩⟩
              · refine x_aload_n d_Mo_operator_122 rfl rfl ?_
                refine x_get xf_Mo_193_Mo (Or.inl hR.1) (v := .int (zI (S.1 27 + 1))) rfl d_Mo_operator_123 ?_
                have hb123 : inR (S.1 27 + 1) := hR.2.2.2 27
                refine x_goto (tgt := 133) d_Mo_operator_126 (by decide) ?_
                refine x_callV (As := [_]) (k := k_MarkerTextModel) rfl xcv_Mo_218_Mo (Or.inl hR.1) (RM.ap hR (r_fault (by omega))) rfl rfl (Nat.le_of_ble_eq_true rfl) d_Mo_operator_133 ?_
                rintro v133 h cq nq ⟨S133, hR, hX133, rfl, rfl, a133, rfl, rfl, ha133⟩
                replace hX := hX.tr hX133
                refine x_iconst (v := zI 0) d_Mo_operator_136 (by decide) ?_
                refine x_iret d_Mo_operator_137 rfl ?_
                first | exact ⟨_, hR, hX, rfl, rfl, ⟨_, rfl, by omega, by omega⟩, (rSm.r0.sp (j := 27) (by decide)).sp (j := 27) (by decide), by show S.1 27 + 1 ≤ S.1 27 + 1 + _; omega, Or.inl ⟨hw, by show S.1 27 + 1 + _ ≤ S.1 2; omega⟩⟩ | exact ⟨_, hR, hX, rfl, rfl, ⟨_, rfl, by omega, by omega⟩, (rSm.r0.sp (j := 27) (by decide)).sp (j := 29) (by decide), by show S.1 27 + 1 ≤ S.1 27 + 1; omega, Or.inr ⟨by show 0 ≤ a101; replace ha101 : (S.1 29 < 0 ∧ a101 = S.1 27 + 1 - 1) ∨ (0 ≤ S.1 29 ∧ a101 = S.1 29) := ha101; omega, by show S.1 27 + 1 ≤ S.1 2 + 1; omega⟩⟩ | exact ⟨_, hR, hX, rfl, rfl, ⟨_, rfl, by omega, by omega⟩, (rSm.r0.sp (j := 27) (by decide)).sp (j := 29) (by decide), by show S.1 27 + 1 ≤ S.1 27 + 1; omega, Or.inr ⟨by show 0 ≤ a133; replace ha133 : (S.1 29 < 0 ∧ a133 = S.1 27 + 1) ∨ (0 ≤ S.1 29 ∧ a133 = S.1 29) := ha133; omega, by show S.1 27 + 1 ≤ S.1 2 + 1; omega⟩⟩ | exact ⟨_, hR, hX, rfl, rfl, ⟨_, rfl, by omega, by omega⟩, (rSm.r0.sp (j := 27) (by decide)).sp (j := 29) (by decide), by show S.1 27 + 1 ≤ S.1 27 + 1; omega, Or.inr ⟨by show 0 ≤ a133; replace ha133 : (S.1 29 < 0 ∧ a133 = S.1 2) ∨ (0 ≤ S.1 29 ∧ a133 = S.1 29) := ha133; omega, by show S.1 27 + 1 ≤ S.1 2 + 1; omega⟩⟩
          · refine x_aload_n d_Mo_operator_94 rfl rfl ?_
            refine x_aload_n d_Mo_operator_95 rfl rfl ?_
            refine x_get xf_Mo_193_Mo (Or.inl hR.1) (v := .int (zI (S.1 27 + 1))) rfl d_Mo_operator_96 ?_
            have hb96 : inR (S.1 27 + 1) := hR.2.2.2 27
            refine x_iconst (v := zI 1) d_Mo_operator_99 (by decide) ?_
            refine z_isub d_Mo_operator_100 ?_
            refine x_callV (As := [_]) (k := k_MarkerTextModel) rfl xcv_Mo_218_Mo (Or.inl hR.1) (RM.ap hR (r_fault (by omega))) rfl rfl (Nat.le_of_ble_eq_true rfl) d_Mo_operator_101 ?_
            rintro v101 h cq nq ⟨S101, hR, hX101, rfl, rfl, a101, rfl, rfl, ha101⟩
            replace hX := hX.tr hX101
            refine x_iconst (v := zI 0) d_Mo_operator_104 (by decide) ?_
            refine x_iret d_Mo_operator_105 rfl ?_
            first | exact ⟨_, hR, hX, rfl, rfl, ⟨_, rfl, by omega, by omega⟩, (rSm.r0.sp (j := 27) (by decide)).sp (j := 27) (by decide), by show S.1 27 + 1 ≤ S.1 27 + 1 + _; omega, Or.inl ⟨hw, by show S.1 27 + 1 + _ ≤ S.1 2; omega⟩⟩ | exact ⟨_, hR, hX, rfl, rfl, ⟨_, rfl, by omega, by omega⟩, (rSm.r0.sp (j := 27) (by decide)).sp (j := 29) (by decide), by show S.1 27 + 1 ≤ S.1 27 + 1; omega, Or.inr ⟨by show 0 ≤ a101; replace ha101 : (S.1 29 < 0 ∧ a101 = S.1 27 + 1 - 1) ∨ (0 ≤ S.1 29 ∧ a101 = S.1 29) := ha101; omega, by show S.1 27 + 1 ≤ S.1 2 + 1; omega⟩⟩ | exact ⟨_, hR, hX, rfl, rfl, ⟨_, rfl, by omega, by omega⟩, (rSm.r0.sp (j := 27) (by decide)).sp (j := 29) (by decide), by show S.1 27 + 1 ≤ S.1 27 + 1; omega, Or.inr ⟨by show 0 ≤ a133; replace ha133 : (S.1 29 < 0 ∧ a133 = S.1 27 + 1) ∨ (0 ≤ S.1 29 ∧ a133 = S.1 29) := ha133; omega, by show S.1 27 + 1 ≤ S.1 2 + 1; omega⟩⟩ | exact ⟨_, hR, hX, rfl, rfl, ⟨_, rfl, by omega, by omega⟩, (rSm.r0.sp (j := 27) (by decide)).sp (j := 29) (by decide), by show S.1 27 + 1 ≤ S.1 27 + 1; omega, Or.inr ⟨by show 0 ≤ a133; replace ha133 : (S.1 29 < 0 ∧ a133 = S.1 2) ∨ (0 ≤ S.1 29 ∧ a133 = S.1 29) := ha133; omega, by show S.1 27 + 1 ≤ S.1 2 + 1; omega⟩⟩
      · refine x_aload_n d_Mo_operator_42 rfl rfl ?_
        refine x_dup d_Mo_operator_43 rfl ?_
        refine x_get xf_Mo_193_Mo (Or.inl hR.1) (v := .int (zI (S.1 27 + 1))) rfl d_Mo_operator_44 ?_
        have hb44 : inR (S.1 27 + 1) := hR.2.2.2 27
        refine x_iload_n d_Mo_operator_47 rfl ?_
        refine z_if_eq (tgt := 55) d_Mo_operator_48 (by decide) (by omega) (fun hc48 => ?_) (fun hc48 => ?_)
        · refine x_iconst (v := zI 0) d_Mo_operator_55 (by decide) ?_
          refine z_iadd d_Mo_operator_56 ?_
          refine r_put xf_Mo_193_Mo xp_Mo_27 hR hX (by omega) rfl rfl d_Mo_operator_57 ?_
          intro h hR hX
          refine x_iload_n d_Mo_operator_60 rfl ?_
          refine x_bipush (v := zI 60) d_Mo_operator_61 (by decide) ?_
          refine z_icmp_ne (tgt := 70) d_Mo_operator_63 (by decide) (by omega) (by omega) (fun hc63 => ?_) (fun hc63 => ?_)
          · refine x_iconst (v := zI 4) d_Mo_operator_70 (by decide) ?_
            refine x_iload_n d_Mo_operator_71 rfl ?_
            refine z_if_eq (tgt := 79) d_Mo_operator_72 (by decide) (by omega) (fun hc72 => ?_) (fun hc72 => ?_)
            · refine x_iconst (v := zI 0) d_Mo_operator_79 (by decide) ?_
              refine z_iadd d_Mo_operator_80 ?_
              refine x_iret d_Mo_operator_81 rfl ?_
              first | exact ⟨_, hR, hX, rfl, rfl, ⟨_, rfl, by omega, by omega⟩, (rSm.r0.sp (j := 27) (by decide)).sp (j := 27) (by decide), by show S.1 27 + 1 ≤ S.1 27 + 1 + _; omega, Or.inl ⟨hw, by show S.1 27 + 1 + _ ≤ S.1 2; omega⟩⟩ | exact ⟨_, hR, hX, rfl, rfl, ⟨_, rfl, by omega, by omega⟩, (rSm.r0.sp (j := 27) (by decide)).sp (j := 29) (by decide), by show S.1 27 + 1 ≤ S.1 27 + 1; omega, Or.inr ⟨by show 0 ≤ a101; replace ha101 : (S.1 29 < 0 ∧ a101 = S.1 27 + 1 - 1) ∨ (0 ≤ S.1 29 ∧ a101 = S.1 29) := ha101; omega, by show S.1 27 + 1 ≤ S.1 2 + 1; omega⟩⟩ | exact ⟨_, hR, hX, rfl, rfl, ⟨_, rfl, by omega, by omega⟩, (rSm.r0.sp (j := 27) (by decide)).sp (j := 29) (by decide), by show S.1 27 + 1 ≤ S.1 27 + 1; omega, Or.inr ⟨by show 0 ≤ a133; replace ha133 : (S.1 29 < 0 ∧ a133 = S.1 27 + 1) ∨ (0 ≤ S.1 29 ∧ a133 = S.1 29) := ha133; omega, by show S.1 27 + 1 ≤ S.1 2 + 1; omega⟩⟩ | exact ⟨_, hR, hX, rfl, rfl, ⟨_, rfl, by omega, by omega⟩, (rSm.r0.sp (j := 27) (by decide)).sp (j := 29) (by decide), by show S.1 27 + 1 ≤ S.1 27 + 1; omega, Or.inr ⟨by show 0 ≤ a133; replace ha133 : (S.1 29 < 0 ∧ a133 = S.1 2) ∨ (0 ≤ S.1 29 ∧ a133 = S.1 29) := ha133; omega, by show S.1 27 + 1 ≤ S.1 2 + 1; omega⟩⟩
            · refine x_iconst (v := zI 1) d_Mo_operator_75 (by decide) ?_
              refine x_goto (tgt := 80) d_Mo_operator_76 (by decide) ?_
              refine z_iadd d_Mo_operator_80 ?_
              refine x_iret d_Mo_operator_81 rfl ?_
              first | exact ⟨_, hR, hX, rfl, rfl, ⟨_, rfl, by omega, by omega⟩, (rSm.r0.sp (j := 27) (by decide)).sp (j := 27) (by decide), by show S.1 27 + 1 ≤ S.1 27 + 1 + _; omega, Or.inl ⟨hw, by show S.1 27 + 1 + _ ≤ S.1 2; omega⟩⟩ | exact ⟨_, hR, hX, rfl, rfl, ⟨_, rfl, by omega, by omega⟩, (rSm.r0.sp (j := 27) (by decide)).sp (j := 29) (by decide), by show S.1 27 + 1 ≤ S.1 27 + 1; omega, Or.inr ⟨by show 0 ≤ a101; replace ha101 : (S.1 29 < 0 ∧ a101 = S.1 27 + 1 - 1) ∨ (0 ≤ S.1 29 ∧ a101 = S.1 29) := ha101; omega, by show S.1 27 + 1 ≤ S.1 2 + 1; omega⟩⟩ | exact ⟨_, hR, hX, rfl, rfl, ⟨_, rfl, by omega, by omega⟩, (rSm.r0.sp (j := 27) (by decide)).sp (j := 29) (by decide), by show S.1 27 + 1 ≤ S.1 27 + 1; omega, Or.inr ⟨by show 0 ≤ a133; replace ha133 : (S.1 29 < 0 ∧ a133 = S.1 27 + 1) ∨ (0 ≤ S.1 29 ∧ a133 = S.1 29) := ha133; omega, by show S.1 27 + 1 ≤ S.1 2 + 1; omega⟩⟩ | exact ⟨_, hR, hX, rfl, rfl, ⟨_, rfl, by omega, by omega⟩, (rSm.r0.sp (j := 27) (by decide)).sp (j := 29) (by decide), by show S.1 27 + 1 ≤ S.1 27 + 1; omega, Or.inr ⟨by show 0 ≤ a133; replace ha133 : (S.1 29 < 0 ∧ a133 = S.1 2) ∨ (0 ≤ S.1 29 ∧ a133 = S.1 29) := ha133; omega, by show S.1 27 + 1 ≤ S.1 2 + 1; omega⟩⟩
          · refine x_iconst (v := zI 2) d_Mo_operator_66 (by decide) ?_
            refine x_goto (tgt := 71) d_Mo_operator_67 (by decide) ?_
            refine x_iload_n d_Mo_operator_71 rfl ?_
            refine z_if_eq (tgt := 79) d_Mo_operator_72 (by decide) (by omega) (fun hc72 => ?_) (fun hc72 => ?_)
            · refine x_iconst (v := zI 0) d_Mo_operator_79 (by decide) ?_
              refine z_iadd d_Mo_operator_80 ?_
              refine x_iret d_Mo_operator_81 rfl ?_
              first | exact ⟨_, hR, hX, rfl, rfl, ⟨_, rfl, by omega, by omega⟩, (rSm.r0.sp (j := 27) (by decide)).sp (j := 27) (by decide), by show S.1 27 + 1 ≤ S.1 27 + 1 + _; omega, Or.inl ⟨hw, by show S.1 27 + 1 + _ ≤ S.1 2; omega⟩⟩ | exact ⟨_, hR, hX, rfl, rfl, ⟨_, rfl, by omega, by omega⟩, (rSm.r0.sp (j := 27) (by decide)).sp (j := 29) (by decide), by show S.1 27 + 1 ≤ S.1 27 + 1; omega, Or.inr ⟨by show 0 ≤ a101; replace ha101 : (S.1 29 < 0 ∧ a101 = S.1 27 + 1 - 1) ∨ (0 ≤ S.1 29 ∧ a101 = S.1 29) := ha101; omega, by show S.1 27 + 1 ≤ S.1 2 + 1; omega⟩⟩ | exact ⟨_, hR, hX, rfl, rfl, ⟨_, rfl, by omega, by omega⟩, (rSm.r0.sp (j := 27) (by decide)).sp (j := 29) (by decide), by show S.1 27 + 1 ≤ S.1 27 + 1; omega, Or.inr ⟨by show 0 ≤ a133; replace ha133 : (S.1 29 < 0 ∧ a133 = S.1 27 + 1) ∨ (0 ≤ S.1 29 ∧ a133 = S.1 29) := ha133; omega, by show S.1 27 + 1 ≤ S.1 2 + 1; omega⟩⟩ | exact ⟨_, hR, hX, rfl, rfl, ⟨_, rfl, by omega, by omega⟩, (rSm.r0.sp (j := 27) (by decide)).sp (j := 29) (by decide), by show S.1 27 + 1 ≤ S.1 27 + 1; omega, Or.inr ⟨by show 0 ≤ a133; replace ha133 : (S.1 29 < 0 ∧ a133 = S.1 2) ∨ (0 ≤ S.1 29 ∧ a133 = S.1 29) := ha133; omega, by show S.1 27 + 1 ≤ S.1 2 + 1; omega⟩⟩
            · refine x_iconst (v := zI 1) d_Mo_operator_75 (by decide) ?_
              refine x_goto (tgt := 80) d_Mo_operator_76 (by decide) ?_
              refine z_iadd d_Mo_operator_80 ?_
              refine x_iret d_Mo_operator_81 rfl ?_
              first | exact ⟨_, hR, hX, rfl, rfl, ⟨_, rfl, by omega, by omega⟩, (rSm.r0.sp (j := 27) (by decide)).sp (j := 27) (by decide), by show S.1 27 + 1 ≤ S.1 27 + 1 + _; omega, Or.inl ⟨hw, by show S.1 27 + 1 + _ ≤ S.1 2; omega⟩⟩ | exact ⟨_, hR, hX, rfl, rfl, ⟨_, rfl, by omega, by omega⟩, (rSm.r0.sp (j := 27) (by decide)).sp (j := 29) (by decide), by show S.1 27 + 1 ≤ S.1 27 + 1; omega, Or.inr ⟨by show 0 ≤ a101; replace ha101 : (S.1 29 < 0 ∧ a101 = S.1 27 + 1 - 1) ∨ (0 ≤ S.1 29 ∧ a101 = S.1 29) := ha101; omega, by show S.1 27 + 1 ≤ S.1 2 + 1; omega⟩⟩ | exact ⟨_, hR, hX, rfl, rfl, ⟨_, rfl, by omega, by omega⟩, (rSm.r0.sp (j := 27) (by decide)).sp (j := 29) (by decide), by show S.1 27 + 1 ≤ S.1 27 + 1; omega, Or.inr ⟨by show 0 ≤ a133; replace ha133 : (S.1 29 < 0 ∧ a133 = S.1 27 + 1) ∨ (0 ≤ S.1 29 ∧ a133 = S.1 29) := ha133; omega, by show S.1 27 + 1 ≤ S.1 2 + 1; omega⟩⟩ | exact ⟨_, hR, hX, rfl, rfl, ⟨_, rfl, by omega, by omega⟩, (rSm.r0.sp (j := 27) (by decide)).sp (j := 29) (by decide), by show S.1 27 + 1 ≤ S.1 27 + 1; omega, Or.inr ⟨by show 0 ≤ a133; replace ha133 : (S.1 29 < 0 ∧ a133 = S.1 2) ∨ (0 ≤ S.1 29 ∧ a133 = S.1 29) := ha133; omega, by show S.1 27 + 1 ≤ S.1 2 + 1; omega⟩⟩
        · refine x_iconst (v := zI 1) d_Mo_operator_51 (by decide) ?_
          refine x_goto (tgt := 56) d_Mo_operator_52 (by decide) ?_
          refine z_iadd d_Mo_operator_56 ?_
          refine r_put xf_Mo_193_Mo xp_Mo_27 hR hX (by omega) rfl rfl d_Mo_operator_57 ?_
          intro h hR hX
          refine x_iload_n d_Mo_operator_60 rfl ?_
          refine x_bipush (v := zI 60) d_Mo_operator_61 (by decide) ?_
          refine z_icmp_ne (tgt := 70) d_Mo_operator_63 (by decide) (by omega) (by omega) (fun hc63 => ?_) (fun hc63 => ?_)
          · refine x_iconst (v := zI 4) d_Mo_operator_70 (by decide) ?_
            refine x_iload_n d_Mo_operator_71 rfl ?_
            refine z_if_eq (tgt := 79) d_Mo_operator_72 (by decide) (by omega) (fun hc72 => ?_) (fun hc72 => ?_)
            · refine x_iconst (v := zI 0) d_Mo_operator_79 (by decide) ?_
              refine z_iadd d_Mo_operator_80 ?_
              refine x_iret d_Mo_operator_81 rfl ?_
              first | exact ⟨_, hR, hX, rfl, rfl, ⟨_, rfl, by omega, by omega⟩, (rSm.r0.sp (j := 27) (by decide)).sp (j := 27) (by decide), by show S.1 27 + 1 ≤ S.1 27 + 1 + _; omega, Or.inl ⟨hw, by show S.1 27 + 1 + _ ≤ S.1 2; omega⟩⟩ | exact ⟨_, hR, hX, rfl, rfl, ⟨_, rfl, by omega, by omega⟩, (rSm.r0.sp (j := 27) (by decide)).sp (j := 29) (by decide), by show S.1 27 + 1 ≤ S.1 27 + 1; omega, Or.inr ⟨by show 0 ≤ a101; replace ha101 : (S.1 29 < 0 ∧ a101 = S.1 27 + 1 - 1) ∨ (0 ≤ S.1 29 ∧ a101 = S.1 29) := ha101; omega, by show S.1 27 + 1 ≤ S.1 2 + 1; omega⟩⟩ | exact ⟨_, hR, hX, rfl, rfl, ⟨_, rfl, by omega, by omega⟩, (rSm.r0.sp (j := 27) (by decide)).sp (j := 29) (by decide), by show S.1 27 + 1 ≤ S.1 27 + 1; omega, Or.inr ⟨by show 0 ≤ a133; replace ha133 : (S.1 29 < 0 ∧ a133 = S.1 27 + 1) ∨ (0 ≤ S.1 29 ∧ a133 = S.1 29) := ha133; omega, by show S.1 27 + 1 ≤ S.1 2 + 1; omega⟩⟩ | exact ⟨_, hR, hX, rfl, rfl, ⟨_, rfl, by omega, by omega⟩, (rSm.r0.sp (j := 27) (by decide)).sp (j := 29) (by decide), by show S.1 27 + 1 ≤ S.1 27 + 1; omega, Or.inr ⟨by show 0 ≤ a133; replace ha133 : (S.1 29 < 0 ∧ a133 = S.1 2) ∨ (0 ≤ S.1 29 ∧ a133 = S.1 29) := ha133; omega, by show S.1 27 + 1 ≤ S.1 2 + 1; omega⟩⟩
            · refine x_iconst (v := zI 1) d_Mo_operator_75 (by decide) ?_
              refine x_goto (tgt := 80) d_Mo_operator_76 (by decide) ?_
              refine z_iadd d_Mo_operator_80 ?_
              refine x_iret d_Mo_operator_81 rfl ?_
              first | exact ⟨_, hR, hX, rfl, rfl, ⟨_, rfl, by omega, by omega⟩, (rSm.r0.sp (j := 27) (by decide)).sp (j := 27) (by decide), by show S.1 27 + 1 ≤ S.1 27 + 1 + _; omega, Or.inl ⟨hw, by show S.1 27 + 1 + _ ≤ S.1 2; omega⟩⟩ | exact ⟨_, hR, hX, rfl, rfl, ⟨_, rfl, by omega, by omega⟩, (rSm.r0.sp (j := 27) (by decide)).sp (j := 29) (by decide), by show S.1 27 + 1 ≤ S.1 27 + 1; omega, Or.inr ⟨by show 0 ≤ a101; replace ha101 : (S.1 29 < 0 ∧ a101 = S.1 27 + 1 - 1) ∨ (0 ≤ S.1 29 ∧ a101 = S.1 29) := ha101; omega, by show S.1 27 + 1 ≤ S.1 2 + 1; omega⟩⟩ | exact ⟨_, hR, hX, rfl, rfl, ⟨_, rfl, by omega, by omega⟩, (rSm.r0.sp (j := 27) (by decide)).sp (j := 29) (by decide), by show S.1 27 + 1 ≤ S.1 27 + 1; omega, Or.inr ⟨by show 0 ≤ a133; replace ha133 : (S.1 29 < 0 ∧ a133 = S.1 27 + 1) ∨ (0 ≤ S.1 29 ∧ a133 = S.1 29) := ha133; omega, by show S.1 27 + 1 ≤ S.1 2 + 1; omega⟩⟩ | exact ⟨_, hR, hX, rfl, rfl, ⟨_, rfl, by omega, by omega⟩, (rSm.r0.sp (j := 27) (by decide)).sp (j := 29) (by decide), by show S.1 27 + 1 ≤ S.1 27 + 1; omega, Or.inr ⟨by show 0 ≤ a133; replace ha133 : (S.1 29 < 0 ∧ a133 = S.1 2) ∨ (0 ≤ S.1 29 ∧ a133 = S.1 29) := ha133; omega, by show S.1 27 + 1 ≤ S.1 2 + 1; omega⟩⟩
          · refine x_iconst (v := zI 2) d_Mo_operator_66 (by decide) ?_
            refine x_goto (tgt := 71) d_Mo_operator_67 (by decide) ?_
            refine x_iload_n d_Mo_operator_71 rfl ?_
            refine z_if_eq (tgt := 79) d_Mo_operator_72 (by decide) (by omega) (fun hc72 => ?_) (fun hc72 => ?_)
            · refine x_iconst (v := zI 0) d_Mo_operator_79 (by decide) ?_
              refine z_iadd d_Mo_operator_80 ?_
              refine x_iret d_Mo_operator_81 rfl ?_
              first | exact ⟨_, hR, hX, rfl, rfl, ⟨_, rfl, by omega, by omega⟩, (rSm.r0.sp (j := 27) (by decide)).sp (j := 27) (by decide), by show S.1 27 + 1 ≤ S.1 27 + 1 + _; omega, Or.inl ⟨hw, by show S.1 27 + 1 + _ ≤ S.1 2; omega⟩⟩ | exact ⟨_, hR, hX, rfl, rfl, ⟨_, rfl, by omega, by omega⟩, (rSm.r0.sp (j := 27) (by decide)).sp (j := 29) (by decide), by show S.1 27 + 1 ≤ S.1 27 + 1; omega, Or.inr ⟨by show 0 ≤ a101; replace ha101 : (S.1 29 < 0 ∧ a101 = S.1 27 + 1 - 1) ∨ (0 ≤ S.1 29 ∧ a101 = S.1 29) := ha101; omega, by show S.1 27 + 1 ≤ S.1 2 + 1; omega⟩⟩ | exact ⟨_, hR, hX, rfl, rfl, ⟨_, rfl, by omega, by omega⟩, (rSm.r0.sp (j := 27) (by decide)).sp (j := 29) (by decide), by show S.1 27 + 1 ≤ S.1 27 + 1; omega, Or.inr ⟨by show 0 ≤ a133; replace ha133 : (S.1 29 < 0 ∧ a133 = S.1 27 + 1) ∨ (0 ≤ S.1 29 ∧ a133 = S.1 29) := ha133; omega, by show S.1 27 + 1 ≤ S.1 2 + 1; omega⟩⟩ | exact ⟨_, hR, hX, rfl, rfl, ⟨_, rfl, by omega, by omega⟩, (rSm.r0.sp (j := 27) (by decide)).sp (j := 29) (by decide), by show S.1 27 + 1 ≤ S.1 27 + 1; omega, Or.inr ⟨by show 0 ≤ a133; replace ha133 : (S.1 29 < 0 ∧ a133 = S.1 2) ∨ (0 ≤ S.1 29 ∧ a133 = S.1 29) := ha133; omega, by show S.1 27 + 1 ≤ S.1 2 + 1; omega⟩⟩
            · refine x_iconst (v := zI 1) d_Mo_operator_75 (by decide) ?_
              refine x_goto (tgt := 80) d_Mo_operator_76 (by decide) ?_
              refine z_iadd d_Mo_operator_80 ?_
              refine x_iret d_Mo_operator_81 rfl ?_
              first | exact ⟨_, hR, hX, rfl, rfl, ⟨_, rfl, by omega, by omega⟩, (rSm.r0.sp (j := 27) (by decide)).sp (j := 27) (by decide), by show S.1 27 + 1 ≤ S.1 27 + 1 + _; omega, Or.inl ⟨hw, by show S.1 27 + 1 + _ ≤ S.1 2; omega⟩⟩ | exact ⟨_, hR, hX, rfl, rfl, ⟨_, rfl, by omega, by omega⟩, (rSm.r0.sp (j := 27) (by decide)).sp (j := 29) (by decide), by show S.1 27 + 1 ≤ S.1 27 + 1; omega, Or.inr ⟨by show 0 ≤ a101; replace ha101 : (S.1 29 < 0 ∧ a101 = S.1 27 + 1 - 1) ∨ (0 ≤ S.1 29 ∧ a101 = S.1 29) := ha101; omega, by show S.1 27 + 1 ≤ S.1 2 + 1; omega⟩⟩ | exact ⟨_, hR, hX, rfl, rfl, ⟨_, rfl, by omega, by omega⟩, (rSm.r0.sp (j := 27) (by decide)).sp (j := 29) (by decide), by show S.1 27 + 1 ≤ S.1 27 + 1; omega, Or.inr ⟨by show 0 ≤ a133; replace ha133 : (S.1 29 < 0 ∧ a133 = S.1 27 + 1) ∨ (0 ≤ S.1 29 ∧ a133 = S.1 29) := ha133; omega, by show S.1 27 + 1 ≤ S.1 2 + 1; omega⟩⟩ | exact ⟨_, hR, hX, rfl, rfl, ⟨_, rfl, by omega, by omega⟩, (rSm.r0.sp (j := 27) (by decide)).sp (j := 29) (by decide), by show S.1 27 + 1 ≤ S.1 27 + 1; omega, Or.inr ⟨by show 0 ≤ a133; replace ha133 : (S.1 29 < 0 ∧ a133 = S.1 2) ∨ (0 ≤ S.1 29 ∧ a133 = S.1 29) := ha133; omega, by show S.1 27 + 1 ≤ S.1 2 + 1; omega⟩⟩
  refine x_aload_n d_Mo_operator_0 rfl rfl ?_
  refine x_callV (As := []) (k := k_MarkerTextModel) rfl xcv_Mo_228_Mo (Or.inl hR.1) (RM.ap hR (r_now h27.1 hz)) rfl rfl (Nat.le_of_ble_eq_true rfl) d_Mo_operator_1 ?_
  rintro v1 h cq nq ⟨S1, hR, hX1, rfl, rfl, hE1, r1, rfl, hi1, hr1⟩
  replace hE1 := Eq.symm hE1
  subst hE1
  replace hX := hX.tr hX1
  refine x_istore_n (L' := [_, _, _]) d_Mo_operator_4 rfl rfl ?_
  refine x_aload_n d_Mo_operator_5 rfl rfl ?_
  refine x_dup d_Mo_operator_6 rfl ?_
  refine x_get xf_Mo_193_Mo (Or.inl hR.1) (v := .int (zI (S.1 27))) rfl d_Mo_operator_7 ?_
  have hb7 : inR (S.1 27) := hR.2.2.2 27
  refine x_iconst (v := zI 1) d_Mo_operator_10 (by decide) ?_
  refine z_iadd d_Mo_operator_11 ?_
  refine r_put xf_Mo_193_Mo xp_Mo_27 hR hX (by omega) rfl rfl d_Mo_operator_12 ?_
  intro h hR hX
  refine x_aload_n d_Mo_operator_15 rfl rfl ?_
  refine x_callV (As := []) (k := k_MarkerTextModel) rfl xcv_Mo_228_Mo (Or.inl hR.1) (RM.ap hR (r_now (by show 0 ≤ S.1 27 + 1; omega) hz)) rfl rfl (Nat.le_of_ble_eq_true rfl) d_Mo_operator_16 ?_
  rintro v16 h cq nq ⟨S16, hR, hX16, rfl, rfl, hE16, r16, rfl, hi16, hr16⟩
  replace hE16 := Eq.symm hE16
  subst hE16
  replace hX := hX.tr hX16
  refine x_bipush (v := zI 61) d_Mo_operator_19 (by decide) ?_
  replace hr16 : (S.1 27 + 1 < S.1 2 ∧ r16 = gd (S.2.1 1) (S.1 27 + 1)) ∨ (S.1 2 ≤ S.1 27 + 1 ∧ r16 = -1) := hr16
  refine z_icmp_ne (tgt := 28) d_Mo_operator_21 (by decide) (by omega) (by omega) (fun hc21 => ?_) (fun hc21 => ?_)
  · refine x_iconst (v := zI 0) d_Mo_operator_28 (by decide) ?_
    refine x_istore_n (L' := [_, _, _]) d_Mo_operator_29 rfl rfl ?_
    exact j30 r1 _ hi1 (by omega) hr1 (by omega) _ hR hX
  · refine x_iconst (v := zI 1) d_Mo_operator_24 (by decide) ?_
    refine x_goto (tgt := 29) d_Mo_operator_25 (by decide) ?_
    refine x_istore_n (L' := [_, _, _]) d_Mo_operator_29 rfl rfl ?_
    exact j30 r1 _ hi1 (by omega) hr1 (by omega) _ hR hX
end RF7
