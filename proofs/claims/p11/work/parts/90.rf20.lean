section
abbrev y_Mo_classes : MethodName := ⟨"MarkerTextModel", "classes", "(I)I"⟩
abbrev M_Mo_classes : XMt := (y_Mo_classes, prog_13_method_54_code, 7, (some .int))
theorem d_Mo_classes_46 : decode M_Mo_classes.2.1 46 = .ok (.iload_n 3, 1) := by decide +kernel
theorem d_Mo_classes_47 : decode M_Mo_classes.2.1 47 = .ok (.ifCond .eq 131, 3) := by decide +kernel
theorem d_Mo_classes_178 : decode M_Mo_classes.2.1 178 = .ok (.aload_n 0, 1) := by decide +kernel
theorem d_Mo_classes_179 : decode M_Mo_classes.2.1 179 = .ok (.getfield 314, 3) := by decide +kernel
theorem xw_1212 : (Jvm.Cond.fieldLink "MarkerTextModel" (314 : Nat) "MarkerTextModel" "classes" "I") ∈ xT := xT_at 1212 (by decide +kernel) (by decide +kernel)
theorem xf_Mo_314_Mo : xF "MarkerTextModel" 314 k_MarkerTextModel 42 := ⟨_, _, _, "MarkerTextModel", rfl, by decide, Or.inl xw_1212, Or.inl rfl⟩
theorem d_Mo_classes_182 : decode M_Mo_classes.2.1 182 = .ok (.ireturn, 1) := by decide +kernel
theorem d_Mo_classes_159 : decode M_Mo_classes.2.1 159 = .ok (.aload_n 0, 1) := by decide +kernel
theorem d_Mo_classes_160 : decode M_Mo_classes.2.1 160 = .ok (.getfield 109, 3) := by decide +kernel
theorem d_Mo_classes_163 : decode M_Mo_classes.2.1 163 = .ok (.iload 5, 2) := by decide +kernel
theorem d_Mo_classes_165 : decode M_Mo_classes.2.1 165 = .ok (.dup2, 1) := by decide +kernel
theorem d_Mo_classes_166 : decode M_Mo_classes.2.1 166 = .ok (.iaload, 1) := by decide +kernel
theorem d_Mo_classes_167 : decode M_Mo_classes.2.1 167 = .ok (.iconst 1, 1) := by decide +kernel
theorem d_Mo_classes_168 : decode M_Mo_classes.2.1 168 = .ok (.iadd, 1) := by decide +kernel
theorem d_Mo_classes_169 : decode M_Mo_classes.2.1 169 = .ok (.iastore, 1) := by decide +kernel
theorem d_Mo_classes_170 : decode M_Mo_classes.2.1 170 = .ok (.aload_n 0, 1) := by decide +kernel
theorem d_Mo_classes_171 : decode M_Mo_classes.2.1 171 = .ok (.invokevirtual 308, 3) := by decide +kernel
theorem d_Mo_classes_174 : decode M_Mo_classes.2.1 174 = .ok (.istore_n 3, 1) := by decide +kernel
theorem d_Mo_classes_175 : decode M_Mo_classes.2.1 175 = .ok (.goto (-129), 3) := by decide +kernel
theorem d_Mo_classes_116 : decode M_Mo_classes.2.1 116 = .ok (.iload 6, 2) := by decide +kernel
theorem d_Mo_classes_118 : decode M_Mo_classes.2.1 118 = .ok (.bipush 6, 2) := by decide +kernel
theorem d_Mo_classes_120 : decode M_Mo_classes.2.1 120 = .ok (.if_icmp .ge 29, 3) := by decide +kernel
theorem d_Mo_classes_149 : decode M_Mo_classes.2.1 149 = .ok (.aload_n 0, 1) := by decide +kernel
theorem d_Mo_classes_150 : decode M_Mo_classes.2.1 150 = .ok (.dup, 1) := by decide +kernel
theorem d_Mo_classes_151 : decode M_Mo_classes.2.1 151 = .ok (.getfield 314, 3) := by decide +kernel
theorem d_Mo_classes_154 : decode M_Mo_classes.2.1 154 = .ok (.iconst 1, 1) := by decide +kernel
theorem d_Mo_classes_155 : decode M_Mo_classes.2.1 155 = .ok (.iadd, 1) := by decide +kernel
theorem d_Mo_classes_156 : decode M_Mo_classes.2.1 156 = .ok (.putfield 314, 3) := by decide +kernel
theorem xp_Mo_42 : xP k_MarkerTextModel 42 false .int := ⟨_, _, _, rfl, rfl, by decide +kernel⟩
theorem d_Mo_classes_123 : decode M_Mo_classes.2.1 123 = .ok (.aload_n 0, 1) := by decide +kernel
theorem d_Mo_classes_124 : decode M_Mo_classes.2.1 124 = .ok (.getfield 112, 3) := by decide +kernel
theorem d_Mo_classes_127 : decode M_Mo_classes.2.1 127 = .ok (.bipush 6, 2) := by decide +kernel
theorem d_Mo_classes_129 : decode M_Mo_classes.2.1 129 = .ok (.iload 5, 2) := by decide +kernel
theorem d_Mo_classes_131 : decode M_Mo_classes.2.1 131 = .ok (.imul, 1) := by decide +kernel
theorem d_Mo_classes_132 : decode M_Mo_classes.2.1 132 = .ok (.iload 6, 2) := by decide +kernel
theorem d_Mo_classes_134 : decode M_Mo_classes.2.1 134 = .ok (.iadd, 1) := by decide +kernel
theorem d_Mo_classes_135 : decode M_Mo_classes.2.1 135 = .ok (.aload_n 0, 1) := by decide +kernel
theorem d_Mo_classes_136 : decode M_Mo_classes.2.1 136 = .ok (.getfield 100, 3) := by decide +kernel
theorem d_Mo_classes_139 : decode M_Mo_classes.2.1 139 = .ok (.iload 6, 2) := by decide +kernel
theorem d_Mo_classes_141 : decode M_Mo_classes.2.1 141 = .ok (.iaload, 1) := by decide +kernel
theorem d_Mo_classes_142 : decode M_Mo_classes.2.1 142 = .ok (.iastore, 1) := by decide +kernel
theorem d_Mo_classes_143 : decode M_Mo_classes.2.1 143 = .ok (.iinc 6 1, 3) := by decide +kernel
theorem d_Mo_classes_146 : decode M_Mo_classes.2.1 146 = .ok (.goto (-30), 3) := by decide +kernel
theorem d_Mo_classes_87 : decode M_Mo_classes.2.1 87 = .ok (.iload 5, 2) := by decide +kernel
theorem d_Mo_classes_89 : decode M_Mo_classes.2.1 89 = .ok (.aload_n 0, 1) := by decide +kernel
theorem d_Mo_classes_90 : decode M_Mo_classes.2.1 90 = .ok (.getfield 314, 3) := by decide +kernel
theorem d_Mo_classes_93 : decode M_Mo_classes.2.1 93 = .ok (.if_icmp .ne 66, 3) := by decide +kernel
theorem d_Mo_classes_96 : decode M_Mo_classes.2.1 96 = .ok (.aload_n 0, 1) := by decide +kernel
theorem d_Mo_classes_97 : decode M_Mo_classes.2.1 97 = .ok (.getfield 106, 3) := by decide +kernel
theorem d_Mo_classes_100 : decode M_Mo_classes.2.1 100 = .ok (.iload 5, 2) := by decide +kernel
theorem d_Mo_classes_102 : decode M_Mo_classes.2.1 102 = .ok (.iload 4, 2) := by decide +kernel
theorem d_Mo_classes_104 : decode M_Mo_classes.2.1 104 = .ok (.iastore, 1) := by decide +kernel
theorem d_Mo_classes_105 : decode M_Mo_classes.2.1 105 = .ok (.aload_n 0, 1) := by decide +kernel
theorem d_Mo_classes_106 : decode M_Mo_classes.2.1 106 = .ok (.getfield 109, 3) := by decide +kernel
theorem d_Mo_classes_109 : decode M_Mo_classes.2.1 109 = .ok (.iload 5, 2) := by decide +kernel
theorem d_Mo_classes_111 : decode M_Mo_classes.2.1 111 = .ok (.iconst 0, 1) := by decide +kernel
theorem d_Mo_classes_112 : decode M_Mo_classes.2.1 112 = .ok (.iastore, 1) := by decide +kernel
theorem d_Mo_classes_113 : decode M_Mo_classes.2.1 113 = .ok (.iconst 0, 1) := by decide +kernel
theorem d_Mo_classes_114 : decode M_Mo_classes.2.1 114 = .ok (.istore 6, 2) := by decide +kernel
theorem d_Mo_classes_60 : decode M_Mo_classes.2.1 60 = .ok (.iload 5, 2) := by decide +kernel
theorem d_Mo_classes_62 : decode M_Mo_classes.2.1 62 = .ok (.aload_n 0, 1) := by decide +kernel
theorem d_Mo_classes_63 : decode M_Mo_classes.2.1 63 = .ok (.getfield 314, 3) := by decide +kernel
theorem d_Mo_classes_66 : decode M_Mo_classes.2.1 66 = .ok (.if_icmp .ge 21, 3) := by decide +kernel
theorem d_Mo_classes_69 : decode M_Mo_classes.2.1 69 = .ok (.aload_n 0, 1) := by decide +kernel
theorem d_Mo_classes_70 : decode M_Mo_classes.2.1 70 = .ok (.getfield 106, 3) := by decide +kernel
theorem d_Mo_classes_73 : decode M_Mo_classes.2.1 73 = .ok (.iload 5, 2) := by decide +kernel
theorem d_Mo_classes_75 : decode M_Mo_classes.2.1 75 = .ok (.iaload, 1) := by decide +kernel
theorem d_Mo_classes_76 : decode M_Mo_classes.2.1 76 = .ok (.iload 4, 2) := by decide +kernel
theorem d_Mo_classes_78 : decode M_Mo_classes.2.1 78 = .ok (.if_icmp .eq 9, 3) := by decide +kernel
theorem d_Mo_classes_81 : decode M_Mo_classes.2.1 81 = .ok (.iinc 5 1, 3) := by decide +kernel
theorem d_Mo_classes_84 : decode M_Mo_classes.2.1 84 = .ok (.goto (-24), 3) := by decide +kernel
theorem d_Mo_classes_50 : decode M_Mo_classes.2.1 50 = .ok (.aload_n 0, 1) := by decide +kernel
theorem d_Mo_classes_51 : decode M_Mo_classes.2.1 51 = .ok (.iload_n 2, 1) := by decide +kernel
theorem d_Mo_classes_52 : decode M_Mo_classes.2.1 52 = .ok (.invokevirtual 305, 3) := by decide +kernel
theorem d_Mo_classes_55 : decode M_Mo_classes.2.1 55 = .ok (.istore 4, 2) := by decide +kernel
theorem d_Mo_classes_57 : decode M_Mo_classes.2.1 57 = .ok (.iconst 0, 1) := by decide +kernel
theorem d_Mo_classes_58 : decode M_Mo_classes.2.1 58 = .ok (.istore 5, 2) := by decide +kernel
theorem d_Mo_classes_0 : decode M_Mo_classes.2.1 0 = .ok (.aload_n 0, 1) := by decide +kernel
theorem d_Mo_classes_1 : decode M_Mo_classes.2.1 1 = .ok (.iconst 0, 1) := by decide +kernel
theorem d_Mo_classes_2 : decode M_Mo_classes.2.1 2 = .ok (.putfield 121, 3) := by decide +kernel
theorem d_Mo_classes_5 : decode M_Mo_classes.2.1 5 = .ok (.iload_n 1, 1) := by decide +kernel
theorem d_Mo_classes_6 : decode M_Mo_classes.2.1 6 = .ok (.iconst 1, 1) := by decide +kernel
theorem d_Mo_classes_7 : decode M_Mo_classes.2.1 7 = .ok (.aload_n 0, 1) := by decide +kernel
theorem d_Mo_classes_8 : decode M_Mo_classes.2.1 8 = .ok (.getfield 268, 3) := by decide +kernel
theorem d_Mo_classes_11 : decode M_Mo_classes.2.1 11 = .ok (.ishl, 1) := by decide +kernel
theorem d_Mo_classes_12 : decode M_Mo_classes.2.1 12 = .ok (.iconst 1, 1) := by decide +kernel
theorem d_Mo_classes_13 : decode M_Mo_classes.2.1 13 = .ok (.isub, 1) := by decide +kernel
theorem d_Mo_classes_14 : decode M_Mo_classes.2.1 14 = .ok (.iand, 1) := by decide +kernel
theorem d_Mo_classes_15 : decode M_Mo_classes.2.1 15 = .ok (.istore_n 2, 1) := by decide +kernel
theorem d_Mo_classes_16 : decode M_Mo_classes.2.1 16 = .ok (.aload_n 0, 1) := by decide +kernel
theorem d_Mo_classes_17 : decode M_Mo_classes.2.1 17 = .ok (.iload_n 2, 1) := by decide +kernel
theorem d_Mo_classes_18 : decode M_Mo_classes.2.1 18 = .ok (.invokevirtual 302, 3) := by decide +kernel
theorem d_Mo_classes_21 : decode M_Mo_classes.2.1 21 = .ok (.ifCond .ne 5, 3) := by decide +kernel
theorem d_Mo_classes_26 : decode M_Mo_classes.2.1 26 = .ok (.aload_n 0, 1) := by decide +kernel
theorem d_Mo_classes_27 : decode M_Mo_classes.2.1 27 = .ok (.iconst 0, 1) := by decide +kernel
theorem d_Mo_classes_28 : decode M_Mo_classes.2.1 28 = .ok (.putfield 314, 3) := by decide +kernel
theorem d_Mo_classes_31 : decode M_Mo_classes.2.1 31 = .ok (.aload_n 0, 1) := by decide +kernel
theorem d_Mo_classes_32 : decode M_Mo_classes.2.1 32 = .ok (.iload_n 2, 1) := by decide +kernel
theorem d_Mo_classes_33 : decode M_Mo_classes.2.1 33 = .ok (.putfield 317, 3) := by decide +kernel
theorem xw_1213 : (Jvm.Cond.fieldLink "MarkerTextModel" (317 : Nat) "MarkerTextModel" "classSet" "I") ∈ xT := xT_at 1213 (by decide +kernel) (by decide +kernel)
theorem xf_Mo_317_Mo : xF "MarkerTextModel" 317 k_MarkerTextModel 43 := ⟨_, _, _, "MarkerTextModel", rfl, by decide, Or.inl xw_1213, Or.inl rfl⟩
theorem xp_Mo_43 : xP k_MarkerTextModel 43 false .int := ⟨_, _, _, rfl, rfl, by decide +kernel⟩
theorem d_Mo_classes_36 : decode M_Mo_classes.2.1 36 = .ok (.aload_n 0, 1) := by decide +kernel
theorem d_Mo_classes_37 : decode M_Mo_classes.2.1 37 = .ok (.aload_n 0, 1) := by decide +kernel
theorem d_Mo_classes_38 : decode M_Mo_classes.2.1 38 = .ok (.getfield 147, 3) := by decide +kernel
theorem d_Mo_classes_41 : decode M_Mo_classes.2.1 41 = .ok (.putfield 320, 3) := by decide +kernel
theorem xw_1214 : (Jvm.Cond.fieldLink "MarkerTextModel" (320 : Nat) "MarkerTextModel" "classNames" "I") ∈ xT := xT_at 1214 (by decide +kernel) (by decide +kernel)
theorem xf_Mo_320_Mo : xF "MarkerTextModel" 320 k_MarkerTextModel 44 := ⟨_, _, _, "MarkerTextModel", rfl, by decide, Or.inl xw_1214, Or.inl rfl⟩
theorem xp_Mo_44 : xP k_MarkerTextModel 44 false .int := ⟨_, _, _, rfl, rfl, by decide +kernel⟩
theorem d_Mo_classes_44 : decode M_Mo_classes.2.1 44 = .ok (.iconst 1, 1) := by decide +kernel
theorem d_Mo_classes_45 : decode M_Mo_classes.2.1 45 = .ok (.istore_n 3, 1) := by decide +kernel
theorem d_Mo_classes_24 : decode M_Mo_classes.2.1 24 = .ok (.iconst (-1), 1) := by decide +kernel
theorem d_Mo_classes_25 : decode M_Mo_classes.2.1 25 = .ok (.ireturn, 1) := by decide +kernel
abbrev y_Mo_many : MethodName := ⟨"MarkerTextModel", "many", "(I)I"⟩
abbrev M_Mo_many : XMt := (y_Mo_many, prog_13_method_55_code, 2, (some .int))
theorem d_Mo_many_0 : decode M_Mo_many.2.1 0 = .ok (.aload_n 0, 1) := by decide +kernel
theorem d_Mo_many_1 : decode M_Mo_many.2.1 1 = .ok (.iconst 0, 1) := by decide +kernel
theorem d_Mo_many_2 : decode M_Mo_many.2.1 2 = .ok (.putfield 121, 3) := by decide +kernel
theorem d_Mo_many_5 : decode M_Mo_many.2.1 5 = .ok (.iload_n 1, 1) := by decide +kernel
theorem d_Mo_many_6 : decode M_Mo_many.2.1 6 = .ok (.iconst 0, 1) := by decide +kernel
theorem d_Mo_many_7 : decode M_Mo_many.2.1 7 = .ok (.aload_n 0, 1) := by decide +kernel
theorem d_Mo_many_8 : decode M_Mo_many.2.1 8 = .ok (.getfield 314, 3) := by decide +kernel
theorem d_Mo_many_11 : decode M_Mo_many.2.1 11 = .ok (.iconst 1, 1) := by decide +kernel
theorem d_Mo_many_12 : decode M_Mo_many.2.1 12 = .ok (.isub, 1) := by decide +kernel
theorem d_Mo_many_13 : decode M_Mo_many.2.1 13 = .ok (.invokestatic 150, 3) := by decide +kernel
theorem d_Mo_many_16 : decode M_Mo_many.2.1 16 = .ok (.ifCond .eq 12, 3) := by decide +kernel
theorem d_Mo_many_28 : decode M_Mo_many.2.1 28 = .ok (.iconst (-1), 1) := by decide +kernel
theorem d_Mo_many_29 : decode M_Mo_many.2.1 29 = .ok (.ireturn, 1) := by decide +kernel
theorem d_Mo_many_19 : decode M_Mo_many.2.1 19 = .ok (.aload_n 0, 1) := by decide +kernel
theorem d_Mo_many_20 : decode M_Mo_many.2.1 20 = .ok (.getfield 109, 3) := by decide +kernel
theorem d_Mo_many_23 : decode M_Mo_many.2.1 23 = .ok (.iload_n 1, 1) := by decide +kernel
theorem d_Mo_many_24 : decode M_Mo_many.2.1 24 = .ok (.iaload, 1) := by decide +kernel
theorem d_Mo_many_25 : decode M_Mo_many.2.1 25 = .ok (.goto 4, 3) := by decide +kernel
abbrev y_Mo_inClass : MethodName := ⟨"MarkerTextModel", "inClass", "(II)Z"⟩
abbrev M_Mo_inClass : XMt := (y_Mo_inClass, prog_13_method_56_code, 3, (some .boolean))
theorem d_Mo_inClass_0 : decode M_Mo_inClass.2.1 0 = .ok (.aload_n 0, 1) := by decide +kernel
theorem d_Mo_inClass_1 : decode M_Mo_inClass.2.1 1 = .ok (.iconst 0, 1) := by decide +kernel
theorem d_Mo_inClass_2 : decode M_Mo_inClass.2.1 2 = .ok (.putfield 121, 3) := by decide +kernel
theorem d_Mo_inClass_5 : decode M_Mo_inClass.2.1 5 = .ok (.iload_n 1, 1) := by decide +kernel
theorem d_Mo_inClass_6 : decode M_Mo_inClass.2.1 6 = .ok (.iconst 0, 1) := by decide +kernel
theorem d_Mo_inClass_7 : decode M_Mo_inClass.2.1 7 = .ok (.aload_n 0, 1) := by decide +kernel
theorem d_Mo_inClass_8 : decode M_Mo_inClass.2.1 8 = .ok (.getfield 314, 3) := by decide +kernel
theorem d_Mo_inClass_11 : decode M_Mo_inClass.2.1 11 = .ok (.iconst 1, 1) := by decide +kernel
theorem d_Mo_inClass_12 : decode M_Mo_inClass.2.1 12 = .ok (.isub, 1) := by decide +kernel
theorem d_Mo_inClass_13 : decode M_Mo_inClass.2.1 13 = .ok (.invokestatic 150, 3) := by decide +kernel
theorem d_Mo_inClass_16 : decode M_Mo_inClass.2.1 16 = .ok (.ifCond .eq 31, 3) := by decide +kernel
theorem d_Mo_inClass_47 : decode M_Mo_inClass.2.1 47 = .ok (.iconst 0, 1) := by decide +kernel
theorem d_Mo_inClass_48 : decode M_Mo_inClass.2.1 48 = .ok (.ireturn, 1) := by decide +kernel
theorem d_Mo_inClass_19 : decode M_Mo_inClass.2.1 19 = .ok (.iload_n 2, 1) := by decide +kernel
theorem d_Mo_inClass_20 : decode M_Mo_inClass.2.1 20 = .ok (.iconst 0, 1) := by decide +kernel
theorem d_Mo_inClass_21 : decode M_Mo_inClass.2.1 21 = .ok (.bipush 7, 2) := by decide +kernel
theorem d_Mo_inClass_23 : decode M_Mo_inClass.2.1 23 = .ok (.invokestatic 150, 3) := by decide +kernel
theorem d_Mo_inClass_26 : decode M_Mo_inClass.2.1 26 = .ok (.ifCond .eq 21, 3) := by decide +kernel
theorem d_Mo_inClass_29 : decode M_Mo_inClass.2.1 29 = .ok (.aload_n 0, 1) := by decide +kernel
theorem d_Mo_inClass_30 : decode M_Mo_inClass.2.1 30 = .ok (.getfield 106, 3) := by decide +kernel
theorem d_Mo_inClass_33 : decode M_Mo_inClass.2.1 33 = .ok (.iload_n 1, 1) := by decide +kernel
theorem d_Mo_inClass_34 : decode M_Mo_inClass.2.1 34 = .ok (.iaload, 1) := by decide +kernel
theorem d_Mo_inClass_35 : decode M_Mo_inClass.2.1 35 = .ok (.iload_n 2, 1) := by decide +kernel
theorem d_Mo_inClass_36 : decode M_Mo_inClass.2.1 36 = .ok (.ishr, 1) := by decide +kernel
theorem d_Mo_inClass_37 : decode M_Mo_inClass.2.1 37 = .ok (.iconst 1, 1) := by decide +kernel
theorem d_Mo_inClass_38 : decode M_Mo_inClass.2.1 38 = .ok (.iand, 1) := by decide +kernel
theorem d_Mo_inClass_39 : decode M_Mo_inClass.2.1 39 = .ok (.iconst 1, 1) := by decide +kernel
theorem d_Mo_inClass_40 : decode M_Mo_inClass.2.1 40 = .ok (.if_icmp .ne 7, 3) := by decide +kernel
theorem d_Mo_inClass_43 : decode M_Mo_inClass.2.1 43 = .ok (.iconst 1, 1) := by decide +kernel
theorem d_Mo_inClass_44 : decode M_Mo_inClass.2.1 44 = .ok (.goto 4, 3) := by decide +kernel
abbrev y_Mo_sample : MethodName := ⟨"MarkerTextModel", "sample", "(II)I"⟩
abbrev M_Mo_sample : XMt := (y_Mo_sample, prog_13_method_57_code, 3, (some .int))
theorem d_Mo_sample_0 : decode M_Mo_sample.2.1 0 = .ok (.aload_n 0, 1) := by decide +kernel
theorem d_Mo_sample_1 : decode M_Mo_sample.2.1 1 = .ok (.iconst 0, 1) := by decide +kernel
theorem d_Mo_sample_2 : decode M_Mo_sample.2.1 2 = .ok (.putfield 121, 3) := by decide +kernel
theorem d_Mo_sample_5 : decode M_Mo_sample.2.1 5 = .ok (.iload_n 1, 1) := by decide +kernel
theorem d_Mo_sample_6 : decode M_Mo_sample.2.1 6 = .ok (.iconst 0, 1) := by decide +kernel
theorem d_Mo_sample_7 : decode M_Mo_sample.2.1 7 = .ok (.aload_n 0, 1) := by decide +kernel
theorem d_Mo_sample_8 : decode M_Mo_sample.2.1 8 = .ok (.getfield 314, 3) := by decide +kernel
theorem d_Mo_sample_11 : decode M_Mo_sample.2.1 11 = .ok (.iconst 1, 1) := by decide +kernel
theorem d_Mo_sample_12 : decode M_Mo_sample.2.1 12 = .ok (.isub, 1) := by decide +kernel
theorem d_Mo_sample_13 : decode M_Mo_sample.2.1 13 = .ok (.invokestatic 150, 3) := by decide +kernel
theorem d_Mo_sample_16 : decode M_Mo_sample.2.1 16 = .ok (.ifCond .eq 31, 3) := by decide +kernel
theorem d_Mo_sample_47 : decode M_Mo_sample.2.1 47 = .ok (.iconst (-1), 1) := by decide +kernel
theorem d_Mo_sample_48 : decode M_Mo_sample.2.1 48 = .ok (.ireturn, 1) := by decide +kernel
theorem d_Mo_sample_19 : decode M_Mo_sample.2.1 19 = .ok (.iload_n 2, 1) := by decide +kernel
theorem d_Mo_sample_20 : decode M_Mo_sample.2.1 20 = .ok (.iconst 0, 1) := by decide +kernel
theorem d_Mo_sample_21 : decode M_Mo_sample.2.1 21 = .ok (.aload_n 0, 1) := by decide +kernel
theorem d_Mo_sample_22 : decode M_Mo_sample.2.1 22 = .ok (.getfield 320, 3) := by decide +kernel
theorem d_Mo_sample_25 : decode M_Mo_sample.2.1 25 = .ok (.iconst 1, 1) := by decide +kernel
theorem d_Mo_sample_26 : decode M_Mo_sample.2.1 26 = .ok (.isub, 1) := by decide +kernel
theorem d_Mo_sample_27 : decode M_Mo_sample.2.1 27 = .ok (.invokestatic 150, 3) := by decide +kernel
theorem d_Mo_sample_30 : decode M_Mo_sample.2.1 30 = .ok (.ifCond .eq 17, 3) := by decide +kernel
theorem d_Mo_sample_33 : decode M_Mo_sample.2.1 33 = .ok (.aload_n 0, 1) := by decide +kernel
theorem d_Mo_sample_34 : decode M_Mo_sample.2.1 34 = .ok (.getfield 112, 3) := by decide +kernel
theorem d_Mo_sample_37 : decode M_Mo_sample.2.1 37 = .ok (.bipush 6, 2) := by decide +kernel
theorem d_Mo_sample_39 : decode M_Mo_sample.2.1 39 = .ok (.iload_n 1, 1) := by decide +kernel
theorem d_Mo_sample_40 : decode M_Mo_sample.2.1 40 = .ok (.imul, 1) := by decide +kernel
theorem d_Mo_sample_41 : decode M_Mo_sample.2.1 41 = .ok (.iload_n 2, 1) := by decide +kernel
theorem d_Mo_sample_42 : decode M_Mo_sample.2.1 42 = .ok (.iadd, 1) := by decide +kernel
theorem d_Mo_sample_43 : decode M_Mo_sample.2.1 43 = .ok (.iaload, 1) := by decide +kernel
theorem d_Mo_sample_44 : decode M_Mo_sample.2.1 44 = .ok (.goto 4, 3) := by decide +kernel
end
section RF20
variable {l : Launch} {G : XG} {h : XH} {c n d : Nat} {o : Nat} {rf : Nat → Nat} {S : MS}
/-- the classes that there are -/
def clOk (S : MS) : Prop := 0 ≤ S.1 42 ∧ S.1 42 ≤ 256 ∧ 0 ≤ S.1 44 ∧ S.1 44 ≤ 6
/-- their truths are below 256, none twice -/
def clB (us : List Int) (k : Int) : Prop := (∀ i : Int, 0 ≤ i → i < k → 0 ≤ gd us i ∧ gd us i < 256) ∧ ∀ i j : Int, 0 ≤ i → i < j → j < k → gd us i ≠ gd us j
theorem clB.le {us : List Int} {k : Int} (h : clB us k) : k ≤ 256 := by
  by_cases hk : 0 ≤ k
  · have hp := pig 256 ((List.range k.toNat).map (fun i : Nat => (gd us (i : Int)).toNat)) ?_ ?_
    · rw [List.length_map, List.length_range] at hp
      omega
    · rw [List.Nodup, List.pairwise_map]
      refine List.Pairwise.imp_of_mem ?_ List.pairwise_lt_range
      intro a b ha hb hab
      rw [List.mem_range] at ha hb
      have h1 := h.1 a (by omega) (by omega)
      have h2 := h.1 b (by omega) (by omega)
      have h3 := h.2 a b (by omega) (by omega) (by omega)
      omega
    · intro x hx
      obtain ⟨i, hi, rfl⟩ := List.mem_map.mp hx
      rw [List.mem_range] at hi
      have := h.1 i (by omega) (by omega)
      omega
  · omega
theorem clB.lt {us : List Int} {k b : Int} (h : clB us k) (hl : us.length = 256) (hk0 : 0 ≤ k) (hb : 0 ≤ b ∧ b < 256) (hne : ∀ i : Int, 0 ≤ i → i < k → gd us i ≠ b) : k < 256 := by
  have h1 := h.le
  by_cases hk : k < 256
  · exact hk
  · exfalso
    have hp := pig 256 (b.toNat :: (List.range k.toNat).map (fun i : Nat => (gd us (i : Int)).toNat)) ?_ ?_
    · rw [List.length_cons, List.length_map, List.length_range] at hp
      omega
    · rw [List.nodup_cons]
      refine ⟨fun hm => ?_, ?_⟩
      · obtain ⟨i, hi, e⟩ := List.mem_map.mp hm
        rw [List.mem_range] at hi
        have h2 := h.1 i (by omega) (by omega)
        have h3 := hne i (by omega) (by omega)
        omega
      · rw [List.Nodup, List.pairwise_map]
        refine List.Pairwise.imp_of_mem ?_ List.pairwise_lt_range
        intro a b' ha hb' hab
        rw [List.mem_range] at ha hb'
        have h1 := h.1 a (by omega) (by omega)
        have h2 := h.1 b' (by omega) (by omega)
        have h3 := h.2 a b' (by omega) (by omega) (by omega)
        omega
    · intro x hx
      rcases List.mem_cons.mp hx with rfl | hx
      · omega
      · obtain ⟨i, hi, rfl⟩ := List.mem_map.mp hx
        rw [List.mem_range] at hi
        have := h.1 i (by omega) (by omega)
        omega
abbrev caJ : List Nat := [0, 42, 43, 44]
abbrev caA : List Nat := [25, 38, 39, 40, 41, 45, 46, 47]
theorem r_sample {k q : Int} (hd : 1 ≤ d) (hk : inR k) (hq : inR q) (hK : clOk S) : RM l G d M_Mo_sample [.ref o, .int (zI k), .int (zI q)] o rf S (fun v S' => (∃ r : Int, v = some (.int (zI r))) ∧ S' = sp S 0 0) := by
  obtain ⟨d, rfl⟩ : ∃ q, d = q + 1 := ⟨d - 1, by omega⟩
  intro H0 c n hR
  refine XM.of (by decide +kernel) (Nat.le_of_ble_eq_true rfl) ?_
  have hX : xonly H0 H0 RKs := xonly.rf
  obtain ⟨a1, a2, a3⟩ := hK
  refine x_aload_n d_Mo_sample_0 rfl rfl ?_
  refine x_iconst (v := zI 0) d_Mo_sample_1 (by decide) ?_
  refine r_put xf_Mo_121_Mo xp_Mo_0 hR hX (by omega) rfl rfl d_Mo_sample_2 ?_
  intro h hR hX
  refine x_iload_n d_Mo_sample_5 rfl ?_
  refine x_iconst (v := zI 0) d_Mo_sample_6 (by decide) ?_
  refine x_aload_n d_Mo_sample_7 rfl rfl ?_
  refine x_get xf_Mo_314_Mo (Or.inl hR.1) (v := .int (zI (S.1 42))) rfl d_Mo_sample_8 ?_
  have hb8 : inR (S.1 42) := hR.2.2.2 42
  refine x_iconst (v := zI 1) d_Mo_sample_11 (by decide) ?_
  refine z_isub d_Mo_sample_12 ?_
  refine x_callS (As := [_, _, _]) xcs_Mo_150 (r_in hk (by decide) (by omega)) rfl rfl (Nat.le_of_ble_eq_true rfl) d_Mo_sample_13 ?_
  rintro v13 h cq nq ⟨rfl, rfl, rfl, r13, rfl, hr13⟩
  refine z_if_eq (tgt := 47) d_Mo_sample_16 (by decide) (by omega) (fun hc16 => ?_) (fun hc16 => ?_)
  · refine x_iconst (v := zI (-1)) d_Mo_sample_47 (by decide) ?_
    refine x_iret d_Mo_sample_48 rfl ?_
    exact ⟨_, hR, hX, rfl, rfl, ⟨_, rfl⟩, rfl⟩
  · refine x_iload_n d_Mo_sample_19 rfl ?_
    refine x_iconst (v := zI 0) d_Mo_sample_20 (by decide) ?_
    refine x_aload_n d_Mo_sample_21 rfl rfl ?_
    refine x_get xf_Mo_320_Mo (Or.inl hR.1) (v := .int (zI (S.1 44))) rfl d_Mo_sample_22 ?_
    have hb22 : inR (S.1 44) := hR.2.2.2 44
    refine x_iconst (v := zI 1) d_Mo_sample_25 (by decide) ?_
    refine z_isub d_Mo_sample_26 ?_
    refine x_callS (As := [_, _, _]) xcs_Mo_150 (r_in hq (by decide) (by omega)) rfl rfl (Nat.le_of_ble_eq_true rfl) d_Mo_sample_27 ?_
    rintro v27 h cq nq ⟨rfl, rfl, rfl, r27, rfl, hr27⟩
    refine z_if_eq (tgt := 47) d_Mo_sample_30 (by decide) (by omega) (fun hc30 => ?_) (fun hc30 => ?_)
    · refine x_iconst (v := zI (-1)) d_Mo_sample_47 (by decide) ?_
      refine x_iret d_Mo_sample_48 rfl ?_
      exact ⟨_, hR, hX, rfl, rfl, ⟨_, rfl⟩, rfl⟩
    · refine x_aload_n d_Mo_sample_33 rfl rfl ?_
      refine x_get xf_Mo_112_Mo (Or.inl hR.1) (v := .ref (rf 47)) rfl d_Mo_sample_34 ?_
      refine x_bipush (v := zI 6) d_Mo_sample_37 (by decide) ?_
      refine x_iload_n d_Mo_sample_39 rfl ?_
      refine z_imul d_Mo_sample_40 ?_
      refine x_iload_n d_Mo_sample_41 rfl ?_
      refine z_iadd d_Mo_sample_42 ?_
      refine r_iald (i := 47) (us := (S.2.1 47)) rfl (by decide) hR rfl (by omega) (by show 6 * k + q < 1536; omega) d_Mo_sample_43 (fun hr43 => ?_)
      refine x_goto (tgt := 48) d_Mo_sample_44 (by decide) ?_
      refine x_iret d_Mo_sample_48 rfl ?_
      exact ⟨_, hR, hX, rfl, rfl, ⟨_, rfl⟩, rfl⟩
end RF20
