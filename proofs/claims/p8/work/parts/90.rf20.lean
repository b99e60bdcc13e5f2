section
abbrev y_Mo_classes : MethodName := ⟨"MarkerTextModel", "classes", "(I)I"⟩
abbrev M_Mo_classes : XMt := (y_Mo_classes, prog_13_method_54_code, 7, (some .int))
theorem d_Mo_classes_46 : decode M_Mo_classes.2.1 46 = .ok (.iload_n 3, 1) := by decide +kernel
theorem d_Mo_classes_47 : decode M_Mo_classes.2.1 47 = .ok (.ifCond .eq 131, 3) := by decide +kernel
theorem d_Mo_classes_178 : decode M_Mo_classes.2.1 178 = .ok (.aload_n 0, 1) := by decide +kernel
theorem d_Mo_classes_179 : decode M_Mo_classes.2.1 179 = .ok (.getfield 314, 3) := by decide +kernel
theorem xw_1212 : (Jvm.Cond.fieldLink "MarkerTextModel" (314 : Nat) "MarkerTextModel" "classes" "I") ∈ xT := xT_at 1212 (by decide +kernel) (by decide +kernel)
theorem xf_Mo_314_Mo : xF "MarkerTextModel" 314 k_MarkerTextModel 42 := ⟨_, _, _, "MarkerTextModel", rfl, by decide, Or.inl xw_1212, Or.inl rfl⟩
theorem d_Mo_classes_182 : decode M_Mo_classes.2.1 182 = .ok (.ireturn, 1) := by decide +kernel
theorem d_Mo_classes_159 : decode M_Mo_classes.2.1 159 = .ok (.aload_n 0, 1) := by decide +kernel
theorem d_Mo_classes_160 : decode M_Mo_classes.2.1 160 = .ok (.getfield 109, 3) := by decide +kernel
theorem d_Mo_classes_163 : decode M_Mo_classes.2.1 163 = .ok (.iload 5, 2) := by decide +kernel
theorem d_Mo_classes_165 : decode M_Mo_classes.2.1 165 = .ok (.dup2, 1) := by decide +kernel
theorem d_Mo_classes_166 : decode M_Mo_classes.2.1 166 = .ok (.iaload, 1) := by decide +kernel
theorem d_Mo_classes_167 : decode M_Mo_classes.2.1 167 = .ok (.iconst 1, 1) := by decide +kernel
theorem d_Mo_classes_168 : decode M_Mo_classes.2.1 168 = .ok (.iadd, 1) := by decide +kernel
theorem d_Mo_classes_169 : decode M_Mo_classes.2.1 169 = .ok (.iastore, 1) := by decide +kernel
theorem d_Mo_classes_170 : decode M_Mo_classes.2.1 170 = .ok (.aload_n 0, 1) := by decide +kernel
theorem d_Mo_classes_171 : decode M_Mo_classes.2.1 171 = .ok (.invokevirtual 308, 3) := by decide +kernel
theorem d_Mo_classes_174 : decode M_Mo_classes.2.1 174 = .ok (.istore_n 3, 1) := by decide +kernel
theorem d_Mo_classes_175 : decode M_Mo_classes.2.1 175 = .ok (.goto (-129), 3) := by decide +kernel
theorem d_Mo_classes_116 : decode M_Mo_classes.2.1 116 = .ok (.iload 6, 2) := by decide +kernel
theorem d_Mo_classes_118 : decode M_Mo_classes.2.1 118 = .ok (.bipush 6, 2) := by decide +kernel
theorem d_Mo_classes_120 : decode M_Mo_classes.2.1 120 = .ok (.if_icmp .ge 29, 3) := by decide +kernel
theorem d_Mo_classes_149 : decode M_Mo_classes.2.1 149 = .ok (.aload_n 0, 1) := by decide +kernel
theorem d_Mo_classes_150 : decode M_Mo_classes.2.1 150 = .ok (.dup, 1) := by decide +kernel
theorem d_Mo_classes_151 : decode M_Mo_classes.2.1 151 = .ok (.getfield 314, 3) := by decide +kernel
theorem d_Mo_classes_154 : decode M_Mo_classes.2.1 154 = .ok (.iconst 1, 1) := by decide +kernel
theorem d_Mo_classes_155 : decode M_Mo_classes.2.1 155 = .ok (.iadd, 1) := by decide +kernel
theorem d_Mo_classes_156 : decode M_Mo_classes.2.1 156 = .ok (.putfield 314, 3) := by decide +kernel
theorem xp_Mo_42 : xP k_MarkerTextModel 42 false .int := ⟨_, _, _, rfl, rfl, by decide +kernel⟩
theorem d_Mo_classes_123 : decode M_Mo_classes.2.1 123 = .ok (.aload_n 0, 1) := by decide +kernel
theorem d_Mo_classes_124 : decode M_Mo_classes.2.1 124 = .ok (.getfield 112, 3) := by decide +kernel
theorem d_Mo_classes_127 : decode M_Mo_classes.2.1 127 = .ok (.bipush 6, 2) := by decide +kernel
theorem d_Mo_classes_129 : decode M_Mo_classes.2.1 129 = .ok (.iload 5, 2) := by decide +kernel
theorem d_Mo_classes_131 : decode M_Mo_classes.2.1 131 = .ok (.imul, 1) := by decide +kernel
theorem d_Mo_classes_132 : decode M_Mo_classes.2.1 132 = .ok (.iload 6, 2) := by decide +kernel
theorem d_Mo_classes_134 : decode M_Mo_classes.2.1 134 = .ok (.iadd, 1) := by decide +kernel
theorem d_Mo_classes_135 : decode M_Mo_classes.2.1 135 = .ok (.aload_n 0, 1) := by decide +kernel
theorem d_Mo_classes_136 : decode M_Mo_classes.2.1 136 = .ok (.getfield 100, 3) := by decide +kernel
theorem d_Mo_classes_139 : decode M_Mo_classes.2.1 139 = .ok (.iload 6, 2) := by decide +kernel
theorem d_Mo_classes_141 : decode M_Mo_classes.2.1 141 = .ok (.iaload, 1) := by decide +kernel
theorem d_Mo_classes_142 : decode M_Mo_classes.2.1 142 = .ok (.iastore, 1) := by decide +kernel
theorem d_Mo_classes_143 : decode M_Mo_classes.2.1 143 = .ok (.iinc 6 1, 3) := by decide +kernel
theorem d_Mo_classes_146 : decode M_Mo_classes.2.1 146 = .ok (.goto (-30), 3) := by decide +kernel
theorem d_Mo_classes_87 : decode M_Mo_classes.2.1 87 = .ok (.iload 5, 2) := by decide +kernel
theorem d_Mo_classes_89 : decode M_Mo_classes.2.1 89 = .ok (.aload_n 0, 1) := by decide +kernel
theorem d_Mo_classes_90 : decode M_Mo_classes.2.1 90 = .ok (.getfield 314, 3) := by decide +kernel
theorem d_Mo_classes_93 : decode M_Mo_classes.2.1 93 = .ok (.if_icmp .ne 66, 3) := by decide +kernel
theorem d_Mo_classes_96 : decode M_Mo_classes.2.1 96 = .ok (.aload_n 0, 1) := by decide +kernel
theorem d_Mo_classes_97 : decode M_Mo_classes.2.1 97 = .ok (.getfield 106, 3) := by decide +kernel
theorem d_Mo_classes_100 : decode M_Mo_classes.2.1 100 = .ok (.iload 5, 2) := by decide +kernel
theorem d_Mo_classes_102 : decode M_Mo_classes.2.1 102 = .ok (.iload 4, 2) := by decide +kernel
theorem d_Mo_classes_104 : decode M_Mo_classes.2.1 104 = .ok (.iastore, 1) := by decide +kernel
theorem d_Mo_classes_105 : decode M_Mo_classes.2.1 105 = .ok (.aload_n 0, 1) := by decide +kernel
theorem d_Mo_classes_106 : decode M_Mo_classes.2.1 106 = .ok (.getfield 109, 3) := by decide +kernel
theorem d_Mo_classes_109 : decode M_Mo_classes.2.1 109 = .ok (.iload 5, 2) := by decide +kernel
theorem d_Mo_classes_111 : decode M_Mo_classes.2.1 111 = .ok (.iconst 0, 1) := by decide +kernel
theorem d_Mo_classes_112 : decode M_Mo_classes.2.1 112 = .ok (.iastore, 1) := by decide +kernel
theorem d_Mo_classes_113 : decode M_Mo_classes.2.1 113 = .ok (.iconst 0, 1) := by decide +kernel
theorem d_Mo_classes_114 : decode M_Mo_classes.2.1 114 = .ok (.istore 6, 2) := by decide +kernel
theorem d_Mo_classes_60 : decode M_Mo_classes.2.1 60 = .ok (.iload 5, 2) := by decide +kernel
theorem d_Mo_classes_62 : decode M_Mo_classes.2.1 62 = .ok (.aload_n 0, 1) := by decide +kernel
theorem d_Mo_classes_63 : decode M_Mo_classes.2.1 63 = .ok (.getfield 314, 3) := by decide +kernel
theorem d_Mo_classes_66 : decode M_Mo_classes.2.1 66 = .ok (.if_icmp .ge 21, 3) := by decide +kernel
theorem d_Mo_classes_69 : decode M_Mo_classes.2.1 69 = .ok (.aload_n 0, 1) := by decide +kernel
theorem d_Mo_classes_70 : decode M_Mo_classes.2.1 70 = .ok (.getfield 106, 3) := by decide +kernel
theorem d_Mo_classes_73 : decode M_Mo_classes.2.1 73 = .ok (.iload 5, 2) := by decide +kernel
theorem d_Mo_classes_75 : decode M_Mo_classes.2.1 75 = .ok (.iaload, 1) := by decide +kernel
theorem d_Mo_classes_76 : decode M_Mo_classes.2.1 76 = .ok (.iload 4, 2) := by decide +kernel
theorem d_Mo_classes_78 : decode M_Mo_classes.2.1 78 = .ok (.if_icmp .eq 9, 3) := by decide +kernel
theorem d_Mo_classes_81 : decode M_Mo_classes.2.1 81 = .ok (.iinc 5 1, 3) := by decide +kernel
theorem d_Mo_classes_84 : decode M_Mo_classes.2.1 84 = .ok (.goto (-24), 3) := by decide +kernel
theorem d_Mo_classes_50 : decode M_Mo_classes.2.1 50 = .ok (.aload_n 0, 1) := by decide +kernel
theorem d_Mo_classes_51 : decode M_Mo_classes.2.1 51 = .ok (.iload_n 2, 1) := by decide +kernel
theorem d_Mo_classes_52 : decode M_Mo_classes.2.1 52 = .ok (.invokevirtual 305, 3) := by decide +kernel
theorem d_Mo_classes_55 : decode M_Mo_classes.2.1 55 = .ok (.istore 4, 2) := by decide +kernel
theorem d_Mo_classes_57 : decode M_Mo_classes.2.1 57 = .ok (.iconst 0, 1) := by decide +kernel
theorem d_Mo_classes_58 : decode M_Mo_classes.2.1 58 = .ok (.istore 5, 2) := by decide +kernel
theorem d_Mo_classes_0 : decode M_Mo_classes.2.1 0 = .ok (.aload_n 0, 1) := by decide +kernel
theorem d_Mo_classes_1 : decode M_Mo_classes.2.1 1 = .ok (.iconst 0, 1) := by decide +kernel
theorem d_Mo_classes_2 : decode M_Mo_classes.2.1 2 = .ok (.putfield 121, 3) := by decide +kernel
theorem d_Mo_classes_5 : decode M_Mo_classes.2.1 5 = .ok (.iload_n 1, 1) := by decide +kernel
theorem d_Mo_classes_6 : decode M_Mo_classes.2.1 6 = .ok (.iconst 1, 1) := by decide +kernel
theorem d_Mo_classes_7 : decode M_Mo_classes.2.1 7 = .ok (.aload_n 0, 1) := by decide +kernel
theorem d_Mo_classes_8 : decode M_Mo_classes.2.1 8 = .ok (.getfield 268, 3) := by decide +kernel
theorem d_Mo_classes_11 : decode M_Mo_classes.2.1 11 = .ok (.ishl, 1) := by decide +kernel
theorem d_Mo_classes_12 : decode M_Mo_classes.2.1 12 = .ok (.iconst 1, 1) := by decide +kernel
theorem d_Mo_classes_13 : decode M_Mo_classes.2.1 13 = .ok (.isub, 1) := by decide +kernel
theorem d_Mo_classes_14 : decode M_Mo_classes.2.1 14 = .ok (.iand, 1) := by decide +kernel
theorem d_Mo_classes_15 : decode M_Mo_classes.2.1 15 = .ok (.istore_n 2, 1) := by decide +kernel
theorem d_Mo_classes_16 : decode M_Mo_classes.2.1 16 = .ok (.aload_n 0, 1) := by decide +kernel
theorem d_Mo_classes_17 : decode M_Mo_classes.2.1 17 = .ok (.iload_n 2, 1) := by decide +kernel
theorem d_Mo_classes_18 : decode M_Mo_classes.2.1 18 = .ok (.invokevirtual 302, 3) := by decide +kernel
theorem d_Mo_classes_21 : decode M_Mo_classes.2.1 21 = .ok (.ifCond .ne 5, 3) := by decide +kernel
theorem d_Mo_classes_26 : decode M_Mo_classes.2.1 26 = .ok (.aload_n 0, 1) := by decide +kernel
theorem d_Mo_classes_27 : decode M_Mo_classes.2.1 27 = .ok (.iconst 0, 1) := by decide +kernel
theorem d_Mo_classes_28 : decode M_Mo_classes.2.1 28 = .ok (.putfield 314, 3) := by decide +kernel
theorem d_Mo_classes_31 : decode M_Mo_classes.2.1 31 = .ok (.aload_n 0, 1) := by decide +kernel
theorem d_Mo_classes_32 : decode M_Mo_classes.2.1 32 = .ok (.iload_n 2, 1) := by decide +kernel
theorem d_Mo_classes_33 : decode M_Mo_classes.2.1 33 = .ok (.putfield 317, 3) := by decide +kernel
theorem xw_1213 : (Jvm.Cond.fieldLink "MarkerTextModel" (317 : Nat) "MarkerTextModel" "classSet" "I") ∈ xT := xT_at 1213 (by decide +kernel) (by decide +kernel)
theorem xf_Mo_317_Mo : xF "MarkerTextModel" 317 k_MarkerTextModel 43 := ⟨_, _, _, "MarkerTextModel", rfl, by decide, Or.inl xw_1213, Or.inl rfl⟩
theorem xp_Mo_43 : xP k_MarkerTextModel 43 false .int := ⟨_, _, _, rfl, rfl, by decide +kernel⟩
theorem d_Mo_classes_36 : decode M_Mo_classes.2.1 36 = .ok (.aload_n 0, 1) := by decide +kernel
theorem d_Mo_classes_37 : decode M_Mo_classes.2.1 37 = .ok (.aload_n 0, 1) := by decide +kernel
theorem d_Mo_classes_38 : decode M_Mo_classes.2.1 38 = .ok (.getfield 147, 3) := by decide +kernel
theorem d_Mo_classes_41 : decode M_Mo_classes.2.1 41 = .ok (.putfield 320, 3) := by decide +kernel
theorem xw_1214 : (Jvm.Cond.fieldLink "MarkerTextModel" (320 : Nat) "MarkerTextModel" "classNames" "I") ∈ xT := xT_at 1214 (by decide +kernel) (by decide +kernel)
theorem xf_Mo_320_Mo : xF "MarkerTextModel" 320 k_MarkerTextModel 44 := ⟨_, _, _, "MarkerTextModel", rfl, by decide, Or.inl xw_1214, Or.inl rfl⟩
theorem xp_Mo_44 : xP k_MarkerTextModel 44 false .int := ⟨_, _, _, rfl, rfl, by decide +kernel⟩
theorem d_Mo_classes_44 : decode M_Mo_classes.2.1 44 = .ok (.iconst 1, 1) := by decide +kernel
theorem d_Mo_classes_45 : decode M_Mo_classes.2.1 45 = .ok (.istore_n 3, 1) := by decide +kernel
theorem d_Mo_classes_24 : decode M_Mo_classes.2.1 24 = .ok (.iconst (-1), 1) := by decide +kernel
theorem d_Mo_classes_25 : decode M_Mo_classes.2.1 25 = .ok (.ireturn, 1) := by decide +kernel
abbrev y_Mo_many : MethodName := ⟨"MarkerTextModel", "many", "(I)I"⟩
abbrev M_Mo_many : XMt := (y_Mo_many, prog_13_method_55_code, 2, (some .int))
theorem d_Mo_many_0 : decode M_Mo_many.2.1 0 = .ok (.aload_n 0, 1) := by decide +kernel
theorem d_Mo_many_1 : decode M_Mo_many.2.1 1 = .ok (.iconst 0, 1) := by decide +kernel
theorem d_Mo_many_2 : decode M_Mo_many.2.1 2 = .ok (.putfield 121, 3) := by decide +kernel
theorem d_Mo_many_5 : decode M_Mo_many.2.1 5 = .ok (.iload_n 1, 1) := by decide +kernel
theorem d_Mo_many_6 : decode M_Mo_many.2.1 6 = .ok (.iconst 0, 1) := by decide +kernel
theorem d_Mo_many_7 : decode M_Mo_many.2.1 7 = .ok (.aload_n 0, 1) := by decide +kernel
theorem d_Mo_many_8 : decode M_Mo_many.2.1 8 = .ok (.getfield 314, 3) := by decide +kernel
theorem d_Mo_many_11 : decode M_Mo_many.2.1 11 = .ok (.iconst 1, 1) := by decide +kernel
theorem d_Mo_many_12 : decode M_Mo_many.2.1 12 = .ok (.isub, 1) := by decide +kernel
theorem d_Mo_many_13 : decode M_Mo_many.2.1 13 = .ok (.invokestatic 150, 3) := by decide +kernel
theorem d_Mo_many_16 : decode M_Mo_many.2.1 16 = .ok (.ifCond .eq 12, 3) := by decide +kernel
theorem d_Mo_many_28 : decode M_Mo_many.2.1 28 = .ok (.iconst (-1), 1) := by decide +kernel
theorem d_Mo_many_29 : decode M_Mo_many.2.1 29 = .ok (.ireturn, 1) := by decide +kernel
theorem d_Mo_many_19 : decode M_Mo_many.2.1 19 = .ok (.aload_n 0, 1) := by decide +kernel
theorem d_Mo_many_20 : decode M_Mo_many.2.1 20 = .ok (.getfield 109, 3) := by decide +kernel
theorem d_Mo_many_23 : decode M_Mo_many.2.1 23 = .ok (.iload_n 1, 1) := by decide +kernel
theorem d_Mo_many_24 : decode M_Mo_many.2.1 24 = .ok (.iaload, 1) := by decide +kernel
theorem d_Mo_many_25 : decode M_Mo_many.2.1 25 = .ok (.goto 4, 3) := by decide +kernel
abbrev y_Mo_inClass : MethodName := ⟨"MarkerTextModel", "inClass", "(II)Z"⟩
abbrev M_Mo_inClass : XMt := (y_Mo_inClass, prog_13_method_56_code, 3, (some .boolean))
theorem d_Mo_inClass_0 : decode M_Mo_inClass.2.1 0 = .ok (.aload_n 0, 1) := by decide +kernel
theorem d_Mo_inClass_1 : decode M_Mo_inClass.2.1 1 = .ok (.iconst 0, 1) := by decide +kernel
theorem d_Mo_inClass_2 : decode M_Mo_inClass.2.1 2 = .ok (.putfield 121, 3) := by decide +kernel
theorem d_Mo_inClass_5 : decode M_Mo_inClass.2.1 5 = .ok (.iload_n 1, 1) := by decide +kernel
theorem d_Mo_inClass_6 : decode M_Mo_inClass.2.1 6 = .ok (.iconst 0, 1) := by decide +kernel
theorem d_Mo_inClass_7 : decode M_Mo_inClass.2.1 7 = .ok (.aload_n 0, 1) := by decide +kernel
theorem d_Mo_inClass_8 : decode M_Mo_inClass.2.1 8 = .ok (.getfield 314, 3) := by decide +kernel
theorem d_Mo_inClass_11 : decode M_Mo_inClass.2.1 11 = .ok (.iconst 1, 1) := by decide +kernel
theorem d_Mo_inClass_12 : decode M_Mo_inClass.2.1 12 = .ok (.isub, 1) := by decide +kernel
theorem d_Mo_inClass_13 : decode M_Mo_inClass.2.1 13 = .ok (.invokestatic 150, 3) := by decide +kernel
theorem d_Mo_inClass_16 : decode M_Mo_inClass.2.1 16 = .ok (.ifCond .eq 31, 3) := by decide +kernel
theorem d_Mo_inClass_47 : decode M_Mo_inClass.2.1 47 = .ok (.iconst 0, 1) := by decide +kernel
theorem d_Mo_inClass_48 : decode M_Mo_inClass.2.1 48 = .ok (.ireturn, 1) := by decide +kernel
theorem d_Mo_inClass_19 : decode M_Mo_inClass.2.1 19 = .ok (.iload_n 2, 1) := by decide +kernel
theorem d_Mo_inClass_20 : decode M_Mo_inClass.2.1 20 = .ok (.iconst 0, 1) := by decide +kernel
theorem d_Mo_inClass_21 : decode M_Mo_inClass.2.1 21 = .ok (.bipush 7, 2) := by decide +kernel
theorem d_Mo_inClass_23 : decode M_Mo_inClass.2.1 23 = .ok (.invokestatic 150, 3) := by decide +kernel
theorem d_Mo_inClass_26 : decode M_Mo_inClass.2.1 26 = .ok (.ifCond .eq 21, 3) := by decide +kernel
theorem d_Mo_inClass_29 : decode M_Mo_inClass.2.1 29 = .ok (.aload_n 0, 1) := by decide +kernel
theorem d_Mo_inClass_30 : decode M_Mo_inClass.2.1 30 = .ok (.getfield 106, 3) := by decide +kernel
theorem d_Mo_inClass_33 : decode M_Mo_inClass.2.1 33 = .ok (.iload_n 1, 1) := by decide +kernel
theorem d_Mo_inClass_34 : decode M_Mo_inClass.2.1 34 = .ok (.iaload, 1) := by decide +kernel
theorem d_Mo_inClass_35 : decode M_Mo_inClass.2.1 35 = .ok (.iload_n 2, 1) := by decide +kernel
theorem d_Mo_inClass_36 : decode M_Mo_inClass.2.1 36 = .ok (.ishr, 1) := by decide +kernel
theorem d_Mo_inClass_37 : decode M_Mo_inClass.2.1 37 = .ok (.iconst 1, 1) := by decide +kernel
theorem d_Mo_inClass_38 : decode M_Mo_inClass.2.1 38 = .ok (.iand, 1) := by decide +kernel
theorem d_Mo_inClass_39 : decode M_Mo_inClass.2.1 39 = .ok (.iconst 1, 1) := by decide +kernel
theorem d_Mo_inClass_40 : decode M_Mo_inClass.2.1 40 = .ok (.if_icmp .ne 7, 3) := by decide +kernel
theorem d_Mo_inClass_43 : decode M_Mo_inClass.2.1 43 = .ok (.iconst 1, 1) := by decide +kernel
theorem d_Mo_inClass_44 : decode M_Mo_inClass.2.1 44 = .ok (.goto 4, 3) := by decide +kernel
abbrev y_Mo_sample : MethodName := ⟨"MarkerTextModel", "sample", "(II)I"⟩
abbrev M_Mo_sample : XMt := (y_Mo_sample, prog_13_method_57_code, 3, (some .int))
theorem d_Mo_sample_0 : decode M_Mo_sample.2.1 0 = .ok (.aload_n 0, 1) := by decide +kernel
theorem d_Mo_sample_1 : decode M_Mo_sample.2.1 1 = .ok (.iconst 0, 1) := by decide +kernel
theorem d_Mo_sample_2 : decode M_Mo_sample.2.1 2 = .ok (.putfield 121, 3) := by decide +kernel
theorem d_Mo_sample_5 : decode M_Mo_sample.2.1 5 = .ok (.iload_n 1, 1) := by decide +kernel
theorem d_Mo_sample_6 : decode M_Mo_sample.2.1 6 = .ok (.iconst 0, 1) := by decide +kernel
theorem d_Mo_sample_7 : decode M_Mo_sample.2.1 7 = .ok (.aload_n 0, 1) := by decide +kernel
theorem d_Mo_sample_8 : decode M_Mo_sample.2.1 8 = .ok (.getfield 314, 3) := by decide +kernel
theorem d_Mo_sample_11 : decode M_Mo_sample.2.1 11 = .ok (.iconst 1, 1) := by decide +kernel
theorem d_Mo_sample_12 : decode M_Mo_sample.2.1 12 = .ok (.isub, 1) := by decide +kernel
theorem d_Mo_sample_13 : decode M_Mo_sample.2.1 13 = .ok (.invokestatic 150, 3) := by decide +kernel
theorem d_Mo_sample_16 : decode M_Mo_sample.2.1 16 = .ok (.ifCond .eq 31, 3) := by decide +kernel
theorem d_Mo_sample_47 : decode M_Mo_sample.2.1 47 = .ok (.iconst (-1), 1) := by decide +kernel
theorem d_Mo_sample_48 : decode M_Mo_sample.2.1 48 = .ok (.ireturn, 1) := by decide +kernel
theorem d_Mo_sample_19 : decode M_Mo_sample.2.1 19 = .ok (.iload_n 2, 1) := by decide +kernel
theorem d_Mo_sample_20 : decode M_Mo_sample.2.1 20 = .ok (.iconst 0, 1) := by decide +kernel
theorem d_Mo_sample_21 : decode M_Mo_sample.2.1 21 = .ok (.aload_n 0, 1) := by decide +kernel
theorem d_Mo_sample_22 : decode M_Mo_sample.2.1 22 = .ok (.getfield 320, 3) := by decide +kernel
theorem d_Mo_sample_25 : decode M_Mo_sample.2.1 25 = .ok (.iconst 1, 1) := by decide +kernel
theorem d_Mo_sample_26 : decode M_Mo_sample.2.1 26 = .ok (.isub, 1) := by decide +kernel
theorem d_Mo_sample_27 : decode M_Mo_sample.2.1 27 = .ok (.invokestatic 150, 3) := by decide +kernel
theorem d_Mo_sample_30 : decode M_Mo_sample.2.1 30 = .ok (.ifCond .eq 17, 3) := by decide +kernel
theorem d_Mo_sample_33 : decode M_Mo_sample.2.1 33 = .ok (.aload_n 0, 1) := by decide +kernel
theorem d_Mo_sample_34 : decode M_Mo_sample.2.1 34 = .ok (.getfield 112, 3) := by decide +kernel
theorem d_Mo_sample_37 : decode M_Mo_sample.2.1 37 = .ok (.bipush 6, 2) := by decide +kernel
theorem d_Mo_sample_39 : decode M_Mo_sample.2.1 39 = .ok (.iload_n 1, 1) := by decide +kernel
theorem d_Mo_sample_40 : decode M_Mo_sample.2.1 40 = .ok (.imul, 1) := by decide +kernel
theorem d_Mo_sample_41 : decode M_Mo_sample.2.1 41 = .ok (.iload_n 2, 1) := by decide +kernel
theorem d_Mo_sample_42 : decode M_Mo_sample.2.1 42 = .ok (.iadd, 1) := by decide +kernel
theorem d_Mo_sample_43 : decode M_Mo_sample.2.1 43 = .ok (.iaload, 1) := by decide +kernel
theorem d_Mo_sample_44 : decode M_Mo_sample.2.1 44 = .ok (.goto 4, 3) := by decide +kernel
end
section RF20
variable {l : Launch} {G : XG} {h : XH} {c n d : Nat} {o : Nat} {rf : Nat → Nat} {S : MS}
/-- the classes that there are -/
def clOk (S : MS) : Prop := 0 ≤ S.1 42 ∧ S.1 42 ≤ 256 ∧ 0 ≤ S.1 44 ∧ S.1 44 ≤ 6
/-- their truths are below 256, none twice -/
def clB (us : List Int) (k : Int) : Prop := (∀ i : Int, 0 ≤ i → i < k → 0 ≤ gd us i ∧ gd us i < 256) ∧ ∀ i j : Int, 0 ≤ i → i < j → j < k → gd us i ≠ gd us j
theorem clB.le {us : List Int} {k : Int} (h : clB us k) : k ≤ 256 := by
  by_cases hk : 0 ≤ k
  · have hp := pig 256 ((List.range k.toNat).map (fun i : Nat => (gd us (i : Int)).toNat)) ?_ ?_
    · rw [List.length_map, List.length_range] at hp
      omega
    · rw [List.Nodup, List.pairwise_map]
      refine List.Pairwise.imp_of_mem ?_ List.pairwise_lt_range
      intro a b ha hb hab
      rw [List.mem_range] at ha hb
      have h1 := h.1 a (by omega) (by omega)
      have h2 := h.1 b (by omega) (by omega)
      have h3 := h.2 a b (by omega) (by omega) (by omega)
      omega
    · intro x hx
      obtain ⟨i, hi, rfl⟩ := List.mem_map.mp hx
      rw [List.mem_range] at hi
      have := h.1 i (by omega) (by omega)
      omega
  · omega
theorem clB.ad {us : List Int} {k b : Int} (h : clB us k) (hl : us.length = 256) (hk0 : 0 ≤ k) (hk : k < 256) (hb : 0 ≤ b ∧ b < 256) (hne : ∀ i : Int, 0 ≤ i → i < k → gd us i ≠ b) : clB (se us k b) (k + 1) := by
  have hg : ∀ i : Int, 0 ≤ i → gd (se us k b) i = if i = k then b else gd us i := fun i hi => gd_se_of hl hk0 (by omega) hi
  refine ⟨fun i h0 h1 => ?_, fun i j h0 h1 h2 => ?_⟩
  · rw [hg i h0]
    split
    · exact hb
    · exact h.1 i h0 (by omega)
  · rw [hg i h0, hg j (by omega), if_neg (by omega)]
    by_cases hj : j = k
    · rw [if_pos hj]; exact hne i h0 (by omega)
    · rw [if_neg hj]; exact h.2 i j h0 h1 (by omega)
theorem clB.lt {us : List Int} {k b : Int} (h : clB us k) (hl : us.length = 256) (hk0 : 0 ≤ k) (hb : 0 ≤ b ∧ b < 256) (hne : ∀ i : Int, 0 ≤ i → i < k → gd us i ≠ b) : k < 256 := by
  have h1 := h.le
  by_cases hk : k < 256
  · exact hk
  · exfalso
    have hp := pig 256 (b.toNat :: (List.range k.toNat).map (fun i : Nat => (gd us (i : Int)).toNat)) ?_ ?_
    · rw [List.length_cons, List.length_map, List.length_range] at hp
      omega
    · rw [List.nodup_cons]
      refine ⟨fun hm => ?_, ?_⟩
      · obtain ⟨i, hi, e⟩ := List.mem_map.mp hm
        rw [List.mem_range] at hi
        have h2 := h.1 i (by omega) (by omega)
        have h3 := hne i (by omega) (by omega)
        omega
      · rw [List.Nodup, List.pairwise_map]
        refine List.Pairwise.imp_of_mem ?_ List.pairwise_lt_range
        intro a b' ha hb' hab
        rw [List.mem_range] at ha hb'
        have h1 := h.1 a (by omega) (by omega)
        have h2 := h.1 b' (by omega) (by omega)
        have h3 := h.2 a b' (by omega) (by omega) (by omega)
        omega
    · intro x hx
      rcases List.mem_cons.mp hx with rfl | hx
      · omega
      · obtain ⟨i, hi, rfl⟩ := List.mem_map.mp hx
        rw [List.mem_range] at hi
        have := h.1 i (by omega) (by omega)
        omega
abbrev caJ : List Nat := [0, 42, 43, 44]
abbrev caA : List Nat := [25, 38, 39, 40, 41, 45, 46, 47]
/-- how classes() ends -/
abbrev caQ (S : MS) : Option Value → MS → Prop := fun v S' => (∃ r : Int, v = some (.int (zI r))) ∧ rSm S S' caJ caA [37] ∧ clOk S'
theorem r_classes {w : Int} (hd : 5 ≤ d) (hw : inR w) (hn : nmOk S) (hC : csOk S) (hK : clOk S) : RM l G d M_Mo_classes [.ref o, .int (zI w)] o rf S (caQ S) := by
  obtain ⟨d, rfl⟩ : ∃ q, d = q + 1 := ⟨d - 1, by omega⟩
  intro H0 c n hR
  refine XM.of (by decide +kernel) (Nat.le_of_ble_eq_true rfl) ?_
  have hX : xonly H0 H0 RKs := xonly.rf
  obtain ⟨n1, n2, -⟩ := id hn
  obtain ⟨k1, k2, k3⟩ := id hC
  have ex : ∀ (S1 : MS) (it : Int) (w4 w5 w6 : Option Value), rSm S S1 caJ caA [37] → clOk S1 → RX l G M_Mo_classes (d + 1) 46 [some (.ref o), some (.int (zI w)), some (.int (zI it)), some (.int (zI 0)), w4, w5, w6] [] H0 o rf c n S1 (caQ S) := by
    intro S1 it w4 w5 w6 hsm hk h hR hX
    refine x_iload_n d_Mo_classes_46 rfl ?_
    refine z_if_eq (tgt := 178) d_Mo_classes_47 (by decide) (by omega) (fun _ => ?_) (fun hq => by omega)
    refine x_aload_n d_Mo_classes_178 rfl rfl ?_
    refine x_get xf_Mo_314_Mo (Or.inl hR.1) (v := .int (zI (S1.1 42))) rfl d_Mo_classes_179 ?_
    have hb179 : inR (S1.1 42) := hR.2.2.2 42
    refine x_iret d_Mo_classes_182 rfl ?_
    exact ⟨_, hR, hX, rfl, rfl, ⟨_, rfl⟩, hsm, hk⟩
  -- one CHOICE
  have bd : ∀ (it : Int), inR it → ∀ (S1 : MS) (w4 w5 w6 : Option Value), rSm S S1 caJ caA [37] → mnB S1 326 → chOk S1 → 0 ≤ S1.1 42 → (0 ≤ S1.1 44 ∧ S1.1 44 ≤ 6) → clB (S1.2.1 45) (S1.1 42) → (∀ (S2 : MS) (w4 w5 w6 : Option Value), rSm S S2 caJ caA [37] → mnB S2 326 → chOk S2 → 0 ≤ S2.1 42 → (0 ≤ S2.1 44 ∧ S2.1 44 ≤ 6) → clB (S2.2.1 45) (S2.1 42) → remS S2 + 1 = remS S1 → RX l G M_Mo_classes (d + 1) 46 [some (.ref o), some (.int (zI w)), some (.int (zI it)), some (.int (zI 1)), w4, w5, w6] [] H0 o rf c n S2 (caQ S)) → RX l G M_Mo_classes (d + 1) 46 [some (.ref o), some (.int (zI w)), some (.int (zI it)), some (.int (zI 1)), w4, w5, w6] [] H0 o rf c n S1 (caQ S) := by
    intro it hit S1 w4 w5 w6 hsm hm hc h42 h44 hB nx
    have e3 := hsm.1 3 (by decide)
    have hC1 := hC.sm hsm (by decide) (by decide)
    -- it is counted
    have j159 : ∀ (S4 : MS) (b k : Int) (w6 : Option Value), rSm S S4 caJ caA [37] → mnB S4 326 → chOk S4 → 0 ≤ S4.1 42 → (0 ≤ S4.1 44 ∧ S4.1 44 ≤ 6) → clB (S4.2.1 45) (S4.1 42) → 0 ≤ k → k < S4.1 42 → remS S4 = remS S1 → RX l G M_Mo_classes (d + 1) 159 [some (.ref o), some (.int (zI w)), some (.int (zI it)), some (.int (zI 1)), some (.int (zI b)), some (.int (zI k)), w6] [] H0 o rf c n S4 (caQ S) := by
      intro S4 b k w6 hsm4 hm4 hc4 h424 h444 hB4 hk0 hk1 hrem h hR hX
      have hle := hB4.le
      have e34 := hsm4.1 3 (by decide)
      refine x_aload_n d_Mo_classes_159 rfl rfl ?_
      refine x_get xf_Mo_109_Mo (Or.inl hR.1) (v := .ref (rf 46)) rfl d_Mo_classes_160 ?_
      refine x_iload d_Mo_classes_163 rfl ?_
      refine x_dup2_11 d_Mo_classes_165 rfl rfl ?_
      refine r_iald (i := 46) (us := (S4.2.1 46)) rfl (by decide) hR rfl (by omega) (by show k < 256; omega) d_Mo_classes_166 (fun hr166 => ?_)
      refine x_iconst (v := zI 1) d_Mo_classes_167 (by decide) ?_
      refine z_iadd d_Mo_classes_168 (x_zi ?_)
      have hr168 := inR_ti (zI ((gd (S4.2.1 46) k) + 1))
      refine r_iast (i := 46) (us := (S4.2.1 46)) ⟨rfl, rfl⟩ (by decide) hR hX rfl (by omega) (by show k < 256; omega) (by omega) d_Mo_classes_169 ?_
      intro h hR hX
      refine x_aload_n d_Mo_classes_170 rfl rfl ?_
      refine x_callV (As := []) (k := k_MarkerTextModel) rfl xcv_Mo_308_Mo (Or.inl hR.1) (RM.ap hR (r_advance (S := sa S4 46 (se (S4.2.1 46) k (zI (gd (S4.2.1 46) k + 1)).toInt)) (by omega) (by show 0 ≤ S4.1 3 ∧ S4.1 3 ≤ 6; omega) (by exact hm4) (by exact hc4))) rfl rfl (Nat.le_of_ble_eq_true rfl) d_Mo_classes_171 ?_
      rintro v171 h cq nq ⟨S171, hR, hX171, rfl, rfl, r171, rfl, hr171, hsm171, hc171, hrem171⟩
      replace hX := hX.tr hX171
      refine x_istore_n (L' := [_, _, _, _, _, _, _]) d_Mo_classes_174 rfl rfl ?_
      refine x_goto (tgt := 46) d_Mo_classes_175 (by decide) ?_
      have hz : remS (sa S4 46 (se (S4.2.1 46) k (zI (gd (S4.2.1 46) k + 1)).toInt)) = remS S4 := rfl
      have hsm7 := (hsm4.sa (i := 46) (us := se (S4.2.1 46) k (zI (gd (S4.2.1 46) k + 1)).toInt) (by decide)).tr (hsm171.mono (by decide) (by decide) (by decide))
      have f42 : S171.1 42 = S4.1 42 := hsm171.1 42 (by decide)
      have f44 : S171.1 44 = S4.1 44 := hsm171.1 44 (by decide)
      have f45 : S171.2.1 45 = S4.2.1 45 := hsm171.2.1 45 (by decide)
      by_cases hr : r171 = 0
      · subst hr
        exact ex S171 it _ _ _ hsm7 ⟨by omega, by omega, by omega⟩ _ hR hX
      · obtain rfl : r171 = 1 := by omega
        exact nx S171 _ _ _ hsm7 (fun q q0 q6 => by rw [hsm171.2.1 38 (by decide)]; exact hm4 q q0 q6) hc171 (by omega) (by omega) (by rw [f45, f42]; exact hB4) (by have := hrem171 rfl; omega) _ hR hX
    -- a new class
    have j116 : ∀ (S4 : MS) (b k : Int), rSm S S4 caJ caA [37] → mnB S4 326 → chOk S4 → S4.1 42 = k → (0 ≤ S4.1 44 ∧ S4.1 44 ≤ 6) → clB (S4.2.1 45) (k + 1) → 0 ≤ k → k < 256 → remS S4 = remS S1 → ∀ (K : Nat) (us : List Int) (i : Int), 0 ≤ i → i ≤ 6 → 6 - i ≤ K → RX l G M_Mo_classes (d + 1) 116 [some (.ref o), some (.int (zI w)), some (.int (zI it)), some (.int (zI 1)), some (.int (zI b)), some (.int (zI k)), some (.int (zI i))] [] H0 o rf c n (sa S4 47 us) (caQ S) := by
      intro S4 b k hsm4 hm4 hc4 h424 h444 hB4 hk0 hk1 hrem K
      induction K with
      | zero =>
        intro us i h0 h6 hK h hR hX
        refine x_iload d_Mo_classes_116 rfl ?_
        refine x_bipush (v := zI 6) d_Mo_classes_118 (by decide) ?_
        refine z_icmp_ge (tgt := 149) d_Mo_classes_120 (by decide) (by omega) (by omega) (fun _ => ?_) (fun hq => by omega)
        refine x_aload_n d_Mo_classes_149 rfl rfl ?_
        refine x_dup d_Mo_classes_150 rfl ?_
        refine x_get xf_Mo_314_Mo (Or.inl hR.1) (v := .int (zI (S4.1 42))) rfl d_Mo_classes_151 ?_
        have hb151 : inR (S4.1 42) := hR.2.2.2 42
        refine x_iconst (v := zI 1) d_Mo_classes_154 (by decide) ?_
        refine z_iadd d_Mo_classes_155 ?_
        refine r_put xf_Mo_314_Mo xp_Mo_42 hR hX (by omega) rfl rfl d_Mo_classes_156 ?_
        intro h hR hX
        exact j159 (sp (sa S4 47 us) 42 (S4.1 42 + 1)) b k _ ((hsm4.sa (by decide)).sp (by decide)) hm4 hc4 (by show 0 ≤ S4.1 42 + 1; omega) h444 (by show clB (S4.2.1 45) (S4.1 42 + 1); rw [h424]; exact hB4) hk0 (by show k < S4.1 42 + 1; omega) hrem _ hR hX
      | succ K ih =>
        intro us i h0 h6 hK h hR hX
        refine x_iload d_Mo_classes_116 rfl ?_
        refine x_bipush (v := zI 6) d_Mo_classes_118 (by decide) ?_
        refine z_icmp_ge (tgt := 149) d_Mo_classes_120 (by decide) (by omega) (by omega) (fun hc120 => ?_) (fun hc120 => ?_)
        · refine x_aload_n d_Mo_classes_149 rfl rfl ?_
          refine x_dup d_Mo_classes_150 rfl ?_
          refine x_get xf_Mo_314_Mo (Or.inl hR.1) (v := .int (zI (S4.1 42))) rfl d_Mo_classes_151 ?_
          have hb151 : inR (S4.1 42) := hR.2.2.2 42
          refine x_iconst (v := zI 1) d_Mo_classes_154 (by decide) ?_
          refine z_iadd d_Mo_classes_155 ?_
          refine r_put xf_Mo_314_Mo xp_Mo_42 hR hX (by omega) rfl rfl d_Mo_classes_156 ?_
          intro h hR hX
          exact j159 (sp (sa S4 47 us) 42 (S4.1 42 + 1)) b k _ ((hsm4.sa (by decide)).sp (by decide)) hm4 hc4 (by show 0 ≤ S4.1 42 + 1; omega) h444 (by show clB (S4.2.1 45) (S4.1 42 + 1); rw [h424]; exact hB4) hk0 (by show k < S4.1 42 + 1; omega) hrem _ hR hX
        · refine x_aload_n d_Mo_classes_123 rfl rfl ?_
          refine x_get xf_Mo_112_Mo (Or.inl hR.1) (v := .ref (rf 47)) rfl d_Mo_classes_124 ?_
          refine x_bipush (v := zI 6) d_Mo_classes_127 (by decide) ?_
          refine x_iload d_Mo_classes_129 rfl ?_
          refine z_imul d_Mo_classes_131 ?_
          refine x_iload d_Mo_classes_132 rfl ?_
          refine z_iadd d_Mo_classes_134 ?_
          refine x_aload_n d_Mo_classes_135 rfl rfl ?_
          refine x_get xf_Mo_100_Mo (Or.inl hR.1) (v := .ref (rf 40)) rfl d_Mo_classes_136 ?_
          refine x_iload d_Mo_classes_139 rfl ?_
          refine r_iald (i := 40) (us := (S4.2.1 40)) rfl (by decide) hR rfl (by omega) (by show i < 6; omega) d_Mo_classes_141 (fun hr141 => ?_)
          refine r_iast (i := 47) (us := us) ⟨rfl, rfl⟩ (by decide) hR hX rfl (by omega) (by show 6 * k + i < 1536; omega) (by omega) d_Mo_classes_142 ?_
          intro h hR hX
          refine x_iinc (v := zI (i + 1)) (L' := [_, _, _, _, _, _, _]) d_Mo_classes_143 rfl (zI_add _ _) rfl rfl ?_
          refine x_goto (tgt := 116) d_Mo_classes_146 (by decide) ?_
          exact ih _ (i + 1) (by omega) (by omega) (by omega) _ (by rw [sa_sa] at hR; exact hR) hX
    -- which class
    have j87 : ∀ (us : List Int) (b k : Int) (w6 : Option Value), 0 ≤ b → b < 256 → 0 ≤ k → k ≤ S1.1 42 → (∀ i : Int, 0 ≤ i → i < k → gd (S1.2.1 45) i ≠ b) → RX l G M_Mo_classes (d + 1) 87 [some (.ref o), some (.int (zI w)), some (.int (zI it)), some (.int (zI 1)), some (.int (zI b)), some (.int (zI k)), w6] [] H0 o rf c n (sa S1 41 us) (caQ S) := by
      intro us b k w6 hb0 hb1 hk0 hk1 hne h hR hX
      have l45 : (S1.2.1 45).length = 256 := hR.len 45 (by decide)
      have hle := hB.le
      by_cases hk : k = S1.1 42
      · have hlt := hB.lt l45 h42 ⟨hb0, hb1⟩ (by rw [← hk]; exact hne)
        have hB2 := hB.ad l45 h42 hlt ⟨hb0, hb1⟩ (by rw [← hk]; exact hne)
        rw [← hk] at hB2
        refine x_iload d_Mo_classes_87 rfl ?_
        refine x_aload_n d_Mo_classes_89 rfl rfl ?_
        refine x_get xf_Mo_314_Mo (Or.inl hR.1) (v := .int (zI (S1.1 42))) rfl d_Mo_classes_90 ?_
        have hb90 : inR (S1.1 42) := hR.2.2.2 42
        refine z_icmp_ne (tgt := 159) d_Mo_classes_93 (by decide) (by omega) (by omega) (fun hq => by omega) (fun _ => ?_)
        refine x_aload_n d_Mo_classes_96 rfl rfl ?_
        refine x_get xf_Mo_106_Mo (Or.inl hR.1) (v := .ref (rf 45)) rfl d_Mo_classes_97 ?_
        refine x_iload d_Mo_classes_100 rfl ?_
        refine x_iload d_Mo_classes_102 rfl ?_
        refine r_iast (i := 45) (us := (S1.2.1 45)) ⟨rfl, rfl⟩ (by decide) hR hX rfl (by omega) (by show k < 256; omega) (by omega) d_Mo_classes_104 ?_
        intro h hR hX
        refine x_aload_n d_Mo_classes_105 rfl rfl ?_
        refine x_get xf_Mo_109_Mo (Or.inl hR.1) (v := .ref (rf 46)) rfl d_Mo_classes_106 ?_
        refine x_iload d_Mo_classes_109 rfl ?_
        refine x_iconst (v := zI 0) d_Mo_classes_111 (by decide) ?_
        refine r_iast (i := 46) (us := (S1.2.1 46)) ⟨rfl, rfl⟩ (by decide) hR hX rfl (by omega) (by show k < 256; omega) (by omega) d_Mo_classes_112 ?_
        intro h hR hX
        refine x_iconst (v := zI 0) d_Mo_classes_113 (by decide) ?_
        refine x_istore (L' := [_, _, _, _, _, _, _]) d_Mo_classes_114 rfl rfl ?_
        exact j116 (sa (sa (sa S1 41 us) 45 (se (S1.2.1 45) k b)) 46 (se (S1.2.1 46) k 0)) b k (((hsm.sa (by decide)).sa (by decide)).sa (by decide)) hm hc hk.symm h44 hB2 hk0 (by omega) rfl 6 _ 0 (by omega) (by omega) (by omega) _ (by rw [sa_id (i := 47)]; exact hR) hX
      · refine x_iload d_Mo_classes_87 rfl ?_
        refine x_aload_n d_Mo_classes_89 rfl rfl ?_
        refine x_get xf_Mo_314_Mo (Or.inl hR.1) (v := .int (zI (S1.1 42))) rfl d_Mo_classes_90 ?_
        have hb90 : inR (S1.1 42) := hR.2.2.2 42
        refine z_icmp_ne (tgt := 159) d_Mo_classes_93 (by decide) (by omega) (by omega) (fun _ => ?_) (fun hq => by omega)
        exact j159 (sa S1 41 us) b k _ (hsm.sa (by decide)) hm hc h42 h44 hB hk0 (by show k < S1.1 42; omega) rfl _ hR hX
    have l60 : ∀ (us : List Int) (b : Int) (w6 : Option Value), 0 ≤ b → b < 256 → ∀ (K : Nat) (k : Int), 0 ≤ k → k ≤ S1.1 42 → (∀ i : Int, 0 ≤ i → i < k → gd (S1.2.1 45) i ≠ b) → S1.1 42 - k ≤ K → RX l G M_Mo_classes (d + 1) 60 [some (.ref o), some (.int (zI w)), some (.int (zI it)), some (.int (zI 1)), some (.int (zI b)), some (.int (zI k)), w6] [] H0 o rf c n (sa S1 41 us) (caQ S) := by
      intro us b w6 hb0 hb1 K
      have hle := hB.le
      induction K with
      | zero =>
        intro k hk0 hk1 hne hK h hR hX
        refine x_iload d_Mo_classes_60 rfl ?_
        refine x_aload_n d_Mo_classes_62 rfl rfl ?_
        refine x_get xf_Mo_314_Mo (Or.inl hR.1) (v := .int (zI (S1.1 42))) rfl d_Mo_classes_63 ?_
        have hb63 : inR (S1.1 42) := hR.2.2.2 42
        refine z_icmp_ge (tgt := 87) d_Mo_classes_66 (by decide) (by omega) (by omega) (fun _ => ?_) (fun hq => by omega)
        exact j87 us b k _ hb0 hb1 hk0 hk1 hne _ hR hX
      | succ K ih =>
        intro k hk0 hk1 hne hK h hR hX
        refine x_iload d_Mo_classes_60 rfl ?_
        refine x_aload_n d_Mo_classes_62 rfl rfl ?_
        refine x_get xf_Mo_314_Mo (Or.inl hR.1) (v := .int (zI (S1.1 42))) rfl d_Mo_classes_63 ?_
        have hb63 : inR (S1.1 42) := hR.2.2.2 42
        refine z_icmp_ge (tgt := 87) d_Mo_classes_66 (by decide) (by omega) (by omega) (fun hc66 => ?_) (fun hc66 => ?_)
        · exact j87 us b k _ hb0 hb1 hk0 hk1 hne _ hR hX
        · refine x_aload_n d_Mo_classes_69 rfl rfl ?_
          refine x_get xf_Mo_106_Mo (Or.inl hR.1) (v := .ref (rf 45)) rfl d_Mo_classes_70 ?_
          refine x_iload d_Mo_classes_73 rfl ?_
          refine r_iald (i := 45) (us := (S1.2.1 45)) rfl (by decide) hR rfl (by omega) (by show k < 256; omega) d_Mo_classes_75 (fun hr75 => ?_)
          refine x_iload d_Mo_classes_76 rfl ?_
          refine z_icmp_eq (tgt := 87) d_Mo_classes_78 (by decide) (by omega) (by omega) (fun hc78 => ?_) (fun hc78 => ?_)
          · exact j87 us b k _ hb0 hb1 hk0 hk1 hne _ hR hX
          · refine x_iinc (v := zI (k + 1)) (L' := [_, _, _, _, _, _, _]) d_Mo_classes_81 rfl (zI_add _ _) rfl rfl ?_
            refine x_goto (tgt := 60) d_Mo_classes_84 (by decide) ?_
            exact ih (k + 1) (by omega) (by omega) (fun i h0 h1 => if hq : i = k then by rw [hq]; exact hc78 else hne i h0 (by omega)) (by omega) _ hR hX
    intro h hR hX
    refine x_iload_n d_Mo_classes_46 rfl ?_
    refine z_if_eq (tgt := 178) d_Mo_classes_47 (by decide) (by omega) (fun hq => by omega) (fun _ => ?_)
    refine x_aload_n d_Mo_classes_50 rfl rfl ?_
    refine x_iload_n d_Mo_classes_51 rfl ?_
    refine x_callV (As := [_]) (k := k_MarkerTextModel) rfl xcv_Mo_305_Mo (Or.inl hR.1) (RM.ap hR (r_truth (by omega) hit hC1)) rfl rfl (Nat.le_of_ble_eq_true rfl) d_Mo_classes_52 ?_
    rintro v52 h cq nq ⟨S52, hR, hX52, rfl, rfl, us52, r52, rfl, rfl, hr52a, hr52b⟩
    replace hX := hX.tr hX52
    refine x_istore (L' := [_, _, _, _, _, _, _]) d_Mo_classes_55 rfl rfl ?_
    refine x_iconst (v := zI 0) d_Mo_classes_57 (by decide) ?_
    refine x_istore (L' := [_, _, _, _, _, _, _]) d_Mo_classes_58 rfl rfl ?_
    exact l60 us52 r52 _ hr52a hr52b 256 0 (by omega) h42 (fun i h0 h1 => by omega) (by have := hB.le; omega) _ hR hX
  have lp : ∀ (it : Int), inR it → ∀ (K : Nat) (S1 : MS) (w4 w5 w6 : Option Value), rSm S S1 caJ caA [37] → mnB S1 326 → chOk S1 → 0 ≤ S1.1 42 → (0 ≤ S1.1 44 ∧ S1.1 44 ≤ 6) → clB (S1.2.1 45) (S1.1 42) → remS S1 ≤ K → RX l G M_Mo_classes (d + 1) 46 [some (.ref o), some (.int (zI w)), some (.int (zI it)), some (.int (zI 1)), w4, w5, w6] [] H0 o rf c n S1 (caQ S) := by
    intro it hit K
    induction K with
    | zero => intro S1 w4 w5 w6 a1 a2 a3 a4 a5 a6 hK; exact bd it hit S1 w4 w5 w6 a1 a2 a3 a4 a5 a6 (fun S2 _ _ _ _ _ _ _ _ _ hr => by omega)
    | succ K ih => intro S1 w4 w5 w6 a1 a2 a3 a4 a5 a6 hK; exact bd it hit S1 w4 w5 w6 a1 a2 a3 a4 a5 a6 (fun S2 w4 w5 w6 b1 b2 b3 b4 b5 b6 hr => ih S2 w4 w5 w6 b1 b2 b3 b4 b5 b6 (by omega))
  refine x_aload_n d_Mo_classes_0 rfl rfl ?_
  refine x_iconst (v := zI 0) d_Mo_classes_1 (by decide) ?_
  refine r_put xf_Mo_121_Mo xp_Mo_0 hR hX (by omega) rfl rfl d_Mo_classes_2 ?_
  intro h hR hX
  refine x_iload_n d_Mo_classes_5 rfl ?_
  refine x_iconst (v := zI 1) d_Mo_classes_6 (by decide) ?_
  refine x_aload_n d_Mo_classes_7 rfl rfl ?_
  refine x_get xf_Mo_268_Mo (Or.inl hR.1) (v := .int (zI (S.1 11))) rfl d_Mo_classes_8 ?_
  have hb8 : inR (S.1 11) := hR.2.2.2 11
  refine x_ishl d_Mo_classes_11 (x_zi ?_)
  have hr11 := inR_ti (zI 1 <<< (zI (S.1 11) &&& 31))
  refine x_iconst (v := zI 1) d_Mo_classes_12 (by decide) ?_
  refine z_isub d_Mo_classes_13 (x_zi ?_)
  have hr13 := inR_ti (zI ((zI 1 <<< (zI (S.1 11) &&& 31)).toInt - 1))
  refine x_iand d_Mo_classes_14 (x_zi ?_)
  have hr14 := inR_ti (zI w &&& zI ((zI ((zI 1 <<< (zI (S.1 11) &&& 31)).toInt - 1)).toInt))
  refine x_istore_n (L' := [_, _, _, _, _, _, _]) d_Mo_classes_15 rfl rfl ?_
  refine x_aload_n d_Mo_classes_16 rfl rfl ?_
  refine x_iload_n d_Mo_classes_17 rfl ?_
  refine x_callV (As := [_]) (k := k_MarkerTextModel) rfl xcv_Mo_302_Mo (Or.inl hR.1) (RM.ap hR (r_prepare (S := sp S 0 0) (by omega) (by omega) hn hC)) rfl rfl (Nat.le_of_ble_eq_true rfl) d_Mo_classes_18 ?_
  rintro v18 h cq nq ⟨S18, hR, hX18, rfl, rfl, ⟨r18, rfl, hr18⟩, hsm18, hm18, hz18⟩
  replace hX := hX.tr hX18
  refine z_if_ne (tgt := 26) d_Mo_classes_21 (by decide) (by omega) (fun hc21 => ?_) (fun hc21 => ?_)
  · refine x_aload_n d_Mo_classes_26 rfl rfl ?_
    refine x_iconst (v := zI 0) d_Mo_classes_27 (by decide) ?_
    refine r_put xf_Mo_314_Mo xp_Mo_42 hR hX (by omega) rfl rfl d_Mo_classes_28 ?_
    intro h hR hX
    refine x_aload_n d_Mo_classes_31 rfl rfl ?_
    refine x_iload_n d_Mo_classes_32 rfl ?_
    refine r_put xf_Mo_317_Mo xp_Mo_43 hR hX (by omega) rfl rfl d_Mo_classes_33 ?_
    intro h hR hX
    refine x_aload_n d_Mo_classes_36 rfl rfl ?_
    refine x_aload_n d_Mo_classes_37 rfl rfl ?_
    refine x_get xf_Mo_147_Mo (Or.inl hR.1) (v := .int (zI (S18.1 3))) rfl d_Mo_classes_38 ?_
    have hb38 : inR (S18.1 3) := hR.2.2.2 3
    refine r_put xf_Mo_320_Mo xp_Mo_44 hR hX (by omega) rfl rfl d_Mo_classes_41 ?_
    intro h hR hX
    refine x_iconst (v := zI 1) d_Mo_classes_44 (by decide) ?_
    refine x_istore_n (L' := [_, _, _, _, _, _, _]) d_Mo_classes_45 rfl rfl ?_
    have f3 : S18.1 3 = S.1 3 := hsm18.1 3 (by decide)
    have hch : chOk S18 := chOk.of_z hm18 (by omega) hz18
    exact lp _ (by omega) (remS S18) _ _ _ _ ((((((rSm.r0 (js := caJ) (is := caA) (ls := [37])).sp (j := 0) (z := 0) (by decide)).tr (hsm18.mono (by decide) (by decide) (by decide))).sp (by decide)).sp (by decide)).sp (by decide)) (by exact hm18) (by exact hch) (by show (0 : Int) ≤ 0; omega) (by show 0 ≤ S18.1 3 ∧ S18.1 3 ≤ 6; omega) ⟨fun i h0 h1 => by replace h1 : i < 0 := h1; omega, fun i j h0 h1 h2 => by replace h2 : j < 0 := h2; omega⟩ (Nat.le_refl _) _ hR hX
  · refine x_iconst (v := zI (-1)) d_Mo_classes_24 (by decide) ?_
    refine x_iret d_Mo_classes_25 rfl ?_
    exact ⟨_, hR, hX, rfl, rfl, ⟨_, rfl⟩, (rSm.r0.sp (by decide)).tr (hsm18.mono (by decide) (by decide) (by decide)), by
      have f42 : S18.1 42 = S.1 42 := hsm18.1 42 (by decide)
      have f44 : S18.1 44 = S.1 44 := hsm18.1 44 (by decide)
      unfold clOk
      rw [f42, f44]
      exact hK⟩
theorem r_many {k : Int} (hd : 1 ≤ d) (hk : inR k) (hK : clOk S) : RM l G d M_Mo_many [.ref o, .int (zI k)] o rf S (fun v S' => (∃ r : Int, v = some (.int (zI r))) ∧ S' = sp S 0 0) := by
  obtain ⟨d, rfl⟩ : ∃ q, d = q + 1 := ⟨d - 1, by omega⟩
  intro H0 c n hR
  refine XM.of (by decide +kernel) (Nat.le_of_ble_eq_true rfl) ?_
  have hX : xonly H0 H0 RKs := xonly.rf
  obtain ⟨a1, a2, a3⟩ := hK
  refine x_aload_n d_Mo_many_0 rfl rfl ?_
  refine x_iconst (v := zI 0) d_Mo_many_1 (by decide) ?_
  refine r_put xf_Mo_121_Mo xp_Mo_0 hR hX (by omega) rfl rfl d_Mo_many_2 ?_
  intro h hR hX
  refine x_iload_n d_Mo_many_5 rfl ?_
  refine x_iconst (v := zI 0) d_Mo_many_6 (by decide) ?_
  refine x_aload_n d_Mo_many_7 rfl rfl ?_
  refine x_get xf_Mo_314_Mo (Or.inl hR.1) (v := .int (zI (S.1 42))) rfl d_Mo_many_8 ?_
  have hb8 : inR (S.1 42) := hR.2.2.2 42
  refine x_iconst (v := zI 1) d_Mo_many_11 (by decide) ?_
  refine z_isub d_Mo_many_12 ?_
  refine x_callS (As := [_, _, _]) xcs_Mo_150 (r_in hk (by decide) (by omega)) rfl rfl (Nat.le_of_ble_eq_true rfl) d_Mo_many_13 ?_
  rintro v13 h cq nq ⟨rfl, rfl, rfl, r13, rfl, hr13⟩
  refine z_if_eq (tgt := 28) d_Mo_many_16 (by decide) (by omega) (fun hc16 => ?_) (fun hc16 => ?_)
  · refine x_iconst (v := zI (-1)) d_Mo_many_28 (by decide) ?_
    refine x_iret d_Mo_many_29 rfl ?_
    exact ⟨_, hR, hX, rfl, rfl, ⟨_, rfl⟩, rfl⟩
  · refine x_aload_n d_Mo_many_19 rfl rfl ?_
    refine x_get xf_Mo_109_Mo (Or.inl hR.1) (v := .ref (rf 46)) rfl d_Mo_many_20 ?_
    refine x_iload_n d_Mo_many_23 rfl ?_
    refine r_iald (i := 46) (us := (S.2.1 46)) rfl (by decide) hR rfl (by omega) (by show k < 256; omega) d_Mo_many_24 (fun hr24 => ?_)
    refine x_goto (tgt := 29) d_Mo_many_25 (by decide) ?_
    refine x_iret d_Mo_many_29 rfl ?_
    exact ⟨_, hR, hX, rfl, rfl, ⟨_, rfl⟩, rfl⟩
theorem r_inClass {k q : Int} (hd : 1 ≤ d) (hk : inR k) (hq : inR q) (hK : clOk S) : RM l G d M_Mo_inClass [.ref o, .int (zI k), .int (zI q)] o rf S (fun v S' => rBit v ∧ S' = sp S 0 0) := by
  obtain ⟨d, rfl⟩ : ∃ q, d = q + 1 := ⟨d - 1, by omega⟩
  intro H0 c n hR
  refine XM.of (by decide +kernel) (Nat.le_of_ble_eq_true rfl) ?_
  have hX : xonly H0 H0 RKs := xonly.rf
  obtain ⟨a1, a2, a3⟩ := hK
  refine x_aload_n d_Mo_inClass_0 rfl rfl ?_
  refine x_iconst (v := zI 0) d_Mo_inClass_1 (by decide) ?_
  refine r_put xf_Mo_121_Mo xp_Mo_0 hR hX (by omega) rfl rfl d_Mo_inClass_2 ?_
  intro h hR hX
  refine x_iload_n d_Mo_inClass_5 rfl ?_
  refine x_iconst (v := zI 0) d_Mo_inClass_6 (by decide) ?_
  refine x_aload_n d_Mo_inClass_7 rfl rfl ?_
  refine x_get xf_Mo_314_Mo (Or.inl hR.1) (v := .int (zI (S.1 42))) rfl d_Mo_inClass_8 ?_
  have hb8 : inR (S.1 42) := hR.2.2.2 42
  refine x_iconst (v := zI 1) d_Mo_inClass_11 (by decide) ?_
  refine z_isub d_Mo_inClass_12 ?_
  refine x_callS (As := [_, _, _]) xcs_Mo_150 (r_in hk (by decide) (by omega)) rfl rfl (Nat.le_of_ble_eq_true rfl) d_Mo_inClass_13 ?_
  rintro v13 h cq nq ⟨rfl, rfl, rfl, r13, rfl, hr13⟩
  refine z_if_eq (tgt := 47) d_Mo_inClass_16 (by decide) (by omega) (fun hc16 => ?_) (fun hc16 => ?_)
  · refine x_iconst (v := zI 0) d_Mo_inClass_47 (by decide) ?_
    refine x_zret d_Mo_inClass_48 rfl (z_nb (by omega)) ?_
    exact ⟨_, hR, hX, rfl, rfl, ⟨_, rfl, by omega⟩, rfl⟩
  · refine x_iload_n d_Mo_inClass_19 rfl ?_
    refine x_iconst (v := zI 0) d_Mo_inClass_20 (by decide) ?_
    refine x_bipush (v := zI 7) d_Mo_inClass_21 (by decide) ?_
    refine x_callS (As := [_, _, _]) xcs_Mo_150 (r_in hq (by decide) (by decide)) rfl rfl (Nat.le_of_ble_eq_true rfl) d_Mo_inClass_23 ?_
    rintro v23 h cq nq ⟨rfl, rfl, rfl, r23, rfl, hr23⟩
    refine z_if_eq (tgt := 47) d_Mo_inClass_26 (by decide) (by omega) (fun hc26 => ?_) (fun hc26 => ?_)
    · refine x_iconst (v := zI 0) d_Mo_inClass_47 (by decide) ?_
      refine x_zret d_Mo_inClass_48 rfl (z_nb (by omega)) ?_
      exact ⟨_, hR, hX, rfl, rfl, ⟨_, rfl, by omega⟩, rfl⟩
    · refine x_aload_n d_Mo_inClass_29 rfl rfl ?_
      refine x_get xf_Mo_106_Mo (Or.inl hR.1) (v := .ref (rf 45)) rfl d_Mo_inClass_30 ?_
      refine x_iload_n d_Mo_inClass_33 rfl ?_
      refine r_iald (i := 45) (us := (S.2.1 45)) rfl (by decide) hR rfl (by omega) (by show k < 256; omega) d_Mo_inClass_34 (fun hr34 => ?_)
      refine x_iload_n d_Mo_inClass_35 rfl ?_
      refine x_ishr d_Mo_inClass_36 (x_zi ?_)
      have hr36 := inR_ti (zI (gd (S.2.1 45) k) >>> (zI q &&& 31))
      refine x_iconst (v := zI 1) d_Mo_inClass_37 (by decide) ?_
      refine x_iand d_Mo_inClass_38 (x_zi ?_)
      have hr38 := inR_ti (zI ((zI (gd (S.2.1 45) k) >>> (zI q &&& 31)).toInt) &&& zI 1)
      refine x_iconst (v := zI 1) d_Mo_inClass_39 (by decide) ?_
      refine z_icmp_ne (tgt := 47) d_Mo_inClass_40 (by decide) (by omega) (by omega) (fun hc40 => ?_) (fun hc40 => ?_)
      · refine x_iconst (v := zI 0) d_Mo_inClass_47 (by decide) ?_
        refine x_zret d_Mo_inClass_48 rfl (z_nb (by omega)) ?_
        exact ⟨_, hR, hX, rfl, rfl, ⟨_, rfl, by omega⟩, rfl⟩
      · refine x_iconst (v := zI 1) d_Mo_inClass_43 (by decide) ?_
        refine x_goto (tgt := 48) d_Mo_inClass_44 (by decide) ?_
        refine x_zret d_Mo_inClass_48 rfl (z_nb (by omega)) ?_
        exact ⟨_, hR, hX, rfl, rfl, ⟨_, rfl, by omega⟩, rfl⟩
theorem r_sample {k q : Int} (hd : 1 ≤ d) (hk : inR k) (hq : inR q) (hK : clOk S) : RM l G d M_Mo_sample [.ref o, .int (zI k), .int (zI q)] o rf S (fun v S' => (∃ r : Int, v = some (.int (zI r))) ∧ S' = sp S 0 0) := by
  obtain ⟨d, rfl⟩ : ∃ q, d = q + 1 := ⟨d - 1, by omega⟩
  intro H0 c n hR
  refine XM.of (by decide +kernel) (Nat.le_of_ble_eq_true rfl) ?_
  have hX : xonly H0 H0 RKs := xonly.rf
  obtain ⟨a1, a2, a3⟩ := hK
  refine x_aload_n d_Mo_sample_0 rfl rfl ?_
  refine x_iconst (v := zI 0) d_Mo_sample_1 (by decide) ?_
  refine r_put xf_Mo_121_Mo xp_Mo_0 hR hX (by omega) rfl rfl d_Mo_sample_2 ?_
  intro h hR hX
  refine x_iload_n d_Mo_sample_5 rfl ?_
  refine x_iconst (v := zI 0) d_Mo_sample_6 (by decide) ?_
  refine x_aload_n d_Mo_sample_7 rfl rfl ?_
  refine x_get xf_Mo_314_Mo (Or.inl hR.1) (v := .int (zI (S.1 42))) rfl d_Mo_sample_8 ?_
  have hb8 : inR (S.1 42) := hR.2.2.2 42
  refine x_iconst (v := zI 1) d_Mo_sample_11 (by decide) ?_
  refine z_isub d_Mo_sample_12 ?_
  refine x_callS (As := [_, _, _]) xcs_Mo_150 (r_in hk (by decide) (by omega)) rfl rfl (Nat.le_of_ble_eq_true rfl) d_Mo_sample_13 ?_
  rintro v13 h cq nq ⟨rfl, rfl, rfl, r13, rfl, hr13⟩
  refine z_if_eq (tgt := 47) d_Mo_sample_16 (by decide) (by omega) (fun hc16 => ?_) (fun hc16 => ?_)
  · refine x_iconst (v := zI (-1)) d_Mo_sample_47 (by decide) ?_
    refine x_iret d_Mo_sample_48 rfl ?_
    exact ⟨_, hR, hX, rfl, rfl, ⟨_, rfl⟩, rfl⟩
  · refine x_iload_n d_Mo_sample_19 rfl ?_
    refine x_iconst (v := zI 0) d_Mo_sample_20 (by decide) ?_
    refine x_aload_n d_Mo_sample_21 rfl rfl ?_
    refine x_get xf_Mo_320_Mo (Or.inl hR.1) (v := .int (zI (S.1 44))) rfl d_Mo_sample_22 ?_
    have hb22 : inR (S.1 44) := hR.2.2.2 44
    refine x_iconst (v := zI 1) d_Mo_sample_25 (by decide) ?_
    refine z_isub d_Mo_sample_26 ?_
    refine x_callS (As := [_, _, _]) xcs_Mo_150 (r_in hq (by decide) (by omega)) rfl rfl (Nat.le_of_ble_eq_true rfl) d_Mo_sample_27 ?_
    rintro v27 h cq nq ⟨rfl, rfl, rfl, r27, rfl, hr27⟩
    refine z_if_eq (tgt := 47) d_Mo_sample_30 (by decide) (by omega) (fun hc30 => ?_) (fun hc30 => ?_)
    · refine x_iconst (v := zI (-1)) d_Mo_sample_47 (by decide) ?_
      refine x_iret d_Mo_sample_48 rfl ?_
      exact ⟨_, hR, hX, rfl, rfl, ⟨_, rfl⟩, rfl⟩
    · refine x_aload_n d_Mo_sample_33 rfl rfl ?_
      refine x_get xf_Mo_112_Mo (Or.inl hR.1) (v := .ref (rf 47)) rfl d_Mo_sample_34 ?_
      refine x_bipush (v := zI 6) d_Mo_sample_37 (by decide) ?_
      refine x_iload_n d_Mo_sample_39 rfl ?_
      refine z_imul d_Mo_sample_40 ?_
      refine x_iload_n d_Mo_sample_41 rfl ?_
      refine z_iadd d_Mo_sample_42 ?_
      refine r_iald (i := 47) (us := (S.2.1 47)) rfl (by decide) hR rfl (by omega) (by show 6 * k + q < 1536; omega) d_Mo_sample_43 (fun hr43 => ?_)
      refine x_goto (tgt := 48) d_Mo_sample_44 (by decide) ?_
      refine x_iret d_Mo_sample_48 rfl ?_
      exact ⟨_, hR, hX, rfl, rfl, ⟨_, rfl⟩, rfl⟩
end RF20
