section
abbrev y_Choices_layOut : MethodName := ⟨"MarkerText$Choices", "layOut", "([LMarkerText$Name;[LMarkerText$Condition;I)Z"⟩
abbrev M_Choices_layOut : XMt := (y_Choices_layOut, prog_2_method_2_code, 6, (some .boolean))
theorem d_Choices_layOut_13 : decode M_Choices_layOut.2.1 13 = .ok (.iload 4, 2) := by decide +kernel
theorem d_Choices_layOut_15 : decode M_Choices_layOut.2.1 15 = .ok (.bipush 6, 2) := by decide +kernel
theorem d_Choices_layOut_17 : decode M_Choices_layOut.2.1 17 = .ok (.if_icmp .ge 179, 3) := by decide +kernel
theorem d_Choices_layOut_196 : decode M_Choices_layOut.2.1 196 = .ok (.aload_n 0, 1) := by decide +kernel
theorem d_Choices_layOut_197 : decode M_Choices_layOut.2.1 197 = .ok (.getfield 32, 3) := by decide +kernel
theorem d_Choices_layOut_200 : decode M_Choices_layOut.2.1 200 = .ok (.sipush 20000, 3) := by decide +kernel
theorem d_Choices_layOut_203 : decode M_Choices_layOut.2.1 203 = .ok (.if_icmp .gt 7, 3) := by decide +kernel
theorem d_Choices_layOut_206 : decode M_Choices_layOut.2.1 206 = .ok (.iconst 1, 1) := by decide +kernel
theorem d_Choices_layOut_207 : decode M_Choices_layOut.2.1 207 = .ok (.goto 4, 3) := by decide +kernel
theorem d_Choices_layOut_211 : decode M_Choices_layOut.2.1 211 = .ok (.ireturn, 1) := by decide +kernel
theorem d_Choices_layOut_210 : decode M_Choices_layOut.2.1 210 = .ok (.iconst 0, 1) := by decide +kernel
theorem d_Choices_layOut_20 : decode M_Choices_layOut.2.1 20 = .ok (.aload_n 0, 1) := by decide +kernel
theorem d_Choices_layOut_21 : decode M_Choices_layOut.2.1 21 = .ok (.getfield 19, 3) := by decide +kernel
theorem d_Choices_layOut_24 : decode M_Choices_layOut.2.1 24 = .ok (.iload 4, 2) := by decide +kernel
theorem d_Choices_layOut_26 : decode M_Choices_layOut.2.1 26 = .ok (.aload_n 0, 1) := by decide +kernel
theorem d_Choices_layOut_27 : decode M_Choices_layOut.2.1 27 = .ok (.getfield 15, 3) := by decide +kernel
theorem d_Choices_layOut_30 : decode M_Choices_layOut.2.1 30 = .ok (.iastore, 1) := by decide +kernel
theorem d_Choices_layOut_77 : decode M_Choices_layOut.2.1 77 = .ok (.aload_n 0, 1) := by decide +kernel
theorem d_Choices_layOut_78 : decode M_Choices_layOut.2.1 78 = .ok (.getfield 15, 3) := by decide +kernel
theorem d_Choices_layOut_81 : decode M_Choices_layOut.2.1 81 = .ok (.aload_n 0, 1) := by decide +kernel
theorem d_Choices_layOut_82 : decode M_Choices_layOut.2.1 82 = .ok (.getfield 19, 3) := by decide +kernel
theorem d_Choices_layOut_85 : decode M_Choices_layOut.2.1 85 = .ok (.iload 4, 2) := by decide +kernel
theorem d_Choices_layOut_87 : decode M_Choices_layOut.2.1 87 = .ok (.iaload, 1) := by decide +kernel
theorem d_Choices_layOut_88 : decode M_Choices_layOut.2.1 88 = .ok (.isub, 1) := by decide +kernel
theorem d_Choices_layOut_151 : decode M_Choices_layOut.2.1 151 = .ok (.iastore, 1) := by decide +kernel
theorem d_Choices_layOut_152 : decode M_Choices_layOut.2.1 152 = .ok (.aload_n 0, 1) := by decide +kernel
theorem d_Choices_layOut_153 : decode M_Choices_layOut.2.1 153 = .ok (.getfield 26, 3) := by decide +kernel
theorem d_Choices_layOut_156 : decode M_Choices_layOut.2.1 156 = .ok (.iload 4, 2) := by decide +kernel
theorem d_Choices_layOut_158 : decode M_Choices_layOut.2.1 158 = .ok (.iconst 0, 1) := by decide +kernel
theorem d_Choices_layOut_159 : decode M_Choices_layOut.2.1 159 = .ok (.iastore, 1) := by decide +kernel
theorem d_Choices_layOut_160 : decode M_Choices_layOut.2.1 160 = .ok (.aload_n 0, 1) := by decide +kernel
theorem d_Choices_layOut_161 : decode M_Choices_layOut.2.1 161 = .ok (.getfield 29, 3) := by decide +kernel
theorem d_Choices_layOut_164 : decode M_Choices_layOut.2.1 164 = .ok (.iload 4, 2) := by decide +kernel
theorem d_Choices_layOut_166 : decode M_Choices_layOut.2.1 166 = .ok (.lconst 0, 1) := by decide +kernel
theorem d_Choices_layOut_167 : decode M_Choices_layOut.2.1 167 = .ok (.lastore, 1) := by decide +kernel
theorem d_Choices_layOut_168 : decode M_Choices_layOut.2.1 168 = .ok (.aload_n 0, 1) := by decide +kernel
theorem d_Choices_layOut_169 : decode M_Choices_layOut.2.1 169 = .ok (.aload_n 0, 1) := by decide +kernel
theorem d_Choices_layOut_170 : decode M_Choices_layOut.2.1 170 = .ok (.getfield 32, 3) := by decide +kernel
theorem d_Choices_layOut_173 : decode M_Choices_layOut.2.1 173 = .ok (.aload_n 0, 1) := by decide +kernel
theorem d_Choices_layOut_174 : decode M_Choices_layOut.2.1 174 = .ok (.getfield 23, 3) := by decide +kernel
theorem d_Choices_layOut_177 : decode M_Choices_layOut.2.1 177 = .ok (.iload 4, 2) := by decide +kernel
theorem d_Choices_layOut_179 : decode M_Choices_layOut.2.1 179 = .ok (.iaload, 1) := by decide +kernel
theorem d_Choices_layOut_180 : decode M_Choices_layOut.2.1 180 = .ok (.imul, 1) := by decide +kernel
theorem d_Choices_layOut_181 : decode M_Choices_layOut.2.1 181 = .ok (.sipush 20001, 3) := by decide +kernel
theorem d_Choices_layOut_184 : decode M_Choices_layOut.2.1 184 = .ok (.invokestatic 49, 3) := by decide +kernel
theorem xw_348 : (Jvm.Cond.methodLink "MarkerText$Choices" (49 : Nat) ({ cls := "java/lang/Math", name := "min", desc := "(II)I" } : Jvm.MethodName)) ∈ xT := xT_at 348 (by decide +kernel) (by decide +kernel)
theorem d_Choices_layOut_187 : decode M_Choices_layOut.2.1 187 = .ok (.putfield 32, 3) := by decide +kernel
theorem d_Choices_layOut_190 : decode M_Choices_layOut.2.1 190 = .ok (.iinc 4 1, 3) := by decide +kernel
theorem d_Choices_layOut_193 : decode M_Choices_layOut.2.1 193 = .ok (.goto (-180), 3) := by decide +kernel
theorem d_Choices_layOut_120 : decode M_Choices_layOut.2.1 120 = .ok (.aload_n 0, 1) := by decide +kernel
theorem d_Choices_layOut_121 : decode M_Choices_layOut.2.1 121 = .ok (.getfield 23, 3) := by decide +kernel
theorem d_Choices_layOut_124 : decode M_Choices_layOut.2.1 124 = .ok (.iload 4, 2) := by decide +kernel
theorem d_Choices_layOut_126 : decode M_Choices_layOut.2.1 126 = .ok (.iload 5, 2) := by decide +kernel
theorem d_Choices_layOut_128 : decode M_Choices_layOut.2.1 128 = .ok (.ifCond .le 22, 3) := by decide +kernel
theorem d_Choices_layOut_131 : decode M_Choices_layOut.2.1 131 = .ok (.iconst 2, 1) := by decide +kernel
theorem d_Choices_layOut_132 : decode M_Choices_layOut.2.1 132 = .ok (.aload_n 0, 1) := by decide +kernel
theorem d_Choices_layOut_133 : decode M_Choices_layOut.2.1 133 = .ok (.getfield 15, 3) := by decide +kernel
theorem d_Choices_layOut_136 : decode M_Choices_layOut.2.1 136 = .ok (.aload_n 0, 1) := by decide +kernel
theorem d_Choices_layOut_137 : decode M_Choices_layOut.2.1 137 = .ok (.getfield 19, 3) := by decide +kernel
theorem d_Choices_layOut_140 : decode M_Choices_layOut.2.1 140 = .ok (.iload 4, 2) := by decide +kernel
theorem d_Choices_layOut_142 : decode M_Choices_layOut.2.1 142 = .ok (.iaload, 1) := by decide +kernel
theorem d_Choices_layOut_143 : decode M_Choices_layOut.2.1 143 = .ok (.isub, 1) := by decide +kernel
theorem d_Choices_layOut_144 : decode M_Choices_layOut.2.1 144 = .ok (.imul, 1) := by decide +kernel
theorem d_Choices_layOut_145 : decode M_Choices_layOut.2.1 145 = .ok (.iconst 2, 1) := by decide +kernel
theorem d_Choices_layOut_146 : decode M_Choices_layOut.2.1 146 = .ok (.iadd, 1) := by decide +kernel
theorem d_Choices_layOut_147 : decode M_Choices_layOut.2.1 147 = .ok (.goto 4, 3) := by decide +kernel
theorem d_Choices_layOut_150 : decode M_Choices_layOut.2.1 150 = .ok (.iconst 1, 1) := by decide +kernel
theorem d_Choices_layOut_89 : decode M_Choices_layOut.2.1 89 = .ok (.istore 5, 2) := by decide +kernel
theorem d_Choices_layOut_91 : decode M_Choices_layOut.2.1 91 = .ok (.iload 5, 2) := by decide +kernel
theorem d_Choices_layOut_93 : decode M_Choices_layOut.2.1 93 = .ok (.ifCond .le 27, 3) := by decide +kernel
theorem d_Choices_layOut_96 : decode M_Choices_layOut.2.1 96 = .ok (.iload 4, 2) := by decide +kernel
theorem d_Choices_layOut_98 : decode M_Choices_layOut.2.1 98 = .ok (.aload_n 1, 1) := by decide +kernel
theorem d_Choices_layOut_99 : decode M_Choices_layOut.2.1 99 = .ok (.arraylength, 1) := by decide +kernel
theorem d_Choices_layOut_100 : decode M_Choices_layOut.2.1 100 = .ok (.if_icmp .ge 20, 3) := by decide +kernel
theorem d_Choices_layOut_103 : decode M_Choices_layOut.2.1 103 = .ok (.aload_n 1, 1) := by decide +kernel
theorem d_Choices_layOut_104 : decode M_Choices_layOut.2.1 104 = .ok (.iload 4, 2) := by decide +kernel
theorem d_Choices_layOut_106 : decode M_Choices_layOut.2.1 106 = .ok (.aaload, 1) := by decide +kernel
theorem d_Choices_layOut_107 : decode M_Choices_layOut.2.1 107 = .ok (.ifnull 13, 3) := by decide +kernel
theorem d_Choices_layOut_110 : decode M_Choices_layOut.2.1 110 = .ok (.aload_n 0, 1) := by decide +kernel
theorem d_Choices_layOut_111 : decode M_Choices_layOut.2.1 111 = .ok (.aload_n 1, 1) := by decide +kernel
theorem d_Choices_layOut_112 : decode M_Choices_layOut.2.1 112 = .ok (.iload 4, 2) := by decide +kernel
theorem d_Choices_layOut_114 : decode M_Choices_layOut.2.1 114 = .ok (.aaload, 1) := by decide +kernel
theorem d_Choices_layOut_115 : decode M_Choices_layOut.2.1 115 = .ok (.iload 4, 2) := by decide +kernel
theorem d_Choices_layOut_117 : decode M_Choices_layOut.2.1 117 = .ok (.invokevirtual 45, 3) := by decide +kernel
theorem xw_347 : (Jvm.Cond.code ({ cls := "MarkerText$Choices", name := "addKnown", desc := "(LMarkerText$Name;I)V" } : Jvm.MethodName) prog_2_method_4_code (4 : Nat) (Option.none : Option Jvm.ClassFile.FieldType)) ∈ xT := xT_at 347 (by decide +kernel) (by decide +kernel)
theorem xcb_Choices_addKnown : xcb M_Choices_addKnown 2 := ⟨xw_347, xw_6, by decide, by decide, by decide, by decide +kernel⟩
theorem xw_346 : (Jvm.Cond.instanceMethod ({ cls := "MarkerText$Choices", name := "addKnown", desc := "(LMarkerText$Name;I)V" } : Jvm.MethodName)) ∈ xT := xT_at 346 (by decide +kernel) (by decide +kernel)
theorem xw_344 : (Jvm.Cond.methodLink "MarkerText$Choices" (45 : Nat) ({ cls := "MarkerText$Choices", name := "addKnown", desc := "(LMarkerText$Name;I)V" } : Jvm.MethodName)) ∈ xT := xT_at 344 (by decide +kernel) (by decide +kernel)
theorem xsel_Choices_addKnown : Cond.selects "MarkerText$Choices" y_Choices_addKnown y_Choices_addKnown ∈ xT := xT_sel (q := (y_Choices_addKnown, 7)) (by decide +kernel) (by decide +kernel)
theorem xcv_Choices_45_Choices : xCV "MarkerText$Choices" 45 "MarkerText$Choices" M_Choices_addKnown 2 := ⟨xcb_Choices_addKnown, xw_346, Or.inl ⟨xw_344, Or.inl xsel_Choices_addKnown⟩⟩
theorem d_Choices_layOut_34 : decode M_Choices_layOut.2.1 34 = .ok (.iload 5, 2) := by decide +kernel
theorem d_Choices_layOut_36 : decode M_Choices_layOut.2.1 36 = .ok (.aload_n 2, 1) := by decide +kernel
theorem d_Choices_layOut_37 : decode M_Choices_layOut.2.1 37 = .ok (.arraylength, 1) := by decide +kernel
theorem d_Choices_layOut_38 : decode M_Choices_layOut.2.1 38 = .ok (.if_icmp .ge 39, 3) := by decide +kernel
theorem d_Choices_layOut_41 : decode M_Choices_layOut.2.1 41 = .ok (.iload_n 3, 1) := by decide +kernel
theorem d_Choices_layOut_42 : decode M_Choices_layOut.2.1 42 = .ok (.iload 5, 2) := by decide +kernel
theorem d_Choices_layOut_44 : decode M_Choices_layOut.2.1 44 = .ok (.ishr, 1) := by decide +kernel
theorem d_Choices_layOut_45 : decode M_Choices_layOut.2.1 45 = .ok (.iconst 1, 1) := by decide +kernel
theorem d_Choices_layOut_46 : decode M_Choices_layOut.2.1 46 = .ok (.iand, 1) := by decide +kernel
theorem d_Choices_layOut_47 : decode M_Choices_layOut.2.1 47 = .ok (.iconst 1, 1) := by decide +kernel
theorem d_Choices_layOut_48 : decode M_Choices_layOut.2.1 48 = .ok (.if_icmp .ne 23, 3) := by decide +kernel
theorem d_Choices_layOut_51 : decode M_Choices_layOut.2.1 51 = .ok (.aload_n 2, 1) := by decide +kernel
theorem d_Choices_layOut_52 : decode M_Choices_layOut.2.1 52 = .ok (.iload 5, 2) := by decide +kernel
theorem d_Choices_layOut_54 : decode M_Choices_layOut.2.1 54 = .ok (.aaload, 1) := by decide +kernel
theorem d_Choices_layOut_55 : decode M_Choices_layOut.2.1 55 = .ok (.ifnull 16, 3) := by decide +kernel
theorem d_Choices_layOut_58 : decode M_Choices_layOut.2.1 58 = .ok (.aload_n 0, 1) := by decide +kernel
theorem d_Choices_layOut_59 : decode M_Choices_layOut.2.1 59 = .ok (.aload_n 2, 1) := by decide +kernel
theorem d_Choices_layOut_60 : decode M_Choices_layOut.2.1 60 = .ok (.iload 5, 2) := by decide +kernel
theorem d_Choices_layOut_62 : decode M_Choices_layOut.2.1 62 = .ok (.aaload, 1) := by decide +kernel
theorem d_Choices_layOut_63 : decode M_Choices_layOut.2.1 63 = .ok (.getfield 35, 3) := by decide +kernel
theorem xw_1144 : (Jvm.Cond.fieldLinkNest "MarkerText$Choices" (35 : Nat) "MarkerText$Condition" "tests" "Ljava/util/ArrayList;" "MarkerText") ∈ xT := xT_at 1144 (by decide +kernel) (by decide +kernel)
theorem xf_Choices_35_Condition : xF "MarkerText$Choices" 35 k_Condition 1 := ⟨_, _, _, "MarkerText$Condition", rfl, by decide, Or.inr ⟨_, xw_1144⟩, Or.inl rfl⟩
theorem d_Choices_layOut_66 : decode M_Choices_layOut.2.1 66 = .ok (.iload 4, 2) := by decide +kernel
theorem d_Choices_layOut_68 : decode M_Choices_layOut.2.1 68 = .ok (.invokevirtual 41, 3) := by decide +kernel
theorem xw_321 : (Jvm.Cond.code ({ cls := "MarkerText$Choices", name := "addTested", desc := "(Ljava/util/ArrayList;I)V" } : Jvm.MethodName) prog_2_method_3_code (6 : Nat) (Option.none : Option Jvm.ClassFile.FieldType)) ∈ xT := xT_at 321 (by decide +kernel) (by decide +kernel)
theorem xcb_Choices_addTested : xcb M_Choices_addTested 2 := ⟨xw_321, xw_6, by decide, by decide, by decide, by decide +kernel⟩
theorem xw_320 : (Jvm.Cond.instanceMethod ({ cls := "MarkerText$Choices", name := "addTested", desc := "(Ljava/util/ArrayList;I)V" } : Jvm.MethodName)) ∈ xT := xT_at 320 (by decide +kernel) (by decide +kernel)
theorem xw_318 : (Jvm.Cond.methodLink "MarkerText$Choices" (41 : Nat) ({ cls := "MarkerText$Choices", name := "addTested", desc := "(Ljava/util/ArrayList;I)V" } : Jvm.MethodName)) ∈ xT := xT_at 318 (by decide +kernel) (by decide +kernel)
theorem xsel_Choices_addTested : Cond.selects "MarkerText$Choices" y_Choices_addTested y_Choices_addTested ∈ xT := xT_sel (q := (y_Choices_addTested, 7)) (by decide +kernel) (by decide +kernel)
theorem xcv_Choices_41_Choices : xCV "MarkerText$Choices" 41 "MarkerText$Choices" M_Choices_addTested 2 := ⟨xcb_Choices_addTested, xw_320, Or.inl ⟨xw_318, Or.inl xsel_Choices_addTested⟩⟩
theorem d_Choices_layOut_71 : decode M_Choices_layOut.2.1 71 = .ok (.iinc 5 1, 3) := by decide +kernel
theorem d_Choices_layOut_74 : decode M_Choices_layOut.2.1 74 = .ok (.goto (-40), 3) := by decide +kernel
theorem d_Choices_layOut_31 : decode M_Choices_layOut.2.1 31 = .ok (.iconst 0, 1) := by decide +kernel
theorem d_Choices_layOut_32 : decode M_Choices_layOut.2.1 32 = .ok (.istore 5, 2) := by decide +kernel
theorem d_Choices_layOut_0 : decode M_Choices_layOut.2.1 0 = .ok (.aload_n 0, 1) := by decide +kernel
theorem d_Choices_layOut_1 : decode M_Choices_layOut.2.1 1 = .ok (.iconst 0, 1) := by decide +kernel
theorem d_Choices_layOut_2 : decode M_Choices_layOut.2.1 2 = .ok (.putfield 15, 3) := by decide +kernel
theorem d_Choices_layOut_5 : decode M_Choices_layOut.2.1 5 = .ok (.aload_n 0, 1) := by decide +kernel
theorem d_Choices_layOut_6 : decode M_Choices_layOut.2.1 6 = .ok (.iconst 1, 1) := by decide +kernel
theorem d_Choices_layOut_7 : decode M_Choices_layOut.2.1 7 = .ok (.putfield 32, 3) := by decide +kernel
theorem d_Choices_layOut_10 : decode M_Choices_layOut.2.1 10 = .ok (.iconst 0, 1) := by decide +kernel
theorem d_Choices_layOut_11 : decode M_Choices_layOut.2.1 11 = .ok (.istore 4, 2) := by decide +kernel
end
section CH8
variable {l : Launch} {G : XG} {h : XH} {c n d : Nat}
/-- the CHOICES with the places of their rows -/
def chP (h : XH) (o cv cs ca cp cl : Nat) (vs : List Nat) (us : Nat) (st sa pk lv : List Nat) (co : Nat) : Prop := h o = some (k_Choices, [.ref cv, .int (nI us), .ref cs, .ref ca, .ref cp, .ref cl, .int (nI co)]) ∧ h cv = some (k_achv, vs.map (fun v => .long (lN v))) ∧ h cs = some (k_astarts, xiv st) ∧ h ca = some (k_asamples, xiv sa) ∧ h cp = some (k_apicks, xiv pk) ∧ h cl = some (k_achl, lv.map (fun v => .long (lN v)))
abbrev kCh : List Nat := [k_Choices, k_achv, k_astarts, k_asamples, k_apicks, k_achl]
section
variable {o cv cs ca cp cl us co us' co' : Nat} {vs st sa pk lv st' sa' pk' lv' : List Nat}
theorem chP.ob (hc : chP h o cv cs ca cp cl vs us st sa pk lv co) : chP (xup h o (k_Choices, [.ref cv, .int (nI us'), .ref cs, .ref ca, .ref cp, .ref cl, .int (nI co')])) o cv cs ca cp cl vs us' st sa pk lv co' ∧ ∀ e, xonly h (xup h o e) kCh := by
  obtain ⟨e0, e1, e2, e3, e4, e5⟩ := hc
  exact ⟨⟨xup_self, by rw [xup_ne (xne e1 e0 (by decide))]; exact e1, by rw [xup_ne (xne e2 e0 (by decide))]; exact e2, by rw [xup_ne (xne e3 e0 (by decide))]; exact e3, by rw [xup_ne (xne e4 e0 (by decide))]; exact e4, by rw [xup_ne (xne e5 e0 (by decide))]; exact e5⟩, fun e => xonly.up e0 (by decide)⟩
theorem chP.uSt (hc : chP h o cv cs ca cp cl vs us st sa pk lv co) : chP (xup h cs (k_astarts, xiv st')) o cv cs ca cp cl vs us st' sa pk lv co ∧ ∀ e, xonly h (xup h cs e) kCh := by
  obtain ⟨e0, e1, e2, e3, e4, e5⟩ := hc
  exact ⟨⟨by rw [xup_ne (xne e0 e2 (by decide))]; exact e0, by rw [xup_ne (xne e1 e2 (by decide))]; exact e1, xup_self, by rw [xup_ne (xne e3 e2 (by decide))]; exact e3, by rw [xup_ne (xne e4 e2 (by decide))]; exact e4, by rw [xup_ne (xne e5 e2 (by decide))]; exact e5⟩, fun e => xonly.up e2 (by decide)⟩
theorem chP.uSa (hc : chP h o cv cs ca cp cl vs us st sa pk lv co) : chP (xup h ca (k_asamples, xiv sa')) o cv cs ca cp cl vs us st sa' pk lv co ∧ ∀ e, xonly h (xup h ca e) kCh := by
  obtain ⟨e0, e1, e2, e3, e4, e5⟩ := hc
  exact ⟨⟨by rw [xup_ne (xne e0 e3 (by decide))]; exact e0, by rw [xup_ne (xne e1 e3 (by decide))]; exact e1, by rw [xup_ne (xne e2 e3 (by decide))]; exact e2, xup_self, by rw [xup_ne (xne e4 e3 (by decide))]; exact e4, by rw [xup_ne (xne e5 e3 (by decide))]; exact e5⟩, fun e => xonly.up e3 (by decide)⟩
theorem chP.uPk (hc : chP h o cv cs ca cp cl vs us st sa pk lv co) : chP (xup h cp (k_apicks, xiv pk')) o cv cs ca cp cl vs us st sa pk' lv co ∧ ∀ e, xonly h (xup h cp e) kCh := by
  obtain ⟨e0, e1, e2, e3, e4, e5⟩ := hc
  exact ⟨⟨by rw [xup_ne (xne e0 e4 (by decide))]; exact e0, by rw [xup_ne (xne e1 e4 (by decide))]; exact e1, by rw [xup_ne (xne e2 e4 (by decide))]; exact e2, by rw [xup_ne (xne e3 e4 (by decide))]; exact e3, xup_self, by rw [xup_ne (xne e5 e4 (by decide))]; exact e5⟩, fun e => xonly.up e4 (by decide)⟩
theorem chP.uLv (hc : chP h o cv cs ca cp cl vs us st sa pk lv co) : chP (xup h cl (k_achl, lv'.map (fun v => .long (lN v)))) o cv cs ca cp cl vs us st sa pk lv' co ∧ ∀ e, xonly h (xup h cl e) kCh := by
  obtain ⟨e0, e1, e2, e3, e4, e5⟩ := hc
  exact ⟨⟨by rw [xup_ne (xne e0 e5 (by decide))]; exact e0, by rw [xup_ne (xne e1 e5 (by decide))]; exact e1, by rw [xup_ne (xne e2 e5 (by decide))]; exact e2, by rw [xup_ne (xne e3 e5 (by decide))]; exact e3, by rw [xup_ne (xne e4 e5 (by decide))]; exact e4, xup_self⟩, fun e => xonly.up e5 (by decide)⟩
theorem chP.is (hc : chP h o cv cs ca cp cl vs us st sa pk lv co) : isCh h o vs us st sa pk lv co := ⟨cv, cs, ca, cp, cl, hc⟩
end
theorem xonly.mono {h' : XH} {K1 K2 : List Nat} (hx : xonly h h' K1) (hk : ∀ k ∈ K1, k ∈ K2) : xonly h h' K2 := by
  obtain ⟨F, f, hn⟩ := hx
  exact ⟨F, f, fun ks hks => hn ks (fun k hk1 => hks k (hk k hk1))⟩
/-- the VALUES of a name in the tests of a set of conditions -/
def lyC (Cs : List CnT) (S j a : Nat) : Nat → List Nat × Nat → List Nat × Nat
  | 0, q => q
  | i + 1, q => if S.testBit i then (match Cs[i]? with
    | some D => adT j a D.2 (lyC Cs S j a i q)
    | none => lyC Cs S j a i q) else lyC Cs S j a i q
/-- and those that are known -/
def lyK (Ns : List NmT) (j a : Nat) (q : List Nat × Nat) : List Nat × Nat := if a < q.2 then (match Ns[j]? with
    | some x => adL a x.2.2 q
    | none => q) else q
/-- how many SAMPLES that makes -/
def lyM (a u1 u2 : Nat) : Nat := if a < u1 then 2 * (u2 - a) + 2 else 1
abbrev LyT : Type := (List Nat × Nat) × List Nat × List Nat × Nat
def lyN (Ns : List NmT) (Cs : List CnT) (S j : Nat) (r : LyT) : LyT := (lyK Ns j r.1.2 (lyC Cs S j r.1.2 8 r.1), r.2.1.set j r.1.2, r.2.2.1.set j (lyM r.1.2 (lyC Cs S j r.1.2 8 r.1).2 (lyK Ns j r.1.2 (lyC Cs S j r.1.2 8 r.1)).2), min (r.2.2.2 * lyM r.1.2 (lyC Cs S j r.1.2 8 r.1).2 (lyK Ns j r.1.2 (lyC Cs S j r.1.2 8 r.1)).2) 20001)
/-- the first names laid out -/
def lyS (Ns : List NmT) (Cs : List CnT) (S : Nat) (r0 : LyT) : Nat → LyT
  | 0 => r0
  | j + 1 => lyN Ns Cs S j (lyS Ns Cs S r0 j)
def okNC (Ns : List NmT) (Cs : List CnT) : Prop := (∀ x ∈ Ns, okVs x.2.2) ∧ ∀ D ∈ Cs, ∀ t ∈ D.2, okVs t.2.2.1
theorem lyC_ok {Ns : List NmT} {Cs : List CnT} {S j a : Nat} {q : List Nat × Nat} (hv : okNC Ns Cs) (hq : okQ q) (ha : a ≤ q.2) : ∀ i, okQ (lyC Cs S j a i q) ∧ q.2 ≤ (lyC Cs S j a i q).2 := by
  intro i
  induction i with
  | zero => exact ⟨hq, Nat.le_refl _⟩
  | succ i ih =>
    unfold lyC
    split
    · split
      · rename_i D hD
        obtain ⟨g1, g2⟩ := adT_ok (j := j) ih.1 (by omega : a ≤ _) (hv.2 D (List.mem_of_getElem? hD))
        exact ⟨g1, by omega⟩
      · exact ih
    · exact ih
theorem lyK_ok {Ns : List NmT} {Cs : List CnT} {j a : Nat} {q : List Nat × Nat} (hv : okNC Ns Cs) (hq : okQ q) (ha : a ≤ q.2) : okQ (lyK Ns j a q) ∧ q.2 ≤ (lyK Ns j a q).2 := by
  unfold lyK
  split
  · split
    · rename_i x hx
      exact adL_ok hq ha (hv.1 x (List.mem_of_getElem? hx))
    · exact ⟨hq, Nat.le_refl _⟩
  · exact ⟨hq, Nat.le_refl _⟩
theorem lyN_ok {Ns : List NmT} {Cs : List CnT} {S j : Nat} {r : LyT} (hv : okNC Ns Cs) (hr : okQ r.1 ∧ r.2.1.length = 6 ∧ r.2.2.1.length = 6 ∧ r.2.2.2 ≤ 20001) : okQ (lyN Ns Cs S j r).1 ∧ (lyN Ns Cs S j r).2.1.length = 6 ∧ (lyN Ns Cs S j r).2.2.1.length = 6 ∧ (lyN Ns Cs S j r).2.2.2 ≤ 20001 := by
  obtain ⟨r1, r2, r3, r4⟩ := hr
  obtain ⟨g1, g2⟩ := lyC_ok (S := S) (j := j) hv r1 (Nat.le_refl _) 8
  obtain ⟨g3, g4⟩ := lyK_ok (j := j) hv g1 g2
  refine ⟨g3, ?_, ?_, ?_⟩
  · show (r.2.1.set j _).length = 6
    rw [List.length_set]; exact r2
  · show (r.2.2.1.set j _).length = 6
    rw [List.length_set]; exact r3
  · show min _ 20001 ≤ 20001
    omega
theorem lyS_ok {Ns : List NmT} {Cs : List CnT} {S : Nat} {r : LyT} (hv : okNC Ns Cs) (hr : okQ r.1 ∧ r.2.1.length = 6 ∧ r.2.2.1.length = 6 ∧ r.2.2.2 ≤ 20001) : ∀ j, okQ (lyS Ns Cs S r j).1 ∧ (lyS Ns Cs S r j).2.1.length = 6 ∧ (lyS Ns Cs S r j).2.2.1.length = 6 ∧ (lyS Ns Cs S r j).2.2.2 ≤ 20001 := by
  intro j
  induction j with
  | zero => exact hr
  | succ j ih => exact lyN_ok hv ih
theorem nI_mul {a b : Nat} : nI a * nI b = nI (a * b) := by
  show Int32.ofNat a * Int32.ofNat b = Int32.ofNat (a * b)
  rw [← Int32.ofNat_mul]
theorem lvv_set {vs : List Nat} {i v : Nat} : (vs.map (fun v => Value.long (lN v))).set i (.long (lN v)) = (vs.set i v).map (fun v => .long (lN v)) := by
  rw [List.map_set]
theorem c_layOut (hd : 5 ≤ d) {o na ca S : Nat} {as kas cas : List Nat} {Ns : List NmT} {Cs : List CnT} (hO : okCh h o) (hN : isNs G h na as kas Ns) (hC : isCs G h ca cas Cs) (hS : S < 256) (hv : okNC Ns Cs) : XM l G d M_Choices_layOut [.ref o, .ref na, .ref ca, .int (nI S)] h c n (fun r h' c' n' => ∃ vs st sa : List Nat, vs.length = 356 ∧ st.length = 6 ∧ sa.length = 6 ∧ r = some (.int (bI (decide ((lyS Ns Cs S ((vs, 0), st, sa, 1) 6).2.2.2 ≤ 20000)))) ∧ isCh h' o (lyS Ns Cs S ((vs, 0), st, sa, 1) 6).1.1 (lyS Ns Cs S ((vs, 0), st, sa, 1) 6).1.2 (lyS Ns Cs S ((vs, 0), st, sa, 1) 6).2.1 (lyS Ns Cs S ((vs, 0), st, sa, 1) 6).2.2.1 (List.replicate 6 0) (List.replicate 6 0) (lyS Ns Cs S ((vs, 0), st, sa, 1) 6).2.2.2 ∧ xonly h h' kCh ∧ c' = c ∧ n' = n) := by
  obtain ⟨d, rfl⟩ : ∃ q, d = q + 1 := ⟨d - 1, by omega⟩
  obtain ⟨vs, us0, st, sa, pk, lv, co0, ⟨cv, cs, ca', cp, cl, hc⟩, hvl, hul, hsl, hal, hpl, hll⟩ := hO
  refine XM.of (by decide +kernel) (Nat.le_of_ble_eq_true rfl) ?_
  obtain ⟨N1, N2, N3, N4, N5, N6, N7⟩ := id hN
  obtain ⟨C1, C2, C3, C4⟩ := id hC
  have hlenC : (cas.map (Value.ref ·) ++ List.replicate (8 - cas.length) Value.null).length = 8 := by simp; omega
  have hlenN : (as.map (Value.ref ·) ++ List.replicate (6 - as.length) Value.null).length = 6 := by simp; omega
  have r0ok : okQ (vs, 0) ∧ st.length = 6 ∧ sa.length = 6 ∧ 1 ≤ 20001 := ⟨⟨hvl, Nat.zero_le _, fun i hi => by cases hi⟩, hsl, hal, by decide⟩
  generalize hr0 : (((vs, 0), st, sa, 1) : LyT) = r0
  have rok := lyS_ok (S := S) (r := r0) hv (by rw [← hr0]; exact r0ok)
  have go : ∀ (Q : Option Value → XH → Nat → Nat → Prop), (∀ h', ∀ v, v = some (.int (bI (decide ((lyS Ns Cs S r0 6).2.2.2 ≤ 20000)))) → isCh h' o (lyS Ns Cs S r0 6).1.1 (lyS Ns Cs S r0 6).1.2 (lyS Ns Cs S r0 6).2.1 (lyS Ns Cs S r0 6).2.2.1 (List.replicate 6 0) (List.replicate 6 0) (lyS Ns Cs S r0 6).2.2.2 → xonly h h' kCh → Q v h' c n) → XW l G M_Choices_layOut (d + 1) 0 [some (.ref o), some (.ref na), some (.ref ca), some (.int (nI S)), none, none] [] h c n Q := by
    intro Q hQ
    have lp : ∀ (k j : Nat) (h1 : XH) (pk lv : List Nat) (w5 : Option Value), j + k = 6 → isCh h1 o (lyS Ns Cs S r0 j).1.1 (lyS Ns Cs S r0 j).1.2 (lyS Ns Cs S r0 j).2.1 (lyS Ns Cs S r0 j).2.2.1 pk lv (lyS Ns Cs S r0 j).2.2.2 → xonly h h1 kCh → pk.length = 6 → lv.length = 6 → (∀ i, i < j → pk[i]? = some 0 ∧ lv[i]? = some 0) → XW l G M_Choices_layOut (d + 1) 13 [some (.ref o), some (.ref na), some (.ref ca), some (.int (nI S)), some (.int (nI j)), w5] [] h1 c n Q := by
      intro k
      induction k with
      | zero =>
        intro j h1 pk lv w5 hj hc1 hx hp1 hl1 hz
        obtain rfl : j = 6 := by omega
        obtain ⟨cv, cs, ca', cp, cl, hc1⟩ := hc1
        obtain ⟨-, -, -, rk⟩ := rok 6
        have hpz : pk = List.replicate 6 0 := by
          refine List.ext_getElem? (fun i => ?_)
          rw [List.getElem?_replicate]
          by_cases hi : i < 6
          · rw [if_pos hi]; exact (hz i hi).1
          · rw [if_neg hi]; exact List.getElem?_eq_none (by omega)
        have hlz : lv = List.replicate 6 0 := by
          refine List.ext_getElem? (fun i => ?_)
          rw [List.getElem?_replicate]
          by_cases hi : i < 6
          · rw [if_pos hi]; exact (hz i hi).2
          · rw [if_neg hi]; exact List.getElem?_eq_none (by omega)
        rw [hpz, hlz] at hc1
        have hc1 : chP h1 o cv cs ca' cp cl _ _ _ _ _ _ _ := hc1
        by_cases g : (lyS Ns Cs S r0 6).2.2.2 ≤ 20000
        · refine x_iload d_Choices_layOut_13 rfl ?_
          refine x_bipush (v := 6) d_Choices_layOut_15 (by decide) ?_
          refine x_icmp_ge (tgt := 196) d_Choices_layOut_17 (by decide) (fun _ => ?_) (fun hn => absurd (by decide) hn)
          refine x_aload_n d_Choices_layOut_196 rfl rfl ?_
          refine x_get xf_Choices_32_Choices (Or.inl hc1.1) rfl d_Choices_layOut_197 ?_
          refine x_sipush (v := 20000) d_Choices_layOut_200 (by decide) ?_
          refine x_icmp_gt (tgt := 210) d_Choices_layOut_203 (by decide) (fun ht => absurd ht (nI_nlt (a := 20000) g (by omega))) (fun _ => ?_)
          refine x_iconst (v := 1) d_Choices_layOut_206 (by decide) ?_
          refine x_goto (tgt := 211) d_Choices_layOut_207 (by decide) ?_
          refine x_zret d_Choices_layOut_211 rfl rfl ?_
          exact hQ _ _ (by rw [decide_eq_true g]; rfl) hc1.is hx
        · refine x_iload d_Choices_layOut_13 rfl ?_
          refine x_bipush (v := 6) d_Choices_layOut_15 (by decide) ?_
          refine x_icmp_ge (tgt := 196) d_Choices_layOut_17 (by decide) (fun _ => ?_) (fun hn => absurd (by decide) hn)
          refine x_aload_n d_Choices_layOut_196 rfl rfl ?_
          refine x_get xf_Choices_32_Choices (Or.inl hc1.1) rfl d_Choices_layOut_197 ?_
          refine x_sipush (v := 20000) d_Choices_layOut_200 (by decide) ?_
          refine x_icmp_gt (tgt := 210) d_Choices_layOut_203 (by decide) (fun _ => ?_) (fun hn => absurd (nI_lt (a := 20000) (by omega) (by omega)) hn)
          refine x_iconst (v := 0) d_Choices_layOut_210 (by decide) ?_
          refine x_zret d_Choices_layOut_211 rfl rfl ?_
          exact hQ _ _ (by rw [decide_eq_false g]; rfl) hc1.is hx
      | succ k ih =>
        intro j h1 pk lv w5 hj hc1 hx hp1 hl1 hz
        have hsn : lyS Ns Cs S r0 (j + 1) = lyN Ns Cs S j (lyS Ns Cs S r0 j) := rfl
        have hih := ih (j + 1)
        rw [hsn] at hih
        obtain ⟨rq, rs, ra, rc⟩ := rok j
        generalize lyS Ns Cs S r0 j = r at hc1 hih rq rs ra rc
        obtain ⟨q, st1, sa1, co⟩ := r
        simp only at hc1 rq rs ra rc
        obtain ⟨cv, cs, ca', cp, cl, hc1⟩ := hc1
        have hc1 : chP h1 o cv cs ca' cp cl _ _ _ _ _ _ _ := hc1
        obtain ⟨rq1, rq2, rq3⟩ := id rq
        refine x_iload d_Choices_layOut_13 rfl ?_
        refine x_bipush (v := 6) d_Choices_layOut_15 (by decide) ?_
        refine x_icmp_ge (tgt := 196) d_Choices_layOut_17 (by decide) (fun ht => absurd ht (nI_ge (b := 6) (by omega) (by omega))) (fun _ => ?_)
        refine x_aload_n d_Choices_layOut_20 rfl rfl ?_
        refine x_get xf_Choices_19_Choices (Or.inl hc1.1) rfl d_Choices_layOut_21 ?_
        refine x_iload d_Choices_layOut_24 rfl ?_
        refine x_aload_n d_Choices_layOut_26 rfl rfl ?_
        refine x_get xf_Choices_15_Choices (Or.inl hc1.1) rfl d_Choices_layOut_27 ?_
        refine x_iast (k := k_astarts) rfl hc1.2.2.1 (nI_pos (by omega)) (by rw [nI_clamp (by omega)]; exact iv_at (by omega)) d_Choices_layOut_30 ?_
        refine x_hp (h' := xup h1 cs (k_astarts, xiv (st1.set j q.2))) (by rw [nI_clamp (by omega), xiv_set]) ?_
        obtain ⟨hc2, hx2⟩ := hc1.uSt (st' := st1.set j q.2)
        replace hx := hx.tr (hx2 (k_astarts, xiv (st1.set j q.2)))
        generalize xup h1 cs (k_astarts, xiv (st1.set j q.2)) = h2 at hc2 hx
        have hgj : (st1.set j q.2).getD j 0 = q.2 := by rw [getD_set (by omega), if_pos rfl]
        have hsl2 : (st1.set j q.2).length = 6 := by rw [List.length_set]; exact rs
        have hgo : ∀ (i : Nat), okQ (lyC Cs S j q.2 i q) ∧ q.2 ≤ (lyC Cs S j q.2 i q).2 := lyC_ok hv rq (Nat.le_refl _)
        -- behind the conditions
        have beh : ∀ (h3 : XH) (w5 : Option Value), isCh h3 o (lyC Cs S j q.2 8 q).1 (lyC Cs S j q.2 8 q).2 (st1.set j q.2) sa1 pk lv co → xonly h h3 kCh → XW l G M_Choices_layOut (d + 1) 77 [some (.ref o), some (.ref na), some (.ref ca), some (.int (nI S)), some (.int (nI j)), w5] [] h3 c n Q := by
          intro h3 w5 hc3 hx3
          obtain ⟨cv, cs, ca', cp, cl, hc3⟩ := hc3
          have hc3 : chP h3 o cv cs ca' cp cl _ _ _ _ _ _ _ := hc3
          obtain ⟨g1, g2⟩ := hgo 8
          have hk := lyK_ok (j := j) hv g1 g2
          have hKd : lyK Ns j q.2 (lyC Cs S j q.2 8 q) = if q.2 < (lyC Cs S j q.2 8 q).2 then (match Ns[j]? with
            | some x => adL q.2 x.2.2 (lyC Cs S j q.2 8 q)
            | none => (lyC Cs S j q.2 8 q)) else (lyC Cs S j q.2 8 q) := rfl
          have hih2 : ∀ (h' : XH) (pk' lv' : List Nat) (w5' : Option Value), isCh h' o (lyK Ns j q.2 (lyC Cs S j q.2 8 q)).1 (lyK Ns j q.2 (lyC Cs S j q.2 8 q)).2 (st1.set j q.2) (sa1.set j (lyM q.2 (lyC Cs S j q.2 8 q).2 (lyK Ns j q.2 (lyC Cs S j q.2 8 q)).2)) pk' lv' (min (co * lyM q.2 (lyC Cs S j q.2 8 q).2 (lyK Ns j q.2 (lyC Cs S j q.2 8 q)).2) 20001) → xonly h h' kCh → pk'.length = 6 → lv'.length = 6 → (∀ i, i < j + 1 → pk'[i]? = some 0 ∧ lv'[i]? = some 0) → XW l G M_Choices_layOut (d + 1) 13 [some (.ref o), some (.ref na), some (.ref ca), some (.int (nI S)), some (.int (nI (j + 1))), w5'] [] h' c n Q := fun h' pk' lv' w5' a1 a2 a3 a4 a5 => hih h' pk' lv' w5' (by omega) a1 a2 a3 a4 a5
          generalize lyC Cs S j q.2 8 q = q1 at hc3 g1 g2 hk hKd hih2
          obtain ⟨g1a, g1b, -⟩ := id g1
          refine x_aload_n d_Choices_layOut_77 rfl rfl ?_
          refine x_get xf_Choices_15_Choices (Or.inl hc3.1) rfl d_Choices_layOut_78 ?_
          refine x_aload_n d_Choices_layOut_81 rfl rfl ?_
          refine x_get xf_Choices_19_Choices (Or.inl hc3.1) rfl d_Choices_layOut_82 ?_
          refine x_iload d_Choices_layOut_85 rfl ?_
          refine x_iald (k := k_astarts) rfl (Or.inl hc3.2.2.1) (nI_pos (by omega)) (by rw [nI_clamp (by omega)]; exact iv_at (by omega)) d_Choices_layOut_87 ?_
          refine x_isub d_Choices_layOut_88 ?_
          rw [hgj]
          refine x_top (w := .int (nI (q1.2 - q.2))) (by rw [pk_sub (by omega)]) ?_
          -- behind the SAMPLES
          have beh2 : ∀ (h4 : XH) (q2 : List Nat × Nat), q2 = lyK Ns j q.2 q1 → isCh h4 o q2.1 q2.2 (st1.set j q.2) sa1 pk lv co → xonly h h4 kCh → XW l G M_Choices_layOut (d + 1) 120 [some (.ref o), some (.ref na), some (.ref ca), some (.int (nI S)), some (.int (nI j)), some (.int (nI (q1.2 - q.2)))] [] h4 c n Q := by
            intro h4 q2 he2 hc4 hx4
            obtain ⟨cv, cs, ca', cp, cl, hc4⟩ := hc4
            have hc4 : chP h4 o cv cs ca' cp cl _ _ _ _ _ _ _ := hc4
            rw [← he2] at hih2 hk
            obtain ⟨k1, k2⟩ := hk
            obtain ⟨k1a, k1b, -⟩ := id k1
            have beh3 : ∀ (sm : Nat), sm = lyM q.2 q1.2 q2.2 → sm ≤ 714 → XW l G M_Choices_layOut (d + 1) 151 [some (.ref o), some (.ref na), some (.ref ca), some (.int (nI S)), some (.int (nI j)), some (.int (nI (q1.2 - q.2)))] [.int (nI sm), .int (nI j), .ref ca'] h4 c n Q := by
              intro sm hsm hsb
              rw [← hsm] at hih2
              have hcs : co * sm ≤ 20001 * 714 := Nat.mul_le_mul rc hsb
              refine x_iast (k := k_asamples) rfl hc4.2.2.2.1 (nI_pos (by omega)) (by rw [nI_clamp (by omega)]; exact iv_at (by omega)) d_Choices_layOut_151 ?_
              refine x_hp (h' := xup h4 ca' (k_asamples, xiv (sa1.set j sm))) (by rw [nI_clamp (by omega), xiv_set]) ?_
              obtain ⟨hc5, hx5⟩ := hc4.uSa (sa' := sa1.set j sm)
              have hX5 := hx4.tr (hx5 (k_asamples, xiv (sa1.set j sm)))
              generalize xup h4 ca' (k_asamples, xiv (sa1.set j sm)) = h5 at hc5 hX5
              refine x_aload_n d_Choices_layOut_152 rfl rfl ?_
              refine x_get xf_Choices_26_Choices (Or.inl hc5.1) rfl d_Choices_layOut_153 ?_
              refine x_iload d_Choices_layOut_156 rfl ?_
              refine x_iconst (v := 0) d_Choices_layOut_158 (by decide) ?_
              refine x_iast (k := k_apicks) rfl hc5.2.2.2.2.1 (nI_pos (by omega)) (by rw [nI_clamp (by omega)]; exact iv_at (by omega)) d_Choices_layOut_159 ?_
              refine x_hp (h' := xup h5 cp (k_apicks, xiv (pk.set j 0))) (by rw [nI_clamp (by omega), show (Value.int 0) = .int (nI 0) from rfl, xiv_set]) ?_
              obtain ⟨hc6, hx6⟩ := hc5.uPk (pk' := pk.set j 0)
              have hX6 := hX5.tr (hx6 (k_apicks, xiv (pk.set j 0)))
              generalize xup h5 cp (k_apicks, xiv (pk.set j 0)) = h6 at hc6 hX6
              refine x_aload_n d_Choices_layOut_160 rfl rfl ?_
              refine x_get xf_Choices_29_Choices (Or.inl hc6.1) rfl d_Choices_layOut_161 ?_
              refine x_iload d_Choices_layOut_164 rfl ?_
              refine x_lconst (v := 0) d_Choices_layOut_166 (by decide) ?_
              refine x_last (k := k_achl) rfl hc6.2.2.2.2.2 (nI_pos (by omega)) (by rw [nI_clamp (by omega)]; exact lvv_at (by omega)) d_Choices_layOut_167 ?_
              refine x_hp (h' := xup h6 cl (k_achl, (lv.set j 0).map (fun v => .long (lN v)))) (by rw [nI_clamp (by omega), show (Value.long 0) = .long (lN 0) from rfl, lvv_set]) ?_
              obtain ⟨hc7, hx7⟩ := hc6.uLv (lv' := lv.set j 0)
              have hX7 := hX6.tr (hx7 (k_achl, (lv.set j 0).map (fun v => .long (lN v))))
              generalize xup h6 cl (k_achl, (lv.set j 0).map (fun v => .long (lN v))) = h7 at hc7 hX7
              have hsl7 : (sa1.set j sm).length = 6 := by rw [List.length_set]; exact ra
              refine x_aload_n d_Choices_layOut_168 rfl rfl ?_
              refine x_aload_n d_Choices_layOut_169 rfl rfl ?_
              refine x_get xf_Choices_32_Choices (Or.inl hc7.1) rfl d_Choices_layOut_170 ?_
              refine x_aload_n d_Choices_layOut_173 rfl rfl ?_
              refine x_get xf_Choices_23_Choices (Or.inl hc7.1) rfl d_Choices_layOut_174 ?_
              refine x_iload d_Choices_layOut_177 rfl ?_
              refine x_iald (k := k_asamples) rfl (Or.inl hc7.2.2.2.1) (nI_pos (by omega)) (by rw [nI_clamp (by omega)]; exact iv_at (by omega)) d_Choices_layOut_179 ?_
              refine x_imul d_Choices_layOut_180 ?_
              rw [show (sa1.set j sm).getD j 0 = sm by rw [getD_set (by omega), if_pos rfl]]
              refine x_top (w := .int (nI (co * sm))) (by rw [nI_mul]) ?_
              refine x_sipush (v := 20001) d_Choices_layOut_181 (by decide) ?_
              refine x_mmin xw_348 xw_216 xw_10 xw_217 (Nat.le_of_ble_eq_true rfl) d_Choices_layOut_184 ?_
              refine x_top (w := .int (nI (min (co * sm) 20001))) (by rw [show (20001 : Int32) = nI 20001 from rfl, nI_min (by omega) (by omega)]) ?_
              refine x_put xf_Choices_32_Choices xp_Choices_6 rfl rfl hc7.1 rfl rfl d_Choices_layOut_187 ?_
              obtain ⟨hc8, hx8⟩ := hc7.ob (us' := q2.2) (co' := min (co * sm) 20001)
              refine x_iinc (v := nI (j + 1)) (L' := [_, _, _, _, _, _]) d_Choices_layOut_190 rfl (by exact xw_iinc1) rfl rfl ?_
              refine x_goto (tgt := 13) d_Choices_layOut_193 (by decide) ?_
              refine hih2 _ _ _ _ hc8.is (hX7.tr (hx8 _)) (by rw [List.length_set]; exact hp1) (by rw [List.length_set]; exact hl1) (fun i hi => ?_)
              by_cases hij : j = i
              · subst hij
                rw [List.getElem?_set_self (by omega), List.getElem?_set_self (by omega)]
                exact ⟨rfl, rfl⟩
              · rw [List.getElem?_set_ne hij, List.getElem?_set_ne hij]
                exact hz i (by omega)
            by_cases g : q.2 < q1.2
            · refine x_aload_n d_Choices_layOut_120 rfl rfl ?_
              refine x_get xf_Choices_23_Choices (Or.inl hc4.1) rfl d_Choices_layOut_121 ?_
              refine x_iload d_Choices_layOut_124 rfl ?_
              refine x_iload d_Choices_layOut_126 rfl ?_
              refine x_if_le (tgt := 150) d_Choices_layOut_128 (by decide) (fun ht => absurd ht (nI_nle (by omega) (by omega))) (fun _ => ?_)
              refine x_iconst (v := 2) d_Choices_layOut_131 (by decide) ?_
              refine x_aload_n d_Choices_layOut_132 rfl rfl ?_
              refine x_get xf_Choices_15_Choices (Or.inl hc4.1) rfl d_Choices_layOut_133 ?_
              refine x_aload_n d_Choices_layOut_136 rfl rfl ?_
              refine x_get xf_Choices_19_Choices (Or.inl hc4.1) rfl d_Choices_layOut_137 ?_
              refine x_iload d_Choices_layOut_140 rfl ?_
              refine x_iald (k := k_astarts) rfl (Or.inl hc4.2.2.1) (nI_pos (by omega)) (by rw [nI_clamp (by omega)]; exact iv_at (by omega)) d_Choices_layOut_142 ?_
              refine x_isub d_Choices_layOut_143 ?_
              rw [hgj]
              refine x_top (w := .int (nI (q2.2 - q.2))) (by rw [pk_sub (by omega)]) ?_
              refine x_imul d_Choices_layOut_144 ?_
              refine x_top (w := .int (nI (2 * (q2.2 - q.2)))) (by rw [show (2 : Int32) = nI 2 from rfl, nI_mul]) ?_
              refine x_iconst (v := 2) d_Choices_layOut_145 (by decide) ?_
              refine x_iadd d_Choices_layOut_146 ?_
              refine x_top (w := .int (nI (2 * (q2.2 - q.2) + 2))) (by rw [show (2 : Int32) = nI 2 from rfl, nI_add]) ?_
              refine x_goto (tgt := 151) d_Choices_layOut_147 (by decide) ?_
              exact beh3 _ (by unfold lyM; rw [if_pos g]) (by omega)
            · refine x_aload_n d_Choices_layOut_120 rfl rfl ?_
              refine x_get xf_Choices_23_Choices (Or.inl hc4.1) rfl d_Choices_layOut_121 ?_
              refine x_iload d_Choices_layOut_124 rfl ?_
              refine x_iload d_Choices_layOut_126 rfl ?_
              refine x_if_le (tgt := 150) d_Choices_layOut_128 (by decide) (fun _ => ?_) (fun hn => absurd (nI_le (b := 0) (by omega) (by omega)) hn)
              refine x_iconst (v := 1) d_Choices_layOut_150 (by decide) ?_
              exact beh3 1 (by unfold lyM; rw [if_neg g]) (by omega)
          by_cases g : q.2 < q1.2
          · rw [if_pos g] at hKd
            obtain ⟨F3, hf3, hn3⟩ := id hx3
            have hN3 := hN.fr hf3 (hn3 _ (by decide))
            obtain ⟨M1, M2, M3, M4, M5, M6, M7⟩ := id hN3
            have hat := or_at (cas := as) (N := 6) (i := j) (by omega) (by omega)
            by_cases hja : j < as.length
            · rw [List.getElem?_eq_getElem hja] at hat
              have hjn : j < Ns.length := by omega
              rw [List.getElem?_eq_getElem hjn] at hKd
              have hKd : lyK Ns j q.2 q1 = adL q.2 Ns[j].2.2 q1 := hKd
              obtain ⟨hNn, -⟩ := M7 j _ _ kas[j] (List.getElem?_eq_getElem hjn) (List.getElem?_eq_getElem hja) (List.getElem?_eq_getElem (by omega))
              refine x_istore (L' := [_, _, _, _, _, _]) d_Choices_layOut_89 rfl rfl ?_
              refine x_iload d_Choices_layOut_91 rfl ?_
              refine x_if_le (tgt := 120) d_Choices_layOut_93 (by decide) (fun ht => absurd ht (nI_nle (by omega) (by omega))) (fun _ => ?_)
              refine x_iload d_Choices_layOut_96 rfl ?_
              refine x_aload_n d_Choices_layOut_98 rfl rfl ?_
              refine x_alen (k := k_aName) rfl (Or.inl M1) (v := nI 6) (by rw [hlenN]; rfl) d_Choices_layOut_99 ?_
              refine x_icmp_ge (tgt := 120) d_Choices_layOut_100 (by decide) (fun ht => absurd ht (nI_ge (b := 6) (by omega) (by omega))) (fun _ => ?_)
              refine x_aload_n d_Choices_layOut_103 rfl rfl ?_
              refine x_iload d_Choices_layOut_104 rfl ?_
              refine x_aald (k := k_aName) rfl rfl (Or.inl M1) (nI_pos (by omega)) (by rw [nI_clamp (by omega)]; exact hat) d_Choices_layOut_106 ?_
              refine x_ifnull d_Choices_layOut_107 ?_
              refine x_aload_n d_Choices_layOut_110 rfl rfl ?_
              refine x_aload_n d_Choices_layOut_111 rfl rfl ?_
              refine x_iload d_Choices_layOut_112 rfl ?_
              refine x_aald (k := k_aName) rfl rfl (Or.inl M1) (nI_pos (by omega)) (by rw [nI_clamp (by omega)]; exact hat) d_Choices_layOut_114 ?_
              refine x_iload d_Choices_layOut_115 rfl ?_
              refine x_callV (As := [_, _]) (k := k_Choices) rfl xcv_Choices_45_Choices (Or.inl hc3.1) (c_addKnown (by omega) hc3.is g1 hsl2 (by omega) (by rw [hgj]; omega) hNn (hv.1 _ (List.getElem_mem hjn))) rfl rfl (Nat.le_of_ble_eq_true rfl) d_Choices_layOut_117 ?_
              rintro v h4 c4 n4 ⟨rfl, hc4, hx4, rfl, rfl⟩
              rw [hgj, ← hKd] at hc4
              exact beh2 h4 _ rfl hc4 (hx3.tr (hx4.mono (by decide)))
            · rw [List.getElem?_eq_none (by omega : as.length ≤ j)] at hat
              rw [List.getElem?_eq_none (by omega : Ns.length ≤ j)] at hKd
              have hKd : lyK Ns j q.2 q1 = q1 := hKd
              refine x_istore (L' := [_, _, _, _, _, _]) d_Choices_layOut_89 rfl rfl ?_
              refine x_iload d_Choices_layOut_91 rfl ?_
              refine x_if_le (tgt := 120) d_Choices_layOut_93 (by decide) (fun ht => absurd ht (nI_nle (by omega) (by omega))) (fun _ => ?_)
              refine x_iload d_Choices_layOut_96 rfl ?_
              refine x_aload_n d_Choices_layOut_98 rfl rfl ?_
              refine x_alen (k := k_aName) rfl (Or.inl M1) (v := nI 6) (by rw [hlenN]; rfl) d_Choices_layOut_99 ?_
              refine x_icmp_ge (tgt := 120) d_Choices_layOut_100 (by decide) (fun ht => absurd ht (nI_ge (b := 6) (by omega) (by omega))) (fun _ => ?_)
              refine x_aload_n d_Choices_layOut_103 rfl rfl ?_
              refine x_iload d_Choices_layOut_104 rfl ?_
              refine x_aald (k := k_aName) rfl rfl (Or.inl M1) (nI_pos (by omega)) (by rw [nI_clamp (by omega)]; exact hat) d_Choices_layOut_106 ?_
              refine x_ifnullN (tgt := 120) d_Choices_layOut_107 (by decide) ?_
              exact beh2 h3 q1 hKd.symm hc3.is hx3
          · rw [if_neg g] at hKd
            refine x_istore (L' := [_, _, _, _, _, _]) d_Choices_layOut_89 rfl rfl ?_
            refine x_iload d_Choices_layOut_91 rfl ?_
            refine x_if_le (tgt := 120) d_Choices_layOut_93 (by decide) (fun _ => ?_) (fun hn => absurd (nI_le (b := 0) (by omega) (by omega)) hn)
            exact beh2 h3 q1 hKd.symm hc3.is hx3
        -- the conditions
        have lpc : ∀ (k2 i : Nat) (h3 : XH), i + k2 = 8 → isCh h3 o (lyC Cs S j q.2 i q).1 (lyC Cs S j q.2 i q).2 (st1.set j q.2) sa1 pk lv co → xonly h h3 kCh → XW l G M_Choices_layOut (d + 1) 34 [some (.ref o), some (.ref na), some (.ref ca), some (.int (nI S)), some (.int (nI j)), some (.int (nI i))] [] h3 c n Q := by
          intro k2
          induction k2 with
          | zero =>
            intro i h3 hi hc3 hx3
            obtain rfl : i = 8 := by omega
            obtain ⟨F3, hf3, hn3⟩ := id hx3
            obtain ⟨D1, -⟩ := hC.fr hf3 (hn3 _ (by decide))
            refine x_iload d_Choices_layOut_34 rfl ?_
            refine x_aload_n d_Choices_layOut_36 rfl rfl ?_
            refine x_alen (k := k_aCondition) rfl (Or.inl D1) (v := nI 8) (by rw [hlenC]; rfl) d_Choices_layOut_37 ?_
            refine x_icmp_ge (tgt := 77) d_Choices_layOut_38 (by decide) (fun _ => ?_) (fun hn => absurd (by decide) hn)
            exact beh h3 _ hc3 hx3
          | succ k2 ih2 =>
            intro i h3 hi hc3 hx3
            obtain ⟨F3, hf3, hn3⟩ := id hx3
            obtain ⟨D1, D2, D3, D4⟩ := hC.fr hf3 (hn3 _ (by decide))
            have hnx := ih2 (i + 1)
            have hstep : lyC Cs S j q.2 (i + 1) q = if S.testBit i then (match Cs[i]? with
              | some D => adT j q.2 D.2 (lyC Cs S j q.2 i q)
              | none => lyC Cs S j q.2 i q) else lyC Cs S j q.2 i q := rfl
            have hb := bit_at0 S hS i (by omega)
            have hat := or_at (cas := cas) (N := 8) (i := i) (by omega) (by omega)
            by_cases hz1 : (nI S >>> (nI i &&& 31)) &&& 1 = 1
            · rw [decide_eq_true hz1] at hb
              rw [← hb, if_pos rfl] at hstep
              by_cases hic : i < cas.length
              · have hiC : i < Cs.length := by omega
                rw [List.getElem?_eq_getElem hic] at hat
                rw [List.getElem?_eq_getElem hiC] at hstep
                have hstep : lyC Cs S j q.2 (i + 1) q = adT j q.2 Cs[i].2 (lyC Cs S j q.2 i q) := hstep
                obtain ⟨ra', la, sA, ea, es, y1, y2, y3, y4, y5, y6, y7⟩ := D4 i _ _ (List.getElem?_eq_getElem hiC) (List.getElem?_eq_getElem hic)
                obtain ⟨cv', cs', ca4, cp', cl', o0⟩ := id hc3
                obtain ⟨u1, u2⟩ := hgo i
                refine x_iload d_Choices_layOut_34 rfl ?_
                refine x_aload_n d_Choices_layOut_36 rfl rfl ?_
                refine x_alen (k := k_aCondition) rfl (Or.inl D1) (v := nI 8) (by rw [hlenC]; rfl) d_Choices_layOut_37 ?_
                refine x_icmp_ge (tgt := 77) d_Choices_layOut_38 (by decide) (fun ht => absurd ht (nI_ge (b := 8) (by omega) (by omega))) (fun _ => ?_)
                refine x_iload_n d_Choices_layOut_41 rfl ?_
                refine x_iload d_Choices_layOut_42 rfl ?_
                refine x_ishr d_Choices_layOut_44 ?_
                refine x_iconst (v := 1) d_Choices_layOut_45 (by decide) ?_
                refine x_iand d_Choices_layOut_46 ?_
                refine x_iconst (v := 1) d_Choices_layOut_47 (by decide) ?_
                refine x_icmp_ne (tgt := 71) d_Choices_layOut_48 (by decide) (fun ht => absurd hz1 ht) (fun _ => ?_)
                refine x_aload_n d_Choices_layOut_51 rfl rfl ?_
                refine x_iload d_Choices_layOut_52 rfl ?_
                refine x_aald (k := k_aCondition) rfl rfl (Or.inl D1) (nI_pos (by omega)) (by rw [nI_clamp (by omega)]; exact hat) d_Choices_layOut_54 ?_
                refine x_ifnull d_Choices_layOut_55 ?_
                refine x_aload_n d_Choices_layOut_58 rfl rfl ?_
                refine x_aload_n d_Choices_layOut_59 rfl rfl ?_
                refine x_iload d_Choices_layOut_60 rfl ?_
                refine x_aald (k := k_aCondition) rfl rfl (Or.inl D1) (nI_pos (by omega)) (by rw [nI_clamp (by omega)]; exact hat) d_Choices_layOut_62 ?_
                refine x_get xf_Choices_35_Condition (Or.inl y1) rfl d_Choices_layOut_63 ?_
                refine x_iload d_Choices_layOut_66 rfl ?_
                refine x_callV (As := [_, _]) (k := k_Choices) rfl xcv_Choices_41_Choices (Or.inl o0.1) (c_addTested (by omega) hc3 u1 hsl2 (by omega) (by rw [hgj]; exact u2) y3 y4 (hv.2 _ (List.getElem_mem hiC)) y7) rfl rfl (Nat.le_of_ble_eq_true rfl) d_Choices_layOut_68 ?_
                rintro v h4 c4 n4 ⟨rfl, hc4, hx4, rfl, rfl⟩
                rw [hgj, ← hstep] at hc4
                refine x_iinc (v := nI (i + 1)) (L' := [_, _, _, _, _, _]) d_Choices_layOut_71 rfl (by exact xw_iinc1) rfl rfl ?_
                refine x_goto (tgt := 34) d_Choices_layOut_74 (by decide) ?_
                exact hnx h4 (by omega) hc4 (hx3.tr (hx4.mono (by decide)))
              · rw [List.getElem?_eq_none (by omega : cas.length ≤ i)] at hat
                rw [List.getElem?_eq_none (by omega : Cs.length ≤ i)] at hstep
                have hstep : lyC Cs S j q.2 (i + 1) q = lyC Cs S j q.2 i q := hstep
                refine x_iload d_Choices_layOut_34 rfl ?_
                refine x_aload_n d_Choices_layOut_36 rfl rfl ?_
                refine x_alen (k := k_aCondition) rfl (Or.inl D1) (v := nI 8) (by rw [hlenC]; rfl) d_Choices_layOut_37 ?_
                refine x_icmp_ge (tgt := 77) d_Choices_layOut_38 (by decide) (fun ht => absurd ht (nI_ge (b := 8) (by omega) (by omega))) (fun _ => ?_)
                refine x_iload_n d_Choices_layOut_41 rfl ?_
                refine x_iload d_Choices_layOut_42 rfl ?_
                refine x_ishr d_Choices_layOut_44 ?_
                refine x_iconst (v := 1) d_Choices_layOut_45 (by decide) ?_
                refine x_iand d_Choices_layOut_46 ?_
                refine x_iconst (v := 1) d_Choices_layOut_47 (by decide) ?_
                refine x_icmp_ne (tgt := 71) d_Choices_layOut_48 (by decide) (fun ht => absurd hz1 ht) (fun _ => ?_)
                refine x_aload_n d_Choices_layOut_51 rfl rfl ?_
                refine x_iload d_Choices_layOut_52 rfl ?_
                refine x_aald (k := k_aCondition) rfl rfl (Or.inl D1) (nI_pos (by omega)) (by rw [nI_clamp (by omega)]; exact hat) d_Choices_layOut_54 ?_
                refine x_ifnullN (tgt := 71) d_Choices_layOut_55 (by decide) ?_
                refine x_iinc (v := nI (i + 1)) (L' := [_, _, _, _, _, _]) d_Choices_layOut_71 rfl (by exact xw_iinc1) rfl rfl ?_
                refine x_goto (tgt := 34) d_Choices_layOut_74 (by decide) ?_
                exact hnx h3 (by omega) (by rw [hstep]; exact hc3) hx3
            · rw [decide_eq_false hz1] at hb
              rw [← hb, if_neg (by decide)] at hstep
              refine x_iload d_Choices_layOut_34 rfl ?_
              refine x_aload_n d_Choices_layOut_36 rfl rfl ?_
              refine x_alen (k := k_aCondition) rfl (Or.inl D1) (v := nI 8) (by rw [hlenC]; rfl) d_Choices_layOut_37 ?_
              refine x_icmp_ge (tgt := 77) d_Choices_layOut_38 (by decide) (fun ht => absurd ht (nI_ge (b := 8) (by omega) (by omega))) (fun _ => ?_)
              refine x_iload_n d_Choices_layOut_41 rfl ?_
              refine x_iload d_Choices_layOut_42 rfl ?_
              refine x_ishr d_Choices_layOut_44 ?_
              refine x_iconst (v := 1) d_Choices_layOut_45 (by decide) ?_
              refine x_iand d_Choices_layOut_46 ?_
              refine x_iconst (v := 1) d_Choices_layOut_47 (by decide) ?_
              refine x_icmp_ne (tgt := 71) d_Choices_layOut_48 (by decide) (fun _ => ?_) (fun hn => absurd hn hz1)
              refine x_iinc (v := nI (i + 1)) (L' := [_, _, _, _, _, _]) d_Choices_layOut_71 rfl (by exact xw_iinc1) rfl rfl ?_
              refine x_goto (tgt := 34) d_Choices_layOut_74 (by decide) ?_
              exact hnx h3 (by omega) (by rw [hstep]; exact hc3) hx3
        refine x_iconst (v := 0) d_Choices_layOut_31 (by decide) ?_
        refine x_istore (L' := [_, _, _, _, _, _]) d_Choices_layOut_32 rfl rfl ?_
        exact lpc 8 0 h2 (by omega) hc2.is hx
    have hc : chP h o cv cs ca' cp cl _ _ _ _ _ _ _ := hc
    refine x_aload_n d_Choices_layOut_0 rfl rfl ?_
    refine x_iconst (v := 0) d_Choices_layOut_1 (by decide) ?_
    refine x_put xf_Choices_15_Choices xp_Choices_1 rfl rfl hc.1 rfl rfl d_Choices_layOut_2 ?_
    obtain ⟨hc1, hx1⟩ := hc.ob (us' := 0) (co' := co0)
    refine x_aload_n d_Choices_layOut_5 rfl rfl ?_
    refine x_iconst (v := 1) d_Choices_layOut_6 (by decide) ?_
    refine x_put xf_Choices_32_Choices xp_Choices_6 rfl rfl hc1.1 rfl rfl d_Choices_layOut_7 ?_
    obtain ⟨hc2, hx2⟩ := hc1.ob (us' := 0) (co' := 1)
    refine x_iconst (v := 0) d_Choices_layOut_10 (by decide) ?_
    refine x_istore (L' := [_, _, _, _, _, _]) d_Choices_layOut_11 rfl rfl ?_
    refine lp 6 0 _ pk lv _ (by omega) ?_ ((hx1 _).tr (hx2 _)) hpl hll (fun i hi => by omega)
    rw [show lyS Ns Cs S r0 0 = r0 from rfl, ← hr0]
    exact hc2.is
  refine go _ (fun h' v e1 e2 e3 => ⟨vs, st, sa, hvl, hsl, hal, ?_⟩)
  rw [hr0]
  exact ⟨e1, e2, e3, rfl, rfl⟩
end CH8
