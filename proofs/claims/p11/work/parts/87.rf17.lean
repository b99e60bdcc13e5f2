section
abbrev y_Mo_prepare : MethodName := ⟨"MarkerTextModel", "prepare", "(I)Z"⟩
abbrev M_Mo_prepare : XMt := (y_Mo_prepare, prog_13_method_47_code, 6, (some .boolean))
theorem d_Mo_prepare_160 : decode M_Mo_prepare.2.1 160 = .ok (.iload 4, 2) := by decide +kernel
theorem d_Mo_prepare_162 : decode M_Mo_prepare.2.1 162 = .ok (.aload_n 0, 1) := by decide +kernel
theorem d_Mo_prepare_163 : decode M_Mo_prepare.2.1 163 = .ok (.getfield 268, 3) := by decide +kernel
theorem d_Mo_prepare_166 : decode M_Mo_prepare.2.1 166 = .ok (.if_icmp .ge 25, 3) := by decide +kernel
theorem d_Mo_prepare_191 : decode M_Mo_prepare.2.1 191 = .ok (.lload_n 2, 1) := by decide +kernel
theorem d_Mo_prepare_192 : decode M_Mo_prepare.2.1 192 = .ok (.ldc2_w 294, 3) := by decide +kernel
theorem xw_1514 : (Jvm.Cond.constantLong "MarkerTextModel" (294 : Nat) (20000 : Int64)) ∈ xT := xT_at 1514 (by decide +kernel) (by decide +kernel)
theorem d_Mo_prepare_195 : decode M_Mo_prepare.2.1 195 = .ok (.lcmp, 1) := by decide +kernel
theorem d_Mo_prepare_196 : decode M_Mo_prepare.2.1 196 = .ok (.ifCond .gt 7, 3) := by decide +kernel
theorem d_Mo_prepare_203 : decode M_Mo_prepare.2.1 203 = .ok (.iconst 0, 1) := by decide +kernel
theorem d_Mo_prepare_204 : decode M_Mo_prepare.2.1 204 = .ok (.ireturn, 1) := by decide +kernel
theorem d_Mo_prepare_199 : decode M_Mo_prepare.2.1 199 = .ok (.iconst 1, 1) := by decide +kernel
theorem d_Mo_prepare_200 : decode M_Mo_prepare.2.1 200 = .ok (.goto 4, 3) := by decide +kernel
theorem d_Mo_prepare_169 : decode M_Mo_prepare.2.1 169 = .ok (.iload_n 1, 1) := by decide +kernel
theorem d_Mo_prepare_170 : decode M_Mo_prepare.2.1 170 = .ok (.iload 4, 2) := by decide +kernel
theorem d_Mo_prepare_172 : decode M_Mo_prepare.2.1 172 = .ok (.ishr, 1) := by decide +kernel
theorem d_Mo_prepare_173 : decode M_Mo_prepare.2.1 173 = .ok (.iconst 1, 1) := by decide +kernel
theorem d_Mo_prepare_174 : decode M_Mo_prepare.2.1 174 = .ok (.iand, 1) := by decide +kernel
theorem d_Mo_prepare_175 : decode M_Mo_prepare.2.1 175 = .ok (.iconst 1, 1) := by decide +kernel
theorem d_Mo_prepare_176 : decode M_Mo_prepare.2.1 176 = .ok (.if_icmp .ne 9, 3) := by decide +kernel
theorem d_Mo_prepare_185 : decode M_Mo_prepare.2.1 185 = .ok (.iinc 4 1, 3) := by decide +kernel
theorem d_Mo_prepare_188 : decode M_Mo_prepare.2.1 188 = .ok (.goto (-28), 3) := by decide +kernel
theorem d_Mo_prepare_179 : decode M_Mo_prepare.2.1 179 = .ok (.aload_n 0, 1) := by decide +kernel
theorem d_Mo_prepare_180 : decode M_Mo_prepare.2.1 180 = .ok (.iload 4, 2) := by decide +kernel
theorem d_Mo_prepare_182 : decode M_Mo_prepare.2.1 182 = .ok (.invokevirtual 299, 3) := by decide +kernel
theorem xw_1522 : (Jvm.Cond.code ({ cls := "MarkerTextModel", name := "locate", desc := "(I)V" } : Jvm.MethodName) prog_13_method_45_code (6 : Nat) (Option.none : Option Jvm.ClassFile.FieldType)) ∈ xT := xT_at 1522 (by decide +kernel) (by decide +kernel)
theorem xcb_Mo_locate : xcb M_Mo_locate 1 := ⟨xw_1522, xw_8, by decide, by decide, by decide, by decide +kernel⟩
theorem xw_1521 : (Jvm.Cond.instanceMethod ({ cls := "MarkerTextModel", name := "locate", desc := "(I)V" } : Jvm.MethodName)) ∈ xT := xT_at 1521 (by decide +kernel) (by decide +kernel)
theorem xw_1519 : (Jvm.Cond.methodLink "MarkerTextModel" (299 : Nat) ({ cls := "MarkerTextModel", name := "locate", desc := "(I)V" } : Jvm.MethodName)) ∈ xT := xT_at 1519 (by decide +kernel) (by decide +kernel)
theorem xsel_Mo_locate : Cond.selects "MarkerTextModel" y_Mo_locate y_Mo_locate ∈ xT := xT_sel (q := (y_Mo_locate, 52)) (by decide +kernel) (by decide +kernel)
theorem xcv_Mo_299_Mo : xCV "MarkerTextModel" 299 "MarkerTextModel" M_Mo_locate 1 := ⟨xcb_Mo_locate, xw_1521, Or.inl ⟨xw_1519, Or.inl xsel_Mo_locate⟩⟩
theorem d_Mo_prepare_70 : decode M_Mo_prepare.2.1 70 = .ok (.iload 4, 2) := by decide +kernel
theorem d_Mo_prepare_72 : decode M_Mo_prepare.2.1 72 = .ok (.aload_n 0, 1) := by decide +kernel
theorem d_Mo_prepare_73 : decode M_Mo_prepare.2.1 73 = .ok (.getfield 147, 3) := by decide +kernel
theorem d_Mo_prepare_76 : decode M_Mo_prepare.2.1 76 = .ok (.if_icmp .ge 81, 3) := by decide +kernel
theorem d_Mo_prepare_157 : decode M_Mo_prepare.2.1 157 = .ok (.iconst 0, 1) := by decide +kernel
theorem d_Mo_prepare_158 : decode M_Mo_prepare.2.1 158 = .ok (.istore 4, 2) := by decide +kernel
theorem d_Mo_prepare_129 : decode M_Mo_prepare.2.1 129 = .ok (.lload_n 2, 1) := by decide +kernel
theorem d_Mo_prepare_130 : decode M_Mo_prepare.2.1 130 = .ok (.ldc2_w 294, 3) := by decide +kernel
theorem d_Mo_prepare_133 : decode M_Mo_prepare.2.1 133 = .ok (.lcmp, 1) := by decide +kernel
theorem d_Mo_prepare_134 : decode M_Mo_prepare.2.1 134 = .ok (.ifCond .le 7, 3) := by decide +kernel
theorem d_Mo_prepare_141 : decode M_Mo_prepare.2.1 141 = .ok (.lload_n 2, 1) := by decide +kernel
theorem d_Mo_prepare_142 : decode M_Mo_prepare.2.1 142 = .ok (.aload_n 0, 1) := by decide +kernel
theorem d_Mo_prepare_143 : decode M_Mo_prepare.2.1 143 = .ok (.iload 4, 2) := by decide +kernel
theorem d_Mo_prepare_145 : decode M_Mo_prepare.2.1 145 = .ok (.invokevirtual 296, 3) := by decide +kernel
theorem xw_1518 : (Jvm.Cond.code ({ cls := "MarkerTextModel", name := "samples", desc := "(I)I" } : Jvm.MethodName) prog_13_method_46_code (2 : Nat) (Option.some Jvm.ClassFile.FieldType.int)) ∈ xT := xT_at 1518 (by decide +kernel) (by decide +kernel)
theorem xcb_Mo_samples : xcb M_Mo_samples 1 := ⟨xw_1518, xw_8, by decide, by decide, by decide, by decide +kernel⟩
theorem xw_1517 : (Jvm.Cond.instanceMethod ({ cls := "MarkerTextModel", name := "samples", desc := "(I)I" } : Jvm.MethodName)) ∈ xT := xT_at 1517 (by decide +kernel) (by decide +kernel)
theorem xw_1515 : (Jvm.Cond.methodLink "MarkerTextModel" (296 : Nat) ({ cls := "MarkerTextModel", name := "samples", desc := "(I)I" } : Jvm.MethodName)) ∈ xT := xT_at 1515 (by decide +kernel) (by decide +kernel)
theorem xsel_Mo_samples : Cond.selects "MarkerTextModel" y_Mo_samples y_Mo_samples ∈ xT := xT_sel (q := (y_Mo_samples, 52)) (by decide +kernel) (by decide +kernel)
theorem xcv_Mo_296_Mo : xCV "MarkerTextModel" 296 "MarkerTextModel" M_Mo_samples 1 := ⟨xcb_Mo_samples, xw_1517, Or.inl ⟨xw_1515, Or.inl xsel_Mo_samples⟩⟩
theorem d_Mo_prepare_148 : decode M_Mo_prepare.2.1 148 = .ok (.i2l, 1) := by decide +kernel
theorem d_Mo_prepare_149 : decode M_Mo_prepare.2.1 149 = .ok (.lmul, 1) := by decide +kernel
theorem d_Mo_prepare_150 : decode M_Mo_prepare.2.1 150 = .ok (.lstore_n 2, 1) := by decide +kernel
theorem d_Mo_prepare_151 : decode M_Mo_prepare.2.1 151 = .ok (.iinc 4 1, 3) := by decide +kernel
theorem d_Mo_prepare_154 : decode M_Mo_prepare.2.1 154 = .ok (.goto (-84), 3) := by decide +kernel
theorem d_Mo_prepare_137 : decode M_Mo_prepare.2.1 137 = .ok (.lload_n 2, 1) := by decide +kernel
theorem d_Mo_prepare_138 : decode M_Mo_prepare.2.1 138 = .ok (.goto 12, 3) := by decide +kernel
theorem d_Mo_prepare_82 : decode M_Mo_prepare.2.1 82 = .ok (.iload 5, 2) := by decide +kernel
theorem d_Mo_prepare_84 : decode M_Mo_prepare.2.1 84 = .ok (.aload_n 0, 1) := by decide +kernel
theorem d_Mo_prepare_85 : decode M_Mo_prepare.2.1 85 = .ok (.getfield 22, 3) := by decide +kernel
theorem d_Mo_prepare_88 : decode M_Mo_prepare.2.1 88 = .ok (.iload 4, 2) := by decide +kernel
theorem d_Mo_prepare_90 : decode M_Mo_prepare.2.1 90 = .ok (.iaload, 1) := by decide +kernel
theorem d_Mo_prepare_91 : decode M_Mo_prepare.2.1 91 = .ok (.if_icmp .ge 38, 3) := by decide +kernel
theorem d_Mo_prepare_94 : decode M_Mo_prepare.2.1 94 = .ok (.aload_n 0, 1) := by decide +kernel
theorem d_Mo_prepare_95 : decode M_Mo_prepare.2.1 95 = .ok (.getfield 97, 3) := by decide +kernel
theorem d_Mo_prepare_98 : decode M_Mo_prepare.2.1 98 = .ok (.iload 4, 2) := by decide +kernel
theorem d_Mo_prepare_100 : decode M_Mo_prepare.2.1 100 = .ok (.baload, 1) := by decide +kernel
theorem d_Mo_prepare_101 : decode M_Mo_prepare.2.1 101 = .ok (.ifCond .eq 28, 3) := by decide +kernel
theorem d_Mo_prepare_104 : decode M_Mo_prepare.2.1 104 = .ok (.aload_n 0, 1) := by decide +kernel
theorem d_Mo_prepare_105 : decode M_Mo_prepare.2.1 105 = .ok (.iload 4, 2) := by decide +kernel
theorem d_Mo_prepare_107 : decode M_Mo_prepare.2.1 107 = .ok (.aload_n 0, 1) := by decide +kernel
theorem d_Mo_prepare_108 : decode M_Mo_prepare.2.1 108 = .ok (.getfield 25, 3) := by decide +kernel
theorem d_Mo_prepare_111 : decode M_Mo_prepare.2.1 111 = .ok (.bipush 6, 2) := by decide +kernel
theorem d_Mo_prepare_113 : decode M_Mo_prepare.2.1 113 = .ok (.iload 4, 2) := by decide +kernel
theorem d_Mo_prepare_115 : decode M_Mo_prepare.2.1 115 = .ok (.imul, 1) := by decide +kernel
theorem d_Mo_prepare_116 : decode M_Mo_prepare.2.1 116 = .ok (.iload 5, 2) := by decide +kernel
theorem d_Mo_prepare_118 : decode M_Mo_prepare.2.1 118 = .ok (.iadd, 1) := by decide +kernel
theorem d_Mo_prepare_119 : decode M_Mo_prepare.2.1 119 = .ok (.laload, 1) := by decide +kernel
theorem d_Mo_prepare_120 : decode M_Mo_prepare.2.1 120 = .ok (.invokevirtual 287, 3) := by decide +kernel
theorem d_Mo_prepare_123 : decode M_Mo_prepare.2.1 123 = .ok (.iinc 5 1, 3) := by decide +kernel
theorem d_Mo_prepare_126 : decode M_Mo_prepare.2.1 126 = .ok (.goto (-44), 3) := by decide +kernel
theorem d_Mo_prepare_79 : decode M_Mo_prepare.2.1 79 = .ok (.iconst 0, 1) := by decide +kernel
theorem d_Mo_prepare_80 : decode M_Mo_prepare.2.1 80 = .ok (.istore 5, 2) := by decide +kernel
theorem d_Mo_prepare_37 : decode M_Mo_prepare.2.1 37 = .ok (.iload_n 2, 1) := by decide +kernel
theorem d_Mo_prepare_38 : decode M_Mo_prepare.2.1 38 = .ok (.aload_n 0, 1) := by decide +kernel
theorem d_Mo_prepare_39 : decode M_Mo_prepare.2.1 39 = .ok (.getfield 268, 3) := by decide +kernel
theorem d_Mo_prepare_42 : decode M_Mo_prepare.2.1 42 = .ok (.if_icmp .ge 23, 3) := by decide +kernel
theorem d_Mo_prepare_65 : decode M_Mo_prepare.2.1 65 = .ok (.lconst 1, 1) := by decide +kernel
theorem d_Mo_prepare_66 : decode M_Mo_prepare.2.1 66 = .ok (.lstore_n 2, 1) := by decide +kernel
theorem d_Mo_prepare_67 : decode M_Mo_prepare.2.1 67 = .ok (.iconst 0, 1) := by decide +kernel
theorem d_Mo_prepare_68 : decode M_Mo_prepare.2.1 68 = .ok (.istore 4, 2) := by decide +kernel
theorem d_Mo_prepare_45 : decode M_Mo_prepare.2.1 45 = .ok (.iload_n 1, 1) := by decide +kernel
theorem d_Mo_prepare_46 : decode M_Mo_prepare.2.1 46 = .ok (.iload_n 2, 1) := by decide +kernel
theorem d_Mo_prepare_47 : decode M_Mo_prepare.2.1 47 = .ok (.ishr, 1) := by decide +kernel
theorem d_Mo_prepare_48 : decode M_Mo_prepare.2.1 48 = .ok (.iconst 1, 1) := by decide +kernel
theorem d_Mo_prepare_49 : decode M_Mo_prepare.2.1 49 = .ok (.iand, 1) := by decide +kernel
theorem d_Mo_prepare_50 : decode M_Mo_prepare.2.1 50 = .ok (.iconst 1, 1) := by decide +kernel
theorem d_Mo_prepare_51 : decode M_Mo_prepare.2.1 51 = .ok (.if_icmp .ne 8, 3) := by decide +kernel
theorem d_Mo_prepare_59 : decode M_Mo_prepare.2.1 59 = .ok (.iinc 2 1, 3) := by decide +kernel
theorem d_Mo_prepare_62 : decode M_Mo_prepare.2.1 62 = .ok (.goto (-25), 3) := by decide +kernel
theorem d_Mo_prepare_54 : decode M_Mo_prepare.2.1 54 = .ok (.aload_n 0, 1) := by decide +kernel
theorem d_Mo_prepare_55 : decode M_Mo_prepare.2.1 55 = .ok (.iload_n 2, 1) := by decide +kernel
theorem d_Mo_prepare_56 : decode M_Mo_prepare.2.1 56 = .ok (.invokevirtual 291, 3) := by decide +kernel
theorem xw_1509 : (Jvm.Cond.code ({ cls := "MarkerTextModel", name := "gather", desc := "(I)V" } : Jvm.MethodName) prog_13_method_44_code (5 : Nat) (Option.none : Option Jvm.ClassFile.FieldType)) ∈ xT := xT_at 1509 (by decide +kernel) (by decide +kernel)
theorem xcb_Mo_gather : xcb M_Mo_gather 1 := ⟨xw_1509, xw_8, by decide, by decide, by decide, by decide +kernel⟩
theorem xw_1508 : (Jvm.Cond.instanceMethod ({ cls := "MarkerTextModel", name := "gather", desc := "(I)V" } : Jvm.MethodName)) ∈ xT := xT_at 1508 (by decide +kernel) (by decide +kernel)
theorem xw_1506 : (Jvm.Cond.methodLink "MarkerTextModel" (291 : Nat) ({ cls := "MarkerTextModel", name := "gather", desc := "(I)V" } : Jvm.MethodName)) ∈ xT := xT_at 1506 (by decide +kernel) (by decide +kernel)
theorem xsel_Mo_gather : Cond.selects "MarkerTextModel" y_Mo_gather y_Mo_gather ∈ xT := xT_sel (q := (y_Mo_gather, 52)) (by decide +kernel) (by decide +kernel)
theorem xcv_Mo_291_Mo : xCV "MarkerTextModel" 291 "MarkerTextModel" M_Mo_gather 1 := ⟨xcb_Mo_gather, xw_1508, Or.inl ⟨xw_1506, Or.inl xsel_Mo_gather⟩⟩
theorem d_Mo_prepare_2 : decode M_Mo_prepare.2.1 2 = .ok (.iload_n 2, 1) := by decide +kernel
theorem d_Mo_prepare_3 : decode M_Mo_prepare.2.1 3 = .ok (.bipush 6, 2) := by decide +kernel
theorem d_Mo_prepare_5 : decode M_Mo_prepare.2.1 5 = .ok (.if_icmp .ge 30, 3) := by decide +kernel
theorem d_Mo_prepare_35 : decode M_Mo_prepare.2.1 35 = .ok (.iconst 0, 1) := by decide +kernel
theorem d_Mo_prepare_36 : decode M_Mo_prepare.2.1 36 = .ok (.istore_n 2, 1) := by decide +kernel
theorem d_Mo_prepare_8 : decode M_Mo_prepare.2.1 8 = .ok (.aload_n 0, 1) := by decide +kernel
theorem d_Mo_prepare_9 : decode M_Mo_prepare.2.1 9 = .ok (.getfield 94, 3) := by decide +kernel
theorem d_Mo_prepare_12 : decode M_Mo_prepare.2.1 12 = .ok (.iload_n 2, 1) := by decide +kernel
theorem d_Mo_prepare_13 : decode M_Mo_prepare.2.1 13 = .ok (.iconst 0, 1) := by decide +kernel
theorem d_Mo_prepare_14 : decode M_Mo_prepare.2.1 14 = .ok (.iastore, 1) := by decide +kernel
theorem d_Mo_prepare_15 : decode M_Mo_prepare.2.1 15 = .ok (.aload_n 0, 1) := by decide +kernel
theorem d_Mo_prepare_16 : decode M_Mo_prepare.2.1 16 = .ok (.getfield 97, 3) := by decide +kernel
theorem d_Mo_prepare_19 : decode M_Mo_prepare.2.1 19 = .ok (.iload_n 2, 1) := by decide +kernel
theorem d_Mo_prepare_20 : decode M_Mo_prepare.2.1 20 = .ok (.iconst 0, 1) := by decide +kernel
theorem d_Mo_prepare_21 : decode M_Mo_prepare.2.1 21 = .ok (.bastore, 1) := by decide +kernel
theorem d_Mo_prepare_22 : decode M_Mo_prepare.2.1 22 = .ok (.aload_n 0, 1) := by decide +kernel
theorem d_Mo_prepare_23 : decode M_Mo_prepare.2.1 23 = .ok (.getfield 100, 3) := by decide +kernel
theorem d_Mo_prepare_26 : decode M_Mo_prepare.2.1 26 = .ok (.iload_n 2, 1) := by decide +kernel
theorem d_Mo_prepare_27 : decode M_Mo_prepare.2.1 27 = .ok (.iconst 0, 1) := by decide +kernel
theorem d_Mo_prepare_28 : decode M_Mo_prepare.2.1 28 = .ok (.iastore, 1) := by decide +kernel
theorem d_Mo_prepare_29 : decode M_Mo_prepare.2.1 29 = .ok (.iinc 2 1, 3) := by decide +kernel
theorem d_Mo_prepare_32 : decode M_Mo_prepare.2.1 32 = .ok (.goto (-30), 3) := by decide +kernel
theorem d_Mo_prepare_0 : decode M_Mo_prepare.2.1 0 = .ok (.iconst 0, 1) := by decide +kernel
theorem d_Mo_prepare_1 : decode M_Mo_prepare.2.1 1 = .ok (.istore_n 2, 1) := by decide +kernel
end
section RF17
variable {l : Launch} {G : XG} {h : XH} {c n d : Nat} {o : Nat} {rf : Nat → Nat} {S : MS}
abbrev bitC (w k : Int) : Prop := (zI ((zI w >>> (zI k &&& 31)).toInt) &&& zI 1).toInt = 1
/-- no CHOICE is taken yet -/
def chz (S : MS) : Prop := ∀ q : Int, 0 ≤ q → q < 6 → gd (S.2.1 40) q = 0
theorem inS.up {S1 : MS} {s : Int} {js : List Nat} (hI : inS S s) (hC : cdOk S s) (hsm : rSm S S1 js [38, 39, 40, 41] [37]) (hmo : ∀ (q : Int) (y : Int64), 0 ≤ q → q < 6 → sMem S q y → sMem S1 q y) : inS S1 s := by
  obtain ⟨w, ⟨p1, p2, p3, p4, p5, p6, p7, p8, p9, p10⟩, -⟩ := hC
  intro t j e1 e2 e3 e4
  rw [hsm.2.1 21 (by decide)] at e2
  rw [hsm.2.1 20 (by decide)] at e4
  rw [hsm.2.1 17 (by decide), hsm.2.1 19 (by decide), hsm.2.2 22 (by decide)]
  obtain ⟨t1, t2, t3, t4, t5, t6, t7⟩ := p8 t e1 e2
  have h6 : gd (S.2.1 18) t ≤ 6 := by
    by_cases h6 : 6 < gd (S.2.1 18) t
    · have := t4 h6; omega
    · omega
  obtain ⟨q1, q2⟩ := t5 h6
  exact hmo _ _ q1 q2 (hI t j e1 e2 e3 e4)
end RF17
