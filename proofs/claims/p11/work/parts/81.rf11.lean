section
abbrev y_Mo_read : MethodName := ⟨"MarkerTextModel", "read", "()V"⟩
abbrev M_Mo_read : XMt := (y_Mo_read, prog_13_method_35_code, 3, none)
theorem d_Mo_read_165 : decode M_Mo_read.2.1 165 = .ok (.aload_n 0, 1) := by decide +kernel
theorem d_Mo_read_166 : decode M_Mo_read.2.1 166 = .ok (.getfield 199, 3) := by decide +kernel
theorem d_Mo_read_169 : decode M_Mo_read.2.1 169 = .ok (.ifCond .le 11, 3) := by decide +kernel
theorem d_Mo_read_180 : decode M_Mo_read.2.1 180 = .ok (.return_, 1) := by decide +kernel
theorem d_Mo_read_172 : decode M_Mo_read.2.1 172 = .ok (.aload_n 0, 1) := by decide +kernel
theorem d_Mo_read_173 : decode M_Mo_read.2.1 173 = .ok (.aload_n 0, 1) := by decide +kernel
theorem d_Mo_read_174 : decode M_Mo_read.2.1 174 = .ok (.getfield 124, 3) := by decide +kernel
theorem d_Mo_read_177 : decode M_Mo_read.2.1 177 = .ok (.invokevirtual 218, 3) := by decide +kernel
theorem d_Mo_read_135 : decode M_Mo_read.2.1 135 = .ok (.aload_n 0, 1) := by decide +kernel
theorem d_Mo_read_136 : decode M_Mo_read.2.1 136 = .ok (.getfield 190, 3) := by decide +kernel
theorem d_Mo_read_139 : decode M_Mo_read.2.1 139 = .ok (.ifCond .ge 26, 3) := by decide +kernel
theorem d_Mo_read_142 : decode M_Mo_read.2.1 142 = .ok (.aload_n 0, 1) := by decide +kernel
theorem d_Mo_read_143 : decode M_Mo_read.2.1 143 = .ok (.iconst 2, 1) := by decide +kernel
theorem d_Mo_read_144 : decode M_Mo_read.2.1 144 = .ok (.invokevirtual 212, 3) := by decide +kernel
theorem d_Mo_read_147 : decode M_Mo_read.2.1 147 = .ok (.ifCond .ne 11, 3) := by decide +kernel
theorem d_Mo_read_158 : decode M_Mo_read.2.1 158 = .ok (.aload_n 0, 1) := by decide +kernel
theorem d_Mo_read_159 : decode M_Mo_read.2.1 159 = .ok (.invokevirtual 215, 3) := by decide +kernel
theorem d_Mo_read_162 : decode M_Mo_read.2.1 162 = .ok (.goto (-27), 3) := by decide +kernel
theorem d_Mo_read_150 : decode M_Mo_read.2.1 150 = .ok (.aload_n 0, 1) := by decide +kernel
theorem d_Mo_read_151 : decode M_Mo_read.2.1 151 = .ok (.iconst 3, 1) := by decide +kernel
theorem d_Mo_read_152 : decode M_Mo_read.2.1 152 = .ok (.invokevirtual 212, 3) := by decide +kernel
theorem d_Mo_read_155 : decode M_Mo_read.2.1 155 = .ok (.ifCond .eq 10, 3) := by decide +kernel
theorem d_Mo_read_128 : decode M_Mo_read.2.1 128 = .ok (.aload_n 0, 1) := by decide +kernel
theorem d_Mo_read_129 : decode M_Mo_read.2.1 129 = .ok (.invokevirtual 225, 3) := by decide +kernel
theorem d_Mo_read_132 : decode M_Mo_read.2.1 132 = .ok (.goto (-71), 3) := by decide +kernel
theorem d_Mo_read_61 : decode M_Mo_read.2.1 61 = .ok (.aload_n 0, 1) := by decide +kernel
theorem d_Mo_read_62 : decode M_Mo_read.2.1 62 = .ok (.getfield 190, 3) := by decide +kernel
theorem d_Mo_read_65 : decode M_Mo_read.2.1 65 = .ok (.ifCond .ge 70, 3) := by decide +kernel
theorem d_Mo_read_68 : decode M_Mo_read.2.1 68 = .ok (.iload_n 1, 1) := by decide +kernel
theorem d_Mo_read_69 : decode M_Mo_read.2.1 69 = .ok (.ifCond .ne 14, 3) := by decide +kernel
theorem d_Mo_read_72 : decode M_Mo_read.2.1 72 = .ok (.aload_n 0, 1) := by decide +kernel
theorem d_Mo_read_73 : decode M_Mo_read.2.1 73 = .ok (.getfield 193, 3) := by decide +kernel
theorem d_Mo_read_76 : decode M_Mo_read.2.1 76 = .ok (.aload_n 0, 1) := by decide +kernel
theorem d_Mo_read_77 : decode M_Mo_read.2.1 77 = .ok (.getfield 124, 3) := by decide +kernel
theorem d_Mo_read_80 : decode M_Mo_read.2.1 80 = .ok (.if_icmp .ge 55, 3) := by decide +kernel
theorem d_Mo_read_83 : decode M_Mo_read.2.1 83 = .ok (.iload_n 1, 1) := by decide +kernel
theorem d_Mo_read_84 : decode M_Mo_read.2.1 84 = .ok (.ifCond .eq 39, 3) := by decide +kernel
theorem d_Mo_read_123 : decode M_Mo_read.2.1 123 = .ok (.aload_n 0, 1) := by decide +kernel
theorem d_Mo_read_124 : decode M_Mo_read.2.1 124 = .ok (.invokevirtual 264, 3) := by decide +kernel
theorem xw_1470 : (Jvm.Cond.code ({ cls := "MarkerTextModel", name := "readNext", desc := "()Z" } : Jvm.MethodName) prog_13_method_34_code (3 : Nat) (Option.some Jvm.ClassFile.FieldType.boolean)) ∈ xT := xT_at 1470 (by decide +kernel) (by decide +kernel)
theorem xcb_Mo_readNext : xcb M_Mo_readNext 0 := ⟨xw_1470, xw_8, by decide, by decide, by decide, by decide +kernel⟩
theorem xw_1469 : (Jvm.Cond.instanceMethod ({ cls := "MarkerTextModel", name := "readNext", desc := "()Z" } : Jvm.MethodName)) ∈ xT := xT_at 1469 (by decide +kernel) (by decide +kernel)
theorem xw_1467 : (Jvm.Cond.methodLink "MarkerTextModel" (264 : Nat) ({ cls := "MarkerTextModel", name := "readNext", desc := "()Z" } : Jvm.MethodName)) ∈ xT := xT_at 1467 (by decide +kernel) (by decide +kernel)
theorem xsel_Mo_readNext : Cond.selects "MarkerTextModel" y_Mo_readNext y_Mo_readNext ∈ xT := xT_sel (q := (y_Mo_readNext, 52)) (by decide +kernel) (by decide +kernel)
theorem xcv_Mo_264_Mo : xCV "MarkerTextModel" 264 "MarkerTextModel" M_Mo_readNext 0 := ⟨xcb_Mo_readNext, xw_1469, Or.inl ⟨xw_1467, Or.inl xsel_Mo_readNext⟩⟩
theorem d_Mo_read_127 : decode M_Mo_read.2.1 127 = .ok (.istore_n 1, 1) := by decide +kernel
theorem d_Mo_read_87 : decode M_Mo_read.2.1 87 = .ok (.aload_n 0, 1) := by decide +kernel
theorem d_Mo_read_88 : decode M_Mo_read.2.1 88 = .ok (.getfield 63, 3) := by decide +kernel
theorem d_Mo_read_91 : decode M_Mo_read.2.1 91 = .ok (.aload_n 0, 1) := by decide +kernel
theorem d_Mo_read_92 : decode M_Mo_read.2.1 92 = .ok (.getfield 196, 3) := by decide +kernel
theorem d_Mo_read_95 : decode M_Mo_read.2.1 95 = .ok (.iaload, 1) := by decide +kernel
theorem d_Mo_read_96 : decode M_Mo_read.2.1 96 = .ok (.istore_n 2, 1) := by decide +kernel
theorem d_Mo_read_97 : decode M_Mo_read.2.1 97 = .ok (.aload_n 0, 1) := by decide +kernel
theorem d_Mo_read_98 : decode M_Mo_read.2.1 98 = .ok (.invokevirtual 261, 3) := by decide +kernel
theorem xw_1406 : (Jvm.Cond.code ({ cls := "MarkerTextModel", name := "readFirst", desc := "()V" } : Jvm.MethodName) prog_13_method_33_code (3 : Nat) (Option.none : Option Jvm.ClassFile.FieldType)) ∈ xT := xT_at 1406 (by decide +kernel) (by decide +kernel)
theorem xcb_Mo_readFirst : xcb M_Mo_readFirst 0 := ⟨xw_1406, xw_8, by decide, by decide, by decide, by decide +kernel⟩
theorem xw_1405 : (Jvm.Cond.instanceMethod ({ cls := "MarkerTextModel", name := "readFirst", desc := "()V" } : Jvm.MethodName)) ∈ xT := xT_at 1405 (by decide +kernel) (by decide +kernel)
theorem xw_1403 : (Jvm.Cond.methodLink "MarkerTextModel" (261 : Nat) ({ cls := "MarkerTextModel", name := "readFirst", desc := "()V" } : Jvm.MethodName)) ∈ xT := xT_at 1403 (by decide +kernel) (by decide +kernel)
theorem xsel_Mo_readFirst : Cond.selects "MarkerTextModel" y_Mo_readFirst y_Mo_readFirst ∈ xT := xT_sel (q := (y_Mo_readFirst, 52)) (by decide +kernel) (by decide +kernel)
theorem xcv_Mo_261_Mo : xCV "MarkerTextModel" 261 "MarkerTextModel" M_Mo_readFirst 0 := ⟨xcb_Mo_readFirst, xw_1405, Or.inl ⟨xw_1403, Or.inl xsel_Mo_readFirst⟩⟩
theorem d_Mo_read_101 : decode M_Mo_read.2.1 101 = .ok (.aload_n 0, 1) := by decide +kernel
theorem d_Mo_read_102 : decode M_Mo_read.2.1 102 = .ok (.getfield 63, 3) := by decide +kernel
theorem d_Mo_read_105 : decode M_Mo_read.2.1 105 = .ok (.aload_n 0, 1) := by decide +kernel
theorem d_Mo_read_106 : decode M_Mo_read.2.1 106 = .ok (.getfield 196, 3) := by decide +kernel
theorem d_Mo_read_109 : decode M_Mo_read.2.1 109 = .ok (.iaload, 1) := by decide +kernel
theorem d_Mo_read_110 : decode M_Mo_read.2.1 110 = .ok (.iload_n 2, 1) := by decide +kernel
theorem d_Mo_read_111 : decode M_Mo_read.2.1 111 = .ok (.if_icmp .ne 7, 3) := by decide +kernel
theorem d_Mo_read_118 : decode M_Mo_read.2.1 118 = .ok (.iconst 0, 1) := by decide +kernel
theorem d_Mo_read_119 : decode M_Mo_read.2.1 119 = .ok (.istore_n 1, 1) := by decide +kernel
theorem d_Mo_read_120 : decode M_Mo_read.2.1 120 = .ok (.goto 8, 3) := by decide +kernel
theorem d_Mo_read_114 : decode M_Mo_read.2.1 114 = .ok (.iconst 1, 1) := by decide +kernel
theorem d_Mo_read_115 : decode M_Mo_read.2.1 115 = .ok (.goto 4, 3) := by decide +kernel
theorem d_Mo_read_0 : decode M_Mo_read.2.1 0 = .ok (.aload_n 0, 1) := by decide +kernel
theorem d_Mo_read_1 : decode M_Mo_read.2.1 1 = .ok (.iconst 0, 1) := by decide +kernel
theorem d_Mo_read_2 : decode M_Mo_read.2.1 2 = .ok (.putfield 193, 3) := by decide +kernel
theorem d_Mo_read_5 : decode M_Mo_read.2.1 5 = .ok (.aload_n 0, 1) := by decide +kernel
theorem d_Mo_read_6 : decode M_Mo_read.2.1 6 = .ok (.iconst (-1), 1) := by decide +kernel
theorem d_Mo_read_7 : decode M_Mo_read.2.1 7 = .ok (.putfield 190, 3) := by decide +kernel
theorem d_Mo_read_10 : decode M_Mo_read.2.1 10 = .ok (.aload_n 0, 1) := by decide +kernel
theorem d_Mo_read_11 : decode M_Mo_read.2.1 11 = .ok (.iconst 0, 1) := by decide +kernel
theorem d_Mo_read_12 : decode M_Mo_read.2.1 12 = .ok (.putfield 199, 3) := by decide +kernel
theorem d_Mo_read_15 : decode M_Mo_read.2.1 15 = .ok (.aload_n 0, 1) := by decide +kernel
theorem d_Mo_read_16 : decode M_Mo_read.2.1 16 = .ok (.iconst 0, 1) := by decide +kernel
theorem d_Mo_read_17 : decode M_Mo_read.2.1 17 = .ok (.putfield 202, 3) := by decide +kernel
theorem d_Mo_read_20 : decode M_Mo_read.2.1 20 = .ok (.aload_n 0, 1) := by decide +kernel
theorem d_Mo_read_21 : decode M_Mo_read.2.1 21 = .ok (.iconst 0, 1) := by decide +kernel
theorem d_Mo_read_22 : decode M_Mo_read.2.1 22 = .ok (.putfield 205, 3) := by decide +kernel
theorem d_Mo_read_25 : decode M_Mo_read.2.1 25 = .ok (.aload_n 0, 1) := by decide +kernel
theorem d_Mo_read_26 : decode M_Mo_read.2.1 26 = .ok (.getfield 45, 3) := by decide +kernel
theorem d_Mo_read_29 : decode M_Mo_read.2.1 29 = .ok (.aload_n 0, 1) := by decide +kernel
theorem d_Mo_read_30 : decode M_Mo_read.2.1 30 = .ok (.getfield 196, 3) := by decide +kernel
theorem d_Mo_read_33 : decode M_Mo_read.2.1 33 = .ok (.iconst 0, 1) := by decide +kernel
theorem d_Mo_read_34 : decode M_Mo_read.2.1 34 = .ok (.iastore, 1) := by decide +kernel
theorem d_Mo_read_35 : decode M_Mo_read.2.1 35 = .ok (.aload_n 0, 1) := by decide +kernel
theorem d_Mo_read_36 : decode M_Mo_read.2.1 36 = .ok (.getfield 63, 3) := by decide +kernel
theorem d_Mo_read_39 : decode M_Mo_read.2.1 39 = .ok (.aload_n 0, 1) := by decide +kernel
theorem d_Mo_read_40 : decode M_Mo_read.2.1 40 = .ok (.getfield 196, 3) := by decide +kernel
theorem d_Mo_read_43 : decode M_Mo_read.2.1 43 = .ok (.iconst 0, 1) := by decide +kernel
theorem d_Mo_read_44 : decode M_Mo_read.2.1 44 = .ok (.iastore, 1) := by decide +kernel
theorem d_Mo_read_45 : decode M_Mo_read.2.1 45 = .ok (.aload_n 0, 1) := by decide +kernel
theorem d_Mo_read_46 : decode M_Mo_read.2.1 46 = .ok (.getfield 78, 3) := by decide +kernel
theorem d_Mo_read_49 : decode M_Mo_read.2.1 49 = .ok (.aload_n 0, 1) := by decide +kernel
theorem d_Mo_read_50 : decode M_Mo_read.2.1 50 = .ok (.getfield 196, 3) := by decide +kernel
theorem d_Mo_read_53 : decode M_Mo_read.2.1 53 = .ok (.iconst 0, 1) := by decide +kernel
theorem d_Mo_read_54 : decode M_Mo_read.2.1 54 = .ok (.iastore, 1) := by decide +kernel
theorem d_Mo_read_55 : decode M_Mo_read.2.1 55 = .ok (.iconst 1, 1) := by decide +kernel
theorem d_Mo_read_56 : decode M_Mo_read.2.1 56 = .ok (.istore_n 1, 1) := by decide +kernel
theorem d_Mo_read_57 : decode M_Mo_read.2.1 57 = .ok (.aload_n 0, 1) := by decide +kernel
theorem d_Mo_read_58 : decode M_Mo_read.2.1 58 = .ok (.invokevirtual 225, 3) := by decide +kernel
end
section RF11
variable {l : Launch} {G : XG} {h : XH} {c n d : Nat} {o : Nat} {rf : Nat → Nat} {S : MS}
/-- between two steps of read() -/
def RI (S S1 : MS) (fi : Int) : Prop := rSm S S1 rtJ (31 :: rtA) [22] ∧ agO S S1 (S.1 28) ∧ (fi = 0 ∨ fi = 1) ∧ ((0 ≤ S1.1 29 ∧ 0 ≤ S1.1 27 ∧ S1.1 27 ≤ S.1 2 + 1) ∨ (S1.1 29 < 0 ∧ S1.1 27 ≤ S.1 2 ∧ S1.1 33 ≤ 12 ∧ ∃ P R w, rdOk S1 P R w ∧ (R.length : Int) = cnt 2 P + cnt 3 P + (1 - fi)))
theorem RI.at {S1 : MS} {fi a : Int} (hI : RI S S1 fi) (ha : S1.1 27 ≤ a) (ha2 : a ≤ S.1 2 + 1) (ha3 : S1.1 29 < 0 → a ≤ S.1 2) : RI S (sp S1 27 a) fi := by
  obtain ⟨h1, h2, h3, h4⟩ := hI
  have hsm : rSm S1 (sp S1 27 a) [27] [] [] := rSm.r0.sp (by decide)
  have f2 := h1.1 2 (by decide)
  refine ⟨h1.tr (hsm.mono (by decide) (by decide) (by decide)), h2.tr (agO.sm hsm (by decide)), h3, ?_⟩
  rcases h4 with ⟨q1, q2, q3⟩ | ⟨q1, q2, q3, P, R, w, q4, q5⟩
  · exact Or.inl ⟨q1, by show 0 ≤ a; omega, ha2⟩
  · exact Or.inr ⟨q1, ha3 q1, q3, P, R, w, rd_at q4 hsm (by decide) (by decide) ha (by show a ≤ S1.1 2 + 1; omega), q5⟩
/-- the reader as it begins -/
abbrev rd0 (S : MS) : MS := sa (sa (sa (sp (sp (sp (sp (sp S 27 0) 29 (-1)) 32 0) 33 0) 35 0) 15 (se (S.2.1 15) (S.1 28) 0)) 21 (se (S.2.1 21) (S.1 28) 0)) 26 (se (S.2.1 26) (S.1 28) 0)
theorem RI_0 (hz : szOk S) (hn : nmOk S) (hs : 0 ≤ S.1 28 ∧ S.1 28 ≤ 8) (l15 : (S.2.1 15).length = 9) (l21 : (S.2.1 21).length = 9) (l26 : (S.2.1 26).length = 9) : RI S (rd0 S) 1 := by
  have hsm : rSm S (rd0 S) rtJ (31 :: rtA) [22] := (((((((rSm.r0.sp (by decide)).sp (by decide)).sp (by decide)).sp (by decide)).sp (by decide)).sa (by decide)).sa (by decide)).sa (by decide)
  have g15 : gd ((rd0 S).2.1 15) (S.1 28) = 0 := by
    show gd (se (S.2.1 15) (S.1 28) 0) (S.1 28) = 0
    rw [gd_se_of l15 (by omega) (by omega) (by omega), if_pos rfl]
  have g21 : gd ((rd0 S).2.1 21) (S.1 28) = 0 := by
    show gd (se (S.2.1 21) (S.1 28) 0) (S.1 28) = 0
    rw [gd_se_of l21 (by omega) (by omega) (by omega), if_pos rfl]
  have g26 : gd ((rd0 S).2.1 26) (S.1 28) = 0 := by
    show gd (se (S.2.1 26) (S.1 28) 0) (S.1 28) = 0
    rw [gd_se_of l26 (by omega) (by omega) (by omega), if_pos rfl]
  refine ⟨hsm, fun cc h1 h2 => ?_, Or.inr rfl, Or.inr ⟨by show (-1 : Int) < 0; decide, hz.1, by show (0 : Int) ≤ 12; decide, [], [], fun _ => 1, ?_, rfl⟩⟩
  · have aA : agr S (sp (sp (sp (sp (sp S 27 0) 29 (-1)) 32 0) 33 0) 35 0) cc := agr.sm (((((((rSm.r0 (js := rtJ) (is := []) (ls := [])).sp (by decide)).sp (by decide)).sp (by decide)).sp (by decide)).sp (by decide))) (by decide)
    have a15 := agr_se (S := sp (sp (sp (sp (sp S 27 0) 29 (-1)) 32 0) 33 0) 35 0) (c := cc) (i := 15) (e := S.1 28) (z := 0) (N := 9) l15 (by omega) (by omega) rfl h1 (Or.inr (Or.inr (Or.inr ⟨by decide, fun z => h2 z.symm⟩)))
    have a21 := agr_se (S := sa (sp (sp (sp (sp (sp S 27 0) 29 (-1)) 32 0) 33 0) 35 0) 15 (se (S.2.1 15) (S.1 28) 0)) (c := cc) (i := 21) (e := S.1 28) (z := 0) (N := 9) l21 (by omega) (by omega) rfl h1 (Or.inr (Or.inr (Or.inr ⟨by decide, fun z => h2 z.symm⟩)))
    have a26 := agr_se (S := sa (sa (sp (sp (sp (sp (sp S 27 0) 29 (-1)) 32 0) 33 0) 35 0) 15 (se (S.2.1 15) (S.1 28) 0)) 21 (se (S.2.1 21) (S.1 28) 0)) (c := cc) (i := 26) (e := S.1 28) (z := 0) (N := 9) l26 (by omega) (by omega) rfl h1 (Or.inr (Or.inr (Or.inr ⟨by decide, fun z => h2 z.symm⟩)))
    exact ((aA.tr a15).tr a21).tr a26
  · have e28 : (rd0 S).1 28 = S.1 28 := rfl
    have e27 : (rd0 S).1 27 = 0 := rfl
    have e32 : (rd0 S).1 32 = 0 := rfl
    have e33 : (rd0 S).1 33 = 0 := rfl
    have e35 : (rd0 S).1 35 = 0 := rfl
    unfold rdOk
    rw [e28, e27, e32, e33, e35, g15, g21, g26]
    refine ⟨hz, hn, hs, ⟨by omega, by show 0 ≤ S.1 2 + 1; have := hz.1; omega⟩, ⟨rfl, trivial, fun x hx => by cases hx⟩, ⟨rfl, by decide⟩, ⟨rfl, trivial, fun x hx => by cases hx⟩, ⟨by decide, by decide⟩, ⟨by decide, by decide, by decide, by decide, by decide, by decide, fun m h1 h2 => by omega, fun m h1 h2 => by omega, fun m h1 h2 => by omega, by show (0 : Int) ≤ 0; decide⟩, by decide, by decide, by decide⟩
end RF11
