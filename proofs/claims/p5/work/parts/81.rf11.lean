section
abbrev y_Mo_read : MethodName := ⟨"MarkerTextModel", "read", "()V"⟩
abbrev M_Mo_read : XMt := (y_Mo_read, prog_13_method_35_code, 3, none)
theorem d_Mo_read_165 : decode M_Mo_read.2.1 165 = .ok (.aload_n 0, 1) := by decide +kernel
theorem d_Mo_read_166 : decode M_Mo_read.2.1 166 = .ok (.getfield 199, 3) := by decide +kernel
theorem d_Mo_read_169 : decode M_Mo_read.2.1 169 = .ok (.ifCond .le 11, 3) := by decide +kernel
theorem d_Mo_read_180 : decode M_Mo_read.2.1 180 = .ok (.return_, 1) := by decide +kernel
theorem d_Mo_read_172 : decode M_Mo_read.2.1 172 = .ok (.aload_n 0, 1) := by decide +kernel
theorem d_Mo_read_173 : decode M_Mo_read.2.1 173 = .ok (.aload_n 0, 1) := by decide +kernel
theorem d_Mo_read_174 : decode M_Mo_read.2.1 174 = .ok (.getfield 124, 3) := by decide +kernel
theorem d_Mo_read_177 : decode M_Mo_read.2.1 177 = .ok (.invokevirtual 218, 3) := by decide +kernel
theorem d_Mo_read_135 : decode M_Mo_read.2.1 135 = .ok (.aload_n 0, 1) := by decide +kernel
theorem d_Mo_read_136 : decode M_Mo_read.2.1 136 = .ok (.getfield 190, 3) := by decide +kernel
theorem d_Mo_read_139 : decode M_Mo_read.2.1 139 = .ok (.ifCond .ge 26, 3) := by decide +kernel
theorem d_Mo_read_142 : decode M_Mo_read.2.1 142 = .ok (.aload_n 0, 1) := by decide +kernel
theorem d_Mo_read_143 : decode M_Mo_read.2.1 143 = .ok (.iconst 2, 1) := by decide +kernel
theorem d_Mo_read_144 : decode M_Mo_read.2.1 144 = .ok (.invokevirtual 212, 3) := by decide +kernel
theorem d_Mo_read_147 : decode M_Mo_read.2.1 147 = .ok (.ifCond .ne 11, 3) := by decide +kernel
theorem d_Mo_read_158 : decode M_Mo_read.2.1 158 = .ok (.aload_n 0, 1) := by decide +kernel
theorem d_Mo_read_159 : decode M_Mo_read.2.1 159 = .ok (.invokevirtual 215, 3) := by decide +kernel
theorem d_Mo_read_162 : decode M_Mo_read.2.1 162 = .ok (.goto (-27), 3) := by decide +kernel
theorem d_Mo_read_150 : decode M_Mo_read.2.1 150 = .ok (.aload_n 0, 1) := by decide +kernel
theorem d_Mo_read_151 : decode M_Mo_read.2.1 151 = .ok (.iconst 3, 1) := by decide +kernel
theorem d_Mo_read_152 : decode M_Mo_read.2.1 152 = .ok (.invokevirtual 212, 3) := by decide +kernel
theorem d_Mo_read_155 : decode M_Mo_read.2.1 155 = .ok (.ifCond .eq 10, 3) := by decide +kernel
theorem d_Mo_read_128 : decode M_Mo_read.2.1 128 = .ok (.aload_n 0, 1) := by decide +kernel
theorem d_Mo_read_129 : decode M_Mo_read.2.1 129 = .ok (.invokevirtual 225, 3) := by decide +kernel
theorem d_Mo_read_132 : decode M_Mo_read.2.1 132 = .ok (.goto (-71), 3) := by decide +kernel
theorem d_Mo_read_61 : decode M_Mo_read.2.1 61 = .ok (.aload_n 0, 1) := by decide +kernel
theorem d_Mo_read_62 : decode M_Mo_read.2.1 62 = .ok (.getfield 190, 3) := by decide +kernel
theorem d_Mo_read_65 : decode M_Mo_read.2.1 65 = .ok (.ifCond .ge 70, 3) := by decide +kernel
theorem d_Mo_read_68 : decode M_Mo_read.2.1 68 = .ok (.iload_n 1, 1) := by decide +kernel
theorem d_Mo_read_69 : decode M_Mo_read.2.1 69 = .ok (.ifCond .ne 14, 3) := by decide +kernel
theorem d_Mo_read_72 : decode M_Mo_read.2.1 72 = .ok (.aload_n 0, 1) := by decide +kernel
theorem d_Mo_read_73 : decode M_Mo_read.2.1 73 = .ok (.getfield 193, 3) := by decide +kernel
theorem d_Mo_read_76 : decode M_Mo_read.2.1 76 = .ok (.aload_n 0, 1) := by decide +kernel
theorem d_Mo_read_77 : decode M_Mo_read.2.1 77 = .ok (.getfield 124, 3) := by decide +kernel
theorem d_Mo_read_80 : decode M_Mo_read.2.1 80 = .ok (.if_icmp .ge 55, 3) := by decide +kernel
theorem d_Mo_read_83 : decode M_Mo_read.2.1 83 = .ok (.iload_n 1, 1) := by decide +kernel
theorem d_Mo_read_84 : decode M_Mo_read.2.1 84 = .ok (.ifCond .eq 39, 3) := by decide +kernel
theorem d_Mo_read_123 : decode M_Mo_read.2.1 123 = .ok (.aload_n 0, 1) := by decide +kernel
theorem d_Mo_read_124 : decode M_Mo_read.2.1 124 = .ok (.invokevirtual 264, 3) := by decide +kernel
theorem xw_1474 : (Jvm.Cond.code ({ cls := "MarkerTextModel", name := "readNext", desc := "()Z" } : Jvm.MethodName) prog_13_method_34_code (3 : Nat) (Option.some Jvm.ClassFile.FieldType.boolean)) ∈ xT := xT_at 1474 (by decide +kernel) (by decide +kernel)
theorem xcb_Mo_readNext : xcb M_Mo_readNext 0 := ⟨xw_1474, xw_8, by decide, by decide, by decide, by decide +kernel⟩
theorem xw_1473 : (Jvm.Cond.instanceMethod ({ cls := "MarkerTextModel", name := "readNext", desc := "()Z" } : Jvm.MethodName)) ∈ xT := xT_at 1473 (by decide +kernel) (by decide +kernel)
theorem xw_1471 : (Jvm.Cond.methodLink "MarkerTextModel" (264 : Nat) ({ cls := "MarkerTextModel", name := "readNext", desc := "()Z" } : Jvm.MethodName)) ∈ xT := xT_at 1471 (by decide +kernel) (by decide +kernel)
theorem xsel_Mo_readNext : Cond.selects "MarkerTextModel" y_Mo_readNext y_Mo_readNext ∈ xT := xT_sel (q := (y_Mo_readNext, 52)) (by decide +kernel) (by decide +kernel)
theorem xcv_Mo_264_Mo : xCV "MarkerTextModel" 264 "MarkerTextModel" M_Mo_readNext 0 := ⟨xcb_Mo_readNext, xw_1473, Or.inl ⟨xw_1471, Or.inl xsel_Mo_readNext⟩⟩
theorem d_Mo_read_127 : decode M_Mo_read.2.1 127 = .ok (.istore_n 1, 1) := by decide +kernel
theorem d_Mo_read_87 : decode M_Mo_read.2.1 87 = .ok (.aload_n 0, 1) := by decide +kernel
theorem d_Mo_read_88 : decode M_Mo_read.2.1 88 = .ok (.getfield 63, 3) := by decide +kernel
theorem d_Mo_read_91 : decode M_Mo_read.2.1 91 = .ok (.aload_n 0, 1) := by decide +kernel
theorem d_Mo_read_92 : decode M_Mo_read.2.1 92 = .ok (.getfield 196, 3) := by decide +kernel
theorem d_Mo_read_95 : decode M_Mo_read.2.1 95 = .ok (.iaload, 1) := by decide +kernel
theorem d_Mo_read_96 : decode M_Mo_read.2.1 96 = .ok (.istore_n 2, 1) := by decide +kernel
theorem d_Mo_read_97 : decode M_Mo_read.2.1 97 = .ok (.aload_n 0, 1) := by decide +kernel
theorem d_Mo_read_98 : decode M_Mo_read.2.1 98 = .ok (.invokevirtual 261, 3) := by decide +kernel
theorem xw_1410 : (Jvm.Cond.code ({ cls := "MarkerTextModel", name := "readFirst", desc := "()V" } : Jvm.MethodName) prog_13_method_33_code (3 : Nat) (Option.none : Option Jvm.ClassFile.FieldType)) ∈ xT := xT_at 1410 (by decide +kernel) (by decide +kernel)
theorem xcb_Mo_readFirst : xcb M_Mo_readFirst 0 := ⟨xw_1410, xw_8, by decide, by decide, by decide, by decide +kernel⟩
theorem xw_1409 : (Jvm.Cond.instanceMethod ({ cls := "MarkerTextModel", name := "readFirst", desc := "()V" } : Jvm.MethodName)) ∈ xT := xT_at 1409 (by decide +kernel) (by decide +kernel)
theorem xw_1407 : (Jvm.Cond.methodLink "MarkerTextModel" (261 : Nat) ({ cls := "MarkerTextModel", name := "readFirst", desc := "()V" } : Jvm.MethodName)) ∈ xT := xT_at 1407 (by decide +kernel) (by decide +kernel)
theorem xsel_Mo_readFirst : Cond.selects "MarkerTextModel" y_Mo_readFirst y_Mo_readFirst ∈ xT := xT_sel (q := (y_Mo_readFirst, 52)) (by decide +kernel) (by decide +kernel)
theorem xcv_Mo_261_Mo : xCV "MarkerTextModel" 261 "MarkerTextModel" M_Mo_readFirst 0 := ⟨xcb_Mo_readFirst, xw_1409, Or.inl ⟨xw_1407, Or.inl xsel_Mo_readFirst⟩⟩
theorem d_Mo_read_101 : decode M_Mo_read.2.1 101 = .ok (.aload_n 0, 1) := by decide +kernel
theorem d_Mo_read_102 : decode M_Mo_read.2.1 102 = .ok (.getfield 63, 3) := by decide +kernel
theorem d_Mo_read_105 : decode M_Mo_read.2.1 105 = .ok (.aload_n 0, 1) := by decide +kernel
theorem d_Mo_read_106 : decode M_Mo_read.2.1 106 = .ok (.getfield 196, 3) := by decide +kernel
theorem d_Mo_read_109 : decode M_Mo_read.2.1 109 = .ok (.iaload, 1) := by decide +kernel
theorem d_Mo_read_110 : decode M_Mo_read.2.1 110 = .ok (.iload_n 2, 1) := by decide +kernel
theorem d_Mo_read_111 : decode M_Mo_read.2.1 111 = .ok (.if_icmp .ne 7, 3) := by decide +kernel
theorem d_Mo_read_118 : decode M_Mo_read.2.1 118 = .ok (.iconst 0, 1) := by decide +kernel
theorem d_Mo_read_119 : decode M_Mo_read.2.1 119 = .ok (.istore_n 1, 1) := by decide +kernel
theorem d_Mo_read_120 : decode M_Mo_read.2.1 120 = .ok (.goto 8, 3) := by decide +kernel
theorem d_Mo_read_114 : decode M_Mo_read.2.1 114 = .ok (.iconst 1, 1) := by decide +kernel
theorem d_Mo_read_115 : decode M_Mo_read.2.1 115 = .ok (.goto 4, 3) := by decide +kernel
theorem d_Mo_read_0 : decode M_Mo_read.2.1 0 = .ok (.aload_n 0, 1) := by decide +kernel
theorem d_Mo_read_1 : decode M_Mo_read.2.1 1 = .ok (.iconst 0, 1) := by decide +kernel
theorem d_Mo_read_2 : decode M_Mo_read.2.1 2 = .ok (.putfield 193, 3) := by decide +kernel
theorem d_Mo_read_5 : decode M_Mo_read.2.1 5 = .ok (.aload_n 0, 1) := by decide +kernel
theorem d_Mo_read_6 : decode M_Mo_read.2.1 6 = .ok (.iconst (-1), 1) := by decide +kernel
theorem d_Mo_read_7 : decode M_Mo_read.2.1 7 = .ok (.putfield 190, 3) := by decide +kernel
theorem d_Mo_read_10 : decode M_Mo_read.2.1 10 = .ok (.aload_n 0, 1) := by decide +kernel
theorem d_Mo_read_11 : decode M_Mo_read.2.1 11 = .ok (.iconst 0, 1) := by decide +kernel
theorem d_Mo_read_12 : decode M_Mo_read.2.1 12 = .ok (.putfield 199, 3) := by decide +kernel
theorem d_Mo_read_15 : decode M_Mo_read.2.1 15 = .ok (.aload_n 0, 1) := by decide +kernel
theorem d_Mo_read_16 : decode M_Mo_read.2.1 16 = .ok (.iconst 0, 1) := by decide +kernel
theorem d_Mo_read_17 : decode M_Mo_read.2.1 17 = .ok (.putfield 202, 3) := by decide +kernel
theorem d_Mo_read_20 : decode M_Mo_read.2.1 20 = .ok (.aload_n 0, 1) := by decide +kernel
theorem d_Mo_read_21 : decode M_Mo_read.2.1 21 = .ok (.iconst 0, 1) := by decide +kernel
theorem d_Mo_read_22 : decode M_Mo_read.2.1 22 = .ok (.putfield 205, 3) := by decide +kernel
theorem d_Mo_read_25 : decode M_Mo_read.2.1 25 = .ok (.aload_n 0, 1) := by decide +kernel
theorem d_Mo_read_26 : decode M_Mo_read.2.1 26 = .ok (.getfield 45, 3) := by decide +kernel
theorem d_Mo_read_29 : decode M_Mo_read.2.1 29 = .ok (.aload_n 0, 1) := by decide +kernel
theorem d_Mo_read_30 : decode M_Mo_read.2.1 30 = .ok (.getfield 196, 3) := by decide +kernel
theorem d_Mo_read_33 : decode M_Mo_read.2.1 33 = .ok (.iconst 0, 1) := by decide +kernel
theorem d_Mo_read_34 : decode M_Mo_read.2.1 34 = .ok (.iastore, 1) := by decide +kernel
theorem d_Mo_read_35 : decode M_Mo_read.2.1 35 = .ok (.aload_n 0, 1) := by decide +kernel
theorem d_Mo_read_36 : decode M_Mo_read.2.1 36 = .ok (.getfield 63, 3) := by decide +kernel
theorem d_Mo_read_39 : decode M_Mo_read.2.1 39 = .ok (.aload_n 0, 1) := by decide +kernel
theorem d_Mo_read_40 : decode M_Mo_read.2.1 40 = .ok (.getfield 196, 3) := by decide +kernel
theorem d_Mo_read_43 : decode M_Mo_read.2.1 43 = .ok (.iconst 0, 1) := by decide +kernel
theorem d_Mo_read_44 : decode M_Mo_read.2.1 44 = .ok (.iastore, 1) := by decide +kernel
theorem d_Mo_read_45 : decode M_Mo_read.2.1 45 = .ok (.aload_n 0, 1) := by decide +kernel
theorem d_Mo_read_46 : decode M_Mo_read.2.1 46 = .ok (.getfield 78, 3) := by decide +kernel
theorem d_Mo_read_49 : decode M_Mo_read.2.1 49 = .ok (.aload_n 0, 1) := by decide +kernel
theorem d_Mo_read_50 : decode M_Mo_read.2.1 50 = .ok (.getfield 196, 3) := by decide +kernel
theorem d_Mo_read_53 : decode M_Mo_read.2.1 53 = .ok (.iconst 0, 1) := by decide +kernel
theorem d_Mo_read_54 : decode M_Mo_read.2.1 54 = .ok (.iastore, 1) := by decide +kernel
theorem d_Mo_read_55 : decode M_Mo_read.2.1 55 = .ok (.iconst 1, 1) := by decide +kernel
theorem d_Mo_read_56 : decode M_Mo_read.2.1 56 = .ok (.istore_n 1, 1) := by decide +kernel
theorem d_Mo_read_57 : decode M_Mo_read.2.1 57 = .ok (.aload_n 0, 1) := by decide +kernel
theorem d_Mo_read_58 : decode M_Mo_read.2.1 58 = .ok (.invokevirtual 225, 3) := by decide +kernel
end
section RF11
variable {l : Launch} {G : XG} {h : XH} {c n d : Nat} {o : Nat} {rf : Nat → Nat} {S : MS}
abbrev rdJ : List Nat := [27, 29, 32, 33, 35]
/-- how read() ends -/
abbrev reQ (S : MS) : Option Value → MS → Prop := fun v S' => v = none ∧ rSm S S' rtJ (31 :: rtA) [22] ∧ agO S S' (S.1 28) ∧ (0 ≤ S'.1 29 ∨ (S'.1 29 < 0 ∧ S'.1 27 ≤ S.1 2 ∧ ∃ r w', rdOk S' [] [r] w'))
/-- between two steps of read() -/
def RI (S S1 : MS) (fi : Int) : Prop := rSm S S1 rtJ (31 :: rtA) [22] ∧ agO S S1 (S.1 28) ∧ (fi = 0 ∨ fi = 1) ∧ ((0 ≤ S1.1 29 ∧ 0 ≤ S1.1 27 ∧ S1.1 27 ≤ S.1 2 + 1) ∨ (S1.1 29 < 0 ∧ S1.1 27 ≤ S.1 2 ∧ S1.1 33 ≤ 12 ∧ ∃ P R w, rdOk S1 P R w ∧ (R.length : Int) = cnt 2 P + cnt 3 P + (1 - fi)))
theorem RI.at {S1 : MS} {fi a : Int} (hI : RI S S1 fi) (ha : S1.1 27 ≤ a) (ha2 : a ≤ S.1 2 + 1) (ha3 : S1.1 29 < 0 → a ≤ S.1 2) : RI S (sp S1 27 a) fi := by
  obtain ⟨h1, h2, h3, h4⟩ := hI
  have hsm : rSm S1 (sp S1 27 a) [27] [] [] := rSm.r0.sp (by decide)
  have f2 := h1.1 2 (by decide)
  refine ⟨h1.tr (hsm.mono (by decide) (by decide) (by decide)), h2.tr (agO.sm hsm (by decide)), h3, ?_⟩
  rcases h4 with ⟨q1, q2, q3⟩ | ⟨q1, q2, q3, P, R, w, q4, q5⟩
  · exact Or.inl ⟨q1, by show 0 ≤ a; omega, ha2⟩
  · exact Or.inr ⟨q1, ha3 q1, q3, P, R, w, rd_at q4 hsm (by decide) (by decide) ha (by show a ≤ S1.1 2 + 1; omega), q5⟩
/-- the reader as it begins -/
abbrev rd0 (S : MS) : MS := sa (sa (sa (sp (sp (sp (sp (sp S 27 0) 29 (-1)) 32 0) 33 0) 35 0) 15 (se (S.2.1 15) (S.1 28) 0)) 21 (se (S.2.1 21) (S.1 28) 0)) 26 (se (S.2.1 26) (S.1 28) 0)
theorem RI_0 (hz : szOk S) (hn : nmOk S) (hs : 0 ≤ S.1 28 ∧ S.1 28 ≤ 8) (l15 : (S.2.1 15).length = 9) (l21 : (S.2.1 21).length = 9) (l26 : (S.2.1 26).length = 9) : RI S (rd0 S) 1 := by
  have hsm : rSm S (rd0 S) rtJ (31 :: rtA) [22] := (((((((rSm.r0.sp (by decide)).sp (by decide)).sp (by decide)).sp (by decide)).sp (by decide)).sa (by decide)).sa (by decide)).sa (by decide)
  have g15 : gd ((rd0 S).2.1 15) (S.1 28) = 0 := by
    show gd (se (S.2.1 15) (S.1 28) 0) (S.1 28) = 0
    rw [gd_se_of l15 (by omega) (by omega) (by omega), if_pos rfl]
  have g21 : gd ((rd0 S).2.1 21) (S.1 28) = 0 := by
    show gd (se (S.2.1 21) (S.1 28) 0) (S.1 28) = 0
    rw [gd_se_of l21 (by omega) (by omega) (by omega), if_pos rfl]
  have g26 : gd ((rd0 S).2.1 26) (S.1 28) = 0 := by
    show gd (se (S.2.1 26) (S.1 28) 0) (S.1 28) = 0
    rw [gd_se_of l26 (by omega) (by omega) (by omega), if_pos rfl]
  refine ⟨hsm, fun cc h1 h2 => ?_, Or.inr rfl, Or.inr ⟨by show (-1 : Int) < 0; decide, hz.1, by show (0 : Int) ≤ 12; decide, [], [], fun _ => 1, ?_, rfl⟩⟩
  · have aA : agr S (sp (sp (sp (sp (sp S 27 0) 29 (-1)) 32 0) 33 0) 35 0) cc := agr.sm (((((((rSm.r0 (js := rtJ) (is := []) (ls := [])).sp (by decide)).sp (by decide)).sp (by decide)).sp (by decide)).sp (by decide))) (by decide)
    have a15 := agr_se (S := sp (sp (sp (sp (sp S 27 0) 29 (-1)) 32 0) 33 0) 35 0) (c := cc) (i := 15) (e := S.1 28) (z := 0) (N := 9) l15 (by omega) (by omega) rfl h1 (Or.inr (Or.inr (Or.inr ⟨by decide, fun z => h2 z.symm⟩)))
    have a21 := agr_se (S := sa (sp (sp (sp (sp (sp S 27 0) 29 (-1)) 32 0) 33 0) 35 0) 15 (se (S.2.1 15) (S.1 28) 0)) (c := cc) (i := 21) (e := S.1 28) (z := 0) (N := 9) l21 (by omega) (by omega) rfl h1 (Or.inr (Or.inr (Or.inr ⟨by decide, fun z => h2 z.symm⟩)))
    have a26 := agr_se (S := sa (sa (sp (sp (sp (sp (sp S 27 0) 29 (-1)) 32 0) 33 0) 35 0) 15 (se (S.2.1 15) (S.1 28) 0)) 21 (se (S.2.1 21) (S.1 28) 0)) (c := cc) (i := 26) (e := S.1 28) (z := 0) (N := 9) l26 (by omega) (by omega) rfl h1 (Or.inr (Or.inr (Or.inr ⟨by decide, fun z => h2 z.symm⟩)))
    exact ((aA.tr a15).tr a21).tr a26
  · have e28 : (rd0 S).1 28 = S.1 28 := rfl
    have e27 : (rd0 S).1 27 = 0 := rfl
    have e32 : (rd0 S).1 32 = 0 := rfl
    have e33 : (rd0 S).1 33 = 0 := rfl
    have e35 : (rd0 S).1 35 = 0 := rfl
    unfold rdOk
    rw [e28, e27, e32, e33, e35, g15, g21, g26]
    refine ⟨hz, hn, hs, ⟨by omega, by show 0 ≤ S.1 2 + 1; have := hz.1; omega⟩, ⟨rfl, trivial, fun x hx => by cases hx⟩, ⟨rfl, by decide⟩, ⟨rfl, trivial, fun x hx => by cases hx⟩, ⟨by decide, by decide⟩, ⟨by decide, by decide, by decide, by decide, by decide, by decide, fun m h1 h2 => by omega, fun m h1 h2 => by omega, fun m h1 h2 => by omega, by show (0 : Int) ≤ 0; decide⟩, by decide, by decide, by decide⟩
theorem r_read (hd : 7 ≤ d) (hz : szOk S) (hn : nmOk S) (hs : 0 ≤ S.1 28 ∧ S.1 28 ≤ 8) : RM l G d M_Mo_read [.ref o] o rf S (reQ S) := by
  obtain ⟨d, rfl⟩ : ∃ q, d = q + 1 := ⟨d - 1, by omega⟩
  intro H0 c n hR
  refine XM.of (by decide +kernel) (Nat.le_of_ble_eq_true rfl) ?_
  have hX : xonly H0 H0 RKs := xonly.rf
  obtain ⟨z1, z2⟩ := id hz
  have l15 : _ = 9 := hR.len 15 (by decide)
  have l21 : _ = 9 := hR.len 21 (by decide)
  have l26 : _ = 9 := hR.len 26 (by decide)
  -- the end: what is left on the pile
  have j165 : ∀ (S1 : MS) (fi : Int) (w2 : Option Value), rSm S S1 rtJ (31 :: rtA) [22] → agO S S1 (S.1 28) → (0 ≤ S1.1 29 ∨ (S1.1 29 < 0 ∧ S1.1 27 ≤ S.1 2 ∧ ∃ P R w, rdOk S1 P R w ∧ (R.length : Int) = cnt 2 P + cnt 3 P + 1)) → RX l G M_Mo_read (d + 1) 165 [some (.ref o), some (.int (zI fi)), w2] [] H0 o rf c n S1 (reQ S) := by
    intro S1 fi w2 hsm hag hor h hR hX
    have f2 := hsm.1 2 (by decide)
    refine x_aload_n d_Mo_read_165 rfl rfl ?_
    refine x_get xf_Mo_199_Mo (Or.inl hR.1) (v := .int (zI (S1.1 32))) rfl d_Mo_read_166 ?_
    have hb166 : inR (S1.1 32) := hR.2.2.2 32
    refine z_if_le (tgt := 180) d_Mo_read_169 (by decide) (by omega) (fun hc169 => ?_) (fun hc169 => ?_)
    · skip
      refine x_vret d_Mo_read_180 rfl ?_
      first | exact ⟨_, hR, hX, rfl, rfl, rfl, hsm.tr ((rSm.r0 (js := [29]) (is := []) (ls := [])).sp (j := 29) (z := a177) (by decide) |>.mono (by decide) (by decide) (by decide)), hag.tr (agO.sm ((rSm.r0 (js := [29]) (is := []) (ls := [])).sp (by decide)) (by decide)), Or.inl (by show 0 ≤ a177; omega)⟩ | exact ⟨_, hR, hX, rfl, rfl, rfl, hsm, hag, by
      rcases hor with hor | ⟨q1, q2, P, R, w, q3, q4⟩
      · exact Or.inl hor
      · refine Or.inr ⟨q1, q2, ?_⟩
        obtain ⟨y1, -, -⟩ := q3.pl
        obtain rfl : P = [] := List.length_eq_zero_iff.mp (by omega)
        simp only [cnt] at q4
        match R, q4 with
        | [], q4 => simp at q4
        | [r], _ => exact ⟨r, w, q3⟩
        | _ :: _ :: _, q4 => simp at q4; omega⟩
    · refine x_aload_n d_Mo_read_172 rfl rfl ?_
      refine x_aload_n d_Mo_read_173 rfl rfl ?_
      refine x_get xf_Mo_124_Mo (Or.inl hR.1) (v := .int (zI (S1.1 2))) rfl d_Mo_read_174 ?_
      have hb174 : inR (S1.1 2) := hR.2.2.2 2
      refine x_callV (As := [_]) (k := k_MarkerTextModel) rfl xcv_Mo_218_Mo (Or.inl hR.1) (RM.ap hR (r_fault (by omega))) rfl rfl (Nat.le_of_ble_eq_true rfl) d_Mo_read_177 ?_
      rintro v177 h cq nq ⟨S177, hR, hX177, rfl, rfl, a177, rfl, rfl, ha177⟩
      replace hX := hX.tr hX177
      skip
      refine x_vret d_Mo_read_180 rfl ?_
      first | exact ⟨_, hR, hX, rfl, rfl, rfl, hsm.tr ((rSm.r0 (js := [29]) (is := []) (ls := [])).sp (j := 29) (z := a177) (by decide) |>.mono (by decide) (by decide) (by decide)), hag.tr (agO.sm ((rSm.r0 (js := [29]) (is := []) (ls := [])).sp (by decide)) (by decide)), Or.inl (by show 0 ≤ a177; omega)⟩ | exact ⟨_, hR, hX, rfl, rfl, rfl, hsm, hag, by
      rcases hor with hor | ⟨q1, q2, P, R, w, q3, q4⟩
      · exact Or.inl hor
      · refine Or.inr ⟨q1, q2, ?_⟩
        obtain ⟨y1, -, -⟩ := q3.pl
        obtain rfl : P = [] := List.length_eq_zero_iff.mp (by omega)
        simp only [cnt] at q4
        match R, q4 with
        | [], q4 => simp at q4
        | [r], _ => exact ⟨r, w, q3⟩
        | _ :: _ :: _, q4 => simp at q4; omega⟩
  have bd135 : ∀ (fi : Int) (w2 : Option Value) (T0 : MS), rSm S T0 rtJ (31 :: rtA) [22] → agO S T0 (S.1 28) → T0.1 29 < 0 → T0.1 27 ≤ S.1 2 → ∀ (S1 : MS) (P1 R1 : List Int) (w1 : Int → Int), LJ T0 S1 P1 R1 w1 → (∀ (S2 : MS) (P2 R2 : List Int) (w2' : Int → Int), P2.length < P1.length → LJ T0 S2 P2 R2 w2' → RX l G M_Mo_read (d + 1) 135 [some (.ref o), some (.int (zI fi)), w2] [] H0 o rf c n S2 (reQ S)) → RX l G M_Mo_read (d + 1) 135 [some (.ref o), some (.int (zI fi)), w2] [] H0 o rf c n S1 (reQ S) := by
    intro fi w2 T0 t1 t2 t3 t4 S1 P1 R1 w1 hL nx h hR hX
    obtain ⟨y1, y2, y3⟩ := hL.1.pl
    have f27 := hL.2.2.1.1 27 (by decide)
    have f29 := hL.2.2.1.1 29 (by decide)
    have f28 := t1.1 28 (by decide)
    have hag := hL.2.2.2.1
    rw [f28] at hag
    refine x_aload_n d_Mo_read_135 rfl rfl ?_
    refine x_get xf_Mo_190_Mo (Or.inl hR.1) (v := .int (zI (S1.1 29))) rfl d_Mo_read_136 ?_
    have hb136 : inR (S1.1 29) := hR.2.2.2 29
    refine z_if_ge (tgt := 165) d_Mo_read_139 (by decide) (by omega) (fun hq => by omega) (fun _ => ?_)
    refine x_aload_n d_Mo_read_142 rfl rfl ?_
    refine x_iconst (v := zI 2) d_Mo_read_143 (by decide) ?_
    refine x_callV (As := [_]) (k := k_MarkerTextModel) rfl xcv_Mo_212_Mo (Or.inl hR.1) (RM.ap hR (r_isOnTop (by decide) y1 y2 (by omega))) rfl rfl (Nat.le_of_ble_eq_true rfl) d_Mo_read_144 ?_
    rintro v144 h cq nq ⟨S144, hR, hX144, rfl, rfl, hE144, r144, rfl, hr144⟩
    replace hE144 := Eq.symm hE144
    subst hE144
    replace hX := hX.tr hX144
    have hb144 : r144 = 0 ∨ r144 = 1 := by rcases hr144 with ⟨z, -⟩ | ⟨z, -⟩ <;> omega
    refine z_if_ne (tgt := 158) d_Mo_read_147 (by decide) (by omega) (fun hc147 => ?_) (fun hc147 => ?_)
    · obtain ⟨k25, P25, hk25, rfl⟩ : ∃ k P', (k = 2 ∨ k = 3) ∧ P1 = k :: P' := by first | exact (onT hr144 hc147).elim (fun P' e => ⟨2, P', Or.inl rfl, e⟩) | exact (onT hr152 hc155).elim (fun P' e => ⟨3, P', Or.inr rfl, e⟩)
      obtain ⟨a25, b25, R25, rfl, st25⟩ := hL.step hk25
      refine x_aload_n d_Mo_read_158 rfl rfl ?_
      refine x_callV (As := []) (k := k_MarkerTextModel) rfl xcv_Mo_215_Mo (Or.inl hR.1) (RM.ap hR (r_apply (a := a25) (b := b25) (R' := R25) (by omega) hL.1 (Or.inr ⟨hk25, rfl⟩))) rfl rfl (Nat.le_of_ble_eq_true rfl) d_Mo_read_159 ?_
      rintro v159 h cq nq ⟨S159, hR, hX159, rfl, rfl, rfl, hq159⟩
      replace hX := hX.tr hX159
      refine x_goto (tgt := 135) d_Mo_read_162 (by decide) ?_
      obtain ⟨w26, hL26⟩ := st25 _ ⟨rfl, hq159⟩
      exact nx _ _ _ _ (by simp) hL26 _ hR hX
    · refine x_aload_n d_Mo_read_150 rfl rfl ?_
      refine x_iconst (v := zI 3) d_Mo_read_151 (by decide) ?_
      refine x_callV (As := [_]) (k := k_MarkerTextModel) rfl xcv_Mo_212_Mo (Or.inl hR.1) (RM.ap hR (r_isOnTop (by decide) y1 y2 (by omega))) rfl rfl (Nat.le_of_ble_eq_true rfl) d_Mo_read_152 ?_
      rintro v152 h cq nq ⟨S152, hR, hX152, rfl, rfl, hE152, r152, rfl, hr152⟩
      replace hE152 := Eq.symm hE152
      subst hE152
      replace hX := hX.tr hX152
      have hb152 : r152 = 0 ∨ r152 = 1 := by rcases hr152 with ⟨z, -⟩ | ⟨z, -⟩ <;> omega
      refine z_if_eq (tgt := 165) d_Mo_read_155 (by decide) (by omega) (fun hc155 => ?_) (fun hc155 => ?_)
      · exact j165 S1 fi w2 (t1.tr (hL.2.2.1.mono (by decide) (by decide) (by decide))) (t2.tr hag) (Or.inr ⟨by omega, by omega, P1, R1, w1, hL.1, hL.2.1⟩) _ hR hX
      · obtain ⟨k25, P25, hk25, rfl⟩ : ∃ k P', (k = 2 ∨ k = 3) ∧ P1 = k :: P' := by first | exact (onT hr144 hc147).elim (fun P' e => ⟨2, P', Or.inl rfl, e⟩) | exact (onT hr152 hc155).elim (fun P' e => ⟨3, P', Or.inr rfl, e⟩)
        obtain ⟨a25, b25, R25, rfl, st25⟩ := hL.step hk25
        refine x_aload_n d_Mo_read_158 rfl rfl ?_
        refine x_callV (As := []) (k := k_MarkerTextModel) rfl xcv_Mo_215_Mo (Or.inl hR.1) (RM.ap hR (r_apply (a := a25) (b := b25) (R' := R25) (by omega) hL.1 (Or.inr ⟨hk25, rfl⟩))) rfl rfl (Nat.le_of_ble_eq_true rfl) d_Mo_read_159 ?_
        rintro v159 h cq nq ⟨S159, hR, hX159, rfl, rfl, rfl, hq159⟩
        replace hX := hX.tr hX159
        refine x_goto (tgt := 135) d_Mo_read_162 (by decide) ?_
        obtain ⟨w26, hL26⟩ := st25 _ ⟨rfl, hq159⟩
        exact nx _ _ _ _ (by simp) hL26 _ hR hX
  have lp135 : ∀ (fi : Int) (w2 : Option Value) (T0 : MS), rSm S T0 rtJ (31 :: rtA) [22] → agO S T0 (S.1 28) → T0.1 29 < 0 → T0.1 27 ≤ S.1 2 → ∀ (K : Nat) (S1 : MS) (P1 R1 : List Int) (w1 : Int → Int), P1.length ≤ K → LJ T0 S1 P1 R1 w1 → RX l G M_Mo_read (d + 1) 135 [some (.ref o), some (.int (zI fi)), w2] [] H0 o rf c n S1 (reQ S) := by
    intro fi w2 T0 t1 t2 t3 t4 K
    induction K with
    | zero => intro S1 P1 R1 w1 hK hL; exact bd135 fi w2 T0 t1 t2 t3 t4 S1 P1 R1 w1 hL (fun S2 P2 R2 w2 hl _ => by omega)
    | succ K ih => intro S1 P1 R1 w1 hK hL; exact bd135 fi w2 T0 t1 t2 t3 t4 S1 P1 R1 w1 hL (fun S2 P2 R2 w2 hl hL2 => ih S2 P2 R2 w2 (by omega) hL2)
  have j135 : ∀ (S1 : MS) (fi : Int) (w2 : Option Value), RI S S1 fi → (S1.1 29 < 0 → fi = 0) → RX l G M_Mo_read (d + 1) 135 [some (.ref o), some (.int (zI fi)), w2] [] H0 o rf c n S1 (reQ S) := by
    intro S1 fi w2 hI hfi
    obtain ⟨h1, h2, h3, h4⟩ := hI
    rcases h4 with ⟨q1, q2, q3⟩ | ⟨q1, q2, q3, P, R, w, q4, q5⟩
    · intro h hR hX
      refine x_aload_n d_Mo_read_135 rfl rfl ?_
      refine x_get xf_Mo_190_Mo (Or.inl hR.1) (v := .int (zI (S1.1 29))) rfl d_Mo_read_136 ?_
      have hb136 : inR (S1.1 29) := hR.2.2.2 29
      refine z_if_ge (tgt := 165) d_Mo_read_139 (by decide) (by omega) (fun _ => ?_) (fun hq => by omega)
      exact j165 S1 fi w2 h1 h2 (Or.inl q1) _ hR hX
    · have := hfi q1
      subst this
      exact lp135 0 w2 S1 h1 h2 q1 q2 P.length S1 P R w (Nat.le_refl _) ⟨q4, by omega, rSm.r0, agO.r0, Int.le_refl _⟩
  -- the steps
  have j128 : ∀ (S1 S4 : MS) (fi : Int) (w2 : Option Value), RI S S4 fi → (S4.1 29 < 0 → S1.1 27 + 1 ≤ S4.1 27) → (∀ (S2 : MS) (fi2 : Int) (w2' : Option Value), RI S S2 fi2 → (S2.1 29 < 0 → S1.1 27 + 1 ≤ S2.1 27) → RX l G M_Mo_read (d + 1) 61 [some (.ref o), some (.int (zI fi2)), w2'] [] H0 o rf c n S2 (reQ S)) → RX l G M_Mo_read (d + 1) 128 [some (.ref o), some (.int (zI fi)), w2] [] H0 o rf c n S4 (reQ S) := by
    intro S1 S4 fi w2 hI hadv nx h hR hX
    have f2 := hI.1.1 2 (by decide)
    have hz4 : szOk S4 := ⟨by rw [f2]; exact z1, by rw [f2]; exact z2⟩
    have h0 : 0 ≤ S4.1 27 ∧ S4.1 27 ≤ S.1 2 + 1 ∧ (S4.1 29 < 0 → S4.1 27 ≤ S.1 2) := by
      rcases hI.2.2.2 with ⟨q1, q2, q3⟩ | ⟨q1, q2, q3, P, R, w, q4, q5⟩
      · exact ⟨q2, q3, fun z => by omega⟩
      · exact ⟨q4.2.2.2.1.1, by omega, fun _ => q2⟩
    refine x_aload_n d_Mo_read_128 rfl rfl ?_
    refine x_callV (As := []) (k := k_MarkerTextModel) rfl xcv_Mo_225_Mo (Or.inl hR.1) (RM.ap hR (r_skip h0.1 hz4)) rfl rfl (Nat.le_of_ble_eq_true rfl) d_Mo_read_129 ?_
    rintro v129 h cq nq ⟨S129, hR, hX129, rfl, rfl, a129, rfl, rfl, ha129, hb129, hc129⟩
    replace hX := hX.tr hX129
    refine x_goto (tgt := 61) d_Mo_read_132 (by decide) ?_
    exact nx _ fi w2 (hI.at ha129 (by omega) (by omega)) (fun z => by show S1.1 27 + 1 ≤ a129; have := hadv z; omega) _ hR hX
  have w61 : ∀ (S1 : MS) (fi : Int) (w2 : Option Value), RI S S1 fi → 0 ≤ S1.1 29 → RX l G M_Mo_read (d + 1) 61 [some (.ref o), some (.int (zI fi)), w2] [] H0 o rf c n S1 (reQ S) := by
    intro S1 fi w2 hI q1 h hR hX
    refine x_aload_n d_Mo_read_61 rfl rfl ?_
    refine x_get xf_Mo_190_Mo (Or.inl hR.1) (v := .int (zI (S1.1 29))) rfl d_Mo_read_62 ?_
    have hb62 : inR (S1.1 29) := hR.2.2.2 29
    refine z_if_ge (tgt := 135) d_Mo_read_65 (by decide) (by omega) (fun _ => ?_) (fun hq => by omega)
    exact j135 S1 fi w2 hI (fun z => by omega) _ hR hX
  have bd61 : ∀ (S1 : MS) (fi : Int) (w2 : Option Value), RI S S1 fi → (∀ (S2 : MS) (fi2 : Int) (w2' : Option Value), RI S S2 fi2 → (S2.1 29 < 0 → S1.1 27 + 1 ≤ S2.1 27) → RX l G M_Mo_read (d + 1) 61 [some (.ref o), some (.int (zI fi2)), w2'] [] H0 o rf c n S2 (reQ S)) → RX l G M_Mo_read (d + 1) 61 [some (.ref o), some (.int (zI fi)), w2] [] H0 o rf c n S1 (reQ S) := by
    intro S1 fi w2 hI nx
    have hI' := hI
    obtain ⟨h1, h2, h3, h4⟩ := hI
    have f2 := h1.1 2 (by decide)
    have f28 := h1.1 28 (by decide)
    rcases h4 with ⟨q1, q2, q3⟩ | ⟨q1, q2, q3, P, R, w, q4, q5⟩
    · exact w61 S1 fi w2 hI' q1
    · have h01 := q4.2.2.2.1.1
      obtain ⟨v1, v2, v3, v4, v5, v6, -⟩ := id q4.2.2.2.2.2.2.2.2.1
      rcases h3 with rfl | rfl
      · intro h hR hX
        refine x_aload_n d_Mo_read_61 rfl rfl ?_
        refine x_get xf_Mo_190_Mo (Or.inl hR.1) (v := .int (zI (S1.1 29))) rfl d_Mo_read_62 ?_
        have hb62 : inR (S1.1 29) := hR.2.2.2 29
        refine z_if_ge (tgt := 135) d_Mo_read_65 (by decide) (by omega) (fun hq => by omega) (fun _ => ?_)
        refine x_iload_n d_Mo_read_68 rfl ?_
        refine z_if_ne (tgt := 83) d_Mo_read_69 (by decide) (by omega) (fun hq => by omega) (fun _ => ?_)
        refine x_aload_n d_Mo_read_72 rfl rfl ?_
        refine x_get xf_Mo_193_Mo (Or.inl hR.1) (v := .int (zI (S1.1 27))) rfl d_Mo_read_73 ?_
        have hb73 : inR (S1.1 27) := hR.2.2.2 27
        refine x_aload_n d_Mo_read_76 rfl rfl ?_
        refine x_get xf_Mo_124_Mo (Or.inl hR.1) (v := .int (zI (S1.1 2))) rfl d_Mo_read_77 ?_
        have hb77 : inR (S1.1 2) := hR.2.2.2 2
        refine z_icmp_ge (tgt := 135) d_Mo_read_80 (by decide) (by omega) (by omega) (fun hc80 => ?_) (fun hc80 => ?_)
        · exact j135 S1 0 w2 hI' (fun _ => rfl) _ hR hX
        · refine x_iload_n d_Mo_read_83 rfl ?_
          refine z_if_eq (tgt := 123) d_Mo_read_84 (by decide) (by omega) (fun _ => ?_) (fun hq => by omega)
          refine x_aload_n d_Mo_read_123 rfl rfl ?_
          refine x_callV (As := []) (k := k_MarkerTextModel) rfl xcv_Mo_264_Mo (Or.inl hR.1) (RM.ap hR (r_readNext (by omega) q4 (by omega) (by omega) q1 q3)) rfl rfl (Nat.le_of_ble_eq_true rfl) d_Mo_read_124 ?_
          rintro v124 h cq nq ⟨S124, hR, hX124, rfl, rfl, r124, rfl, hr124, hsm124, hag124, hl124, hor124⟩
          replace hX := hX.tr hX124
          refine x_istore_n (L' := [_, _, _]) d_Mo_read_127 rfl rfl ?_
          rw [f28] at hag124
          refine j128 S1 _ r124 w2 ⟨h1.tr hsm124, h2.tr hag124, hr124, ?_⟩ ?_ nx _ hR hX
          · rcases hor124 with ⟨e1, e2⟩ | ⟨e1, e2, e3, e4, P', R', w', e5, e6⟩
            · exact Or.inl ⟨e1, by omega, by omega⟩
            · exact Or.inr ⟨e1, by omega, e4, P', R', w', e5, e6⟩
          · intro z
            rcases hor124 with ⟨e1, e2⟩ | ⟨e1, e2, e3, e4, P', R', w', e5, e6⟩
            · omega
            · exact e3
      · intro h hR hX
        refine x_aload_n d_Mo_read_61 rfl rfl ?_
        refine x_get xf_Mo_190_Mo (Or.inl hR.1) (v := .int (zI (S1.1 29))) rfl d_Mo_read_62 ?_
        have hb62 : inR (S1.1 29) := hR.2.2.2 29
        refine z_if_ge (tgt := 135) d_Mo_read_65 (by decide) (by omega) (fun hq => by omega) (fun _ => ?_)
        refine x_iload_n d_Mo_read_68 rfl ?_
        refine z_if_ne (tgt := 83) d_Mo_read_69 (by decide) (by omega) (fun _ => ?_) (fun hq => by omega)
        refine x_iload_n d_Mo_read_83 rfl ?_
        refine z_if_eq (tgt := 123) d_Mo_read_84 (by decide) (by omega) (fun hq => by omega) (fun _ => ?_)
        refine x_aload_n d_Mo_read_87 rfl rfl ?_
        refine x_get xf_Mo_63_Mo (Or.inl hR.1) (v := .ref (rf 21)) rfl d_Mo_read_88 ?_
        refine x_aload_n d_Mo_read_91 rfl rfl ?_
        refine x_get xf_Mo_196_Mo (Or.inl hR.1) (v := .int (zI (S1.1 28))) rfl d_Mo_read_92 ?_
        have hb92 : inR (S1.1 28) := hR.2.2.2 28
        refine r_iald (i := 21) (us := (S1.2.1 21)) rfl (by decide) hR rfl (by omega) (by show S1.1 28 < 9; omega) d_Mo_read_95 (fun hr95 => ?_)
        refine x_istore_n (L' := [_, _, _]) d_Mo_read_96 rfl rfl ?_
        refine x_aload_n d_Mo_read_97 rfl rfl ?_
        refine x_callV (As := []) (k := k_MarkerTextModel) rfl xcv_Mo_261_Mo (Or.inl hR.1) (RM.ap hR (r_readFirst (by omega) q4 (by omega) q1 q3)) rfl rfl (Nat.le_of_ble_eq_true rfl) d_Mo_read_98 ?_
        rintro v98 h cq nq ⟨S98, hR, hX98, rfl, rfl, rfl, hsm98, hag98, hl98, hor98⟩
        replace hX := hX.tr hX98
        refine x_aload_n d_Mo_read_101 rfl rfl ?_
        refine x_get xf_Mo_63_Mo (Or.inl hR.1) (v := .ref (rf 21)) rfl d_Mo_read_102 ?_
        refine x_aload_n d_Mo_read_105 rfl rfl ?_
        refine x_get xf_Mo_196_Mo (Or.inl hR.1) (v := .int (zI (S98.1 28))) rfl d_Mo_read_106 ?_
        have hb106 : inR (S98.1 28) := hR.2.2.2 28
        have f28b : S98.1 28 = S1.1 28 := hsm98.1 28 (by decide)
        refine r_iald (i := 21) (us := (S98.2.1 21)) rfl (by decide) hR rfl (by omega) (by show S98.1 28 < 9; omega) d_Mo_read_109 (fun hr109 => ?_)
        refine x_iload_n d_Mo_read_110 rfl ?_
        refine z_icmp_ne (tgt := 118) d_Mo_read_111 (by decide) (by omega) (by omega) (fun hc111 => ?_) (fun hc111 => ?_)
        · refine x_iconst (v := zI 0) d_Mo_read_118 (by decide) ?_
          refine x_istore_n (L' := [_, _, _]) d_Mo_read_119 rfl rfl ?_
          refine x_goto (tgt := 128) d_Mo_read_120 (by decide) ?_
          rw [f28] at hag98
          rw [f28b] at *
          first | refine j128 S1 S98 1 _ ⟨h1.tr hsm98, h2.tr hag98, Or.inr rfl, ?_⟩ ?_ nx _ hR hX | refine j128 S1 S98 0 _ ⟨h1.tr hsm98, h2.tr hag98, Or.inl rfl, ?_⟩ ?_ nx _ hR hX
          · rcases hor98 with ⟨e1, e2⟩ | ⟨e1, e2, e3, e4, P', R', w', e5, e6⟩
            · exact Or.inl ⟨e1, by omega, by omega⟩
            · refine Or.inr ⟨e1, by omega, e4, P', R', w', e5, ?_⟩
              omega
          · intro z
            rcases hor98 with ⟨e1, e2⟩ | ⟨e1, e2, e3, e4, P', R', w', e5, e6⟩
            · omega
            · exact e3
        · refine x_iconst (v := zI 1) d_Mo_read_114 (by decide) ?_
          refine x_goto (tgt := 119) d_Mo_read_115 (by decide) ?_
          refine x_istore_n (L' := [_, _, _]) d_Mo_read_119 rfl rfl ?_
          refine x_goto (tgt := 128) d_Mo_read_120 (by decide) ?_
          rw [f28] at hag98
          rw [f28b] at *
          first | refine j128 S1 S98 1 _ ⟨h1.tr hsm98, h2.tr hag98, Or.inr rfl, ?_⟩ ?_ nx _ hR hX | refine j128 S1 S98 0 _ ⟨h1.tr hsm98, h2.tr hag98, Or.inl rfl, ?_⟩ ?_ nx _ hR hX
          · rcases hor98 with ⟨e1, e2⟩ | ⟨e1, e2, e3, e4, P', R', w', e5, e6⟩
            · exact Or.inl ⟨e1, by omega, by omega⟩
            · refine Or.inr ⟨e1, by omega, e4, P', R', w', e5, ?_⟩
              omega
          · intro z
            rcases hor98 with ⟨e1, e2⟩ | ⟨e1, e2, e3, e4, P', R', w', e5, e6⟩
            · omega
            · exact e3
  have lp61 : ∀ (K : Nat) (S1 : MS) (fi : Int) (w2 : Option Value), RI S S1 fi → (S1.1 29 < 0 → S.1 2 - S1.1 27 ≤ K) → RX l G M_Mo_read (d + 1) 61 [some (.ref o), some (.int (zI fi)), w2] [] H0 o rf c n S1 (reQ S) := by
    intro K
    induction K with
    | zero =>
      intro S1 fi w2 hI hK
      by_cases hw1 : 0 ≤ S1.1 29
      · exact w61 S1 fi w2 hI hw1
      · refine bd61 S1 fi w2 hI (fun S2 fi2 w2' hI2 hadv => ?_)
        by_cases hw2 : 0 ≤ S2.1 29
        · exact w61 S2 fi2 w2' hI2 hw2
        · have h1 := hK (by omega)
          have h2 := hadv (by omega)
          rcases hI2.2.2.2 with ⟨q1, -⟩ | ⟨q1, q2, -⟩
          · omega
          · omega
    | succ K ih =>
      intro S1 fi w2 hI hK
      by_cases hw1 : 0 ≤ S1.1 29
      · exact w61 S1 fi w2 hI hw1
      · exact bd61 S1 fi w2 hI (fun S2 fi2 w2' hI2 hadv => ih S2 fi2 w2' hI2 (fun z => by have := hadv z; have := hK (by omega); omega))
  have hI0 : RI S (rd0 S) 1 := RI_0 hz hn hs l15 l21 l26
  refine x_aload_n d_Mo_read_0 rfl rfl ?_
  refine x_iconst (v := zI 0) d_Mo_read_1 (by decide) ?_
  refine r_put xf_Mo_193_Mo xp_Mo_27 hR hX (by omega) rfl rfl d_Mo_read_2 ?_
  intro h hR hX
  refine x_aload_n d_Mo_read_5 rfl rfl ?_
  refine x_iconst (v := zI (-1)) d_Mo_read_6 (by decide) ?_
  refine r_put xf_Mo_190_Mo xp_Mo_29 hR hX (by omega) rfl rfl d_Mo_read_7 ?_
  intro h hR hX
  refine x_aload_n d_Mo_read_10 rfl rfl ?_
  refine x_iconst (v := zI 0) d_Mo_read_11 (by decide) ?_
  refine r_put xf_Mo_199_Mo xp_Mo_32 hR hX (by omega) rfl rfl d_Mo_read_12 ?_
  intro h hR hX
  refine x_aload_n d_Mo_read_15 rfl rfl ?_
  refine x_iconst (v := zI 0) d_Mo_read_16 (by decide) ?_
  refine r_put xf_Mo_202_Mo xp_Mo_33 hR hX (by omega) rfl rfl d_Mo_read_17 ?_
  intro h hR hX
  refine x_aload_n d_Mo_read_20 rfl rfl ?_
  refine x_iconst (v := zI 0) d_Mo_read_21 (by decide) ?_
  refine r_put xf_Mo_205_Mo xp_Mo_35 hR hX (by omega) rfl rfl d_Mo_read_22 ?_
  intro h hR hX
  refine x_aload_n d_Mo_read_25 rfl rfl ?_
  refine x_get xf_Mo_45_Mo (Or.inl hR.1) (v := .ref (rf 15)) rfl d_Mo_read_26 ?_
  refine x_aload_n d_Mo_read_29 rfl rfl ?_
  refine x_get xf_Mo_196_Mo (Or.inl hR.1) (v := .int (zI (S.1 28))) rfl d_Mo_read_30 ?_
  have hb30 : inR (S.1 28) := hR.2.2.2 28
  refine x_iconst (v := zI 0) d_Mo_read_33 (by decide) ?_
  refine r_iast (i := 15) (us := (S.2.1 15)) ⟨rfl, rfl⟩ (by decide) hR hX rfl (by omega) (by show S.1 28 < 9; omega) (by omega) d_Mo_read_34 ?_
  intro h hR hX
  refine x_aload_n d_Mo_read_35 rfl rfl ?_
  refine x_get xf_Mo_63_Mo (Or.inl hR.1) (v := .ref (rf 21)) rfl d_Mo_read_36 ?_
  refine x_aload_n d_Mo_read_39 rfl rfl ?_
  refine x_get xf_Mo_196_Mo (Or.inl hR.1) (v := .int (zI (S.1 28))) rfl d_Mo_read_40 ?_
  have hb40 : inR (S.1 28) := hR.2.2.2 28
  refine x_iconst (v := zI 0) d_Mo_read_43 (by decide) ?_
  refine r_iast (i := 21) (us := (S.2.1 21)) ⟨rfl, rfl⟩ (by decide) hR hX rfl (by omega) (by show S.1 28 < 9; omega) (by omega) d_Mo_read_44 ?_
  intro h hR hX
  refine x_aload_n d_Mo_read_45 rfl rfl ?_
  refine x_get xf_Mo_78_Mo (Or.inl hR.1) (v := .ref (rf 26)) rfl d_Mo_read_46 ?_
  refine x_aload_n d_Mo_read_49 rfl rfl ?_
  refine x_get xf_Mo_196_Mo (Or.inl hR.1) (v := .int (zI (S.1 28))) rfl d_Mo_read_50 ?_
  have hb50 : inR (S.1 28) := hR.2.2.2 28
  refine x_iconst (v := zI 0) d_Mo_read_53 (by decide) ?_
  refine r_iast (i := 26) (us := (S.2.1 26)) ⟨rfl, rfl⟩ (by decide) hR hX rfl (by omega) (by show S.1 28 < 9; omega) (by omega) d_Mo_read_54 ?_
  intro h hR hX
  refine x_iconst (v := zI 1) d_Mo_read_55 (by decide) ?_
  refine x_istore_n (L' := [_, _, _]) d_Mo_read_56 rfl rfl ?_
  refine x_aload_n d_Mo_read_57 rfl rfl ?_
  refine x_callV (As := []) (k := k_MarkerTextModel) rfl xcv_Mo_225_Mo (Or.inl hR.1) (RM.ap hR (r_skip (S := rd0 S) (Int.le_refl _) hz)) rfl rfl (Nat.le_of_ble_eq_true rfl) d_Mo_read_58 ?_
  rintro v58 h cq nq ⟨S58, hR, hX58, rfl, rfl, a58, rfl, rfl, ha58, hb58, hc58⟩
  replace hX := hX.tr hX58
  exact lp61 161 _ 1 _ (hI0.at ha58 (by show a58 ≤ S.1 2 + 1; have : a58 ≤ S.1 2 := hb58 z1; omega) (fun _ => hb58 z1)) (fun _ => by show S.1 2 - a58 ≤ 161; have : (0 : Int) ≤ a58 := ha58; omega) _ hR hX
end RF11
