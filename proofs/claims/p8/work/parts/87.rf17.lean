section
abbrev y_Mo_prepare : MethodName := ⟨"MarkerTextModel", "prepare", "(I)Z"⟩
abbrev M_Mo_prepare : XMt := (y_Mo_prepare, prog_13_method_47_code, 6, (some .boolean))
theorem d_Mo_prepare_160 : decode M_Mo_prepare.2.1 160 = .ok (.iload 4, 2) := by decide +kernel
theorem d_Mo_prepare_162 : decode M_Mo_prepare.2.1 162 = .ok (.aload_n 0, 1) := by decide +kernel
theorem d_Mo_prepare_163 : decode M_Mo_prepare.2.1 163 = .ok (.getfield 268, 3) := by decide +kernel
theorem d_Mo_prepare_166 : decode M_Mo_prepare.2.1 166 = .ok (.if_icmp .ge 25, 3) := by decide +kernel
theorem d_Mo_prepare_191 : decode M_Mo_prepare.2.1 191 = .ok (.lload_n 2, 1) := by decide +kernel
theorem d_Mo_prepare_192 : decode M_Mo_prepare.2.1 192 = .ok (.ldc2_w 294, 3) := by decide +kernel
theorem xw_1514 : (Jvm.Cond.constantLong "MarkerTextModel" (294 : Nat) (20000 : Int64)) ∈ xT := xT_at 1514 (by decide +kernel) (by decide +kernel)
theorem d_Mo_prepare_195 : decode M_Mo_prepare.2.1 195 = .ok (.lcmp, 1) := by decide +kernel
theorem d_Mo_prepare_196 : decode M_Mo_prepare.2.1 196 = .ok (.ifCond .gt 7, 3) := by decide +kernel
theorem d_Mo_prepare_203 : decode M_Mo_prepare.2.1 203 = .ok (.iconst 0, 1) := by decide +kernel
theorem d_Mo_prepare_204 : decode M_Mo_prepare.2.1 204 = .ok (.ireturn, 1) := by decide +kernel
theorem d_Mo_prepare_199 : decode M_Mo_prepare.2.1 199 = .ok (.iconst 1, 1) := by decide +kernel
theorem d_Mo_prepare_200 : decode M_Mo_prepare.2.1 200 = .ok (.goto 4, 3) := by decide +kernel
theorem d_Mo_prepare_169 : decode M_Mo_prepare.2.1 169 = .ok (.iload_n 1, 1) := by decide +kernel
theorem d_Mo_prepare_170 : decode M_Mo_prepare.2.1 170 = .ok (.iload 4, 2) := by decide +kernel
theorem d_Mo_prepare_172 : decode M_Mo_prepare.2.1 172 = .ok (.ishr, 1) := by decide +kernel
theorem d_Mo_prepare_173 : decode M_Mo_prepare.2.1 173 = .ok (.iconst 1, 1) := by decide +kernel
theorem d_Mo_prepare_174 : decode M_Mo_prepare.2.1 174 = .ok (.iand, 1) := by decide +kernel
theorem d_Mo_prepare_175 : decode M_Mo_prepare.2.1 175 = .ok (.iconst 1, 1) := by decide +kernel
theorem d_Mo_prepare_176 : decode M_Mo_prepare.2.1 176 = .ok (.if_icmp .ne 9, 3) := by decide +kernel
theorem d_Mo_prepare_185 : decode M_Mo_prepare.2.1 185 = .ok (.iinc 4 1, 3) := by decide +kernel
theorem d_Mo_prepare_188 : decode M_Mo_prepare.2.1 188 = .ok (.goto (-28), 3) := by decide +kernel
theorem d_Mo_prepare_179 : decode M_Mo_prepare.2.1 179 = .ok (.aload_n 0, 1) := by decide +kernel
theorem d_Mo_prepare_180 : decode M_Mo_prepare.2.1 180 = .ok (.iload 4, 2) := by decide +kernel
theorem d_Mo_prepare_182 : decode M_Mo_prepare.2.1 182 = .ok (.invokevirtual 299, 3) := by decide +kernel
theorem xw_1522 : (Jvm.Cond.code ({ cls := "MarkerTextModel", name := "locate", desc := "(I)V" } : Jvm.MethodName) prog_13_method_45_code (6 : Nat) (Option.none : Option Jvm.ClassFile.FieldType)) ∈ xT := xT_at 1522 (by decide +kernel) (by decide +kernel)
theorem xcb_Mo_locate : xcb M_Mo_locate 1 := ⟨xw_1522, xw_8, by decide, by decide, by decide, by decide +kernel⟩
theorem xw_1521 : (Jvm.Cond.instanceMethod ({ cls := "MarkerTextModel", name := "locate", desc := "(I)V" } : Jvm.MethodName)) ∈ xT := xT_at 1521 (by decide +kernel) (by decide +kernel)
theorem xw_1519 : (Jvm.Cond.methodLink "MarkerTextModel" (299 : Nat) ({ cls := "MarkerTextModel", name := "locate", desc := "(I)V" } : Jvm.MethodName)) ∈ xT := xT_at 1519 (by decide +kernel) (by decide +kernel)
theorem xsel_Mo_locate : Cond.selects "MarkerTextModel" y_Mo_locate y_Mo_locate ∈ xT := xT_sel (q := (y_Mo_locate, 52)) (by decide +kernel) (by decide +kernel)
theorem xcv_Mo_299_Mo : xCV "MarkerTextModel" 299 "MarkerTextModel" M_Mo_locate 1 := ⟨xcb_Mo_locate, xw_1521, Or.inl ⟨xw_1519, Or.inl xsel_Mo_locate⟩⟩
theorem d_Mo_prepare_70 : decode M_Mo_prepare.2.1 70 = .ok (.iload 4, 2) := by decide +kernel
theorem d_Mo_prepare_72 : decode M_Mo_prepare.2.1 72 = .ok (.aload_n 0, 1) := by decide +kernel
theorem d_Mo_prepare_73 : decode M_Mo_prepare.2.1 73 = .ok (.getfield 147, 3) := by decide +kernel
theorem d_Mo_prepare_76 : decode M_Mo_prepare.2.1 76 = .ok (.if_icmp .ge 81, 3) := by decide +kernel
theorem d_Mo_prepare_157 : decode M_Mo_prepare.2.1 157 = .ok (.iconst 0, 1) := by decide +kernel
theorem d_Mo_prepare_158 : decode M_Mo_prepare.2.1 158 = .ok (.istore 4, 2) := by decide +kernel
theorem d_Mo_prepare_129 : decode M_Mo_prepare.2.1 129 = .ok (.lload_n 2, 1) := by decide +kernel
theorem d_Mo_prepare_130 : decode M_Mo_prepare.2.1 130 = .ok (.ldc2_w 294, 3) := by decide +kernel
theorem d_Mo_prepare_133 : decode M_Mo_prepare.2.1 133 = .ok (.lcmp, 1) := by decide +kernel
theorem d_Mo_prepare_134 : decode M_Mo_prepare.2.1 134 = .ok (.ifCond .le 7, 3) := by decide +kernel
theorem d_Mo_prepare_141 : decode M_Mo_prepare.2.1 141 = .ok (.lload_n 2, 1) := by decide +kernel
theorem d_Mo_prepare_142 : decode M_Mo_prepare.2.1 142 = .ok (.aload_n 0, 1) := by decide +kernel
theorem d_Mo_prepare_143 : decode M_Mo_prepare.2.1 143 = .ok (.iload 4, 2) := by decide +kernel
theorem d_Mo_prepare_145 : decode M_Mo_prepare.2.1 145 = .ok (.invokevirtual 296, 3) := by decide +kernel
theorem xw_1518 : (Jvm.Cond.code ({ cls := "MarkerTextModel", name := "samples", desc := "(I)I" } : Jvm.MethodName) prog_13_method_46_code (2 : Nat) (Option.some Jvm.ClassFile.FieldType.int)) ∈ xT := xT_at 1518 (by decide +kernel) (by decide +kernel)
theorem xcb_Mo_samples : xcb M_Mo_samples 1 := ⟨xw_1518, xw_8, by decide, by decide, by decide, by decide +kernel⟩
theorem xw_1517 : (Jvm.Cond.instanceMethod ({ cls := "MarkerTextModel", name := "samples", desc := "(I)I" } : Jvm.MethodName)) ∈ xT := xT_at 1517 (by decide +kernel) (by decide +kernel)
theorem xw_1515 : (Jvm.Cond.methodLink "MarkerTextModel" (296 : Nat) ({ cls := "MarkerTextModel", name := "samples", desc := "(I)I" } : Jvm.MethodName)) ∈ xT := xT_at 1515 (by decide +kernel) (by decide +kernel)
theorem xsel_Mo_samples : Cond.selects "MarkerTextModel" y_Mo_samples y_Mo_samples ∈ xT := xT_sel (q := (y_Mo_samples, 52)) (by decide +kernel) (by decide +kernel)
theorem xcv_Mo_296_Mo : xCV "MarkerTextModel" 296 "MarkerTextModel" M_Mo_samples 1 := ⟨xcb_Mo_samples, xw_1517, Or.inl ⟨xw_1515, Or.inl xsel_Mo_samples⟩⟩
theorem d_Mo_prepare_148 : decode M_Mo_prepare.2.1 148 = .ok (.i2l, 1) := by decide +kernel
theorem d_Mo_prepare_149 : decode M_Mo_prepare.2.1 149 = .ok (.lmul, 1) := by decide +kernel
theorem d_Mo_prepare_150 : decode M_Mo_prepare.2.1 150 = .ok (.lstore_n 2, 1) := by decide +kernel
theorem d_Mo_prepare_151 : decode M_Mo_prepare.2.1 151 = .ok (.iinc 4 1, 3) := by decide +kernel
theorem d_Mo_prepare_154 : decode M_Mo_prepare.2.1 154 = .ok (.goto (-84), 3) := by decide +kernel
theorem d_Mo_prepare_137 : decode M_Mo_prepare.2.1 137 = .ok (.lload_n 2, 1) := by decide +kernel
theorem d_Mo_prepare_138 : decode M_Mo_prepare.2.1 138 = .ok (.goto 12, 3) := by decide +kernel
theorem d_Mo_prepare_82 : decode M_Mo_prepare.2.1 82 = .ok (.iload 5, 2) := by decide +kernel
theorem d_Mo_prepare_84 : decode M_Mo_prepare.2.1 84 = .ok (.aload_n 0, 1) := by decide +kernel
theorem d_Mo_prepare_85 : decode M_Mo_prepare.2.1 85 = .ok (.getfield 22, 3) := by decide +kernel
theorem d_Mo_prepare_88 : decode M_Mo_prepare.2.1 88 = .ok (.iload 4, 2) := by decide +kernel
theorem d_Mo_prepare_90 : decode M_Mo_prepare.2.1 90 = .ok (.iaload, 1) := by decide +kernel
theorem d_Mo_prepare_91 : decode M_Mo_prepare.2.1 91 = .ok (.if_icmp .ge 38, 3) := by decide +kernel
theorem d_Mo_prepare_94 : decode M_Mo_prepare.2.1 94 = .ok (.aload_n 0, 1) := by decide +kernel
theorem d_Mo_prepare_95 : decode M_Mo_prepare.2.1 95 = .ok (.getfield 97, 3) := by decide +kernel
theorem d_Mo_prepare_98 : decode M_Mo_prepare.2.1 98 = .ok (.iload 4, 2) := by decide +kernel
theorem d_Mo_prepare_100 : decode M_Mo_prepare.2.1 100 = .ok (.baload, 1) := by decide +kernel
theorem d_Mo_prepare_101 : decode M_Mo_prepare.2.1 101 = .ok (.ifCond .eq 28, 3) := by decide +kernel
theorem d_Mo_prepare_104 : decode M_Mo_prepare.2.1 104 = .ok (.aload_n 0, 1) := by decide +kernel
theorem d_Mo_prepare_105 : decode M_Mo_prepare.2.1 105 = .ok (.iload 4, 2) := by decide +kernel
theorem d_Mo_prepare_107 : decode M_Mo_prepare.2.1 107 = .ok (.aload_n 0, 1) := by decide +kernel
theorem d_Mo_prepare_108 : decode M_Mo_prepare.2.1 108 = .ok (.getfield 25, 3) := by decide +kernel
theorem d_Mo_prepare_111 : decode M_Mo_prepare.2.1 111 = .ok (.bipush 6, 2) := by decide +kernel
theorem d_Mo_prepare_113 : decode M_Mo_prepare.2.1 113 = .ok (.iload 4, 2) := by decide +kernel
theorem d_Mo_prepare_115 : decode M_Mo_prepare.2.1 115 = .ok (.imul, 1) := by decide +kernel
theorem d_Mo_prepare_116 : decode M_Mo_prepare.2.1 116 = .ok (.iload 5, 2) := by decide +kernel
theorem d_Mo_prepare_118 : decode M_Mo_prepare.2.1 118 = .ok (.iadd, 1) := by decide +kernel
theorem d_Mo_prepare_119 : decode M_Mo_prepare.2.1 119 = .ok (.laload, 1) := by decide +kernel
theorem d_Mo_prepare_120 : decode M_Mo_prepare.2.1 120 = .ok (.invokevirtual 287, 3) := by decide +kernel
theorem d_Mo_prepare_123 : decode M_Mo_prepare.2.1 123 = .ok (.iinc 5 1, 3) := by decide +kernel
theorem d_Mo_prepare_126 : decode M_Mo_prepare.2.1 126 = .ok (.goto (-44), 3) := by decide +kernel
theorem d_Mo_prepare_79 : decode M_Mo_prepare.2.1 79 = .ok (.iconst 0, 1) := by decide +kernel
theorem d_Mo_prepare_80 : decode M_Mo_prepare.2.1 80 = .ok (.istore 5, 2) := by decide +kernel
theorem d_Mo_prepare_37 : decode M_Mo_prepare.2.1 37 = .ok (.iload_n 2, 1) := by decide +kernel
theorem d_Mo_prepare_38 : decode M_Mo_prepare.2.1 38 = .ok (.aload_n 0, 1) := by decide +kernel
theorem d_Mo_prepare_39 : decode M_Mo_prepare.2.1 39 = .ok (.getfield 268, 3) := by decide +kernel
theorem d_Mo_prepare_42 : decode M_Mo_prepare.2.1 42 = .ok (.if_icmp .ge 23, 3) := by decide +kernel
theorem d_Mo_prepare_65 : decode M_Mo_prepare.2.1 65 = .ok (.lconst 1, 1) := by decide +kernel
theorem d_Mo_prepare_66 : decode M_Mo_prepare.2.1 66 = .ok (.lstore_n 2, 1) := by decide +kernel
theorem d_Mo_prepare_67 : decode M_Mo_prepare.2.1 67 = .ok (.iconst 0, 1) := by decide +kernel
theorem d_Mo_prepare_68 : decode M_Mo_prepare.2.1 68 = .ok (.istore 4, 2) := by decide +kernel
theorem d_Mo_prepare_45 : decode M_Mo_prepare.2.1 45 = .ok (.iload_n 1, 1) := by decide +kernel
theorem d_Mo_prepare_46 : decode M_Mo_prepare.2.1 46 = .ok (.iload_n 2, 1) := by decide +kernel
theorem d_Mo_prepare_47 : decode M_Mo_prepare.2.1 47 = .ok (.ishr, 1) := by decide +kernel
theorem d_Mo_prepare_48 : decode M_Mo_prepare.2.1 48 = .ok (.iconst 1, 1) := by decide +kernel
theorem d_Mo_prepare_49 : decode M_Mo_prepare.2.1 49 = .ok (.iand, 1) := by decide +kernel
theorem d_Mo_prepare_50 : decode M_Mo_prepare.2.1 50 = .ok (.iconst 1, 1) := by decide +kernel
theorem d_Mo_prepare_51 : decode M_Mo_prepare.2.1 51 = .ok (.if_icmp .ne 8, 3) := by decide +kernel
theorem d_Mo_prepare_59 : decode M_Mo_prepare.2.1 59 = .ok (.iinc 2 1, 3) := by decide +kernel
theorem d_Mo_prepare_62 : decode M_Mo_prepare.2.1 62 = .ok (.goto (-25), 3) := by decide +kernel
theorem d_Mo_prepare_54 : decode M_Mo_prepare.2.1 54 = .ok (.aload_n 0, 1) := by decide +kernel
theorem d_Mo_prepare_55 : decode M_Mo_prepare.2.1 55 = .ok (.iload_n 2, 1) := by decide +kernel
theorem d_Mo_prepare_56 : decode M_Mo_prepare.2.1 56 = .ok (.invokevirtual 291, 3) := by decide +kernel
theorem xw_1509 : (Jvm.Cond.code ({ cls := "MarkerTextModel", name := "gather", desc := "(I)V" } : Jvm.MethodName) prog_13_method_44_code (5 : Nat) (Option.none : Option Jvm.ClassFile.FieldType)) ∈ xT := xT_at 1509 (by decide +kernel) (by decide +kernel)
theorem xcb_Mo_gather : xcb M_Mo_gather 1 := ⟨xw_1509, xw_8, by decide, by decide, by decide, by decide +kernel⟩
theorem xw_1508 : (Jvm.Cond.instanceMethod ({ cls := "MarkerTextModel", name := "gather", desc := "(I)V" } : Jvm.MethodName)) ∈ xT := xT_at 1508 (by decide +kernel) (by decide +kernel)
theorem xw_1506 : (Jvm.Cond.methodLink "MarkerTextModel" (291 : Nat) ({ cls := "MarkerTextModel", name := "gather", desc := "(I)V" } : Jvm.MethodName)) ∈ xT := xT_at 1506 (by decide +kernel) (by decide +kernel)
theorem xsel_Mo_gather : Cond.selects "MarkerTextModel" y_Mo_gather y_Mo_gather ∈ xT := xT_sel (q := (y_Mo_gather, 52)) (by decide +kernel) (by decide +kernel)
theorem xcv_Mo_291_Mo : xCV "MarkerTextModel" 291 "MarkerTextModel" M_Mo_gather 1 := ⟨xcb_Mo_gather, xw_1508, Or.inl ⟨xw_1506, Or.inl xsel_Mo_gather⟩⟩
theorem d_Mo_prepare_2 : decode M_Mo_prepare.2.1 2 = .ok (.iload_n 2, 1) := by decide +kernel
theorem d_Mo_prepare_3 : decode M_Mo_prepare.2.1 3 = .ok (.bipush 6, 2) := by decide +kernel
theorem d_Mo_prepare_5 : decode M_Mo_prepare.2.1 5 = .ok (.if_icmp .ge 30, 3) := by decide +kernel
theorem d_Mo_prepare_35 : decode M_Mo_prepare.2.1 35 = .ok (.iconst 0, 1) := by decide +kernel
theorem d_Mo_prepare_36 : decode M_Mo_prepare.2.1 36 = .ok (.istore_n 2, 1) := by decide +kernel
theorem d_Mo_prepare_8 : decode M_Mo_prepare.2.1 8 = .ok (.aload_n 0, 1) := by decide +kernel
theorem d_Mo_prepare_9 : decode M_Mo_prepare.2.1 9 = .ok (.getfield 94, 3) := by decide +kernel
theorem d_Mo_prepare_12 : decode M_Mo_prepare.2.1 12 = .ok (.iload_n 2, 1) := by decide +kernel
theorem d_Mo_prepare_13 : decode M_Mo_prepare.2.1 13 = .ok (.iconst 0, 1) := by decide +kernel
theorem d_Mo_prepare_14 : decode M_Mo_prepare.2.1 14 = .ok (.iastore, 1) := by decide +kernel
theorem d_Mo_prepare_15 : decode M_Mo_prepare.2.1 15 = .ok (.aload_n 0, 1) := by decide +kernel
theorem d_Mo_prepare_16 : decode M_Mo_prepare.2.1 16 = .ok (.getfield 97, 3) := by decide +kernel
theorem d_Mo_prepare_19 : decode M_Mo_prepare.2.1 19 = .ok (.iload_n 2, 1) := by decide +kernel
theorem d_Mo_prepare_20 : decode M_Mo_prepare.2.1 20 = .ok (.iconst 0, 1) := by decide +kernel
theorem d_Mo_prepare_21 : decode M_Mo_prepare.2.1 21 = .ok (.bastore, 1) := by decide +kernel
theorem d_Mo_prepare_22 : decode M_Mo_prepare.2.1 22 = .ok (.aload_n 0, 1) := by decide +kernel
theorem d_Mo_prepare_23 : decode M_Mo_prepare.2.1 23 = .ok (.getfield 100, 3) := by decide +kernel
theorem d_Mo_prepare_26 : decode M_Mo_prepare.2.1 26 = .ok (.iload_n 2, 1) := by decide +kernel
theorem d_Mo_prepare_27 : decode M_Mo_prepare.2.1 27 = .ok (.iconst 0, 1) := by decide +kernel
theorem d_Mo_prepare_28 : decode M_Mo_prepare.2.1 28 = .ok (.iastore, 1) := by decide +kernel
theorem d_Mo_prepare_29 : decode M_Mo_prepare.2.1 29 = .ok (.iinc 2 1, 3) := by decide +kernel
theorem d_Mo_prepare_32 : decode M_Mo_prepare.2.1 32 = .ok (.goto (-30), 3) := by decide +kernel
theorem d_Mo_prepare_0 : decode M_Mo_prepare.2.1 0 = .ok (.iconst 0, 1) := by decide +kernel
theorem d_Mo_prepare_1 : decode M_Mo_prepare.2.1 1 = .ok (.istore_n 2, 1) := by decide +kernel
end
section RF17
variable {l : Launch} {G : XG} {h : XH} {c n d : Nat} {o : Nat} {rf : Nat → Nat} {S : MS}
abbrev bitC (w k : Int) : Prop := (zI ((zI w >>> (zI k &&& 31)).toInt) &&& zI 1).toInt = 1
/-- no CHOICE is taken yet -/
def chz (S : MS) : Prop := ∀ q : Int, 0 ≤ q → q < 6 → gd (S.2.1 40) q = 0
theorem inS.up {S1 : MS} {s : Int} {js : List Nat} (hI : inS S s) (hC : cdOk S s) (hsm : rSm S S1 js [38, 39, 40, 41] [37]) (hmo : ∀ (q : Int) (y : Int64), 0 ≤ q → q < 6 → sMem S q y → sMem S1 q y) : inS S1 s := by
  obtain ⟨w, ⟨p1, p2, p3, p4, p5, p6, p7, p8, p9, p10⟩, -⟩ := hC
  intro t j e1 e2 e3 e4
  rw [hsm.2.1 21 (by decide)] at e2
  rw [hsm.2.1 20 (by decide)] at e4
  rw [hsm.2.1 17 (by decide), hsm.2.1 19 (by decide), hsm.2.2 22 (by decide)]
  obtain ⟨t1, t2, t3, t4, t5, t6, t7⟩ := p8 t e1 e2
  have h6 : gd (S.2.1 18) t ≤ 6 := by
    by_cases h6 : 6 < gd (S.2.1 18) t
    · have := t4 h6; omega
    · omega
  obtain ⟨q1, q2⟩ := t5 h6
  exact hmo _ _ q1 q2 (hI t j e1 e2 e3 e4)
/-- how prepare() ends -/
abbrev prQ (S : MS) : Option Value → MS → Prop := fun v S' => rBit v ∧ rSm S S' [] [25, 38, 39, 40] [37] ∧ mnB S' 326 ∧ chz S'
theorem r_prepare {w : Int} (hd : 2 ≤ d) (hw : inR w) (hn : nmOk S) (hC : csOk S) : RM l G d M_Mo_prepare [.ref o, .int (zI w)] o rf S (prQ S) := by
  obtain ⟨d, rfl⟩ : ∃ q, d = q + 1 := ⟨d - 1, by omega⟩
  intro H0 c n hR
  refine XM.of (by decide +kernel) (Nat.le_of_ble_eq_true rfl) ?_
  have hX : xonly H0 H0 RKs := xonly.rf
  obtain ⟨n1, n2, n3, n4⟩ := id hn
  obtain ⟨k1, k2, k3⟩ := id hC
  -- the places
  have l4 : ∀ (x : Int64) (w5 : Option Value) (S3 : MS), rSm S S3 [] [38, 39, 40] [37] → mnB S3 326 → chz S3 → (∀ q : Int, 0 ≤ q → q < S.1 11 → bitC w q → inS S3 q) → ∀ (K : Nat) (us : List Int) (q : Int), 0 ≤ q → q ≤ S.1 11 → S.1 11 - q ≤ K → RX l G M_Mo_prepare (d + 1) 160 [some (.ref o), some (.int (zI w)), some (.long x), none, some (.int (zI q)), w5] [] H0 o rf c n (sa S3 25 us) (prQ S) := by
    intro x w5 S3 hsm hm hz hI
    have e11 := hsm.1 11 (by decide)
    have fin : ∀ (us : List Int), rSm S (sa S3 25 us) [] [25, 38, 39, 40] [37] := fun us => (hsm.mono (by decide) (by decide) (by decide)).sa (by decide)
    intro K
    induction K with
    | zero =>
      intro us q h0 h1 hK h hR hX
      refine x_iload d_Mo_prepare_160 rfl ?_
      refine x_aload_n d_Mo_prepare_162 rfl rfl ?_
      refine x_get xf_Mo_268_Mo (Or.inl hR.1) (v := .int (zI (S3.1 11))) rfl d_Mo_prepare_163 ?_
      have hb163 : inR (S3.1 11) := hR.2.2.2 11
      refine z_icmp_ge (tgt := 191) d_Mo_prepare_166 (by decide) (by omega) (by omega) (fun _ => ?_) (fun hq => by omega)
      refine x_lload_n d_Mo_prepare_191 rfl ?_
      refine x_ldc2 (v := 20000) xw_1514 d_Mo_prepare_192 ?_
      refine x_lcmp d_Mo_prepare_195 (x_zi ?_)
      have hr195 := inR_ti (lg_cmp x 20000)
      refine z_if_gt (tgt := 203) d_Mo_prepare_196 (by decide) (by omega) (fun hc196 => ?_) (fun hc196 => ?_)
      · refine x_iconst (v := zI 0) d_Mo_prepare_203 (by decide) ?_
        refine x_zret d_Mo_prepare_204 rfl (z_nb (by omega)) ?_
        exact ⟨_, hR, hX, rfl, rfl, ⟨_, rfl, by omega⟩, fin us, hm, hz⟩
      · refine x_iconst (v := zI 1) d_Mo_prepare_199 (by decide) ?_
        refine x_goto (tgt := 204) d_Mo_prepare_200 (by decide) ?_
        refine x_zret d_Mo_prepare_204 rfl (z_nb (by omega)) ?_
        exact ⟨_, hR, hX, rfl, rfl, ⟨_, rfl, by omega⟩, fin us, hm, hz⟩
    | succ K ih =>
      intro us q h0 h1 hK h hR hX
      refine x_iload d_Mo_prepare_160 rfl ?_
      refine x_aload_n d_Mo_prepare_162 rfl rfl ?_
      refine x_get xf_Mo_268_Mo (Or.inl hR.1) (v := .int (zI (S3.1 11))) rfl d_Mo_prepare_163 ?_
      have hb163 : inR (S3.1 11) := hR.2.2.2 11
      refine z_icmp_ge (tgt := 191) d_Mo_prepare_166 (by decide) (by omega) (by omega) (fun hc166 => ?_) (fun hc166 => ?_)
      · refine x_lload_n d_Mo_prepare_191 rfl ?_
        refine x_ldc2 (v := 20000) xw_1514 d_Mo_prepare_192 ?_
        refine x_lcmp d_Mo_prepare_195 (x_zi ?_)
        have hr195 := inR_ti (lg_cmp x 20000)
        refine z_if_gt (tgt := 203) d_Mo_prepare_196 (by decide) (by omega) (fun hc196 => ?_) (fun hc196 => ?_)
        · refine x_iconst (v := zI 0) d_Mo_prepare_203 (by decide) ?_
          refine x_zret d_Mo_prepare_204 rfl (z_nb (by omega)) ?_
          exact ⟨_, hR, hX, rfl, rfl, ⟨_, rfl, by omega⟩, fin us, hm, hz⟩
        · refine x_iconst (v := zI 1) d_Mo_prepare_199 (by decide) ?_
          refine x_goto (tgt := 204) d_Mo_prepare_200 (by decide) ?_
          refine x_zret d_Mo_prepare_204 rfl (z_nb (by omega)) ?_
          exact ⟨_, hR, hX, rfl, rfl, ⟨_, rfl, by omega⟩, fin us, hm, hz⟩
      · refine x_iload_n d_Mo_prepare_169 rfl ?_
        refine x_iload d_Mo_prepare_170 rfl ?_
        refine x_ishr d_Mo_prepare_172 (x_zi ?_)
        have hr172 := inR_ti (zI w >>> (zI q &&& 31))
        refine x_iconst (v := zI 1) d_Mo_prepare_173 (by decide) ?_
        refine x_iand d_Mo_prepare_174 (x_zi ?_)
        have hr174 := inR_ti (zI ((zI w >>> (zI q &&& 31)).toInt) &&& zI 1)
        refine x_iconst (v := zI 1) d_Mo_prepare_175 (by decide) ?_
        refine z_icmp_ne (tgt := 185) d_Mo_prepare_176 (by decide) (by omega) (by omega) (fun hc176 => ?_) (fun hc176 => ?_)
        · refine x_iinc (v := zI (q + 1)) (L' := [_, _, _, _, _, _]) d_Mo_prepare_185 rfl (zI_add _ _) rfl rfl ?_
          refine x_goto (tgt := 160) d_Mo_prepare_188 (by decide) ?_
          first | exact ih us182 (q + 1) (by omega) (by omega) (by omega) _ (by rw [sa_sa] at hR; exact hR) hX | exact ih us (q + 1) (by omega) (by omega) (by omega) _ hR hX
        · refine x_aload_n d_Mo_prepare_179 rfl rfl ?_
          refine x_iload d_Mo_prepare_180 rfl ?_
          refine x_callV (As := [_]) (k := k_MarkerTextModel) rfl xcv_Mo_299_Mo (Or.inl hR.1) (RM.ap hR (r_locate (S := sa S3 25 us) (by omega) ((k3 q h0 (by omega)).agr (agr.sm (fin us) (by decide))) (by exact fun q h0 h6 => by have := hm q h0 h6; exact ⟨this.1, by have := this.2; show gd (S3.2.1 38) q ≤ 328; omega⟩) (by exact hI q h0 (by omega) hc176))) rfl rfl (Nat.le_of_ble_eq_true rfl) d_Mo_prepare_182 ?_
          rintro v182 h cq nq ⟨S182, hR, hX182, rfl, rfl, us182, rfl, rfl⟩
          replace hX := hX.tr hX182
          refine x_iinc (v := zI (q + 1)) (L' := [_, _, _, _, _, _]) d_Mo_prepare_185 rfl (zI_add _ _) rfl rfl ?_
          refine x_goto (tgt := 160) d_Mo_prepare_188 (by decide) ?_
          first | exact ih us182 (q + 1) (by omega) (by omega) (by omega) _ (by rw [sa_sa] at hR; exact hR) hX | exact ih us (q + 1) (by omega) (by omega) (by omega) _ hR hX
  -- the known VALUES
  have l3 : ∀ (K : Nat) (S3 : MS) (x : Int64) (q : Int) (w5 : Option Value), rSm S S3 [] [38, 39, 40] [37] → (∀ a : Int, 0 ≤ a → a < 6 → 0 ≤ gd (S3.2.1 38) a ∧ gd (S3.2.1 38) a ≤ 320 + (if a < q then 6 else 0)) → chz S3 → (∀ a : Int, 0 ≤ a → a < S.1 11 → bitC w a → inS S3 a) → 0 ≤ q → q ≤ S.1 3 → S.1 3 - q ≤ K → RX l G M_Mo_prepare (d + 1) 70 [some (.ref o), some (.int (zI w)), some (.long x), none, some (.int (zI q)), w5] [] H0 o rf c n S3 (prQ S) := by
    have go : ∀ (S3 : MS) (q : Int), (∀ a : Int, 0 ≤ a → a < 6 → 0 ≤ gd (S3.2.1 38) a ∧ gd (S3.2.1 38) a ≤ 320 + (if a < q then 6 else 0)) → mnB S3 326 := fun S3 q hb a h0 h6 => by
      have := hb a h0 h6
      split at this <;> omega
    intro K
    induction K with
    | zero =>
      intro S3 x q w5 hsm hb hz hI h0 h1 hK h hR hX
      have e3 := hsm.1 3 (by decide)
      have e11 := hsm.1 11 (by decide)
      refine x_iload d_Mo_prepare_70 rfl ?_
      refine x_aload_n d_Mo_prepare_72 rfl rfl ?_
      refine x_get xf_Mo_147_Mo (Or.inl hR.1) (v := .int (zI (S3.1 3))) rfl d_Mo_prepare_73 ?_
      have hb73 : inR (S3.1 3) := hR.2.2.2 3
      refine z_icmp_ge (tgt := 157) d_Mo_prepare_76 (by decide) (by omega) (by omega) (fun _ => ?_) (fun hq => by omega)
      refine x_iconst (v := zI 0) d_Mo_prepare_157 (by decide) ?_
      refine x_istore (L' := [_, _, _, _, _, _]) d_Mo_prepare_158 rfl rfl ?_
      exact l4 x w5 S3 hsm (go S3 q hb) hz hI 8 _ 0 (by omega) (by omega) (by omega) _ (by rw [sa_id (i := 25)]; exact hR) hX
    | succ K ih =>
      intro S3 x q w5 hsm hb hz hI h0 h1 hK h hR hX
      have e3 := hsm.1 3 (by decide)
      have e11 := hsm.1 11 (by decide)
      have e7 := hsm.2.1 7 (by decide)
      have j129 : ∀ (S4 : MS) (v5 : Int), q < S.1 3 → rSm S S4 [] [38, 39, 40] [37] → (∀ a : Int, 0 ≤ a → a < 6 → 0 ≤ gd (S4.2.1 38) a ∧ gd (S4.2.1 38) a ≤ 320 + (if a < q + 1 then 6 else 0)) → chz S4 → (∀ a : Int, 0 ≤ a → a < S.1 11 → bitC w a → inS S4 a) → RX l G M_Mo_prepare (d + 1) 129 [some (.ref o), some (.int (zI w)), some (.long x), none, some (.int (zI q)), some (.int (zI v5))] [] H0 o rf c n S4 (prQ S) := by
        intro S4 v5 hq4 hsm4 hb4 hz4 hI4 h hR hX
        have hm4 : mnB S4 328 := fun a h0 h6 => by
          have := go S4 (q + 1) hb4 a h0 h6
          omega
        refine x_lload_n d_Mo_prepare_129 rfl ?_
        refine x_ldc2 (v := 20000) xw_1514 d_Mo_prepare_130 ?_
        refine x_lcmp d_Mo_prepare_133 (x_zi ?_)
        have hr133 := inR_ti (lg_cmp x 20000)
        refine z_if_le (tgt := 141) d_Mo_prepare_134 (by decide) (by omega) (fun hc134 => ?_) (fun hc134 => ?_)
        · refine x_lload_n d_Mo_prepare_141 rfl ?_
          refine x_aload_n d_Mo_prepare_142 rfl rfl ?_
          refine x_iload d_Mo_prepare_143 rfl ?_
          refine x_callV (As := [_]) (k := k_MarkerTextModel) rfl xcv_Mo_296_Mo (Or.inl hR.1) (RM.ap hR (r_samples h0 (by omega) hm4)) rfl rfl (Nat.le_of_ble_eq_true rfl) d_Mo_prepare_145 ?_
          rintro v145 h cq nq ⟨S145, hR, hX145, rfl, rfl, hE145, rfl⟩
          replace hE145 := Eq.symm hE145
          subst hE145
          replace hX := hX.tr hX145
          refine x_i2l d_Mo_prepare_148 ?_
          refine x_lmul d_Mo_prepare_149 ?_
          refine x_lstore_n (L' := [_, _, _, _, _, _]) d_Mo_prepare_150 rfl rfl ?_
          refine x_iinc (v := zI (q + 1)) (L' := [_, _, _, _, _, _]) d_Mo_prepare_151 rfl (zI_add _ _) rfl rfl ?_
          refine x_goto (tgt := 70) d_Mo_prepare_154 (by decide) ?_
          exact ih S4 _ (q + 1) _ hsm4 hb4 hz4 hI4 (by omega) (by omega) (by omega) _ hR hX
        · refine x_lload_n d_Mo_prepare_137 rfl ?_
          refine x_goto (tgt := 150) d_Mo_prepare_138 (by decide) ?_
          refine x_lstore_n (L' := [_, _, _, _, _, _]) d_Mo_prepare_150 rfl rfl ?_
          refine x_iinc (v := zI (q + 1)) (L' := [_, _, _, _, _, _]) d_Mo_prepare_151 rfl (zI_add _ _) rfl rfl ?_
          refine x_goto (tgt := 70) d_Mo_prepare_154 (by decide) ?_
          exact ih S4 _ (q + 1) _ hsm4 hb4 hz4 hI4 (by omega) (by omega) (by omega) _ hR hX
      have l82 : q < S.1 3 → ∀ (K2 : Nat) (S4 : MS) (k : Int), 0 ≤ k → k ≤ 6 → rSm S S4 [] [38, 39, 40] [37] → (∀ a : Int, 0 ≤ a → a < 6 → 0 ≤ gd (S4.2.1 38) a ∧ gd (S4.2.1 38) a ≤ 320 + (if a < q then 6 else if a = q then k else 0)) → chz S4 → (∀ a : Int, 0 ≤ a → a < S.1 11 → bitC w a → inS S4 a) → 6 - k ≤ K2 → RX l G M_Mo_prepare (d + 1) 82 [some (.ref o), some (.int (zI w)), some (.long x), none, some (.int (zI q)), some (.int (zI k))] [] H0 o rf c n S4 (prQ S) := by
        intro hq4 K2
        have hkm := n4 q h0 (by omega)
        have ex : ∀ (S4 : MS) (k : Int), k ≤ 6 → (∀ a : Int, 0 ≤ a → a < 6 → 0 ≤ gd (S4.2.1 38) a ∧ gd (S4.2.1 38) a ≤ 320 + (if a < q then 6 else if a = q then k else 0)) → ∀ a : Int, 0 ≤ a → a < 6 → 0 ≤ gd (S4.2.1 38) a ∧ gd (S4.2.1 38) a ≤ 320 + (if a < q + 1 then 6 else 0) := fun S4 k hk hb a h0 h6 => by
          have := hb a h0 h6
          by_cases ha : a < q
          · rw [if_pos ha] at this
            rw [if_pos (by omega)]
            exact this
          · rw [if_neg ha] at this
            by_cases ha2 : a = q
            · rw [if_pos ha2] at this
              rw [if_pos (by omega)]
              omega
            · rw [if_neg ha2] at this
              rw [if_neg (by omega)]
              exact this
        induction K2 with
        | zero =>
          intro S4 k hk0 hk6 hsm4 hb4 hz4 hI4 hK2 h hR hX
          have e7 := hsm4.2.1 7 (by decide)
          refine x_iload d_Mo_prepare_82 rfl ?_
          refine x_aload_n d_Mo_prepare_84 rfl rfl ?_
          refine x_get xf_Mo_22_Mo (Or.inl hR.1) (v := .ref (rf 7)) rfl d_Mo_prepare_85 ?_
          refine x_iload d_Mo_prepare_88 rfl ?_
          refine r_iald (i := 7) (us := (S4.2.1 7)) rfl (by decide) hR rfl (by omega) (by show q < 6; omega) d_Mo_prepare_90 (fun hr90 => ?_)
          rw [e7] at *
          refine z_icmp_ge (tgt := 129) d_Mo_prepare_91 (by decide) (by omega) (by omega) (fun _ => ?_) (fun hq => by omega)
          exact j129 S4 k hq4 hsm4 (ex S4 k hk6 hb4) hz4 hI4 _ hR hX
        | succ K2 ih2 =>
          intro S4 k hk0 hk6 hsm4 hb4 hz4 hI4 hK2 h hR hX
          have e7 := hsm4.2.1 7 (by decide)
          have hm4 : mnB S4 328 := fun a h0 h6 => by
            have := go S4 (q + 1) (ex S4 k hk6 hb4) a h0 h6
            omega
          refine x_iload d_Mo_prepare_82 rfl ?_
          refine x_aload_n d_Mo_prepare_84 rfl rfl ?_
          refine x_get xf_Mo_22_Mo (Or.inl hR.1) (v := .ref (rf 7)) rfl d_Mo_prepare_85 ?_
          refine x_iload d_Mo_prepare_88 rfl ?_
          refine r_iald (i := 7) (us := (S4.2.1 7)) rfl (by decide) hR rfl (by omega) (by show q < 6; omega) d_Mo_prepare_90 (fun hr90 => ?_)
          rw [e7] at *
          refine z_icmp_ge (tgt := 129) d_Mo_prepare_91 (by decide) (by omega) (by omega) (fun hc91 => ?_) (fun hc91 => ?_)
          · exact j129 S4 k hq4 hsm4 (ex S4 k hk6 hb4) hz4 hI4 _ hR hX
          · refine x_aload_n d_Mo_prepare_94 rfl rfl ?_
            refine x_get xf_Mo_97_Mo (Or.inl hR.1) (v := .ref (rf 39)) rfl d_Mo_prepare_95 ?_
            refine x_iload d_Mo_prepare_98 rfl ?_
            refine r_zald (i := 39) (us := (S4.2.1 39)) ⟨rfl, rfl⟩ (by decide) hR rfl (by omega) (by show q < 6; omega) d_Mo_prepare_100 (fun hr100 => ?_)
            refine z_if_eq (tgt := 129) d_Mo_prepare_101 (by decide) (by omega) (fun hc101 => ?_) (fun hc101 => ?_)
            · exact j129 S4 k hq4 hsm4 (ex S4 k hk6 hb4) hz4 hI4 _ hR hX
            · refine x_aload_n d_Mo_prepare_104 rfl rfl ?_
              refine x_iload d_Mo_prepare_105 rfl ?_
              refine x_aload_n d_Mo_prepare_107 rfl rfl ?_
              refine x_get xf_Mo_25_Mo (Or.inl hR.1) (v := .ref (rf 8)) rfl d_Mo_prepare_108 ?_
              refine x_bipush (v := zI 6) d_Mo_prepare_111 (by decide) ?_
              refine x_iload d_Mo_prepare_113 rfl ?_
              refine z_imul d_Mo_prepare_115 ?_
              refine x_iload d_Mo_prepare_116 rfl ?_
              refine z_iadd d_Mo_prepare_118 ?_
              refine r_lald (i := 8) (us := (S4.2.2.1 8)) rfl (by decide) hR rfl (by omega) (by show 6 * q + k < 36; omega) d_Mo_prepare_119 ?_
              refine x_callV (As := [_, _]) (k := k_MarkerTextModel) rfl xcv_Mo_287_Mo (Or.inl hR.1) (RM.ap hR (r_sort (by omega) hm4)) rfl rfl (Nat.le_of_ble_eq_true rfl) d_Mo_prepare_120 ?_
              rintro v120 h cq nq ⟨S120, hR, hX120, rfl, rfl, rfl, hsm120, hb120, hme120, hmo120⟩
              replace hX := hX.tr hX120
              refine x_iinc (v := zI (k + 1)) (L' := [_, _, _, _, _, _]) d_Mo_prepare_123 rfl (zI_add _ _) rfl rfl ?_
              refine x_goto (tgt := 82) d_Mo_prepare_126 (by decide) ?_
              refine ih2 S120 (k + 1) (by omega) (by omega) (hsm4.tr (hsm120.mono (by decide) (by decide) (by decide))) (fun a h0 h6 => ?_) (fun a h0 h6 => by rw [hsm120.2.1 40 (by decide)]; exact hz4 a h0 h6) (fun a h0 h6 hb => (hI4 a h0 h6 hb).up (js := []) ((k3 a h0 h6).agr (agr.sm hsm4 (by decide))) (hsm120.mono (by decide) (by decide) (by decide)) hmo120) (by omega) _ hR hX
              have b1 := hb4 a h0 h6
              have b2 := hb120 a h0 h6
              by_cases ha : a < q
              · rw [if_pos ha] at b1 ⊢
                rw [if_neg (by omega)] at b2
                omega
              · rw [if_neg ha] at b1 ⊢
                by_cases ha2 : a = q
                · rw [if_pos ha2] at b1 b2 ⊢
                  omega
                · rw [if_neg ha2] at b1 b2 ⊢
                  omega
      refine x_iload d_Mo_prepare_70 rfl ?_
      refine x_aload_n d_Mo_prepare_72 rfl rfl ?_
      refine x_get xf_Mo_147_Mo (Or.inl hR.1) (v := .int (zI (S3.1 3))) rfl d_Mo_prepare_73 ?_
      have hb73 : inR (S3.1 3) := hR.2.2.2 3
      refine z_icmp_ge (tgt := 157) d_Mo_prepare_76 (by decide) (by omega) (by omega) (fun hc76 => ?_) (fun hc76 => ?_)
      · refine x_iconst (v := zI 0) d_Mo_prepare_157 (by decide) ?_
        refine x_istore (L' := [_, _, _, _, _, _]) d_Mo_prepare_158 rfl rfl ?_
        exact l4 x w5 S3 hsm (go S3 q hb) hz hI 8 _ 0 (by omega) (by omega) (by omega) _ (by rw [sa_id (i := 25)]; exact hR) hX
      · refine x_iconst (v := zI 0) d_Mo_prepare_79 (by decide) ?_
        refine x_istore (L' := [_, _, _, _, _, _]) d_Mo_prepare_80 rfl rfl ?_
        exact l82 (by omega) 6 S3 0 (by omega) (by omega) hsm (fun a h0 h6 => by
          have := hb a h0 h6
          by_cases ha : a < q
          · rw [if_pos ha] at this ⊢
            exact this
          · rw [if_neg ha] at this ⊢
            split <;> exact this) hz hI (by omega) _ hR hX
  -- the tests
  have l2 : ∀ (K : Nat) (S2 : MS) (q : Int) (w3 w4 w5 : Option Value), rSm S S2 [] [38, 39, 40] [37] → mnB S2 (40 * q) → chz S2 → (∀ a : Int, 0 ≤ a → a < q → bitC w a → inS S2 a) → 0 ≤ q → q ≤ S.1 11 → S.1 11 - q ≤ K → RX l G M_Mo_prepare (d + 1) 37 [some (.ref o), some (.int (zI w)), some (.int (zI q)), w3, w4, w5] [] H0 o rf c n S2 (prQ S) := by
    have out : ∀ (S2 : MS) (q : Int) (w5 : Option Value), rSm S S2 [] [38, 39, 40] [37] → mnB S2 (40 * q) → chz S2 → (∀ a : Int, 0 ≤ a → a < q → bitC w a → inS S2 a) → q = S.1 11 → RX l G M_Mo_prepare (d + 1) 70 [some (.ref o), some (.int (zI w)), some (.long 1), none, some (.int (zI 0)), w5] [] H0 o rf c n S2 (prQ S) := fun S2 q w5 hsm hm hz hI he => l3 6 S2 1 0 w5 hsm (fun a h0 h6 => by
      have := hm a h0 h6
      rw [if_neg (by omega)]
      omega) hz (fun a h0 h1 hb => hI a h0 (by omega) hb) (by omega) n1 (by omega)
    intro K
    induction K with
    | zero =>
      intro S2 q w3 w4 w5 hsm hm hz hI h0 h1 hK h hR hX
      have e11 := hsm.1 11 (by decide)
      refine x_iload_n d_Mo_prepare_37 rfl ?_
      refine x_aload_n d_Mo_prepare_38 rfl rfl ?_
      refine x_get xf_Mo_268_Mo (Or.inl hR.1) (v := .int (zI (S2.1 11))) rfl d_Mo_prepare_39 ?_
      have hb39 : inR (S2.1 11) := hR.2.2.2 11
      refine z_icmp_ge (tgt := 65) d_Mo_prepare_42 (by decide) (by omega) (by omega) (fun _ => ?_) (fun hq => by omega)
      refine x_lconst (v := 1) d_Mo_prepare_65 (by decide) ?_
      refine x_lstore_n (L' := [_, _, _, _, _, _]) d_Mo_prepare_66 rfl rfl ?_
      refine x_iconst (v := zI 0) d_Mo_prepare_67 (by decide) ?_
      refine x_istore (L' := [_, _, _, _, _, _]) d_Mo_prepare_68 rfl rfl ?_
      exact out S2 q w5 hsm hm hz hI (by omega) _ hR hX
    | succ K ih =>
      intro S2 q w3 w4 w5 hsm hm hz hI h0 h1 hK h hR hX
      have e11 := hsm.1 11 (by decide)
      refine x_iload_n d_Mo_prepare_37 rfl ?_
      refine x_aload_n d_Mo_prepare_38 rfl rfl ?_
      refine x_get xf_Mo_268_Mo (Or.inl hR.1) (v := .int (zI (S2.1 11))) rfl d_Mo_prepare_39 ?_
      have hb39 : inR (S2.1 11) := hR.2.2.2 11
      refine z_icmp_ge (tgt := 65) d_Mo_prepare_42 (by decide) (by omega) (by omega) (fun hc42 => ?_) (fun hc42 => ?_)
      · refine x_lconst (v := 1) d_Mo_prepare_65 (by decide) ?_
        refine x_lstore_n (L' := [_, _, _, _, _, _]) d_Mo_prepare_66 rfl rfl ?_
        refine x_iconst (v := zI 0) d_Mo_prepare_67 (by decide) ?_
        refine x_istore (L' := [_, _, _, _, _, _]) d_Mo_prepare_68 rfl rfl ?_
        exact out S2 q w5 hsm hm hz hI (by omega) _ hR hX
      · refine x_iload_n d_Mo_prepare_45 rfl ?_
        refine x_iload_n d_Mo_prepare_46 rfl ?_
        refine x_ishr d_Mo_prepare_47 (x_zi ?_)
        have hr47 := inR_ti (zI w >>> (zI q &&& 31))
        refine x_iconst (v := zI 1) d_Mo_prepare_48 (by decide) ?_
        refine x_iand d_Mo_prepare_49 (x_zi ?_)
        have hr49 := inR_ti (zI ((zI w >>> (zI q &&& 31)).toInt) &&& zI 1)
        refine x_iconst (v := zI 1) d_Mo_prepare_50 (by decide) ?_
        refine z_icmp_ne (tgt := 59) d_Mo_prepare_51 (by decide) (by omega) (by omega) (fun hc51 => ?_) (fun hc51 => ?_)
        · refine x_iinc (v := zI (q + 1)) (L' := [_, _, _, _, _, _]) d_Mo_prepare_59 rfl (zI_add _ _) rfl rfl ?_
          refine x_goto (tgt := 37) d_Mo_prepare_62 (by decide) ?_
          first | exact ih S56 (q + 1) _ _ _ (hsm.tr (hsm56.mono (by decide) (by decide) (by decide))) (fun a h0 h6 => by have b1 := hm a h0 h6; have b2 := hb56 a h0 h6; omega) (fun a h0 h6 => by rw [hsm56.2.1 40 (by decide)]; exact hz a h0 h6) (fun a h0 h6 hb => if hq : a = q then by rw [hq]; exact hi56 else (hI a h0 (by omega) hb).up (js := []) ((k3 a h0 (by omega)).agr (agr.sm hsm (by decide))) (hsm56.mono (by decide) (by decide) (by decide)) hmo56) (by omega) (by omega) (by omega) _ hR hX | exact ih S2 (q + 1) _ _ _ hsm (fun a h0 h6 => by have b1 := hm a h0 h6; omega) hz (fun a h0 h6 hb => if hq : a = q then by rw [hq] at hb; exact absurd hb hc51 else hI a h0 (by omega) hb) (by omega) (by omega) (by omega) _ hR hX
        · refine x_aload_n d_Mo_prepare_54 rfl rfl ?_
          refine x_iload_n d_Mo_prepare_55 rfl ?_
          refine x_callV (As := [_]) (k := k_MarkerTextModel) rfl xcv_Mo_291_Mo (Or.inl hR.1) (RM.ap hR (r_gather (by omega) (by omega) ((k3 q h0 (by omega)).agr (agr.sm hsm (by decide))) (fun a h0 h6 => by have := hm a h0 h6; omega))) rfl rfl (Nat.le_of_ble_eq_true rfl) d_Mo_prepare_56 ?_
          rintro v56 h cq nq ⟨S56, hR, hX56, rfl, rfl, rfl, hsm56, hb56, hi56, hmo56⟩
          replace hX := hX.tr hX56
          refine x_iinc (v := zI (q + 1)) (L' := [_, _, _, _, _, _]) d_Mo_prepare_59 rfl (zI_add _ _) rfl rfl ?_
          refine x_goto (tgt := 37) d_Mo_prepare_62 (by decide) ?_
          first | exact ih S56 (q + 1) _ _ _ (hsm.tr (hsm56.mono (by decide) (by decide) (by decide))) (fun a h0 h6 => by have b1 := hm a h0 h6; have b2 := hb56 a h0 h6; omega) (fun a h0 h6 => by rw [hsm56.2.1 40 (by decide)]; exact hz a h0 h6) (fun a h0 h6 hb => if hq : a = q then by rw [hq]; exact hi56 else (hI a h0 (by omega) hb).up (js := []) ((k3 a h0 (by omega)).agr (agr.sm hsm (by decide))) (hsm56.mono (by decide) (by decide) (by decide)) hmo56) (by omega) (by omega) (by omega) _ hR hX | exact ih S2 (q + 1) _ _ _ hsm (fun a h0 h6 => by have b1 := hm a h0 h6; omega) hz (fun a h0 h6 hb => if hq : a = q then by rw [hq] at hb; exact absurd hb hc51 else hI a h0 (by omega) hb) (by omega) (by omega) (by omega) _ hR hX
  -- nothing yet
  have l1 : ∀ (K : Nat) (S1 : MS) (q : Int) (w3 w4 w5 : Option Value), rSm S S1 [] [38, 39, 40] [37] → (∀ a : Int, 0 ≤ a → a < q → gd (S1.2.1 38) a = 0 ∧ gd (S1.2.1 40) a = 0) → 0 ≤ q → q ≤ 6 → 6 - q ≤ K → RX l G M_Mo_prepare (d + 1) 2 [some (.ref o), some (.int (zI w)), some (.int (zI q)), w3, w4, w5] [] H0 o rf c n S1 (prQ S) := by
    intro K
    induction K with
    | zero =>
      intro S1 q w3 w4 w5 hsm hz h0 h6 hK h hR hX
      refine x_iload_n d_Mo_prepare_2 rfl ?_
      refine x_bipush (v := zI 6) d_Mo_prepare_3 (by decide) ?_
      refine z_icmp_ge (tgt := 35) d_Mo_prepare_5 (by decide) (by omega) (by omega) (fun _ => ?_) (fun hq => by omega)
      refine x_iconst (v := zI 0) d_Mo_prepare_35 (by decide) ?_
      refine x_istore_n (L' := [_, _, _, _, _, _]) d_Mo_prepare_36 rfl rfl ?_
      exact l2 8 S1 0 _ _ _ hsm (fun a q0 q6 => by have := hz a q0 (by omega); omega) (fun a q0 q6 => (hz a q0 (by omega)).2) (fun a q0 q6 => by omega) (by omega) (by omega) (by omega) _ hR hX
    | succ K ih =>
      intro S1 q w3 w4 w5 hsm hz h0 h6 hK h hR hX
      have l38 : _ = 6 := hR.len 38 (by decide)
      have l40 : _ = 6 := hR.len 40 (by decide)
      refine x_iload_n d_Mo_prepare_2 rfl ?_
      refine x_bipush (v := zI 6) d_Mo_prepare_3 (by decide) ?_
      refine z_icmp_ge (tgt := 35) d_Mo_prepare_5 (by decide) (by omega) (by omega) (fun hc5 => ?_) (fun hc5 => ?_)
      · refine x_iconst (v := zI 0) d_Mo_prepare_35 (by decide) ?_
        refine x_istore_n (L' := [_, _, _, _, _, _]) d_Mo_prepare_36 rfl rfl ?_
        exact l2 8 S1 0 _ _ _ hsm (fun a q0 q6 => by have := hz a q0 (by omega); omega) (fun a q0 q6 => (hz a q0 (by omega)).2) (fun a q0 q6 => by omega) (by omega) (by omega) (by omega) _ hR hX
      · refine x_aload_n d_Mo_prepare_8 rfl rfl ?_
        refine x_get xf_Mo_94_Mo (Or.inl hR.1) (v := .ref (rf 38)) rfl d_Mo_prepare_9 ?_
        refine x_iload_n d_Mo_prepare_12 rfl ?_
        refine x_iconst (v := zI 0) d_Mo_prepare_13 (by decide) ?_
        refine r_iast (i := 38) (us := (S1.2.1 38)) ⟨rfl, rfl⟩ (by decide) hR hX rfl (by omega) (by show q < 6; omega) (by omega) d_Mo_prepare_14 ?_
        intro h hR hX
        refine x_aload_n d_Mo_prepare_15 rfl rfl ?_
        refine x_get xf_Mo_97_Mo (Or.inl hR.1) (v := .ref (rf 39)) rfl d_Mo_prepare_16 ?_
        refine x_iload_n d_Mo_prepare_19 rfl ?_
        refine x_iconst (v := zI 0) d_Mo_prepare_20 (by decide) ?_
        refine r_zast (i := 39) (us := (S1.2.1 39)) rfl (by decide) hR hX rfl (by omega) (by show q < 6; omega) (by omega) d_Mo_prepare_21 ?_
        intro h hR hX
        refine x_aload_n d_Mo_prepare_22 rfl rfl ?_
        refine x_get xf_Mo_100_Mo (Or.inl hR.1) (v := .ref (rf 40)) rfl d_Mo_prepare_23 ?_
        refine x_iload_n d_Mo_prepare_26 rfl ?_
        refine x_iconst (v := zI 0) d_Mo_prepare_27 (by decide) ?_
        refine r_iast (i := 40) (us := (S1.2.1 40)) ⟨rfl, rfl⟩ (by decide) hR hX rfl (by omega) (by show q < 6; omega) (by omega) d_Mo_prepare_28 ?_
        intro h hR hX
        refine x_iinc (v := zI (q + 1)) (L' := [_, _, _, _, _, _]) d_Mo_prepare_29 rfl (zI_add _ _) rfl rfl ?_
        refine x_goto (tgt := 2) d_Mo_prepare_32 (by decide) ?_
        exact ih _ (q + 1) _ _ _ (((hsm.sa (by decide)).sa (by decide)).sa (by decide)) (fun a q0 q6 => by
          show gd (se (S1.2.1 38) q 0) a = 0 ∧ gd (se (S1.2.1 40) q 0) a = 0
          rw [gd_se_of l38 h0 (by omega) q0, gd_se_of l40 h0 (by omega) q0]
          by_cases hq : a = q
          · rw [if_pos hq, if_pos hq]; exact ⟨rfl, rfl⟩
          · rw [if_neg hq, if_neg hq]; exact hz a q0 (by omega)) (by omega) (by omega) (by omega) _ hR hX
  refine x_iconst (v := zI 0) d_Mo_prepare_0 (by decide) ?_
  refine x_istore_n (L' := [_, _, _, _, _, _]) d_Mo_prepare_1 rfl rfl ?_
  exact l1 6 S 0 _ _ _ rSm.r0 (fun a q0 q6 => by omega) (by omega) (by omega) (by omega) _ hR hX
end RF17
