section
abbrev y_MT_findChoice : MethodName := ⟨"MarkerText", "findChoice", "(II)I"⟩
abbrev M_MT_findChoice : XMt := (y_MT_findChoice, prog_1_method_20_code, 6, (some .int))
theorem d_MT_findChoice_0 : decode M_MT_findChoice.2.1 0 = .ok (.iload_n 1, 1) := by decide +kernel
theorem d_MT_findChoice_1 : decode M_MT_findChoice.2.1 1 = .ok (.iload_n 2, 1) := by decide +kernel
theorem d_MT_findChoice_2 : decode M_MT_findChoice.2.1 2 = .ok (.ior, 1) := by decide +kernel
theorem d_MT_findChoice_3 : decode M_MT_findChoice.2.1 3 = .ok (.istore_n 3, 1) := by decide +kernel
theorem d_MT_findChoice_4 : decode M_MT_findChoice.2.1 4 = .ok (.aload_n 0, 1) := by decide +kernel
theorem d_MT_findChoice_5 : decode M_MT_findChoice.2.1 5 = .ok (.getfield 45, 3) := by decide +kernel
theorem d_MT_findChoice_8 : decode M_MT_findChoice.2.1 8 = .ok (.aload_n 0, 1) := by decide +kernel
theorem d_MT_findChoice_9 : decode M_MT_findChoice.2.1 9 = .ok (.getfield 18, 3) := by decide +kernel
theorem d_MT_findChoice_12 : decode M_MT_findChoice.2.1 12 = .ok (.aload_n 0, 1) := by decide +kernel
theorem d_MT_findChoice_13 : decode M_MT_findChoice.2.1 13 = .ok (.getfield 28, 3) := by decide +kernel
theorem d_MT_findChoice_16 : decode M_MT_findChoice.2.1 16 = .ok (.iload_n 3, 1) := by decide +kernel
theorem d_MT_findChoice_17 : decode M_MT_findChoice.2.1 17 = .ok (.invokevirtual 165, 3) := by decide +kernel
theorem xw_317 : (Jvm.Cond.code ({ cls := "MarkerText$Choices", name := "layOut", desc := "([LMarkerText$Name;[LMarkerText$Condition;I)Z" } : Jvm.MethodName) prog_2_method_2_code (6 : Nat) (Option.some Jvm.ClassFile.FieldType.boolean)) ∈ xT := xT_at 317 (by decide +kernel) (by decide +kernel)
theorem xcb_Choices_layOut : xcb M_Choices_layOut 3 := ⟨xw_317, xw_6, by decide, by decide, by decide, by decide +kernel⟩
theorem xw_315 : (Jvm.Cond.instanceMethod ({ cls := "MarkerText$Choices", name := "layOut", desc := "([LMarkerText$Name;[LMarkerText$Condition;I)Z" } : Jvm.MethodName)) ∈ xT := xT_at 315 (by decide +kernel) (by decide +kernel)
theorem xw_314 : (Jvm.Cond.methodLink "MarkerText" (165 : Nat) ({ cls := "MarkerText$Choices", name := "layOut", desc := "([LMarkerText$Name;[LMarkerText$Condition;I)Z" } : Jvm.MethodName)) ∈ xT := xT_at 314 (by decide +kernel) (by decide +kernel)
theorem xw_316 : (Jvm.Cond.selects "MarkerText$Choices" ({ cls := "MarkerText$Choices", name := "layOut", desc := "([LMarkerText$Name;[LMarkerText$Condition;I)Z" } : Jvm.MethodName) ({ cls := "MarkerText$Choices", name := "layOut", desc := "([LMarkerText$Name;[LMarkerText$Condition;I)Z" } : Jvm.MethodName)) ∈ xT := xT_at 316 (by decide +kernel) (by decide +kernel)
theorem xcv_MT_165_Choices : xCV "MarkerText" 165 "MarkerText$Choices" M_Choices_layOut 3 := ⟨xcb_Choices_layOut, xw_315, Or.inl ⟨xw_314, Or.inl xw_316⟩⟩
theorem d_MT_findChoice_20 : decode M_MT_findChoice.2.1 20 = .ok (.ifCond .ne 5, 3) := by decide +kernel
theorem d_MT_findChoice_25 : decode M_MT_findChoice.2.1 25 = .ok (.iconst 0, 1) := by decide +kernel
theorem d_MT_findChoice_26 : decode M_MT_findChoice.2.1 26 = .ok (.istore 4, 2) := by decide +kernel
theorem d_MT_findChoice_28 : decode M_MT_findChoice.2.1 28 = .ok (.iload 4, 2) := by decide +kernel
theorem d_MT_findChoice_30 : decode M_MT_findChoice.2.1 30 = .ok (.aload_n 0, 1) := by decide +kernel
theorem d_MT_findChoice_31 : decode M_MT_findChoice.2.1 31 = .ok (.getfield 45, 3) := by decide +kernel
theorem d_MT_findChoice_34 : decode M_MT_findChoice.2.1 34 = .ok (.getfield 205, 3) := by decide +kernel
theorem xw_94 : (Jvm.Cond.fieldLinkNest "MarkerText" (205 : Nat) "MarkerText$Choices" "count" "I" "MarkerText") ∈ xT := xT_at 94 (by decide +kernel) (by decide +kernel)
theorem xf_MT_205_Choices : xF "MarkerText" 205 k_Choices 6 := ⟨_, _, _, "MarkerText$Choices", rfl, by decide, Or.inr ⟨_, xw_94⟩, Or.inl rfl⟩
theorem d_MT_findChoice_37 : decode M_MT_findChoice.2.1 37 = .ok (.if_icmp .ge 47, 3) := by decide +kernel
theorem d_MT_findChoice_84 : decode M_MT_findChoice.2.1 84 = .ok (.iconst 0, 1) := by decide +kernel
theorem d_MT_findChoice_85 : decode M_MT_findChoice.2.1 85 = .ok (.ireturn, 1) := by decide +kernel
theorem d_MT_findChoice_40 : decode M_MT_findChoice.2.1 40 = .ok (.aload_n 0, 1) := by decide +kernel
theorem d_MT_findChoice_41 : decode M_MT_findChoice.2.1 41 = .ok (.getfield 45, 3) := by decide +kernel
theorem d_MT_findChoice_44 : decode M_MT_findChoice.2.1 44 = .ok (.aload_n 0, 1) := by decide +kernel
theorem d_MT_findChoice_45 : decode M_MT_findChoice.2.1 45 = .ok (.getfield 28, 3) := by decide +kernel
theorem d_MT_findChoice_48 : decode M_MT_findChoice.2.1 48 = .ok (.iload_n 3, 1) := by decide +kernel
theorem d_MT_findChoice_49 : decode M_MT_findChoice.2.1 49 = .ok (.invokevirtual 206, 3) := by decide +kernel
theorem xw_352 : (Jvm.Cond.code ({ cls := "MarkerText$Choices", name := "truths", desc := "([LMarkerText$Condition;I)I" } : Jvm.MethodName) prog_2_method_8_code (5 : Nat) (Option.some Jvm.ClassFile.FieldType.int)) ∈ xT := xT_at 352 (by decide +kernel) (by decide +kernel)
theorem xcb_Choices_truths : xcb M_Choices_truths 2 := ⟨xw_352, xw_6, by decide, by decide, by decide, by decide +kernel⟩
theorem xw_350 : (Jvm.Cond.instanceMethod ({ cls := "MarkerText$Choices", name := "truths", desc := "([LMarkerText$Condition;I)I" } : Jvm.MethodName)) ∈ xT := xT_at 350 (by decide +kernel) (by decide +kernel)
theorem xw_349 : (Jvm.Cond.methodLink "MarkerText" (206 : Nat) ({ cls := "MarkerText$Choices", name := "truths", desc := "([LMarkerText$Condition;I)I" } : Jvm.MethodName)) ∈ xT := xT_at 349 (by decide +kernel) (by decide +kernel)
theorem xw_351 : (Jvm.Cond.selects "MarkerText$Choices" ({ cls := "MarkerText$Choices", name := "truths", desc := "([LMarkerText$Condition;I)I" } : Jvm.MethodName) ({ cls := "MarkerText$Choices", name := "truths", desc := "([LMarkerText$Condition;I)I" } : Jvm.MethodName)) ∈ xT := xT_at 351 (by decide +kernel) (by decide +kernel)
theorem xcv_MT_206_Choices : xCV "MarkerText" 206 "MarkerText$Choices" M_Choices_truths 2 := ⟨xcb_Choices_truths, xw_350, Or.inl ⟨xw_349, Or.inl xw_351⟩⟩
theorem d_MT_findChoice_71 : decode M_MT_findChoice.2.1 71 = .ok (.aload_n 0, 1) := by decide +kernel
theorem d_MT_findChoice_72 : decode M_MT_findChoice.2.1 72 = .ok (.getfield 45, 3) := by decide +kernel
theorem d_MT_findChoice_75 : decode M_MT_findChoice.2.1 75 = .ok (.invokevirtual 209, 3) := by decide +kernel
theorem xw_357 : (Jvm.Cond.code ({ cls := "MarkerText$Choices", name := "advance", desc := "()V" } : Jvm.MethodName) prog_2_method_6_code (3 : Nat) (Option.none : Option Jvm.ClassFile.FieldType)) ∈ xT := xT_at 357 (by decide +kernel) (by decide +kernel)
theorem xcb_Choices_advance : xcb M_Choices_advance 0 := ⟨xw_357, xw_6, by decide, by decide, by decide, by decide +kernel⟩
theorem xw_355 : (Jvm.Cond.instanceMethod ({ cls := "MarkerText$Choices", name := "advance", desc := "()V" } : Jvm.MethodName)) ∈ xT := xT_at 355 (by decide +kernel) (by decide +kernel)
theorem xw_354 : (Jvm.Cond.methodLink "MarkerText" (209 : Nat) ({ cls := "MarkerText$Choices", name := "advance", desc := "()V" } : Jvm.MethodName)) ∈ xT := xT_at 354 (by decide +kernel) (by decide +kernel)
theorem xw_356 : (Jvm.Cond.selects "MarkerText$Choices" ({ cls := "MarkerText$Choices", name := "advance", desc := "()V" } : Jvm.MethodName) ({ cls := "MarkerText$Choices", name := "advance", desc := "()V" } : Jvm.MethodName)) ∈ xT := xT_at 356 (by decide +kernel) (by decide +kernel)
theorem xcv_MT_209_Choices : xCV "MarkerText" 209 "MarkerText$Choices" M_Choices_advance 0 := ⟨xcb_Choices_advance, xw_355, Or.inl ⟨xw_354, Or.inl xw_356⟩⟩
theorem d_MT_findChoice_78 : decode M_MT_findChoice.2.1 78 = .ok (.iinc 4 1, 3) := by decide +kernel
theorem d_MT_findChoice_81 : decode M_MT_findChoice.2.1 81 = .ok (.goto (-53), 3) := by decide +kernel
theorem d_MT_findChoice_52 : decode M_MT_findChoice.2.1 52 = .ok (.istore 5, 2) := by decide +kernel
theorem d_MT_findChoice_54 : decode M_MT_findChoice.2.1 54 = .ok (.iload 5, 2) := by decide +kernel
theorem d_MT_findChoice_56 : decode M_MT_findChoice.2.1 56 = .ok (.iload_n 1, 1) := by decide +kernel
theorem d_MT_findChoice_57 : decode M_MT_findChoice.2.1 57 = .ok (.iand, 1) := by decide +kernel
theorem d_MT_findChoice_58 : decode M_MT_findChoice.2.1 58 = .ok (.iload_n 1, 1) := by decide +kernel
theorem d_MT_findChoice_59 : decode M_MT_findChoice.2.1 59 = .ok (.if_icmp .ne 12, 3) := by decide +kernel
theorem d_MT_findChoice_62 : decode M_MT_findChoice.2.1 62 = .ok (.iload 5, 2) := by decide +kernel
theorem d_MT_findChoice_64 : decode M_MT_findChoice.2.1 64 = .ok (.iload_n 2, 1) := by decide +kernel
theorem d_MT_findChoice_65 : decode M_MT_findChoice.2.1 65 = .ok (.iand, 1) := by decide +kernel
theorem d_MT_findChoice_66 : decode M_MT_findChoice.2.1 66 = .ok (.ifCond .ne 5, 3) := by decide +kernel
theorem d_MT_findChoice_69 : decode M_MT_findChoice.2.1 69 = .ok (.iconst 1, 1) := by decide +kernel
theorem d_MT_findChoice_70 : decode M_MT_findChoice.2.1 70 = .ok (.ireturn, 1) := by decide +kernel
theorem d_MT_findChoice_23 : decode M_MT_findChoice.2.1 23 = .ok (.iconst (-1), 1) := by decide +kernel
theorem d_MT_findChoice_24 : decode M_MT_findChoice.2.1 24 = .ok (.ireturn, 1) := by decide +kernel
abbrev y_MT_opposite : MethodName := ⟨"MarkerText", "opposite", "(I)I"⟩
abbrev M_MT_opposite : XMt := (y_MT_opposite, prog_1_method_21_code, 1, (some .int))
theorem d_MT_opposite_0 : decode M_MT_opposite.2.1 0 = .ok (.iload_n 0, 1) := by decide +kernel
theorem d_MT_opposite_1 : decode M_MT_opposite.2.1 1 = .ok (.iconst (-1), 1) := by decide +kernel
theorem d_MT_opposite_2 : decode M_MT_opposite.2.1 2 = .ok (.if_icmp .ne 7, 3) := by decide +kernel
theorem d_MT_opposite_5 : decode M_MT_opposite.2.1 5 = .ok (.iconst (-1), 1) := by decide +kernel
theorem d_MT_opposite_6 : decode M_MT_opposite.2.1 6 = .ok (.goto 6, 3) := by decide +kernel
theorem d_MT_opposite_12 : decode M_MT_opposite.2.1 12 = .ok (.ireturn, 1) := by decide +kernel
theorem d_MT_opposite_9 : decode M_MT_opposite.2.1 9 = .ok (.iconst 1, 1) := by decide +kernel
theorem d_MT_opposite_10 : decode M_MT_opposite.2.1 10 = .ok (.iload_n 0, 1) := by decide +kernel
theorem d_MT_opposite_11 : decode M_MT_opposite.2.1 11 = .ok (.isub, 1) := by decide +kernel
theorem d_MT_ever_10 : decode M_MT_ever.2.1 10 = .ok (.aload_n 0, 1) := by decide +kernel
theorem d_MT_ever_11 : decode M_MT_ever.2.1 11 = .ok (.iconst 1, 1) := by decide +kernel
theorem d_MT_ever_12 : decode M_MT_ever.2.1 12 = .ok (.iload_n 1, 1) := by decide +kernel
theorem d_MT_ever_13 : decode M_MT_ever.2.1 13 = .ok (.ishl, 1) := by decide +kernel
theorem d_MT_ever_14 : decode M_MT_ever.2.1 14 = .ok (.iconst 0, 1) := by decide +kernel
theorem d_MT_ever_15 : decode M_MT_ever.2.1 15 = .ok (.invokevirtual 157, 3) := by decide +kernel
theorem xw_313 : (Jvm.Cond.code ({ cls := "MarkerText", name := "findChoice", desc := "(II)I" } : Jvm.MethodName) prog_1_method_20_code (6 : Nat) (Option.some Jvm.ClassFile.FieldType.int)) ∈ xT := xT_at 313 (by decide +kernel) (by decide +kernel)
theorem xcb_MT_findChoice : xcb M_MT_findChoice 2 := ⟨xw_313, xw_1, by decide, by decide, by decide, by decide +kernel⟩
theorem xw_312 : (Jvm.Cond.instanceMethod ({ cls := "MarkerText", name := "findChoice", desc := "(II)I" } : Jvm.MethodName)) ∈ xT := xT_at 312 (by decide +kernel) (by decide +kernel)
theorem xw_310 : (Jvm.Cond.methodLink "MarkerText" (157 : Nat) ({ cls := "MarkerText", name := "findChoice", desc := "(II)I" } : Jvm.MethodName)) ∈ xT := xT_at 310 (by decide +kernel) (by decide +kernel)
theorem xsel_MT_findChoice : Cond.selects "MarkerText" y_MT_findChoice y_MT_findChoice ∈ xT := xT_sel (q := (y_MT_findChoice, 9)) (by decide +kernel) (by decide +kernel)
theorem xcv_MT_157_MT : xCV "MarkerText" 157 "MarkerText" M_MT_findChoice 2 := ⟨xcb_MT_findChoice, xw_312, Or.inl ⟨xw_310, Or.inl xsel_MT_findChoice⟩⟩
theorem d_MT_ever_18 : decode M_MT_ever.2.1 18 = .ok (.ireturn, 1) := by decide +kernel
theorem d_MT_implies_8 : decode M_MT_implies.2.1 8 = .ok (.aload_n 0, 1) := by decide +kernel
theorem d_MT_implies_9 : decode M_MT_implies.2.1 9 = .ok (.iload_n 2, 1) := by decide +kernel
theorem d_MT_implies_10 : decode M_MT_implies.2.1 10 = .ok (.invokevirtual 143, 3) := by decide +kernel
theorem d_MT_implies_13 : decode M_MT_implies.2.1 13 = .ok (.ifnonnull 5, 3) := by decide +kernel
theorem d_MT_implies_18 : decode M_MT_implies.2.1 18 = .ok (.aload_n 0, 1) := by decide +kernel
theorem d_MT_implies_19 : decode M_MT_implies.2.1 19 = .ok (.iconst 1, 1) := by decide +kernel
theorem d_MT_implies_20 : decode M_MT_implies.2.1 20 = .ok (.iload_n 1, 1) := by decide +kernel
theorem d_MT_implies_21 : decode M_MT_implies.2.1 21 = .ok (.ishl, 1) := by decide +kernel
theorem d_MT_implies_22 : decode M_MT_implies.2.1 22 = .ok (.iconst 1, 1) := by decide +kernel
theorem d_MT_implies_23 : decode M_MT_implies.2.1 23 = .ok (.iload_n 2, 1) := by decide +kernel
theorem d_MT_implies_24 : decode M_MT_implies.2.1 24 = .ok (.ishl, 1) := by decide +kernel
theorem d_MT_implies_25 : decode M_MT_implies.2.1 25 = .ok (.invokevirtual 157, 3) := by decide +kernel
theorem d_MT_implies_28 : decode M_MT_implies.2.1 28 = .ok (.invokestatic 161, 3) := by decide +kernel
theorem xw_369 : (Jvm.Cond.code ({ cls := "MarkerText", name := "opposite", desc := "(I)I" } : Jvm.MethodName) prog_1_method_21_code (1 : Nat) (Option.some Jvm.ClassFile.FieldType.int)) ∈ xT := xT_at 369 (by decide +kernel) (by decide +kernel)
theorem xcb_MT_opposite : xcb M_MT_opposite 1 := ⟨xw_369, xw_1, by decide, by decide, by decide, by decide +kernel⟩
theorem xw_367 : (Jvm.Cond.methodLink "MarkerText" (161 : Nat) ({ cls := "MarkerText", name := "opposite", desc := "(I)I" } : Jvm.MethodName)) ∈ xT := xT_at 367 (by decide +kernel) (by decide +kernel)
theorem xw_368 : (Jvm.Cond.static ({ cls := "MarkerText", name := "opposite", desc := "(I)I" } : Jvm.MethodName)) ∈ xT := xT_at 368 (by decide +kernel) (by decide +kernel)
theorem xcs_MT_161 : xCS "MarkerText" 161 M_MT_opposite 1 := ⟨xcb_MT_opposite, xw_368, Or.inl xw_367⟩
theorem d_MT_implies_31 : decode M_MT_implies.2.1 31 = .ok (.ireturn, 1) := by decide +kernel
theorem d_MT_apart_8 : decode M_MT_apart.2.1 8 = .ok (.aload_n 0, 1) := by decide +kernel
theorem d_MT_apart_9 : decode M_MT_apart.2.1 9 = .ok (.iload_n 2, 1) := by decide +kernel
theorem d_MT_apart_10 : decode M_MT_apart.2.1 10 = .ok (.invokevirtual 143, 3) := by decide +kernel
theorem d_MT_apart_13 : decode M_MT_apart.2.1 13 = .ok (.ifnonnull 5, 3) := by decide +kernel
theorem d_MT_apart_18 : decode M_MT_apart.2.1 18 = .ok (.aload_n 0, 1) := by decide +kernel
theorem d_MT_apart_19 : decode M_MT_apart.2.1 19 = .ok (.iconst 1, 1) := by decide +kernel
theorem d_MT_apart_20 : decode M_MT_apart.2.1 20 = .ok (.iload_n 1, 1) := by decide +kernel
theorem d_MT_apart_21 : decode M_MT_apart.2.1 21 = .ok (.ishl, 1) := by decide +kernel
theorem d_MT_apart_22 : decode M_MT_apart.2.1 22 = .ok (.iconst 1, 1) := by decide +kernel
theorem d_MT_apart_23 : decode M_MT_apart.2.1 23 = .ok (.iload_n 2, 1) := by decide +kernel
theorem d_MT_apart_24 : decode M_MT_apart.2.1 24 = .ok (.ishl, 1) := by decide +kernel
theorem d_MT_apart_25 : decode M_MT_apart.2.1 25 = .ok (.ior, 1) := by decide +kernel
theorem d_MT_apart_26 : decode M_MT_apart.2.1 26 = .ok (.iconst 0, 1) := by decide +kernel
theorem d_MT_apart_27 : decode M_MT_apart.2.1 27 = .ok (.invokevirtual 157, 3) := by decide +kernel
theorem d_MT_apart_30 : decode M_MT_apart.2.1 30 = .ok (.invokestatic 161, 3) := by decide +kernel
theorem d_MT_apart_33 : decode M_MT_apart.2.1 33 = .ok (.ireturn, 1) := by decide +kernel
end
section MT10
variable {l : Launch} {G : XG} {h : XH} {c n d : Nat}
theorem nI_and {a b : Nat} : nI a &&& nI b = nI (a &&& b) := by
  apply Int32.toBitVec_inj.mp
  rw [Int32.toBitVec_and]
  show BitVec.ofNat 32 a &&& BitVec.ofNat 32 b = BitVec.ofNat 32 (a &&& b)
  exact (BitVec.ofNat_and).symm
theorem nI_or {a b : Nat} : nI a ||| nI b = nI (a ||| b) := by
  apply Int32.toBitVec_inj.mp
  rw [Int32.toBitVec_or]
  show BitVec.ofNat 32 a ||| BitVec.ofNat 32 b = BitVec.ofNat 32 (a ||| b)
  exact (BitVec.ofNat_or).symm
theorem bit_1 : ∀ j, j < 8 → (1 : Int32) <<< (nI j &&& 31) = nI (2 ^ j) ∧ 2 ^ j < 256 := by decide +kernel
theorem or_256 {a b : Nat} (ha : a < 256) (hb : b < 256) : a ||| b < 256 := Nat.or_lt_two_pow (n := 8) ha hb
theorem and_256 {a b : Nat} (ha : a < 256) : a &&& b < 256 := Nat.lt_of_le_of_lt Nat.and_le_left ha
abbrev kPa : List Nat := [k_Parting, k_aptr, k_apsz, k_apfi, k_apcl, k_apsa]
/-- the CHOICES and the PARTING alone change -/
theorem isMT.frC {h' : XH} {x ta va m na ca ea ch pa : Nat} {as kas cas t : List Nat} {Ns : List NmT} {Cs : List CnT} {il : Option Nat} {lv : Nat → Nat} {Pt Pt' : PtT} (hM : isMT G h x ta va m na ca ea ch pa as kas cas t Ns Cs il lv Pt) (hx : xonly h h' (kCh ++ kPa)) (hch : okCh h' ch) (hpa : isPa h' pa Pt') (hP : okP Pt') : isMT G h' x ta va m na ca ea ch pa as kas cas t Ns Cs il lv Pt' := by
  obtain ⟨e1, e2, e3, e4, e5, e6, e7, e8, e9, e10⟩ := hM
  obtain ⟨F, hf, hn⟩ := hx
  obtain ⟨z, bs, b1, b2, -⟩ := id e2
  exact ⟨hf.1 _ _ e1 ((hn [k_MarkerText] (by decide)).at e1 (by decide)), e2.fr hf ((hn [k_StringBuilder] (by decide)).at b1 (by decide)) ((hn [k_abyte] (by decide)).at b2 (by decide)), e3, e4, e5.fr hf (hn _ (by decide)), e6.fr hf (hn _ (by decide)), e7.fr' hf (hn _ (by decide)), hch, hpa, hP⟩
theorem lop_lt {q : List Nat × Nat} {s p : Nat} (hq : okQ q) : lop q.1 q.2 s p < 2 ^ 63 := by
  unfold lop
  split
  · decide
  · rename_i hz
    have := hq.2.2 (s + (p / 2 - 1)) (Nat.lt_of_not_le (fun z => hz (Or.inr z)))
    split <;> omega
theorem advP_ok {sa : List Nat} (ha : ∀ j, sa.getD j 0 ≤ 20000) : ∀ (i : Nat) (pk : List Nat), i ≤ 6 → pk.length = 6 → (∀ j, pk.getD j 0 ≤ 20000) → (advP sa i pk).length = 6 ∧ ∀ j, (advP sa i pk).getD j 0 ≤ 20000 := by
  intro i
  induction i with
  | zero => intro pk _ h1 h2; exact ⟨h1, h2⟩
  | succ i ih =>
    intro pk hi h1 h2
    unfold advP
    split
    · refine ih _ (by omega) (by rw [List.length_set]; exact h1) (fun j => ?_)
      rw [getD_set (by omega)]
      split
      · omega
      · exact h2 j
    · refine ⟨by rw [List.length_set]; exact h1, fun j => ?_⟩
      have := ha i
      rw [getD_set (by omega)]
      split
      · omega
      · exact h2 j
theorem lyS_b {Ns : List NmT} {Cs : List CnT} {S : Nat} {r : LyT} (hv : okNC Ns Cs) (hr : okQ r.1 ∧ r.2.1.length = 6 ∧ r.2.2.1.length = 6 ∧ r.2.2.2 ≤ 20001) : ∀ j, j ≤ 6 → ∀ i, i < j → (lyS Ns Cs S r j).2.2.1.getD i 0 ≤ 714 ∧ (lyS Ns Cs S r j).2.1.getD i 0 ≤ 356 := by
  intro j
  induction j with
  | zero => intro _ i hi; cases hi
  | succ j ih =>
    intro hj i hi
    obtain ⟨r1, r2, r3, r4⟩ := lyS_ok (S := S) hv hr j
    have e : lyS Ns Cs S r (j + 1) = lyN Ns Cs S j (lyS Ns Cs S r j) := rfl
    have hih := ih (by omega)
    rw [e]
    generalize lyS Ns Cs S r j = r' at r1 r2 r3 r4 hih
    obtain ⟨g1, g2⟩ := lyC_ok (S := S) (j := j) hv r1 (Nat.le_refl _) 8
    obtain ⟨g3, g4⟩ := lyK_ok (j := j) hv g1 g2
    obtain ⟨-, g5, -⟩ := g3
    obtain ⟨-, g6, -⟩ := r1
    show (r'.2.2.1.set j _).getD i 0 ≤ 714 ∧ (r'.2.1.set j _).getD i 0 ≤ 356
    rw [getD_set (by omega), getD_set (by omega)]
    by_cases hij : i = j
    · rw [if_pos hij, if_pos hij]
      refine ⟨?_, g6⟩
      unfold lyM
      split <;> omega
    · rw [if_neg hij, if_neg hij]
      exact hih i (by omega)
theorem getD_ge {us : List Nat} {i : Nat} (hi : us.length ≤ i) : us.getD i 0 = 0 := by
  rw [List.getD_eq_getElem?_getD, List.getElem?_eq_none hi]
  rfl
theorem rep_getD {j : Nat} : (List.replicate 6 0).getD j 0 = 0 := by
  rw [List.getD_eq_getElem?_getD, List.getElem?_replicate]
  split <;> rfl
theorem lvO_0 {vs st : List Nat} {us : Nat} : lvO vs us st (List.replicate 6 0) = List.replicate 6 0 := by
  refine List.ext_getElem? (fun j => ?_)
  rw [List.getElem?_replicate]
  unfold lvO
  rw [List.getElem?_map]
  by_cases hj : j < 6
  · rw [if_pos hj, List.getElem?_range hj]
    show some (lop vs us _ ((List.replicate 6 0).getD j 0)) = _
    rw [rep_getD]
    rfl
  · rw [if_neg hj, List.getElem?_eq_none (by simp; omega)]
    rfl
/-- the levels at picks -/
abbrev lvF (vs : List Nat) (us : Nat) (st pk : List Nat) : Nat → Nat := fun j => lop vs us (st.getD j 0) (pk.getD j 0)
theorem isLv_ch {cl us : Nat} {vs st pk : List Nat} (hq : okQ (vs, us)) (hl : h cl = some (k_achl, (lvO vs us st pk).map (fun v => .long (lN v)))) : isLv h k_achl cl (lvF vs us st pk) := by
  refine ⟨rfl, ?_, fun i => lop_lt (q := (vs, us)) hq⟩
  rw [hl]
  unfold lvO
  rw [List.map_map]
  rfl
/-- whether one of the next CHOICES makes all of one set true and none of the other -/
def fdC (Cs : List CnT) (S T F : Nat) (r : LyT) : Nat → List Nat → Bool
  | 0, _ => false
  | k + 1, pk => if trs Cs S (lvF r.1.1 r.1.2 r.2.1 pk) 8 &&& T = T ∧ trs Cs S (lvF r.1.1 r.1.2 r.2.1 pk) 8 &&& F = 0 then true else fdC Cs S T F r k (advP r.2.2.1 6 pk)
/-- what findChoice() answers -/
def fnd (Cs : List CnT) (S T F : Nat) (r : LyT) : Int32 := if r.2.2.2 ≤ 20000 then (if fdC Cs S T F r r.2.2.2 (List.replicate 6 0) then 1 else 0) else -1
theorem c_findChoice (hd : 164 ≤ d) {x ta va m na ca ea ch pa T F' : Nat} {as kas cas t : List Nat} {Ns : List NmT} {Cs : List CnT} {il : Option Nat} {lv : Nat → Nat} {Pt : PtT} (hM : isMT G h x ta va m na ca ea ch pa as kas cas t Ns Cs il lv Pt) (hv : okNC Ns Cs) (hT : T < 256) (hF : F' < 256) : XM l G d M_MT_findChoice [.ref x, .int (nI T), .int (nI F')] h c n (fun v h' c' n' => ∃ vs st sa : List Nat, vs.length = 356 ∧ st.length = 6 ∧ sa.length = 6 ∧ v = some (.int (fnd Cs (T ||| F') T F' (lyS Ns Cs (T ||| F') ((vs, 0), st, sa, 1) 6))) ∧ isMT G h' x ta va m na ca ea ch pa as kas cas t Ns Cs il lv Pt ∧ xonly h h' kCh ∧ c' = c ∧ n' = n) := by
  obtain ⟨d, rfl⟩ : ∃ q, d = q + 1 := ⟨d - 1, by omega⟩
  obtain ⟨e0, hB, hm, hl, hN, hC, hL, hO, hPa, hP⟩ := id hM
  obtain ⟨vs0, us0, st0, sa0, pk0, lv0, co0, ⟨cv0, cs0, ca0, cp0, cl0, o0, -⟩, -⟩ := id hO
  refine XM.of (by decide +kernel) (Nat.le_of_ble_eq_true rfl) ?_
  have hS := or_256 hT hF
  refine x_iload_n d_MT_findChoice_0 rfl ?_
  refine x_iload_n d_MT_findChoice_1 rfl ?_
  refine x_ior d_MT_findChoice_2 ?_
  refine x_top (w := .int (nI (T ||| F'))) (by rw [nI_or]) ?_
  refine x_istore_n (L' := [_, _, _, _, _, _]) d_MT_findChoice_3 rfl rfl ?_
  refine x_aload_n d_MT_findChoice_4 rfl rfl ?_
  refine x_get xf_MT_45_MT (Or.inl e0) rfl d_MT_findChoice_5 ?_
  refine x_aload_n d_MT_findChoice_8 rfl rfl ?_
  refine x_get xf_MT_18_MT (Or.inl e0) rfl d_MT_findChoice_9 ?_
  refine x_aload_n d_MT_findChoice_12 rfl rfl ?_
  refine x_get xf_MT_28_MT (Or.inl e0) rfl d_MT_findChoice_13 ?_
  refine x_iload_n d_MT_findChoice_16 rfl ?_
  refine x_callV (As := [_, _, _]) (k := k_Choices) rfl xcv_MT_165_Choices (Or.inl o0) (c_layOut (by omega) hO hN hC hS hv) rfl rfl (Nat.le_of_ble_eq_true rfl) d_MT_findChoice_17 ?_
  rintro v h1 c1 n1 ⟨vs, st, sa, k1, k2, k3, rfl, hc1, hx1, rfl, rfl⟩
  generalize hr0 : (((vs, 0), st, sa, 1) : LyT) = r0 at hc1
  have r0ok : okQ r0.1 ∧ r0.2.1.length = 6 ∧ r0.2.2.1.length = 6 ∧ r0.2.2.2 ≤ 20001 := by rw [← hr0]; exact ⟨⟨k1, Nat.zero_le _, fun i hi => by cases hi⟩, k2, k3, by show 1 ≤ 20001; decide⟩
  obtain ⟨rq, rs, ra, rc⟩ := lyS_ok (S := T ||| F') hv r0ok 6
  have rb := lyS_b (S := T ||| F') hv r0ok 6 (Nat.le_refl _)
  have fin : ∀ (Q : Option Value → XH → Nat → Nat → Prop), (∀ h' v, v = some (.int (fnd Cs (T ||| F') T F' (lyS Ns Cs (T ||| F') r0 6))) → okCh h' ch → xonly h h' kCh → Q v h' c1 n1) → XW l G M_MT_findChoice (d + 1) 20 [some (.ref x), some (.int (nI T)), some (.int (nI F')), some (.int (nI (T ||| F'))), none, none] [.int (bI (decide ((lyS Ns Cs (T ||| F') r0 6).2.2.2 ≤ 20000)))] h1 c1 n1 Q := by
    intro Q hQ
    generalize lyS Ns Cs (T ||| F') r0 6 = r at hc1 rq rs ra rc rb hQ
    obtain ⟨⟨us, u⟩, st1, sa1, co⟩ := r
    simp only at hc1 rq rs ra rc rb
    obtain ⟨rq1, rq2, rq3⟩ := id rq
    simp only at rq1 rq2 rq3
    have okc : ∀ {h' : XH} {pk lv : List Nat}, isCh h' ch us u st1 sa1 pk lv co → pk.length = 6 → lv.length = 6 → okCh h' ch := fun a b e => ⟨us, u, st1, sa1, _, _, co, a, rq1, rq2, rs, ra, b, e⟩
    by_cases g : co ≤ 20000
    · rw [decide_eq_true g]
      refine x_if_ne (tgt := 25) d_MT_findChoice_20 (by decide) (fun _ => ?_) (fun hn => absurd hn (by decide))
      refine x_iconst (v := 0) d_MT_findChoice_25 (by decide) ?_
      refine x_istore (L' := [_, _, _, _, _, _]) d_MT_findChoice_26 rfl rfl ?_
      have hsb : ∀ j, st1.getD j 0 ≤ 356 := fun j => by
        by_cases hj : j < 6
        · exact (rb j hj).2
        · rw [getD_ge (by omega)]; omega
      have hab : ∀ j, sa1.getD j 0 ≤ 20000 := fun j => by
        by_cases hj : j < 6
        · have := (rb j hj).1; omega
        · rw [getD_ge (by omega)]; omega
      have lp : ∀ (k i : Nat) (pk : List Nat) (h2 : XH) (w5 : Option Value), i + k = co → isCh h2 ch us u st1 sa1 pk (lvO us u st1 pk) co → xonly h h2 kCh → pk.length = 6 → (∀ j, pk.getD j 0 ≤ 20000) → fdC Cs (T ||| F') T F' ((us, u), st1, sa1, co) k pk = fdC Cs (T ||| F') T F' ((us, u), st1, sa1, co) co (List.replicate 6 0) → XW l G M_MT_findChoice (d + 1) 28 [some (.ref x), some (.int (nI T)), some (.int (nI F')), some (.int (nI (T ||| F'))), some (.int (nI i)), w5] [] h2 c1 n1 Q := by
        intro k
        induction k with
        | zero =>
          intro i pk h2 w5 hi hc2 hx2 hp2 hpb he
          obtain ⟨F, hf, hn⟩ := id hx2
          have e0' := hf.1 _ _ e0 ((hn [k_MarkerText] (by decide)).at e0 (by decide))
          obtain ⟨cv, cs, ca', cp, cl, o1, -⟩ := id hc2
          refine x_iload d_MT_findChoice_28 rfl ?_
          refine x_aload_n d_MT_findChoice_30 rfl rfl ?_
          refine x_get xf_MT_45_MT (Or.inl e0') rfl d_MT_findChoice_31 ?_
          refine x_get xf_MT_205_Choices (Or.inl o1) rfl d_MT_findChoice_34 ?_
          refine x_icmp_ge (tgt := 84) d_MT_findChoice_37 (by decide) (fun _ => ?_) (fun hn => absurd (nI_le (by omega) (by omega)) hn)
          refine x_iconst (v := 0) d_MT_findChoice_84 (by decide) ?_
          refine x_iret d_MT_findChoice_85 rfl ?_
          refine hQ _ _ ?_ (okc hc2 hp2 (by simp [lvO])) hx2
          unfold fnd
          rw [if_pos g, ← he]
          rfl
        | succ k ih =>
          intro i pk h2 w5 hi hc2 hx2 hp2 hpb he
          obtain ⟨F, hf, hn⟩ := id hx2
          have e0' := hf.1 _ _ e0 ((hn [k_MarkerText] (by decide)).at e0 (by decide))
          obtain ⟨cv, cs, ca', cp, cl, o1, o2, o3, o4, o5, o6⟩ := id hc2
          have hC2 := hC.fr hf (hn _ (by decide))
          refine x_iload d_MT_findChoice_28 rfl ?_
          refine x_aload_n d_MT_findChoice_30 rfl rfl ?_
          refine x_get xf_MT_45_MT (Or.inl e0') rfl d_MT_findChoice_31 ?_
          refine x_get xf_MT_205_Choices (Or.inl o1) rfl d_MT_findChoice_34 ?_
          refine x_icmp_ge (tgt := 84) d_MT_findChoice_37 (by decide) (fun ht => absurd ht (nI_ge (by omega) (by omega))) (fun _ => ?_)
          refine x_aload_n d_MT_findChoice_40 rfl rfl ?_
          refine x_get xf_MT_45_MT (Or.inl e0') rfl d_MT_findChoice_41 ?_
          refine x_aload_n d_MT_findChoice_44 rfl rfl ?_
          refine x_get xf_MT_28_MT (Or.inl e0') rfl d_MT_findChoice_45 ?_
          refine x_iload_n d_MT_findChoice_48 rfl ?_
          refine x_callV (As := [_, _]) (k := k_Choices) rfl xcv_MT_206_Choices (Or.inl o1) (c_truths (by omega) o1 hC2 (isLv_ch rq o6) hS) rfl rfl (Nat.le_of_ble_eq_true rfl) d_MT_findChoice_49 ?_
          rintro v h3 c3 n3 ⟨rfl, rfl, rfl, rfl⟩
          have hb := trs_lt (Cs := Cs) (S := T ||| F') (lv := lvF us u st1 pk) 8 (Nat.le_refl _)
          have go : ¬ (trs Cs (T ||| F') (lvF us u st1 pk) 8 &&& T = T ∧ trs Cs (T ||| F') (lvF us u st1 pk) 8 &&& F' = 0) → XW l G M_MT_findChoice (d + 1) 71 [some (.ref x), some (.int (nI T)), some (.int (nI F')), some (.int (nI (T ||| F'))), some (.int (nI i)), some (.int (nI (trs Cs (T ||| F') (lvF us u st1 pk) 8)))] [] h3 c3 n3 Q := by
            intro hno
            have he' : fdC Cs (T ||| F') T F' ((us, u), st1, sa1, co) k (advP sa1 6 pk) = fdC Cs (T ||| F') T F' ((us, u), st1, sa1, co) co (List.replicate 6 0) := by
              rw [← he]
              exact (if_neg hno).symm
            obtain ⟨p1, p2⟩ := advP_ok hab 6 pk (Nat.le_refl _) hp2 hpb
            refine x_aload_n d_MT_findChoice_71 rfl rfl ?_
            refine x_get xf_MT_45_MT (Or.inl e0') rfl d_MT_findChoice_72 ?_
            refine x_callV (As := []) (k := k_Choices) rfl xcv_MT_209_Choices (Or.inl o1) (c_advance (by omega) hc2 rq1 rq2 rs ra hp2 hsb hpb hab (fun i hi => (rq3 i hi).1)) rfl rfl (Nat.le_of_ble_eq_true rfl) d_MT_findChoice_75 ?_
            rintro v h4 c4 n4 ⟨rfl, hc4, hx4, rfl, rfl⟩
            refine x_iinc (v := nI (i + 1)) (L' := [_, _, _, _, _, _]) d_MT_findChoice_78 rfl (by exact xw_iinc1) rfl rfl ?_
            refine x_goto (tgt := 28) d_MT_findChoice_81 (by decide) ?_
            exact ih (i + 1) _ h4 _ (by omega) hc4 (hx2.tr (hx4.mono (by decide))) p1 p2 he'
          by_cases g1 : trs Cs (T ||| F') (lvF us u st1 pk) 8 &&& T = T
          · by_cases g2 : trs Cs (T ||| F') (lvF us u st1 pk) 8 &&& F' = 0
            · refine x_istore (L' := [_, _, _, _, _, _]) d_MT_findChoice_52 rfl rfl ?_
              refine x_iload d_MT_findChoice_54 rfl ?_
              refine x_iload_n d_MT_findChoice_56 rfl ?_
              refine x_iand d_MT_findChoice_57 ?_
              refine x_iload_n d_MT_findChoice_58 rfl ?_
              refine x_icmp_ne (tgt := 71) d_MT_findChoice_59 (by decide) (fun ht => absurd (by rw [nI_and, g1]) ht) (fun _ => ?_)
              refine x_iload d_MT_findChoice_62 rfl ?_
              refine x_iload_n d_MT_findChoice_64 rfl ?_
              refine x_iand d_MT_findChoice_65 ?_
              refine x_if_ne (tgt := 71) d_MT_findChoice_66 (by decide) (fun ht => absurd (by rw [nI_and, g2]; rfl) ht) (fun _ => ?_)
              refine x_iconst (v := 1) d_MT_findChoice_69 (by decide) ?_
              refine x_iret d_MT_findChoice_70 rfl ?_
              refine hQ _ _ ?_ (okc hc2 hp2 (by simp [lvO])) hx2
              unfold fnd
              rw [if_pos g, ← he, show fdC Cs (T ||| F') T F' ((us, u), st1, sa1, co) (k + 1) pk = true from if_pos ⟨g1, g2⟩]
              rfl
            · refine x_istore (L' := [_, _, _, _, _, _]) d_MT_findChoice_52 rfl rfl ?_
              refine x_iload d_MT_findChoice_54 rfl ?_
              refine x_iload_n d_MT_findChoice_56 rfl ?_
              refine x_iand d_MT_findChoice_57 ?_
              refine x_iload_n d_MT_findChoice_58 rfl ?_
              refine x_icmp_ne (tgt := 71) d_MT_findChoice_59 (by decide) (fun ht => absurd (by rw [nI_and, g1]) ht) (fun _ => ?_)
              refine x_iload d_MT_findChoice_62 rfl ?_
              refine x_iload_n d_MT_findChoice_64 rfl ?_
              refine x_iand d_MT_findChoice_65 ?_
              refine x_if_ne (tgt := 71) d_MT_findChoice_66 (by decide) (fun _ => ?_) (fun hn => absurd hn (by rw [nI_and]; exact fun z => g2 ((nI_eq (b := 0) (Nat.lt_of_lt_of_le (and_256 hb) (by decide)) (by decide)).mp z)))
              exact go (fun z => g2 z.2)
          · refine x_istore (L' := [_, _, _, _, _, _]) d_MT_findChoice_52 rfl rfl ?_
            refine x_iload d_MT_findChoice_54 rfl ?_
            refine x_iload_n d_MT_findChoice_56 rfl ?_
            refine x_iand d_MT_findChoice_57 ?_
            refine x_iload_n d_MT_findChoice_58 rfl ?_
            refine x_icmp_ne (tgt := 71) d_MT_findChoice_59 (by decide) (fun _ => ?_) (fun hn => absurd hn (by rw [nI_and]; exact fun z => g1 ((nI_eq (Nat.lt_of_lt_of_le (and_256 hb) (by decide)) (by omega)).mp z)))
            exact go (fun z => g1 z.1)
      exact lp co 0 (List.replicate 6 0) h1 _ (by omega) (by rw [lvO_0]; exact hc1) hx1 (by decide) (fun j => by rw [rep_getD]; omega) rfl
    · rw [decide_eq_false g]
      refine x_if_ne (tgt := 25) d_MT_findChoice_20 (by decide) (fun ht => absurd rfl ht) (fun _ => ?_)
      refine x_iconst (v := (-1)) d_MT_findChoice_23 (by decide) ?_
      refine x_iret d_MT_findChoice_24 rfl ?_
      refine hQ _ _ ?_ (okc hc1 (by decide) (by decide)) hx1
      unfold fnd
      rw [if_neg g]
  refine fin _ (fun h' v e1 e2 e3 => ⟨vs, st, sa, k1, k2, k3, ?_, ?_, e3, rfl, rfl⟩)
  · rw [hr0]; exact e1
  · obtain ⟨F, hf, hn⟩ := id e3
    exact hM.frC (e3.mono (by decide)) e2 (hPa.fr hf (hn _ (by decide))) hP
theorem c_opposite {w : Int32} : XM l G d M_MT_opposite [.int w] h c n (xSame (.int (if w = -1 then -1 else 1 - w)) h c n) := by
  refine XM.of (by decide +kernel) (Nat.le_of_ble_eq_true rfl) ?_
  by_cases hw : w = -1
  · rw [if_pos hw]
    refine x_iload_n d_MT_opposite_0 rfl ?_
    refine x_iconst (v := (-1)) d_MT_opposite_1 (by decide) ?_
    refine x_icmp_ne (tgt := 9) d_MT_opposite_2 (by decide) (fun ht => absurd hw ht) (fun _ => ?_)
    refine x_iconst (v := (-1)) d_MT_opposite_5 (by decide) ?_
    refine x_goto (tgt := 12) d_MT_opposite_6 (by decide) ?_
    refine x_iret d_MT_opposite_12 rfl ?_
    exact ⟨rfl, rfl, rfl, rfl⟩
  · rw [if_neg hw]
    refine x_iload_n d_MT_opposite_0 rfl ?_
    refine x_iconst (v := (-1)) d_MT_opposite_1 (by decide) ?_
    refine x_icmp_ne (tgt := 9) d_MT_opposite_2 (by decide) (fun _ => ?_) (fun hn => absurd hn hw)
    refine x_iconst (v := 1) d_MT_opposite_9 (by decide) ?_
    refine x_iload_n d_MT_opposite_10 rfl ?_
    refine x_isub d_MT_opposite_11 ?_
    refine x_iret d_MT_opposite_12 rfl ?_
    exact ⟨rfl, rfl, rfl, rfl⟩
abbrev pFd (G : XG) (h : XH) (x ta va m na ca ea ch pa : Nat) (as kas cas t : List Nat) (Ns : List NmT) (Cs : List CnT) (il : Option Nat) (lv : Nat → Nat) (Pt : PtT) (c n : Nat) (A : LyT → Int32) (S : Nat) : Option Value → XH → Nat → Nat → Prop := fun v h' c' n' => ∃ vs st sa : List Nat, vs.length = 356 ∧ st.length = 6 ∧ sa.length = 6 ∧ v = some (.int (A (lyS Ns Cs S ((vs, 0), st, sa, 1) 6))) ∧ isMT G h' x ta va m na ca ea ch pa as kas cas t Ns Cs il lv Pt ∧ xonly h h' kCh ∧ c' = c ∧ n' = n
theorem iAt_lt8 {α : Type} {k : Int32} {Cs : List α} {D : α} (h8 : Cs.length ≤ 8) (hD : iAt k Cs = some D) : ∃ j, j < 8 ∧ k = nI j := by
  have h0 : ¬ k < 0 := fun z => by rw [iAt_lt z] at hD; cases hD
  obtain ⟨j, hj, rfl⟩ := i32_ex h0
  rw [iAt_nI hj] at hD
  have := (List.getElem?_eq_some_iff.mp hD).1
  exact ⟨j, by omega, rfl⟩
theorem c_ever (hd : 165 ≤ d) {x ta va m na ca ea ch pa : Nat} {as kas cas t : List Nat} {Ns : List NmT} {Cs : List CnT} {il : Option Nat} {lv : Nat → Nat} {Pt : PtT} {k : Int32} (hM : isMT G h x ta va m na ca ea ch pa as kas cas t Ns Cs il lv Pt) (hv : okNC Ns Cs) : XM l G d M_MT_ever [.ref x, .int k] h c n (pFd G h x ta va m na ca ea ch pa as kas cas t Ns Cs il lv Pt c n (fun r => if (iAt k Cs).isSome then fnd Cs (2 ^ k.toNatClampNeg) (2 ^ k.toNatClampNeg) 0 r else -1) (2 ^ k.toNatClampNeg)) := by
  obtain ⟨d, rfl⟩ : ∃ q, d = q + 1 := ⟨d - 1, by omega⟩
  obtain ⟨e0, hB, hm, hl, hN, hC, hL, -⟩ := id hM
  refine XM.of (by decide +kernel) (Nat.le_of_ble_eq_true rfl) ?_
  refine x_aload_n d_MT_ever_0 rfl rfl ?_
  refine x_iload_n d_MT_ever_1 rfl ?_
  refine x_callV (As := [_]) (k := k_MarkerText) rfl xcv_MT_143_MT (Or.inl e0) (c_conditionAt e0 hC) rfl rfl (Nat.le_of_ble_eq_true rfl) d_MT_ever_2 ?_
  rintro v h1 c1 n1 ⟨rfl, rfl, rfl, rfl⟩
  rcases hC.at (k := k) with ⟨g1, g2⟩ | ⟨a, D, g1, g2, g3⟩
  · rw [g1]
    refine x_ifnonnullN d_MT_ever_5 ?_
    refine x_iconst (v := (-1)) d_MT_ever_8 (by decide) ?_
    refine x_iret d_MT_ever_9 rfl ?_
    exact ⟨List.replicate 356 0, List.replicate 6 0, List.replicate 6 0, List.length_replicate, List.length_replicate, List.length_replicate, by rw [g2]; rfl, hM, xonly.rf, rfl, rfl⟩
  · obtain ⟨j, hj, rfl⟩ := iAt_lt8 hC.2.2.1 g2
    obtain ⟨b1, b2⟩ := bit_1 j hj
    rw [g1]
    refine x_ifnonnull (tgt := 10) d_MT_ever_5 (by decide) ?_
    refine x_aload_n d_MT_ever_10 rfl rfl ?_
    refine x_iconst (v := 1) d_MT_ever_11 (by decide) ?_
    refine x_iload_n d_MT_ever_12 rfl ?_
    refine x_ishl d_MT_ever_13 ?_
    refine x_top (w := .int (nI (2 ^ j))) (by rw [b1]) ?_
    refine x_iconst (v := 0) d_MT_ever_14 (by decide) ?_
    refine x_callV (As := [_, _]) (k := k_MarkerText) rfl xcv_MT_157_MT (Or.inl e0) (c_findChoice (F' := 0) (by omega) hM hv b2 (by decide)) rfl rfl (Nat.le_of_ble_eq_true rfl) d_MT_ever_15 ?_
    rintro v h2 c2 n2 ⟨vs, st, sa, k1, k2, k3, rfl, hM2, hx2, rfl, rfl⟩
    refine x_iret d_MT_ever_18 rfl ?_
    refine ⟨vs, st, sa, k1, k2, k3, ?_, hM2, hx2, rfl, rfl⟩
    rw [g2, nI_clamp (by omega), Nat.or_zero]
    rfl
theorem c_implies (hd : 165 ≤ d) {x ta va m na ca ea ch pa : Nat} {as kas cas t : List Nat} {Ns : List NmT} {Cs : List CnT} {il : Option Nat} {lv : Nat → Nat} {Pt : PtT} {a b : Int32} (hM : isMT G h x ta va m na ca ea ch pa as kas cas t Ns Cs il lv Pt) (hv : okNC Ns Cs) : XM l G d M_MT_implies [.ref x, .int a, .int b] h c n (pFd G h x ta va m na ca ea ch pa as kas cas t Ns Cs il lv Pt c n (fun r => if (iAt a Cs).isSome ∧ (iAt b Cs).isSome then (if fnd Cs (2 ^ a.toNatClampNeg ||| 2 ^ b.toNatClampNeg) (2 ^ a.toNatClampNeg) (2 ^ b.toNatClampNeg) r = -1 then -1 else 1 - fnd Cs (2 ^ a.toNatClampNeg ||| 2 ^ b.toNatClampNeg) (2 ^ a.toNatClampNeg) (2 ^ b.toNatClampNeg) r) else -1) (2 ^ a.toNatClampNeg ||| 2 ^ b.toNatClampNeg)) := by
  obtain ⟨d, rfl⟩ : ∃ q, d = q + 1 := ⟨d - 1, by omega⟩
  obtain ⟨e0, hB, hm, hl, hN, hC, hL, -⟩ := id hM
  refine XM.of (by decide +kernel) (Nat.le_of_ble_eq_true rfl) ?_
  refine x_aload_n d_MT_implies_0 rfl rfl ?_
  refine x_iload_n d_MT_implies_1 rfl ?_
  refine x_callV (As := [_]) (k := k_MarkerText) rfl xcv_MT_143_MT (Or.inl e0) (c_conditionAt e0 hC) rfl rfl (Nat.le_of_ble_eq_true rfl) d_MT_implies_2 ?_
  rintro v h1 c1 n1 ⟨rfl, rfl, rfl, rfl⟩
  rcases hC.at (k := a) with ⟨g1, g2⟩ | ⟨q1, D1, g1, g2, g3⟩
  · rw [g1]
    refine x_ifnullN (tgt := 16) d_MT_implies_5 (by decide) ?_
    refine x_iconst (v := (-1)) d_MT_implies_16 (by decide) ?_
    refine x_iret d_MT_implies_17 rfl ?_
    exact ⟨List.replicate 356 0, List.replicate 6 0, List.replicate 6 0, List.length_replicate, List.length_replicate, List.length_replicate, by show some (Value.int (-1)) = some (Value.int (ite _ _ _)); rw [if_neg (by rw [g2]; exact fun z => by cases z.1)], hM, xonly.rf, rfl, rfl⟩
  · rw [g1]
    refine x_ifnull d_MT_implies_5 ?_
    refine x_aload_n d_MT_implies_8 rfl rfl ?_
    refine x_iload_n d_MT_implies_9 rfl ?_
    refine x_callV (As := [_]) (k := k_MarkerText) rfl xcv_MT_143_MT (Or.inl e0) (c_conditionAt e0 hC) rfl rfl (Nat.le_of_ble_eq_true rfl) d_MT_implies_10 ?_
    rintro v h1 c1 n1 ⟨rfl, rfl, rfl, rfl⟩
    rcases hC.at (k := b) with ⟨y1, y2⟩ | ⟨q2, D2, y1, y2, y3⟩
    · rw [y1]
      refine x_ifnonnullN d_MT_implies_13 ?_
      refine x_iconst (v := (-1)) d_MT_implies_16 (by decide) ?_
      refine x_iret d_MT_implies_17 rfl ?_
      exact ⟨List.replicate 356 0, List.replicate 6 0, List.replicate 6 0, List.length_replicate, List.length_replicate, List.length_replicate, by show some (Value.int (-1)) = some (Value.int (ite _ _ _)); rw [if_neg (by rw [y2]; exact fun z => by cases z.2)], hM, xonly.rf, rfl, rfl⟩
    · obtain ⟨j, hj, rfl⟩ := iAt_lt8 hC.2.2.1 g2
      obtain ⟨j2, hj2, rfl⟩ := iAt_lt8 hC.2.2.1 y2
      obtain ⟨b1, b2⟩ := bit_1 j hj
      obtain ⟨b3, b4⟩ := bit_1 j2 hj2
      rw [y1]
      refine x_ifnonnull (tgt := 18) d_MT_implies_13 (by decide) ?_
      refine x_aload_n d_MT_implies_18 rfl rfl ?_
      refine x_iconst (v := 1) d_MT_implies_19 (by decide) ?_
      refine x_iload_n d_MT_implies_20 rfl ?_
      refine x_ishl d_MT_implies_21 ?_
      refine x_top (w := .int (nI (2 ^ j))) (by rw [b1]) ?_
      refine x_iconst (v := 1) d_MT_implies_22 (by decide) ?_
      refine x_iload_n d_MT_implies_23 rfl ?_
      refine x_ishl d_MT_implies_24 ?_
      refine x_top (w := .int (nI (2 ^ j2))) (by rw [b3]) ?_
      refine x_callV (As := [_, _]) (k := k_MarkerText) rfl xcv_MT_157_MT (Or.inl e0) (c_findChoice (by omega) hM hv b2 b4) rfl rfl (Nat.le_of_ble_eq_true rfl) d_MT_implies_25 ?_
      rintro v h2 c2 n2 ⟨vs, st, sa, k1, k2, k3, rfl, hM2, hx2, rfl, rfl⟩
      refine x_callS (As := [_]) xcs_MT_161 (c_opposite) rfl rfl (Nat.le_of_ble_eq_true rfl) d_MT_implies_28 ?_
      rintro v h3 c3 n3 ⟨rfl, rfl, rfl, rfl⟩
      refine x_iret d_MT_implies_31 rfl ?_
      refine ⟨vs, st, sa, k1, k2, k3, ?_, hM2, hx2, rfl, rfl⟩
      rw [g2, y2, nI_clamp (by omega), nI_clamp (by omega)]
      rfl
theorem c_apart (hd : 165 ≤ d) {x ta va m na ca ea ch pa : Nat} {as kas cas t : List Nat} {Ns : List NmT} {Cs : List CnT} {il : Option Nat} {lv : Nat → Nat} {Pt : PtT} {a b : Int32} (hM : isMT G h x ta va m na ca ea ch pa as kas cas t Ns Cs il lv Pt) (hv : okNC Ns Cs) : XM l G d M_MT_apart [.ref x, .int a, .int b] h c n (pFd G h x ta va m na ca ea ch pa as kas cas t Ns Cs il lv Pt c n (fun r => if (iAt a Cs).isSome ∧ (iAt b Cs).isSome then (if fnd Cs (2 ^ a.toNatClampNeg ||| 2 ^ b.toNatClampNeg) (2 ^ a.toNatClampNeg ||| 2 ^ b.toNatClampNeg) 0 r = -1 then -1 else 1 - fnd Cs (2 ^ a.toNatClampNeg ||| 2 ^ b.toNatClampNeg) (2 ^ a.toNatClampNeg ||| 2 ^ b.toNatClampNeg) 0 r) else -1) (2 ^ a.toNatClampNeg ||| 2 ^ b.toNatClampNeg)) := by
  obtain ⟨d, rfl⟩ : ∃ q, d = q + 1 := ⟨d - 1, by omega⟩
  obtain ⟨e0, hB, hm, hl, hN, hC, hL, -⟩ := id hM
  refine XM.of (by decide +kernel) (Nat.le_of_ble_eq_true rfl) ?_
  refine x_aload_n d_MT_apart_0 rfl rfl ?_
  refine x_iload_n d_MT_apart_1 rfl ?_
  refine x_callV (As := [_]) (k := k_MarkerText) rfl xcv_MT_143_MT (Or.inl e0) (c_conditionAt e0 hC) rfl rfl (Nat.le_of_ble_eq_true rfl) d_MT_apart_2 ?_
  rintro v h1 c1 n1 ⟨rfl, rfl, rfl, rfl⟩
  rcases hC.at (k := a) with ⟨g1, g2⟩ | ⟨q1, D1, g1, g2, g3⟩
  · rw [g1]
    refine x_ifnullN (tgt := 16) d_MT_apart_5 (by decide) ?_
    refine x_iconst (v := (-1)) d_MT_apart_16 (by decide) ?_
    refine x_iret d_MT_apart_17 rfl ?_
    exact ⟨List.replicate 356 0, List.replicate 6 0, List.replicate 6 0, List.length_replicate, List.length_replicate, List.length_replicate, by show some (Value.int (-1)) = some (Value.int (ite _ _ _)); rw [if_neg (by rw [g2]; exact fun z => by cases z.1)], hM, xonly.rf, rfl, rfl⟩
  · rw [g1]
    refine x_ifnull d_MT_apart_5 ?_
    refine x_aload_n d_MT_apart_8 rfl rfl ?_
    refine x_iload_n d_MT_apart_9 rfl ?_
    refine x_callV (As := [_]) (k := k_MarkerText) rfl xcv_MT_143_MT (Or.inl e0) (c_conditionAt e0 hC) rfl rfl (Nat.le_of_ble_eq_true rfl) d_MT_apart_10 ?_
    rintro v h1 c1 n1 ⟨rfl, rfl, rfl, rfl⟩
    rcases hC.at (k := b) with ⟨y1, y2⟩ | ⟨q2, D2, y1, y2, y3⟩
    · rw [y1]
      refine x_ifnonnullN d_MT_apart_13 ?_
      refine x_iconst (v := (-1)) d_MT_apart_16 (by decide) ?_
      refine x_iret d_MT_apart_17 rfl ?_
      exact ⟨List.replicate 356 0, List.replicate 6 0, List.replicate 6 0, List.length_replicate, List.length_replicate, List.length_replicate, by show some (Value.int (-1)) = some (Value.int (ite _ _ _)); rw [if_neg (by rw [y2]; exact fun z => by cases z.2)], hM, xonly.rf, rfl, rfl⟩
    · obtain ⟨j, hj, rfl⟩ := iAt_lt8 hC.2.2.1 g2
      obtain ⟨j2, hj2, rfl⟩ := iAt_lt8 hC.2.2.1 y2
      obtain ⟨b1, b2⟩ := bit_1 j hj
      obtain ⟨b3, b4⟩ := bit_1 j2 hj2
      rw [y1]
      refine x_ifnonnull (tgt := 18) d_MT_apart_13 (by decide) ?_
      refine x_aload_n d_MT_apart_18 rfl rfl ?_
      refine x_iconst (v := 1) d_MT_apart_19 (by decide) ?_
      refine x_iload_n d_MT_apart_20 rfl ?_
      refine x_ishl d_MT_apart_21 ?_
      refine x_top (w := .int (nI (2 ^ j))) (by rw [b1]) ?_
      refine x_iconst (v := 1) d_MT_apart_22 (by decide) ?_
      refine x_iload_n d_MT_apart_23 rfl ?_
      refine x_ishl d_MT_apart_24 ?_
      refine x_top (w := .int (nI (2 ^ j2))) (by rw [b3]) ?_
      refine x_ior d_MT_apart_25 ?_
      refine x_top (w := .int (nI (2 ^ j ||| 2 ^ j2))) (by rw [nI_or]) ?_
      refine x_iconst (v := 0) d_MT_apart_26 (by decide) ?_
      refine x_callV (As := [_, _]) (k := k_MarkerText) rfl xcv_MT_157_MT (Or.inl e0) (c_findChoice (F' := 0) (by omega) hM hv (or_256 b2 b4) (by decide)) rfl rfl (Nat.le_of_ble_eq_true rfl) d_MT_apart_27 ?_
      rintro v h2 c2 n2 ⟨vs, st, sa, k1, k2, k3, rfl, hM2, hx2, rfl, rfl⟩
      refine x_callS (As := [_]) xcs_MT_161 (c_opposite) rfl rfl (Nat.le_of_ble_eq_true rfl) d_MT_apart_30 ?_
      rintro v h3 c3 n3 ⟨rfl, rfl, rfl, rfl⟩
      refine x_iret d_MT_apart_33 rfl ?_
      refine ⟨vs, st, sa, k1, k2, k3, ?_, hM2, hx2, rfl, rfl⟩
      rw [g2, y2, nI_clamp (by omega), nI_clamp (by omega), Nat.or_zero]
      rfl
end MT10
