section
abbrev y_Parting_part : MethodName := ⟨"MarkerText$Parting", "part", "(LMarkerText$Choices;[LMarkerText$Condition;I)V"⟩
abbrev M_Parting_part : XMt := (y_Parting_part, prog_9_method_2_code, 5, none)
theorem d_Parting_part_31 : decode M_Parting_part.2.1 31 = .ok (.iload 4, 2) := by decide +kernel
theorem d_Parting_part_33 : decode M_Parting_part.2.1 33 = .ok (.aload_n 1, 1) := by decide +kernel
theorem d_Parting_part_34 : decode M_Parting_part.2.1 34 = .ok (.getfield 46, 3) := by decide +kernel
theorem xw_93 : (Jvm.Cond.fieldLinkNest "MarkerText$Parting" (46 : Nat) "MarkerText$Choices" "count" "I" "MarkerText") ∈ xT := xT_at 93 (by decide +kernel) (by decide +kernel)
theorem xf_Parting_46_Choices : xF "MarkerText$Parting" 46 k_Choices 6 := ⟨_, _, _, "MarkerText$Choices", rfl, by decide, Or.inr ⟨_, xw_93⟩, Or.inl rfl⟩
theorem d_Parting_part_37 : decode M_Parting_part.2.1 37 = .ok (.if_icmp .ge 25, 3) := by decide +kernel
theorem d_Parting_part_62 : decode M_Parting_part.2.1 62 = .ok (.return_, 1) := by decide +kernel
theorem d_Parting_part_40 : decode M_Parting_part.2.1 40 = .ok (.aload_n 0, 1) := by decide +kernel
theorem d_Parting_part_41 : decode M_Parting_part.2.1 41 = .ok (.aload_n 1, 1) := by decide +kernel
theorem d_Parting_part_42 : decode M_Parting_part.2.1 42 = .ok (.aload_n 2, 1) := by decide +kernel
theorem d_Parting_part_43 : decode M_Parting_part.2.1 43 = .ok (.iload_n 3, 1) := by decide +kernel
theorem d_Parting_part_44 : decode M_Parting_part.2.1 44 = .ok (.invokevirtual 47, 3) := by decide +kernel
theorem xw_386 : (Jvm.Cond.methodLink "MarkerText$Parting" (47 : Nat) ({ cls := "MarkerText$Choices", name := "truths", desc := "([LMarkerText$Condition;I)I" } : Jvm.MethodName)) ∈ xT := xT_at 386 (by decide +kernel) (by decide +kernel)
theorem xcv_Parting_47_Choices : xCV "MarkerText$Parting" 47 "MarkerText$Choices" M_Choices_truths 2 := ⟨xcb_Choices_truths, xw_350, Or.inl ⟨xw_386, Or.inl xw_351⟩⟩
theorem d_Parting_part_47 : decode M_Parting_part.2.1 47 = .ok (.iload 4, 2) := by decide +kernel
theorem d_Parting_part_49 : decode M_Parting_part.2.1 49 = .ok (.invokevirtual 50, 3) := by decide +kernel
theorem xw_390 : (Jvm.Cond.code ({ cls := "MarkerText$Parting", name := "countIn", desc := "(II)V" } : Jvm.MethodName) prog_9_method_3_code (4 : Nat) (Option.none : Option Jvm.ClassFile.FieldType)) ∈ xT := xT_at 390 (by decide +kernel) (by decide +kernel)
theorem xcb_Parting_countIn : xcb M_Parting_countIn 2 := ⟨xw_390, xw_7, by decide, by decide, by decide, by decide +kernel⟩
theorem xw_389 : (Jvm.Cond.instanceMethod ({ cls := "MarkerText$Parting", name := "countIn", desc := "(II)V" } : Jvm.MethodName)) ∈ xT := xT_at 389 (by decide +kernel) (by decide +kernel)
theorem xw_387 : (Jvm.Cond.methodLink "MarkerText$Parting" (50 : Nat) ({ cls := "MarkerText$Parting", name := "countIn", desc := "(II)V" } : Jvm.MethodName)) ∈ xT := xT_at 387 (by decide +kernel) (by decide +kernel)
theorem xsel_Parting_countIn : Cond.selects "MarkerText$Parting" y_Parting_countIn y_Parting_countIn ∈ xT := xT_sel (q := (y_Parting_countIn, 6)) (by decide +kernel) (by decide +kernel)
theorem xcv_Parting_50_Parting : xCV "MarkerText$Parting" 50 "MarkerText$Parting" M_Parting_countIn 2 := ⟨xcb_Parting_countIn, xw_389, Or.inl ⟨xw_387, Or.inl xsel_Parting_countIn⟩⟩
theorem d_Parting_part_52 : decode M_Parting_part.2.1 52 = .ok (.aload_n 1, 1) := by decide +kernel
theorem d_Parting_part_53 : decode M_Parting_part.2.1 53 = .ok (.invokevirtual 54, 3) := by decide +kernel
theorem xw_395 : (Jvm.Cond.methodLink "MarkerText$Parting" (54 : Nat) ({ cls := "MarkerText$Choices", name := "advance", desc := "()V" } : Jvm.MethodName)) ∈ xT := xT_at 395 (by decide +kernel) (by decide +kernel)
theorem xcv_Parting_54_Choices : xCV "MarkerText$Parting" 54 "MarkerText$Choices" M_Choices_advance 0 := ⟨xcb_Choices_advance, xw_355, Or.inl ⟨xw_395, Or.inl xw_356⟩⟩
theorem d_Parting_part_56 : decode M_Parting_part.2.1 56 = .ok (.iinc 4 1, 3) := by decide +kernel
theorem d_Parting_part_59 : decode M_Parting_part.2.1 59 = .ok (.goto (-28), 3) := by decide +kernel
theorem d_Parting_part_0 : decode M_Parting_part.2.1 0 = .ok (.aload_n 0, 1) := by decide +kernel
theorem d_Parting_part_1 : decode M_Parting_part.2.1 1 = .ok (.iconst 0, 1) := by decide +kernel
theorem d_Parting_part_2 : decode M_Parting_part.2.1 2 = .ok (.putfield 9, 3) := by decide +kernel
theorem d_Parting_part_5 : decode M_Parting_part.2.1 5 = .ok (.aload_n 0, 1) := by decide +kernel
theorem d_Parting_part_6 : decode M_Parting_part.2.1 6 = .ok (.getfield 25, 3) := by decide +kernel
theorem d_Parting_part_9 : decode M_Parting_part.2.1 9 = .ok (.iconst 0, 1) := by decide +kernel
theorem d_Parting_part_10 : decode M_Parting_part.2.1 10 = .ok (.invokestatic 31, 3) := by decide +kernel
theorem xw_384 : (Jvm.Cond.code ({ cls := "java/util/Arrays", name := "fill", desc := "([II)V" } : Jvm.MethodName) prog_34_method_103_code (4 : Nat) (Option.none : Option Jvm.ClassFile.FieldType)) ∈ xT := xT_at 384 (by decide +kernel) (by decide +kernel)
theorem xcb_Arrays_fill_aII : xcb M_Arrays_fill_aII 2 := ⟨xw_384, xw_11, by decide, by decide, by decide, by decide +kernel⟩
theorem xw_382 : (Jvm.Cond.methodLink "MarkerText$Parting" (31 : Nat) ({ cls := "java/util/Arrays", name := "fill", desc := "([II)V" } : Jvm.MethodName)) ∈ xT := xT_at 382 (by decide +kernel) (by decide +kernel)
theorem xw_383 : (Jvm.Cond.static ({ cls := "java/util/Arrays", name := "fill", desc := "([II)V" } : Jvm.MethodName)) ∈ xT := xT_at 383 (by decide +kernel) (by decide +kernel)
theorem xcs_Parting_31 : xCS "MarkerText$Parting" 31 M_Arrays_fill_aII 2 := ⟨xcb_Arrays_fill_aII, xw_383, Or.inl xw_382⟩
theorem d_Parting_part_13 : decode M_Parting_part.2.1 13 = .ok (.aload_n 1, 1) := by decide +kernel
theorem d_Parting_part_14 : decode M_Parting_part.2.1 14 = .ok (.getfield 37, 3) := by decide +kernel
theorem xw_89 : (Jvm.Cond.fieldLinkNest "MarkerText$Parting" (37 : Nat) "MarkerText$Choices" "samples" "[I" "MarkerText") ∈ xT := xT_at 89 (by decide +kernel) (by decide +kernel)
theorem xf_Parting_37_Choices : xF "MarkerText$Parting" 37 k_Choices 3 := ⟨_, _, _, "MarkerText$Choices", rfl, by decide, Or.inr ⟨_, xw_89⟩, Or.inl rfl⟩
theorem d_Parting_part_17 : decode M_Parting_part.2.1 17 = .ok (.iconst 0, 1) := by decide +kernel
theorem d_Parting_part_18 : decode M_Parting_part.2.1 18 = .ok (.aload_n 0, 1) := by decide +kernel
theorem d_Parting_part_19 : decode M_Parting_part.2.1 19 = .ok (.getfield 28, 3) := by decide +kernel
theorem d_Parting_part_22 : decode M_Parting_part.2.1 22 = .ok (.iconst 0, 1) := by decide +kernel
theorem d_Parting_part_23 : decode M_Parting_part.2.1 23 = .ok (.bipush 6, 2) := by decide +kernel
theorem d_Parting_part_25 : decode M_Parting_part.2.1 25 = .ok (.invokestatic 40, 3) := by decide +kernel
theorem xw_385 : (Jvm.Cond.methodLink "MarkerText$Parting" (40 : Nat) ({ cls := "java/lang/System", name := "arraycopy", desc := "(Ljava/lang/Object;ILjava/lang/Object;II)V" } : Jvm.MethodName)) ∈ xT := xT_at 385 (by decide +kernel) (by decide +kernel)
theorem d_Parting_part_28 : decode M_Parting_part.2.1 28 = .ok (.iconst 0, 1) := by decide +kernel
theorem d_Parting_part_29 : decode M_Parting_part.2.1 29 = .ok (.istore 4, 2) := by decide +kernel
abbrev y_MT_classes : MethodName := ⟨"MarkerText", "classes", "(I)I"⟩
abbrev M_MT_classes : XMt := (y_MT_classes, prog_1_method_12_code, 3, (some .int))
theorem d_MT_classes_0 : decode M_MT_classes.2.1 0 = .ok (.iload_n 1, 1) := by decide +kernel
theorem d_MT_classes_1 : decode M_MT_classes.2.1 1 = .ok (.iconst 1, 1) := by decide +kernel
theorem d_MT_classes_2 : decode M_MT_classes.2.1 2 = .ok (.aload_n 0, 1) := by decide +kernel
theorem d_MT_classes_3 : decode M_MT_classes.2.1 3 = .ok (.getfield 32, 3) := by decide +kernel
theorem d_MT_classes_6 : decode M_MT_classes.2.1 6 = .ok (.ishl, 1) := by decide +kernel
theorem d_MT_classes_7 : decode M_MT_classes.2.1 7 = .ok (.iconst 1, 1) := by decide +kernel
theorem d_MT_classes_8 : decode M_MT_classes.2.1 8 = .ok (.isub, 1) := by decide +kernel
theorem d_MT_classes_9 : decode M_MT_classes.2.1 9 = .ok (.iand, 1) := by decide +kernel
theorem d_MT_classes_10 : decode M_MT_classes.2.1 10 = .ok (.istore_n 2, 1) := by decide +kernel
theorem d_MT_classes_11 : decode M_MT_classes.2.1 11 = .ok (.aload_n 0, 1) := by decide +kernel
theorem d_MT_classes_12 : decode M_MT_classes.2.1 12 = .ok (.getfield 45, 3) := by decide +kernel
theorem d_MT_classes_15 : decode M_MT_classes.2.1 15 = .ok (.aload_n 0, 1) := by decide +kernel
theorem d_MT_classes_16 : decode M_MT_classes.2.1 16 = .ok (.getfield 18, 3) := by decide +kernel
theorem d_MT_classes_19 : decode M_MT_classes.2.1 19 = .ok (.aload_n 0, 1) := by decide +kernel
theorem d_MT_classes_20 : decode M_MT_classes.2.1 20 = .ok (.getfield 28, 3) := by decide +kernel
theorem d_MT_classes_23 : decode M_MT_classes.2.1 23 = .ok (.iload_n 2, 1) := by decide +kernel
theorem d_MT_classes_24 : decode M_MT_classes.2.1 24 = .ok (.invokevirtual 165, 3) := by decide +kernel
theorem d_MT_classes_27 : decode M_MT_classes.2.1 27 = .ok (.ifCond .ne 5, 3) := by decide +kernel
theorem d_MT_classes_32 : decode M_MT_classes.2.1 32 = .ok (.aload_n 0, 1) := by decide +kernel
theorem d_MT_classes_33 : decode M_MT_classes.2.1 33 = .ok (.getfield 52, 3) := by decide +kernel
theorem d_MT_classes_36 : decode M_MT_classes.2.1 36 = .ok (.aload_n 0, 1) := by decide +kernel
theorem d_MT_classes_37 : decode M_MT_classes.2.1 37 = .ok (.getfield 45, 3) := by decide +kernel
theorem d_MT_classes_40 : decode M_MT_classes.2.1 40 = .ok (.aload_n 0, 1) := by decide +kernel
theorem d_MT_classes_41 : decode M_MT_classes.2.1 41 = .ok (.getfield 28, 3) := by decide +kernel
theorem d_MT_classes_44 : decode M_MT_classes.2.1 44 = .ok (.iload_n 2, 1) := by decide +kernel
theorem d_MT_classes_45 : decode M_MT_classes.2.1 45 = .ok (.invokevirtual 169, 3) := by decide +kernel
theorem xw_381 : (Jvm.Cond.code ({ cls := "MarkerText$Parting", name := "part", desc := "(LMarkerText$Choices;[LMarkerText$Condition;I)V" } : Jvm.MethodName) prog_9_method_2_code (5 : Nat) (Option.none : Option Jvm.ClassFile.FieldType)) ∈ xT := xT_at 381 (by decide +kernel) (by decide +kernel)
theorem xcb_Parting_part : xcb M_Parting_part 3 := ⟨xw_381, xw_7, by decide, by decide, by decide, by decide +kernel⟩
theorem xw_379 : (Jvm.Cond.instanceMethod ({ cls := "MarkerText$Parting", name := "part", desc := "(LMarkerText$Choices;[LMarkerText$Condition;I)V" } : Jvm.MethodName)) ∈ xT := xT_at 379 (by decide +kernel) (by decide +kernel)
theorem xw_378 : (Jvm.Cond.methodLink "MarkerText" (169 : Nat) ({ cls := "MarkerText$Parting", name := "part", desc := "(LMarkerText$Choices;[LMarkerText$Condition;I)V" } : Jvm.MethodName)) ∈ xT := xT_at 378 (by decide +kernel) (by decide +kernel)
theorem xw_380 : (Jvm.Cond.selects "MarkerText$Parting" ({ cls := "MarkerText$Parting", name := "part", desc := "(LMarkerText$Choices;[LMarkerText$Condition;I)V" } : Jvm.MethodName) ({ cls := "MarkerText$Parting", name := "part", desc := "(LMarkerText$Choices;[LMarkerText$Condition;I)V" } : Jvm.MethodName)) ∈ xT := xT_at 380 (by decide +kernel) (by decide +kernel)
theorem xcv_MT_169_Parting : xCV "MarkerText" 169 "MarkerText$Parting" M_Parting_part 3 := ⟨xcb_Parting_part, xw_379, Or.inl ⟨xw_378, Or.inl xw_380⟩⟩
theorem d_MT_classes_48 : decode M_MT_classes.2.1 48 = .ok (.aload_n 0, 1) := by decide +kernel
theorem d_MT_classes_49 : decode M_MT_classes.2.1 49 = .ok (.getfield 52, 3) := by decide +kernel
theorem d_MT_classes_52 : decode M_MT_classes.2.1 52 = .ok (.getfield 173, 3) := by decide +kernel
theorem xw_119 : (Jvm.Cond.fieldLinkNest "MarkerText" (173 : Nat) "MarkerText$Parting" "count" "I" "MarkerText") ∈ xT := xT_at 119 (by decide +kernel) (by decide +kernel)
theorem xf_MT_173_Parting : xF "MarkerText" 173 k_Parting 0 := ⟨_, _, _, "MarkerText$Parting", rfl, by decide, Or.inr ⟨_, xw_119⟩, Or.inl rfl⟩
theorem d_MT_classes_55 : decode M_MT_classes.2.1 55 = .ok (.ireturn, 1) := by decide +kernel
theorem d_MT_classes_30 : decode M_MT_classes.2.1 30 = .ok (.iconst (-1), 1) := by decide +kernel
theorem d_MT_classes_31 : decode M_MT_classes.2.1 31 = .ok (.ireturn, 1) := by decide +kernel
end
section PA3
variable {l : Launch} {G : XG} {h : XH} {c n d : Nat}
/-- the next CHOICES go to their classes -/
def ptL (Cs : List CnT) (S : Nat) (r : LyT) : Nat → Nat → List Nat → PtT → PtT
  | 0, _, _, p => p
  | k + 1, i, pk, p => ptL Cs S r k (i + 1) (advP r.2.2.1 6 pk) (cin p (trs Cs S (lvF r.1.1 r.1.2 r.2.1 pk) 8) i)
theorem c_part (hd : 164 ≤ d) {o ch ca S u co : Nat} {us st sa cas : List Nat} {Cs : List CnT} {p : PtT} (hp : isPa h o p) (hP : okP p) (hc : isCh h ch us u st sa (List.replicate 6 0) (List.replicate 6 0) co) (rq : okQ (us, u)) (rs : st.length = 6) (ra : sa.length = 6) (hsb : ∀ j, st.getD j 0 ≤ 356) (hab : ∀ j, sa.getD j 0 ≤ 20000) (hco : co ≤ 20000) (hC : isCs G h ca cas Cs) (hS : S < 256) : XM l G d M_Parting_part [.ref o, .ref ch, .ref ca, .int (nI S)] h c n (fun v h' c' n' => v = none ∧ isPa h' o (ptL Cs S ((us, u), st, sa, co) co 0 (List.replicate 6 0) (0, p.2.1, p.2.2.1, p.2.2.2.1, List.replicate 256 0, sa)) ∧ okP (ptL Cs S ((us, u), st, sa, co) co 0 (List.replicate 6 0) (0, p.2.1, p.2.2.1, p.2.2.2.1, List.replicate 256 0, sa)) ∧ okCh h' ch ∧ xonly h h' (kCh ++ kPa) ∧ c' = c ∧ n' = n) := by
  obtain ⟨d, rfl⟩ : ∃ q, d = q + 1 := ⟨d - 1, by omega⟩
  obtain ⟨rq1, rq2, rq3⟩ := id rq
  simp only at rq1 rq2 rq3
  obtain ⟨pt, ps, pf, pc, pa, hp⟩ := hp
  have hp : paP h o pt ps pf pc pa p := hp
  obtain ⟨P1, P2, P3, P4, P5, P6, P7, P8, P9, P10, P11⟩ := id hP
  refine XM.of (by decide +kernel) (Nat.le_of_ble_eq_true rfl) ?_
  have okc : ∀ {h' : XH} {pk lv : List Nat}, isCh h' ch us u st sa pk lv co → pk.length = 6 → lv.length = 6 → okCh h' ch := fun a b e => ⟨us, u, st, sa, _, _, co, a, rq1, rq2, rs, ra, b, e⟩
  have hsm : ∀ v ∈ sa, v ≤ 20001 := fun v hv => by
    obtain ⟨j, hj, rfl⟩ := List.getElem_of_mem hv
    have := hab j
    rw [List.getD_eq_getElem?_getD, List.getElem?_eq_getElem hj] at this
    have h2 : sa[j] ≤ 20000 := this
    omega
  generalize hZ : ptL Cs S ((us, u), st, sa, co) co 0 (List.replicate 6 0) (0, p.2.1, p.2.2.1, p.2.2.2.1, List.replicate 256 0, sa) = Z
  have lp : ∀ (k i : Nat) (pk : List Nat) (p1 : PtT) (h2 : XH), i + k = co → isCh h2 ch us u st sa pk (lvO us u st pk) co → isPa h2 o p1 → okP p1 → (∀ k, k < p1.1 → p1.2.2.1.getD k 0 ≤ i) → xonly h h2 (kCh ++ kPa) → pk.length = 6 → (∀ j, pk.getD j 0 ≤ 20000) → ptL Cs S ((us, u), st, sa, co) k i pk p1 = Z → XW l G M_Parting_part (d + 1) 31 [some (.ref o), some (.ref ch), some (.ref ca), some (.int (nI S)), some (.int (nI i))] [] h2 c n (fun v h' c' n' => v = none ∧ isPa h' o Z ∧ okP Z ∧ okCh h' ch ∧ xonly h h' (kCh ++ kPa) ∧ c' = c ∧ n' = n) := by
    intro k
    induction k with
    | zero =>
      intro i pk p1 h2 hi hc2 hp2 hP2 hs2 hx2 hl2 hpb he
      obtain ⟨cv, cs, ca', cp, cl, o1, -⟩ := id hc2
      refine x_iload d_Parting_part_31 rfl ?_
      refine x_aload_n d_Parting_part_33 rfl rfl ?_
      refine x_get xf_Parting_46_Choices (Or.inl o1) rfl d_Parting_part_34 ?_
      refine x_icmp_ge (tgt := 62) d_Parting_part_37 (by decide) (fun _ => ?_) (fun hn => absurd (nI_le (by omega) (by omega)) hn)
      refine x_vret d_Parting_part_62 rfl ?_
      have he' : p1 = Z := he
      rw [← he']
      exact ⟨rfl, hp2, hP2, okc hc2 hl2 (by simp [lvO]), hx2, rfl, rfl⟩
    | succ k ih =>
      intro i pk p1 h2 hi hc2 hp2 hP2 hs2 hx2 hl2 hpb he
      obtain ⟨F, hf, hn⟩ := id hx2
      obtain ⟨cv, cs, ca', cp, cl, o1, o2, o3, o4, o5, o6⟩ := id hc2
      obtain ⟨pt1, ps1, pf1, pc1, pa1, p0, -⟩ := id hp2
      have hC2 := hC.fr hf (hn _ (by decide))
      have hb := trs_lt (Cs := Cs) (S := S) (lv := lvF us u st pk) 8 (Nat.le_refl _)
      obtain ⟨y1, y2⟩ := cin_ok (ch := i) hP2 hs2 hb (by omega) (by omega)
      obtain ⟨z1, z2⟩ := advP_ok hab 6 pk (Nat.le_refl _) hl2 hpb
      refine x_iload d_Parting_part_31 rfl ?_
      refine x_aload_n d_Parting_part_33 rfl rfl ?_
      refine x_get xf_Parting_46_Choices (Or.inl o1) rfl d_Parting_part_34 ?_
      refine x_icmp_ge (tgt := 62) d_Parting_part_37 (by decide) (fun ht => absurd ht (nI_ge (by omega) (by omega))) (fun _ => ?_)
      refine x_aload_n d_Parting_part_40 rfl rfl ?_
      refine x_aload_n d_Parting_part_41 rfl rfl ?_
      refine x_aload_n d_Parting_part_42 rfl rfl ?_
      refine x_iload_n d_Parting_part_43 rfl ?_
      refine x_callV (As := [_, _]) (k := k_Choices) rfl xcv_Parting_47_Choices (Or.inl o1) (c_truths (by omega) o1 hC2 (isLv_ch rq o6) hS) rfl rfl (Nat.le_of_ble_eq_true rfl) d_Parting_part_44 ?_
      rintro v h3 c3 n3 ⟨rfl, rfl, rfl, rfl⟩
      refine x_iload d_Parting_part_47 rfl ?_
      refine x_callV (As := [_, _]) (k := k_Parting) rfl xcv_Parting_50_Parting (Or.inl p0) (c_countIn (by omega) hp2 hP2 hs2 hb (by omega) (by omega)) rfl rfl (Nat.le_of_ble_eq_true rfl) d_Parting_part_49 ?_
      rintro v h4 c4 n4 ⟨rfl, hp4, hx4, rfl, rfl⟩
      obtain ⟨F4, hf4, hn4⟩ := id hx4
      have hc4 := hc2.fr hf4 (hn4 _ (by decide))
      obtain ⟨cv4, cs4, ca4, cp4, cl4, o4', -⟩ := id hc4
      refine x_aload_n d_Parting_part_52 rfl rfl ?_
      refine x_callV (As := []) (k := k_Choices) rfl xcv_Parting_54_Choices (Or.inl o4') (c_advance (by omega) hc4 rq1 rq2 rs ra hl2 hsb hpb hab (fun i hi => (rq3 i hi).1)) rfl rfl (Nat.le_of_ble_eq_true rfl) d_Parting_part_53 ?_
      rintro v h5 c5 n5 ⟨rfl, hc5, hx5, rfl, rfl⟩
      obtain ⟨F5, hf5, hn5⟩ := id hx5
      refine x_iinc (v := nI (i + 1)) (L' := [_, _, _, _, _]) d_Parting_part_56 rfl (by exact xw_iinc1) rfl rfl ?_
      refine x_goto (tgt := 31) d_Parting_part_59 (by decide) ?_
      exact ih (i + 1) _ _ h5 (by omega) hc5 (hp4.fr hf5 (hn5 _ (by decide))) y1 y2 ((hx2.tr (hx4.mono (by decide))).tr (hx5.mono (by decide))) z1 z2 he
  refine x_aload_n d_Parting_part_0 rfl rfl ?_
  refine x_iconst (v := 0) d_Parting_part_1 (by decide) ?_
  refine x_put xf_Parting_9_Parting xp_Parting_0 rfl rfl hp.1 rfl rfl d_Parting_part_2 ?_
  show XW l G M_Parting_part (d + 1) 5 _ _ (xup h o (k_Parting, [.int 0, .ref pt, .ref ps, .ref pf, .ref pc, .ref pa])) _ _ _
  obtain ⟨hp1, hx1⟩ := hp.ob (v := 0)
  have hx1 := hx1 (k_Parting, [.int 0, .ref pt, .ref ps, .ref pf, .ref pc, .ref pa])
  have hp1 : paP (xup h o (k_Parting, [.int 0, .ref pt, .ref ps, .ref pf, .ref pc, .ref pa])) o pt ps pf pc pa (0, p.2) := hp1
  generalize xup h o (k_Parting, [.int 0, .ref pt, .ref ps, .ref pf, .ref pc, .ref pa]) = h1 at hp1 hx1
  refine x_aload_n d_Parting_part_5 rfl rfl ?_
  refine x_get xf_Parting_25_Parting (Or.inl hp1.1) rfl d_Parting_part_6 ?_
  refine x_iconst (v := 0) d_Parting_part_9 (by decide) ?_
  refine x_callS (As := [_, _]) xcs_Parting_31 (c_fill rfl hp1.2.2.2.2.1 (by show p.2.2.2.2.1.length < 2 ^ 20; omega)) rfl rfl (Nat.le_of_ble_eq_true rfl) d_Parting_part_10 ?_
  rintro v h2 c2 n2 ⟨rfl, rfl, rfl, rfl⟩
  obtain ⟨hp2, hx2⟩ := hp1.cl (us := List.replicate p.2.2.2.2.1.length 0)
  replace hx2 := hx1.tr (hx2 (k_apcl, xiv (List.replicate p.2.2.2.2.1.length 0)))
  have hp2 : paP (xup h1 pc (k_apcl, xiv (List.replicate p.2.2.2.2.1.length 0))) o pt ps pf pc pa (0, p.2.1, p.2.2.1, p.2.2.2.1, List.replicate p.2.2.2.2.1.length 0, p.2.2.2.2.2) := hp2
  show XW l G M_Parting_part (d + 1) 13 _ _ (xup h1 pc (k_apcl, xiv (List.replicate p.2.2.2.2.1.length 0))) _ _ _
  generalize xup h1 pc (k_apcl, xiv (List.replicate p.2.2.2.2.1.length 0)) = h3 at hp2 hx2
  rw [P5] at hp2
  obtain ⟨F2, hf2, hn2⟩ := id hx2
  have hc2 := hc.fr hf2 (hn2 _ (by decide))
  obtain ⟨cv2, cs2, ca2, cp2, cl2, o1, o2, o3, o4, o5, o6⟩ := id hc2
  have hl6 : (xiv sa).length = 6 := by unfold xiv; rw [List.length_map]; exact ra
  have hl7 : (xiv p.2.2.2.2.2).length = 6 := by unfold xiv; rw [List.length_map]; exact P6
  refine x_aload_n d_Parting_part_13 rfl rfl ?_
  refine x_get xf_Parting_37_Choices (Or.inl o1) rfl d_Parting_part_14 ?_
  refine x_iconst (v := 0) d_Parting_part_17 (by decide) ?_
  refine x_aload_n d_Parting_part_18 rfl rfl ?_
  refine x_get xf_Parting_28_Parting (Or.inl hp2.1) rfl d_Parting_part_19 ?_
  refine x_iconst (v := 0) d_Parting_part_22 (by decide) ?_
  refine x_bipush (v := 6) d_Parting_part_23 (by decide) ?_
  refine x_copyP (k0 := k_asamples) (k := k_apsa) rfl rfl rfl xw_385 xw_220 xw_219 xw_12 (Or.inl o4) hp2.2.2.2.2.2 (by decide) (by decide) (by decide) (by rw [hl6]; decide) (by show _ ≤ (xiv p.2.2.2.2.2).length; rw [hl7]; decide) (fun w hw => by obtain ⟨z, -, rfl⟩ := List.mem_map.mp hw; rfl) (Nat.le_of_ble_eq_true rfl) d_Parting_part_25 ?_
  refine x_hp (h' := xup h3 pa (k_apsa, xiv sa)) (by
    show xup h3 pa (k_apsa, xcopy (xiv sa) (xiv p.2.2.2.2.2) 0 0 6) = _
    unfold xcopy
    rw [List.take_zero, List.drop_zero, List.nil_append, List.take_of_length_le (by omega), Nat.zero_add, List.drop_of_length_le (by omega), List.append_nil]) ?_
  obtain ⟨hp3, hx3⟩ := hp2.sa (us := sa)
  replace hx3 := hx2.tr (hx3 (k_apsa, xiv sa))
  have hp3 : paP (xup h3 pa (k_apsa, xiv sa)) o pt ps pf pc pa (0, p.2.1, p.2.2.1, p.2.2.2.1, List.replicate 256 0, sa) := hp3
  generalize xup h3 pa (k_apsa, xiv sa) = h4 at hp3 hx3
  obtain ⟨F3, hf3, hn3⟩ := id hx3
  have hc3 := hc.fr hf3 (hn3 _ (by decide))
  refine x_iconst (v := 0) d_Parting_part_28 (by decide) ?_
  refine x_istore (L' := [_, _, _, _, _]) d_Parting_part_29 rfl rfl ?_
  exact lp co 0 (List.replicate 6 0) _ h4 (by omega) (by rw [lvO_0]; exact hc3) ⟨pt, ps, pf, pc, pa, hp3⟩ ⟨by show 0 ≤ 256; decide, P2, P3, P4, List.length_replicate, ra, P7, P8, P9, (fun v hv => by rw [List.eq_of_mem_replicate hv]; exact Nat.le_refl _), hsm⟩ (fun k hk => by cases hk) (hx3.mono (by decide)) (by decide) (fun j => by rw [rep_getD]; omega) hZ
/-- the set that a number tells -/
def stN (w : Int32) (nc : Nat) : Nat := w.toBitVec.toNat &&& (2 ^ nc - 1)
theorem stN_eq (w : Int32) {m nc : Nat} (hm : m = 2 ^ nc - 1) : w &&& nI m = nI (stN w nc) := by
  subst hm
  unfold stN
  apply Int32.toBitVec_inj.mp
  rw [Int32.toBitVec_and]
  show w.toBitVec &&& BitVec.ofNat 32 (2 ^ nc - 1) = BitVec.ofNat 32 (w.toBitVec.toNat &&& (2 ^ nc - 1))
  rw [BitVec.ofNat_and, BitVec.ofNat_toNat, BitVec.setWidth_eq]
theorem msk_at : ∀ j, j ≤ 8 → (1 : Int32) <<< (nI j &&& 31) - 1 = nI (2 ^ j - 1) ∧ 2 ^ j - 1 < 256 := by decide +kernel
theorem stN_lt {w : Int32} {nc : Nat} (hn : nc ≤ 8) : stN w nc < 256 := Nat.lt_of_le_of_lt Nat.and_le_right (msk_at nc hn).2
/-- what classes() leaves -/
def clP (Cs : List CnT) (S : Nat) (r : LyT) (p : PtT) : PtT := if r.2.2.2 ≤ 20000 then ptL Cs S r r.2.2.2 0 (List.replicate 6 0) (0, p.2.1, p.2.2.1, p.2.2.2.1, List.replicate 256 0, r.2.2.1) else p
theorem c_classes (hd : 165 ≤ d) {x ta va m na ca ea ch pa : Nat} {as kas cas t : List Nat} {Ns : List NmT} {Cs : List CnT} {il : Option Nat} {lv : Nat → Nat} {Pt : PtT} {w : Int32} (hM : isMT G h x ta va m na ca ea ch pa as kas cas t Ns Cs il lv Pt) (hv : okNC Ns Cs) : XM l G d M_MT_classes [.ref x, .int w] h c n (fun v h' c' n' => ∃ vs st sa : List Nat, vs.length = 356 ∧ st.length = 6 ∧ sa.length = 6 ∧ v = some (.int (if (lyS Ns Cs (stN w Cs.length) ((vs, 0), st, sa, 1) 6).2.2.2 ≤ 20000 then nI (clP Cs (stN w Cs.length) (lyS Ns Cs (stN w Cs.length) ((vs, 0), st, sa, 1) 6) Pt).1 else -1)) ∧ isMT G h' x ta va m na ca ea ch pa as kas cas t Ns Cs il lv (clP Cs (stN w Cs.length) (lyS Ns Cs (stN w Cs.length) ((vs, 0), st, sa, 1) 6) Pt) ∧ xonly h h' (kCh ++ kPa) ∧ c' = c ∧ n' = n) := by
  obtain ⟨d, rfl⟩ : ∃ q, d = q + 1 := ⟨d - 1, by omega⟩
  obtain ⟨e0, hB, hm, hl, hN, hC, hL, hO, hPa, hP⟩ := id hM
  obtain ⟨vs0, us0, st0, sa0, pk0, lv0, co0, ⟨cv0, cs0, ca0, cp0, cl0, o0, -⟩, -⟩ := id hO
  obtain ⟨b1, b2⟩ := msk_at Cs.length hC.2.2.1
  have hS := stN_lt (w := w) hC.2.2.1
  refine XM.of (by decide +kernel) (Nat.le_of_ble_eq_true rfl) ?_
  refine x_iload_n d_MT_classes_0 rfl ?_
  refine x_iconst (v := 1) d_MT_classes_1 (by decide) ?_
  refine x_aload_n d_MT_classes_2 rfl rfl ?_
  refine x_get xf_MT_32_MT (Or.inl e0) rfl d_MT_classes_3 ?_
  refine x_ishl d_MT_classes_6 ?_
  refine x_iconst (v := 1) d_MT_classes_7 (by decide) ?_
  refine x_isub d_MT_classes_8 ?_
  refine x_top (w := .int (nI (2 ^ Cs.length - 1))) (by rw [b1]) ?_
  refine x_iand d_MT_classes_9 ?_
  refine x_top (w := .int (nI (stN w Cs.length))) (by rw [stN_eq w rfl]) ?_
  generalize stN w Cs.length = S at hS
  refine x_istore_n (L' := [_, _, _]) d_MT_classes_10 rfl rfl ?_
  refine x_aload_n d_MT_classes_11 rfl rfl ?_
  refine x_get xf_MT_45_MT (Or.inl e0) rfl d_MT_classes_12 ?_
  refine x_aload_n d_MT_classes_15 rfl rfl ?_
  refine x_get xf_MT_18_MT (Or.inl e0) rfl d_MT_classes_16 ?_
  refine x_aload_n d_MT_classes_19 rfl rfl ?_
  refine x_get xf_MT_28_MT (Or.inl e0) rfl d_MT_classes_20 ?_
  refine x_iload_n d_MT_classes_23 rfl ?_
  refine x_callV (As := [_, _, _]) (k := k_Choices) rfl xcv_MT_165_Choices (Or.inl o0) (c_layOut (by omega) hO hN hC hS hv) rfl rfl (Nat.le_of_ble_eq_true rfl) d_MT_classes_24 ?_
  rintro v h1 c1 n1 ⟨vs, st, sa, k1, k2, k3, rfl, hc1, hx1, rfl, rfl⟩
  obtain ⟨F, hf, hn⟩ := id hx1
  have e0' := hf.1 _ _ e0 ((hn [k_MarkerText] (by decide)).at e0 (by decide))
  have hPa1 := hPa.fr hf (hn _ (by decide))
  have hC1 := hC.fr hf (hn _ (by decide))
  have r0ok : okQ (((vs, 0), st, sa, 1) : LyT).1 ∧ (((vs, 0), st, sa, 1) : LyT).2.1.length = 6 ∧ (((vs, 0), st, sa, 1) : LyT).2.2.1.length = 6 ∧ (((vs, 0), st, sa, 1) : LyT).2.2.2 ≤ 20001 := ⟨⟨k1, Nat.zero_le _, fun i hi => by cases hi⟩, k2, k3, by show 1 ≤ 20001; decide⟩
  obtain ⟨rq, rs, ra, rc⟩ := lyS_ok (S := S) hv r0ok 6
  have rb := lyS_b (S := S) hv r0ok 6 (Nat.le_refl _)
  have fin : ∀ (Q : Option Value → XH → Nat → Nat → Prop), (∀ h' v, v = some (.int (if (lyS Ns Cs S ((vs, 0), st, sa, 1) 6).2.2.2 ≤ 20000 then nI (clP Cs S (lyS Ns Cs S ((vs, 0), st, sa, 1) 6) Pt).1 else -1)) → isMT G h' x ta va m na ca ea ch pa as kas cas t Ns Cs il lv (clP Cs S (lyS Ns Cs S ((vs, 0), st, sa, 1) 6) Pt) → xonly h h' (kCh ++ kPa) → Q v h' c1 n1) → XW l G M_MT_classes (d + 1) 27 [some (.ref x), some (.int w), some (.int (nI S))] [.int (bI (decide ((lyS Ns Cs S ((vs, 0), st, sa, 1) 6).2.2.2 ≤ 20000)))] h1 c1 n1 Q := by
    intro Q hQ
    generalize lyS Ns Cs S ((vs, 0), st, sa, 1) 6 = r at hc1 rq rs ra rc rb hQ
    obtain ⟨⟨us, u⟩, st1, sa1, co⟩ := r
    simp only at hc1 rq rs ra rc rb
    obtain ⟨cv, cs, ca', cp, cl, o1, -⟩ := id hc1
    obtain ⟨pt, ps, pf, pc, pq, p0, -⟩ := id hPa1
    by_cases g : co ≤ 20000
    · rw [decide_eq_true g]
      have hsb : ∀ j, st1.getD j 0 ≤ 356 := fun j => by
        by_cases hj : j < 6
        · exact (rb j hj).2
        · rw [getD_ge (by omega)]; omega
      have hab : ∀ j, sa1.getD j 0 ≤ 20000 := fun j => by
        by_cases hj : j < 6
        · have := (rb j hj).1; omega
        · rw [getD_ge (by omega)]; omega
      refine x_if_ne (tgt := 32) d_MT_classes_27 (by decide) (fun _ => ?_) (fun hn => absurd hn (by decide))
      refine x_aload_n d_MT_classes_32 rfl rfl ?_
      refine x_get xf_MT_52_MT (Or.inl e0') rfl d_MT_classes_33 ?_
      refine x_aload_n d_MT_classes_36 rfl rfl ?_
      refine x_get xf_MT_45_MT (Or.inl e0') rfl d_MT_classes_37 ?_
      refine x_aload_n d_MT_classes_40 rfl rfl ?_
      refine x_get xf_MT_28_MT (Or.inl e0') rfl d_MT_classes_41 ?_
      refine x_iload_n d_MT_classes_44 rfl ?_
      refine x_callV (As := [_, _, _]) (k := k_Parting) rfl xcv_MT_169_Parting (Or.inl p0) (c_part (by omega) hPa1 hP hc1 rq rs ra hsb hab g hC1 hS) rfl rfl (Nat.le_of_ble_eq_true rfl) d_MT_classes_45 ?_
      rintro v h2 c2 n2 ⟨rfl, hp2, hP2, hO2, hx2, rfl, rfl⟩
      have hX2 := (hx1.mono (K2 := kCh ++ kPa) (by decide)).tr hx2
      obtain ⟨F2, hf2, hn2⟩ := id hX2
      have e2 := hf2.1 _ _ e0 ((hn2 [k_MarkerText] (by decide)).at e0 (by decide))
      obtain ⟨pt2, ps2, pf2, pc2, pq2, p02, -⟩ := id hp2
      refine x_aload_n d_MT_classes_48 rfl rfl ?_
      refine x_get xf_MT_52_MT (Or.inl e2) rfl d_MT_classes_49 ?_
      refine x_get xf_MT_173_Parting (Or.inl p02) rfl d_MT_classes_52 ?_
      refine x_iret d_MT_classes_55 rfl ?_
      have ec : clP Cs S ((us, u), st1, sa1, co) Pt = ptL Cs S ((us, u), st1, sa1, co) co 0 (List.replicate 6 0) (0, Pt.2.1, Pt.2.2.1, Pt.2.2.2.1, List.replicate 256 0, sa1) := if_pos g
      refine hQ _ _ (by rw [if_pos g, ec]) ?_ hX2
      rw [ec]
      exact hM.frC hX2 hO2 hp2 hP2
    · rw [decide_eq_false g]
      refine x_if_ne (tgt := 32) d_MT_classes_27 (by decide) (fun ht => absurd rfl ht) (fun _ => ?_)
      refine x_iconst (v := (-1)) d_MT_classes_30 (by decide) ?_
      refine x_iret d_MT_classes_31 rfl ?_
      have ec : clP Cs S ((us, u), st1, sa1, co) Pt = Pt := if_neg g
      refine hQ _ _ (by rw [if_neg g]) ?_ (hx1.mono (by decide))
      rw [ec]
      exact hM.frC (hx1.mono (by decide)) ⟨us, u, st1, sa1, _, _, co, hc1, rq.1, rq.2.1, rs, ra, by decide, by decide⟩ hPa1 hP
  exact fin _ (fun h' v e1 e2 e3 => ⟨vs, st, sa, k1, k2, k3, e1, e2, e3, rfl, rfl⟩)
end PA3
