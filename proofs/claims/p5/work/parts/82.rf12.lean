section
abbrev y_Mo_condition : MethodName := ⟨"MarkerTextModel", "condition", "()I"⟩
abbrev M_Mo_condition : XMt := (y_Mo_condition, prog_13_method_36_code, 1, (some .int))
theorem d_Mo_condition_60 : decode M_Mo_condition.2.1 60 = .ok (.aload_n 0, 1) := by decide +kernel
theorem d_Mo_condition_61 : decode M_Mo_condition.2.1 61 = .ok (.getfield 48, 3) := by decide +kernel
theorem d_Mo_condition_64 : decode M_Mo_condition.2.1 64 = .ok (.aload_n 0, 1) := by decide +kernel
theorem d_Mo_condition_65 : decode M_Mo_condition.2.1 65 = .ok (.getfield 196, 3) := by decide +kernel
theorem d_Mo_condition_68 : decode M_Mo_condition.2.1 68 = .ok (.aload_n 0, 1) := by decide +kernel
theorem d_Mo_condition_69 : decode M_Mo_condition.2.1 69 = .ok (.getfield 88, 3) := by decide +kernel
theorem d_Mo_condition_72 : decode M_Mo_condition.2.1 72 = .ok (.iconst 0, 1) := by decide +kernel
theorem d_Mo_condition_73 : decode M_Mo_condition.2.1 73 = .ok (.iaload, 1) := by decide +kernel
theorem d_Mo_condition_74 : decode M_Mo_condition.2.1 74 = .ok (.iastore, 1) := by decide +kernel
theorem d_Mo_condition_75 : decode M_Mo_condition.2.1 75 = .ok (.aload_n 0, 1) := by decide +kernel
theorem d_Mo_condition_76 : decode M_Mo_condition.2.1 76 = .ok (.dup, 1) := by decide +kernel
theorem d_Mo_condition_77 : decode M_Mo_condition.2.1 77 = .ok (.getfield 268, 3) := by decide +kernel
theorem d_Mo_condition_80 : decode M_Mo_condition.2.1 80 = .ok (.iconst 1, 1) := by decide +kernel
theorem d_Mo_condition_81 : decode M_Mo_condition.2.1 81 = .ok (.iadd, 1) := by decide +kernel
theorem d_Mo_condition_82 : decode M_Mo_condition.2.1 82 = .ok (.putfield 268, 3) := by decide +kernel
theorem xp_Mo_11 : xP k_MarkerTextModel 11 false .int := ⟨_, _, _, rfl, rfl, by decide +kernel⟩
theorem d_Mo_condition_85 : decode M_Mo_condition.2.1 85 = .ok (.aload_n 0, 1) := by decide +kernel
theorem d_Mo_condition_86 : decode M_Mo_condition.2.1 86 = .ok (.getfield 268, 3) := by decide +kernel
theorem d_Mo_condition_89 : decode M_Mo_condition.2.1 89 = .ok (.iconst 1, 1) := by decide +kernel
theorem d_Mo_condition_90 : decode M_Mo_condition.2.1 90 = .ok (.isub, 1) := by decide +kernel
theorem d_Mo_condition_91 : decode M_Mo_condition.2.1 91 = .ok (.ireturn, 1) := by decide +kernel
theorem d_Mo_condition_0 : decode M_Mo_condition.2.1 0 = .ok (.aload_n 0, 1) := by decide +kernel
theorem d_Mo_condition_1 : decode M_Mo_condition.2.1 1 = .ok (.aload_n 0, 1) := by decide +kernel
theorem d_Mo_condition_2 : decode M_Mo_condition.2.1 2 = .ok (.getfield 268, 3) := by decide +kernel
theorem d_Mo_condition_5 : decode M_Mo_condition.2.1 5 = .ok (.putfield 196, 3) := by decide +kernel
theorem xp_Mo_28 : xP k_MarkerTextModel 28 false .int := ⟨_, _, _, rfl, rfl, by decide +kernel⟩
theorem d_Mo_condition_8 : decode M_Mo_condition.2.1 8 = .ok (.aload_n 0, 1) := by decide +kernel
theorem d_Mo_condition_9 : decode M_Mo_condition.2.1 9 = .ok (.invokevirtual 271, 3) := by decide +kernel
theorem xw_1402 : (Jvm.Cond.code ({ cls := "MarkerTextModel", name := "read", desc := "()V" } : Jvm.MethodName) prog_13_method_35_code (3 : Nat) (Option.none : Option Jvm.ClassFile.FieldType)) ∈ xT := xT_at 1402 (by decide +kernel) (by decide +kernel)
theorem xcb_Mo_read : xcb M_Mo_read 0 := ⟨xw_1402, xw_8, by decide, by decide, by decide, by decide +kernel⟩
theorem xw_1401 : (Jvm.Cond.instanceMethod ({ cls := "MarkerTextModel", name := "read", desc := "()V" } : Jvm.MethodName)) ∈ xT := xT_at 1401 (by decide +kernel) (by decide +kernel)
theorem xw_1399 : (Jvm.Cond.methodLink "MarkerTextModel" (271 : Nat) ({ cls := "MarkerTextModel", name := "read", desc := "()V" } : Jvm.MethodName)) ∈ xT := xT_at 1399 (by decide +kernel) (by decide +kernel)
theorem xsel_Mo_read : Cond.selects "MarkerTextModel" y_Mo_read y_Mo_read ∈ xT := xT_sel (q := (y_Mo_read, 52)) (by decide +kernel) (by decide +kernel)
theorem xcv_Mo_271_Mo : xCV "MarkerTextModel" 271 "MarkerTextModel" M_Mo_read 0 := ⟨xcb_Mo_read, xw_1401, Or.inl ⟨xw_1399, Or.inl xsel_Mo_read⟩⟩
theorem d_Mo_condition_12 : decode M_Mo_condition.2.1 12 = .ok (.aload_n 0, 1) := by decide +kernel
theorem d_Mo_condition_13 : decode M_Mo_condition.2.1 13 = .ok (.iconst 0, 1) := by decide +kernel
theorem d_Mo_condition_14 : decode M_Mo_condition.2.1 14 = .ok (.putfield 124, 3) := by decide +kernel
theorem d_Mo_condition_17 : decode M_Mo_condition.2.1 17 = .ok (.aload_n 0, 1) := by decide +kernel
theorem d_Mo_condition_18 : decode M_Mo_condition.2.1 18 = .ok (.aload_n 0, 1) := by decide +kernel
theorem d_Mo_condition_19 : decode M_Mo_condition.2.1 19 = .ok (.getfield 190, 3) := by decide +kernel
theorem d_Mo_condition_22 : decode M_Mo_condition.2.1 22 = .ok (.putfield 81, 3) := by decide +kernel
theorem d_Mo_condition_25 : decode M_Mo_condition.2.1 25 = .ok (.aload_n 0, 1) := by decide +kernel
theorem d_Mo_condition_26 : decode M_Mo_condition.2.1 26 = .ok (.aload_n 0, 1) := by decide +kernel
theorem d_Mo_condition_27 : decode M_Mo_condition.2.1 27 = .ok (.getfield 190, 3) := by decide +kernel
theorem d_Mo_condition_30 : decode M_Mo_condition.2.1 30 = .ok (.ifCond .lt 7, 3) := by decide +kernel
theorem d_Mo_condition_37 : decode M_Mo_condition.2.1 37 = .ok (.iconst 0, 1) := by decide +kernel
theorem d_Mo_condition_38 : decode M_Mo_condition.2.1 38 = .ok (.aload_n 0, 1) := by decide +kernel
theorem d_Mo_condition_39 : decode M_Mo_condition.2.1 39 = .ok (.getfield 268, 3) := by decide +kernel
theorem d_Mo_condition_42 : decode M_Mo_condition.2.1 42 = .ok (.bipush 8, 2) := by decide +kernel
theorem d_Mo_condition_44 : decode M_Mo_condition.2.1 44 = .ok (.if_icmp .ne 7, 3) := by decide +kernel
theorem d_Mo_condition_51 : decode M_Mo_condition.2.1 51 = .ok (.iconst 0, 1) := by decide +kernel
theorem d_Mo_condition_52 : decode M_Mo_condition.2.1 52 = .ok (.invokevirtual 162, 3) := by decide +kernel
theorem d_Mo_condition_55 : decode M_Mo_condition.2.1 55 = .ok (.ifCond .eq 5, 3) := by decide +kernel
theorem d_Mo_condition_58 : decode M_Mo_condition.2.1 58 = .ok (.iconst 0, 1) := by decide +kernel
theorem d_Mo_condition_59 : decode M_Mo_condition.2.1 59 = .ok (.ireturn, 1) := by decide +kernel
theorem d_Mo_condition_47 : decode M_Mo_condition.2.1 47 = .ok (.iconst 1, 1) := by decide +kernel
theorem d_Mo_condition_48 : decode M_Mo_condition.2.1 48 = .ok (.goto 4, 3) := by decide +kernel
theorem d_Mo_condition_33 : decode M_Mo_condition.2.1 33 = .ok (.iconst 1, 1) := by decide +kernel
theorem d_Mo_condition_34 : decode M_Mo_condition.2.1 34 = .ok (.goto 4, 3) := by decide +kernel
end
section RF12
variable {l : Launch} {G : XG} {h : XH} {c n d : Nat} {o : Nat} {rf : Nat → Nat} {S : MS}
abbrev cdJ : List Nat := [0, 2, 11, 27, 28, 29, 30, 32, 33, 35]
abbrev cdA : List Nat := 16 :: 31 :: rtA
/-- how condition() ends -/
abbrev cdQ (S : MS) : Option Value → MS → Prop := fun v S' => (∃ r : Int, v = some (.int (zI r))) ∧ S'.1 2 = 0 ∧ nmOk S' ∧ csOk S' ∧ (∀ j ∈ [3, 42, 43, 44], S'.1 j = S.1 j) ∧ rSm S S' cdJ cdA [22]
theorem r_condition (hd : 8 ≤ d) (hz : szOk S) (hn : nmOk S) (hc : csOk S) : RM l G d M_Mo_condition [.ref o] o rf S (cdQ S) := by
  obtain ⟨d, rfl⟩ : ∃ q, d = q + 1 := ⟨d - 1, by omega⟩
  intro H0 c n hR
  refine XM.of (by decide +kernel) (Nat.le_of_ble_eq_true rfl) ?_
  have hX : xonly H0 H0 RKs := xonly.rf
  obtain ⟨z1, z2⟩ := id hz
  obtain ⟨k1, k2, k3⟩ := id hc
  have hs0 : rSm S (sp S 28 (S.1 11)) [28] [] [] := rSm.r0.sp (by decide)
  have hall : ∀ S1, rSm (sp S 28 (S.1 11)) S1 rtJ (31 :: rtA) [22] → rSm S S1 cdJ cdA [22] := fun S1 h1 => (rSm.r0.sp (by decide)).tr (h1.mono (by decide) (by decide) (by decide))
  have fin : ∀ (S1 S2 : MS) (t : Int), rSm (sp S 28 (S.1 11)) S1 rtJ (31 :: rtA) [22] → agO (sp S 28 (S.1 11)) S1 (S.1 11) → S2 = sp (sp (sp S1 2 0) 30 (S1.1 29)) 0 t → nmOk S2 ∧ csOk S2 ∧ (∀ j ∈ [3, 42, 43, 44], S2.1 j = S.1 j) ∧ S2.1 11 = S.1 11 ∧ agO S S2 (S.1 11) := by
    intro S1 S2 t h1 h2 e
    subst e
    have hsm : rSm S1 (sp (sp (sp S1 2 0) 30 (S1.1 29)) 0 t) [0, 2, 30] [] [] := ((rSm.r0.sp (by decide)).sp (by decide)).sp (by decide)
    have ha : agO S (sp (sp (sp S1 2 0) 30 (S1.1 29)) 0 t) (S.1 11) := ((agO.sm hs0 (by decide)).tr h2).tr (agO.sm hsm (by decide))
    have e3 : S1.1 3 = S.1 3 := h1.1 3 (by decide)
    have e5 : S1.2.1 5 = S.2.1 5 := h1.2.1 5 (by decide)
    have e7 : S1.2.1 7 = S.2.1 7 := h1.2.1 7 (by decide)
    have e11 : S1.1 11 = S.1 11 := h1.1 11 (by decide)
    refine ⟨?_, hc.ag ha e11 (Int.le_refl _), ?_, e11, ha⟩
    · show 0 ≤ S1.1 3 ∧ S1.1 3 ≤ 6 ∧ (∀ i : Int, 0 ≤ i → i < 6 → 0 ≤ gd (S1.2.1 5) i ∧ gd (S1.2.1 5) i ≤ 8) ∧ ∀ i : Int, 0 ≤ i → i < 6 → 0 ≤ gd (S1.2.1 7) i ∧ gd (S1.2.1 7) i ≤ 6
      rw [e3, e5, e7]
      exact hn
    · exact List.forall_mem_cons.mpr ⟨e3, List.forall_mem_cons.mpr ⟨h1.1 42 (by decide), List.forall_mem_cons.mpr ⟨h1.1 43 (by decide), List.forall_mem_cons.mpr ⟨h1.1 44 (by decide), fun _ hz => by cases hz⟩⟩⟩⟩
  have j60 : ∀ (S1 : MS), rSm (sp S 28 (S.1 11)) S1 rtJ (31 :: rtA) [22] → agO (sp S 28 (S.1 11)) S1 (S.1 11) → S1.1 27 ≤ S.1 2 → S.1 11 < 8 → (∃ r w', rdOk S1 [] [r] w') → RX l G M_Mo_condition (d + 1) 60 [some (.ref o)] [] H0 o rf c n (sp (sp (sp S1 2 0) 30 (S1.1 29)) 0 0) (cdQ S) := by
    intro S1 h1 h2 h27 h8 ⟨r, w, hS1⟩ h hR hX
    obtain ⟨g1, g2, g3, g4, g5⟩ := fin S1 _ 0 h1 h2 rfl
    obtain ⟨s1, s2, s3, s4, -, -, ⟨s10, s11, s12⟩, -, s14, s15, s16, s17⟩ := hS1
    have e28 : S1.1 28 = S.1 11 := h1.1 28 (by decide)
    have e11 : S1.1 11 = S.1 11 := h1.1 11 (by decide)
    have l16 : _ = 9 := hR.len 16 (by decide)
    have hr0 : gd (S1.2.1 34) 0 = r := s11.1
    have hrr := s12 r List.mem_cons_self
    rw [e28] at s14 hrr
    obtain ⟨p1, p2, -⟩ := id s14
    simp only [wsm, cnt] at s17
    refine x_aload_n d_Mo_condition_60 rfl rfl ?_
    refine x_get xf_Mo_48_Mo (Or.inl hR.1) (v := .ref (rf 16)) rfl d_Mo_condition_61 ?_
    refine x_aload_n d_Mo_condition_64 rfl rfl ?_
    refine x_get xf_Mo_196_Mo (Or.inl hR.1) (v := .int (zI (S1.1 28))) rfl d_Mo_condition_65 ?_
    have hb65 : inR (S1.1 28) := hR.2.2.2 28
    refine x_aload_n d_Mo_condition_68 rfl rfl ?_
    refine x_get xf_Mo_88_Mo (Or.inl hR.1) (v := .ref (rf 34)) rfl d_Mo_condition_69 ?_
    refine x_iconst (v := zI 0) d_Mo_condition_72 (by decide) ?_
    refine r_iald (i := 34) (us := (S1.2.1 34)) rfl (by decide) hR rfl (by omega) (by show (0 : Int) < 80; omega) d_Mo_condition_73 (fun hr73 => ?_)
    refine r_iast (i := 16) (us := (S1.2.1 16)) ⟨rfl, rfl⟩ (by decide) hR hX rfl (by show 0 ≤ S1.1 28; omega) (by show S1.1 28 < 9; omega) (by omega) d_Mo_condition_74 ?_
    intro h hR hX
    refine x_aload_n d_Mo_condition_75 rfl rfl ?_
    refine x_dup d_Mo_condition_76 rfl ?_
    refine x_get xf_Mo_268_Mo (Or.inl hR.1) (v := .int (zI (S1.1 11))) rfl d_Mo_condition_77 ?_
    have hb77 : inR (S1.1 11) := hR.2.2.2 11
    refine x_iconst (v := zI 1) d_Mo_condition_80 (by decide) ?_
    refine z_iadd d_Mo_condition_81 ?_
    refine r_put xf_Mo_268_Mo xp_Mo_11 hR hX (by omega) rfl rfl d_Mo_condition_82 ?_
    intro h hR hX
    refine x_aload_n d_Mo_condition_85 rfl rfl ?_
    refine x_get xf_Mo_268_Mo (Or.inl hR.1) (v := .int (zI ((S1.1 11) + 1))) rfl d_Mo_condition_86 ?_
    have hb86 : inR ((S1.1 11) + 1) := hR.2.2.2 11
    refine x_iconst (v := zI 1) d_Mo_condition_89 (by decide) ?_
    refine z_isub d_Mo_condition_90 ?_
    refine x_iret d_Mo_condition_91 rfl ?_
    have hag6 : agO S (sp (sa (sp (sp (sp S1 2 0) 30 (S1.1 29)) 0 0) 16 (se (S1.2.1 16) (S1.1 28) (gd (S1.2.1 34) 0))) 11 (S1.1 11 + 1)) (S.1 11) := fun cc q1 q2 => ((g5 cc q1 q2).tr (agr_se (S := sp (sp (sp S1 2 0) 30 (S1.1 29)) 0 0) (c := cc) (i := 16) (e := S1.1 28) (z := gd (S1.2.1 34) 0) (N := 9) l16 (by omega) (by omega) rfl q1 (Or.inr (Or.inr (Or.inr ⟨by decide, by omega⟩))))).tr (agr.sm ((rSm.r0 (js := [11]) (is := []) (ls := [])).sp (by decide)) (by decide))
    refine ⟨_, hR, hX, rfl, rfl, ⟨_, rfl⟩, rfl, g1, ⟨by show 0 ≤ S1.1 11 + 1; omega, by show S1.1 11 + 1 ≤ 8; omega, fun cc q1 q2 => ?_⟩, fun j hj => (by show fup _ 11 _ j = _; rw [fup_ne ((by decide : ∀ j ∈ [3, 42, 43, 44], j ≠ 11) j hj)]; exact g3 j hj), (((((hall S1 h1).sp (by decide)).sp (by decide)).sp (by decide)).sa (by decide)).sp (by decide)⟩
    replace q2 : cc < S1.1 11 + 1 := q2
    by_cases hcc : cc = S.1 11
    · subst hcc
      have e16 : gd (se (S1.2.1 16) (S1.1 28) (gd (S1.2.1 34) 0)) (S.1 11) = r := by rw [e28, gd_se_of l16 (by omega) (by omega) (by omega), if_pos rfl, hr0]
      refine ⟨w, ?_, ?_⟩
      · exact s14
      · show 128 * S.1 11 ≤ gd (se (S1.2.1 16) (S1.1 28) (gd (S1.2.1 34) 0)) (S.1 11) ∧ gd (se (S1.2.1 16) (S1.1 28) (gd (S1.2.1 34) 0)) (S.1 11) < 128 * S.1 11 + gd (S1.2.1 15) (S.1 11) ∧ w (gd (se (S1.2.1 16) (S1.1 28) (gd (S1.2.1 34) 0)) (S.1 11)) ≤ 560
        rw [e16]
        omega
    · exact (k3 cc q1 (by omega)).agr (hag6 cc q1 hcc)
  refine x_aload_n d_Mo_condition_0 rfl rfl ?_
  refine x_aload_n d_Mo_condition_1 rfl rfl ?_
  refine x_get xf_Mo_268_Mo (Or.inl hR.1) (v := .int (zI (S.1 11))) rfl d_Mo_condition_2 ?_
  have hb2 : inR (S.1 11) := hR.2.2.2 11
  refine r_put xf_Mo_196_Mo xp_Mo_28 hR hX (by omega) rfl rfl d_Mo_condition_5 ?_
  intro h hR hX
  refine x_aload_n d_Mo_condition_8 rfl rfl ?_
  refine x_callV (As := []) (k := k_MarkerTextModel) rfl xcv_Mo_271_Mo (Or.inl hR.1) (RM.ap hR (r_read (S := sp S 28 (S.1 11)) (by omega) hz hn (by show 0 ≤ S.1 11 ∧ S.1 11 ≤ 8; omega))) rfl rfl (Nat.le_of_ble_eq_true rfl) d_Mo_condition_9 ?_
  rintro v9 h cq nq ⟨S9, hR, hX9, rfl, rfl, rfl, hsm9, hag9, hor9⟩
  replace hX := hX.tr hX9
  refine x_aload_n d_Mo_condition_12 rfl rfl ?_
  refine x_iconst (v := zI 0) d_Mo_condition_13 (by decide) ?_
  refine r_put xf_Mo_124_Mo xp_Mo_2 hR hX (by omega) rfl rfl d_Mo_condition_14 ?_
  intro h hR hX
  have e11 : S9.1 11 = S.1 11 := hsm9.1 11 (by decide)
  refine x_aload_n d_Mo_condition_17 rfl rfl ?_
  refine x_aload_n d_Mo_condition_18 rfl rfl ?_
  refine x_get xf_Mo_190_Mo (Or.inl hR.1) (v := .int (zI (S9.1 29))) rfl d_Mo_condition_19 ?_
  have hb19 : inR (S9.1 29) := hR.2.2.2 29
  refine r_put xf_Mo_81_Mo xp_Mo_30 hR hX (by omega) rfl rfl d_Mo_condition_22 ?_
  intro h hR hX
  refine x_aload_n d_Mo_condition_25 rfl rfl ?_
  refine x_aload_n d_Mo_condition_26 rfl rfl ?_
  refine x_get xf_Mo_190_Mo (Or.inl hR.1) (v := .int (zI (S9.1 29))) rfl d_Mo_condition_27 ?_
  have hb27 : inR (S9.1 29) := hR.2.2.2 29
  refine z_if_lt (tgt := 37) d_Mo_condition_30 (by decide) (by omega) (fun hc30 => ?_) (fun hc30 => ?_)
  · refine x_iconst (v := zI 0) d_Mo_condition_37 (by decide) ?_
    refine x_aload_n d_Mo_condition_38 rfl rfl ?_
    refine x_get xf_Mo_268_Mo (Or.inl hR.1) (v := .int (zI (S9.1 11))) rfl d_Mo_condition_39 ?_
    have hb39 : inR (S9.1 11) := hR.2.2.2 11
    refine x_bipush (v := zI 8) d_Mo_condition_42 (by decide) ?_
    refine z_icmp_ne (tgt := 51) d_Mo_condition_44 (by decide) (by omega) (by omega) (fun hc44 => ?_) (fun hc44 => ?_)
    · refine x_iconst (v := zI 0) d_Mo_condition_51 (by decide) ?_
      refine x_callV (As := [_, _]) (k := k_MarkerTextModel) rfl xcv_Mo_162_Mo (Or.inl hR.1) (RM.ap hR (r_fails (by decide) (by decide))) rfl rfl (Nat.le_of_ble_eq_true rfl) d_Mo_condition_52 ?_
      rintro v52 h cq nq ⟨S52, hR, hX52, rfl, rfl, t52, r52, rfl, rfl, hr52⟩
      replace hX := hX.tr hX52
      refine z_if_eq (tgt := 60) d_Mo_condition_55 (by decide) (by omega) (fun hc55 => ?_) (fun hc55 => ?_)
      · obtain rfl : t52 = 0 := by omega
        rcases hor9 with hor9 | ⟨q1, q2, q3⟩
        · omega
        · exact j60 S9 hsm9 hag9 q2 (by omega) q3 _ hR hX
      · refine x_iconst (v := zI 0) d_Mo_condition_58 (by decide) ?_
        refine x_iret d_Mo_condition_59 rfl ?_
        obtain ⟨g1, g2, g3, g4, g5⟩ := fin S9 _ t52 hsm9 hag9 rfl
        exact ⟨_, hR, hX, rfl, rfl, ⟨_, rfl⟩, rfl, g1, g2, g3, (((hall S9 hsm9).sp (by decide)).sp (by decide)).sp (by decide)⟩
    · refine x_iconst (v := zI 1) d_Mo_condition_47 (by decide) ?_
      refine x_goto (tgt := 52) d_Mo_condition_48 (by decide) ?_
      refine x_callV (As := [_, _]) (k := k_MarkerTextModel) rfl xcv_Mo_162_Mo (Or.inl hR.1) (RM.ap hR (r_fails (by decide) (by decide))) rfl rfl (Nat.le_of_ble_eq_true rfl) d_Mo_condition_52 ?_
      rintro v52 h cq nq ⟨S52, hR, hX52, rfl, rfl, t52, r52, rfl, rfl, hr52⟩
      replace hX := hX.tr hX52
      refine z_if_eq (tgt := 60) d_Mo_condition_55 (by decide) (by omega) (fun hc55 => ?_) (fun hc55 => ?_)
      · obtain rfl : t52 = 0 := by omega
        rcases hor9 with hor9 | ⟨q1, q2, q3⟩
        · omega
        · exact j60 S9 hsm9 hag9 q2 (by omega) q3 _ hR hX
      · refine x_iconst (v := zI 0) d_Mo_condition_58 (by decide) ?_
        refine x_iret d_Mo_condition_59 rfl ?_
        obtain ⟨g1, g2, g3, g4, g5⟩ := fin S9 _ t52 hsm9 hag9 rfl
        exact ⟨_, hR, hX, rfl, rfl, ⟨_, rfl⟩, rfl, g1, g2, g3, (((hall S9 hsm9).sp (by decide)).sp (by decide)).sp (by decide)⟩
  · refine x_iconst (v := zI 1) d_Mo_condition_33 (by decide) ?_
    refine x_goto (tgt := 38) d_Mo_condition_34 (by decide) ?_
    refine x_aload_n d_Mo_condition_38 rfl rfl ?_
    refine x_get xf_Mo_268_Mo (Or.inl hR.1) (v := .int (zI (S9.1 11))) rfl d_Mo_condition_39 ?_
    have hb39 : inR (S9.1 11) := hR.2.2.2 11
    refine x_bipush (v := zI 8) d_Mo_condition_42 (by decide) ?_
    refine z_icmp_ne (tgt := 51) d_Mo_condition_44 (by decide) (by omega) (by omega) (fun hc44 => ?_) (fun hc44 => ?_)
    · refine x_iconst (v := zI 0) d_Mo_condition_51 (by decide) ?_
      refine x_callV (As := [_, _]) (k := k_MarkerTextModel) rfl xcv_Mo_162_Mo (Or.inl hR.1) (RM.ap hR (r_fails (by decide) (by decide))) rfl rfl (Nat.le_of_ble_eq_true rfl) d_Mo_condition_52 ?_
      rintro v52 h cq nq ⟨S52, hR, hX52, rfl, rfl, t52, r52, rfl, rfl, hr52⟩
      replace hX := hX.tr hX52
      refine z_if_eq (tgt := 60) d_Mo_condition_55 (by decide) (by omega) (fun hc55 => ?_) (fun hc55 => ?_)
      · obtain rfl : t52 = 0 := by omega
        rcases hor9 with hor9 | ⟨q1, q2, q3⟩
        · omega
        · exact j60 S9 hsm9 hag9 q2 (by omega) q3 _ hR hX
      · refine x_iconst (v := zI 0) d_Mo_condition_58 (by decide) ?_
        refine x_iret d_Mo_condition_59 rfl ?_
        obtain ⟨g1, g2, g3, g4, g5⟩ := fin S9 _ t52 hsm9 hag9 rfl
        exact ⟨_, hR, hX, rfl, rfl, ⟨_, rfl⟩, rfl, g1, g2, g3, (((hall S9 hsm9).sp (by decide)).sp (by decide)).sp (by decide)⟩
    · refine x_iconst (v := zI 1) d_Mo_condition_47 (by decide) ?_
      refine x_goto (tgt := 52) d_Mo_condition_48 (by decide) ?_
      refine x_callV (As := [_, _]) (k := k_MarkerTextModel) rfl xcv_Mo_162_Mo (Or.inl hR.1) (RM.ap hR (r_fails (by decide) (by decide))) rfl rfl (Nat.le_of_ble_eq_true rfl) d_Mo_condition_52 ?_
      rintro v52 h cq nq ⟨S52, hR, hX52, rfl, rfl, t52, r52, rfl, rfl, hr52⟩
      replace hX := hX.tr hX52
      refine z_if_eq (tgt := 60) d_Mo_condition_55 (by decide) (by omega) (fun hc55 => ?_) (fun hc55 => ?_)
      · obtain rfl : t52 = 0 := by omega
        rcases hor9 with hor9 | ⟨q1, q2, q3⟩
        · omega
        · exact j60 S9 hsm9 hag9 q2 (by omega) q3 _ hR hX
      · refine x_iconst (v := zI 0) d_Mo_condition_58 (by decide) ?_
        refine x_iret d_Mo_condition_59 rfl ?_
        obtain ⟨g1, g2, g3, g4, g5⟩ := fin S9 _ t52 hsm9 hag9 rfl
        exact ⟨_, hR, hX, rfl, rfl, ⟨_, rfl⟩, rfl, g1, g2, g3, (((hall S9 hsm9).sp (by decide)).sp (by decide)).sp (by decide)⟩
end RF12
