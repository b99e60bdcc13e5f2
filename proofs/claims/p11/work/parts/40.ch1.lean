section
abbrev y_Choices_init : MethodName := ⟨"MarkerText$Choices", "<init>", "()V"⟩
abbrev M_Choices_init : XMt := (y_Choices_init, prog_2_method_1_code, 1, none)
theorem d_Choices_init_0 : decode M_Choices_init.2.1 0 = .ok (.aload_n 0, 1) := by decide +kernel
theorem d_Choices_init_1 : decode M_Choices_init.2.1 1 = .ok (.invokespecial 3, 3) := by decide +kernel
theorem xw_84 : (Jvm.Cond.methodLink "MarkerText$Choices" (3 : Nat) ({ cls := "java/lang/Object", name := "<init>", desc := "()V" } : Jvm.MethodName)) ∈ xT := xT_at 84 (by decide +kernel) (by decide +kernel)
theorem d_Choices_init_4 : decode M_Choices_init.2.1 4 = .ok (.aload_n 0, 1) := by decide +kernel
theorem d_Choices_init_5 : decode M_Choices_init.2.1 5 = .ok (.sipush 356, 3) := by decide +kernel
theorem d_Choices_init_8 : decode M_Choices_init.2.1 8 = .ok (.newarray .long, 2) := by decide +kernel
theorem d_Choices_init_10 : decode M_Choices_init.2.1 10 = .ok (.putfield 11, 3) := by decide +kernel
theorem xw_85 : (Jvm.Cond.fieldLink "MarkerText$Choices" (11 : Nat) "MarkerText$Choices" "values" "[J") ∈ xT := xT_at 85 (by decide +kernel) (by decide +kernel)
theorem xf_Choices_11_Choices : xF "MarkerText$Choices" 11 k_Choices 0 := ⟨_, _, _, "MarkerText$Choices", rfl, by decide, Or.inl xw_85, Or.inl rfl⟩
theorem xp_Choices_0 : xP k_Choices 0 true (.array .long) := ⟨_, _, _, rfl, rfl, by decide +kernel⟩
theorem d_Choices_init_13 : decode M_Choices_init.2.1 13 = .ok (.aload_n 0, 1) := by decide +kernel
theorem d_Choices_init_14 : decode M_Choices_init.2.1 14 = .ok (.iconst 0, 1) := by decide +kernel
theorem d_Choices_init_15 : decode M_Choices_init.2.1 15 = .ok (.putfield 15, 3) := by decide +kernel
theorem xw_86 : (Jvm.Cond.fieldLink "MarkerText$Choices" (15 : Nat) "MarkerText$Choices" "used" "I") ∈ xT := xT_at 86 (by decide +kernel) (by decide +kernel)
theorem xf_Choices_15_Choices : xF "MarkerText$Choices" 15 k_Choices 1 := ⟨_, _, _, "MarkerText$Choices", rfl, by decide, Or.inl xw_86, Or.inl rfl⟩
theorem xp_Choices_1 : xP k_Choices 1 false .int := ⟨_, _, _, rfl, rfl, by decide +kernel⟩
theorem d_Choices_init_18 : decode M_Choices_init.2.1 18 = .ok (.aload_n 0, 1) := by decide +kernel
theorem d_Choices_init_19 : decode M_Choices_init.2.1 19 = .ok (.bipush 6, 2) := by decide +kernel
theorem d_Choices_init_21 : decode M_Choices_init.2.1 21 = .ok (.newarray .int, 2) := by decide +kernel
theorem xw_111 : (Jvm.Cond.arrayClass Jvm.ClassFile.FieldType.int) ∈ xT := xT_at 111 (by decide +kernel) (by decide +kernel)
theorem d_Choices_init_23 : decode M_Choices_init.2.1 23 = .ok (.putfield 19, 3) := by decide +kernel
theorem xw_87 : (Jvm.Cond.fieldLink "MarkerText$Choices" (19 : Nat) "MarkerText$Choices" "starts" "[I") ∈ xT := xT_at 87 (by decide +kernel) (by decide +kernel)
theorem xf_Choices_19_Choices : xF "MarkerText$Choices" 19 k_Choices 2 := ⟨_, _, _, "MarkerText$Choices", rfl, by decide, Or.inl xw_87, Or.inl rfl⟩
theorem xp_Choices_2 : xP k_Choices 2 true (.array .int) := ⟨_, _, _, rfl, rfl, by decide +kernel⟩
theorem d_Choices_init_26 : decode M_Choices_init.2.1 26 = .ok (.aload_n 0, 1) := by decide +kernel
theorem d_Choices_init_27 : decode M_Choices_init.2.1 27 = .ok (.bipush 6, 2) := by decide +kernel
theorem d_Choices_init_29 : decode M_Choices_init.2.1 29 = .ok (.newarray .int, 2) := by decide +kernel
theorem d_Choices_init_31 : decode M_Choices_init.2.1 31 = .ok (.putfield 23, 3) := by decide +kernel
theorem xw_88 : (Jvm.Cond.fieldLink "MarkerText$Choices" (23 : Nat) "MarkerText$Choices" "samples" "[I") ∈ xT := xT_at 88 (by decide +kernel) (by decide +kernel)
theorem xf_Choices_23_Choices : xF "MarkerText$Choices" 23 k_Choices 3 := ⟨_, _, _, "MarkerText$Choices", rfl, by decide, Or.inl xw_88, Or.inl rfl⟩
theorem xp_Choices_3 : xP k_Choices 3 true (.array .int) := ⟨_, _, _, rfl, rfl, by decide +kernel⟩
theorem d_Choices_init_34 : decode M_Choices_init.2.1 34 = .ok (.aload_n 0, 1) := by decide +kernel
theorem d_Choices_init_35 : decode M_Choices_init.2.1 35 = .ok (.bipush 6, 2) := by decide +kernel
theorem d_Choices_init_37 : decode M_Choices_init.2.1 37 = .ok (.newarray .int, 2) := by decide +kernel
theorem d_Choices_init_39 : decode M_Choices_init.2.1 39 = .ok (.putfield 26, 3) := by decide +kernel
theorem xw_90 : (Jvm.Cond.fieldLink "MarkerText$Choices" (26 : Nat) "MarkerText$Choices" "picks" "[I") ∈ xT := xT_at 90 (by decide +kernel) (by decide +kernel)
theorem xf_Choices_26_Choices : xF "MarkerText$Choices" 26 k_Choices 4 := ⟨_, _, _, "MarkerText$Choices", rfl, by decide, Or.inl xw_90, Or.inl rfl⟩
theorem xp_Choices_4 : xP k_Choices 4 true (.array .int) := ⟨_, _, _, rfl, rfl, by decide +kernel⟩
theorem d_Choices_init_42 : decode M_Choices_init.2.1 42 = .ok (.aload_n 0, 1) := by decide +kernel
theorem d_Choices_init_43 : decode M_Choices_init.2.1 43 = .ok (.bipush 6, 2) := by decide +kernel
theorem d_Choices_init_45 : decode M_Choices_init.2.1 45 = .ok (.newarray .long, 2) := by decide +kernel
theorem d_Choices_init_47 : decode M_Choices_init.2.1 47 = .ok (.putfield 29, 3) := by decide +kernel
theorem xw_91 : (Jvm.Cond.fieldLink "MarkerText$Choices" (29 : Nat) "MarkerText$Choices" "levels" "[J") ∈ xT := xT_at 91 (by decide +kernel) (by decide +kernel)
theorem xf_Choices_29_Choices : xF "MarkerText$Choices" 29 k_Choices 5 := ⟨_, _, _, "MarkerText$Choices", rfl, by decide, Or.inl xw_91, Or.inl rfl⟩
theorem xp_Choices_5 : xP k_Choices 5 true (.array .long) := ⟨_, _, _, rfl, rfl, by decide +kernel⟩
theorem d_Choices_init_50 : decode M_Choices_init.2.1 50 = .ok (.aload_n 0, 1) := by decide +kernel
theorem d_Choices_init_51 : decode M_Choices_init.2.1 51 = .ok (.iconst 0, 1) := by decide +kernel
theorem d_Choices_init_52 : decode M_Choices_init.2.1 52 = .ok (.putfield 32, 3) := by decide +kernel
theorem xw_92 : (Jvm.Cond.fieldLink "MarkerText$Choices" (32 : Nat) "MarkerText$Choices" "count" "I") ∈ xT := xT_at 92 (by decide +kernel) (by decide +kernel)
theorem xf_Choices_32_Choices : xF "MarkerText$Choices" 32 k_Choices 6 := ⟨_, _, _, "MarkerText$Choices", rfl, by decide, Or.inl xw_92, Or.inl rfl⟩
theorem xp_Choices_6 : xP k_Choices 6 false .int := ⟨_, _, _, rfl, rfl, by decide +kernel⟩
theorem d_Choices_init_55 : decode M_Choices_init.2.1 55 = .ok (.return_, 1) := by decide +kernel
abbrev y_Parting_init : MethodName := ⟨"MarkerText$Parting", "<init>", "()V"⟩
abbrev M_Parting_init : XMt := (y_Parting_init, prog_9_method_1_code, 1, none)
theorem d_Parting_init_0 : decode M_Parting_init.2.1 0 = .ok (.aload_n 0, 1) := by decide +kernel
theorem d_Parting_init_1 : decode M_Parting_init.2.1 1 = .ok (.invokespecial 3, 3) := by decide +kernel
theorem xw_117 : (Jvm.Cond.methodLink "MarkerText$Parting" (3 : Nat) ({ cls := "java/lang/Object", name := "<init>", desc := "()V" } : Jvm.MethodName)) ∈ xT := xT_at 117 (by decide +kernel) (by decide +kernel)
theorem d_Parting_init_4 : decode M_Parting_init.2.1 4 = .ok (.aload_n 0, 1) := by decide +kernel
theorem d_Parting_init_5 : decode M_Parting_init.2.1 5 = .ok (.iconst 0, 1) := by decide +kernel
theorem d_Parting_init_6 : decode M_Parting_init.2.1 6 = .ok (.putfield 9, 3) := by decide +kernel
theorem xw_118 : (Jvm.Cond.fieldLink "MarkerText$Parting" (9 : Nat) "MarkerText$Parting" "count" "I") ∈ xT := xT_at 118 (by decide +kernel) (by decide +kernel)
theorem xf_Parting_9_Parting : xF "MarkerText$Parting" 9 k_Parting 0 := ⟨_, _, _, "MarkerText$Parting", rfl, by decide, Or.inl xw_118, Or.inl rfl⟩
theorem xp_Parting_0 : xP k_Parting 0 false .int := ⟨_, _, _, rfl, rfl, by decide +kernel⟩
theorem d_Parting_init_9 : decode M_Parting_init.2.1 9 = .ok (.aload_n 0, 1) := by decide +kernel
theorem d_Parting_init_10 : decode M_Parting_init.2.1 10 = .ok (.sipush 256, 3) := by decide +kernel
theorem d_Parting_init_13 : decode M_Parting_init.2.1 13 = .ok (.newarray .int, 2) := by decide +kernel
theorem d_Parting_init_15 : decode M_Parting_init.2.1 15 = .ok (.putfield 15, 3) := by decide +kernel
theorem xw_120 : (Jvm.Cond.fieldLink "MarkerText$Parting" (15 : Nat) "MarkerText$Parting" "truths" "[I") ∈ xT := xT_at 120 (by decide +kernel) (by decide +kernel)
theorem xf_Parting_15_Parting : xF "MarkerText$Parting" 15 k_Parting 1 := ⟨_, _, _, "MarkerText$Parting", rfl, by decide, Or.inl xw_120, Or.inl rfl⟩
theorem xp_Parting_1 : xP k_Parting 1 true (.array .int) := ⟨_, _, _, rfl, rfl, by decide +kernel⟩
theorem d_Parting_init_18 : decode M_Parting_init.2.1 18 = .ok (.aload_n 0, 1) := by decide +kernel
theorem d_Parting_init_19 : decode M_Parting_init.2.1 19 = .ok (.sipush 256, 3) := by decide +kernel
theorem d_Parting_init_22 : decode M_Parting_init.2.1 22 = .ok (.newarray .int, 2) := by decide +kernel
theorem d_Parting_init_24 : decode M_Parting_init.2.1 24 = .ok (.putfield 19, 3) := by decide +kernel
theorem xw_122 : (Jvm.Cond.fieldLink "MarkerText$Parting" (19 : Nat) "MarkerText$Parting" "sizes" "[I") ∈ xT := xT_at 122 (by decide +kernel) (by decide +kernel)
theorem xf_Parting_19_Parting : xF "MarkerText$Parting" 19 k_Parting 2 := ⟨_, _, _, "MarkerText$Parting", rfl, by decide, Or.inl xw_122, Or.inl rfl⟩
theorem xp_Parting_2 : xP k_Parting 2 true (.array .int) := ⟨_, _, _, rfl, rfl, by decide +kernel⟩
theorem d_Parting_init_27 : decode M_Parting_init.2.1 27 = .ok (.aload_n 0, 1) := by decide +kernel
theorem d_Parting_init_28 : decode M_Parting_init.2.1 28 = .ok (.sipush 256, 3) := by decide +kernel
theorem d_Parting_init_31 : decode M_Parting_init.2.1 31 = .ok (.newarray .int, 2) := by decide +kernel
theorem d_Parting_init_33 : decode M_Parting_init.2.1 33 = .ok (.putfield 22, 3) := by decide +kernel
theorem xw_124 : (Jvm.Cond.fieldLink "MarkerText$Parting" (22 : Nat) "MarkerText$Parting" "firsts" "[I") ∈ xT := xT_at 124 (by decide +kernel) (by decide +kernel)
theorem xf_Parting_22_Parting : xF "MarkerText$Parting" 22 k_Parting 3 := ⟨_, _, _, "MarkerText$Parting", rfl, by decide, Or.inl xw_124, Or.inl rfl⟩
theorem xp_Parting_3 : xP k_Parting 3 true (.array .int) := ⟨_, _, _, rfl, rfl, by decide +kernel⟩
theorem d_Parting_init_36 : decode M_Parting_init.2.1 36 = .ok (.aload_n 0, 1) := by decide +kernel
theorem d_Parting_init_37 : decode M_Parting_init.2.1 37 = .ok (.sipush 256, 3) := by decide +kernel
theorem d_Parting_init_40 : decode M_Parting_init.2.1 40 = .ok (.newarray .int, 2) := by decide +kernel
theorem d_Parting_init_42 : decode M_Parting_init.2.1 42 = .ok (.putfield 25, 3) := by decide +kernel
theorem xw_125 : (Jvm.Cond.fieldLink "MarkerText$Parting" (25 : Nat) "MarkerText$Parting" "classOfTruths" "[I") ∈ xT := xT_at 125 (by decide +kernel) (by decide +kernel)
theorem xf_Parting_25_Parting : xF "MarkerText$Parting" 25 k_Parting 4 := ⟨_, _, _, "MarkerText$Parting", rfl, by decide, Or.inl xw_125, Or.inl rfl⟩
theorem xp_Parting_4 : xP k_Parting 4 true (.array .int) := ⟨_, _, _, rfl, rfl, by decide +kernel⟩
theorem d_Parting_init_45 : decode M_Parting_init.2.1 45 = .ok (.aload_n 0, 1) := by decide +kernel
theorem d_Parting_init_46 : decode M_Parting_init.2.1 46 = .ok (.bipush 6, 2) := by decide +kernel
theorem d_Parting_init_48 : decode M_Parting_init.2.1 48 = .ok (.newarray .int, 2) := by decide +kernel
theorem d_Parting_init_50 : decode M_Parting_init.2.1 50 = .ok (.putfield 28, 3) := by decide +kernel
theorem xw_126 : (Jvm.Cond.fieldLink "MarkerText$Parting" (28 : Nat) "MarkerText$Parting" "samples" "[I") ∈ xT := xT_at 126 (by decide +kernel) (by decide +kernel)
theorem xf_Parting_28_Parting : xF "MarkerText$Parting" 28 k_Parting 5 := ⟨_, _, _, "MarkerText$Parting", rfl, by decide, Or.inl xw_126, Or.inl rfl⟩
theorem xp_Parting_5 : xP k_Parting 5 true (.array .int) := ⟨_, _, _, rfl, rfl, by decide +kernel⟩
theorem d_Parting_init_53 : decode M_Parting_init.2.1 53 = .ok (.return_, 1) := by decide +kernel
end
section CH1
variable {l : Launch} {G : XG} {h : XH} {c n d : Nat}
/-- go on with what is known of the heap alone -/
theorem x_any {M : XMt} {pc : Nat} {L : List (Option Value)} {st : List Value} {Q : XPo} {R : XH → Prop} (hR : R h) (k : ∀ h2, R h2 → XX l G M d pc L st h2 c n Q) : XX l G M d pc L st h c n Q := k h hR
/-- Choices as they are made -/
def ch0 (h : XH) (o : Nat) : Prop := ∃ cv cs ca cp cl : Nat, h o = some (k_Choices, [.ref cv, .int 0, .ref cs, .ref ca, .ref cp, .ref cl, .int 0]) ∧ h cv = some (k_achv, List.replicate 356 (.long 0)) ∧ h cs = some (k_astarts, List.replicate 6 (.int 0)) ∧ h ca = some (k_asamples, List.replicate 6 (.int 0)) ∧ h cp = some (k_apicks, List.replicate 6 (.int 0)) ∧ h cl = some (k_achl, List.replicate 6 (.long 0))
theorem c_Choices_init (hd : 1 ≤ d) {o : Nat} (ho : h o = some (k_Choices, [.null, .int 0, .null, .null, .null, .null, .int 0])) (hc : c + 5 ≤ xCB) (hn : n + 380 ≤ xSB) : XM l G d M_Choices_init [.ref o] h c n (fun v h' c' n' => v = none ∧ ch0 h' o ∧ xfr h h' [o] ∧ c' = c + 5 ∧ n' = n + 380) := by
  obtain ⟨d, rfl⟩ : ∃ q, d = q + 1 := ⟨d - 1, by omega⟩
  refine XM.of (by decide +kernel) (Nat.le_of_ble_eq_true rfl) ?_
  refine x_aload_n d_Choices_init_0 rfl rfl ?_
  refine x_objInit xw_84 xw_40 xw_41 (Nat.le_of_ble_eq_true rfl) d_Choices_init_1 ?_
  have f0 : xfr h h [o] := xfr.rf
  refine x_aload_n d_Choices_init_4 rfl rfl ?_
  refine x_sipush (v := 356) d_Choices_init_5 (by decide) ?_
  refine x_newa (k := k_achv) rfl rfl (fun _ hz => by cases hz) xw_110 (by decide) (by decide : Int32.toNatClampNeg 356 = 356) (by decide) (by omega) (by omega) d_Choices_init_8 (fun cv hn_cv hk_cv => ?_)
  have n_cv : o ≠ cv := xneN ho hn_cv
  refine x_putF xf_Choices_11_Choices xp_Choices_0 ⟨_, _, _, rfl, rfl, xw_85⟩ rfl rfl rfl (xup_old ho hn_cv) rfl rfl d_Choices_init_10 ?_
  refine x_any (R := fun h2 => h2 o = some (k_Choices, [.ref cv, .int 0, .null, .null, .null, .null, .int 0]) ∧ h2 cv = some (k_achv, List.replicate 356 (.long 0)) ∧ xfr h h2 [o]) ⟨(xup_self), (by rw [xup_ne (Ne.symm n_cv), xup_self]; rfl), ((f0.up (Or.inr (f0.2 _ hn_cv))).up (Or.inl (by simp)))⟩ (fun h1 ⟨ho_1, cv_1, f_1⟩ => ?_)
  refine x_aload_n d_Choices_init_13 rfl rfl ?_
  refine x_iconst (v := 0) d_Choices_init_14 (by decide) ?_
  refine x_put xf_Choices_15_Choices xp_Choices_1 rfl rfl ho_1 rfl rfl d_Choices_init_15 ?_
  refine x_any (R := fun h2 => h2 o = some (k_Choices, [.ref cv, .int 0, .null, .null, .null, .null, .int 0]) ∧ h2 cv = some (k_achv, List.replicate 356 (.long 0)) ∧ xfr h h2 [o]) ⟨(xup_self), (by rw [xup_ne (xne cv_1 ho_1 (by decide))]; exact cv_1), (f_1.up (Or.inl (by simp)))⟩ (fun h2 ⟨ho_2, cv_2, f_2⟩ => ?_)
  refine x_aload_n d_Choices_init_18 rfl rfl ?_
  refine x_bipush (v := 6) d_Choices_init_19 (by decide) ?_
  refine x_newa (k := k_astarts) rfl rfl (fun _ hz => by cases hz) xw_111 (by decide) (by decide : Int32.toNatClampNeg 6 = 6) (by decide) (by omega) (by omega) d_Choices_init_21 (fun cs hn_cs hk_cs => ?_)
  have n_cs : o ≠ cs := xneN ho_2 hn_cs
  refine x_putF xf_Choices_19_Choices xp_Choices_2 ⟨_, _, _, rfl, rfl, xw_87⟩ rfl rfl rfl (xup_old ho_2 hn_cs) rfl rfl d_Choices_init_23 ?_
  refine x_any (R := fun h2 => h2 o = some (k_Choices, [.ref cv, .int 0, .ref cs, .null, .null, .null, .int 0]) ∧ h2 cv = some (k_achv, List.replicate 356 (.long 0)) ∧ h2 cs = some (k_astarts, List.replicate 6 (.int 0)) ∧ xfr h h2 [o]) ⟨(xup_self), (by rw [xup_ne (xne cv_2 ho_2 (by decide))]; exact xup_old cv_2 hn_cs), (by rw [xup_ne (Ne.symm n_cs), xup_self]; rfl), ((f_2.up (Or.inr (f_2.2 _ hn_cs))).up (Or.inl (by simp)))⟩ (fun h3 ⟨ho_3, cv_3, cs_3, f_3⟩ => ?_)
  refine x_aload_n d_Choices_init_26 rfl rfl ?_
  refine x_bipush (v := 6) d_Choices_init_27 (by decide) ?_
  refine x_newa (k := k_asamples) rfl rfl (fun _ hz => by cases hz) xw_111 (by decide) (by decide : Int32.toNatClampNeg 6 = 6) (by decide) (by omega) (by omega) d_Choices_init_29 (fun ca hn_ca hk_ca => ?_)
  have n_ca : o ≠ ca := xneN ho_3 hn_ca
  refine x_putF xf_Choices_23_Choices xp_Choices_3 ⟨_, _, _, rfl, rfl, xw_88⟩ rfl rfl rfl (xup_old ho_3 hn_ca) rfl rfl d_Choices_init_31 ?_
  refine x_any (R := fun h2 => h2 o = some (k_Choices, [.ref cv, .int 0, .ref cs, .ref ca, .null, .null, .int 0]) ∧ h2 cv = some (k_achv, List.replicate 356 (.long 0)) ∧ h2 cs = some (k_astarts, List.replicate 6 (.int 0)) ∧ h2 ca = some (k_asamples, List.replicate 6 (.int 0)) ∧ xfr h h2 [o]) ⟨(xup_self), (by rw [xup_ne (xne cv_3 ho_3 (by decide))]; exact xup_old cv_3 hn_ca), (by rw [xup_ne (xne cs_3 ho_3 (by decide))]; exact xup_old cs_3 hn_ca), (by rw [xup_ne (Ne.symm n_ca), xup_self]; rfl), ((f_3.up (Or.inr (f_3.2 _ hn_ca))).up (Or.inl (by simp)))⟩ (fun h4 ⟨ho_4, cv_4, cs_4, ca_4, f_4⟩ => ?_)
  refine x_aload_n d_Choices_init_34 rfl rfl ?_
  refine x_bipush (v := 6) d_Choices_init_35 (by decide) ?_
  refine x_newa (k := k_apicks) rfl rfl (fun _ hz => by cases hz) xw_111 (by decide) (by decide : Int32.toNatClampNeg 6 = 6) (by decide) (by omega) (by omega) d_Choices_init_37 (fun cp hn_cp hk_cp => ?_)
  have n_cp : o ≠ cp := xneN ho_4 hn_cp
  refine x_putF xf_Choices_26_Choices xp_Choices_4 ⟨_, _, _, rfl, rfl, xw_90⟩ rfl rfl rfl (xup_old ho_4 hn_cp) rfl rfl d_Choices_init_39 ?_
  refine x_any (R := fun h2 => h2 o = some (k_Choices, [.ref cv, .int 0, .ref cs, .ref ca, .ref cp, .null, .int 0]) ∧ h2 cv = some (k_achv, List.replicate 356 (.long 0)) ∧ h2 cs = some (k_astarts, List.replicate 6 (.int 0)) ∧ h2 ca = some (k_asamples, List.replicate 6 (.int 0)) ∧ h2 cp = some (k_apicks, List.replicate 6 (.int 0)) ∧ xfr h h2 [o]) ⟨(xup_self), (by rw [xup_ne (xne cv_4 ho_4 (by decide))]; exact xup_old cv_4 hn_cp), (by rw [xup_ne (xne cs_4 ho_4 (by decide))]; exact xup_old cs_4 hn_cp), (by rw [xup_ne (xne ca_4 ho_4 (by decide))]; exact xup_old ca_4 hn_cp), (by rw [xup_ne (Ne.symm n_cp), xup_self]; rfl), ((f_4.up (Or.inr (f_4.2 _ hn_cp))).up (Or.inl (by simp)))⟩ (fun h5 ⟨ho_5, cv_5, cs_5, ca_5, cp_5, f_5⟩ => ?_)
  refine x_aload_n d_Choices_init_42 rfl rfl ?_
  refine x_bipush (v := 6) d_Choices_init_43 (by decide) ?_
  refine x_newa (k := k_achl) rfl rfl (fun _ hz => by cases hz) xw_110 (by decide) (by decide : Int32.toNatClampNeg 6 = 6) (by decide) (by omega) (by omega) d_Choices_init_45 (fun cl hn_cl hk_cl => ?_)
  have n_cl : o ≠ cl := xneN ho_5 hn_cl
  refine x_putF xf_Choices_29_Choices xp_Choices_5 ⟨_, _, _, rfl, rfl, xw_91⟩ rfl rfl rfl (xup_old ho_5 hn_cl) rfl rfl d_Choices_init_47 ?_
  refine x_any (R := fun h2 => h2 o = some (k_Choices, [.ref cv, .int 0, .ref cs, .ref ca, .ref cp, .ref cl, .int 0]) ∧ h2 cv = some (k_achv, List.replicate 356 (.long 0)) ∧ h2 cs = some (k_astarts, List.replicate 6 (.int 0)) ∧ h2 ca = some (k_asamples, List.replicate 6 (.int 0)) ∧ h2 cp = some (k_apicks, List.replicate 6 (.int 0)) ∧ h2 cl = some (k_achl, List.replicate 6 (.long 0)) ∧ xfr h h2 [o]) ⟨(xup_self), (by rw [xup_ne (xne cv_5 ho_5 (by decide))]; exact xup_old cv_5 hn_cl), (by rw [xup_ne (xne cs_5 ho_5 (by decide))]; exact xup_old cs_5 hn_cl), (by rw [xup_ne (xne ca_5 ho_5 (by decide))]; exact xup_old ca_5 hn_cl), (by rw [xup_ne (xne cp_5 ho_5 (by decide))]; exact xup_old cp_5 hn_cl), (by rw [xup_ne (Ne.symm n_cl), xup_self]; rfl), ((f_5.up (Or.inr (f_5.2 _ hn_cl))).up (Or.inl (by simp)))⟩ (fun h6 ⟨ho_6, cv_6, cs_6, ca_6, cp_6, cl_6, f_6⟩ => ?_)
  refine x_aload_n d_Choices_init_50 rfl rfl ?_
  refine x_iconst (v := 0) d_Choices_init_51 (by decide) ?_
  refine x_put xf_Choices_32_Choices xp_Choices_6 rfl rfl ho_6 rfl rfl d_Choices_init_52 ?_
  refine x_any (R := fun h2 => h2 o = some (k_Choices, [.ref cv, .int 0, .ref cs, .ref ca, .ref cp, .ref cl, .int 0]) ∧ h2 cv = some (k_achv, List.replicate 356 (.long 0)) ∧ h2 cs = some (k_astarts, List.replicate 6 (.int 0)) ∧ h2 ca = some (k_asamples, List.replicate 6 (.int 0)) ∧ h2 cp = some (k_apicks, List.replicate 6 (.int 0)) ∧ h2 cl = some (k_achl, List.replicate 6 (.long 0)) ∧ xfr h h2 [o]) ⟨(xup_self), (by rw [xup_ne (xne cv_6 ho_6 (by decide))]; exact cv_6), (by rw [xup_ne (xne cs_6 ho_6 (by decide))]; exact cs_6), (by rw [xup_ne (xne ca_6 ho_6 (by decide))]; exact ca_6), (by rw [xup_ne (xne cp_6 ho_6 (by decide))]; exact cp_6), (by rw [xup_ne (xne cl_6 ho_6 (by decide))]; exact cl_6), (f_6.up (Or.inl (by simp)))⟩ (fun h7 ⟨ho_7, cv_7, cs_7, ca_7, cp_7, cl_7, f_7⟩ => ?_)
  refine x_vret d_Choices_init_55 rfl ?_
  exact ⟨rfl, ⟨_, _, _, _, _, ho_7, cv_7, cs_7, ca_7, cp_7, cl_7⟩, f_7, by omega, by omega⟩
/-- a Parting as it is made -/
def pa0 (h : XH) (o : Nat) : Prop := ∃ pt ps pf pc pa : Nat, h o = some (k_Parting, [.int 0, .ref pt, .ref ps, .ref pf, .ref pc, .ref pa]) ∧ h pt = some (k_aptr, List.replicate 256 (.int 0)) ∧ h ps = some (k_apsz, List.replicate 256 (.int 0)) ∧ h pf = some (k_apfi, List.replicate 256 (.int 0)) ∧ h pc = some (k_apcl, List.replicate 256 (.int 0)) ∧ h pa = some (k_apsa, List.replicate 6 (.int 0))
theorem c_Parting_init (hd : 1 ≤ d) {o : Nat} (ho : h o = some (k_Parting, [.int 0, .null, .null, .null, .null, .null])) (hc : c + 5 ≤ xCB) (hn : n + 1030 ≤ xSB) : XM l G d M_Parting_init [.ref o] h c n (fun v h' c' n' => v = none ∧ pa0 h' o ∧ xfr h h' [o] ∧ c' = c + 5 ∧ n' = n + 1030) := by
  obtain ⟨d, rfl⟩ : ∃ q, d = q + 1 := ⟨d - 1, by omega⟩
  refine XM.of (by decide +kernel) (Nat.le_of_ble_eq_true rfl) ?_
  refine x_aload_n d_Parting_init_0 rfl rfl ?_
  refine x_objInit xw_117 xw_40 xw_41 (Nat.le_of_ble_eq_true rfl) d_Parting_init_1 ?_
  have f0 : xfr h h [o] := xfr.rf
  refine x_aload_n d_Parting_init_4 rfl rfl ?_
  refine x_iconst (v := 0) d_Parting_init_5 (by decide) ?_
  refine x_put xf_Parting_9_Parting xp_Parting_0 rfl rfl ho rfl rfl d_Parting_init_6 ?_
  refine x_any (R := fun h2 => h2 o = some (k_Parting, [.int 0, .null, .null, .null, .null, .null]) ∧ xfr h h2 [o]) ⟨(xup_self), (f0.up (Or.inl (by simp)))⟩ (fun h1 ⟨ho_1, f_1⟩ => ?_)
  refine x_aload_n d_Parting_init_9 rfl rfl ?_
  refine x_sipush (v := 256) d_Parting_init_10 (by decide) ?_
  refine x_newa (k := k_aptr) rfl rfl (fun _ hz => by cases hz) xw_111 (by decide) (by decide : Int32.toNatClampNeg 256 = 256) (by decide) (by omega) (by omega) d_Parting_init_13 (fun pt hn_pt hk_pt => ?_)
  have n_pt : o ≠ pt := xneN ho_1 hn_pt
  refine x_putF xf_Parting_15_Parting xp_Parting_1 ⟨_, _, _, rfl, rfl, xw_120⟩ rfl rfl rfl (xup_old ho_1 hn_pt) rfl rfl d_Parting_init_15 ?_
  refine x_any (R := fun h2 => h2 o = some (k_Parting, [.int 0, .ref pt, .null, .null, .null, .null]) ∧ h2 pt = some (k_aptr, List.replicate 256 (.int 0)) ∧ xfr h h2 [o]) ⟨(xup_self), (by rw [xup_ne (Ne.symm n_pt), xup_self]; rfl), ((f_1.up (Or.inr (f_1.2 _ hn_pt))).up (Or.inl (by simp)))⟩ (fun h2 ⟨ho_2, pt_2, f_2⟩ => ?_)
  refine x_aload_n d_Parting_init_18 rfl rfl ?_
  refine x_sipush (v := 256) d_Parting_init_19 (by decide) ?_
  refine x_newa (k := k_apsz) rfl rfl (fun _ hz => by cases hz) xw_111 (by decide) (by decide : Int32.toNatClampNeg 256 = 256) (by decide) (by omega) (by omega) d_Parting_init_22 (fun ps hn_ps hk_ps => ?_)
  have n_ps : o ≠ ps := xneN ho_2 hn_ps
  refine x_putF xf_Parting_19_Parting xp_Parting_2 ⟨_, _, _, rfl, rfl, xw_122⟩ rfl rfl rfl (xup_old ho_2 hn_ps) rfl rfl d_Parting_init_24 ?_
  refine x_any (R := fun h2 => h2 o = some (k_Parting, [.int 0, .ref pt, .ref ps, .null, .null, .null]) ∧ h2 pt = some (k_aptr, List.replicate 256 (.int 0)) ∧ h2 ps = some (k_apsz, List.replicate 256 (.int 0)) ∧ xfr h h2 [o]) ⟨(xup_self), (by rw [xup_ne (xne pt_2 ho_2 (by decide))]; exact xup_old pt_2 hn_ps), (by rw [xup_ne (Ne.symm n_ps), xup_self]; rfl), ((f_2.up (Or.inr (f_2.2 _ hn_ps))).up (Or.inl (by simp)))⟩ (fun h3 ⟨ho_3, pt_3, ps_3, f_3⟩ => ?_)
  refine x_aload_n d_Parting_init_27 rfl rfl ?_
  refine x_sipush (v := 256) d_Parting_init_28 (by decide) ?_
  refine x_newa (k := k_apfi) rfl rfl (fun _ hz => by cases hz) xw_111 (by decide) (by decide : Int32.toNatClampNeg 256 = 256) (by decide) (by omega) (by omega) d_Parting_init_31 (fun pf hn_pf hk_pf => ?_)
  have n_pf : o ≠ pf := xneN ho_3 hn_pf
  refine x_putF xf_Parting_22_Parting xp_Parting_3 ⟨_, _, _, rfl, rfl, xw_124⟩ rfl rfl rfl (xup_old ho_3 hn_pf) rfl rfl d_Parting_init_33 ?_
  refine x_any (R := fun h2 => h2 o = some (k_Parting, [.int 0, .ref pt, .ref ps, .ref pf, .null, .null]) ∧ h2 pt = some (k_aptr, List.replicate 256 (.int 0)) ∧ h2 ps = some (k_apsz, List.replicate 256 (.int 0)) ∧ h2 pf = some (k_apfi, List.replicate 256 (.int 0)) ∧ xfr h h2 [o]) ⟨(xup_self), (by rw [xup_ne (xne pt_3 ho_3 (by decide))]; exact xup_old pt_3 hn_pf), (by rw [xup_ne (xne ps_3 ho_3 (by decide))]; exact xup_old ps_3 hn_pf), (by rw [xup_ne (Ne.symm n_pf), xup_self]; rfl), ((f_3.up (Or.inr (f_3.2 _ hn_pf))).up (Or.inl (by simp)))⟩ (fun h4 ⟨ho_4, pt_4, ps_4, pf_4, f_4⟩ => ?_)
  refine x_aload_n d_Parting_init_36 rfl rfl ?_
  refine x_sipush (v := 256) d_Parting_init_37 (by decide) ?_
  refine x_newa (k := k_apcl) rfl rfl (fun _ hz => by cases hz) xw_111 (by decide) (by decide : Int32.toNatClampNeg 256 = 256) (by decide) (by omega) (by omega) d_Parting_init_40 (fun pc hn_pc hk_pc => ?_)
  have n_pc : o ≠ pc := xneN ho_4 hn_pc
  refine x_putF xf_Parting_25_Parting xp_Parting_4 ⟨_, _, _, rfl, rfl, xw_125⟩ rfl rfl rfl (xup_old ho_4 hn_pc) rfl rfl d_Parting_init_42 ?_
  refine x_any (R := fun h2 => h2 o = some (k_Parting, [.int 0, .ref pt, .ref ps, .ref pf, .ref pc, .null]) ∧ h2 pt = some (k_aptr, List.replicate 256 (.int 0)) ∧ h2 ps = some (k_apsz, List.replicate 256 (.int 0)) ∧ h2 pf = some (k_apfi, List.replicate 256 (.int 0)) ∧ h2 pc = some (k_apcl, List.replicate 256 (.int 0)) ∧ xfr h h2 [o]) ⟨(xup_self), (by rw [xup_ne (xne pt_4 ho_4 (by decide))]; exact xup_old pt_4 hn_pc), (by rw [xup_ne (xne ps_4 ho_4 (by decide))]; exact xup_old ps_4 hn_pc), (by rw [xup_ne (xne pf_4 ho_4 (by decide))]; exact xup_old pf_4 hn_pc), (by rw [xup_ne (Ne.symm n_pc), xup_self]; rfl), ((f_4.up (Or.inr (f_4.2 _ hn_pc))).up (Or.inl (by simp)))⟩ (fun h5 ⟨ho_5, pt_5, ps_5, pf_5, pc_5, f_5⟩ => ?_)
  refine x_aload_n d_Parting_init_45 rfl rfl ?_
  refine x_bipush (v := 6) d_Parting_init_46 (by decide) ?_
  refine x_newa (k := k_apsa) rfl rfl (fun _ hz => by cases hz) xw_111 (by decide) (by decide : Int32.toNatClampNeg 6 = 6) (by decide) (by omega) (by omega) d_Parting_init_48 (fun pa hn_pa hk_pa => ?_)
  have n_pa : o ≠ pa := xneN ho_5 hn_pa
  refine x_putF xf_Parting_28_Parting xp_Parting_5 ⟨_, _, _, rfl, rfl, xw_126⟩ rfl rfl rfl (xup_old ho_5 hn_pa) rfl rfl d_Parting_init_50 ?_
  refine x_any (R := fun h2 => h2 o = some (k_Parting, [.int 0, .ref pt, .ref ps, .ref pf, .ref pc, .ref pa]) ∧ h2 pt = some (k_aptr, List.replicate 256 (.int 0)) ∧ h2 ps = some (k_apsz, List.replicate 256 (.int 0)) ∧ h2 pf = some (k_apfi, List.replicate 256 (.int 0)) ∧ h2 pc = some (k_apcl, List.replicate 256 (.int 0)) ∧ h2 pa = some (k_apsa, List.replicate 6 (.int 0)) ∧ xfr h h2 [o]) ⟨(xup_self), (by rw [xup_ne (xne pt_5 ho_5 (by decide))]; exact xup_old pt_5 hn_pa), (by rw [xup_ne (xne ps_5 ho_5 (by decide))]; exact xup_old ps_5 hn_pa), (by rw [xup_ne (xne pf_5 ho_5 (by decide))]; exact xup_old pf_5 hn_pa), (by rw [xup_ne (xne pc_5 ho_5 (by decide))]; exact xup_old pc_5 hn_pa), (by rw [xup_ne (Ne.symm n_pa), xup_self]; rfl), ((f_5.up (Or.inr (f_5.2 _ hn_pa))).up (Or.inl (by simp)))⟩ (fun h6 ⟨ho_6, pt_6, ps_6, pf_6, pc_6, pa_6, f_6⟩ => ?_)
  refine x_vret d_Parting_init_53 rfl ?_
  exact ⟨rfl, ⟨_, _, _, _, _, ho_6, pt_6, ps_6, pf_6, pc_6, pa_6⟩, f_6, by omega, by omega⟩
end CH1
