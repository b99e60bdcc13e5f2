section
abbrev y_MT_init : MethodName := ⟨"MarkerText", "<init>", "()V"⟩
abbrev M_MT_init : XMt := (y_MT_init, prog_1_method_1_code, 1, none)
theorem d_MT_init_0 : decode M_MT_init.2.1 0 = .ok (.aload_n 0, 1) := by decide +kernel
theorem d_MT_init_1 : decode M_MT_init.2.1 1 = .ok (.invokespecial 3, 3) := by decide +kernel
theorem xw_39 : (Jvm.Cond.methodLink "MarkerText" (3 : Nat) ({ cls := "java/lang/Object", name := "<init>", desc := "()V" } : Jvm.MethodName)) ∈ xT := xT_at 39 (by decide +kernel) (by decide +kernel)
theorem d_MT_init_4 : decode M_MT_init.2.1 4 = .ok (.aload_n 0, 1) := by decide +kernel
theorem d_MT_init_5 : decode M_MT_init.2.1 5 = .ok (.new 9, 3) := by decide +kernel
theorem xw_42 : (Jvm.Cond.classLink "MarkerText" (9 : Nat) "java/lang/StringBuilder") ∈ xT := xT_at 42 (by decide +kernel) (by decide +kernel)
theorem xw_43 : (Jvm.Cond.instantiable "java/lang/StringBuilder" (4 : Nat)) ∈ xT := xT_at 43 (by decide +kernel) (by decide +kernel)
theorem xnw_MT_9 : xNw "MarkerText" 9 k_StringBuilder 4 [.null, .int 0, .int 0, .int 0] := ⟨_, _, _, rfl, rfl, by decide +kernel, xw_42, xw_43, xw_3⟩
theorem d_MT_init_8 : decode M_MT_init.2.1 8 = .ok (.dup, 1) := by decide +kernel
theorem d_MT_init_9 : decode M_MT_init.2.1 9 = .ok (.invokespecial 11, 3) := by decide +kernel
theorem xw_46 : (Jvm.Cond.code ({ cls := "java/lang/StringBuilder", name := "<init>", desc := "()V" } : Jvm.MethodName) prog_26_method_1_code (1 : Nat) (Option.none : Option Jvm.ClassFile.FieldType)) ∈ xT := xT_at 46 (by decide +kernel) (by decide +kernel)
theorem xcb_SB_init : xcb M_SB_init 0 := ⟨xw_46, xw_3, by decide, by decide, by decide, by decide +kernel⟩
theorem xw_44 : (Jvm.Cond.methodLink "MarkerText" (11 : Nat) ({ cls := "java/lang/StringBuilder", name := "<init>", desc := "()V" } : Jvm.MethodName)) ∈ xT := xT_at 44 (by decide +kernel) (by decide +kernel)
theorem xw_45 : (Jvm.Cond.instanceMethod ({ cls := "java/lang/StringBuilder", name := "<init>", desc := "()V" } : Jvm.MethodName)) ∈ xT := xT_at 45 (by decide +kernel) (by decide +kernel)
theorem xci_MT_11 : xCI "MarkerText" 11 M_SB_init 0 := ⟨xcb_SB_init, rfl, rfl, xw_45, Or.inl xw_44⟩
theorem d_MT_init_12 : decode M_MT_init.2.1 12 = .ok (.putfield 12, 3) := by decide +kernel
theorem xw_140 : (Jvm.Cond.fieldLink "MarkerText" (12 : Nat) "MarkerText" "text" "Ljava/lang/StringBuilder;") ∈ xT := xT_at 140 (by decide +kernel) (by decide +kernel)
theorem xf_MT_12_MT : xF "MarkerText" 12 k_MarkerText 0 := ⟨_, _, _, "MarkerText", rfl, by decide, Or.inl xw_140, Or.inl rfl⟩
theorem xp_MT_0 : xP k_MarkerText 0 true (.object "java/lang/StringBuilder") := ⟨_, _, _, rfl, rfl, by decide +kernel⟩
theorem d_MT_init_15 : decode M_MT_init.2.1 15 = .ok (.aload_n 0, 1) := by decide +kernel
theorem d_MT_init_16 : decode M_MT_init.2.1 16 = .ok (.bipush 6, 2) := by decide +kernel
theorem d_MT_init_18 : decode M_MT_init.2.1 18 = .ok (.anewarray 16, 3) := by decide +kernel
theorem xw_75 : (Jvm.Cond.classLink "MarkerText" (16 : Nat) "MarkerText$Name") ∈ xT := xT_at 75 (by decide +kernel) (by decide +kernel)
theorem xw_76 : (Jvm.Cond.arrayOver (Jvm.ClassFile.FieldType.object "MarkerText$Name")) ∈ xT := xT_at 76 (by decide +kernel) (by decide +kernel)
theorem d_MT_init_21 : decode M_MT_init.2.1 21 = .ok (.putfield 18, 3) := by decide +kernel
theorem xw_141 : (Jvm.Cond.fieldLink "MarkerText" (18 : Nat) "MarkerText" "names" "[LMarkerText$Name;") ∈ xT := xT_at 141 (by decide +kernel) (by decide +kernel)
theorem xf_MT_18_MT : xF "MarkerText" 18 k_MarkerText 1 := ⟨_, _, _, "MarkerText", rfl, by decide, Or.inl xw_141, Or.inl rfl⟩
theorem xp_MT_1 : xP k_MarkerText 1 true (.array (.object "MarkerText$Name")) := ⟨_, _, _, rfl, rfl, by decide +kernel⟩
theorem d_MT_init_24 : decode M_MT_init.2.1 24 = .ok (.aload_n 0, 1) := by decide +kernel
theorem d_MT_init_25 : decode M_MT_init.2.1 25 = .ok (.iconst 0, 1) := by decide +kernel
theorem d_MT_init_26 : decode M_MT_init.2.1 26 = .ok (.putfield 22, 3) := by decide +kernel
theorem xw_142 : (Jvm.Cond.fieldLink "MarkerText" (22 : Nat) "MarkerText" "nameCount" "I") ∈ xT := xT_at 142 (by decide +kernel) (by decide +kernel)
theorem xf_MT_22_MT : xF "MarkerText" 22 k_MarkerText 2 := ⟨_, _, _, "MarkerText", rfl, by decide, Or.inl xw_142, Or.inl rfl⟩
theorem xp_MT_2 : xP k_MarkerText 2 false .int := ⟨_, _, _, rfl, rfl, by decide +kernel⟩
theorem d_MT_init_29 : decode M_MT_init.2.1 29 = .ok (.aload_n 0, 1) := by decide +kernel
theorem d_MT_init_30 : decode M_MT_init.2.1 30 = .ok (.bipush 8, 2) := by decide +kernel
theorem d_MT_init_32 : decode M_MT_init.2.1 32 = .ok (.anewarray 26, 3) := by decide +kernel
theorem xw_77 : (Jvm.Cond.classLink "MarkerText" (26 : Nat) "MarkerText$Condition") ∈ xT := xT_at 77 (by decide +kernel) (by decide +kernel)
theorem xw_78 : (Jvm.Cond.arrayOver (Jvm.ClassFile.FieldType.object "MarkerText$Condition")) ∈ xT := xT_at 78 (by decide +kernel) (by decide +kernel)
theorem d_MT_init_35 : decode M_MT_init.2.1 35 = .ok (.putfield 28, 3) := by decide +kernel
theorem xw_143 : (Jvm.Cond.fieldLink "MarkerText" (28 : Nat) "MarkerText" "conditions" "[LMarkerText$Condition;") ∈ xT := xT_at 143 (by decide +kernel) (by decide +kernel)
theorem xf_MT_28_MT : xF "MarkerText" 28 k_MarkerText 3 := ⟨_, _, _, "MarkerText", rfl, by decide, Or.inl xw_143, Or.inl rfl⟩
theorem xp_MT_3 : xP k_MarkerText 3 true (.array (.object "MarkerText$Condition")) := ⟨_, _, _, rfl, rfl, by decide +kernel⟩
theorem d_MT_init_38 : decode M_MT_init.2.1 38 = .ok (.aload_n 0, 1) := by decide +kernel
theorem d_MT_init_39 : decode M_MT_init.2.1 39 = .ok (.iconst 0, 1) := by decide +kernel
theorem d_MT_init_40 : decode M_MT_init.2.1 40 = .ok (.putfield 32, 3) := by decide +kernel
theorem xw_144 : (Jvm.Cond.fieldLink "MarkerText" (32 : Nat) "MarkerText" "conditionCount" "I") ∈ xT := xT_at 144 (by decide +kernel) (by decide +kernel)
theorem xf_MT_32_MT : xF "MarkerText" 32 k_MarkerText 4 := ⟨_, _, _, "MarkerText", rfl, by decide, Or.inl xw_144, Or.inl rfl⟩
theorem xp_MT_4 : xP k_MarkerText 4 false .int := ⟨_, _, _, rfl, rfl, by decide +kernel⟩
theorem d_MT_init_43 : decode M_MT_init.2.1 43 = .ok (.aload_n 0, 1) := by decide +kernel
theorem d_MT_init_44 : decode M_MT_init.2.1 44 = .ok (.iconst (-1), 1) := by decide +kernel
theorem d_MT_init_45 : decode M_MT_init.2.1 45 = .ok (.putfield 35, 3) := by decide +kernel
theorem xw_145 : (Jvm.Cond.fieldLink "MarkerText" (35 : Nat) "MarkerText" "illPlace" "I") ∈ xT := xT_at 145 (by decide +kernel) (by decide +kernel)
theorem xf_MT_35_MT : xF "MarkerText" 35 k_MarkerText 5 := ⟨_, _, _, "MarkerText", rfl, by decide, Or.inl xw_145, Or.inl rfl⟩
theorem xp_MT_5 : xP k_MarkerText 5 false .int := ⟨_, _, _, rfl, rfl, by decide +kernel⟩
theorem d_MT_init_48 : decode M_MT_init.2.1 48 = .ok (.aload_n 0, 1) := by decide +kernel
theorem d_MT_init_49 : decode M_MT_init.2.1 49 = .ok (.bipush 6, 2) := by decide +kernel
theorem d_MT_init_51 : decode M_MT_init.2.1 51 = .ok (.newarray .long, 2) := by decide +kernel
theorem d_MT_init_53 : decode M_MT_init.2.1 53 = .ok (.putfield 38, 3) := by decide +kernel
theorem xw_146 : (Jvm.Cond.fieldLink "MarkerText" (38 : Nat) "MarkerText" "environment" "[J") ∈ xT := xT_at 146 (by decide +kernel) (by decide +kernel)
theorem xf_MT_38_MT : xF "MarkerText" 38 k_MarkerText 6 := ⟨_, _, _, "MarkerText", rfl, by decide, Or.inl xw_146, Or.inl rfl⟩
theorem xp_MT_6 : xP k_MarkerText 6 true (.array .long) := ⟨_, _, _, rfl, rfl, by decide +kernel⟩
theorem d_MT_init_56 : decode M_MT_init.2.1 56 = .ok (.aload_n 0, 1) := by decide +kernel
theorem d_MT_init_57 : decode M_MT_init.2.1 57 = .ok (.new 42, 3) := by decide +kernel
theorem xw_79 : (Jvm.Cond.classLink "MarkerText" (42 : Nat) "MarkerText$Choices") ∈ xT := xT_at 79 (by decide +kernel) (by decide +kernel)
theorem xw_80 : (Jvm.Cond.instantiable "MarkerText$Choices" (7 : Nat)) ∈ xT := xT_at 80 (by decide +kernel) (by decide +kernel)
theorem xw_6 : (Jvm.Cond.initialized "MarkerText$Choices") ∈ xT := xT_at 6 (by decide +kernel) (by decide +kernel)
theorem xnw_MT_42 : xNw "MarkerText" 42 k_Choices 7 [.null, .int 0, .null, .null, .null, .null, .int 0] := ⟨_, _, _, rfl, rfl, by decide +kernel, xw_79, xw_80, xw_6⟩
theorem d_MT_init_60 : decode M_MT_init.2.1 60 = .ok (.dup, 1) := by decide +kernel
theorem d_MT_init_61 : decode M_MT_init.2.1 61 = .ok (.invokespecial 44, 3) := by decide +kernel
theorem xw_83 : (Jvm.Cond.code ({ cls := "MarkerText$Choices", name := "<init>", desc := "()V" } : Jvm.MethodName) prog_2_method_1_code (1 : Nat) (Option.none : Option Jvm.ClassFile.FieldType)) ∈ xT := xT_at 83 (by decide +kernel) (by decide +kernel)
theorem xcb_Choices_init : xcb M_Choices_init 0 := ⟨xw_83, xw_6, by decide, by decide, by decide, by decide +kernel⟩
theorem xw_81 : (Jvm.Cond.methodLinkNest "MarkerText" (44 : Nat) ({ cls := "MarkerText$Choices", name := "<init>", desc := "()V" } : Jvm.MethodName) "MarkerText") ∈ xT := xT_at 81 (by decide +kernel) (by decide +kernel)
theorem xw_82 : (Jvm.Cond.instanceMethod ({ cls := "MarkerText$Choices", name := "<init>", desc := "()V" } : Jvm.MethodName)) ∈ xT := xT_at 82 (by decide +kernel) (by decide +kernel)
theorem xci_MT_44 : xCI "MarkerText" 44 M_Choices_init 0 := ⟨xcb_Choices_init, rfl, rfl, xw_82, Or.inr ⟨_, xw_81⟩⟩
theorem d_MT_init_64 : decode M_MT_init.2.1 64 = .ok (.putfield 45, 3) := by decide +kernel
theorem xw_147 : (Jvm.Cond.fieldLink "MarkerText" (45 : Nat) "MarkerText" "choices" "LMarkerText$Choices;") ∈ xT := xT_at 147 (by decide +kernel) (by decide +kernel)
theorem xf_MT_45_MT : xF "MarkerText" 45 k_MarkerText 7 := ⟨_, _, _, "MarkerText", rfl, by decide, Or.inl xw_147, Or.inl rfl⟩
theorem xp_MT_7 : xP k_MarkerText 7 true (.object "MarkerText$Choices") := ⟨_, _, _, rfl, rfl, by decide +kernel⟩
theorem d_MT_init_67 : decode M_MT_init.2.1 67 = .ok (.aload_n 0, 1) := by decide +kernel
theorem d_MT_init_68 : decode M_MT_init.2.1 68 = .ok (.new 49, 3) := by decide +kernel
theorem xw_112 : (Jvm.Cond.classLink "MarkerText" (49 : Nat) "MarkerText$Parting") ∈ xT := xT_at 112 (by decide +kernel) (by decide +kernel)
theorem xw_113 : (Jvm.Cond.instantiable "MarkerText$Parting" (6 : Nat)) ∈ xT := xT_at 113 (by decide +kernel) (by decide +kernel)
theorem xw_7 : (Jvm.Cond.initialized "MarkerText$Parting") ∈ xT := xT_at 7 (by decide +kernel) (by decide +kernel)
theorem xnw_MT_49 : xNw "MarkerText" 49 k_Parting 6 [.int 0, .null, .null, .null, .null, .null] := ⟨_, _, _, rfl, rfl, by decide +kernel, xw_112, xw_113, xw_7⟩
theorem d_MT_init_71 : decode M_MT_init.2.1 71 = .ok (.dup, 1) := by decide +kernel
theorem d_MT_init_72 : decode M_MT_init.2.1 72 = .ok (.invokespecial 51, 3) := by decide +kernel
theorem xw_116 : (Jvm.Cond.code ({ cls := "MarkerText$Parting", name := "<init>", desc := "()V" } : Jvm.MethodName) prog_9_method_1_code (1 : Nat) (Option.none : Option Jvm.ClassFile.FieldType)) ∈ xT := xT_at 116 (by decide +kernel) (by decide +kernel)
theorem xcb_Parting_init : xcb M_Parting_init 0 := ⟨xw_116, xw_7, by decide, by decide, by decide, by decide +kernel⟩
theorem xw_114 : (Jvm.Cond.methodLinkNest "MarkerText" (51 : Nat) ({ cls := "MarkerText$Parting", name := "<init>", desc := "()V" } : Jvm.MethodName) "MarkerText") ∈ xT := xT_at 114 (by decide +kernel) (by decide +kernel)
theorem xw_115 : (Jvm.Cond.instanceMethod ({ cls := "MarkerText$Parting", name := "<init>", desc := "()V" } : Jvm.MethodName)) ∈ xT := xT_at 115 (by decide +kernel) (by decide +kernel)
theorem xci_MT_51 : xCI "MarkerText" 51 M_Parting_init 0 := ⟨xcb_Parting_init, rfl, rfl, xw_115, Or.inr ⟨_, xw_114⟩⟩
theorem d_MT_init_75 : decode M_MT_init.2.1 75 = .ok (.putfield 52, 3) := by decide +kernel
theorem xw_148 : (Jvm.Cond.fieldLink "MarkerText" (52 : Nat) "MarkerText" "parting" "LMarkerText$Parting;") ∈ xT := xT_at 148 (by decide +kernel) (by decide +kernel)
theorem xf_MT_52_MT : xF "MarkerText" 52 k_MarkerText 8 := ⟨_, _, _, "MarkerText", rfl, by decide, Or.inl xw_148, Or.inl rfl⟩
theorem xp_MT_8 : xP k_MarkerText 8 true (.object "MarkerText$Parting") := ⟨_, _, _, rfl, rfl, by decide +kernel⟩
theorem d_MT_init_78 : decode M_MT_init.2.1 78 = .ok (.return_, 1) := by decide +kernel
end
section CH2
variable {l : Launch} {G : XG} {h : XH} {c n d : Nat}
theorem ch0.fr {h' : XH} {F : List Nat} {o : Nat} (hc : ch0 h o) (hf : xfr h h' F) (hn : xno h F [k_Choices, k_achv, k_astarts, k_asamples, k_apicks, k_achl]) : ch0 h' o := by
  obtain ⟨a, b, e, f, g, e0, e1, e2, e3, e4, e5⟩ := hc
  exact ⟨a, b, e, f, g, hf.1 _ _ e0 (hn.at e0 (by decide)), hf.1 _ _ e1 (hn.at e1 (by decide)), hf.1 _ _ e2 (hn.at e2 (by decide)), hf.1 _ _ e3 (hn.at e3 (by decide)), hf.1 _ _ e4 (hn.at e4 (by decide)), hf.1 _ _ e5 (hn.at e5 (by decide))⟩
theorem pa0.fr {h' : XH} {F : List Nat} {o : Nat} (hc : pa0 h o) (hf : xfr h h' F) (hn : xno h F [k_Parting, k_aptr, k_apsz, k_apfi, k_apcl, k_apsa]) : pa0 h' o := by
  obtain ⟨a, b, e, f, g, e0, e1, e2, e3, e4, e5⟩ := hc
  exact ⟨a, b, e, f, g, hf.1 _ _ e0 (hn.at e0 (by decide)), hf.1 _ _ e1 (hn.at e1 (by decide)), hf.1 _ _ e2 (hn.at e2 (by decide)), hf.1 _ _ e3 (hn.at e3 (by decide)), hf.1 _ _ e4 (hn.at e4 (by decide)), hf.1 _ _ e5 (hn.at e5 (by decide))⟩
abbrev mtO (ta na ca ea ch pa : Nat) : Nat × List Value := (k_MarkerText, [.ref ta, .ref na, .int 0, .ref ca, .int 0, .int (-1), .ref ea, .ref ch, .ref pa])
/-- a MarkerText as it is made -/
def mt0 (h : XH) (o : Nat) : Prop := ∃ ta va na ca ea ch pa : Nat, h o = some (mtO ta na ca ea ch pa) ∧ isB h ta va [] 16 ∧ h na = some (k_aName, List.replicate 6 .null) ∧ h ca = some (k_aCondition, List.replicate 8 .null) ∧ h ea = some (k_aenv, List.replicate 6 (.long 0)) ∧ ch0 h ch ∧ pa0 h pa
theorem mt0.fr {h' : XH} {F : List Nat} {o : Nat} (hc : mt0 h o) (hf : xfr h h' F) (hn : xno h F [k_MarkerText, k_StringBuilder, k_abyte, k_aName, k_aCondition, k_aenv, k_Choices, k_achv, k_astarts, k_asamples, k_apicks, k_achl, k_Parting, k_aptr, k_apsz, k_apfi, k_apcl, k_apsa]) : mt0 h' o := by
  obtain ⟨ta, va, na, ca, ea, ch, pa, e0, hB, e1, e2, e3, e4, e5⟩ := hc
  obtain ⟨z, bs, b1, b2, -⟩ := id hB
  exact ⟨ta, va, na, ca, ea, ch, pa, hf.1 _ _ e0 (hn.at e0 (by decide)), hB.fr hf (hn.at b1 (by decide)) (hn.at b2 (by decide)), hf.1 _ _ e1 (hn.at e1 (by decide)), hf.1 _ _ e2 (hn.at e2 (by decide)), hf.1 _ _ e3 (hn.at e3 (by decide)), e4.fr hf (hn.sub (by decide)), e5.fr hf (hn.sub (by decide))⟩
theorem c_MT_init (hd : 3 ≤ d) {o : Nat} (ho : h o = some (k_MarkerText, [.null, .null, .int 0, .null, .int 0, .int 0, .null, .null, .null])) (hc : c + 17 ≤ xCB) (hn : n + 1500 ≤ xSB) : XM l G d M_MT_init [.ref o] h c n (fun v h' c' n' => v = none ∧ mt0 h' o ∧ xfr h h' [o] ∧ c' = c + 17 ∧ n' ≤ n + 1500) := by
  obtain ⟨d, rfl⟩ : ∃ q, d = q + 1 := ⟨d - 1, by omega⟩
  refine XM.of (by decide +kernel) (Nat.le_of_ble_eq_true rfl) ?_
  have f0 : xfr h h [o] := xfr.rf
  refine x_aload_n d_MT_init_0 rfl rfl ?_
  refine x_objInit xw_39 xw_40 xw_41 (Nat.le_of_ble_eq_true rfl) d_MT_init_1 ?_
  refine x_aload_n d_MT_init_4 rfl rfl ?_
  refine x_new xnw_MT_9 (by omega) (by omega) d_MT_init_5 (fun q1 hn_q1 hk_q1 => ?_)
  refine x_dup d_MT_init_8 rfl ?_
  refine x_callI (As := []) xci_MT_11 (c_SB_init (by omega) xup_self (by omega) (by omega)) rfl rfl (Nat.le_of_ble_eq_true rfl) d_MT_init_9 ?_
  rintro v h1 c1 n1 ⟨rfl, va, hva, hB, g1, rfl, rfl⟩
  have o1 := g1.1 _ _ (xup_old ho hn_q1) (by simp; exact xneN ho hn_q1)
  refine x_putF xf_MT_12_MT xp_MT_0 ⟨_, _, _, rfl, rfl, xw_140⟩ rfl rfl rfl o1 rfl rfl d_MT_init_12 ?_
  obtain ⟨z1, bs1, b1, b2, -⟩ := id hB
  refine x_any (R := fun h2 => h2 o = some (k_MarkerText, [.ref q1, .null, .int 0, .null, .int 0, .int 0, .null, .null, .null]) ∧ isB h2 q1 va [] 16 ∧ xfr h h2 [o]) ⟨xup_self, hB.fr (F := [o]) (xfr.rf.up (Or.inl (by simp))) (by simp; exact xne b1 o1 (by decide)) (by simp; exact xne b2 o1 (by decide)), ((f0.up (Or.inr hn_q1)).tr g1 (fun q hq hq2 => by rw [List.mem_singleton] at hq2; subst hq2; exact absurd hn_q1 hq)).up (Or.inl (by simp))⟩ (fun h1 ⟨o_1, B_1, f_1⟩ => ?_)
  refine x_aload_n d_MT_init_15 rfl rfl ?_
  refine x_bipush (v := 6) d_MT_init_16 (by decide) ?_
  refine x_anew (k := k_aName) rfl xw_75 xw_76 (by decide) (by decide : Int32.toNatClampNeg 6 = 6) (by decide) (by omega) (by omega) d_MT_init_18 (fun na hn_na hk_na => ?_)
  have n_na : o ≠ na := xneN o_1 hn_na
  refine x_putF xf_MT_18_MT xp_MT_1 ⟨_, _, _, rfl, rfl, xw_141⟩ rfl rfl rfl (xup_old o_1 hn_na) rfl rfl d_MT_init_21 ?_
  have e_2 : ∀ z, xfr h1 (xup (xup h1 na z) o (k_MarkerText, [.ref q1, .ref na, .int 0, .null, .int 0, .int 0, .null, .null, .null])) [o] := fun z => (xfr.rf.up (Or.inr hn_na)).up (Or.inl (by simp))
  obtain ⟨z2, bs2, b1_1, b2_1, -⟩ := id B_1
  refine x_any (R := fun h2 => h2 o = some (k_MarkerText, [.ref q1, .ref na, .int 0, .null, .int 0, .int 0, .null, .null, .null]) ∧ isB h2 q1 va [] 16 ∧ h2 na = some (k_aName, List.replicate 6 .null) ∧ xfr h h2 [o]) ⟨(xup_self), (B_1.fr (e_2 _) (by simp; exact xne b1_1 o_1 (by decide)) (by simp; exact xne b2_1 o_1 (by decide))), (by rw [xup_ne (Ne.symm n_na), xup_self]; try rfl), (((f_1.up (Or.inr (f_1.2 _ hn_na))).up (Or.inl (by simp))))⟩ (fun h2 ⟨o_2, B_2, nae_2, f_2⟩ => ?_)
  refine x_aload_n d_MT_init_24 rfl rfl ?_
  refine x_iconst (v := 0) d_MT_init_25 (by decide) ?_
  refine x_put xf_MT_22_MT xp_MT_2 rfl rfl o_2 rfl rfl d_MT_init_26 ?_
  have e_3 : xfr h2 (xup h2 o (k_MarkerText, [.ref q1, .ref na, .int 0, .null, .int 0, .int 0, .null, .null, .null])) [o] := xfr.rf.up (Or.inl (by simp))
  obtain ⟨z3, bs3, b1_2, b2_2, -⟩ := id B_2
  refine x_any (R := fun h2 => h2 o = some (k_MarkerText, [.ref q1, .ref na, .int 0, .null, .int 0, .int 0, .null, .null, .null]) ∧ isB h2 q1 va [] 16 ∧ h2 na = some (k_aName, List.replicate 6 .null) ∧ xfr h h2 [o]) ⟨(xup_self), (B_2.fr e_3 (by simp; exact xne b1_2 o_2 (by decide)) (by simp; exact xne b2_2 o_2 (by decide))), (e_3.1 _ _ nae_2 (by simp; exact xne nae_2 o_2 (by decide))), ((f_2.up (Or.inl (by simp))))⟩ (fun h3 ⟨o_3, B_3, nae_3, f_3⟩ => ?_)
  refine x_aload_n d_MT_init_29 rfl rfl ?_
  refine x_bipush (v := 8) d_MT_init_30 (by decide) ?_
  refine x_anew (k := k_aCondition) rfl xw_77 xw_78 (by decide) (by decide : Int32.toNatClampNeg 8 = 8) (by decide) (by omega) (by omega) d_MT_init_32 (fun ca hn_ca hk_ca => ?_)
  have n_ca : o ≠ ca := xneN o_3 hn_ca
  refine x_putF xf_MT_28_MT xp_MT_3 ⟨_, _, _, rfl, rfl, xw_143⟩ rfl rfl rfl (xup_old o_3 hn_ca) rfl rfl d_MT_init_35 ?_
  have e_4 : ∀ z, xfr h3 (xup (xup h3 ca z) o (k_MarkerText, [.ref q1, .ref na, .int 0, .ref ca, .int 0, .int 0, .null, .null, .null])) [o] := fun z => (xfr.rf.up (Or.inr hn_ca)).up (Or.inl (by simp))
  obtain ⟨z4, bs4, b1_3, b2_3, -⟩ := id B_3
  refine x_any (R := fun h2 => h2 o = some (k_MarkerText, [.ref q1, .ref na, .int 0, .ref ca, .int 0, .int 0, .null, .null, .null]) ∧ isB h2 q1 va [] 16 ∧ h2 na = some (k_aName, List.replicate 6 .null) ∧ h2 ca = some (k_aCondition, List.replicate 8 .null) ∧ xfr h h2 [o]) ⟨(xup_self), (B_3.fr (e_4 _) (by simp; exact xne b1_3 o_3 (by decide)) (by simp; exact xne b2_3 o_3 (by decide))), ((e_4 _).1 _ _ nae_3 (by simp; exact xne nae_3 o_3 (by decide))), (by rw [xup_ne (Ne.symm n_ca), xup_self]; try rfl), (((f_3.up (Or.inr (f_3.2 _ hn_ca))).up (Or.inl (by simp))))⟩ (fun h4 ⟨o_4, B_4, nae_4, cae_4, f_4⟩ => ?_)
  refine x_aload_n d_MT_init_38 rfl rfl ?_
  refine x_iconst (v := 0) d_MT_init_39 (by decide) ?_
  refine x_put xf_MT_32_MT xp_MT_4 rfl rfl o_4 rfl rfl d_MT_init_40 ?_
  have e_5 : xfr h4 (xup h4 o (k_MarkerText, [.ref q1, .ref na, .int 0, .ref ca, .int 0, .int 0, .null, .null, .null])) [o] := xfr.rf.up (Or.inl (by simp))
  obtain ⟨z5, bs5, b1_4, b2_4, -⟩ := id B_4
  refine x_any (R := fun h2 => h2 o = some (k_MarkerText, [.ref q1, .ref na, .int 0, .ref ca, .int 0, .int 0, .null, .null, .null]) ∧ isB h2 q1 va [] 16 ∧ h2 na = some (k_aName, List.replicate 6 .null) ∧ h2 ca = some (k_aCondition, List.replicate 8 .null) ∧ xfr h h2 [o]) ⟨(xup_self), (B_4.fr e_5 (by simp; exact xne b1_4 o_4 (by decide)) (by simp; exact xne b2_4 o_4 (by decide))), (e_5.1 _ _ nae_4 (by simp; exact xne nae_4 o_4 (by decide))), (e_5.1 _ _ cae_4 (by simp; exact xne cae_4 o_4 (by decide))), ((f_4.up (Or.inl (by simp))))⟩ (fun h5 ⟨o_5, B_5, nae_5, cae_5, f_5⟩ => ?_)
  refine x_aload_n d_MT_init_43 rfl rfl ?_
  refine x_iconst (v := (-1)) d_MT_init_44 (by decide) ?_
  refine x_put xf_MT_35_MT xp_MT_5 rfl rfl o_5 rfl rfl d_MT_init_45 ?_
  have e_6 : xfr h5 (xup h5 o (k_MarkerText, [.ref q1, .ref na, .int 0, .ref ca, .int 0, .int (-1), .null, .null, .null])) [o] := xfr.rf.up (Or.inl (by simp))
  obtain ⟨z6, bs6, b1_5, b2_5, -⟩ := id B_5
  refine x_any (R := fun h2 => h2 o = some (k_MarkerText, [.ref q1, .ref na, .int 0, .ref ca, .int 0, .int (-1), .null, .null, .null]) ∧ isB h2 q1 va [] 16 ∧ h2 na = some (k_aName, List.replicate 6 .null) ∧ h2 ca = some (k_aCondition, List.replicate 8 .null) ∧ xfr h h2 [o]) ⟨(xup_self), (B_5.fr e_6 (by simp; exact xne b1_5 o_5 (by decide)) (by simp; exact xne b2_5 o_5 (by decide))), (e_6.1 _ _ nae_5 (by simp; exact xne nae_5 o_5 (by decide))), (e_6.1 _ _ cae_5 (by simp; exact xne cae_5 o_5 (by decide))), ((f_5.up (Or.inl (by simp))))⟩ (fun h6 ⟨o_6, B_6, nae_6, cae_6, f_6⟩ => ?_)
  refine x_aload_n d_MT_init_48 rfl rfl ?_
  refine x_bipush (v := 6) d_MT_init_49 (by decide) ?_
  refine x_newa (k := k_aenv) rfl rfl (fun _ hz => by cases hz) xw_110 (by decide) (by decide : Int32.toNatClampNeg 6 = 6) (by decide) (by omega) (by omega) d_MT_init_51 (fun ea hn_ea hk_ea => ?_)
  have n_ea : o ≠ ea := xneN o_6 hn_ea
  refine x_putF xf_MT_38_MT xp_MT_6 ⟨_, _, _, rfl, rfl, xw_146⟩ rfl rfl rfl (xup_old o_6 hn_ea) rfl rfl d_MT_init_53 ?_
  have e_7 : ∀ z, xfr h6 (xup (xup h6 ea z) o (k_MarkerText, [.ref q1, .ref na, .int 0, .ref ca, .int 0, .int (-1), .ref ea, .null, .null])) [o] := fun z => (xfr.rf.up (Or.inr hn_ea)).up (Or.inl (by simp))
  obtain ⟨z7, bs7, b1_6, b2_6, -⟩ := id B_6
  refine x_any (R := fun h2 => h2 o = some (k_MarkerText, [.ref q1, .ref na, .int 0, .ref ca, .int 0, .int (-1), .ref ea, .null, .null]) ∧ isB h2 q1 va [] 16 ∧ h2 na = some (k_aName, List.replicate 6 .null) ∧ h2 ca = some (k_aCondition, List.replicate 8 .null) ∧ h2 ea = some (k_aenv, List.replicate 6 (.long 0)) ∧ xfr h h2 [o]) ⟨(xup_self), (B_6.fr (e_7 _) (by simp; exact xne b1_6 o_6 (by decide)) (by simp; exact xne b2_6 o_6 (by decide))), ((e_7 _).1 _ _ nae_6 (by simp; exact xne nae_6 o_6 (by decide))), ((e_7 _).1 _ _ cae_6 (by simp; exact xne cae_6 o_6 (by decide))), (by rw [xup_ne (Ne.symm n_ea), xup_self]; try rfl), (((f_6.up (Or.inr (f_6.2 _ hn_ea))).up (Or.inl (by simp))))⟩ (fun h7 ⟨o_7, B_7, nae_7, cae_7, eae_7, f_7⟩ => ?_)
  refine x_aload_n d_MT_init_56 rfl rfl ?_
  refine x_new xnw_MT_42 (by omega) (by omega) d_MT_init_57 (fun ch hn_ch hk_ch => ?_)
  refine x_dup d_MT_init_60 rfl ?_
  refine x_callI (As := []) xci_MT_44 (c_Choices_init (by omega) xup_self (by omega) (by omega)) rfl rfl (Nat.le_of_ble_eq_true rfl) d_MT_init_61 ?_
  rintro v g7 c7 n7 ⟨rfl, p_7, g_7, rfl, rfl⟩
  have t_7 : xfr h7 g7 [] := (xfr.rf.up (Or.inr hn_ch)).tr g_7 (fun q hq hq2 => by rw [List.mem_singleton] at hq2; subst hq2; exact absurd hn_ch hq)
  have oo_7 := t_7.1 _ _ o_7 (by simp)
  refine x_putF xf_MT_45_MT xp_MT_7 ⟨_, _, _, rfl, rfl, xw_147⟩ rfl rfl rfl oo_7 rfl rfl d_MT_init_64 ?_
  have e_8 : xfr h7 (xup g7 o (k_MarkerText, [.ref q1, .ref na, .int 0, .ref ca, .int 0, .int (-1), .ref ea, .ref ch, .null])) [o] := (t_7.mono (by simp)).up (Or.inl (by simp))
  obtain ⟨z8, bs8, b1_7, b2_7, -⟩ := id B_7
  refine x_any (R := fun h2 => h2 o = some (k_MarkerText, [.ref q1, .ref na, .int 0, .ref ca, .int 0, .int (-1), .ref ea, .ref ch, .null]) ∧ isB h2 q1 va [] 16 ∧ h2 na = some (k_aName, List.replicate 6 .null) ∧ h2 ca = some (k_aCondition, List.replicate 8 .null) ∧ h2 ea = some (k_aenv, List.replicate 6 (.long 0)) ∧ ch0 h2 ch ∧ xfr h h2 [o]) ⟨(xup_self), (B_7.fr e_8 (by simp; exact xne b1_7 o_7 (by decide)) (by simp; exact xne b2_7 o_7 (by decide))), (e_8.1 _ _ nae_7 (by simp; exact xne nae_7 o_7 (by decide))), (e_8.1 _ _ cae_7 (by simp; exact xne cae_7 o_7 (by decide))), (e_8.1 _ _ eae_7 (by simp; exact xne eae_7 o_7 (by decide))), (p_7.fr (F := [o]) (xfr.rf.up (Or.inl (by simp))) (xno1 oo_7 (by decide))), ((f_7.tr e_8 (fun q _ hq => hq)))⟩ (fun h8 ⟨o_8, B_8, nae_8, cae_8, eae_8, che_8, f_8⟩ => ?_)
  refine x_aload_n d_MT_init_67 rfl rfl ?_
  refine x_new xnw_MT_49 (by omega) (by omega) d_MT_init_68 (fun pa hn_pa hk_pa => ?_)
  refine x_dup d_MT_init_71 rfl ?_
  refine x_callI (As := []) xci_MT_51 (c_Parting_init (by omega) xup_self (by omega) (by omega)) rfl rfl (Nat.le_of_ble_eq_true rfl) d_MT_init_72 ?_
  rintro v g8 c8 n8 ⟨rfl, p_8, g_8, rfl, rfl⟩
  have t_8 : xfr h8 g8 [] := (xfr.rf.up (Or.inr hn_pa)).tr g_8 (fun q hq hq2 => by rw [List.mem_singleton] at hq2; subst hq2; exact absurd hn_pa hq)
  have oo_8 := t_8.1 _ _ o_8 (by simp)
  refine x_putF xf_MT_52_MT xp_MT_8 ⟨_, _, _, rfl, rfl, xw_148⟩ rfl rfl rfl oo_8 rfl rfl d_MT_init_75 ?_
  have e_9 : xfr h8 (xup g8 o (k_MarkerText, [.ref q1, .ref na, .int 0, .ref ca, .int 0, .int (-1), .ref ea, .ref ch, .ref pa])) [o] := (t_8.mono (by simp)).up (Or.inl (by simp))
  obtain ⟨z9, bs9, b1_8, b2_8, -⟩ := id B_8
  refine x_any (R := fun h2 => h2 o = some (k_MarkerText, [.ref q1, .ref na, .int 0, .ref ca, .int 0, .int (-1), .ref ea, .ref ch, .ref pa]) ∧ isB h2 q1 va [] 16 ∧ h2 na = some (k_aName, List.replicate 6 .null) ∧ h2 ca = some (k_aCondition, List.replicate 8 .null) ∧ h2 ea = some (k_aenv, List.replicate 6 (.long 0)) ∧ ch0 h2 ch ∧ pa0 h2 pa ∧ xfr h h2 [o]) ⟨(xup_self), (B_8.fr e_9 (by simp; exact xne b1_8 o_8 (by decide)) (by simp; exact xne b2_8 o_8 (by decide))), (e_9.1 _ _ nae_8 (by simp; exact xne nae_8 o_8 (by decide))), (e_9.1 _ _ cae_8 (by simp; exact xne cae_8 o_8 (by decide))), (e_9.1 _ _ eae_8 (by simp; exact xne eae_8 o_8 (by decide))), (che_8.fr e_9 (xno1 o_8 (by decide))), (p_8.fr (F := [o]) (xfr.rf.up (Or.inl (by simp))) (xno1 oo_8 (by decide))), ((f_8.tr e_9 (fun q _ hq => hq)))⟩ (fun h9 ⟨o_9, B_9, nae_9, cae_9, eae_9, che_9, pae_9, f_9⟩ => ?_)
  refine x_vret d_MT_init_78 rfl ?_
  exact ⟨rfl, ⟨q1, va, na, ca, ea, ch, pa, o_9, B_9, nae_9, cae_9, eae_9, che_9, pae_9⟩, f_9, by omega, by omega⟩
end CH2
