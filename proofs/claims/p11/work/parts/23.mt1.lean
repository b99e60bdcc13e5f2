section
abbrev y_MT_isSpelledAsName : MethodName := ⟨"MarkerText", "isSpelledAsName", "(Ljava/lang/String;)Z"⟩
abbrev M_MT_isSpelledAsName : XMt := (y_MT_isSpelledAsName, prog_1_method_23_code, 2, (some .boolean))
theorem d_MT_isSpelledAsName_105 : decode M_MT_isSpelledAsName.2.1 105 = .ok (.iconst 0, 1) := by decide +kernel
theorem d_MT_isSpelledAsName_106 : decode M_MT_isSpelledAsName.2.1 106 = .ok (.ireturn, 1) := by decide +kernel
theorem d_MT_isSpelledAsName_47 : decode M_MT_isSpelledAsName.2.1 47 = .ok (.aload_n 0, 1) := by decide +kernel
theorem d_MT_isSpelledAsName_48 : decode M_MT_isSpelledAsName.2.1 48 = .ok (.ldc 216, 2) := by decide +kernel
theorem d_MT_isSpelledAsName_50 : decode M_MT_isSpelledAsName.2.1 50 = .ok (.invokevirtual 218, 3) := by decide +kernel
theorem xw_681 : (Jvm.Cond.code ({ cls := "java/lang/String", name := "equals", desc := "(Ljava/lang/Object;)Z" } : Jvm.MethodName) prog_25_method_66_code (3 : Nat) (Option.some Jvm.ClassFile.FieldType.boolean)) ∈ xT := xT_at 681 (by decide +kernel) (by decide +kernel)
theorem xcb_String_equals : xcb M_String_equals 1 := ⟨xw_681, xw_4, by decide, by decide, by decide, by decide +kernel⟩
theorem xw_679 : (Jvm.Cond.instanceMethod ({ cls := "java/lang/String", name := "equals", desc := "(Ljava/lang/Object;)Z" } : Jvm.MethodName)) ∈ xT := xT_at 679 (by decide +kernel) (by decide +kernel)
theorem xw_678 : (Jvm.Cond.methodLink "MarkerText" (218 : Nat) ({ cls := "java/lang/String", name := "equals", desc := "(Ljava/lang/Object;)Z" } : Jvm.MethodName)) ∈ xT := xT_at 678 (by decide +kernel) (by decide +kernel)
theorem xw_680 : (Jvm.Cond.selects "java/lang/String" ({ cls := "java/lang/String", name := "equals", desc := "(Ljava/lang/Object;)Z" } : Jvm.MethodName) ({ cls := "java/lang/String", name := "equals", desc := "(Ljava/lang/Object;)Z" } : Jvm.MethodName)) ∈ xT := xT_at 680 (by decide +kernel) (by decide +kernel)
theorem xcv_MT_218_String : xCV "MarkerText" 218 "java/lang/String" M_String_equals 1 := ⟨xcb_String_equals, xw_679, Or.inl ⟨xw_678, Or.inl xw_680⟩⟩
theorem d_MT_isSpelledAsName_53 : decode M_MT_isSpelledAsName.2.1 53 = .ok (.ifCond .ne 52, 3) := by decide +kernel
theorem d_MT_isSpelledAsName_56 : decode M_MT_isSpelledAsName.2.1 56 = .ok (.aload_n 0, 1) := by decide +kernel
theorem d_MT_isSpelledAsName_57 : decode M_MT_isSpelledAsName.2.1 57 = .ok (.ldc 222, 2) := by decide +kernel
theorem d_MT_isSpelledAsName_59 : decode M_MT_isSpelledAsName.2.1 59 = .ok (.invokevirtual 218, 3) := by decide +kernel
theorem d_MT_isSpelledAsName_62 : decode M_MT_isSpelledAsName.2.1 62 = .ok (.ifCond .ne 43, 3) := by decide +kernel
theorem d_MT_isSpelledAsName_65 : decode M_MT_isSpelledAsName.2.1 65 = .ok (.aload_n 0, 1) := by decide +kernel
theorem d_MT_isSpelledAsName_66 : decode M_MT_isSpelledAsName.2.1 66 = .ok (.ldc 224, 2) := by decide +kernel
theorem d_MT_isSpelledAsName_68 : decode M_MT_isSpelledAsName.2.1 68 = .ok (.invokevirtual 218, 3) := by decide +kernel
theorem d_MT_isSpelledAsName_71 : decode M_MT_isSpelledAsName.2.1 71 = .ok (.ifCond .ne 34, 3) := by decide +kernel
theorem d_MT_isSpelledAsName_74 : decode M_MT_isSpelledAsName.2.1 74 = .ok (.aload_n 0, 1) := by decide +kernel
theorem d_MT_isSpelledAsName_75 : decode M_MT_isSpelledAsName.2.1 75 = .ok (.ldc 226, 2) := by decide +kernel
theorem d_MT_isSpelledAsName_77 : decode M_MT_isSpelledAsName.2.1 77 = .ok (.invokevirtual 218, 3) := by decide +kernel
theorem d_MT_isSpelledAsName_80 : decode M_MT_isSpelledAsName.2.1 80 = .ok (.ifCond .ne 25, 3) := by decide +kernel
theorem d_MT_isSpelledAsName_83 : decode M_MT_isSpelledAsName.2.1 83 = .ok (.aload_n 0, 1) := by decide +kernel
theorem d_MT_isSpelledAsName_84 : decode M_MT_isSpelledAsName.2.1 84 = .ok (.ldc 228, 2) := by decide +kernel
theorem d_MT_isSpelledAsName_86 : decode M_MT_isSpelledAsName.2.1 86 = .ok (.invokevirtual 218, 3) := by decide +kernel
theorem d_MT_isSpelledAsName_89 : decode M_MT_isSpelledAsName.2.1 89 = .ok (.ifCond .ne 16, 3) := by decide +kernel
theorem d_MT_isSpelledAsName_92 : decode M_MT_isSpelledAsName.2.1 92 = .ok (.aload_n 0, 1) := by decide +kernel
theorem d_MT_isSpelledAsName_93 : decode M_MT_isSpelledAsName.2.1 93 = .ok (.ldc 230, 2) := by decide +kernel
theorem d_MT_isSpelledAsName_95 : decode M_MT_isSpelledAsName.2.1 95 = .ok (.invokevirtual 218, 3) := by decide +kernel
theorem d_MT_isSpelledAsName_98 : decode M_MT_isSpelledAsName.2.1 98 = .ok (.ifCond .ne 7, 3) := by decide +kernel
theorem d_MT_isSpelledAsName_101 : decode M_MT_isSpelledAsName.2.1 101 = .ok (.iconst 1, 1) := by decide +kernel
theorem d_MT_isSpelledAsName_102 : decode M_MT_isSpelledAsName.2.1 102 = .ok (.goto 4, 3) := by decide +kernel
theorem d_MT_isSpelledAsName_20 : decode M_MT_isSpelledAsName.2.1 20 = .ok (.iload_n 1, 1) := by decide +kernel
theorem d_MT_isSpelledAsName_21 : decode M_MT_isSpelledAsName.2.1 21 = .ok (.aload_n 0, 1) := by decide +kernel
theorem d_MT_isSpelledAsName_22 : decode M_MT_isSpelledAsName.2.1 22 = .ok (.invokevirtual 99, 3) := by decide +kernel
theorem xw_421 : (Jvm.Cond.methodLink "MarkerText" (99 : Nat) ({ cls := "java/lang/String", name := "length", desc := "()I" } : Jvm.MethodName)) ∈ xT := xT_at 421 (by decide +kernel) (by decide +kernel)
theorem xcv_MT_99_String : xCV "MarkerText" 99 "java/lang/String" M_String_length 0 := ⟨xcb_String_length, xw_422, Or.inl ⟨xw_421, Or.inl xw_423⟩⟩
theorem d_MT_isSpelledAsName_25 : decode M_MT_isSpelledAsName.2.1 25 = .ok (.if_icmp .ge 22, 3) := by decide +kernel
theorem d_MT_isSpelledAsName_28 : decode M_MT_isSpelledAsName.2.1 28 = .ok (.aload_n 0, 1) := by decide +kernel
theorem d_MT_isSpelledAsName_29 : decode M_MT_isSpelledAsName.2.1 29 = .ok (.iload_n 1, 1) := by decide +kernel
theorem d_MT_isSpelledAsName_30 : decode M_MT_isSpelledAsName.2.1 30 = .ok (.invokevirtual 194, 3) := by decide +kernel
theorem xw_430 : (Jvm.Cond.methodLink "MarkerText" (194 : Nat) ({ cls := "java/lang/String", name := "charAt", desc := "(I)C" } : Jvm.MethodName)) ∈ xT := xT_at 430 (by decide +kernel) (by decide +kernel)
theorem xcv_MT_194_String : xCV "MarkerText" 194 "java/lang/String" M_String_charAt 1 := ⟨xcb_String_charAt, xw_431, Or.inl ⟨xw_430, Or.inl xw_432⟩⟩
theorem d_MT_isSpelledAsName_33 : decode M_MT_isSpelledAsName.2.1 33 = .ok (.invokestatic 212, 3) := by decide +kernel
theorem xw_676 : (Jvm.Cond.code ({ cls := "MarkerText", name := "isLetter", desc := "(C)Z" } : Jvm.MethodName) prog_1_method_22_code (1 : Nat) (Option.some Jvm.ClassFile.FieldType.boolean)) ∈ xT := xT_at 676 (by decide +kernel) (by decide +kernel)
theorem xw_1 : (Jvm.Cond.initialized "MarkerText") ∈ xT := xT_at 1 (by decide +kernel) (by decide +kernel)
theorem xcb_MT_isLetter : xcb M_MT_isLetter 1 := ⟨xw_676, xw_1, by decide, by decide, by decide, by decide +kernel⟩
theorem xw_674 : (Jvm.Cond.methodLink "MarkerText" (212 : Nat) ({ cls := "MarkerText", name := "isLetter", desc := "(C)Z" } : Jvm.MethodName)) ∈ xT := xT_at 674 (by decide +kernel) (by decide +kernel)
theorem xw_675 : (Jvm.Cond.static ({ cls := "MarkerText", name := "isLetter", desc := "(C)Z" } : Jvm.MethodName)) ∈ xT := xT_at 675 (by decide +kernel) (by decide +kernel)
theorem xcs_MT_212 : xCS "MarkerText" 212 M_MT_isLetter 1 := ⟨xcb_MT_isLetter, xw_675, Or.inl xw_674⟩
theorem d_MT_isSpelledAsName_36 : decode M_MT_isSpelledAsName.2.1 36 = .ok (.ifCond .ne 5, 3) := by decide +kernel
theorem d_MT_isSpelledAsName_41 : decode M_MT_isSpelledAsName.2.1 41 = .ok (.iinc 1 1, 3) := by decide +kernel
theorem d_MT_isSpelledAsName_44 : decode M_MT_isSpelledAsName.2.1 44 = .ok (.goto (-24), 3) := by decide +kernel
theorem d_MT_isSpelledAsName_39 : decode M_MT_isSpelledAsName.2.1 39 = .ok (.iconst 0, 1) := by decide +kernel
theorem d_MT_isSpelledAsName_40 : decode M_MT_isSpelledAsName.2.1 40 = .ok (.ireturn, 1) := by decide +kernel
theorem d_MT_isSpelledAsName_0 : decode M_MT_isSpelledAsName.2.1 0 = .ok (.aload_n 0, 1) := by decide +kernel
theorem d_MT_isSpelledAsName_1 : decode M_MT_isSpelledAsName.2.1 1 = .ok (.invokevirtual 137, 3) := by decide +kernel
theorem xw_673 : (Jvm.Cond.code ({ cls := "java/lang/String", name := "isEmpty", desc := "()Z" } : Jvm.MethodName) prog_25_method_55_code (1 : Nat) (Option.some Jvm.ClassFile.FieldType.boolean)) ∈ xT := xT_at 673 (by decide +kernel) (by decide +kernel)
theorem xcb_String_isEmpty : xcb M_String_isEmpty 0 := ⟨xw_673, xw_4, by decide, by decide, by decide, by decide +kernel⟩
theorem xw_671 : (Jvm.Cond.instanceMethod ({ cls := "java/lang/String", name := "isEmpty", desc := "()Z" } : Jvm.MethodName)) ∈ xT := xT_at 671 (by decide +kernel) (by decide +kernel)
theorem xw_670 : (Jvm.Cond.methodLink "MarkerText" (137 : Nat) ({ cls := "java/lang/String", name := "isEmpty", desc := "()Z" } : Jvm.MethodName)) ∈ xT := xT_at 670 (by decide +kernel) (by decide +kernel)
theorem xw_672 : (Jvm.Cond.selects "java/lang/String" ({ cls := "java/lang/String", name := "isEmpty", desc := "()Z" } : Jvm.MethodName) ({ cls := "java/lang/String", name := "isEmpty", desc := "()Z" } : Jvm.MethodName)) ∈ xT := xT_at 672 (by decide +kernel) (by decide +kernel)
theorem xcv_MT_137_String : xCV "MarkerText" 137 "java/lang/String" M_String_isEmpty 0 := ⟨xcb_String_isEmpty, xw_671, Or.inl ⟨xw_670, Or.inl xw_672⟩⟩
theorem d_MT_isSpelledAsName_4 : decode M_MT_isSpelledAsName.2.1 4 = .ok (.ifCond .ne 12, 3) := by decide +kernel
theorem d_MT_isSpelledAsName_16 : decode M_MT_isSpelledAsName.2.1 16 = .ok (.iconst 0, 1) := by decide +kernel
theorem d_MT_isSpelledAsName_17 : decode M_MT_isSpelledAsName.2.1 17 = .ok (.ireturn, 1) := by decide +kernel
theorem d_MT_isSpelledAsName_7 : decode M_MT_isSpelledAsName.2.1 7 = .ok (.aload_n 0, 1) := by decide +kernel
theorem d_MT_isSpelledAsName_8 : decode M_MT_isSpelledAsName.2.1 8 = .ok (.invokevirtual 99, 3) := by decide +kernel
theorem d_MT_isSpelledAsName_11 : decode M_MT_isSpelledAsName.2.1 11 = .ok (.bipush 8, 2) := by decide +kernel
theorem d_MT_isSpelledAsName_13 : decode M_MT_isSpelledAsName.2.1 13 = .ok (.if_icmp .le 5, 3) := by decide +kernel
theorem d_MT_isSpelledAsName_18 : decode M_MT_isSpelledAsName.2.1 18 = .ok (.iconst 0, 1) := by decide +kernel
theorem d_MT_isSpelledAsName_19 : decode M_MT_isSpelledAsName.2.1 19 = .ok (.istore_n 1, 1) := by decide +kernel
abbrev y_MT_numberOf : MethodName := ⟨"MarkerText", "numberOf", "([LMarkerText$Name;Ljava/lang/String;)I"⟩
abbrev M_MT_numberOf : XMt := (y_MT_numberOf, prog_1_method_24_code, 3, (some .int))
theorem d_MT_numberOf_2 : decode M_MT_numberOf.2.1 2 = .ok (.iload_n 2, 1) := by decide +kernel
theorem d_MT_numberOf_3 : decode M_MT_numberOf.2.1 3 = .ok (.aload_n 0, 1) := by decide +kernel
theorem d_MT_numberOf_4 : decode M_MT_numberOf.2.1 4 = .ok (.arraylength, 1) := by decide +kernel
theorem d_MT_numberOf_5 : decode M_MT_numberOf.2.1 5 = .ok (.if_icmp .ge 30, 3) := by decide +kernel
theorem d_MT_numberOf_35 : decode M_MT_numberOf.2.1 35 = .ok (.iconst (-1), 1) := by decide +kernel
theorem d_MT_numberOf_36 : decode M_MT_numberOf.2.1 36 = .ok (.ireturn, 1) := by decide +kernel
theorem d_MT_numberOf_8 : decode M_MT_numberOf.2.1 8 = .ok (.aload_n 0, 1) := by decide +kernel
theorem d_MT_numberOf_9 : decode M_MT_numberOf.2.1 9 = .ok (.iload_n 2, 1) := by decide +kernel
theorem d_MT_numberOf_10 : decode M_MT_numberOf.2.1 10 = .ok (.aaload, 1) := by decide +kernel
theorem d_MT_numberOf_11 : decode M_MT_numberOf.2.1 11 = .ok (.ifnull 18, 3) := by decide +kernel
theorem d_MT_numberOf_14 : decode M_MT_numberOf.2.1 14 = .ok (.aload_n 0, 1) := by decide +kernel
theorem d_MT_numberOf_15 : decode M_MT_numberOf.2.1 15 = .ok (.iload_n 2, 1) := by decide +kernel
theorem d_MT_numberOf_16 : decode M_MT_numberOf.2.1 16 = .ok (.aaload, 1) := by decide +kernel
theorem d_MT_numberOf_17 : decode M_MT_numberOf.2.1 17 = .ok (.getfield 232, 3) := by decide +kernel
theorem xw_721 : (Jvm.Cond.fieldLinkNest "MarkerText" (232 : Nat) "MarkerText$Name" "spelling" "Ljava/lang/String;" "MarkerText") ∈ xT := xT_at 721 (by decide +kernel) (by decide +kernel)
theorem xf_MT_232_Name : xF "MarkerText" 232 k_Name 0 := ⟨_, _, _, "MarkerText$Name", rfl, by decide, Or.inr ⟨_, xw_721⟩, Or.inl rfl⟩
theorem d_MT_numberOf_20 : decode M_MT_numberOf.2.1 20 = .ok (.aload_n 1, 1) := by decide +kernel
theorem d_MT_numberOf_21 : decode M_MT_numberOf.2.1 21 = .ok (.invokevirtual 218, 3) := by decide +kernel
theorem d_MT_numberOf_24 : decode M_MT_numberOf.2.1 24 = .ok (.ifCond .eq 5, 3) := by decide +kernel
theorem d_MT_numberOf_27 : decode M_MT_numberOf.2.1 27 = .ok (.iload_n 2, 1) := by decide +kernel
theorem d_MT_numberOf_28 : decode M_MT_numberOf.2.1 28 = .ok (.ireturn, 1) := by decide +kernel
theorem d_MT_numberOf_29 : decode M_MT_numberOf.2.1 29 = .ok (.iinc 2 1, 3) := by decide +kernel
theorem d_MT_numberOf_32 : decode M_MT_numberOf.2.1 32 = .ok (.goto (-30), 3) := by decide +kernel
theorem d_MT_numberOf_0 : decode M_MT_numberOf.2.1 0 = .ok (.iconst 0, 1) := by decide +kernel
theorem d_MT_numberOf_1 : decode M_MT_numberOf.2.1 1 = .ok (.istore_n 2, 1) := by decide +kernel
end
section MT1
variable {l : Launch} {G : XG} {h : XH} {c n d : Nat}
/-- the words that are no NAMES -/
abbrev kws : List (List Nat) := [xtx 4, xtx 5, xtx 6, xtx 7, xtx 8, xtx 9]
abbrev isLt (ch : Nat) : Prop := 97 ≤ ch ∧ ch ≤ 122
abbrev spl (w : List Nat) : Prop := (w ≠ [] ∧ w.length ≤ 8) ∧ (∀ ch ∈ w, isLt ch) ∧ w ∉ kws
theorem c_isSpelled (hG : xGk G) (hd : 4 ≤ d) {a : Nat} {w : List Nat} (hS : isS G h a w) (hl : w.length < 2 ^ 20) : XM l G d M_MT_isSpelledAsName [.ref a] h c n (xSame (.int (if spl w then 1 else 0)) h c n) := by
  obtain ⟨d, rfl⟩ : ∃ q, d = q + 1 := ⟨d - 1, by omega⟩
  obtain ⟨va, ee, ha, -, hat⟩ := id hS
  refine XM.of (by decide +kernel) (Nat.le_of_ble_eq_true rfl) ?_
  have at105 : ∀ e1, w ∈ kws → XW l G M_MT_isSpelledAsName (d + 1) 105 [some (.ref a), e1] [] h c n (xSame (.int (if spl w then 1 else 0)) h c n) := by
    intro e1 hw
    rw [if_neg (fun z => z.2.2 hw)]
    refine x_iconst (v := 0) d_MT_isSpelledAsName_105 (by decide) ?_
    refine x_zret d_MT_isSpelledAsName_106 rfl rfl ?_
    exact ⟨rfl, rfl, rfl, rfl⟩
  have at47 : ∀ e1, (w ≠ [] ∧ w.length ≤ 8) → (∀ ch ∈ w, isLt ch) → XW l G M_MT_isSpelledAsName (d + 1) 47 [some (.ref a), e1] [] h c n (xSame (.int (if spl w then 1 else 0)) h c n) := by
    intro e1 hz1 hz2
    by_cases k1 : w = xtx 4
    · refine x_aload_n d_MT_isSpelledAsName_47 rfl rfl ?_
      refine x_ldcS (i := 4) (tx := "or") (by decide +kernel) d_MT_isSpelledAsName_48 ?_
      refine x_callV (As := [_]) (k := k_String) rfl xcv_MT_218_String ha (c_String_equals (by omega) hS (hG.str (by decide)) (by omega) (by decide)) rfl rfl (Nat.le_of_ble_eq_true rfl) d_MT_isSpelledAsName_50 ?_
      rintro v h' c' n' ⟨rfl, rfl, rfl, rfl⟩
      refine x_if_ne (tgt := 105) d_MT_isSpelledAsName_53 (by decide) (fun _ => ?_) (fun hn => absurd hn (by rw [if_pos k1]; decide))
      exact at105 e1 (by rw [k1]; simp)
    refine x_aload_n d_MT_isSpelledAsName_47 rfl rfl ?_
    refine x_ldcS (i := 4) (tx := "or") (by decide +kernel) d_MT_isSpelledAsName_48 ?_
    refine x_callV (As := [_]) (k := k_String) rfl xcv_MT_218_String ha (c_String_equals (by omega) hS (hG.str (by decide)) (by omega) (by decide)) rfl rfl (Nat.le_of_ble_eq_true rfl) d_MT_isSpelledAsName_50 ?_
    rintro v h' c' n' ⟨rfl, rfl, rfl, rfl⟩
    by_cases k2 : w = xtx 5
    · refine x_if_ne (tgt := 105) d_MT_isSpelledAsName_53 (by decide) (fun ht => absurd (by rw [if_neg k1]) ht) (fun _ => ?_)
      refine x_aload_n d_MT_isSpelledAsName_56 rfl rfl ?_
      refine x_ldcS (i := 5) (tx := "and") (by decide +kernel) d_MT_isSpelledAsName_57 ?_
      refine x_callV (As := [_]) (k := k_String) rfl xcv_MT_218_String ha (c_String_equals (by omega) hS (hG.str (by decide)) (by omega) (by decide)) rfl rfl (Nat.le_of_ble_eq_true rfl) d_MT_isSpelledAsName_59 ?_
      rintro v h' c' n' ⟨rfl, rfl, rfl, rfl⟩
      refine x_if_ne (tgt := 105) d_MT_isSpelledAsName_62 (by decide) (fun _ => ?_) (fun hn => absurd hn (by rw [if_pos k2]; decide))
      exact at105 e1 (by rw [k2]; simp)
    refine x_if_ne (tgt := 105) d_MT_isSpelledAsName_53 (by decide) (fun ht => absurd (by rw [if_neg k1]) ht) (fun _ => ?_)
    refine x_aload_n d_MT_isSpelledAsName_56 rfl rfl ?_
    refine x_ldcS (i := 5) (tx := "and") (by decide +kernel) d_MT_isSpelledAsName_57 ?_
    refine x_callV (As := [_]) (k := k_String) rfl xcv_MT_218_String ha (c_String_equals (by omega) hS (hG.str (by decide)) (by omega) (by decide)) rfl rfl (Nat.le_of_ble_eq_true rfl) d_MT_isSpelledAsName_59 ?_
    rintro v h' c' n' ⟨rfl, rfl, rfl, rfl⟩
    by_cases k3 : w = xtx 6
    · refine x_if_ne (tgt := 105) d_MT_isSpelledAsName_62 (by decide) (fun ht => absurd (by rw [if_neg k2]) ht) (fun _ => ?_)
      refine x_aload_n d_MT_isSpelledAsName_65 rfl rfl ?_
      refine x_ldcS (i := 6) (tx := "not") (by decide +kernel) d_MT_isSpelledAsName_66 ?_
      refine x_callV (As := [_]) (k := k_String) rfl xcv_MT_218_String ha (c_String_equals (by omega) hS (hG.str (by decide)) (by omega) (by decide)) rfl rfl (Nat.le_of_ble_eq_true rfl) d_MT_isSpelledAsName_68 ?_
      rintro v h' c' n' ⟨rfl, rfl, rfl, rfl⟩
      refine x_if_ne (tgt := 105) d_MT_isSpelledAsName_71 (by decide) (fun _ => ?_) (fun hn => absurd hn (by rw [if_pos k3]; decide))
      exact at105 e1 (by rw [k3]; simp)
    refine x_if_ne (tgt := 105) d_MT_isSpelledAsName_62 (by decide) (fun ht => absurd (by rw [if_neg k2]) ht) (fun _ => ?_)
    refine x_aload_n d_MT_isSpelledAsName_65 rfl rfl ?_
    refine x_ldcS (i := 6) (tx := "not") (by decide +kernel) d_MT_isSpelledAsName_66 ?_
    refine x_callV (As := [_]) (k := k_String) rfl xcv_MT_218_String ha (c_String_equals (by omega) hS (hG.str (by decide)) (by omega) (by decide)) rfl rfl (Nat.le_of_ble_eq_true rfl) d_MT_isSpelledAsName_68 ?_
    rintro v h' c' n' ⟨rfl, rfl, rfl, rfl⟩
    by_cases k4 : w = xtx 7
    · refine x_if_ne (tgt := 105) d_MT_isSpelledAsName_71 (by decide) (fun ht => absurd (by rw [if_neg k3]) ht) (fun _ => ?_)
      refine x_aload_n d_MT_isSpelledAsName_74 rfl rfl ?_
      refine x_ldcS (i := 7) (tx := "in") (by decide +kernel) d_MT_isSpelledAsName_75 ?_
      refine x_callV (As := [_]) (k := k_String) rfl xcv_MT_218_String ha (c_String_equals (by omega) hS (hG.str (by decide)) (by omega) (by decide)) rfl rfl (Nat.le_of_ble_eq_true rfl) d_MT_isSpelledAsName_77 ?_
      rintro v h' c' n' ⟨rfl, rfl, rfl, rfl⟩
      refine x_if_ne (tgt := 105) d_MT_isSpelledAsName_80 (by decide) (fun _ => ?_) (fun hn => absurd hn (by rw [if_pos k4]; decide))
      exact at105 e1 (by rw [k4]; simp)
    refine x_if_ne (tgt := 105) d_MT_isSpelledAsName_71 (by decide) (fun ht => absurd (by rw [if_neg k3]) ht) (fun _ => ?_)
    refine x_aload_n d_MT_isSpelledAsName_74 rfl rfl ?_
    refine x_ldcS (i := 7) (tx := "in") (by decide +kernel) d_MT_isSpelledAsName_75 ?_
    refine x_callV (As := [_]) (k := k_String) rfl xcv_MT_218_String ha (c_String_equals (by omega) hS (hG.str (by decide)) (by omega) (by decide)) rfl rfl (Nat.le_of_ble_eq_true rfl) d_MT_isSpelledAsName_77 ?_
    rintro v h' c' n' ⟨rfl, rfl, rfl, rfl⟩
    by_cases k5 : w = xtx 8
    · refine x_if_ne (tgt := 105) d_MT_isSpelledAsName_80 (by decide) (fun ht => absurd (by rw [if_neg k4]) ht) (fun _ => ?_)
      refine x_aload_n d_MT_isSpelledAsName_83 rfl rfl ?_
      refine x_ldcS (i := 8) (tx := "true") (by decide +kernel) d_MT_isSpelledAsName_84 ?_
      refine x_callV (As := [_]) (k := k_String) rfl xcv_MT_218_String ha (c_String_equals (by omega) hS (hG.str (by decide)) (by omega) (by decide)) rfl rfl (Nat.le_of_ble_eq_true rfl) d_MT_isSpelledAsName_86 ?_
      rintro v h' c' n' ⟨rfl, rfl, rfl, rfl⟩
      refine x_if_ne (tgt := 105) d_MT_isSpelledAsName_89 (by decide) (fun _ => ?_) (fun hn => absurd hn (by rw [if_pos k5]; decide))
      exact at105 e1 (by rw [k5]; simp)
    refine x_if_ne (tgt := 105) d_MT_isSpelledAsName_80 (by decide) (fun ht => absurd (by rw [if_neg k4]) ht) (fun _ => ?_)
    refine x_aload_n d_MT_isSpelledAsName_83 rfl rfl ?_
    refine x_ldcS (i := 8) (tx := "true") (by decide +kernel) d_MT_isSpelledAsName_84 ?_
    refine x_callV (As := [_]) (k := k_String) rfl xcv_MT_218_String ha (c_String_equals (by omega) hS (hG.str (by decide)) (by omega) (by decide)) rfl rfl (Nat.le_of_ble_eq_true rfl) d_MT_isSpelledAsName_86 ?_
    rintro v h' c' n' ⟨rfl, rfl, rfl, rfl⟩
    by_cases k6 : w = xtx 9
    · refine x_if_ne (tgt := 105) d_MT_isSpelledAsName_89 (by decide) (fun ht => absurd (by rw [if_neg k5]) ht) (fun _ => ?_)
      refine x_aload_n d_MT_isSpelledAsName_92 rfl rfl ?_
      refine x_ldcS (i := 9) (tx := "false") (by decide +kernel) d_MT_isSpelledAsName_93 ?_
      refine x_callV (As := [_]) (k := k_String) rfl xcv_MT_218_String ha (c_String_equals (by omega) hS (hG.str (by decide)) (by omega) (by decide)) rfl rfl (Nat.le_of_ble_eq_true rfl) d_MT_isSpelledAsName_95 ?_
      rintro v h' c' n' ⟨rfl, rfl, rfl, rfl⟩
      refine x_if_ne (tgt := 105) d_MT_isSpelledAsName_98 (by decide) (fun _ => ?_) (fun hn => absurd hn (by rw [if_pos k6]; decide))
      exact at105 e1 (by rw [k6]; simp)
    refine x_if_ne (tgt := 105) d_MT_isSpelledAsName_89 (by decide) (fun ht => absurd (by rw [if_neg k5]) ht) (fun _ => ?_)
    refine x_aload_n d_MT_isSpelledAsName_92 rfl rfl ?_
    refine x_ldcS (i := 9) (tx := "false") (by decide +kernel) d_MT_isSpelledAsName_93 ?_
    refine x_callV (As := [_]) (k := k_String) rfl xcv_MT_218_String ha (c_String_equals (by omega) hS (hG.str (by decide)) (by omega) (by decide)) rfl rfl (Nat.le_of_ble_eq_true rfl) d_MT_isSpelledAsName_95 ?_
    rintro v h' c' n' ⟨rfl, rfl, rfl, rfl⟩
    have hk : w ∉ kws := by
      intro z
      simp only [kws, List.mem_cons, List.not_mem_nil, or_false] at z
      rcases z with z | z | z | z | z | z <;> contradiction
    refine x_if_ne (tgt := 105) d_MT_isSpelledAsName_98 (by decide) (fun ht => absurd (by rw [if_neg k6]) ht) (fun _ => ?_)
    refine x_iconst (v := 1) d_MT_isSpelledAsName_101 (by decide) ?_
    refine x_goto (tgt := 106) d_MT_isSpelledAsName_102 (by decide) ?_
    refine x_zret d_MT_isSpelledAsName_106 rfl rfl ?_
    exact ⟨by rw [if_pos ⟨hz1, hz2, hk⟩], rfl, rfl, rfl⟩
  have lp : (w ≠ [] ∧ w.length ≤ 8) → ∀ (k i : Nat), i + k = w.length → (∀ j (hj : j < w.length), j < i → isLt w[j]) → XW l G M_MT_isSpelledAsName (d + 1) 20 [some (.ref a), some (.int (nI i))] [] h c n (xSame (.int (if spl w then 1 else 0)) h c n) := by
    intro hz k
    induction k with
    | zero =>
      intro i hi hj
      refine x_iload_n d_MT_isSpelledAsName_20 rfl ?_
      refine x_aload_n d_MT_isSpelledAsName_21 rfl rfl ?_
      refine x_callV (As := []) (k := k_String) rfl xcv_MT_99_String ha (c_String_length (by omega) hS) rfl rfl (Nat.le_of_ble_eq_true rfl) d_MT_isSpelledAsName_22 ?_
      rintro v h' c' n' ⟨rfl, rfl, rfl, rfl⟩
      refine x_icmp_ge (tgt := 47) d_MT_isSpelledAsName_25 (by decide) (fun _ => ?_) (fun hn => absurd (nI_le (by omega) (by omega)) hn)
      refine at47 _ hz (fun ch hch => ?_)
      obtain ⟨j, h1, h2⟩ := List.getElem_of_mem hch
      rw [← h2]
      exact hj j h1 (by omega)
    | succ k ih =>
      intro i hi hj
      have hil : i < w.length := by omega
      have hch := hat w[i] (List.getElem_mem hil)
      refine x_iload_n d_MT_isSpelledAsName_20 rfl ?_
      refine x_aload_n d_MT_isSpelledAsName_21 rfl rfl ?_
      refine x_callV (As := []) (k := k_String) rfl xcv_MT_99_String ha (c_String_length (by omega) hS) rfl rfl (Nat.le_of_ble_eq_true rfl) d_MT_isSpelledAsName_22 ?_
      rintro v h' c' n' ⟨rfl, rfl, rfl, rfl⟩
      refine x_icmp_ge (tgt := 47) d_MT_isSpelledAsName_25 (by decide) (fun ht => absurd ht (nI_ge (by omega) (by omega))) (fun _ => ?_)
      refine x_aload_n d_MT_isSpelledAsName_28 rfl rfl ?_
      refine x_iload_n d_MT_isSpelledAsName_29 rfl ?_
      refine x_callV (As := [_]) (k := k_String) rfl xcv_MT_194_String ha (c_String_charAt hG (by omega) hS hil (by omega)) rfl rfl (Nat.le_of_ble_eq_true rfl) d_MT_isSpelledAsName_30 ?_
      rintro v h' c' n' ⟨rfl, rfl, rfl, rfl⟩
      refine x_callS (As := [_]) xcs_MT_212 (c_isLetter hch) rfl rfl (Nat.le_of_ble_eq_true rfl) d_MT_isSpelledAsName_33 ?_
      rintro v h' c' n' ⟨rfl, rfl, rfl, rfl⟩
      by_cases hL : isLt w[i]
      · refine x_if_ne (tgt := 41) d_MT_isSpelledAsName_36 (by decide) (fun _ => ?_) (fun hn => absurd hn (by rw [if_pos hL]; decide))
        refine x_iinc (v := nI (i + 1)) (L' := [_, _]) d_MT_isSpelledAsName_41 rfl (by exact xw_iinc1) rfl rfl ?_
        refine x_goto (tgt := 20) d_MT_isSpelledAsName_44 (by decide) ?_
        refine ih (i + 1) (by omega) (fun j h1 h2 => ?_)
        by_cases hji : j = i
        · subst hji; exact hL
        · exact hj j h1 (by omega)
      · refine x_if_ne (tgt := 41) d_MT_isSpelledAsName_36 (by decide) (fun ht => absurd (by rw [if_neg hL]) ht) (fun _ => ?_)
        refine x_iconst (v := 0) d_MT_isSpelledAsName_39 (by decide) ?_
        refine x_zret d_MT_isSpelledAsName_40 rfl rfl ?_
        exact ⟨by rw [if_neg (fun z => hL (z.2.1 _ (List.getElem_mem hil)))], rfl, rfl, rfl⟩
  refine x_aload_n d_MT_isSpelledAsName_0 rfl rfl ?_
  refine x_callV (As := []) (k := k_String) rfl xcv_MT_137_String ha (c_String_isEmpty hS (by omega)) rfl rfl (Nat.le_of_ble_eq_true rfl) d_MT_isSpelledAsName_1 ?_
  rintro v h' c' n' ⟨rfl, rfl, rfl, rfl⟩
  by_cases h0 : w = []
  · refine x_if_ne (tgt := 16) d_MT_isSpelledAsName_4 (by decide) (fun _ => ?_) (fun hn => absurd hn (by rw [if_pos h0]; decide))
    refine x_iconst (v := 0) d_MT_isSpelledAsName_16 (by decide) ?_
    refine x_zret d_MT_isSpelledAsName_17 rfl rfl ?_
    exact ⟨by rw [if_neg (fun z => z.1.1 h0)], rfl, rfl, rfl⟩
  refine x_if_ne (tgt := 16) d_MT_isSpelledAsName_4 (by decide) (fun ht => absurd (by rw [if_neg h0]) ht) (fun _ => ?_)
  refine x_aload_n d_MT_isSpelledAsName_7 rfl rfl ?_
  refine x_callV (As := []) (k := k_String) rfl xcv_MT_99_String ha (c_String_length (by omega) hS) rfl rfl (Nat.le_of_ble_eq_true rfl) d_MT_isSpelledAsName_8 ?_
  rintro v h' c' n' ⟨rfl, rfl, rfl, rfl⟩
  by_cases h8 : w.length ≤ 8
  · refine x_bipush (v := 8) d_MT_isSpelledAsName_11 (by decide) ?_
    refine x_icmp_le (tgt := 18) d_MT_isSpelledAsName_13 (by decide) (fun _ => ?_) (fun hn => absurd (nI_le (b := 8) h8 (by omega)) hn)
    refine x_iconst (v := 0) d_MT_isSpelledAsName_18 (by decide) ?_
    refine x_istore_n (L' := [_, _]) d_MT_isSpelledAsName_19 rfl rfl ?_
    exact lp ⟨h0, h8⟩ w.length 0 (by omega) (fun j _ h2 => by omega)
  · refine x_bipush (v := 8) d_MT_isSpelledAsName_11 (by decide) ?_
    refine x_icmp_le (tgt := 18) d_MT_isSpelledAsName_13 (by decide) (fun ht => absurd ht (nI_ge (a := 8) (by omega) (by omega))) (fun _ => ?_)
    refine x_iconst (v := 0) d_MT_isSpelledAsName_16 (by decide) ?_
    refine x_zret d_MT_isSpelledAsName_17 rfl rfl ?_
    exact ⟨by rw [if_neg (fun z => h8 z.1.2)], rfl, rfl, rfl⟩
/-- the names: spelling, KIND, known levels -/
abbrev NmT : Type := List Nat × Nat × List Nat
def isNs (G : XG) (h : XH) (r : Nat) (as kas : List Nat) (Ns : List NmT) : Prop := h r = some (k_aName, as.map (.ref ·) ++ List.replicate (6 - as.length) .null) ∧ as.length = Ns.length ∧ kas.length = Ns.length ∧ Ns.length ≤ 6 ∧ as.Nodup ∧ kas.Nodup ∧ ∀ (i : Nat) (x : NmT) (a ka : Nat), Ns[i]? = some x → as[i]? = some a → kas[i]? = some ka → isN G h a ka x.1 x.2.1 x.2.2 ∧ x.1.length ≤ 8
/-- the number of a NAME -/
def nof (Ns : List NmT) (w : List Nat) : Option Nat := Ns.findIdx? (fun x => decide (x.1 = w))
def oI : Option Nat → Int32
  | none => -1
  | some i => nI i
theorem c_numberOf (hd : 2 ≤ d) {r b : Nat} {as kas : List Nat} {Ns : List NmT} {w : List Nat} (hNs : isNs G h r as kas Ns) (hS : isS G h b w) (hl : w.length < 2 ^ 20) : XM l G d M_MT_numberOf [.ref r, .ref b] h c n (xSame (.int (oI (nof Ns w))) h c n) := by
  obtain ⟨d, rfl⟩ : ∃ q, d = q + 1 := ⟨d - 1, by omega⟩
  obtain ⟨hr, e1, e2, e3, -, -, hx⟩ := hNs
  have hlen : (as.map (Value.ref ·) ++ List.replicate (6 - as.length) Value.null).length = 6 := by simp; omega
  refine XM.of (by decide +kernel) (Nat.le_of_ble_eq_true rfl) ?_
  have lp : ∀ (k i : Nat), i + k = 6 → (∀ j (hj : j < Ns.length), j < i → ¬ Ns[j].1 = w) → XW l G M_MT_numberOf (d + 1) 2 [some (.ref r), some (.ref b), some (.int (nI i))] [] h c n (xSame (.int (oI (nof Ns w))) h c n) := by
    intro k
    induction k with
    | zero =>
      intro i hi hj
      have hno : nof Ns w = none := by
        refine List.findIdx?_eq_none_iff.mpr (fun x hx' => ?_)
        obtain ⟨j, h1, h2⟩ := List.getElem_of_mem hx'
        rw [← h2]
        exact decide_eq_false (hj j h1 (by omega))
      rw [hno]
      refine x_iload_n d_MT_numberOf_2 rfl ?_
      refine x_aload_n d_MT_numberOf_3 rfl rfl ?_
      refine x_alen (k := k_aName) rfl (Or.inl hr) (v := nI 6) (by rw [hlen]; rfl) d_MT_numberOf_4 ?_
      refine x_icmp_ge (tgt := 35) d_MT_numberOf_5 (by decide) (fun _ => ?_) (fun hn => absurd (nI_le (a := 6) (by omega) (by omega)) hn)
      refine x_iconst (v := (-1)) d_MT_numberOf_35 (by decide) ?_
      refine x_iret d_MT_numberOf_36 rfl ?_
      exact ⟨rfl, rfl, rfl, rfl⟩
    | succ k ih =>
      intro i hi hj
      by_cases hin : i < Ns.length
      · have hia : i < as.length := by omega
        have hik : i < kas.length := by omega
        have hat : (as.map (Value.ref ·) ++ List.replicate (6 - as.length) .null)[(nI i).toNatClampNeg]? = some (.ref as[i]) := by
          rw [nI_clamp (by omega), List.getElem?_append_left (by simpa using hia), List.getElem?_map, List.getElem?_eq_getElem hia]
          rfl
        obtain ⟨⟨sa, g1, g2, -⟩, g8⟩ := hx i Ns[i] as[i] kas[i] (List.getElem?_eq_getElem hin) (List.getElem?_eq_getElem hia) (List.getElem?_eq_getElem hik)
        obtain ⟨va, ee, hsa, -⟩ := id g2
        refine x_iload_n d_MT_numberOf_2 rfl ?_
        refine x_aload_n d_MT_numberOf_3 rfl rfl ?_
        refine x_alen (k := k_aName) rfl (Or.inl hr) (v := nI 6) (by rw [hlen]; rfl) d_MT_numberOf_4 ?_
        refine x_icmp_ge (tgt := 35) d_MT_numberOf_5 (by decide) (fun ht => absurd ht (nI_ge (b := 6) (by omega) (by omega))) (fun _ => ?_)
        refine x_aload_n d_MT_numberOf_8 rfl rfl ?_
        refine x_iload_n d_MT_numberOf_9 rfl ?_
        refine x_aald (k := k_aName) rfl rfl (Or.inl hr) (nI_pos (by omega)) hat d_MT_numberOf_10 ?_
        refine x_ifnull d_MT_numberOf_11 ?_
        refine x_aload_n d_MT_numberOf_14 rfl rfl ?_
        refine x_iload_n d_MT_numberOf_15 rfl ?_
        refine x_aald (k := k_aName) rfl rfl (Or.inl hr) (nI_pos (by omega)) hat d_MT_numberOf_16 ?_
        refine x_get xf_MT_232_Name (Or.inl g1) rfl d_MT_numberOf_17 ?_
        refine x_aload_n d_MT_numberOf_20 rfl rfl ?_
        refine x_callV (As := [_]) (k := k_String) rfl xcv_MT_218_String hsa (c_String_equals (by omega) g2 hS (by omega) (by omega)) rfl rfl (Nat.le_of_ble_eq_true rfl) d_MT_numberOf_21 ?_
        rintro v h' c' n' ⟨rfl, rfl, rfl, rfl⟩
        by_cases he : Ns[i].1 = w
        · have hso : nof Ns w = some i := List.findIdx?_eq_some_iff_getElem.mpr ⟨hin, decide_eq_true he, fun j hj' => by simpa using hj j (by omega) hj'⟩
          refine x_if_eq (tgt := 29) d_MT_numberOf_24 (by decide) (fun ht => absurd ht (by rw [if_pos he]; decide)) (fun _ => ?_)
          refine x_iload_n d_MT_numberOf_27 rfl ?_
          refine x_iret d_MT_numberOf_28 rfl ?_
          exact ⟨by rw [hso]; rfl, rfl, rfl, rfl⟩
        · refine x_if_eq (tgt := 29) d_MT_numberOf_24 (by decide) (fun _ => ?_) (fun hn => absurd (by rw [if_neg he]) hn)
          refine x_iinc (v := nI (i + 1)) (L' := [_, _, _]) d_MT_numberOf_29 rfl (by exact xw_iinc1) rfl rfl ?_
          refine x_goto (tgt := 2) d_MT_numberOf_32 (by decide) ?_
          refine ih (i + 1) (by omega) (fun j h1 h2 => ?_)
          by_cases hji : j = i
          · subst hji; exact he
          · exact hj j h1 (by omega)
      · have hat : (as.map (Value.ref ·) ++ List.replicate (6 - as.length) .null)[(nI i).toNatClampNeg]? = some .null := by
          rw [nI_clamp (by omega), List.getElem?_append_right (by simp; omega), List.getElem?_replicate, if_pos (by simp; omega)]
        refine x_iload_n d_MT_numberOf_2 rfl ?_
        refine x_aload_n d_MT_numberOf_3 rfl rfl ?_
        refine x_alen (k := k_aName) rfl (Or.inl hr) (v := nI 6) (by rw [hlen]; rfl) d_MT_numberOf_4 ?_
        refine x_icmp_ge (tgt := 35) d_MT_numberOf_5 (by decide) (fun ht => absurd ht (nI_ge (b := 6) (by omega) (by omega))) (fun _ => ?_)
        refine x_aload_n d_MT_numberOf_8 rfl rfl ?_
        refine x_iload_n d_MT_numberOf_9 rfl ?_
        refine x_aald (k := k_aName) rfl rfl (Or.inl hr) (nI_pos (by omega)) hat d_MT_numberOf_10 ?_
        refine x_ifnullN (tgt := 29) d_MT_numberOf_11 (by decide) ?_
        refine x_iinc (v := nI (i + 1)) (L' := [_, _, _]) d_MT_numberOf_29 rfl (by exact xw_iinc1) rfl rfl ?_
        refine x_goto (tgt := 2) d_MT_numberOf_32 (by decide) ?_
        exact ih (i + 1) (by omega) (fun j h1 h2 => hj j h1 (by omega))
  refine x_iconst (v := 0) d_MT_numberOf_0 (by decide) ?_
  refine x_istore_n (L' := [_, _, _]) d_MT_numberOf_1 rfl rfl ?_
  exact lp 6 0 (by omega) (fun j h1 h2 => by omega)
end MT1
