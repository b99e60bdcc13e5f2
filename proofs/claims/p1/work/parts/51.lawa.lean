section
abbrev y_Law_name : MethodName := ⟨"MarkerTextLaw", "name", "(LMarkerText;I[J)I"⟩
abbrev M_Law_name : XMt := (y_Law_name, method_3_code, 4, (some .int))
theorem d_Law_name_0 : decode M_Law_name.2.1 0 = .ok (.aload_n 2, 1) := by decide +kernel
theorem d_Law_name_1 : decode M_Law_name.2.1 1 = .ok (.iconst 0, 1) := by decide +kernel
theorem d_Law_name_2 : decode M_Law_name.2.1 2 = .ok (.aload_n 0, 1) := by decide +kernel
theorem d_Law_name_3 : decode M_Law_name.2.1 3 = .ok (.iload_n 1, 1) := by decide +kernel
theorem d_Law_name_4 : decode M_Law_name.2.1 4 = .ok (.invokevirtual 7, 3) := by decide +kernel
theorem xcb_MT_name : xcb M_MT_name 1 := ⟨xw_456, xw_1, by decide, by decide, by decide, by decide +kernel⟩
theorem xw_454 : (Jvm.Cond.instanceMethod ({ cls := "MarkerText", name := "name", desc := "(I)I" } : Jvm.MethodName)) ∈ xT := xT_at 454 (by decide +kernel) (by decide +kernel)
theorem xw_453 : (Jvm.Cond.methodLink "MarkerTextLaw" (7 : Nat) ({ cls := "MarkerText", name := "name", desc := "(I)I" } : Jvm.MethodName)) ∈ xT := xT_at 453 (by decide +kernel) (by decide +kernel)
theorem xw_455 : (Jvm.Cond.selects "MarkerText" ({ cls := "MarkerText", name := "name", desc := "(I)I" } : Jvm.MethodName) ({ cls := "MarkerText", name := "name", desc := "(I)I" } : Jvm.MethodName)) ∈ xT := xT_at 455 (by decide +kernel) (by decide +kernel)
theorem xw_450 : (Jvm.Cond.codeWith ({ cls := "MarkerTextLaw", name := "name", desc := "(LMarkerText;I[J)I" } : Jvm.MethodName) method_3_code (4 : Nat) (Option.some Jvm.ClassFile.FieldType.int) [((0 : Nat), (9 : Nat), (12 : Nat), (13 : Nat)), ((0 : Nat), (9 : Nat), (15 : Nat), (15 : Nat))]) ∈ xT := xT_at 450 (by decide +kernel) (by decide +kernel)
theorem xw_451 : (Jvm.Cond.classLink "MarkerTextLaw" (13 : Nat) "java/lang/IllegalArgumentException") ∈ xT := xT_at 451 (by decide +kernel) (by decide +kernel)
theorem d_Law_name_12 : decode M_Law_name.2.1 12 = .ok (.astore_n 3, 1) := by decide +kernel
theorem d_Law_name_13 : decode M_Law_name.2.1 13 = .ok (.iconst 1, 1) := by decide +kernel
theorem d_Law_name_14 : decode M_Law_name.2.1 14 = .ok (.ireturn, 1) := by decide +kernel
abbrev y_Law_value : MethodName := ⟨"MarkerTextLaw", "value", "(LMarkerText;I[J)I"⟩
abbrev M_Law_value : XMt := (y_Law_value, method_4_code, 4, (some .int))
theorem d_Law_value_0 : decode M_Law_value.2.1 0 = .ok (.aload_n 2, 1) := by decide +kernel
theorem d_Law_value_1 : decode M_Law_value.2.1 1 = .ok (.iconst 0, 1) := by decide +kernel
theorem d_Law_value_2 : decode M_Law_value.2.1 2 = .ok (.aload_n 0, 1) := by decide +kernel
theorem d_Law_value_3 : decode M_Law_value.2.1 3 = .ok (.iload_n 1, 1) := by decide +kernel
theorem d_Law_value_4 : decode M_Law_value.2.1 4 = .ok (.invokevirtual 17, 3) := by decide +kernel
theorem xcb_MT_value : xcb M_MT_value 1 := ⟨xw_743, xw_1, by decide, by decide, by decide, by decide +kernel⟩
theorem xw_741 : (Jvm.Cond.instanceMethod ({ cls := "MarkerText", name := "value", desc := "(I)I" } : Jvm.MethodName)) ∈ xT := xT_at 741 (by decide +kernel) (by decide +kernel)
theorem xw_740 : (Jvm.Cond.methodLink "MarkerTextLaw" (17 : Nat) ({ cls := "MarkerText", name := "value", desc := "(I)I" } : Jvm.MethodName)) ∈ xT := xT_at 740 (by decide +kernel) (by decide +kernel)
theorem xw_742 : (Jvm.Cond.selects "MarkerText" ({ cls := "MarkerText", name := "value", desc := "(I)I" } : Jvm.MethodName) ({ cls := "MarkerText", name := "value", desc := "(I)I" } : Jvm.MethodName)) ∈ xT := xT_at 742 (by decide +kernel) (by decide +kernel)
theorem xw_739 : (Jvm.Cond.codeWith ({ cls := "MarkerTextLaw", name := "value", desc := "(LMarkerText;I[J)I" } : Jvm.MethodName) method_4_code (4 : Nat) (Option.some Jvm.ClassFile.FieldType.int) [((0 : Nat), (9 : Nat), (12 : Nat), (13 : Nat)), ((0 : Nat), (9 : Nat), (15 : Nat), (15 : Nat))]) ∈ xT := xT_at 739 (by decide +kernel) (by decide +kernel)
theorem d_Law_value_12 : decode M_Law_value.2.1 12 = .ok (.astore_n 3, 1) := by decide +kernel
theorem d_Law_value_13 : decode M_Law_value.2.1 13 = .ok (.iconst 1, 1) := by decide +kernel
theorem d_Law_value_14 : decode M_Law_value.2.1 14 = .ok (.ireturn, 1) := by decide +kernel
abbrev y_Law_condition : MethodName := ⟨"MarkerTextLaw", "condition", "(LMarkerText;[J)I"⟩
abbrev M_Law_condition : XMt := (y_Law_condition, method_5_code, 3, (some .int))
theorem d_Law_condition_0 : decode M_Law_condition.2.1 0 = .ok (.aload_n 1, 1) := by decide +kernel
theorem d_Law_condition_1 : decode M_Law_condition.2.1 1 = .ok (.iconst 0, 1) := by decide +kernel
theorem d_Law_condition_2 : decode M_Law_condition.2.1 2 = .ok (.aload_n 0, 1) := by decide +kernel
theorem d_Law_condition_3 : decode M_Law_condition.2.1 3 = .ok (.invokevirtual 20, 3) := by decide +kernel
theorem xcb_MT_condition : xcb M_MT_condition 0 := ⟨xw_822, xw_1, by decide, by decide, by decide, by decide +kernel⟩
theorem xw_820 : (Jvm.Cond.instanceMethod ({ cls := "MarkerText", name := "condition", desc := "()I" } : Jvm.MethodName)) ∈ xT := xT_at 820 (by decide +kernel) (by decide +kernel)
theorem xw_819 : (Jvm.Cond.methodLink "MarkerTextLaw" (20 : Nat) ({ cls := "MarkerText", name := "condition", desc := "()I" } : Jvm.MethodName)) ∈ xT := xT_at 819 (by decide +kernel) (by decide +kernel)
theorem xw_821 : (Jvm.Cond.selects "MarkerText" ({ cls := "MarkerText", name := "condition", desc := "()I" } : Jvm.MethodName) ({ cls := "MarkerText", name := "condition", desc := "()I" } : Jvm.MethodName)) ∈ xT := xT_at 821 (by decide +kernel) (by decide +kernel)
theorem xw_818 : (Jvm.Cond.codeWith ({ cls := "MarkerTextLaw", name := "condition", desc := "(LMarkerText;[J)I" } : Jvm.MethodName) method_5_code (3 : Nat) (Option.some Jvm.ClassFile.FieldType.int) [((0 : Nat), (8 : Nat), (11 : Nat), (13 : Nat)), ((0 : Nat), (8 : Nat), (14 : Nat), (15 : Nat))]) ∈ xT := xT_at 818 (by decide +kernel) (by decide +kernel)
theorem d_Law_condition_11 : decode M_Law_condition.2.1 11 = .ok (.astore_n 2, 1) := by decide +kernel
theorem d_Law_condition_12 : decode M_Law_condition.2.1 12 = .ok (.iconst 1, 1) := by decide +kernel
theorem d_Law_condition_13 : decode M_Law_condition.2.1 13 = .ok (.ireturn, 1) := by decide +kernel
abbrev y_Law_give : MethodName := ⟨"MarkerTextLaw", "give", "(LMarkerText;I)I"⟩
abbrev M_Law_give : XMt := (y_Law_give, method_6_code, 3, (some .int))
theorem d_Law_give_0 : decode M_Law_give.2.1 0 = .ok (.aload_n 0, 1) := by decide +kernel
theorem d_Law_give_1 : decode M_Law_give.2.1 1 = .ok (.iload_n 1, 1) := by decide +kernel
theorem d_Law_give_2 : decode M_Law_give.2.1 2 = .ok (.invokevirtual 24, 3) := by decide +kernel
theorem xcb_MT_give : xcb M_MT_give 1 := ⟨xw_1162, xw_1, by decide, by decide, by decide, by decide +kernel⟩
theorem xw_1160 : (Jvm.Cond.instanceMethod ({ cls := "MarkerText", name := "give", desc := "(I)V" } : Jvm.MethodName)) ∈ xT := xT_at 1160 (by decide +kernel) (by decide +kernel)
theorem xw_1159 : (Jvm.Cond.methodLink "MarkerTextLaw" (24 : Nat) ({ cls := "MarkerText", name := "give", desc := "(I)V" } : Jvm.MethodName)) ∈ xT := xT_at 1159 (by decide +kernel) (by decide +kernel)
theorem xw_1161 : (Jvm.Cond.selects "MarkerText" ({ cls := "MarkerText", name := "give", desc := "(I)V" } : Jvm.MethodName) ({ cls := "MarkerText", name := "give", desc := "(I)V" } : Jvm.MethodName)) ∈ xT := xT_at 1161 (by decide +kernel) (by decide +kernel)
theorem xw_1158 : (Jvm.Cond.codeWith ({ cls := "MarkerTextLaw", name := "give", desc := "(LMarkerText;I)I" } : Jvm.MethodName) method_6_code (3 : Nat) (Option.some Jvm.ClassFile.FieldType.int) [((0 : Nat), (5 : Nat), (8 : Nat), (13 : Nat))]) ∈ xT := xT_at 1158 (by decide +kernel) (by decide +kernel)
theorem d_Law_give_8 : decode M_Law_give.2.1 8 = .ok (.astore_n 2, 1) := by decide +kernel
theorem d_Law_give_9 : decode M_Law_give.2.1 9 = .ok (.iconst 1, 1) := by decide +kernel
theorem d_Law_give_10 : decode M_Law_give.2.1 10 = .ok (.ireturn, 1) := by decide +kernel
end
section LAWA
variable {l : Launch} {G : XG} {h : XH} {c n d : Nat}
theorem c_Lname0 (hG : xGk G) (htr : l.stackTraces = false) (hd : 13 ≤ d) {x o : Nat} {k : Int32} (hx : mt0 h x) (hc : c + 200 ≤ xCB) (hn : n + 3000 ≤ xSB) : XMW l G d M_Law_name [((0 : Nat), (9 : Nat), (12 : Nat), (13 : Nat)), ((0 : Nat), (9 : Nat), (15 : Nat), (15 : Nat))] [.ref x, .int k, .ref o] h c n (pA (some (.int 1)) h c n) := by
  obtain ⟨d, rfl⟩ : ∃ q, d = q + 1 := ⟨d - 1, by omega⟩
  obtain ⟨ta, va, na, ca, ea, co, pa, e0, -⟩ := id hx
  refine XMW.of (by decide +kernel) (Nat.le_of_ble_eq_true rfl) ?_
  refine x_aload_n d_Law_name_0 rfl rfl ?_
  refine x_iconst (v := 0) d_Law_name_1 (by decide) ?_
  refine x_aload_n d_Law_name_2 rfl rfl ?_
  refine x_iload_n d_Law_name_3 rfl ?_
  refine x_callVT (As := [_]) (kE := k_IllegalArgumentException) (k := k_MarkerText) rfl xcb_MT_name xw_454 xw_453 xw_455 xw_450 ⟨by decide, by decide⟩ (by decide) rfl xw_451 (Or.inl e0) (c_name0 hG htr (by omega) hx hc hn) rfl rfl (Nat.le_of_ble_eq_true rfl) d_Law_name_4 ?_ ?_
  · rintro v h1 c1 n1 ⟨a, rfl, -⟩ hne
    exact absurd rfl (hne a)
  · rintro a h1 c1 n1 ⟨a', e, ha, hap, hc1, hn1⟩
    cases e
    refine ⟨⟨_, ha⟩, ?_⟩
    refine x_astore_n (L' := [_, _, _, _]) d_Law_name_12 rfl rfl rfl ?_
    refine x_iconst (v := 1) d_Law_name_13 (by decide) ?_
    refine x_iret d_Law_name_14 rfl ?_
    exact ⟨rfl, hap, hc1, hn1⟩
theorem c_Lvalue0 (hG : xGk G) (htr : l.stackTraces = false) (hd : 13 ≤ d) {x o : Nat} {k : Int32} (hx : mt0 h x) (hc : c + 200 ≤ xCB) (hn : n + 3000 ≤ xSB) : XMW l G d M_Law_value [((0 : Nat), (9 : Nat), (12 : Nat), (13 : Nat)), ((0 : Nat), (9 : Nat), (15 : Nat), (15 : Nat))] [.ref x, .int k, .ref o] h c n (pA (some (.int 1)) h c n) := by
  obtain ⟨d, rfl⟩ : ∃ q, d = q + 1 := ⟨d - 1, by omega⟩
  obtain ⟨ta, va, na, ca, ea, co, pa, e0, -⟩ := id hx
  refine XMW.of (by decide +kernel) (Nat.le_of_ble_eq_true rfl) ?_
  refine x_aload_n d_Law_value_0 rfl rfl ?_
  refine x_iconst (v := 0) d_Law_value_1 (by decide) ?_
  refine x_aload_n d_Law_value_2 rfl rfl ?_
  refine x_iload_n d_Law_value_3 rfl ?_
  refine x_callVT (As := [_]) (kE := k_IllegalArgumentException) (k := k_MarkerText) rfl xcb_MT_value xw_741 xw_740 xw_742 xw_739 ⟨by decide, by decide⟩ (by decide) rfl xw_451 (Or.inl e0) (c_value0 hG htr (by omega) hx hc hn) rfl rfl (Nat.le_of_ble_eq_true rfl) d_Law_value_4 ?_ ?_
  · rintro v h1 c1 n1 ⟨a, rfl, -⟩ hne
    exact absurd rfl (hne a)
  · rintro a h1 c1 n1 ⟨a', e, ha, hap, hc1, hn1⟩
    cases e
    refine ⟨⟨_, ha⟩, ?_⟩
    refine x_astore_n (L' := [_, _, _, _]) d_Law_value_12 rfl rfl rfl ?_
    refine x_iconst (v := 1) d_Law_value_13 (by decide) ?_
    refine x_iret d_Law_value_14 rfl ?_
    exact ⟨rfl, hap, hc1, hn1⟩
theorem c_Lcondition0 (hG : xGk G) (htr : l.stackTraces = false) (hd : 13 ≤ d) {x o : Nat} (hx : mt0 h x) (hc : c + 200 ≤ xCB) (hn : n + 3000 ≤ xSB) : XMW l G d M_Law_condition [((0 : Nat), (8 : Nat), (11 : Nat), (13 : Nat)), ((0 : Nat), (8 : Nat), (14 : Nat), (15 : Nat))] [.ref x, .ref o] h c n (pA (some (.int 1)) h c n) := by
  obtain ⟨d, rfl⟩ : ∃ q, d = q + 1 := ⟨d - 1, by omega⟩
  obtain ⟨ta, va, na, ca, ea, co, pa, e0, -⟩ := id hx
  refine XMW.of (by decide +kernel) (Nat.le_of_ble_eq_true rfl) ?_
  refine x_aload_n d_Law_condition_0 rfl rfl ?_
  refine x_iconst (v := 0) d_Law_condition_1 (by decide) ?_
  refine x_aload_n d_Law_condition_2 rfl rfl ?_
  refine x_callVT (As := []) (kE := k_IllegalArgumentException) (k := k_MarkerText) rfl xcb_MT_condition xw_820 xw_819 xw_821 xw_818 ⟨by decide, by decide⟩ (by decide) rfl xw_451 (Or.inl e0) (c_condition0 hG htr (by omega) hx hc hn) rfl rfl (Nat.le_of_ble_eq_true rfl) d_Law_condition_3 ?_ ?_
  · rintro v h1 c1 n1 ⟨a, rfl, -⟩ hne
    exact absurd rfl (hne a)
  · rintro a h1 c1 n1 ⟨a', e, ha, hap, hc1, hn1⟩
    cases e
    refine ⟨⟨_, ha⟩, ?_⟩
    refine x_astore_n (L' := [_, _, _]) d_Law_condition_11 rfl rfl rfl ?_
    refine x_iconst (v := 1) d_Law_condition_12 (by decide) ?_
    refine x_iret d_Law_condition_13 rfl ?_
    exact ⟨rfl, hap, hc1, hn1⟩
theorem c_Lgive0 (hG : xGk G) (htr : l.stackTraces = false) (hd : 13 ≤ d) {x : Nat} {k : Int32} (hx : mt0 h x) (hc : c + 200 ≤ xCB) (hn : n + 3000 ≤ xSB) : XMW l G d M_Law_give [((0 : Nat), (5 : Nat), (8 : Nat), (13 : Nat))] [.ref x, .int k] h c n (pA (some (.int 1)) h c n) := by
  obtain ⟨d, rfl⟩ : ∃ q, d = q + 1 := ⟨d - 1, by omega⟩
  obtain ⟨ta, va, na, ca, ea, co, pa, e0, -⟩ := id hx
  refine XMW.of (by decide +kernel) (Nat.le_of_ble_eq_true rfl) ?_
  refine x_aload_n d_Law_give_0 rfl rfl ?_
  refine x_iload_n d_Law_give_1 rfl ?_
  refine x_callVT (As := [_]) (kE := k_IllegalArgumentException) (k := k_MarkerText) rfl xcb_MT_give xw_1160 xw_1159 xw_1161 xw_1158 ⟨by decide, by decide⟩ (by decide) rfl xw_451 (Or.inl e0) (c_give0 hG htr (by omega) hx hc hn) rfl rfl (Nat.le_of_ble_eq_true rfl) d_Law_give_2 ?_ ?_
  · rintro v h1 c1 n1 ⟨a, rfl, -⟩ hne
    exact absurd rfl (hne a)
  · rintro a h1 c1 n1 ⟨a', e, ha, hap, hc1, hn1⟩
    cases e
    refine ⟨⟨_, ha⟩, ?_⟩
    refine x_astore_n (L' := [_, _, _]) d_Law_give_8 rfl rfl rfl ?_
    refine x_iconst (v := 1) d_Law_give_9 (by decide) ?_
    refine x_iret d_Law_give_10 rfl ?_
    exact ⟨rfl, hap, hc1, hn1⟩
end LAWA
