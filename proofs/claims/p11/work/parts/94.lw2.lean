section
abbrev y_Law_name : MethodName := ⟨"MarkerTextLaw", "name", "(LMarkerText;I[J)I"⟩
abbrev M_Law_name : XMt := (y_Law_name, method_3_code, 4, (some .int))
theorem d_Law_name_0 : decode M_Law_name.2.1 0 = .ok (.aload_n 2, 1) := by decide +kernel
theorem d_Law_name_1 : decode M_Law_name.2.1 1 = .ok (.iconst 0, 1) := by decide +kernel
theorem d_Law_name_2 : decode M_Law_name.2.1 2 = .ok (.aload_n 0, 1) := by decide +kernel
theorem d_Law_name_3 : decode M_Law_name.2.1 3 = .ok (.iload_n 1, 1) := by decide +kernel
theorem d_Law_name_4 : decode M_Law_name.2.1 4 = .ok (.invokevirtual 7, 3) := by decide +kernel
theorem xcb_MT_name : xcb M_MT_name 1 := ⟨xw_456, xw_1, by decide, by decide, by decide, by decide +kernel⟩
theorem xw_454 : (Jvm.Cond.instanceMethod ({ cls := "MarkerText", name := "name", desc := "(I)I" } : Jvm.MethodName)) ∈ xT := xT_at 454 (by decide +kernel) (by decide +kernel)
theorem xw_453 : (Jvm.Cond.methodLink "MarkerTextLaw" (7 : Nat) ({ cls := "MarkerText", name := "name", desc := "(I)I" } : Jvm.MethodName)) ∈ xT := xT_at 453 (by decide +kernel) (by decide +kernel)
theorem xw_455 : (Jvm.Cond.selects "MarkerText" ({ cls := "MarkerText", name := "name", desc := "(I)I" } : Jvm.MethodName) ({ cls := "MarkerText", name := "name", desc := "(I)I" } : Jvm.MethodName)) ∈ xT := xT_at 455 (by decide +kernel) (by decide +kernel)
theorem xw_450 : (Jvm.Cond.codeWith ({ cls := "MarkerTextLaw", name := "name", desc := "(LMarkerText;I[J)I" } : Jvm.MethodName) method_3_code (4 : Nat) (Option.some Jvm.ClassFile.FieldType.int) [((0 : Nat), (9 : Nat), (12 : Nat), (13 : Nat)), ((0 : Nat), (9 : Nat), (15 : Nat), (15 : Nat))]) ∈ xT := xT_at 450 (by decide +kernel) (by decide +kernel)
theorem xw_451 : (Jvm.Cond.classLink "MarkerTextLaw" (13 : Nat) "java/lang/IllegalArgumentException") ∈ xT := xT_at 451 (by decide +kernel) (by decide +kernel)
theorem xw_452 : (Jvm.Cond.classLink "MarkerTextLaw" (15 : Nat) "java/lang/IllegalStateException") ∈ xT := xT_at 452 (by decide +kernel) (by decide +kernel)
theorem d_Law_name_12 : decode M_Law_name.2.1 12 = .ok (.astore_n 3, 1) := by decide +kernel
theorem d_Law_name_13 : decode M_Law_name.2.1 13 = .ok (.iconst 1, 1) := by decide +kernel
theorem d_Law_name_14 : decode M_Law_name.2.1 14 = .ok (.ireturn, 1) := by decide +kernel
theorem d_Law_name_15 : decode M_Law_name.2.1 15 = .ok (.astore_n 3, 1) := by decide +kernel
theorem d_Law_name_16 : decode M_Law_name.2.1 16 = .ok (.iconst 2, 1) := by decide +kernel
theorem d_Law_name_17 : decode M_Law_name.2.1 17 = .ok (.ireturn, 1) := by decide +kernel
theorem d_Law_name_7 : decode M_Law_name.2.1 7 = .ok (.i2l, 1) := by decide +kernel
theorem d_Law_name_8 : decode M_Law_name.2.1 8 = .ok (.lastore, 1) := by decide +kernel
theorem d_Law_name_9 : decode M_Law_name.2.1 9 = .ok (.goto 9, 3) := by decide +kernel
theorem d_Law_name_18 : decode M_Law_name.2.1 18 = .ok (.iconst 0, 1) := by decide +kernel
theorem d_Law_name_19 : decode M_Law_name.2.1 19 = .ok (.ireturn, 1) := by decide +kernel
abbrev y_Law_value : MethodName := ⟨"MarkerTextLaw", "value", "(LMarkerText;I[J)I"⟩
abbrev M_Law_value : XMt := (y_Law_value, method_4_code, 4, (some .int))
theorem d_Law_value_0 : decode M_Law_value.2.1 0 = .ok (.aload_n 2, 1) := by decide +kernel
theorem d_Law_value_1 : decode M_Law_value.2.1 1 = .ok (.iconst 0, 1) := by decide +kernel
theorem d_Law_value_2 : decode M_Law_value.2.1 2 = .ok (.aload_n 0, 1) := by decide +kernel
theorem d_Law_value_3 : decode M_Law_value.2.1 3 = .ok (.iload_n 1, 1) := by decide +kernel
theorem d_Law_value_4 : decode M_Law_value.2.1 4 = .ok (.invokevirtual 17, 3) := by decide +kernel
theorem xcb_MT_value : xcb M_MT_value 1 := ⟨xw_743, xw_1, by decide, by decide, by decide, by decide +kernel⟩
theorem xw_741 : (Jvm.Cond.instanceMethod ({ cls := "MarkerText", name := "value", desc := "(I)I" } : Jvm.MethodName)) ∈ xT := xT_at 741 (by decide +kernel) (by decide +kernel)
theorem xw_740 : (Jvm.Cond.methodLink "MarkerTextLaw" (17 : Nat) ({ cls := "MarkerText", name := "value", desc := "(I)I" } : Jvm.MethodName)) ∈ xT := xT_at 740 (by decide +kernel) (by decide +kernel)
theorem xw_742 : (Jvm.Cond.selects "MarkerText" ({ cls := "MarkerText", name := "value", desc := "(I)I" } : Jvm.MethodName) ({ cls := "MarkerText", name := "value", desc := "(I)I" } : Jvm.MethodName)) ∈ xT := xT_at 742 (by decide +kernel) (by decide +kernel)
theorem xw_739 : (Jvm.Cond.codeWith ({ cls := "MarkerTextLaw", name := "value", desc := "(LMarkerText;I[J)I" } : Jvm.MethodName) method_4_code (4 : Nat) (Option.some Jvm.ClassFile.FieldType.int) [((0 : Nat), (9 : Nat), (12 : Nat), (13 : Nat)), ((0 : Nat), (9 : Nat), (15 : Nat), (15 : Nat))]) ∈ xT := xT_at 739 (by decide +kernel) (by decide +kernel)
theorem d_Law_value_12 : decode M_Law_value.2.1 12 = .ok (.astore_n 3, 1) := by decide +kernel
theorem d_Law_value_13 : decode M_Law_value.2.1 13 = .ok (.iconst 1, 1) := by decide +kernel
theorem d_Law_value_14 : decode M_Law_value.2.1 14 = .ok (.ireturn, 1) := by decide +kernel
theorem d_Law_value_15 : decode M_Law_value.2.1 15 = .ok (.astore_n 3, 1) := by decide +kernel
theorem d_Law_value_16 : decode M_Law_value.2.1 16 = .ok (.iconst 2, 1) := by decide +kernel
theorem d_Law_value_17 : decode M_Law_value.2.1 17 = .ok (.ireturn, 1) := by decide +kernel
theorem d_Law_value_7 : decode M_Law_value.2.1 7 = .ok (.i2l, 1) := by decide +kernel
theorem d_Law_value_8 : decode M_Law_value.2.1 8 = .ok (.lastore, 1) := by decide +kernel
theorem d_Law_value_9 : decode M_Law_value.2.1 9 = .ok (.goto 9, 3) := by decide +kernel
theorem d_Law_value_18 : decode M_Law_value.2.1 18 = .ok (.iconst 0, 1) := by decide +kernel
theorem d_Law_value_19 : decode M_Law_value.2.1 19 = .ok (.ireturn, 1) := by decide +kernel
abbrev y_Law_condition : MethodName := ⟨"MarkerTextLaw", "condition", "(LMarkerText;[J)I"⟩
abbrev M_Law_condition : XMt := (y_Law_condition, method_5_code, 3, (some .int))
theorem d_Law_condition_0 : decode M_Law_condition.2.1 0 = .ok (.aload_n 1, 1) := by decide +kernel
theorem d_Law_condition_1 : decode M_Law_condition.2.1 1 = .ok (.iconst 0, 1) := by decide +kernel
theorem d_Law_condition_2 : decode M_Law_condition.2.1 2 = .ok (.aload_n 0, 1) := by decide +kernel
theorem d_Law_condition_3 : decode M_Law_condition.2.1 3 = .ok (.invokevirtual 20, 3) := by decide +kernel
theorem xcb_MT_condition : xcb M_MT_condition 0 := ⟨xw_822, xw_1, by decide, by decide, by decide, by decide +kernel⟩
theorem xw_820 : (Jvm.Cond.instanceMethod ({ cls := "MarkerText", name := "condition", desc := "()I" } : Jvm.MethodName)) ∈ xT := xT_at 820 (by decide +kernel) (by decide +kernel)
theorem xw_819 : (Jvm.Cond.methodLink "MarkerTextLaw" (20 : Nat) ({ cls := "MarkerText", name := "condition", desc := "()I" } : Jvm.MethodName)) ∈ xT := xT_at 819 (by decide +kernel) (by decide +kernel)
theorem xw_821 : (Jvm.Cond.selects "MarkerText" ({ cls := "MarkerText", name := "condition", desc := "()I" } : Jvm.MethodName) ({ cls := "MarkerText", name := "condition", desc := "()I" } : Jvm.MethodName)) ∈ xT := xT_at 821 (by decide +kernel) (by decide +kernel)
theorem xw_818 : (Jvm.Cond.codeWith ({ cls := "MarkerTextLaw", name := "condition", desc := "(LMarkerText;[J)I" } : Jvm.MethodName) method_5_code (3 : Nat) (Option.some Jvm.ClassFile.FieldType.int) [((0 : Nat), (8 : Nat), (11 : Nat), (13 : Nat)), ((0 : Nat), (8 : Nat), (14 : Nat), (15 : Nat))]) ∈ xT := xT_at 818 (by decide +kernel) (by decide +kernel)
theorem d_Law_condition_11 : decode M_Law_condition.2.1 11 = .ok (.astore_n 2, 1) := by decide +kernel
theorem d_Law_condition_12 : decode M_Law_condition.2.1 12 = .ok (.iconst 1, 1) := by decide +kernel
theorem d_Law_condition_13 : decode M_Law_condition.2.1 13 = .ok (.ireturn, 1) := by decide +kernel
theorem d_Law_condition_14 : decode M_Law_condition.2.1 14 = .ok (.astore_n 2, 1) := by decide +kernel
theorem d_Law_condition_15 : decode M_Law_condition.2.1 15 = .ok (.iconst 2, 1) := by decide +kernel
theorem d_Law_condition_16 : decode M_Law_condition.2.1 16 = .ok (.ireturn, 1) := by decide +kernel
theorem d_Law_condition_6 : decode M_Law_condition.2.1 6 = .ok (.i2l, 1) := by decide +kernel
theorem d_Law_condition_7 : decode M_Law_condition.2.1 7 = .ok (.lastore, 1) := by decide +kernel
theorem d_Law_condition_8 : decode M_Law_condition.2.1 8 = .ok (.goto 9, 3) := by decide +kernel
theorem d_Law_condition_17 : decode M_Law_condition.2.1 17 = .ok (.iconst 0, 1) := by decide +kernel
theorem d_Law_condition_18 : decode M_Law_condition.2.1 18 = .ok (.ireturn, 1) := by decide +kernel
abbrev y_Law_give : MethodName := ⟨"MarkerTextLaw", "give", "(LMarkerText;I)I"⟩
abbrev M_Law_give : XMt := (y_Law_give, method_6_code, 3, (some .int))
theorem d_Law_give_0 : decode M_Law_give.2.1 0 = .ok (.aload_n 0, 1) := by decide +kernel
theorem d_Law_give_1 : decode M_Law_give.2.1 1 = .ok (.iload_n 1, 1) := by decide +kernel
theorem d_Law_give_2 : decode M_Law_give.2.1 2 = .ok (.invokevirtual 24, 3) := by decide +kernel
theorem xcb_MT_give : xcb M_MT_give 1 := ⟨xw_1162, xw_1, by decide, by decide, by decide, by decide +kernel⟩
theorem xw_1160 : (Jvm.Cond.instanceMethod ({ cls := "MarkerText", name := "give", desc := "(I)V" } : Jvm.MethodName)) ∈ xT := xT_at 1160 (by decide +kernel) (by decide +kernel)
theorem xw_1159 : (Jvm.Cond.methodLink "MarkerTextLaw" (24 : Nat) ({ cls := "MarkerText", name := "give", desc := "(I)V" } : Jvm.MethodName)) ∈ xT := xT_at 1159 (by decide +kernel) (by decide +kernel)
theorem xw_1161 : (Jvm.Cond.selects "MarkerText" ({ cls := "MarkerText", name := "give", desc := "(I)V" } : Jvm.MethodName) ({ cls := "MarkerText", name := "give", desc := "(I)V" } : Jvm.MethodName)) ∈ xT := xT_at 1161 (by decide +kernel) (by decide +kernel)
theorem xw_1158 : (Jvm.Cond.codeWith ({ cls := "MarkerTextLaw", name := "give", desc := "(LMarkerText;I)I" } : Jvm.MethodName) method_6_code (3 : Nat) (Option.some Jvm.ClassFile.FieldType.int) [((0 : Nat), (5 : Nat), (8 : Nat), (13 : Nat))]) ∈ xT := xT_at 1158 (by decide +kernel) (by decide +kernel)
theorem d_Law_give_8 : decode M_Law_give.2.1 8 = .ok (.astore_n 2, 1) := by decide +kernel
theorem d_Law_give_9 : decode M_Law_give.2.1 9 = .ok (.iconst 1, 1) := by decide +kernel
theorem d_Law_give_10 : decode M_Law_give.2.1 10 = .ok (.ireturn, 1) := by decide +kernel
theorem d_Law_give_5 : decode M_Law_give.2.1 5 = .ok (.goto 6, 3) := by decide +kernel
theorem d_Law_give_11 : decode M_Law_give.2.1 11 = .ok (.iconst 0, 1) := by decide +kernel
theorem d_Law_give_12 : decode M_Law_give.2.1 12 = .ok (.ireturn, 1) := by decide +kernel
end
section LW2
variable {l : Launch} {G : XG} {h : XH} {c n d : Nat}
variable {x k : Nat} {t : List Nat} {Ns : List NmT} {Cs : List CnT} {il : Option Nat} {lv : Nat → Nat} {Pt : PtT}
theorem xapR.put {h1 : XH} {o : Nat} {vs : List Value} {e : Nat × List Value} (a : ∃ F, xfr h h1 F ∧ xno h F RKs) (ho : h1 o = some (k_along, vs)) : ∃ F, xfr h (xup h1 o e) F ∧ xno h F RKs := xq.tr a ⟨[o], xfr.rf.up (Or.inl (by simp)), xno1 ho (by decide)⟩
theorem xapR.w {h' : XH} (a : xapR h h') : ∃ F, xfr h h' F ∧ xno h F RKs := by
  obtain ⟨F, f, q⟩ := a
  exact ⟨F, f, q.sub (fun k hk => List.mem_cons_of_mem _ hk)⟩
/-- the code that the law has of an end: 0 it returned, 1 and 2 the exceptions -/
def exN (b : Bool) : Int32 := if b then 1 else 2
/-- what a helper of the law leaves: its code, out's element, the class -/
abbrev pL (G : XG) (h : XH) (x k o : Nat) (w : Int32) (z : Int64) (Ns : List NmT) (Cs : List CnT) (il : Option Nat) (lv : Nat → Nat) (Pt : PtT) : Option Value → XH → Nat → Nat → Prop := fun v h' c' n' => v = some (.int w) ∧ h' o = some (k_along, [.long z]) ∧ (∃ F, xfr h h' F ∧ xno h F RKs) ∧ CI G h' x (k + 1) c' n' [] Ns Cs il lv Pt
def lnm (Ns : List NmT) (z : Int64) : Bool ⊕ (Nat × List NmT) → Int32 × Int64 × List NmT
  | .inl b => (exN b, z, Ns)
  | .inr (r, Ns') => (0, (nI r).toInt64, Ns')
theorem K_Lname (hG : xGk G) (htr : l.stackTraces = false) (hd : 13 ≤ d) {o : Nat} {w : Int32} {z : Int64} (hI : CI G h x k c n t Ns Cs il lv Pt) (hk : k < 512) (ho : h o = some (k_along, [.long z])) : XMW l G d M_Law_name [((0 : Nat), (9 : Nat), (12 : Nat), (13 : Nat)), ((0 : Nat), (9 : Nat), (15 : Nat), (15 : Nat))] [.ref x, .int w, .ref o] h c n (pL G h x k o (lnm Ns z (nmu Ns t w)).1 (lnm Ns z (nmu Ns t w)).2.1 (lnm Ns z (nmu Ns t w)).2.2 Cs il lv Pt) := by
  obtain ⟨d, rfl⟩ : ∃ q, d = q + 1 := ⟨d - 1, by omega⟩
  obtain ⟨hl, ha⟩ := hI.text
  obtain ⟨ta, va, m, na, ca, ea, ch, pa, as, kas, cas, hM, hv, hc, hn⟩ := id hI
  have hm := hM.2.2.1
  have e0 := hM.1
  have hcb := xCB_ge
  have hsb := xSB_ge
  have hcn := c_name (l := l) (c := c) (n := n) (d := d) (k := w) hG htr (by omega) hM (by omega) (by omega)
  refine XMW.of (by decide +kernel) (Nat.le_of_ble_eq_true rfl) ?_
  rcases hq : nmu Ns t w with b | ⟨r, Ns'⟩
  · rw [hq] at hcn
    refine x_aload_n d_Law_name_0 rfl rfl ?_
    refine x_iconst (v := 0) d_Law_name_1 (by decide) ?_
    refine x_aload_n d_Law_name_2 rfl rfl ?_
    refine x_iload_n d_Law_name_3 rfl ?_
    refine x_callVT2 (As := [_]) (k := k_MarkerText) rfl xcb_MT_name xw_454 xw_453 xw_455 xw_450 ⟨by decide, by decide⟩ ⟨by decide, by decide⟩ (by decide) (by decide) rfl xw_451 rfl xw_452 (Or.inl e0) hcn rfl rfl (Nat.le_of_ble_eq_true rfl) d_Law_name_4 ?_ ?_
    · rintro v h1 c1 n1 ⟨-, -, -, ⟨a, rfl, -⟩, -⟩ hne
      exact absurd rfl (hne a)
    · rintro a h1 c1 n1 ⟨hc1, hn1, hap, ⟨a', e, hx⟩, hM1⟩
      cases e
      have hI1 : CI G h1 x (k + 1) c1 n1 [] Ns Cs il lv Pt := ⟨_, _, _, _, _, _, _, _, _, _, _, hM1, hv, by simp; omega, by simp; omega⟩
      cases b with
      | true =>
        refine Or.inl ⟨⟨_, hx⟩, ?_⟩
        refine x_astore_n (L' := [_, _, _, _]) d_Law_name_12 rfl rfl rfl ?_
        refine x_iconst (v := 1) d_Law_name_13 (by decide) ?_
        refine x_iret d_Law_name_14 rfl ?_
        exact ⟨rfl, hap.R.out ho, hap.R.w, hI1⟩
      | false =>
        refine Or.inr ⟨⟨_, hx⟩, ?_⟩
        refine x_astore_n (L' := [_, _, _, _]) d_Law_name_15 rfl rfl rfl ?_
        refine x_iconst (v := 2) d_Law_name_16 (by decide) ?_
        refine x_iret d_Law_name_17 rfl ?_
        exact ⟨rfl, hap.R.out ho, hap.R.w, hI1⟩
  · rw [hq] at hcn
    refine x_aload_n d_Law_name_0 rfl rfl ?_
    refine x_iconst (v := 0) d_Law_name_1 (by decide) ?_
    refine x_aload_n d_Law_name_2 rfl rfl ?_
    refine x_iload_n d_Law_name_3 rfl ?_
    refine x_callVT2 (As := [_]) (k := k_MarkerText) rfl xcb_MT_name xw_454 xw_453 xw_455 xw_450 ⟨by decide, by decide⟩ ⟨by decide, by decide⟩ (by decide) (by decide) rfl xw_451 rfl xw_452 (Or.inl e0) hcn rfl rfl (Nat.le_of_ble_eq_true rfl) d_Law_name_4 ?_ ?_
    · rintro v h1 c1 n1 ⟨hc1, hn1, hap, rfl, as', kas', hM1⟩ -
      have hI1 : CI G h1 x (k + 1) c1 n1 [] Ns' Cs il lv Pt := ⟨_, _, _, _, _, _, _, _, _, _, _, hM1, hv.nm hq, by simp; omega, by simp; omega⟩
      have ho1 := hap.R.out ho
      refine x_i2l d_Law_name_7 ?_
      refine x_last (k := k_along) rfl ho1 (by decide) rfl d_Law_name_8 ?_
      refine x_goto (tgt := 18) d_Law_name_9 (by decide) ?_
      refine x_iconst (v := 0) d_Law_name_18 (by decide) ?_
      refine x_iret d_Law_name_19 rfl ?_
      exact ⟨rfl, xup_self, xapR.put hap.R.w ho1, hI1.fr (Ks := [k_along]) (xonly.up ho1 (by simp)) (by decide)⟩
    · rintro a h1 c1 n1 ⟨-, -, -, e, -⟩
      cases e
theorem K_Lvalue (hG : xGk G) (htr : l.stackTraces = false) (hd : 13 ≤ d) {o : Nat} {w : Int32} {z : Int64} (hI : CI G h x k c n t Ns Cs il lv Pt) (hk : k < 512) (ho : h o = some (k_along, [.long z])) : XMW l G d M_Law_value [((0 : Nat), (9 : Nat), (12 : Nat), (13 : Nat)), ((0 : Nat), (9 : Nat), (15 : Nat), (15 : Nat))] [.ref x, .int w, .ref o] h c n (pL G h x k o (lnm Ns z (vlu Ns t w)).1 (lnm Ns z (vlu Ns t w)).2.1 (lnm Ns z (vlu Ns t w)).2.2 Cs il lv Pt) := by
  obtain ⟨d, rfl⟩ : ∃ q, d = q + 1 := ⟨d - 1, by omega⟩
  obtain ⟨hl, ha⟩ := hI.text
  obtain ⟨ta, va, m, na, ca, ea, ch, pa, as, kas, cas, hM, hv, hc, hn⟩ := id hI
  have hm := hM.2.2.1
  have e0 := hM.1
  have hcb := xCB_ge
  have hsb := xSB_ge
  have hcn := c_value (l := l) (c := c) (n := n) (d := d) (k := w) hG htr (by omega) hM (by omega) (by omega)
  refine XMW.of (by decide +kernel) (Nat.le_of_ble_eq_true rfl) ?_
  rcases hq : vlu Ns t w with b | ⟨r, Ns'⟩
  · rw [hq] at hcn
    refine x_aload_n d_Law_value_0 rfl rfl ?_
    refine x_iconst (v := 0) d_Law_value_1 (by decide) ?_
    refine x_aload_n d_Law_value_2 rfl rfl ?_
    refine x_iload_n d_Law_value_3 rfl ?_
    refine x_callVT2 (As := [_]) (k := k_MarkerText) rfl xcb_MT_value xw_741 xw_740 xw_742 xw_739 ⟨by decide, by decide⟩ ⟨by decide, by decide⟩ (by decide) (by decide) rfl xw_451 rfl xw_452 (Or.inl e0) hcn rfl rfl (Nat.le_of_ble_eq_true rfl) d_Law_value_4 ?_ ?_
    · rintro v h1 c1 n1 ⟨-, -, -, ⟨a, rfl, -⟩, -⟩ hne
      exact absurd rfl (hne a)
    · rintro a h1 c1 n1 ⟨hc1, hn1, hap, ⟨a', e, hx⟩, hM1⟩
      cases e
      have hI1 : CI G h1 x (k + 1) c1 n1 [] Ns Cs il lv Pt := ⟨_, _, _, _, _, _, _, _, _, _, _, hM1, hv, by simp; omega, by simp; omega⟩
      cases b with
      | true =>
        refine Or.inl ⟨⟨_, hx⟩, ?_⟩
        refine x_astore_n (L' := [_, _, _, _]) d_Law_value_12 rfl rfl rfl ?_
        refine x_iconst (v := 1) d_Law_value_13 (by decide) ?_
        refine x_iret d_Law_value_14 rfl ?_
        exact ⟨rfl, hap.R.out ho, hap.R.w, hI1⟩
      | false =>
        refine Or.inr ⟨⟨_, hx⟩, ?_⟩
        refine x_astore_n (L' := [_, _, _, _]) d_Law_value_15 rfl rfl rfl ?_
        refine x_iconst (v := 2) d_Law_value_16 (by decide) ?_
        refine x_iret d_Law_value_17 rfl ?_
        exact ⟨rfl, hap.R.out ho, hap.R.w, hI1⟩
  · rw [hq] at hcn
    refine x_aload_n d_Law_value_0 rfl rfl ?_
    refine x_iconst (v := 0) d_Law_value_1 (by decide) ?_
    refine x_aload_n d_Law_value_2 rfl rfl ?_
    refine x_iload_n d_Law_value_3 rfl ?_
    refine x_callVT2 (As := [_]) (k := k_MarkerText) rfl xcb_MT_value xw_741 xw_740 xw_742 xw_739 ⟨by decide, by decide⟩ ⟨by decide, by decide⟩ (by decide) (by decide) rfl xw_451 rfl xw_452 (Or.inl e0) hcn rfl rfl (Nat.le_of_ble_eq_true rfl) d_Law_value_4 ?_ ?_
    · rintro v h1 c1 n1 ⟨hc1, hn1, hap, rfl, hM1⟩ -
      have hI1 : CI G h1 x (k + 1) c1 n1 [] Ns' Cs il lv Pt := ⟨_, _, _, _, _, _, _, _, _, _, _, hM1, hv.val ha hq, by simp; omega, by simp; omega⟩
      have ho1 := hap.R.out ho
      refine x_i2l d_Law_value_7 ?_
      refine x_last (k := k_along) rfl ho1 (by decide) rfl d_Law_value_8 ?_
      refine x_goto (tgt := 18) d_Law_value_9 (by decide) ?_
      refine x_iconst (v := 0) d_Law_value_18 (by decide) ?_
      refine x_iret d_Law_value_19 rfl ?_
      exact ⟨rfl, xup_self, xapR.put hap.R.w ho1, hI1.fr (Ks := [k_along]) (xonly.up ho1 (by simp)) (by decide)⟩
    · rintro a h1 c1 n1 ⟨-, -, -, e, -⟩
      cases e
/-- what condition() leaves -/
def lcd (Cs : List CnT) (z : Int64) (p : Nat × Option CnT) : Int32 × Int64 × List CnT × Option Nat := match p.2 with
  | none => (1, z, Cs, some p.1)
  | some D => if 8 ≤ Cs.length then (2, z, Cs, none) else (0, (nI Cs.length).toInt64, Cs ++ [D], none)
set_option maxRecDepth 100000 in
theorem K_Lcondition (hG : xGk G) (htr : l.stackTraces = false) (hd : 351 ≤ d) {o : Nat} {z : Int64} (hI : CI G h x k c n t Ns Cs il lv Pt) (hk : k < 512) (ho : h o = some (k_along, [.long z])) : XMW l G d M_Law_condition [((0 : Nat), (8 : Nat), (11 : Nat), (13 : Nat)), ((0 : Nat), (8 : Nat), (14 : Nat), (15 : Nat))] [.ref x, .ref o] h c n (pL G h x k o (lcd Cs z (rW t Ns)).1 (lcd Cs z (rW t Ns)).2.1 Ns (lcd Cs z (rW t Ns)).2.2.1 (lcd Cs z (rW t Ns)).2.2.2 lv Pt) := by
  obtain ⟨d, rfl⟩ : ∃ q, d = q + 1 := ⟨d - 1, by omega⟩
  obtain ⟨hl, ha⟩ := hI.text
  obtain ⟨ta, va, m, na, ca, ea, ch, pa, as, kas, cas, hM, hv, hc, hn⟩ := id hI
  have hm := hM.2.2.1
  have e0 := hM.1
  have hcb := xCB_ge
  have hsb := xSB_ge
  have ec : cdC t.length = 46 * t.length + 270 := rfl
  have en : cdN t.length = 2014 * t.length + 3100 := rfl
  have hc2 : c + (46 * t.length + 270) ≤ xCB := by omega
  have hn2 : n + (2014 * t.length + 3100) ≤ xSB := by omega
  have hcn := c_condition (l := l) (c := c) (n := n) (d := d) hG htr (by omega) hM hc2 hn2
  refine XMW.of (by decide +kernel) (Nat.le_of_ble_eq_true rfl) ?_
  unfold lcd
  rcases hq : (rW t Ns).2 with _ | D
  · rw [hq] at hcn
    refine x_aload_n d_Law_condition_0 rfl rfl ?_
    refine x_iconst (v := 0) d_Law_condition_1 (by decide) ?_
    refine x_aload_n d_Law_condition_2 rfl rfl ?_
    refine x_callVT2 (As := []) (k := k_MarkerText) rfl xcb_MT_condition xw_820 xw_819 xw_821 xw_818 ⟨by decide, by decide⟩ ⟨by decide, by decide⟩ (by decide) (by decide) rfl xw_451 rfl xw_452 (Or.inl e0) hcn rfl rfl (Nat.le_of_ble_eq_true rfl) d_Law_condition_3 ?_ ?_
    · rintro v h1 c1 n1 ⟨-, -, -, ⟨a, rfl, -⟩, -⟩ hne
      exact absurd rfl (hne a)
    · rintro a h1 c1 n1 ⟨hc1, hn1, hap, ⟨a', e, hx⟩, hM1⟩
      cases e
      have hI1 : CI G h1 x (k + 1) c1 n1 [] Ns Cs (some (rW t Ns).1) lv Pt := ⟨_, _, _, _, _, _, _, _, _, _, _, hM1, hv, by simp; omega, by simp; omega⟩
      refine Or.inl ⟨⟨_, hx⟩, ?_⟩
      refine x_astore_n (L' := [_, _, _]) d_Law_condition_11 rfl rfl rfl ?_
      refine x_iconst (v := 1) d_Law_condition_12 (by decide) ?_
      refine x_iret d_Law_condition_13 rfl ?_
      exact ⟨rfl, hap.R.out ho, hap.R.w, hI1⟩
  · by_cases h8 : 8 ≤ Cs.length
    · simp only [hq, if_pos h8] at hcn ⊢
      refine x_aload_n d_Law_condition_0 rfl rfl ?_
      refine x_iconst (v := 0) d_Law_condition_1 (by decide) ?_
      refine x_aload_n d_Law_condition_2 rfl rfl ?_
      refine x_callVT2 (As := []) (k := k_MarkerText) rfl xcb_MT_condition xw_820 xw_819 xw_821 xw_818 ⟨by decide, by decide⟩ ⟨by decide, by decide⟩ (by decide) (by decide) rfl xw_451 rfl xw_452 (Or.inl e0) hcn rfl rfl (Nat.le_of_ble_eq_true rfl) d_Law_condition_3 ?_ ?_
      · rintro v h1 c1 n1 ⟨-, -, -, ⟨a, rfl, -⟩, -⟩ hne
        exact absurd rfl (hne a)
      · rintro a h1 c1 n1 ⟨hc1, hn1, hap, ⟨a', e, hx⟩, hM1⟩
        cases e
        have hI1 : CI G h1 x (k + 1) c1 n1 [] Ns Cs none lv Pt := ⟨_, _, _, _, _, _, _, _, _, _, _, hM1, hv, by simp; omega, by simp; omega⟩
        refine Or.inr ⟨⟨_, hx⟩, ?_⟩
        refine x_astore_n (L' := [_, _, _]) d_Law_condition_14 rfl rfl rfl ?_
        refine x_iconst (v := 2) d_Law_condition_15 (by decide) ?_
        refine x_iret d_Law_condition_16 rfl ?_
        exact ⟨rfl, hap.R.out ho, hap.R.w, hI1⟩
    · simp only [hq, if_neg h8] at hcn ⊢
      refine x_aload_n d_Law_condition_0 rfl rfl ?_
      refine x_iconst (v := 0) d_Law_condition_1 (by decide) ?_
      refine x_aload_n d_Law_condition_2 rfl rfl ?_
      refine x_callVT2 (As := []) (k := k_MarkerText) rfl xcb_MT_condition xw_820 xw_819 xw_821 xw_818 ⟨by decide, by decide⟩ ⟨by decide, by decide⟩ (by decide) (by decide) rfl xw_451 rfl xw_452 (Or.inl e0) hcn rfl rfl (Nat.le_of_ble_eq_true rfl) d_Law_condition_3 ?_ ?_
      · rintro v h1 c1 n1 ⟨hc1, hn1, hap, rfl, cas', hM1⟩ -
        have hI1 : CI G h1 x (k + 1) c1 n1 [] Ns (Cs ++ [D]) none lv Pt := ⟨_, _, _, _, _, _, _, _, _, _, _, hM1, hv.cd ha hq, by simp; omega, by simp; omega⟩
        have ho1 := hap.R.out ho
        refine x_i2l d_Law_condition_6 ?_
        refine x_last (k := k_along) rfl ho1 (by decide) rfl d_Law_condition_7 ?_
        refine x_goto (tgt := 17) d_Law_condition_8 (by decide) ?_
        refine x_iconst (v := 0) d_Law_condition_17 (by decide) ?_
        refine x_iret d_Law_condition_18 rfl ?_
        exact ⟨rfl, xup_self, xapR.put hap.R.w ho1, hI1.fr (Ks := [k_along]) (xonly.up ho1 (by simp)) (by decide)⟩
      · rintro a h1 c1 n1 ⟨-, -, -, e, -⟩
        cases e
theorem K_Lgive (hG : xGk G) (htr : l.stackTraces = false) (hd : 13 ≤ d) {w : Int32} (hI : CI G h x k c n t Ns Cs il lv Pt) (hk : k < 512) : XMW l G d M_Law_give [((0 : Nat), (5 : Nat), (8 : Nat), (13 : Nat))] [.ref x, .int w] h c n (fun v h' c' n' => v = some (.int (if (gvl Ns t w).isSome then 0 else 1)) ∧ xapR h h' ∧ CI G h' x (k + 1) c' n' [] Ns Cs il (match gvl Ns t w with
    | none => lv
    | some u => lvSet lv w.toNatClampNeg u) Pt) := by
  obtain ⟨d, rfl⟩ : ∃ q, d = q + 1 := ⟨d - 1, by omega⟩
  obtain ⟨hl, ha⟩ := hI.text
  obtain ⟨ta, va, m, na, ca, ea, ch, pa, as, kas, cas, hM, hv, hc, hn⟩ := id hI
  have hm := hM.2.2.1
  have e0 := hM.1
  obtain ⟨-, ⟨z, bs, b1, b2, -⟩, -, -, -, -, hL, -⟩ := id hM
  have hcb := xCB_ge
  have hsb := xSB_ge
  have hcn := c_give (l := l) (c := c) (n := n) (d := d) (k := w) hG htr (by omega) hM (by omega) (by omega)
  have hno : xno h [ta, ea] (k_along :: RKs) := xno2 b1 hL.2.1 (by decide) (by decide)
  refine XMW.of (by decide +kernel) (Nat.le_of_ble_eq_true rfl) ?_
  rcases hq : gvl Ns t w with _ | u
  · rw [hq] at hcn
    refine x_aload_n d_Law_give_0 rfl rfl ?_
    refine x_iload_n d_Law_give_1 rfl ?_
    refine x_callVT (As := [_]) (kE := k_IllegalArgumentException) (k := k_MarkerText) rfl xcb_MT_give xw_1160 xw_1159 xw_1161 xw_1158 ⟨by decide, by decide⟩ (by decide) rfl xw_451 (Or.inl e0) hcn rfl rfl (Nat.le_of_ble_eq_true rfl) d_Law_give_2 ?_ ?_
    · rintro v h1 c1 n1 ⟨-, -, -, ⟨a, rfl, -⟩, -⟩ hne
      exact absurd rfl (hne a)
    · rintro a h1 c1 n1 ⟨hc1, hn1, f, ⟨a', e, hx⟩, hM1⟩
      cases e
      have hI1 : CI G h1 x (k + 1) c1 n1 [] Ns Cs il lv Pt := ⟨_, _, _, _, _, _, _, _, _, _, _, hM1, hv, by simp; omega, by simp; omega⟩
      refine ⟨⟨_, hx⟩, ?_⟩
      refine x_astore_n (L' := [_, _, _]) d_Law_give_8 rfl rfl rfl ?_
      refine x_iconst (v := 1) d_Law_give_9 (by decide) ?_
      refine x_iret d_Law_give_10 rfl ?_
      exact ⟨rfl, ⟨_, f, hno⟩, hI1⟩
  · rw [hq] at hcn
    refine x_aload_n d_Law_give_0 rfl rfl ?_
    refine x_iload_n d_Law_give_1 rfl ?_
    refine x_callVT (As := [_]) (kE := k_IllegalArgumentException) (k := k_MarkerText) rfl xcb_MT_give xw_1160 xw_1159 xw_1161 xw_1158 ⟨by decide, by decide⟩ (by decide) rfl xw_451 (Or.inl e0) hcn rfl rfl (Nat.le_of_ble_eq_true rfl) d_Law_give_2 ?_ ?_
    · rintro v h1 c1 n1 ⟨hc1, hn1, f, rfl, hM1⟩ -
      have hI1 : CI G h1 x (k + 1) c1 n1 [] Ns Cs il (lvSet lv w.toNatClampNeg u) Pt := ⟨_, _, _, _, _, _, _, _, _, _, _, hM1, hv, by simp; omega, by simp; omega⟩
      refine x_goto (tgt := 11) d_Law_give_5 (by decide) ?_
      refine x_iconst (v := 0) d_Law_give_11 (by decide) ?_
      refine x_iret d_Law_give_12 rfl ?_
      exact ⟨rfl, ⟨_, f, hno⟩, hI1⟩
    · rintro a h1 c1 n1 ⟨-, -, -, e, -⟩
      cases e
end LW2
