section
abbrev y_Mo_some : MethodName := ⟨"MarkerTextModel", "some", "(III)I"⟩
abbrev M_Mo_some : XMt := (y_Mo_some, prog_13_method_50_code, 7, (some .int))
theorem d_Mo_some_16 : decode M_Mo_some.2.1 16 = .ok (.iload 4, 2) := by decide +kernel
theorem d_Mo_some_18 : decode M_Mo_some.2.1 18 = .ok (.ifCond .eq 46, 3) := by decide +kernel
theorem d_Mo_some_64 : decode M_Mo_some.2.1 64 = .ok (.iload 5, 2) := by decide +kernel
theorem d_Mo_some_66 : decode M_Mo_some.2.1 66 = .ok (.ifCond .eq 7, 3) := by decide +kernel
theorem d_Mo_some_73 : decode M_Mo_some.2.1 73 = .ok (.iconst 0, 1) := by decide +kernel
theorem d_Mo_some_74 : decode M_Mo_some.2.1 74 = .ok (.ireturn, 1) := by decide +kernel
theorem d_Mo_some_69 : decode M_Mo_some.2.1 69 = .ok (.iconst 1, 1) := by decide +kernel
theorem d_Mo_some_70 : decode M_Mo_some.2.1 70 = .ok (.goto 4, 3) := by decide +kernel
theorem d_Mo_some_21 : decode M_Mo_some.2.1 21 = .ok (.iload 5, 2) := by decide +kernel
theorem d_Mo_some_23 : decode M_Mo_some.2.1 23 = .ok (.ifCond .ne 41, 3) := by decide +kernel
theorem d_Mo_some_26 : decode M_Mo_some.2.1 26 = .ok (.aload_n 0, 1) := by decide +kernel
theorem d_Mo_some_27 : decode M_Mo_some.2.1 27 = .ok (.iload_n 1, 1) := by decide +kernel
theorem d_Mo_some_28 : decode M_Mo_some.2.1 28 = .ok (.invokevirtual 305, 3) := by decide +kernel
theorem xw_1526 : (Jvm.Cond.code ({ cls := "MarkerTextModel", name := "truth", desc := "(I)I" } : Jvm.MethodName) prog_13_method_49_code (5 : Nat) (Option.some Jvm.ClassFile.FieldType.int)) ∈ xT := xT_at 1526 (by decide +kernel) (by decide +kernel)
theorem xcb_Mo_truth : xcb M_Mo_truth 1 := ⟨xw_1526, xw_8, by decide, by decide, by decide, by decide +kernel⟩
theorem xw_1525 : (Jvm.Cond.instanceMethod ({ cls := "MarkerTextModel", name := "truth", desc := "(I)I" } : Jvm.MethodName)) ∈ xT := xT_at 1525 (by decide +kernel) (by decide +kernel)
theorem xw_1523 : (Jvm.Cond.methodLink "MarkerTextModel" (305 : Nat) ({ cls := "MarkerTextModel", name := "truth", desc := "(I)I" } : Jvm.MethodName)) ∈ xT := xT_at 1523 (by decide +kernel) (by decide +kernel)
theorem xsel_Mo_truth : Cond.selects "MarkerTextModel" y_Mo_truth y_Mo_truth ∈ xT := xT_sel (q := (y_Mo_truth, 52)) (by decide +kernel) (by decide +kernel)
theorem xcv_Mo_305_Mo : xCV "MarkerTextModel" 305 "MarkerTextModel" M_Mo_truth 1 := ⟨xcb_Mo_truth, xw_1525, Or.inl ⟨xw_1523, Or.inl xsel_Mo_truth⟩⟩
theorem d_Mo_some_31 : decode M_Mo_some.2.1 31 = .ok (.istore 6, 2) := by decide +kernel
theorem d_Mo_some_33 : decode M_Mo_some.2.1 33 = .ok (.iload 6, 2) := by decide +kernel
theorem d_Mo_some_35 : decode M_Mo_some.2.1 35 = .ok (.iload_n 2, 1) := by decide +kernel
theorem d_Mo_some_36 : decode M_Mo_some.2.1 36 = .ok (.iand, 1) := by decide +kernel
theorem d_Mo_some_37 : decode M_Mo_some.2.1 37 = .ok (.iload_n 2, 1) := by decide +kernel
theorem d_Mo_some_38 : decode M_Mo_some.2.1 38 = .ok (.if_icmp .ne 14, 3) := by decide +kernel
theorem d_Mo_some_52 : decode M_Mo_some.2.1 52 = .ok (.iconst 0, 1) := by decide +kernel
theorem d_Mo_some_53 : decode M_Mo_some.2.1 53 = .ok (.istore 5, 2) := by decide +kernel
theorem d_Mo_some_55 : decode M_Mo_some.2.1 55 = .ok (.aload_n 0, 1) := by decide +kernel
theorem d_Mo_some_56 : decode M_Mo_some.2.1 56 = .ok (.invokevirtual 308, 3) := by decide +kernel
theorem xw_1530 : (Jvm.Cond.code ({ cls := "MarkerTextModel", name := "advance", desc := "()Z" } : Jvm.MethodName) prog_13_method_48_code (2 : Nat) (Option.some Jvm.ClassFile.FieldType.boolean)) ∈ xT := xT_at 1530 (by decide +kernel) (by decide +kernel)
theorem xcb_Mo_advance : xcb M_Mo_advance 0 := ⟨xw_1530, xw_8, by decide, by decide, by decide, by decide +kernel⟩
theorem xw_1529 : (Jvm.Cond.instanceMethod ({ cls := "MarkerTextModel", name := "advance", desc := "()Z" } : Jvm.MethodName)) ∈ xT := xT_at 1529 (by decide +kernel) (by decide +kernel)
theorem xw_1527 : (Jvm.Cond.methodLink "MarkerTextModel" (308 : Nat) ({ cls := "MarkerTextModel", name := "advance", desc := "()Z" } : Jvm.MethodName)) ∈ xT := xT_at 1527 (by decide +kernel) (by decide +kernel)
theorem xsel_Mo_advance : Cond.selects "MarkerTextModel" y_Mo_advance y_Mo_advance ∈ xT := xT_sel (q := (y_Mo_advance, 52)) (by decide +kernel) (by decide +kernel)
theorem xcv_Mo_308_Mo : xCV "MarkerTextModel" 308 "MarkerTextModel" M_Mo_advance 0 := ⟨xcb_Mo_advance, xw_1529, Or.inl ⟨xw_1527, Or.inl xsel_Mo_advance⟩⟩
theorem d_Mo_some_59 : decode M_Mo_some.2.1 59 = .ok (.istore 4, 2) := by decide +kernel
theorem d_Mo_some_61 : decode M_Mo_some.2.1 61 = .ok (.goto (-45), 3) := by decide +kernel
theorem d_Mo_some_41 : decode M_Mo_some.2.1 41 = .ok (.iload 6, 2) := by decide +kernel
theorem d_Mo_some_43 : decode M_Mo_some.2.1 43 = .ok (.iload_n 3, 1) := by decide +kernel
theorem d_Mo_some_44 : decode M_Mo_some.2.1 44 = .ok (.iand, 1) := by decide +kernel
theorem d_Mo_some_45 : decode M_Mo_some.2.1 45 = .ok (.ifCond .ne 7, 3) := by decide +kernel
theorem d_Mo_some_48 : decode M_Mo_some.2.1 48 = .ok (.iconst 1, 1) := by decide +kernel
theorem d_Mo_some_49 : decode M_Mo_some.2.1 49 = .ok (.goto 4, 3) := by decide +kernel
theorem d_Mo_some_0 : decode M_Mo_some.2.1 0 = .ok (.aload_n 0, 1) := by decide +kernel
theorem d_Mo_some_1 : decode M_Mo_some.2.1 1 = .ok (.iload_n 1, 1) := by decide +kernel
theorem d_Mo_some_2 : decode M_Mo_some.2.1 2 = .ok (.invokevirtual 302, 3) := by decide +kernel
theorem xw_1505 : (Jvm.Cond.code ({ cls := "MarkerTextModel", name := "prepare", desc := "(I)Z" } : Jvm.MethodName) prog_13_method_47_code (6 : Nat) (Option.some Jvm.ClassFile.FieldType.boolean)) ∈ xT := xT_at 1505 (by decide +kernel) (by decide +kernel)
theorem xcb_Mo_prepare : xcb M_Mo_prepare 1 := ⟨xw_1505, xw_8, by decide, by decide, by decide, by decide +kernel⟩
theorem xw_1504 : (Jvm.Cond.instanceMethod ({ cls := "MarkerTextModel", name := "prepare", desc := "(I)Z" } : Jvm.MethodName)) ∈ xT := xT_at 1504 (by decide +kernel) (by decide +kernel)
theorem xw_1502 : (Jvm.Cond.methodLink "MarkerTextModel" (302 : Nat) ({ cls := "MarkerTextModel", name := "prepare", desc := "(I)Z" } : Jvm.MethodName)) ∈ xT := xT_at 1502 (by decide +kernel) (by decide +kernel)
theorem xsel_Mo_prepare : Cond.selects "MarkerTextModel" y_Mo_prepare y_Mo_prepare ∈ xT := xT_sel (q := (y_Mo_prepare, 52)) (by decide +kernel) (by decide +kernel)
theorem xcv_Mo_302_Mo : xCV "MarkerTextModel" 302 "MarkerTextModel" M_Mo_prepare 1 := ⟨xcb_Mo_prepare, xw_1504, Or.inl ⟨xw_1502, Or.inl xsel_Mo_prepare⟩⟩
theorem d_Mo_some_5 : decode M_Mo_some.2.1 5 = .ok (.ifCond .ne 5, 3) := by decide +kernel
theorem d_Mo_some_10 : decode M_Mo_some.2.1 10 = .ok (.iconst 1, 1) := by decide +kernel
theorem d_Mo_some_11 : decode M_Mo_some.2.1 11 = .ok (.istore 4, 2) := by decide +kernel
theorem d_Mo_some_13 : decode M_Mo_some.2.1 13 = .ok (.iconst 0, 1) := by decide +kernel
theorem d_Mo_some_14 : decode M_Mo_some.2.1 14 = .ok (.istore 5, 2) := by decide +kernel
theorem d_Mo_some_8 : decode M_Mo_some.2.1 8 = .ok (.iconst (-1), 1) := by decide +kernel
theorem d_Mo_some_9 : decode M_Mo_some.2.1 9 = .ok (.ireturn, 1) := by decide +kernel
abbrev y_Mo_ever : MethodName := ⟨"MarkerTextModel", "ever", "(I)I"⟩
abbrev M_Mo_ever : XMt := (y_Mo_ever, prog_13_method_51_code, 2, (some .int))
theorem d_Mo_ever_0 : decode M_Mo_ever.2.1 0 = .ok (.aload_n 0, 1) := by decide +kernel
theorem d_Mo_ever_1 : decode M_Mo_ever.2.1 1 = .ok (.iconst 0, 1) := by decide +kernel
theorem d_Mo_ever_2 : decode M_Mo_ever.2.1 2 = .ok (.putfield 121, 3) := by decide +kernel
theorem d_Mo_ever_5 : decode M_Mo_ever.2.1 5 = .ok (.aload_n 0, 1) := by decide +kernel
theorem d_Mo_ever_6 : decode M_Mo_ever.2.1 6 = .ok (.iload_n 1, 1) := by decide +kernel
theorem d_Mo_ever_7 : decode M_Mo_ever.2.1 7 = .ok (.invokevirtual 281, 3) := by decide +kernel
theorem d_Mo_ever_10 : decode M_Mo_ever.2.1 10 = .ok (.ifCond .eq 17, 3) := by decide +kernel
theorem d_Mo_ever_27 : decode M_Mo_ever.2.1 27 = .ok (.iconst (-1), 1) := by decide +kernel
theorem d_Mo_ever_28 : decode M_Mo_ever.2.1 28 = .ok (.ireturn, 1) := by decide +kernel
theorem d_Mo_ever_13 : decode M_Mo_ever.2.1 13 = .ok (.aload_n 0, 1) := by decide +kernel
theorem d_Mo_ever_14 : decode M_Mo_ever.2.1 14 = .ok (.iconst 1, 1) := by decide +kernel
theorem d_Mo_ever_15 : decode M_Mo_ever.2.1 15 = .ok (.iload_n 1, 1) := by decide +kernel
theorem d_Mo_ever_16 : decode M_Mo_ever.2.1 16 = .ok (.ishl, 1) := by decide +kernel
theorem d_Mo_ever_17 : decode M_Mo_ever.2.1 17 = .ok (.iconst 1, 1) := by decide +kernel
theorem d_Mo_ever_18 : decode M_Mo_ever.2.1 18 = .ok (.iload_n 1, 1) := by decide +kernel
theorem d_Mo_ever_19 : decode M_Mo_ever.2.1 19 = .ok (.ishl, 1) := by decide +kernel
theorem d_Mo_ever_20 : decode M_Mo_ever.2.1 20 = .ok (.iconst 0, 1) := by decide +kernel
theorem d_Mo_ever_21 : decode M_Mo_ever.2.1 21 = .ok (.invokevirtual 311, 3) := by decide +kernel
theorem xw_1501 : (Jvm.Cond.code ({ cls := "MarkerTextModel", name := "some", desc := "(III)I" } : Jvm.MethodName) prog_13_method_50_code (7 : Nat) (Option.some Jvm.ClassFile.FieldType.int)) ∈ xT := xT_at 1501 (by decide +kernel) (by decide +kernel)
theorem xcb_Mo_some : xcb M_Mo_some 3 := ⟨xw_1501, xw_8, by decide, by decide, by decide, by decide +kernel⟩
theorem xw_1500 : (Jvm.Cond.instanceMethod ({ cls := "MarkerTextModel", name := "some", desc := "(III)I" } : Jvm.MethodName)) ∈ xT := xT_at 1500 (by decide +kernel) (by decide +kernel)
theorem xw_1498 : (Jvm.Cond.methodLink "MarkerTextModel" (311 : Nat) ({ cls := "MarkerTextModel", name := "some", desc := "(III)I" } : Jvm.MethodName)) ∈ xT := xT_at 1498 (by decide +kernel) (by decide +kernel)
theorem xsel_Mo_some : Cond.selects "MarkerTextModel" y_Mo_some y_Mo_some ∈ xT := xT_sel (q := (y_Mo_some, 52)) (by decide +kernel) (by decide +kernel)
theorem xcv_Mo_311_Mo : xCV "MarkerTextModel" 311 "MarkerTextModel" M_Mo_some 3 := ⟨xcb_Mo_some, xw_1500, Or.inl ⟨xw_1498, Or.inl xsel_Mo_some⟩⟩
theorem d_Mo_ever_24 : decode M_Mo_ever.2.1 24 = .ok (.goto 4, 3) := by decide +kernel
abbrev y_Mo_implies : MethodName := ⟨"MarkerTextModel", "implies", "(II)I"⟩
abbrev M_Mo_implies : XMt := (y_Mo_implies, prog_13_method_52_code, 4, (some .int))
theorem d_Mo_implies_0 : decode M_Mo_implies.2.1 0 = .ok (.aload_n 0, 1) := by decide +kernel
theorem d_Mo_implies_1 : decode M_Mo_implies.2.1 1 = .ok (.iconst 0, 1) := by decide +kernel
theorem d_Mo_implies_2 : decode M_Mo_implies.2.1 2 = .ok (.putfield 121, 3) := by decide +kernel
theorem d_Mo_implies_5 : decode M_Mo_implies.2.1 5 = .ok (.aload_n 0, 1) := by decide +kernel
theorem d_Mo_implies_6 : decode M_Mo_implies.2.1 6 = .ok (.iload_n 1, 1) := by decide +kernel
theorem d_Mo_implies_7 : decode M_Mo_implies.2.1 7 = .ok (.invokevirtual 281, 3) := by decide +kernel
theorem d_Mo_implies_10 : decode M_Mo_implies.2.1 10 = .ok (.ifCond .eq 11, 3) := by decide +kernel
theorem d_Mo_implies_21 : decode M_Mo_implies.2.1 21 = .ok (.iconst (-1), 1) := by decide +kernel
theorem d_Mo_implies_22 : decode M_Mo_implies.2.1 22 = .ok (.ireturn, 1) := by decide +kernel
theorem d_Mo_implies_13 : decode M_Mo_implies.2.1 13 = .ok (.aload_n 0, 1) := by decide +kernel
theorem d_Mo_implies_14 : decode M_Mo_implies.2.1 14 = .ok (.iload_n 2, 1) := by decide +kernel
theorem d_Mo_implies_15 : decode M_Mo_implies.2.1 15 = .ok (.invokevirtual 281, 3) := by decide +kernel
theorem d_Mo_implies_18 : decode M_Mo_implies.2.1 18 = .ok (.ifCond .ne 5, 3) := by decide +kernel
theorem d_Mo_implies_23 : decode M_Mo_implies.2.1 23 = .ok (.aload_n 0, 1) := by decide +kernel
theorem d_Mo_implies_24 : decode M_Mo_implies.2.1 24 = .ok (.iconst 1, 1) := by decide +kernel
theorem d_Mo_implies_25 : decode M_Mo_implies.2.1 25 = .ok (.iload_n 1, 1) := by decide +kernel
theorem d_Mo_implies_26 : decode M_Mo_implies.2.1 26 = .ok (.ishl, 1) := by decide +kernel
theorem d_Mo_implies_27 : decode M_Mo_implies.2.1 27 = .ok (.iconst 1, 1) := by decide +kernel
theorem d_Mo_implies_28 : decode M_Mo_implies.2.1 28 = .ok (.iload_n 2, 1) := by decide +kernel
theorem d_Mo_implies_29 : decode M_Mo_implies.2.1 29 = .ok (.ishl, 1) := by decide +kernel
theorem d_Mo_implies_30 : decode M_Mo_implies.2.1 30 = .ok (.ior, 1) := by decide +kernel
theorem d_Mo_implies_31 : decode M_Mo_implies.2.1 31 = .ok (.iconst 1, 1) := by decide +kernel
theorem d_Mo_implies_32 : decode M_Mo_implies.2.1 32 = .ok (.iload_n 1, 1) := by decide +kernel
theorem d_Mo_implies_33 : decode M_Mo_implies.2.1 33 = .ok (.ishl, 1) := by decide +kernel
theorem d_Mo_implies_34 : decode M_Mo_implies.2.1 34 = .ok (.iconst 1, 1) := by decide +kernel
theorem d_Mo_implies_35 : decode M_Mo_implies.2.1 35 = .ok (.iload_n 2, 1) := by decide +kernel
theorem d_Mo_implies_36 : decode M_Mo_implies.2.1 36 = .ok (.ishl, 1) := by decide +kernel
theorem d_Mo_implies_37 : decode M_Mo_implies.2.1 37 = .ok (.invokevirtual 311, 3) := by decide +kernel
theorem d_Mo_implies_40 : decode M_Mo_implies.2.1 40 = .ok (.istore_n 3, 1) := by decide +kernel
theorem d_Mo_implies_41 : decode M_Mo_implies.2.1 41 = .ok (.iload_n 3, 1) := by decide +kernel
theorem d_Mo_implies_42 : decode M_Mo_implies.2.1 42 = .ok (.ifCond .ge 7, 3) := by decide +kernel
theorem d_Mo_implies_49 : decode M_Mo_implies.2.1 49 = .ok (.iconst 1, 1) := by decide +kernel
theorem d_Mo_implies_50 : decode M_Mo_implies.2.1 50 = .ok (.iload_n 3, 1) := by decide +kernel
theorem d_Mo_implies_51 : decode M_Mo_implies.2.1 51 = .ok (.isub, 1) := by decide +kernel
theorem d_Mo_implies_52 : decode M_Mo_implies.2.1 52 = .ok (.ireturn, 1) := by decide +kernel
theorem d_Mo_implies_45 : decode M_Mo_implies.2.1 45 = .ok (.iconst (-1), 1) := by decide +kernel
theorem d_Mo_implies_46 : decode M_Mo_implies.2.1 46 = .ok (.goto 6, 3) := by decide +kernel
abbrev y_Mo_apart : MethodName := ⟨"MarkerTextModel", "apart", "(II)I"⟩
abbrev M_Mo_apart : XMt := (y_Mo_apart, prog_13_method_53_code, 4, (some .int))
theorem d_Mo_apart_0 : decode M_Mo_apart.2.1 0 = .ok (.aload_n 0, 1) := by decide +kernel
theorem d_Mo_apart_1 : decode M_Mo_apart.2.1 1 = .ok (.iconst 0, 1) := by decide +kernel
theorem d_Mo_apart_2 : decode M_Mo_apart.2.1 2 = .ok (.putfield 121, 3) := by decide +kernel
theorem d_Mo_apart_5 : decode M_Mo_apart.2.1 5 = .ok (.aload_n 0, 1) := by decide +kernel
theorem d_Mo_apart_6 : decode M_Mo_apart.2.1 6 = .ok (.iload_n 1, 1) := by decide +kernel
theorem d_Mo_apart_7 : decode M_Mo_apart.2.1 7 = .ok (.invokevirtual 281, 3) := by decide +kernel
theorem d_Mo_apart_10 : decode M_Mo_apart.2.1 10 = .ok (.ifCond .eq 11, 3) := by decide +kernel
theorem d_Mo_apart_21 : decode M_Mo_apart.2.1 21 = .ok (.iconst (-1), 1) := by decide +kernel
theorem d_Mo_apart_22 : decode M_Mo_apart.2.1 22 = .ok (.ireturn, 1) := by decide +kernel
theorem d_Mo_apart_13 : decode M_Mo_apart.2.1 13 = .ok (.aload_n 0, 1) := by decide +kernel
theorem d_Mo_apart_14 : decode M_Mo_apart.2.1 14 = .ok (.iload_n 2, 1) := by decide +kernel
theorem d_Mo_apart_15 : decode M_Mo_apart.2.1 15 = .ok (.invokevirtual 281, 3) := by decide +kernel
theorem d_Mo_apart_18 : decode M_Mo_apart.2.1 18 = .ok (.ifCond .ne 5, 3) := by decide +kernel
theorem d_Mo_apart_23 : decode M_Mo_apart.2.1 23 = .ok (.aload_n 0, 1) := by decide +kernel
theorem d_Mo_apart_24 : decode M_Mo_apart.2.1 24 = .ok (.iconst 1, 1) := by decide +kernel
theorem d_Mo_apart_25 : decode M_Mo_apart.2.1 25 = .ok (.iload_n 1, 1) := by decide +kernel
theorem d_Mo_apart_26 : decode M_Mo_apart.2.1 26 = .ok (.ishl, 1) := by decide +kernel
theorem d_Mo_apart_27 : decode M_Mo_apart.2.1 27 = .ok (.iconst 1, 1) := by decide +kernel
theorem d_Mo_apart_28 : decode M_Mo_apart.2.1 28 = .ok (.iload_n 2, 1) := by decide +kernel
theorem d_Mo_apart_29 : decode M_Mo_apart.2.1 29 = .ok (.ishl, 1) := by decide +kernel
theorem d_Mo_apart_30 : decode M_Mo_apart.2.1 30 = .ok (.ior, 1) := by decide +kernel
theorem d_Mo_apart_31 : decode M_Mo_apart.2.1 31 = .ok (.iconst 1, 1) := by decide +kernel
theorem d_Mo_apart_32 : decode M_Mo_apart.2.1 32 = .ok (.iload_n 1, 1) := by decide +kernel
theorem d_Mo_apart_33 : decode M_Mo_apart.2.1 33 = .ok (.ishl, 1) := by decide +kernel
theorem d_Mo_apart_34 : decode M_Mo_apart.2.1 34 = .ok (.iconst 1, 1) := by decide +kernel
theorem d_Mo_apart_35 : decode M_Mo_apart.2.1 35 = .ok (.iload_n 2, 1) := by decide +kernel
theorem d_Mo_apart_36 : decode M_Mo_apart.2.1 36 = .ok (.ishl, 1) := by decide +kernel
theorem d_Mo_apart_37 : decode M_Mo_apart.2.1 37 = .ok (.ior, 1) := by decide +kernel
theorem d_Mo_apart_38 : decode M_Mo_apart.2.1 38 = .ok (.iconst 0, 1) := by decide +kernel
theorem d_Mo_apart_39 : decode M_Mo_apart.2.1 39 = .ok (.invokevirtual 311, 3) := by decide +kernel
theorem d_Mo_apart_42 : decode M_Mo_apart.2.1 42 = .ok (.istore_n 3, 1) := by decide +kernel
theorem d_Mo_apart_43 : decode M_Mo_apart.2.1 43 = .ok (.iload_n 3, 1) := by decide +kernel
theorem d_Mo_apart_44 : decode M_Mo_apart.2.1 44 = .ok (.ifCond .ge 7, 3) := by decide +kernel
theorem d_Mo_apart_51 : decode M_Mo_apart.2.1 51 = .ok (.iconst 1, 1) := by decide +kernel
theorem d_Mo_apart_52 : decode M_Mo_apart.2.1 52 = .ok (.iload_n 3, 1) := by decide +kernel
theorem d_Mo_apart_53 : decode M_Mo_apart.2.1 53 = .ok (.isub, 1) := by decide +kernel
theorem d_Mo_apart_54 : decode M_Mo_apart.2.1 54 = .ok (.ireturn, 1) := by decide +kernel
theorem d_Mo_apart_47 : decode M_Mo_apart.2.1 47 = .ok (.iconst (-1), 1) := by decide +kernel
theorem d_Mo_apart_48 : decode M_Mo_apart.2.1 48 = .ok (.goto 6, 3) := by decide +kernel
end
section RF19
variable {l : Launch} {G : XG} {h : XH} {c n d : Nat} {o : Nat} {rf : Nat → Nat} {S : MS}
theorem chOk.of_z (hm : mnB S 326) (hn : S.1 3 ≤ 6) (hz : chz S) : chOk S := fun q q0 q1 => by
  have := smI_b hm q0 (by omega)
  rw [hz q q0 (by omega)]
  omega
theorem csOk.sm {S' : MS} {js is ls : List Nat} (hC : csOk S) (h : rSm S S' js is ls) (hj : 11 ∉ js) (hi : ∀ i ∈ [12, 13, 14, 15, 16, 17, 18, 19, 20, 21, 24, 26], i ∉ is) : csOk S' := by
  obtain ⟨k1, k2, k3⟩ := hC
  have e := h.1 11 hj
  exact ⟨by omega, by omega, fun q q0 q1 => (k3 q q0 (by omega)).agr (agr.sm h hi)⟩
theorem nmOk.sm {S' : MS} {js is ls : List Nat} (hN : nmOk S) (h : rSm S S' js is ls) (hj : 3 ∉ js) (hi : 5 ∉ is ∧ 7 ∉ is) : nmOk S' := by
  unfold nmOk
  rw [h.1 3 hj, h.2.1 5 hi.1, h.2.1 7 hi.2]
  exact hN
abbrev soA : List Nat := [25, 38, 39, 40, 41]
end RF19
