section
abbrev y_Mo_some : MethodName := ⟨"MarkerTextModel", "some", "(III)I"⟩
abbrev M_Mo_some : XMt := (y_Mo_some, prog_13_method_50_code, 7, (some .int))
theorem d_Mo_some_16 : decode M_Mo_some.2.1 16 = .ok (.iload 4, 2) := by decide +kernel
theorem d_Mo_some_18 : decode M_Mo_some.2.1 18 = .ok (.ifCond .eq 46, 3) := by decide +kernel
theorem d_Mo_some_64 : decode M_Mo_some.2.1 64 = .ok (.iload 5, 2) := by decide +kernel
theorem d_Mo_some_66 : decode M_Mo_some.2.1 66 = .ok (.ifCond .eq 7, 3) := by decide +kernel
theorem d_Mo_some_73 : decode M_Mo_some.2.1 73 = .ok (.iconst 0, 1) := by decide +kernel
theorem d_Mo_some_74 : decode M_Mo_some.2.1 74 = .ok (.ireturn, 1) := by decide +kernel
theorem d_Mo_some_69 : decode M_Mo_some.2.1 69 = .ok (.iconst 1, 1) := by decide +kernel
theorem d_Mo_some_70 : decode M_Mo_some.2.1 70 = .ok (.goto 4, 3) := by decide +kernel
theorem d_Mo_some_21 : decode M_Mo_some.2.1 21 = .ok (.iload 5, 2) := by decide +kernel
theorem d_Mo_some_23 : decode M_Mo_some.2.1 23 = .ok (.ifCond .ne 41, 3) := by decide +kernel
theorem d_Mo_some_26 : decode M_Mo_some.2.1 26 = .ok (.aload_n 0, 1) := by decide +kernel
theorem d_Mo_some_27 : decode M_Mo_some.2.1 27 = .ok (.iload_n 1, 1) := by decide +kernel
theorem d_Mo_some_28 : decode M_Mo_some.2.1 28 = .ok (.invokevirtual 305, 3) := by decide +kernel
theorem xw_1526 : (Jvm.Cond.code ({ cls := "MarkerTextModel", name := "truth", desc := "(I)I" } : Jvm.MethodName) prog_13_method_49_code (5 : Nat) (Option.some Jvm.ClassFile.FieldType.int)) ∈ xT := xT_at 1526 (by decide +kernel) (by decide +kernel)
theorem xcb_Mo_truth : xcb M_Mo_truth 1 := ⟨xw_1526, xw_8, by decide, by decide, by decide, by decide +kernel⟩
theorem xw_1525 : (Jvm.Cond.instanceMethod ({ cls := "MarkerTextModel", name := "truth", desc := "(I)I" } : Jvm.MethodName)) ∈ xT := xT_at 1525 (by decide +kernel) (by decide +kernel)
theorem xw_1523 : (Jvm.Cond.methodLink "MarkerTextModel" (305 : Nat) ({ cls := "MarkerTextModel", name := "truth", desc := "(I)I" } : Jvm.MethodName)) ∈ xT := xT_at 1523 (by decide +kernel) (by decide +kernel)
theorem xsel_Mo_truth : Cond.selects "MarkerTextModel" y_Mo_truth y_Mo_truth ∈ xT := xT_sel (q := (y_Mo_truth, 52)) (by decide +kernel) (by decide +kernel)
theorem xcv_Mo_305_Mo : xCV "MarkerTextModel" 305 "MarkerTextModel" M_Mo_truth 1 := ⟨xcb_Mo_truth, xw_1525, Or.inl ⟨xw_1523, Or.inl xsel_Mo_truth⟩⟩
theorem d_Mo_some_31 : decode M_Mo_some.2.1 31 = .ok (.istore 6, 2) := by decide +kernel
theorem d_Mo_some_33 : decode M_Mo_some.2.1 33 = .ok (.iload 6, 2) := by decide +kernel
theorem d_Mo_some_35 : decode M_Mo_some.2.1 35 = .ok (.iload_n 2, 1) := by decide +kernel
theorem d_Mo_some_36 : decode M_Mo_some.2.1 36 = .ok (.iand, 1) := by decide +kernel
theorem d_Mo_some_37 : decode M_Mo_some.2.1 37 = .ok (.iload_n 2, 1) := by decide +kernel
theorem d_Mo_some_38 : decode M_Mo_some.2.1 38 = .ok (.if_icmp .ne 14, 3) := by decide +kernel
theorem d_Mo_some_52 : decode M_Mo_some.2.1 52 = .ok (.iconst 0, 1) := by decide +kernel
theorem d_Mo_some_53 : decode M_Mo_some.2.1 53 = .ok (.istore 5, 2) := by decide +kernel
theorem d_Mo_some_55 : decode M_Mo_some.2.1 55 = .ok (.aload_n 0, 1) := by decide +kernel
theorem d_Mo_some_56 : decode M_Mo_some.2.1 56 = .ok (.invokevirtual 308, 3) := by decide +kernel
theorem xw_1530 : (Jvm.Cond.code ({ cls := "MarkerTextModel", name := "advance", desc := "()Z" } : Jvm.MethodName) prog_13_method_48_code (2 : Nat) (Option.some Jvm.ClassFile.FieldType.boolean)) ∈ xT := xT_at 1530 (by decide +kernel) (by decide +kernel)
theorem xcb_Mo_advance : xcb M_Mo_advance 0 := ⟨xw_1530, xw_8, by decide, by decide, by decide, by decide +kernel⟩
theorem xw_1529 : (Jvm.Cond.instanceMethod ({ cls := "MarkerTextModel", name := "advance", desc := "()Z" } : Jvm.MethodName)) ∈ xT := xT_at 1529 (by decide +kernel) (by decide +kernel)
theorem xw_1527 : (Jvm.Cond.methodLink "MarkerTextModel" (308 : Nat) ({ cls := "MarkerTextModel", name := "advance", desc := "()Z" } : Jvm.MethodName)) ∈ xT := xT_at 1527 (by decide +kernel) (by decide +kernel)
theorem xsel_Mo_advance : Cond.selects "MarkerTextModel" y_Mo_advance y_Mo_advance ∈ xT := xT_sel (q := (y_Mo_advance, 52)) (by decide +kernel) (by decide +kernel)
theorem xcv_Mo_308_Mo : xCV "MarkerTextModel" 308 "MarkerTextModel" M_Mo_advance 0 := ⟨xcb_Mo_advance, xw_1529, Or.inl ⟨xw_1527, Or.inl xsel_Mo_advance⟩⟩
theorem d_Mo_some_59 : decode M_Mo_some.2.1 59 = .ok (.istore 4, 2) := by decide +kernel
theorem d_Mo_some_61 : decode M_Mo_some.2.1 61 = .ok (.goto (-45), 3) := by decide +kernel
theorem d_Mo_some_41 : decode M_Mo_some.2.1 41 = .ok (.iload 6, 2) := by decide +kernel
theorem d_Mo_some_43 : decode M_Mo_some.2.1 43 = .ok (.iload_n 3, 1) := by decide +kernel
theorem d_Mo_some_44 : decode M_Mo_some.2.1 44 = .ok (.iand, 1) := by decide +kernel
theorem d_Mo_some_45 : decode M_Mo_some.2.1 45 = .ok (.ifCond .ne 7, 3) := by decide +kernel
theorem d_Mo_some_48 : decode M_Mo_some.2.1 48 = .ok (.iconst 1, 1) := by decide +kernel
theorem d_Mo_some_49 : decode M_Mo_some.2.1 49 = .ok (.goto 4, 3) := by decide +kernel
theorem d_Mo_some_0 : decode M_Mo_some.2.1 0 = .ok (.aload_n 0, 1) := by decide +kernel
theorem d_Mo_some_1 : decode M_Mo_some.2.1 1 = .ok (.iload_n 1, 1) := by decide +kernel
theorem d_Mo_some_2 : decode M_Mo_some.2.1 2 = .ok (.invokevirtual 302, 3) := by decide +kernel
theorem xw_1505 : (Jvm.Cond.code ({ cls := "MarkerTextModel", name := "prepare", desc := "(I)Z" } : Jvm.MethodName) prog_13_method_47_code (6 : Nat) (Option.some Jvm.ClassFile.FieldType.boolean)) ∈ xT := xT_at 1505 (by decide +kernel) (by decide +kernel)
theorem xcb_Mo_prepare : xcb M_Mo_prepare 1 := ⟨xw_1505, xw_8, by decide, by decide, by decide, by decide +kernel⟩
theorem xw_1504 : (Jvm.Cond.instanceMethod ({ cls := "MarkerTextModel", name := "prepare", desc := "(I)Z" } : Jvm.MethodName)) ∈ xT := xT_at 1504 (by decide +kernel) (by decide +kernel)
theorem xw_1502 : (Jvm.Cond.methodLink "MarkerTextModel" (302 : Nat) ({ cls := "MarkerTextModel", name := "prepare", desc := "(I)Z" } : Jvm.MethodName)) ∈ xT := xT_at 1502 (by decide +kernel) (by decide +kernel)
theorem xsel_Mo_prepare : Cond.selects "MarkerTextModel" y_Mo_prepare y_Mo_prepare ∈ xT := xT_sel (q := (y_Mo_prepare, 52)) (by decide +kernel) (by decide +kernel)
theorem xcv_Mo_302_Mo : xCV "MarkerTextModel" 302 "MarkerTextModel" M_Mo_prepare 1 := ⟨xcb_Mo_prepare, xw_1504, Or.inl ⟨xw_1502, Or.inl xsel_Mo_prepare⟩⟩
theorem d_Mo_some_5 : decode M_Mo_some.2.1 5 = .ok (.ifCond .ne 5, 3) := by decide +kernel
theorem d_Mo_some_10 : decode M_Mo_some.2.1 10 = .ok (.iconst 1, 1) := by decide +kernel
theorem d_Mo_some_11 : decode M_Mo_some.2.1 11 = .ok (.istore 4, 2) := by decide +kernel
theorem d_Mo_some_13 : decode M_Mo_some.2.1 13 = .ok (.iconst 0, 1) := by decide +kernel
theorem d_Mo_some_14 : decode M_Mo_some.2.1 14 = .ok (.istore 5, 2) := by decide +kernel
theorem d_Mo_some_8 : decode M_Mo_some.2.1 8 = .ok (.iconst (-1), 1) := by decide +kernel
theorem d_Mo_some_9 : decode M_Mo_some.2.1 9 = .ok (.ireturn, 1) := by decide +kernel
abbrev y_Mo_ever : MethodName := ⟨"MarkerTextModel", "ever", "(I)I"⟩
abbrev M_Mo_ever : XMt := (y_Mo_ever, prog_13_method_51_code, 2, (some .int))
theorem d_Mo_ever_0 : decode M_Mo_ever.2.1 0 = .ok (.aload_n 0, 1) := by decide +kernel
theorem d_Mo_ever_1 : decode M_Mo_ever.2.1 1 = .ok (.iconst 0, 1) := by decide +kernel
theorem d_Mo_ever_2 : decode M_Mo_ever.2.1 2 = .ok (.putfield 121, 3) := by decide +kernel
theorem d_Mo_ever_5 : decode M_Mo_ever.2.1 5 = .ok (.aload_n 0, 1) := by decide +kernel
theorem d_Mo_ever_6 : decode M_Mo_ever.2.1 6 = .ok (.iload_n 1, 1) := by decide +kernel
theorem d_Mo_ever_7 : decode M_Mo_ever.2.1 7 = .ok (.invokevirtual 281, 3) := by decide +kernel
theorem d_Mo_ever_10 : decode M_Mo_ever.2.1 10 = .ok (.ifCond .eq 17, 3) := by decide +kernel
theorem d_Mo_ever_27 : decode M_Mo_ever.2.1 27 = .ok (.iconst (-1), 1) := by decide +kernel
theorem d_Mo_ever_28 : decode M_Mo_ever.2.1 28 = .ok (.ireturn, 1) := by decide +kernel
theorem d_Mo_ever_13 : decode M_Mo_ever.2.1 13 = .ok (.aload_n 0, 1) := by decide +kernel
theorem d_Mo_ever_14 : decode M_Mo_ever.2.1 14 = .ok (.iconst 1, 1) := by decide +kernel
theorem d_Mo_ever_15 : decode M_Mo_ever.2.1 15 = .ok (.iload_n 1, 1) := by decide +kernel
theorem d_Mo_ever_16 : decode M_Mo_ever.2.1 16 = .ok (.ishl, 1) := by decide +kernel
theorem d_Mo_ever_17 : decode M_Mo_ever.2.1 17 = .ok (.iconst 1, 1) := by decide +kernel
theorem d_Mo_ever_18 : decode M_Mo_ever.2.1 18 = .ok (.iload_n 1, 1) := by decide +kernel
theorem d_Mo_ever_19 : decode M_Mo_ever.2.1 19 = .ok (.ishl, 1) := by decide +kernel
theorem d_Mo_ever_20 : decode M_Mo_ever.2.1 20 = .ok (.iconst 0, 1) := by decide +kernel
theorem d_Mo_ever_21 : decode M_Mo_ever.2.1 21 = .ok (.invokevirtual 311, 3) := by decide +kernel
theorem xw_1501 : (Jvm.Cond.code ({ cls := "MarkerTextModel", name := "some", desc := "(III)I" } : Jvm.MethodName) prog_13_method_50_code (7 : Nat) (Option.some Jvm.ClassFile.FieldType.int)) ∈ xT := xT_at 1501 (by decide +kernel) (by decide +kernel)
theorem xcb_Mo_some : xcb M_Mo_some 3 := ⟨xw_1501, xw_8, by decide, by decide, by decide, by decide +kernel⟩
theorem xw_1500 : (Jvm.Cond.instanceMethod ({ cls := "MarkerTextModel", name := "some", desc := "(III)I" } : Jvm.MethodName)) ∈ xT := xT_at 1500 (by decide +kernel) (by decide +kernel)
theorem xw_1498 : (Jvm.Cond.methodLink "MarkerTextModel" (311 : Nat) ({ cls := "MarkerTextModel", name := "some", desc := "(III)I" } : Jvm.MethodName)) ∈ xT := xT_at 1498 (by decide +kernel) (by decide +kernel)
theorem xsel_Mo_some : Cond.selects "MarkerTextModel" y_Mo_some y_Mo_some ∈ xT := xT_sel (q := (y_Mo_some, 52)) (by decide +kernel) (by decide +kernel)
theorem xcv_Mo_311_Mo : xCV "MarkerTextModel" 311 "MarkerTextModel" M_Mo_some 3 := ⟨xcb_Mo_some, xw_1500, Or.inl ⟨xw_1498, Or.inl xsel_Mo_some⟩⟩
theorem d_Mo_ever_24 : decode M_Mo_ever.2.1 24 = .ok (.goto 4, 3) := by decide +kernel
abbrev y_Mo_implies : MethodName := ⟨"MarkerTextModel", "implies", "(II)I"⟩
abbrev M_Mo_implies : XMt := (y_Mo_implies, prog_13_method_52_code, 4, (some .int))
theorem d_Mo_implies_0 : decode M_Mo_implies.2.1 0 = .ok (.aload_n 0, 1) := by decide +kernel
theorem d_Mo_implies_1 : decode M_Mo_implies.2.1 1 = .ok (.iconst 0, 1) := by decide +kernel
theorem d_Mo_implies_2 : decode M_Mo_implies.2.1 2 = .ok (.putfield 121, 3) := by decide +kernel
theorem d_Mo_implies_5 : decode M_Mo_implies.2.1 5 = .ok (.aload_n 0, 1) := by decide +kernel
theorem d_Mo_implies_6 : decode M_Mo_implies.2.1 6 = .ok (.iload_n 1, 1) := by decide +kernel
theorem d_Mo_implies_7 : decode M_Mo_implies.2.1 7 = .ok (.invokevirtual 281, 3) := by decide +kernel
theorem d_Mo_implies_10 : decode M_Mo_implies.2.1 10 = .ok (.ifCond .eq 11, 3) := by decide +kernel
theorem d_Mo_implies_21 : decode M_Mo_implies.2.1 21 = .ok (.iconst (-1), 1) := by decide +kernel
theorem d_Mo_implies_22 : decode M_Mo_implies.2.1 22 = .ok (.ireturn, 1) := by decide +kernel
theorem d_Mo_implies_13 : decode M_Mo_implies.2.1 13 = .ok (.aload_n 0, 1) := by decide +kernel
theorem d_Mo_implies_14 : decode M_Mo_implies.2.1 14 = .ok (.iload_n 2, 1) := by decide +kernel
theorem d_Mo_implies_15 : decode M_Mo_implies.2.1 15 = .ok (.invokevirtual 281, 3) := by decide +kernel
theorem d_Mo_implies_18 : decode M_Mo_implies.2.1 18 = .ok (.ifCond .ne 5, 3) := by decide +kernel
theorem d_Mo_implies_23 : decode M_Mo_implies.2.1 23 = .ok (.aload_n 0, 1) := by decide +kernel
theorem d_Mo_implies_24 : decode M_Mo_implies.2.1 24 = .ok (.iconst 1, 1) := by decide +kernel
theorem d_Mo_implies_25 : decode M_Mo_implies.2.1 25 = .ok (.iload_n 1, 1) := by decide +kernel
theorem d_Mo_implies_26 : decode M_Mo_implies.2.1 26 = .ok (.ishl, 1) := by decide +kernel
theorem d_Mo_implies_27 : decode M_Mo_implies.2.1 27 = .ok (.iconst 1, 1) := by decide +kernel
theorem d_Mo_implies_28 : decode M_Mo_implies.2.1 28 = .ok (.iload_n 2, 1) := by decide +kernel
theorem d_Mo_implies_29 : decode M_Mo_implies.2.1 29 = .ok (.ishl, 1) := by decide +kernel
theorem d_Mo_implies_30 : decode M_Mo_implies.2.1 30 = .ok (.ior, 1) := by decide +kernel
theorem d_Mo_implies_31 : decode M_Mo_implies.2.1 31 = .ok (.iconst 1, 1) := by decide +kernel
theorem d_Mo_implies_32 : decode M_Mo_implies.2.1 32 = .ok (.iload_n 1, 1) := by decide +kernel
theorem d_Mo_implies_33 : decode M_Mo_implies.2.1 33 = .ok (.ishl, 1) := by decide +kernel
theorem d_Mo_implies_34 : decode M_Mo_implies.2.1 34 = .ok (.iconst 1, 1) := by decide +kernel
theorem d_Mo_implies_35 : decode M_Mo_implies.2.1 35 = .ok (.iload_n 2, 1) := by decide +kernel
theorem d_Mo_implies_36 : decode M_Mo_implies.2.1 36 = .ok (.ishl, 1) := by decide +kernel
theorem d_Mo_implies_37 : decode M_Mo_implies.2.1 37 = .ok (.invokevirtual 311, 3) := by decide +kernel
theorem d_Mo_implies_40 : decode M_Mo_implies.2.1 40 = .ok (.istore_n 3, 1) := by decide +kernel
theorem d_Mo_implies_41 : decode M_Mo_implies.2.1 41 = .ok (.iload_n 3, 1) := by decide +kernel
theorem d_Mo_implies_42 : decode M_Mo_implies.2.1 42 = .ok (.ifCond .ge 7, 3) := by decide +kernel
theorem d_Mo_implies_49 : decode M_Mo_implies.2.1 49 = .ok (.iconst 1, 1) := by decide +kernel
theorem d_Mo_implies_50 : decode M_Mo_implies.2.1 50 = .ok (.iload_n 3, 1) := by decide +kernel
theorem d_Mo_implies_51 : decode M_Mo_implies.2.1 51 = .ok (.isub, 1) := by decide +kernel
theorem d_Mo_implies_52 : decode M_Mo_implies.2.1 52 = .ok (.ireturn, 1) := by decide +kernel
theorem d_Mo_implies_45 : decode M_Mo_implies.2.1 45 = .ok (.iconst (-1), 1) := by decide +kernel
theorem d_Mo_implies_46 : decode M_Mo_implies.2.1 46 = .ok (.goto 6, 3) := by decide +kernel
abbrev y_Mo_apart : MethodName := ⟨"MarkerTextModel", "apart", "(II)I"⟩
abbrev M_Mo_apart : XMt := (y_Mo_apart, prog_13_method_53_code, 4, (some .int))
theorem d_Mo_apart_0 : decode M_Mo_apart.2.1 0 = .ok (.aload_n 0, 1) := by decide +kernel
theorem d_Mo_apart_1 : decode M_Mo_apart.2.1 1 = .ok (.iconst 0, 1) := by decide +kernel
theorem d_Mo_apart_2 : decode M_Mo_apart.2.1 2 = .ok (.putfield 121, 3) := by decide +kernel
theorem d_Mo_apart_5 : decode M_Mo_apart.2.1 5 = .ok (.aload_n 0, 1) := by decide +kernel
theorem d_Mo_apart_6 : decode M_Mo_apart.2.1 6 = .ok (.iload_n 1, 1) := by decide +kernel
theorem d_Mo_apart_7 : decode M_Mo_apart.2.1 7 = .ok (.invokevirtual 281, 3) := by decide +kernel
theorem d_Mo_apart_10 : decode M_Mo_apart.2.1 10 = .ok (.ifCond .eq 11, 3) := by decide +kernel
theorem d_Mo_apart_21 : decode M_Mo_apart.2.1 21 = .ok (.iconst (-1), 1) := by decide +kernel
theorem d_Mo_apart_22 : decode M_Mo_apart.2.1 22 = .ok (.ireturn, 1) := by decide +kernel
theorem d_Mo_apart_13 : decode M_Mo_apart.2.1 13 = .ok (.aload_n 0, 1) := by decide +kernel
theorem d_Mo_apart_14 : decode M_Mo_apart.2.1 14 = .ok (.iload_n 2, 1) := by decide +kernel
theorem d_Mo_apart_15 : decode M_Mo_apart.2.1 15 = .ok (.invokevirtual 281, 3) := by decide +kernel
theorem d_Mo_apart_18 : decode M_Mo_apart.2.1 18 = .ok (.ifCond .ne 5, 3) := by decide +kernel
theorem d_Mo_apart_23 : decode M_Mo_apart.2.1 23 = .ok (.aload_n 0, 1) := by decide +kernel
theorem d_Mo_apart_24 : decode M_Mo_apart.2.1 24 = .ok (.iconst 1, 1) := by decide +kernel
theorem d_Mo_apart_25 : decode M_Mo_apart.2.1 25 = .ok (.iload_n 1, 1) := by decide +kernel
theorem d_Mo_apart_26 : decode M_Mo_apart.2.1 26 = .ok (.ishl, 1) := by decide +kernel
theorem d_Mo_apart_27 : decode M_Mo_apart.2.1 27 = .ok (.iconst 1, 1) := by decide +kernel
theorem d_Mo_apart_28 : decode M_Mo_apart.2.1 28 = .ok (.iload_n 2, 1) := by decide +kernel
theorem d_Mo_apart_29 : decode M_Mo_apart.2.1 29 = .ok (.ishl, 1) := by decide +kernel
theorem d_Mo_apart_30 : decode M_Mo_apart.2.1 30 = .ok (.ior, 1) := by decide +kernel
theorem d_Mo_apart_31 : decode M_Mo_apart.2.1 31 = .ok (.iconst 1, 1) := by decide +kernel
theorem d_Mo_apart_32 : decode M_Mo_apart.2.1 32 = .ok (.iload_n 1, 1) := by decide +kernel
theorem d_Mo_apart_33 : decode M_Mo_apart.2.1 33 = .ok (.ishl, 1) := by decide +kernel
theorem d_Mo_apart_34 : decode M_Mo_apart.2.1 34 = .ok (.iconst 1, 1) := by decide +kernel
theorem d_Mo_apart_35 : decode M_Mo_apart.2.1 35 = .ok (.iload_n 2, 1) := by decide +kernel
theorem d_Mo_apart_36 : decode M_Mo_apart.2.1 36 = .ok (.ishl, 1) := by decide +kernel
theorem d_Mo_apart_37 : decode M_Mo_apart.2.1 37 = .ok (.ior, 1) := by decide +kernel
theorem d_Mo_apart_38 : decode M_Mo_apart.2.1 38 = .ok (.iconst 0, 1) := by decide +kernel
theorem d_Mo_apart_39 : decode M_Mo_apart.2.1 39 = .ok (.invokevirtual 311, 3) := by decide +kernel
theorem d_Mo_apart_42 : decode M_Mo_apart.2.1 42 = .ok (.istore_n 3, 1) := by decide +kernel
theorem d_Mo_apart_43 : decode M_Mo_apart.2.1 43 = .ok (.iload_n 3, 1) := by decide +kernel
theorem d_Mo_apart_44 : decode M_Mo_apart.2.1 44 = .ok (.ifCond .ge 7, 3) := by decide +kernel
theorem d_Mo_apart_51 : decode M_Mo_apart.2.1 51 = .ok (.iconst 1, 1) := by decide +kernel
theorem d_Mo_apart_52 : decode M_Mo_apart.2.1 52 = .ok (.iload_n 3, 1) := by decide +kernel
theorem d_Mo_apart_53 : decode M_Mo_apart.2.1 53 = .ok (.isub, 1) := by decide +kernel
theorem d_Mo_apart_54 : decode M_Mo_apart.2.1 54 = .ok (.ireturn, 1) := by decide +kernel
theorem d_Mo_apart_47 : decode M_Mo_apart.2.1 47 = .ok (.iconst (-1), 1) := by decide +kernel
theorem d_Mo_apart_48 : decode M_Mo_apart.2.1 48 = .ok (.goto 6, 3) := by decide +kernel
end
section RF19
variable {l : Launch} {G : XG} {h : XH} {c n d : Nat} {o : Nat} {rf : Nat → Nat} {S : MS}
theorem chOk.of_z (hm : mnB S 326) (hn : S.1 3 ≤ 6) (hz : chz S) : chOk S := fun q q0 q1 => by
  have := smI_b hm q0 (by omega)
  rw [hz q q0 (by omega)]
  omega
theorem csOk.sm {S' : MS} {js is ls : List Nat} (hC : csOk S) (h : rSm S S' js is ls) (hj : 11 ∉ js) (hi : ∀ i ∈ [12, 13, 14, 15, 16, 17, 18, 19, 20, 21, 24, 26], i ∉ is) : csOk S' := by
  obtain ⟨k1, k2, k3⟩ := hC
  have e := h.1 11 hj
  exact ⟨by omega, by omega, fun q q0 q1 => (k3 q q0 (by omega)).agr (agr.sm h hi)⟩
theorem nmOk.sm {S' : MS} {js is ls : List Nat} (hN : nmOk S) (h : rSm S S' js is ls) (hj : 3 ∉ js) (hi : 5 ∉ is ∧ 7 ∉ is) : nmOk S' := by
  unfold nmOk
  rw [h.1 3 hj, h.2.1 5 hi.1, h.2.1 7 hi.2]
  exact hN
abbrev soA : List Nat := [25, 38, 39, 40, 41]
/-- how some() ends -/
abbrev soQ (S : MS) : Option Value → MS → Prop := fun v S' => ∃ r : Int, v = some (.int (zI r)) ∧ (r = -1 ∨ r = 0 ∨ r = 1) ∧ rSm S S' [] soA [37]
theorem r_some {w a b : Int} (hd : 4 ≤ d) (hw : inR w) (ha : inR a) (hb : inR b) (hn : nmOk S) (hC : csOk S) : RM l G d M_Mo_some [.ref o, .int (zI w), .int (zI a), .int (zI b)] o rf S (soQ S) := by
  obtain ⟨d, rfl⟩ : ∃ q, d = q + 1 := ⟨d - 1, by omega⟩
  intro H0 c n hR
  refine XM.of (by decide +kernel) (Nat.le_of_ble_eq_true rfl) ?_
  have hX : xonly H0 H0 RKs := xonly.rf
  obtain ⟨n1, n2, -⟩ := id hn
  have ex : ∀ (S1 : MS) (mo fo : Int) (w6 : Option Value), rSm S S1 [] soA [37] → (mo = 0 ∨ fo = 1) → (mo = 0 ∨ mo = 1) → (fo = 0 ∨ fo = 1) → RX l G M_Mo_some (d + 1) 16 [some (.ref o), some (.int (zI w)), some (.int (zI a)), some (.int (zI b)), some (.int (zI mo)), some (.int (zI fo)), w6] [] H0 o rf c n S1 (soQ S) := by
    intro S1 mo fo w6 hsm h1 h2 h3 h hR hX
    refine x_iload d_Mo_some_16 rfl ?_
    refine z_if_eq (tgt := 64) d_Mo_some_18 (by decide) (by omega) (fun hc18 => ?_) (fun hc18 => ?_)
    · refine x_iload d_Mo_some_64 rfl ?_
      refine z_if_eq (tgt := 73) d_Mo_some_66 (by decide) (by omega) (fun hc66 => ?_) (fun hc66 => ?_)
      · refine x_iconst (v := zI 0) d_Mo_some_73 (by decide) ?_
        refine x_iret d_Mo_some_74 rfl ?_
        exact ⟨_, hR, hX, rfl, rfl, _, rfl, by omega, hsm⟩
      · refine x_iconst (v := zI 1) d_Mo_some_69 (by decide) ?_
        refine x_goto (tgt := 74) d_Mo_some_70 (by decide) ?_
        refine x_iret d_Mo_some_74 rfl ?_
        exact ⟨_, hR, hX, rfl, rfl, _, rfl, by omega, hsm⟩
    · refine x_iload d_Mo_some_21 rfl ?_
      refine z_if_ne (tgt := 64) d_Mo_some_23 (by decide) (by omega) (fun _ => ?_) (fun hq => by omega)
      refine x_iload d_Mo_some_64 rfl ?_
      refine z_if_eq (tgt := 73) d_Mo_some_66 (by decide) (by omega) (fun hc66 => ?_) (fun hc66 => ?_)
      · refine x_iconst (v := zI 0) d_Mo_some_73 (by decide) ?_
        refine x_iret d_Mo_some_74 rfl ?_
        exact ⟨_, hR, hX, rfl, rfl, _, rfl, by omega, hsm⟩
      · refine x_iconst (v := zI 1) d_Mo_some_69 (by decide) ?_
        refine x_goto (tgt := 74) d_Mo_some_70 (by decide) ?_
        refine x_iret d_Mo_some_74 rfl ?_
        exact ⟨_, hR, hX, rfl, rfl, _, rfl, by omega, hsm⟩
  have lp : ∀ (K : Nat) (S1 : MS) (fo : Int) (w6 : Option Value), rSm S S1 [] soA [37] → mnB S1 326 → chOk S1 → (fo = 0 ∨ fo = 1) → remS S1 ≤ K → RX l G M_Mo_some (d + 1) 16 [some (.ref o), some (.int (zI w)), some (.int (zI a)), some (.int (zI b)), some (.int (zI 1)), some (.int (zI fo)), w6] [] H0 o rf c n S1 (soQ S) := by
    intro K
    induction K with
    | zero =>
      intro S1 fo w6 hsm hm hc hfo hK h hR hX
      have e3 := hsm.1 3 (by decide)
      have hC1 := hC.sm hsm (by decide) (by decide)
      refine x_iload d_Mo_some_16 rfl ?_
      refine z_if_eq (tgt := 64) d_Mo_some_18 (by decide) (by omega) (fun hq => by omega) (fun _ => ?_)
      refine x_iload d_Mo_some_21 rfl ?_
      refine z_if_ne (tgt := 64) d_Mo_some_23 (by decide) (by omega) (fun hc23 => ?_) (fun hc23 => ?_)
      · refine x_iload d_Mo_some_64 rfl ?_
        refine z_if_eq (tgt := 73) d_Mo_some_66 (by decide) (by omega) (fun hc66 => ?_) (fun hc66 => ?_)
        · refine x_iconst (v := zI 0) d_Mo_some_73 (by decide) ?_
          refine x_iret d_Mo_some_74 rfl ?_
          exact ⟨_, hR, hX, rfl, rfl, _, rfl, by omega, hsm⟩
        · refine x_iconst (v := zI 1) d_Mo_some_69 (by decide) ?_
          refine x_goto (tgt := 74) d_Mo_some_70 (by decide) ?_
          refine x_iret d_Mo_some_74 rfl ?_
          exact ⟨_, hR, hX, rfl, rfl, _, rfl, by omega, hsm⟩
      · refine x_aload_n d_Mo_some_26 rfl rfl ?_
        refine x_iload_n d_Mo_some_27 rfl ?_
        refine x_callV (As := [_]) (k := k_MarkerTextModel) rfl xcv_Mo_305_Mo (Or.inl hR.1) (RM.ap hR (r_truth (by omega) hw hC1)) rfl rfl (Nat.le_of_ble_eq_true rfl) d_Mo_some_28 ?_
        rintro v28 h cq nq ⟨S28, hR, hX28, rfl, rfl, us28, r28, rfl, rfl, hr28a, hr28b⟩
        replace hX := hX.tr hX28
        refine x_istore (L' := [_, _, _, _, _, _, _]) d_Mo_some_31 rfl rfl ?_
        refine x_iload d_Mo_some_33 rfl ?_
        refine x_iload_n d_Mo_some_35 rfl ?_
        refine x_iand d_Mo_some_36 (x_zi ?_)
        have hr36 := inR_ti (zI r28 &&& zI a)
        refine x_iload_n d_Mo_some_37 rfl ?_
        refine z_icmp_ne (tgt := 52) d_Mo_some_38 (by decide) (by omega) (by omega) (fun hc38 => ?_) (fun hc38 => ?_)
        · refine x_iconst (v := zI 0) d_Mo_some_52 (by decide) ?_
          refine x_istore (L' := [_, _, _, _, _, _, _]) d_Mo_some_53 rfl rfl ?_
          refine x_aload_n d_Mo_some_55 rfl rfl ?_
          refine x_callV (As := []) (k := k_MarkerTextModel) rfl xcv_Mo_308_Mo (Or.inl hR.1) (RM.ap hR (r_advance (S := sa S1 41 us28) (by omega) (by show 0 ≤ S1.1 3 ∧ S1.1 3 ≤ 6; omega) (by exact hm) (by exact hc))) rfl rfl (Nat.le_of_ble_eq_true rfl) d_Mo_some_56 ?_
          rintro v56 h cq nq ⟨S56, hR, hX56, rfl, rfl, r56, rfl, hr56, hsm56, hc56, hrem56⟩
          replace hX := hX.tr hX56
          refine x_istore (L' := [_, _, _, _, _, _, _]) d_Mo_some_59 rfl rfl ?_
          refine x_goto (tgt := 16) d_Mo_some_61 (by decide) ?_
          have hz : remS (sa S1 41 us28) = remS S1 := rfl
          have : r56 = 0 := by rcases hr56 with q | q; exact q; have := hrem56 q; omega
          exact ex _ _ _ _ ((hsm.sa (by decide)).tr (hsm56.mono (by decide) (by decide) (by decide))) (Or.inl this) hr56 (by omega) _ hR hX
        · refine x_iload d_Mo_some_41 rfl ?_
          refine x_iload_n d_Mo_some_43 rfl ?_
          refine x_iand d_Mo_some_44 (x_zi ?_)
          have hr44 := inR_ti (zI r28 &&& zI b)
          refine z_if_ne (tgt := 52) d_Mo_some_45 (by decide) (by omega) (fun hc45 => ?_) (fun hc45 => ?_)
          · refine x_iconst (v := zI 0) d_Mo_some_52 (by decide) ?_
            refine x_istore (L' := [_, _, _, _, _, _, _]) d_Mo_some_53 rfl rfl ?_
            refine x_aload_n d_Mo_some_55 rfl rfl ?_
            refine x_callV (As := []) (k := k_MarkerTextModel) rfl xcv_Mo_308_Mo (Or.inl hR.1) (RM.ap hR (r_advance (S := sa S1 41 us28) (by omega) (by show 0 ≤ S1.1 3 ∧ S1.1 3 ≤ 6; omega) (by exact hm) (by exact hc))) rfl rfl (Nat.le_of_ble_eq_true rfl) d_Mo_some_56 ?_
            rintro v56 h cq nq ⟨S56, hR, hX56, rfl, rfl, r56, rfl, hr56, hsm56, hc56, hrem56⟩
            replace hX := hX.tr hX56
            refine x_istore (L' := [_, _, _, _, _, _, _]) d_Mo_some_59 rfl rfl ?_
            refine x_goto (tgt := 16) d_Mo_some_61 (by decide) ?_
            have hz : remS (sa S1 41 us28) = remS S1 := rfl
            have : r56 = 0 := by rcases hr56 with q | q; exact q; have := hrem56 q; omega
            exact ex _ _ _ _ ((hsm.sa (by decide)).tr (hsm56.mono (by decide) (by decide) (by decide))) (Or.inl this) hr56 (by omega) _ hR hX
          · refine x_iconst (v := zI 1) d_Mo_some_48 (by decide) ?_
            refine x_goto (tgt := 53) d_Mo_some_49 (by decide) ?_
            refine x_istore (L' := [_, _, _, _, _, _, _]) d_Mo_some_53 rfl rfl ?_
            refine x_aload_n d_Mo_some_55 rfl rfl ?_
            refine x_callV (As := []) (k := k_MarkerTextModel) rfl xcv_Mo_308_Mo (Or.inl hR.1) (RM.ap hR (r_advance (S := sa S1 41 us28) (by omega) (by show 0 ≤ S1.1 3 ∧ S1.1 3 ≤ 6; omega) (by exact hm) (by exact hc))) rfl rfl (Nat.le_of_ble_eq_true rfl) d_Mo_some_56 ?_
            rintro v56 h cq nq ⟨S56, hR, hX56, rfl, rfl, r56, rfl, hr56, hsm56, hc56, hrem56⟩
            replace hX := hX.tr hX56
            refine x_istore (L' := [_, _, _, _, _, _, _]) d_Mo_some_59 rfl rfl ?_
            refine x_goto (tgt := 16) d_Mo_some_61 (by decide) ?_
            have hz : remS (sa S1 41 us28) = remS S1 := rfl
            have : r56 = 0 := by rcases hr56 with q | q; exact q; have := hrem56 q; omega
            exact ex _ _ _ _ ((hsm.sa (by decide)).tr (hsm56.mono (by decide) (by decide) (by decide))) (Or.inl this) hr56 (by omega) _ hR hX
    | succ K ih =>
      intro S1 fo w6 hsm hm hc hfo hK h hR hX
      have e3 := hsm.1 3 (by decide)
      have hC1 := hC.sm hsm (by decide) (by decide)
      refine x_iload d_Mo_some_16 rfl ?_
      refine z_if_eq (tgt := 64) d_Mo_some_18 (by decide) (by omega) (fun hq => by omega) (fun _ => ?_)
      refine x_iload d_Mo_some_21 rfl ?_
      refine z_if_ne (tgt := 64) d_Mo_some_23 (by decide) (by omega) (fun hc23 => ?_) (fun hc23 => ?_)
      · refine x_iload d_Mo_some_64 rfl ?_
        refine z_if_eq (tgt := 73) d_Mo_some_66 (by decide) (by omega) (fun hc66 => ?_) (fun hc66 => ?_)
        · refine x_iconst (v := zI 0) d_Mo_some_73 (by decide) ?_
          refine x_iret d_Mo_some_74 rfl ?_
          exact ⟨_, hR, hX, rfl, rfl, _, rfl, by omega, hsm⟩
        · refine x_iconst (v := zI 1) d_Mo_some_69 (by decide) ?_
          refine x_goto (tgt := 74) d_Mo_some_70 (by decide) ?_
          refine x_iret d_Mo_some_74 rfl ?_
          exact ⟨_, hR, hX, rfl, rfl, _, rfl, by omega, hsm⟩
      · refine x_aload_n d_Mo_some_26 rfl rfl ?_
        refine x_iload_n d_Mo_some_27 rfl ?_
        refine x_callV (As := [_]) (k := k_MarkerTextModel) rfl xcv_Mo_305_Mo (Or.inl hR.1) (RM.ap hR (r_truth (by omega) hw hC1)) rfl rfl (Nat.le_of_ble_eq_true rfl) d_Mo_some_28 ?_
        rintro v28 h cq nq ⟨S28, hR, hX28, rfl, rfl, us28, r28, rfl, rfl, hr28a, hr28b⟩
        replace hX := hX.tr hX28
        refine x_istore (L' := [_, _, _, _, _, _, _]) d_Mo_some_31 rfl rfl ?_
        refine x_iload d_Mo_some_33 rfl ?_
        refine x_iload_n d_Mo_some_35 rfl ?_
        refine x_iand d_Mo_some_36 (x_zi ?_)
        have hr36 := inR_ti (zI r28 &&& zI a)
        refine x_iload_n d_Mo_some_37 rfl ?_
        refine z_icmp_ne (tgt := 52) d_Mo_some_38 (by decide) (by omega) (by omega) (fun hc38 => ?_) (fun hc38 => ?_)
        · refine x_iconst (v := zI 0) d_Mo_some_52 (by decide) ?_
          refine x_istore (L' := [_, _, _, _, _, _, _]) d_Mo_some_53 rfl rfl ?_
          refine x_aload_n d_Mo_some_55 rfl rfl ?_
          refine x_callV (As := []) (k := k_MarkerTextModel) rfl xcv_Mo_308_Mo (Or.inl hR.1) (RM.ap hR (r_advance (S := sa S1 41 us28) (by omega) (by show 0 ≤ S1.1 3 ∧ S1.1 3 ≤ 6; omega) (by exact hm) (by exact hc))) rfl rfl (Nat.le_of_ble_eq_true rfl) d_Mo_some_56 ?_
          rintro v56 h cq nq ⟨S56, hR, hX56, rfl, rfl, r56, rfl, hr56, hsm56, hc56, hrem56⟩
          replace hX := hX.tr hX56
          refine x_istore (L' := [_, _, _, _, _, _, _]) d_Mo_some_59 rfl rfl ?_
          refine x_goto (tgt := 16) d_Mo_some_61 (by decide) ?_
          have hz : remS (sa S1 41 us28) = remS S1 := rfl
          have hsm7 := (hsm.sa (i := 41) (us := us28) (by decide)).tr (hsm56.mono (by decide) (by decide) (by decide))
          by_cases hr : r56 = 0
          · exact ex _ _ _ _ hsm7 (Or.inl hr) hr56 (by omega) _ hR hX
          · obtain rfl : r56 = 1 := by omega
            exact ih S56 _ _ hsm7 (fun q q0 q6 => by rw [hsm56.2.1 38 (by decide)]; exact hm q q0 q6) hc56 (by omega) (by have := hrem56 rfl; omega) _ hR hX
        · refine x_iload d_Mo_some_41 rfl ?_
          refine x_iload_n d_Mo_some_43 rfl ?_
          refine x_iand d_Mo_some_44 (x_zi ?_)
          have hr44 := inR_ti (zI r28 &&& zI b)
          refine z_if_ne (tgt := 52) d_Mo_some_45 (by decide) (by omega) (fun hc45 => ?_) (fun hc45 => ?_)
          · refine x_iconst (v := zI 0) d_Mo_some_52 (by decide) ?_
            refine x_istore (L' := [_, _, _, _, _, _, _]) d_Mo_some_53 rfl rfl ?_
            refine x_aload_n d_Mo_some_55 rfl rfl ?_
            refine x_callV (As := []) (k := k_MarkerTextModel) rfl xcv_Mo_308_Mo (Or.inl hR.1) (RM.ap hR (r_advance (S := sa S1 41 us28) (by omega) (by show 0 ≤ S1.1 3 ∧ S1.1 3 ≤ 6; omega) (by exact hm) (by exact hc))) rfl rfl (Nat.le_of_ble_eq_true rfl) d_Mo_some_56 ?_
            rintro v56 h cq nq ⟨S56, hR, hX56, rfl, rfl, r56, rfl, hr56, hsm56, hc56, hrem56⟩
            replace hX := hX.tr hX56
            refine x_istore (L' := [_, _, _, _, _, _, _]) d_Mo_some_59 rfl rfl ?_
            refine x_goto (tgt := 16) d_Mo_some_61 (by decide) ?_
            have hz : remS (sa S1 41 us28) = remS S1 := rfl
            have hsm7 := (hsm.sa (i := 41) (us := us28) (by decide)).tr (hsm56.mono (by decide) (by decide) (by decide))
            by_cases hr : r56 = 0
            · exact ex _ _ _ _ hsm7 (Or.inl hr) hr56 (by omega) _ hR hX
            · obtain rfl : r56 = 1 := by omega
              exact ih S56 _ _ hsm7 (fun q q0 q6 => by rw [hsm56.2.1 38 (by decide)]; exact hm q q0 q6) hc56 (by omega) (by have := hrem56 rfl; omega) _ hR hX
          · refine x_iconst (v := zI 1) d_Mo_some_48 (by decide) ?_
            refine x_goto (tgt := 53) d_Mo_some_49 (by decide) ?_
            refine x_istore (L' := [_, _, _, _, _, _, _]) d_Mo_some_53 rfl rfl ?_
            refine x_aload_n d_Mo_some_55 rfl rfl ?_
            refine x_callV (As := []) (k := k_MarkerTextModel) rfl xcv_Mo_308_Mo (Or.inl hR.1) (RM.ap hR (r_advance (S := sa S1 41 us28) (by omega) (by show 0 ≤ S1.1 3 ∧ S1.1 3 ≤ 6; omega) (by exact hm) (by exact hc))) rfl rfl (Nat.le_of_ble_eq_true rfl) d_Mo_some_56 ?_
            rintro v56 h cq nq ⟨S56, hR, hX56, rfl, rfl, r56, rfl, hr56, hsm56, hc56, hrem56⟩
            replace hX := hX.tr hX56
            refine x_istore (L' := [_, _, _, _, _, _, _]) d_Mo_some_59 rfl rfl ?_
            refine x_goto (tgt := 16) d_Mo_some_61 (by decide) ?_
            have hz : remS (sa S1 41 us28) = remS S1 := rfl
            have hsm7 := (hsm.sa (i := 41) (us := us28) (by decide)).tr (hsm56.mono (by decide) (by decide) (by decide))
            by_cases hr : r56 = 0
            · exact ex _ _ _ _ hsm7 (Or.inl hr) hr56 (by omega) _ hR hX
            · obtain rfl : r56 = 1 := by omega
              exact ih S56 _ _ hsm7 (fun q q0 q6 => by rw [hsm56.2.1 38 (by decide)]; exact hm q q0 q6) hc56 (by omega) (by have := hrem56 rfl; omega) _ hR hX
  refine x_aload_n d_Mo_some_0 rfl rfl ?_
  refine x_iload_n d_Mo_some_1 rfl ?_
  refine x_callV (As := [_]) (k := k_MarkerTextModel) rfl xcv_Mo_302_Mo (Or.inl hR.1) (RM.ap hR (r_prepare (by omega) hw hn hC)) rfl rfl (Nat.le_of_ble_eq_true rfl) d_Mo_some_2 ?_
  rintro v2 h cq nq ⟨S2, hR, hX2, rfl, rfl, ⟨r2, rfl, hr2⟩, hsm2, hm2, hz2⟩
  replace hX := hX.tr hX2
  refine z_if_ne (tgt := 10) d_Mo_some_5 (by decide) (by omega) (fun hc5 => ?_) (fun hc5 => ?_)
  · refine x_iconst (v := zI 1) d_Mo_some_10 (by decide) ?_
    refine x_istore (L' := [_, _, _, _, _, _, _]) d_Mo_some_11 rfl rfl ?_
    refine x_iconst (v := zI 0) d_Mo_some_13 (by decide) ?_
    refine x_istore (L' := [_, _, _, _, _, _, _]) d_Mo_some_14 rfl rfl ?_
    exact lp (remS S2) S2 0 _ (hsm2.mono (by decide) (by decide) (by decide)) hm2 (chOk.of_z hm2 (by rw [hsm2.1 3 (by decide)]; exact n2) hz2) (by omega) (Nat.le_refl _) _ hR hX
  · refine x_iconst (v := zI (-1)) d_Mo_some_8 (by decide) ?_
    refine x_iret d_Mo_some_9 rfl ?_
    exact ⟨_, hR, hX, rfl, rfl, _, rfl, by omega, hsm2.mono (by decide) (by decide) (by decide)⟩
/-- how a question ends -/
abbrev qsQ (S : MS) : Option Value → MS → Prop := fun v S' => (∃ r : Int, v = some (.int (zI r))) ∧ rSm S S' [0] soA [37]
theorem r_ever {k : Int} (hd : 5 ≤ d) (hk : inR k) (hn : nmOk S) (hC : csOk S) : RM l G d M_Mo_ever [.ref o, .int (zI k)] o rf S (qsQ S) := by
  obtain ⟨d, rfl⟩ : ∃ q, d = q + 1 := ⟨d - 1, by omega⟩
  intro H0 c n hR
  refine XM.of (by decide +kernel) (Nat.le_of_ble_eq_true rfl) ?_
  have hX : xonly H0 H0 RKs := xonly.rf
  obtain ⟨k1, k2, k3⟩ := id hC
  refine x_aload_n d_Mo_ever_0 rfl rfl ?_
  refine x_iconst (v := zI 0) d_Mo_ever_1 (by decide) ?_
  refine r_put xf_Mo_121_Mo xp_Mo_0 hR hX (by omega) rfl rfl d_Mo_ever_2 ?_
  intro h hR hX
  refine x_aload_n d_Mo_ever_5 rfl rfl ?_
  refine x_iload_n d_Mo_ever_6 rfl ?_
  refine x_callV (As := [_]) (k := k_MarkerTextModel) rfl xcv_Mo_281_Mo (Or.inl hR.1) (RM.ap hR (r_isCondition (by omega) hk (by exact k1))) rfl rfl (Nat.le_of_ble_eq_true rfl) d_Mo_ever_7 ?_
  rintro v7 h cq nq ⟨S7, hR, hX7, rfl, rfl, hE7, r7, rfl, hr7⟩
  replace hE7 := Eq.symm hE7
  subst hE7
  replace hX := hX.tr hX7
  replace hr7 : (r7 = 1 ∧ (0 ≤ k ∧ k ≤ S.1 11 - 1)) ∨ (r7 = 0 ∧ ¬ (0 ≤ k ∧ k ≤ S.1 11 - 1)) := hr7
  refine z_if_eq (tgt := 27) d_Mo_ever_10 (by decide) (by omega) (fun hc10 => ?_) (fun hc10 => ?_)
  · refine x_iconst (v := zI (-1)) d_Mo_ever_27 (by decide) ?_
    refine x_iret d_Mo_ever_28 rfl ?_
    first | exact ⟨_, hR, hX, rfl, rfl, ⟨_, rfl⟩, (rSm.r0.sp (by decide)).tr (hsm21.mono (by decide) (by decide) (by decide))⟩ | exact ⟨_, hR, hX, rfl, rfl, ⟨_, rfl⟩, rSm.r0.sp (by decide)⟩
  · refine x_aload_n d_Mo_ever_13 rfl rfl ?_
    refine x_iconst (v := zI 1) d_Mo_ever_14 (by decide) ?_
    refine x_iload_n d_Mo_ever_15 rfl ?_
    refine x_ishl d_Mo_ever_16 (x_zi ?_)
    have hr16 := inR_ti (zI 1 <<< (zI k &&& 31))
    refine x_iconst (v := zI 1) d_Mo_ever_17 (by decide) ?_
    refine x_iload_n d_Mo_ever_18 rfl ?_
    refine x_ishl d_Mo_ever_19 (x_zi ?_)
    have hr19 := inR_ti (zI 1 <<< (zI k &&& 31))
    refine x_iconst (v := zI 0) d_Mo_ever_20 (by decide) ?_
    refine x_callV (As := [_, _, _]) (k := k_MarkerTextModel) rfl xcv_Mo_311_Mo (Or.inl hR.1) (RM.ap hR (r_some (S := sp S 0 0) (by omega) (by omega) (by omega) (by decide) hn hC)) rfl rfl (Nat.le_of_ble_eq_true rfl) d_Mo_ever_21 ?_
    rintro v21 h cq nq ⟨S21, hR, hX21, rfl, rfl, r21, rfl, hr21, hsm21⟩
    replace hX := hX.tr hX21
    refine x_goto (tgt := 28) d_Mo_ever_24 (by decide) ?_
    refine x_iret d_Mo_ever_28 rfl ?_
    first | exact ⟨_, hR, hX, rfl, rfl, ⟨_, rfl⟩, (rSm.r0.sp (by decide)).tr (hsm21.mono (by decide) (by decide) (by decide))⟩ | exact ⟨_, hR, hX, rfl, rfl, ⟨_, rfl⟩, rSm.r0.sp (by decide)⟩
theorem r_implies {a b : Int} (hd : 5 ≤ d) (ha : inR a) (hb : inR b) (hn : nmOk S) (hC : csOk S) : RM l G d M_Mo_implies [.ref o, .int (zI a), .int (zI b)] o rf S (qsQ S) := by
  obtain ⟨d, rfl⟩ : ∃ q, d = q + 1 := ⟨d - 1, by omega⟩
  intro H0 c n hR
  refine XM.of (by decide +kernel) (Nat.le_of_ble_eq_true rfl) ?_
  have hX : xonly H0 H0 RKs := xonly.rf
  obtain ⟨k1, k2, k3⟩ := id hC
  refine x_aload_n d_Mo_implies_0 rfl rfl ?_
  refine x_iconst (v := zI 0) d_Mo_implies_1 (by decide) ?_
  refine r_put xf_Mo_121_Mo xp_Mo_0 hR hX (by omega) rfl rfl d_Mo_implies_2 ?_
  intro h hR hX
  refine x_aload_n d_Mo_implies_5 rfl rfl ?_
  refine x_iload_n d_Mo_implies_6 rfl ?_
  refine x_callV (As := [_]) (k := k_MarkerTextModel) rfl xcv_Mo_281_Mo (Or.inl hR.1) (RM.ap hR (r_isCondition (by omega) ha (by exact k1))) rfl rfl (Nat.le_of_ble_eq_true rfl) d_Mo_implies_7 ?_
  rintro v7 h cq nq ⟨S7, hR, hX7, rfl, rfl, hE7, r7, rfl, hr7⟩
  replace hE7 := Eq.symm hE7
  subst hE7
  replace hX := hX.tr hX7
  have hb7 : r7 = 0 ∨ r7 = 1 := by rcases hr7 with ⟨z, -⟩ | ⟨z, -⟩ <;> omega
  refine z_if_eq (tgt := 21) d_Mo_implies_10 (by decide) (by omega) (fun hc10 => ?_) (fun hc10 => ?_)
  · refine x_iconst (v := zI (-1)) d_Mo_implies_21 (by decide) ?_
    refine x_iret d_Mo_implies_22 rfl ?_
    first | exact ⟨_, hR, hX, rfl, rfl, ⟨_, rfl⟩, (rSm.r0.sp (by decide)).tr (hsm37.mono (by decide) (by decide) (by decide))⟩ | exact ⟨_, hR, hX, rfl, rfl, ⟨_, rfl⟩, rSm.r0.sp (by decide)⟩
  · refine x_aload_n d_Mo_implies_13 rfl rfl ?_
    refine x_iload_n d_Mo_implies_14 rfl ?_
    refine x_callV (As := [_]) (k := k_MarkerTextModel) rfl xcv_Mo_281_Mo (Or.inl hR.1) (RM.ap hR (r_isCondition (by omega) hb (by exact k1))) rfl rfl (Nat.le_of_ble_eq_true rfl) d_Mo_implies_15 ?_
    rintro v15 h cq nq ⟨S15, hR, hX15, rfl, rfl, hE15, r15, rfl, hr15⟩
    replace hE15 := Eq.symm hE15
    subst hE15
    replace hX := hX.tr hX15
    have hb15 : r15 = 0 ∨ r15 = 1 := by rcases hr15 with ⟨z, -⟩ | ⟨z, -⟩ <;> omega
    refine z_if_ne (tgt := 23) d_Mo_implies_18 (by decide) (by omega) (fun hc18 => ?_) (fun hc18 => ?_)
    · refine x_aload_n d_Mo_implies_23 rfl rfl ?_
      refine x_iconst (v := zI 1) d_Mo_implies_24 (by decide) ?_
      refine x_iload_n d_Mo_implies_25 rfl ?_
      refine x_ishl d_Mo_implies_26 (x_zi ?_)
      have hr26 := inR_ti (zI 1 <<< (zI a &&& 31))
      refine x_iconst (v := zI 1) d_Mo_implies_27 (by decide) ?_
      refine x_iload_n d_Mo_implies_28 rfl ?_
      refine x_ishl d_Mo_implies_29 (x_zi ?_)
      have hr29 := inR_ti (zI 1 <<< (zI b &&& 31))
      refine x_ior d_Mo_implies_30 (x_zi ?_)
      have hr30 := inR_ti (zI ((zI 1 <<< (zI a &&& 31)).toInt) ||| zI ((zI 1 <<< (zI b &&& 31)).toInt))
      refine x_iconst (v := zI 1) d_Mo_implies_31 (by decide) ?_
      refine x_iload_n d_Mo_implies_32 rfl ?_
      refine x_ishl d_Mo_implies_33 (x_zi ?_)
      have hr33 := inR_ti (zI 1 <<< (zI a &&& 31))
      refine x_iconst (v := zI 1) d_Mo_implies_34 (by decide) ?_
      refine x_iload_n d_Mo_implies_35 rfl ?_
      refine x_ishl d_Mo_implies_36 (x_zi ?_)
      have hr36 := inR_ti (zI 1 <<< (zI b &&& 31))
      refine x_callV (As := [_, _, _]) (k := k_MarkerTextModel) rfl xcv_Mo_311_Mo (Or.inl hR.1) (RM.ap hR (r_some (S := sp S 0 0) (by omega) (by omega) (by omega) (by omega) hn hC)) rfl rfl (Nat.le_of_ble_eq_true rfl) d_Mo_implies_37 ?_
      rintro v37 h cq nq ⟨S37, hR, hX37, rfl, rfl, r37, rfl, hr37, hsm37⟩
      replace hX := hX.tr hX37
      refine x_istore_n (L' := [_, _, _, _]) d_Mo_implies_40 rfl rfl ?_
      refine x_iload_n d_Mo_implies_41 rfl ?_
      refine z_if_ge (tgt := 49) d_Mo_implies_42 (by decide) (by omega) (fun hc42 => ?_) (fun hc42 => ?_)
      · refine x_iconst (v := zI 1) d_Mo_implies_49 (by decide) ?_
        refine x_iload_n d_Mo_implies_50 rfl ?_
        refine z_isub d_Mo_implies_51 ?_
        refine x_iret d_Mo_implies_52 rfl ?_
        first | exact ⟨_, hR, hX, rfl, rfl, ⟨_, rfl⟩, (rSm.r0.sp (by decide)).tr (hsm37.mono (by decide) (by decide) (by decide))⟩ | exact ⟨_, hR, hX, rfl, rfl, ⟨_, rfl⟩, rSm.r0.sp (by decide)⟩
      · refine x_iconst (v := zI (-1)) d_Mo_implies_45 (by decide) ?_
        refine x_goto (tgt := 52) d_Mo_implies_46 (by decide) ?_
        refine x_iret d_Mo_implies_52 rfl ?_
        first | exact ⟨_, hR, hX, rfl, rfl, ⟨_, rfl⟩, (rSm.r0.sp (by decide)).tr (hsm37.mono (by decide) (by decide) (by decide))⟩ | exact ⟨_, hR, hX, rfl, rfl, ⟨_, rfl⟩, rSm.r0.sp (by decide)⟩
    · refine x_iconst (v := zI (-1)) d_Mo_implies_21 (by decide) ?_
      refine x_iret d_Mo_implies_22 rfl ?_
      first | exact ⟨_, hR, hX, rfl, rfl, ⟨_, rfl⟩, (rSm.r0.sp (by decide)).tr (hsm37.mono (by decide) (by decide) (by decide))⟩ | exact ⟨_, hR, hX, rfl, rfl, ⟨_, rfl⟩, rSm.r0.sp (by decide)⟩
theorem r_apart {a b : Int} (hd : 5 ≤ d) (ha : inR a) (hb : inR b) (hn : nmOk S) (hC : csOk S) : RM l G d M_Mo_apart [.ref o, .int (zI a), .int (zI b)] o rf S (qsQ S) := by
  obtain ⟨d, rfl⟩ : ∃ q, d = q + 1 := ⟨d - 1, by omega⟩
  intro H0 c n hR
  refine XM.of (by decide +kernel) (Nat.le_of_ble_eq_true rfl) ?_
  have hX : xonly H0 H0 RKs := xonly.rf
  obtain ⟨k1, k2, k3⟩ := id hC
  refine x_aload_n d_Mo_apart_0 rfl rfl ?_
  refine x_iconst (v := zI 0) d_Mo_apart_1 (by decide) ?_
  refine r_put xf_Mo_121_Mo xp_Mo_0 hR hX (by omega) rfl rfl d_Mo_apart_2 ?_
  intro h hR hX
  refine x_aload_n d_Mo_apart_5 rfl rfl ?_
  refine x_iload_n d_Mo_apart_6 rfl ?_
  refine x_callV (As := [_]) (k := k_MarkerTextModel) rfl xcv_Mo_281_Mo (Or.inl hR.1) (RM.ap hR (r_isCondition (by omega) ha (by exact k1))) rfl rfl (Nat.le_of_ble_eq_true rfl) d_Mo_apart_7 ?_
  rintro v7 h cq nq ⟨S7, hR, hX7, rfl, rfl, hE7, r7, rfl, hr7⟩
  replace hE7 := Eq.symm hE7
  subst hE7
  replace hX := hX.tr hX7
  have hb7 : r7 = 0 ∨ r7 = 1 := by rcases hr7 with ⟨z, -⟩ | ⟨z, -⟩ <;> omega
  refine z_if_eq (tgt := 21) d_Mo_apart_10 (by decide) (by omega) (fun hc10 => ?_) (fun hc10 => ?_)
  · refine x_iconst (v := zI (-1)) d_Mo_apart_21 (by decide) ?_
    refine x_iret d_Mo_apart_22 rfl ?_
    first | exact ⟨_, hR, hX, rfl, rfl, ⟨_, rfl⟩, (rSm.r0.sp (by decide)).tr (hsm39.mono (by decide) (by decide) (by decide))⟩ | exact ⟨_, hR, hX, rfl, rfl, ⟨_, rfl⟩, rSm.r0.sp (by decide)⟩
  · refine x_aload_n d_Mo_apart_13 rfl rfl ?_
    refine x_iload_n d_Mo_apart_14 rfl ?_
    refine x_callV (As := [_]) (k := k_MarkerTextModel) rfl xcv_Mo_281_Mo (Or.inl hR.1) (RM.ap hR (r_isCondition (by omega) hb (by exact k1))) rfl rfl (Nat.le_of_ble_eq_true rfl) d_Mo_apart_15 ?_
    rintro v15 h cq nq ⟨S15, hR, hX15, rfl, rfl, hE15, r15, rfl, hr15⟩
    replace hE15 := Eq.symm hE15
    subst hE15
    replace hX := hX.tr hX15
    have hb15 : r15 = 0 ∨ r15 = 1 := by rcases hr15 with ⟨z, -⟩ | ⟨z, -⟩ <;> omega
    refine z_if_ne (tgt := 23) d_Mo_apart_18 (by decide) (by omega) (fun hc18 => ?_) (fun hc18 => ?_)
    · refine x_aload_n d_Mo_apart_23 rfl rfl ?_
      refine x_iconst (v := zI 1) d_Mo_apart_24 (by decide) ?_
      refine x_iload_n d_Mo_apart_25 rfl ?_
      refine x_ishl d_Mo_apart_26 (x_zi ?_)
      have hr26 := inR_ti (zI 1 <<< (zI a &&& 31))
      refine x_iconst (v := zI 1) d_Mo_apart_27 (by decide) ?_
      refine x_iload_n d_Mo_apart_28 rfl ?_
      refine x_ishl d_Mo_apart_29 (x_zi ?_)
      have hr29 := inR_ti (zI 1 <<< (zI b &&& 31))
      refine x_ior d_Mo_apart_30 (x_zi ?_)
      have hr30 := inR_ti (zI ((zI 1 <<< (zI a &&& 31)).toInt) ||| zI ((zI 1 <<< (zI b &&& 31)).toInt))
      refine x_iconst (v := zI 1) d_Mo_apart_31 (by decide) ?_
      refine x_iload_n d_Mo_apart_32 rfl ?_
      refine x_ishl d_Mo_apart_33 (x_zi ?_)
      have hr33 := inR_ti (zI 1 <<< (zI a &&& 31))
      refine x_iconst (v := zI 1) d_Mo_apart_34 (by decide) ?_
      refine x_iload_n d_Mo_apart_35 rfl ?_
      refine x_ishl d_Mo_apart_36 (x_zi ?_)
      have hr36 := inR_ti (zI 1 <<< (zI b &&& 31))
      refine x_ior d_Mo_apart_37 (x_zi ?_)
      have hr37 := inR_ti (zI ((zI 1 <<< (zI a &&& 31)).toInt) ||| zI ((zI 1 <<< (zI b &&& 31)).toInt))
      refine x_iconst (v := zI 0) d_Mo_apart_38 (by decide) ?_
      refine x_callV (As := [_, _, _]) (k := k_MarkerTextModel) rfl xcv_Mo_311_Mo (Or.inl hR.1) (RM.ap hR (r_some (S := sp S 0 0) (by omega) (by omega) (by omega) (by decide) hn hC)) rfl rfl (Nat.le_of_ble_eq_true rfl) d_Mo_apart_39 ?_
      rintro v39 h cq nq ⟨S39, hR, hX39, rfl, rfl, r39, rfl, hr39, hsm39⟩
      replace hX := hX.tr hX39
      refine x_istore_n (L' := [_, _, _, _]) d_Mo_apart_42 rfl rfl ?_
      refine x_iload_n d_Mo_apart_43 rfl ?_
      refine z_if_ge (tgt := 51) d_Mo_apart_44 (by decide) (by omega) (fun hc44 => ?_) (fun hc44 => ?_)
      · refine x_iconst (v := zI 1) d_Mo_apart_51 (by decide) ?_
        refine x_iload_n d_Mo_apart_52 rfl ?_
        refine z_isub d_Mo_apart_53 ?_
        refine x_iret d_Mo_apart_54 rfl ?_
        first | exact ⟨_, hR, hX, rfl, rfl, ⟨_, rfl⟩, (rSm.r0.sp (by decide)).tr (hsm39.mono (by decide) (by decide) (by decide))⟩ | exact ⟨_, hR, hX, rfl, rfl, ⟨_, rfl⟩, rSm.r0.sp (by decide)⟩
      · refine x_iconst (v := zI (-1)) d_Mo_apart_47 (by decide) ?_
        refine x_goto (tgt := 54) d_Mo_apart_48 (by decide) ?_
        refine x_iret d_Mo_apart_54 rfl ?_
        first | exact ⟨_, hR, hX, rfl, rfl, ⟨_, rfl⟩, (rSm.r0.sp (by decide)).tr (hsm39.mono (by decide) (by decide) (by decide))⟩ | exact ⟨_, hR, hX, rfl, rfl, ⟨_, rfl⟩, rSm.r0.sp (by decide)⟩
    · refine x_iconst (v := zI (-1)) d_Mo_apart_21 (by decide) ?_
      refine x_iret d_Mo_apart_22 rfl ?_
      first | exact ⟨_, hR, hX, rfl, rfl, ⟨_, rfl⟩, (rSm.r0.sp (by decide)).tr (hsm39.mono (by decide) (by decide) (by decide))⟩ | exact ⟨_, hR, hX, rfl, rfl, ⟨_, rfl⟩, rSm.r0.sp (by decide)⟩
end RF19
