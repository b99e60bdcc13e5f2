section
abbrev y_Mo_addTest : MethodName := ⟨"MarkerTextModel", "addTest", "(III)V"⟩
abbrev M_Mo_addTest : XMt := (y_Mo_addTest, prog_13_method_31_code, 5, none)
theorem d_Mo_addTest_0 : decode M_Mo_addTest.2.1 0 = .ok (.bipush 40, 2) := by decide +kernel
theorem d_Mo_addTest_2 : decode M_Mo_addTest.2.1 2 = .ok (.aload_n 0, 1) := by decide +kernel
theorem d_Mo_addTest_3 : decode M_Mo_addTest.2.1 3 = .ok (.getfield 196, 3) := by decide +kernel
theorem d_Mo_addTest_6 : decode M_Mo_addTest.2.1 6 = .ok (.imul, 1) := by decide +kernel
theorem d_Mo_addTest_7 : decode M_Mo_addTest.2.1 7 = .ok (.aload_n 0, 1) := by decide +kernel
theorem d_Mo_addTest_8 : decode M_Mo_addTest.2.1 8 = .ok (.getfield 63, 3) := by decide +kernel
theorem d_Mo_addTest_11 : decode M_Mo_addTest.2.1 11 = .ok (.aload_n 0, 1) := by decide +kernel
theorem d_Mo_addTest_12 : decode M_Mo_addTest.2.1 12 = .ok (.getfield 196, 3) := by decide +kernel
theorem d_Mo_addTest_15 : decode M_Mo_addTest.2.1 15 = .ok (.iaload, 1) := by decide +kernel
theorem d_Mo_addTest_16 : decode M_Mo_addTest.2.1 16 = .ok (.iadd, 1) := by decide +kernel
theorem d_Mo_addTest_17 : decode M_Mo_addTest.2.1 17 = .ok (.istore 4, 2) := by decide +kernel
theorem d_Mo_addTest_19 : decode M_Mo_addTest.2.1 19 = .ok (.aload_n 0, 1) := by decide +kernel
theorem d_Mo_addTest_20 : decode M_Mo_addTest.2.1 20 = .ok (.getfield 51, 3) := by decide +kernel
theorem d_Mo_addTest_23 : decode M_Mo_addTest.2.1 23 = .ok (.iload 4, 2) := by decide +kernel
theorem d_Mo_addTest_25 : decode M_Mo_addTest.2.1 25 = .ok (.iload_n 1, 1) := by decide +kernel
theorem d_Mo_addTest_26 : decode M_Mo_addTest.2.1 26 = .ok (.iastore, 1) := by decide +kernel
theorem d_Mo_addTest_27 : decode M_Mo_addTest.2.1 27 = .ok (.aload_n 0, 1) := by decide +kernel
theorem d_Mo_addTest_28 : decode M_Mo_addTest.2.1 28 = .ok (.getfield 54, 3) := by decide +kernel
theorem d_Mo_addTest_31 : decode M_Mo_addTest.2.1 31 = .ok (.iload 4, 2) := by decide +kernel
theorem d_Mo_addTest_33 : decode M_Mo_addTest.2.1 33 = .ok (.iload_n 2, 1) := by decide +kernel
theorem d_Mo_addTest_34 : decode M_Mo_addTest.2.1 34 = .ok (.iastore, 1) := by decide +kernel
theorem d_Mo_addTest_35 : decode M_Mo_addTest.2.1 35 = .ok (.aload_n 0, 1) := by decide +kernel
theorem d_Mo_addTest_36 : decode M_Mo_addTest.2.1 36 = .ok (.getfield 57, 3) := by decide +kernel
theorem d_Mo_addTest_39 : decode M_Mo_addTest.2.1 39 = .ok (.iload 4, 2) := by decide +kernel
theorem d_Mo_addTest_41 : decode M_Mo_addTest.2.1 41 = .ok (.iload_n 3, 1) := by decide +kernel
theorem d_Mo_addTest_42 : decode M_Mo_addTest.2.1 42 = .ok (.iastore, 1) := by decide +kernel
theorem d_Mo_addTest_43 : decode M_Mo_addTest.2.1 43 = .ok (.aload_n 0, 1) := by decide +kernel
theorem d_Mo_addTest_44 : decode M_Mo_addTest.2.1 44 = .ok (.getfield 60, 3) := by decide +kernel
theorem d_Mo_addTest_47 : decode M_Mo_addTest.2.1 47 = .ok (.iload 4, 2) := by decide +kernel
theorem d_Mo_addTest_49 : decode M_Mo_addTest.2.1 49 = .ok (.bipush 64, 2) := by decide +kernel
theorem d_Mo_addTest_51 : decode M_Mo_addTest.2.1 51 = .ok (.aload_n 0, 1) := by decide +kernel
theorem d_Mo_addTest_52 : decode M_Mo_addTest.2.1 52 = .ok (.getfield 196, 3) := by decide +kernel
theorem d_Mo_addTest_55 : decode M_Mo_addTest.2.1 55 = .ok (.imul, 1) := by decide +kernel
theorem d_Mo_addTest_56 : decode M_Mo_addTest.2.1 56 = .ok (.aload_n 0, 1) := by decide +kernel
theorem d_Mo_addTest_57 : decode M_Mo_addTest.2.1 57 = .ok (.getfield 78, 3) := by decide +kernel
theorem d_Mo_addTest_60 : decode M_Mo_addTest.2.1 60 = .ok (.aload_n 0, 1) := by decide +kernel
theorem d_Mo_addTest_61 : decode M_Mo_addTest.2.1 61 = .ok (.getfield 196, 3) := by decide +kernel
theorem d_Mo_addTest_64 : decode M_Mo_addTest.2.1 64 = .ok (.iaload, 1) := by decide +kernel
theorem d_Mo_addTest_65 : decode M_Mo_addTest.2.1 65 = .ok (.iadd, 1) := by decide +kernel
theorem d_Mo_addTest_66 : decode M_Mo_addTest.2.1 66 = .ok (.iload_n 3, 1) := by decide +kernel
theorem d_Mo_addTest_67 : decode M_Mo_addTest.2.1 67 = .ok (.isub, 1) := by decide +kernel
theorem d_Mo_addTest_68 : decode M_Mo_addTest.2.1 68 = .ok (.iastore, 1) := by decide +kernel
theorem d_Mo_addTest_69 : decode M_Mo_addTest.2.1 69 = .ok (.aload_n 0, 1) := by decide +kernel
theorem d_Mo_addTest_70 : decode M_Mo_addTest.2.1 70 = .ok (.getfield 63, 3) := by decide +kernel
theorem d_Mo_addTest_73 : decode M_Mo_addTest.2.1 73 = .ok (.aload_n 0, 1) := by decide +kernel
theorem d_Mo_addTest_74 : decode M_Mo_addTest.2.1 74 = .ok (.getfield 196, 3) := by decide +kernel
theorem d_Mo_addTest_77 : decode M_Mo_addTest.2.1 77 = .ok (.dup2, 1) := by decide +kernel
theorem d_Mo_addTest_78 : decode M_Mo_addTest.2.1 78 = .ok (.iaload, 1) := by decide +kernel
theorem d_Mo_addTest_79 : decode M_Mo_addTest.2.1 79 = .ok (.iconst 1, 1) := by decide +kernel
theorem d_Mo_addTest_80 : decode M_Mo_addTest.2.1 80 = .ok (.iadd, 1) := by decide +kernel
theorem d_Mo_addTest_81 : decode M_Mo_addTest.2.1 81 = .ok (.iastore, 1) := by decide +kernel
theorem d_Mo_addTest_82 : decode M_Mo_addTest.2.1 82 = .ok (.aload_n 0, 1) := by decide +kernel
theorem d_Mo_addTest_83 : decode M_Mo_addTest.2.1 83 = .ok (.getfield 88, 3) := by decide +kernel
theorem d_Mo_addTest_86 : decode M_Mo_addTest.2.1 86 = .ok (.aload_n 0, 1) := by decide +kernel
theorem d_Mo_addTest_87 : decode M_Mo_addTest.2.1 87 = .ok (.getfield 205, 3) := by decide +kernel
theorem d_Mo_addTest_90 : decode M_Mo_addTest.2.1 90 = .ok (.aload_n 0, 1) := by decide +kernel
theorem d_Mo_addTest_91 : decode M_Mo_addTest.2.1 91 = .ok (.iconst 0, 1) := by decide +kernel
theorem d_Mo_addTest_92 : decode M_Mo_addTest.2.1 92 = .ok (.iload 4, 2) := by decide +kernel
theorem d_Mo_addTest_94 : decode M_Mo_addTest.2.1 94 = .ok (.iconst (-1), 1) := by decide +kernel
theorem d_Mo_addTest_95 : decode M_Mo_addTest.2.1 95 = .ok (.invokevirtual 208, 3) := by decide +kernel
theorem d_Mo_addTest_98 : decode M_Mo_addTest.2.1 98 = .ok (.iastore, 1) := by decide +kernel
theorem d_Mo_addTest_99 : decode M_Mo_addTest.2.1 99 = .ok (.aload_n 0, 1) := by decide +kernel
theorem d_Mo_addTest_100 : decode M_Mo_addTest.2.1 100 = .ok (.dup, 1) := by decide +kernel
theorem d_Mo_addTest_101 : decode M_Mo_addTest.2.1 101 = .ok (.getfield 205, 3) := by decide +kernel
theorem d_Mo_addTest_104 : decode M_Mo_addTest.2.1 104 = .ok (.iconst 1, 1) := by decide +kernel
theorem d_Mo_addTest_105 : decode M_Mo_addTest.2.1 105 = .ok (.iadd, 1) := by decide +kernel
theorem d_Mo_addTest_106 : decode M_Mo_addTest.2.1 106 = .ok (.putfield 205, 3) := by decide +kernel
theorem d_Mo_addTest_109 : decode M_Mo_addTest.2.1 109 = .ok (.aload_n 0, 1) := by decide +kernel
theorem d_Mo_addTest_110 : decode M_Mo_addTest.2.1 110 = .ok (.invokevirtual 238, 3) := by decide +kernel
theorem xw_1462 : (Jvm.Cond.code ({ cls := "MarkerTextModel", name := "complete", desc := "()V" } : Jvm.MethodName) prog_13_method_24_code (1 : Nat) (Option.none : Option Jvm.ClassFile.FieldType)) ∈ xT := xT_at 1462 (by decide +kernel) (by decide +kernel)
theorem xcb_Mo_complete : xcb M_Mo_complete 0 := ⟨xw_1462, xw_8, by decide, by decide, by decide, by decide +kernel⟩
theorem xw_1461 : (Jvm.Cond.instanceMethod ({ cls := "MarkerTextModel", name := "complete", desc := "()V" } : Jvm.MethodName)) ∈ xT := xT_at 1461 (by decide +kernel) (by decide +kernel)
theorem xw_1459 : (Jvm.Cond.methodLink "MarkerTextModel" (238 : Nat) ({ cls := "MarkerTextModel", name := "complete", desc := "()V" } : Jvm.MethodName)) ∈ xT := xT_at 1459 (by decide +kernel) (by decide +kernel)
theorem xsel_Mo_complete : Cond.selects "MarkerTextModel" y_Mo_complete y_Mo_complete ∈ xT := xT_sel (q := (y_Mo_complete, 52)) (by decide +kernel) (by decide +kernel)
theorem xcv_Mo_238_Mo : xCV "MarkerTextModel" 238 "MarkerTextModel" M_Mo_complete 0 := ⟨xcb_Mo_complete, xw_1461, Or.inl ⟨xw_1459, Or.inl xsel_Mo_complete⟩⟩
theorem d_Mo_addTest_113 : decode M_Mo_addTest.2.1 113 = .ok (.return_, 1) := by decide +kernel
abbrev y_Mo_readList : MethodName := ⟨"MarkerTextModel", "readList", "(I)V"⟩
abbrev M_Mo_readList : XMt := (y_Mo_readList, prog_13_method_30_code, 4, none)
theorem d_Mo_readList_110 : decode M_Mo_readList.2.1 110 = .ok (.aload_n 0, 1) := by decide +kernel
theorem d_Mo_readList_111 : decode M_Mo_readList.2.1 111 = .ok (.getfield 190, 3) := by decide +kernel
theorem d_Mo_readList_114 : decode M_Mo_readList.2.1 114 = .ok (.ifCond .ge 9, 3) := by decide +kernel
theorem d_Mo_readList_123 : decode M_Mo_readList.2.1 123 = .ok (.return_, 1) := by decide +kernel
theorem d_Mo_readList_117 : decode M_Mo_readList.2.1 117 = .ok (.aload_n 0, 1) := by decide +kernel
theorem d_Mo_readList_118 : decode M_Mo_readList.2.1 118 = .ok (.bipush 93, 2) := by decide +kernel
theorem d_Mo_readList_120 : decode M_Mo_readList.2.1 120 = .ok (.invokevirtual 232, 3) := by decide +kernel
theorem xw_1442 : (Jvm.Cond.code ({ cls := "MarkerTextModel", name := "expect", desc := "(I)V" } : Jvm.MethodName) prog_13_method_28_code (2 : Nat) (Option.none : Option Jvm.ClassFile.FieldType)) ∈ xT := xT_at 1442 (by decide +kernel) (by decide +kernel)
theorem xcb_Mo_expect : xcb M_Mo_expect 1 := ⟨xw_1442, xw_8, by decide, by decide, by decide, by decide +kernel⟩
theorem xw_1441 : (Jvm.Cond.instanceMethod ({ cls := "MarkerTextModel", name := "expect", desc := "(I)V" } : Jvm.MethodName)) ∈ xT := xT_at 1441 (by decide +kernel) (by decide +kernel)
theorem xw_1439 : (Jvm.Cond.methodLink "MarkerTextModel" (232 : Nat) ({ cls := "MarkerTextModel", name := "expect", desc := "(I)V" } : Jvm.MethodName)) ∈ xT := xT_at 1439 (by decide +kernel) (by decide +kernel)
theorem xsel_Mo_expect : Cond.selects "MarkerTextModel" y_Mo_expect y_Mo_expect ∈ xT := xT_sel (q := (y_Mo_expect, 52)) (by decide +kernel) (by decide +kernel)
theorem xcv_Mo_232_Mo : xCV "MarkerTextModel" 232 "MarkerTextModel" M_Mo_expect 1 := ⟨xcb_Mo_expect, xw_1441, Or.inl ⟨xw_1439, Or.inl xsel_Mo_expect⟩⟩
theorem d_Mo_readList_10 : decode M_Mo_readList.2.1 10 = .ok (.iload_n 3, 1) := by decide +kernel
theorem d_Mo_readList_11 : decode M_Mo_readList.2.1 11 = .ok (.ifCond .eq 99, 3) := by decide +kernel
theorem d_Mo_readList_14 : decode M_Mo_readList.2.1 14 = .ok (.aload_n 0, 1) := by decide +kernel
theorem d_Mo_readList_15 : decode M_Mo_readList.2.1 15 = .ok (.getfield 190, 3) := by decide +kernel
theorem d_Mo_readList_18 : decode M_Mo_readList.2.1 18 = .ok (.ifCond .ge 92, 3) := by decide +kernel
theorem d_Mo_readList_63 : decode M_Mo_readList.2.1 63 = .ok (.aload_n 0, 1) := by decide +kernel
theorem d_Mo_readList_64 : decode M_Mo_readList.2.1 64 = .ok (.invokevirtual 225, 3) := by decide +kernel
theorem d_Mo_readList_67 : decode M_Mo_readList.2.1 67 = .ok (.aload_n 0, 1) := by decide +kernel
theorem d_Mo_readList_68 : decode M_Mo_readList.2.1 68 = .ok (.invokevirtual 228, 3) := by decide +kernel
theorem d_Mo_readList_71 : decode M_Mo_readList.2.1 71 = .ok (.bipush 44, 2) := by decide +kernel
theorem d_Mo_readList_73 : decode M_Mo_readList.2.1 73 = .ok (.if_icmp .ne 7, 3) := by decide +kernel
theorem d_Mo_readList_80 : decode M_Mo_readList.2.1 80 = .ok (.iconst 0, 1) := by decide +kernel
theorem d_Mo_readList_81 : decode M_Mo_readList.2.1 81 = .ok (.istore_n 3, 1) := by decide +kernel
theorem d_Mo_readList_82 : decode M_Mo_readList.2.1 82 = .ok (.aload_n 0, 1) := by decide +kernel
theorem d_Mo_readList_83 : decode M_Mo_readList.2.1 83 = .ok (.dup, 1) := by decide +kernel
theorem d_Mo_readList_84 : decode M_Mo_readList.2.1 84 = .ok (.getfield 193, 3) := by decide +kernel
theorem d_Mo_readList_87 : decode M_Mo_readList.2.1 87 = .ok (.iload_n 3, 1) := by decide +kernel
theorem d_Mo_readList_88 : decode M_Mo_readList.2.1 88 = .ok (.ifCond .eq 14, 3) := by decide +kernel
theorem d_Mo_readList_102 : decode M_Mo_readList.2.1 102 = .ok (.iconst 0, 1) := by decide +kernel
theorem d_Mo_readList_103 : decode M_Mo_readList.2.1 103 = .ok (.iadd, 1) := by decide +kernel
theorem d_Mo_readList_104 : decode M_Mo_readList.2.1 104 = .ok (.putfield 193, 3) := by decide +kernel
theorem d_Mo_readList_107 : decode M_Mo_readList.2.1 107 = .ok (.goto (-97), 3) := by decide +kernel
theorem d_Mo_readList_91 : decode M_Mo_readList.2.1 91 = .ok (.aload_n 0, 1) := by decide +kernel
theorem d_Mo_readList_92 : decode M_Mo_readList.2.1 92 = .ok (.getfield 190, 3) := by decide +kernel
theorem d_Mo_readList_95 : decode M_Mo_readList.2.1 95 = .ok (.ifCond .ge 7, 3) := by decide +kernel
theorem d_Mo_readList_98 : decode M_Mo_readList.2.1 98 = .ok (.iconst 1, 1) := by decide +kernel
theorem d_Mo_readList_99 : decode M_Mo_readList.2.1 99 = .ok (.goto 4, 3) := by decide +kernel
theorem d_Mo_readList_76 : decode M_Mo_readList.2.1 76 = .ok (.iconst 1, 1) := by decide +kernel
theorem d_Mo_readList_77 : decode M_Mo_readList.2.1 77 = .ok (.goto 4, 3) := by decide +kernel
theorem d_Mo_readList_21 : decode M_Mo_readList.2.1 21 = .ok (.aload_n 0, 1) := by decide +kernel
theorem d_Mo_readList_22 : decode M_Mo_readList.2.1 22 = .ok (.invokevirtual 225, 3) := by decide +kernel
theorem d_Mo_readList_25 : decode M_Mo_readList.2.1 25 = .ok (.iload_n 2, 1) := by decide +kernel
theorem d_Mo_readList_26 : decode M_Mo_readList.2.1 26 = .ok (.bipush 6, 2) := by decide +kernel
theorem d_Mo_readList_28 : decode M_Mo_readList.2.1 28 = .ok (.if_icmp .ne 20, 3) := by decide +kernel
theorem d_Mo_readList_48 : decode M_Mo_readList.2.1 48 = .ok (.aload_n 0, 1) := by decide +kernel
theorem d_Mo_readList_49 : decode M_Mo_readList.2.1 49 = .ok (.getfield 190, 3) := by decide +kernel
theorem d_Mo_readList_52 : decode M_Mo_readList.2.1 52 = .ok (.ifCond .ge 11, 3) := by decide +kernel
theorem d_Mo_readList_55 : decode M_Mo_readList.2.1 55 = .ok (.aload_n 0, 1) := by decide +kernel
theorem d_Mo_readList_56 : decode M_Mo_readList.2.1 56 = .ok (.iload_n 1, 1) := by decide +kernel
theorem d_Mo_readList_57 : decode M_Mo_readList.2.1 57 = .ok (.invokevirtual 235, 3) := by decide +kernel
theorem xw_1446 : (Jvm.Cond.code ({ cls := "MarkerTextModel", name := "readValue", desc := "(I)V" } : Jvm.MethodName) prog_13_method_27_code (6 : Nat) (Option.none : Option Jvm.ClassFile.FieldType)) ∈ xT := xT_at 1446 (by decide +kernel) (by decide +kernel)
theorem xcb_Mo_readValue : xcb M_Mo_readValue 1 := ⟨xw_1446, xw_8, by decide, by decide, by decide, by decide +kernel⟩
theorem xw_1445 : (Jvm.Cond.instanceMethod ({ cls := "MarkerTextModel", name := "readValue", desc := "(I)V" } : Jvm.MethodName)) ∈ xT := xT_at 1445 (by decide +kernel) (by decide +kernel)
theorem xw_1443 : (Jvm.Cond.methodLink "MarkerTextModel" (235 : Nat) ({ cls := "MarkerTextModel", name := "readValue", desc := "(I)V" } : Jvm.MethodName)) ∈ xT := xT_at 1443 (by decide +kernel) (by decide +kernel)
theorem xsel_Mo_readValue : Cond.selects "MarkerTextModel" y_Mo_readValue y_Mo_readValue ∈ xT := xT_sel (q := (y_Mo_readValue, 52)) (by decide +kernel) (by decide +kernel)
theorem xcv_Mo_235_Mo : xCV "MarkerTextModel" 235 "MarkerTextModel" M_Mo_readValue 1 := ⟨xcb_Mo_readValue, xw_1445, Or.inl ⟨xw_1443, Or.inl xsel_Mo_readValue⟩⟩
theorem d_Mo_readList_60 : decode M_Mo_readList.2.1 60 = .ok (.iinc 2 1, 3) := by decide +kernel
theorem d_Mo_readList_31 : decode M_Mo_readList.2.1 31 = .ok (.aload_n 0, 1) := by decide +kernel
theorem d_Mo_readList_32 : decode M_Mo_readList.2.1 32 = .ok (.invokevirtual 228, 3) := by decide +kernel
theorem d_Mo_readList_35 : decode M_Mo_readList.2.1 35 = .ok (.bipush 39, 2) := by decide +kernel
theorem d_Mo_readList_37 : decode M_Mo_readList.2.1 37 = .ok (.if_icmp .ne 11, 3) := by decide +kernel
theorem d_Mo_readList_40 : decode M_Mo_readList.2.1 40 = .ok (.aload_n 0, 1) := by decide +kernel
theorem d_Mo_readList_41 : decode M_Mo_readList.2.1 41 = .ok (.aload_n 0, 1) := by decide +kernel
theorem d_Mo_readList_42 : decode M_Mo_readList.2.1 42 = .ok (.getfield 193, 3) := by decide +kernel
theorem d_Mo_readList_45 : decode M_Mo_readList.2.1 45 = .ok (.invokevirtual 218, 3) := by decide +kernel
theorem d_Mo_readList_0 : decode M_Mo_readList.2.1 0 = .ok (.aload_n 0, 1) := by decide +kernel
theorem d_Mo_readList_1 : decode M_Mo_readList.2.1 1 = .ok (.bipush 91, 2) := by decide +kernel
theorem d_Mo_readList_3 : decode M_Mo_readList.2.1 3 = .ok (.invokevirtual 232, 3) := by decide +kernel
theorem d_Mo_readList_6 : decode M_Mo_readList.2.1 6 = .ok (.iconst 0, 1) := by decide +kernel
theorem d_Mo_readList_7 : decode M_Mo_readList.2.1 7 = .ok (.istore_n 2, 1) := by decide +kernel
theorem d_Mo_readList_8 : decode M_Mo_readList.2.1 8 = .ok (.iconst 1, 1) := by decide +kernel
theorem d_Mo_readList_9 : decode M_Mo_readList.2.1 9 = .ok (.istore_n 3, 1) := by decide +kernel
end
section RF8
variable {l : Launch} {G : XG} {h : XH} {c n d : Nat} {o : Nat} {rf : Nat → Nat} {S : MS}
/-- the next test's number -/
abbrev tnN (S : MS) : Int := 40 * S.1 28 + gd (S.2.1 21) (S.1 28)
/-- the next VALUE's number -/
abbrev vnN (S : MS) : Int := 64 * S.1 28 + gd (S.2.1 26) (S.1 28)
abbrev ts5 (S : MS) (nm op f : Int) : MS := sa (sa (sa (sa (sa S 17 (se (S.2.1 17) (tnN S) nm)) 18 (se (S.2.1 18) (tnN S) op)) 19 (se (S.2.1 19) (tnN S) f)) 20 (se (S.2.1 20) (tnN S) (vnN S - f))) 21 (se (S.2.1 21) (S.1 28) (gd (S.2.1 21) (S.1 28) + 1))
abbrev tsN (S : MS) (nm op f : Int) : MS := sp (sa (adN (ts5 S nm op f) 0 (tnN S) (-1)) 34 (se (S.2.1 34) (S.1 35) (nxN S))) 35 (S.1 35 + 1)
/-- how broad it is -/
abbrev tsU (S : MS) (op f : Int) : Int := if 6 < op then 5 else (if op = 6 then 14 else 12) + sm (fun v => gd (S.2.1 24) v + 4) f (vnN S - f).toNat
abbrev adQ (S : MS) (P R : List Int) : Option Value → MS → Prop := fun v S' => v = none ∧ (∃ P' R' w', rdOk S' P' R' w' ∧ R'.length = R.length + 1 ∧ cnt 2 P' = cnt 2 P ∧ cnt 3 P' = cnt 3 P) ∧ S'.1 33 ≤ S.1 33 ∧ rSm S S' [32, 33, 35] [12, 13, 14, 15, 17, 18, 19, 20, 21, 34] [] ∧ agO S S' (S.1 28) ∧ gd (S'.2.1 21) (S.1 28) = gd (S.2.1 21) (S.1 28) + 1
theorem r_addTest (hd : 3 ≤ d) {P R : List Int} {w : Int → Int} {nm op f : Int} (hS : rdOk S P R w) (hT : gd (S.2.1 21) (S.1 28) < 40) (hop : 0 ≤ op ∧ op ≤ 8) (hnr : inR nm) (hnm : op ≤ 6 → 0 ≤ nm ∧ nm < 6) (hf : 64 * S.1 28 ≤ f ∧ f ≤ vnN S) (hop6 : 6 < op → f = vnN S) (hsm : sm (gd (S.2.1 20)) (40 * S.1 28) (gd (S.2.1 21) (S.1 28)).toNat ≤ f - 64 * S.1 28) (h15 : 2 * (gd (S.2.1 15) (S.1 28) + 1 + cnt 1 P + cnt 2 P + cnt 3 P) ≤ S.1 27) (h17 : 2 * (wsm w R + tsU S op f + 7 * cnt 1 P + 10 * cnt 2 P + 7 * cnt 3 P) ≤ 7 * S.1 27) : RM l G d M_Mo_addTest [.ref o, .int (zI nm), .int (zI op), .int (zI f)] o rf S (adQ S P R) := by
  obtain ⟨d, rfl⟩ : ∃ q, d = q + 1 := ⟨d - 1, by omega⟩
  intro H0 c n hR
  refine XM.of (by decide +kernel) (Nat.le_of_ble_eq_true rfl) ?_
  have hX : xonly H0 H0 RKs := xonly.rf
  obtain ⟨s1, s2, s3, s4, ⟨s5, s6, s7⟩, ⟨s8, s9⟩, ⟨s10, s11, s12⟩, ⟨s13, s13b⟩, s14, s15, s16, s17⟩ := id hS
  obtain ⟨p1, p2, p3, p4, p5, p6, -⟩ := id s14
  obtain ⟨z1, z2⟩ := id s1
  have c1 := cnt_nn 1 P
  have c2 := cnt_nn 2 P
  have c3 := cnt_nn 3 P
  have hN1 : gd (S.2.1 15) (S.1 28) < 128 := by omega
  have hx1 : nxN S = 128 * S.1 28 + gd (S.2.1 15) (S.1 28) := rfl
  have hx2 : tnN S = 40 * S.1 28 + gd (S.2.1 21) (S.1 28) := rfl
  have hx3 : vnN S = 64 * S.1 28 + gd (S.2.1 26) (S.1 28) := rfl
  have l12 : _ = 1152 := hR.len 12 (by decide)
  have l13 : _ = 1152 := hR.len 13 (by decide)
  have l14 : _ = 1152 := hR.len 14 (by decide)
  have l15 : _ = 9 := hR.len 15 (by decide)
  have l34 : _ = 80 := hR.len 34 (by decide)
  have l17 : _ = 360 := hR.len 17 (by decide)
  have l18 : _ = 360 := hR.len 18 (by decide)
  have l19 : _ = 360 := hR.len 19 (by decide)
  have l20 : _ = 360 := hR.len 20 (by decide)
  have l21 : _ = 9 := hR.len 21 (by decide)
  have hrs0 : rSm S (tsN S nm op f) [35] [12, 13, 14, 15, 17, 18, 19, 20, 21, 34] [] := ((((((((((rSm.r0.sa (by decide)).sa (by decide)).sa (by decide)).sa (by decide)).sa (by decide)).sa (by decide)).sa (by decide)).sa (by decide)).sa (by decide)).sa (by decide)).sp (by decide)
  have hrs : rSm S (tsN S nm op f) [32, 33, 35] [12, 13, 14, 15, 17, 18, 19, 20, 21, 34] [] := hrs0.mono (by decide) (by decide) (by decide)
  obtain ⟨w1, hS1⟩ : ∃ w', rdOk (tsN S nm op f) P (nxN S :: R) w' := rd_test (nm := nm) (op := op) (f := f) (U := tsU S op f) hS hT l12 l13 l14 l15 l34 l17 l18 l19 l20 l21 hrs0 (by decide) (by decide) hop hnm hf hop6 hsm rfl rfl rfl rfl rfl rfl rfl rfl rfl rfl rfl rfl h15 h17
  have hag : agO S (tsN S nm op f) (S.1 28) := fun cc h1 h2 => by
    have a17 := agr_se (S := S) (c := cc) (i := 17) (e := tnN S) (z := nm) (N := 360) l17 (by omega) (by omega) rfl h1 (Or.inr (Or.inl ⟨by decide, by omega⟩))
    have a18 := agr_se (S := sa S 17 (se (S.2.1 17) (tnN S) nm)) (c := cc) (i := 18) (e := tnN S) (z := op) (N := 360) l18 (by omega) (by omega) rfl h1 (Or.inr (Or.inl ⟨by decide, by omega⟩))
    have a19 := agr_se (S := sa (sa S 17 (se (S.2.1 17) (tnN S) nm)) 18 (se (S.2.1 18) (tnN S) op)) (c := cc) (i := 19) (e := tnN S) (z := f) (N := 360) l19 (by omega) (by omega) rfl h1 (Or.inr (Or.inl ⟨by decide, by omega⟩))
    have a20 := agr_se (S := sa (sa (sa S 17 (se (S.2.1 17) (tnN S) nm)) 18 (se (S.2.1 18) (tnN S) op)) 19 (se (S.2.1 19) (tnN S) f)) (c := cc) (i := 20) (e := tnN S) (z := vnN S - f) (N := 360) l20 (by omega) (by omega) rfl h1 (Or.inr (Or.inl ⟨by decide, by omega⟩))
    have a21 := agr_se (S := sa (sa (sa (sa S 17 (se (S.2.1 17) (tnN S) nm)) 18 (se (S.2.1 18) (tnN S) op)) 19 (se (S.2.1 19) (tnN S) f)) 20 (se (S.2.1 20) (tnN S) (vnN S - f))) (c := cc) (i := 21) (e := S.1 28) (z := gd (S.2.1 21) (S.1 28) + 1) (N := 9) l21 (by omega) (by omega) rfl h1 (Or.inr (Or.inr (Or.inr ⟨by decide, fun z => h2 z.symm⟩)))
    have aN := agO_adN (S := ts5 S nm op f) (k := 0) (a := tnN S) (b := -1) l12 l13 l14 l15 s3 ⟨p1, hN1⟩ cc h1 h2
    have aE : agr (adN (ts5 S nm op f) 0 (tnN S) (-1)) (tsN S nm op f) cc := agr.sm (((rSm.r0 (js := [35]) (is := [34]) (ls := [])).sa (i := 34) (by decide)).sp (j := 35) (by decide)) (by decide)
    exact ((((a17.tr a18).tr a19).tr a20).tr a21).tr (aN.tr aE)
  have ht1 : gd ((tsN S nm op f).2.1 21) (S.1 28) = gd (S.2.1 21) (S.1 28) + 1 := by
    show gd (se (S.2.1 21) (S.1 28) (gd (S.2.1 21) (S.1 28) + 1)) (S.1 28) = _
    rw [gd_se_of l21 (by omega) (by omega) (by omega), if_pos rfl]
  refine x_bipush (v := zI 40) d_Mo_addTest_0 (by decide) ?_
  refine x_aload_n d_Mo_addTest_2 rfl rfl ?_
  refine x_get xf_Mo_196_Mo (Or.inl hR.1) (v := .int (zI (S.1 28))) rfl d_Mo_addTest_3 ?_
  have hb3 : inR (S.1 28) := hR.2.2.2 28
  refine z_imul d_Mo_addTest_6 ?_
  refine x_aload_n d_Mo_addTest_7 rfl rfl ?_
  refine x_get xf_Mo_63_Mo (Or.inl hR.1) (v := .ref (rf 21)) rfl d_Mo_addTest_8 ?_
  refine x_aload_n d_Mo_addTest_11 rfl rfl ?_
  refine x_get xf_Mo_196_Mo (Or.inl hR.1) (v := .int (zI (S.1 28))) rfl d_Mo_addTest_12 ?_
  have hb12 : inR (S.1 28) := hR.2.2.2 28
  refine r_iald (i := 21) (us := (S.2.1 21)) rfl (by decide) hR rfl (by omega) (by show S.1 28 < 9; omega) d_Mo_addTest_15 (fun hr15 => ?_)
  refine z_iadd d_Mo_addTest_16 ?_
  refine x_istore (L' := [_, _, _, _, _]) d_Mo_addTest_17 rfl rfl ?_
  refine x_aload_n d_Mo_addTest_19 rfl rfl ?_
  refine x_get xf_Mo_51_Mo (Or.inl hR.1) (v := .ref (rf 17)) rfl d_Mo_addTest_20 ?_
  refine x_iload d_Mo_addTest_23 rfl ?_
  refine x_iload_n d_Mo_addTest_25 rfl ?_
  refine r_iast (i := 17) (us := (S.2.1 17)) ⟨rfl, rfl⟩ (by decide) hR hX rfl (by omega) (by show tnN S < 360; omega) (by omega) d_Mo_addTest_26 ?_
  intro h hR hX
  refine x_aload_n d_Mo_addTest_27 rfl rfl ?_
  refine x_get xf_Mo_54_Mo (Or.inl hR.1) (v := .ref (rf 18)) rfl d_Mo_addTest_28 ?_
  refine x_iload d_Mo_addTest_31 rfl ?_
  refine x_iload_n d_Mo_addTest_33 rfl ?_
  refine r_iast (i := 18) (us := (S.2.1 18)) ⟨rfl, rfl⟩ (by decide) hR hX rfl (by omega) (by show tnN S < 360; omega) (by omega) d_Mo_addTest_34 ?_
  intro h hR hX
  refine x_aload_n d_Mo_addTest_35 rfl rfl ?_
  refine x_get xf_Mo_57_Mo (Or.inl hR.1) (v := .ref (rf 19)) rfl d_Mo_addTest_36 ?_
  refine x_iload d_Mo_addTest_39 rfl ?_
  refine x_iload_n d_Mo_addTest_41 rfl ?_
  refine r_iast (i := 19) (us := (S.2.1 19)) ⟨rfl, rfl⟩ (by decide) hR hX rfl (by omega) (by show tnN S < 360; omega) (by omega) d_Mo_addTest_42 ?_
  intro h hR hX
  refine x_aload_n d_Mo_addTest_43 rfl rfl ?_
  refine x_get xf_Mo_60_Mo (Or.inl hR.1) (v := .ref (rf 20)) rfl d_Mo_addTest_44 ?_
  refine x_iload d_Mo_addTest_47 rfl ?_
  refine x_bipush (v := zI 64) d_Mo_addTest_49 (by decide) ?_
  refine x_aload_n d_Mo_addTest_51 rfl rfl ?_
  refine x_get xf_Mo_196_Mo (Or.inl hR.1) (v := .int (zI (S.1 28))) rfl d_Mo_addTest_52 ?_
  have hb52 : inR (S.1 28) := hR.2.2.2 28
  refine z_imul d_Mo_addTest_55 ?_
  refine x_aload_n d_Mo_addTest_56 rfl rfl ?_
  refine x_get xf_Mo_78_Mo (Or.inl hR.1) (v := .ref (rf 26)) rfl d_Mo_addTest_57 ?_
  refine x_aload_n d_Mo_addTest_60 rfl rfl ?_
  refine x_get xf_Mo_196_Mo (Or.inl hR.1) (v := .int (zI (S.1 28))) rfl d_Mo_addTest_61 ?_
  have hb61 : inR (S.1 28) := hR.2.2.2 28
  refine r_iald (i := 26) (us := (S.2.1 26)) rfl (by decide) hR rfl (by omega) (by show S.1 28 < 9; omega) d_Mo_addTest_64 (fun hr64 => ?_)
  refine z_iadd d_Mo_addTest_65 ?_
  refine x_iload_n d_Mo_addTest_66 rfl ?_
  refine z_isub d_Mo_addTest_67 ?_
  refine r_iast (i := 20) (us := (S.2.1 20)) ⟨rfl, rfl⟩ (by decide) hR hX rfl (by omega) (by show tnN S < 360; omega) (by omega) d_Mo_addTest_68 ?_
  intro h hR hX
  refine x_aload_n d_Mo_addTest_69 rfl rfl ?_
  refine x_get xf_Mo_63_Mo (Or.inl hR.1) (v := .ref (rf 21)) rfl d_Mo_addTest_70 ?_
  refine x_aload_n d_Mo_addTest_73 rfl rfl ?_
  refine x_get xf_Mo_196_Mo (Or.inl hR.1) (v := .int (zI (S.1 28))) rfl d_Mo_addTest_74 ?_
  have hb74 : inR (S.1 28) := hR.2.2.2 28
  refine x_dup2_11 d_Mo_addTest_77 rfl rfl ?_
  refine r_iald (i := 21) (us := (S.2.1 21)) rfl (by decide) hR rfl (by omega) (by show S.1 28 < 9; omega) d_Mo_addTest_78 (fun hr78 => ?_)
  refine x_iconst (v := zI 1) d_Mo_addTest_79 (by decide) ?_
  refine z_iadd d_Mo_addTest_80 ?_
  refine r_iast (i := 21) (us := (S.2.1 21)) ⟨rfl, rfl⟩ (by decide) hR hX rfl (by omega) (by show S.1 28 < 9; omega) (by omega) d_Mo_addTest_81 ?_
  intro h hR hX
  refine x_aload_n d_Mo_addTest_82 rfl rfl ?_
  refine x_get xf_Mo_88_Mo (Or.inl hR.1) (v := .ref (rf 34)) rfl d_Mo_addTest_83 ?_
  refine x_aload_n d_Mo_addTest_86 rfl rfl ?_
  refine x_get xf_Mo_205_Mo (Or.inl hR.1) (v := .int (zI (S.1 35))) rfl d_Mo_addTest_87 ?_
  have hb87 : inR (S.1 35) := hR.2.2.2 35
  refine x_aload_n d_Mo_addTest_90 rfl rfl ?_
  refine x_iconst (v := zI 0) d_Mo_addTest_91 (by decide) ?_
  refine x_iload d_Mo_addTest_92 rfl ?_
  refine x_iconst (v := zI (-1)) d_Mo_addTest_94 (by decide) ?_
  refine x_callV (As := [_, _, _]) (k := k_MarkerTextModel) rfl xcv_Mo_208_Mo (Or.inl hR.1) (RM.ap hR (r_addNode (by decide) (by omega) (by decide) s3 ⟨p1, hN1⟩)) rfl rfl (Nat.le_of_ble_eq_true rfl) d_Mo_addTest_95 ?_
  rintro v95 h cq nq ⟨S95, hR, hX95, rfl, rfl, rfl, rfl⟩
  replace hX := hX.tr hX95
  refine r_iast (i := 34) (us := (S.2.1 34)) ⟨rfl, rfl⟩ (by decide) hR hX rfl (by omega) (by show S.1 35 < 80; omega) (by show inR (128 * S.1 28 + gd (S.2.1 15) (S.1 28)); omega) d_Mo_addTest_98 ?_
  intro h hR hX
  refine x_aload_n d_Mo_addTest_99 rfl rfl ?_
  refine x_dup d_Mo_addTest_100 rfl ?_
  refine x_get xf_Mo_205_Mo (Or.inl hR.1) (v := .int (zI (S.1 35))) rfl d_Mo_addTest_101 ?_
  have hb101 : inR (S.1 35) := hR.2.2.2 35
  refine x_iconst (v := zI 1) d_Mo_addTest_104 (by decide) ?_
  refine z_iadd d_Mo_addTest_105 ?_
  refine r_put xf_Mo_205_Mo xp_Mo_35 hR hX (by omega) rfl rfl d_Mo_addTest_106 ?_
  intro h hR hX
  refine x_aload_n d_Mo_addTest_109 rfl rfl ?_
  refine x_callV (As := []) (k := k_MarkerTextModel) rfl xcv_Mo_238_Mo (Or.inl hR.1) (RM.ap hR (r_complete (S := tsN S nm op f) (by omega) hS1 (by simp))) rfl rfl (Nat.le_of_ble_eq_true rfl) d_Mo_addTest_110 ?_
  rintro v110 h cq nq ⟨S110, hR, hX110, rfl, rfl, rfl, P', R', w', hS', hr', hc2, hc3, h33, hsm', hag'⟩
  replace hX := hX.tr hX110
  refine x_vret d_Mo_addTest_113 rfl ?_
  exact ⟨_, hR, hX, rfl, rfl, rfl, ⟨P', R', w', hS', by rw [hr']; simp, hc2, hc3⟩, h33, hrs.tr (hsm'.mono (by decide) (by decide) (by decide)), hag.tr hag', by rw [hsm'.2.1 21 (by decide)]; exact ht1⟩
/-- how readList() ends -/
abbrev rlQ (S : MS) (P R : List Int) (w : Int → Int) (a0 : Int) : Option Value → MS → Prop := fun v S' => v = none ∧ rdOk S' P R w ∧ rSm S S' [27, 29] [23, 24, 26] [22] ∧ agO S S' (S.1 28) ∧ S.1 27 ≤ S'.1 27 ∧ (0 ≤ S'.1 29 ∨ (S'.1 29 < 0 ∧ S'.1 27 ≤ S.1 2 ∧ ∃ k U : Int, gd (S'.2.1 26) (S.1 28) = gd (S.2.1 26) (S.1 28) + k ∧ 0 ≤ k ∧ U = sm (fun v => gd (S'.2.1 24) v + 4) (vnN S) k.toNat ∧ 5 * k ≤ U ∧ a0 + 4 + U - k ≤ S'.1 27))
theorem agO_val {S' : MS} {ws : Int} (l24 : (S.2.1 24).length = 576) (l26 : (S.2.1 26).length = 9) {js ls : List Nat} (hK : rSm S S' js [23, 24, 26] ls) (hs : 0 ≤ S.1 28 ∧ S.1 28 ≤ 8) (hV : 0 ≤ gd (S.2.1 26) (S.1 28) ∧ gd (S.2.1 26) (S.1 28) ≤ 40) (e24 : S'.2.1 24 = se (S.2.1 24) (vnN S) ws) (e26 : S'.2.1 26 = se (S.2.1 26) (S.1 28) (gd (S.2.1 26) (S.1 28) + 1)) : agO S S' (S.1 28) := by
  intro c h1 h2
  have hx3 : vnN S = 64 * S.1 28 + gd (S.2.1 26) (S.1 28) := rfl
  refine ⟨fun i hi m _ _ => ?_, fun i hi m _ _ => ?_, fun m h3 h4 => ?_, fun i hi => ?_⟩
  · rw [hK.2.1 i ((by decide : ∀ i ∈ [12, 13, 14], i ∉ [23, 24, 26]) i hi)]
  · rw [hK.2.1 i ((by decide : ∀ i ∈ [17, 18, 19, 20], i ∉ [23, 24, 26]) i hi)]
  · rw [e24, gd_se_of l24 (by omega) (by omega) (by omega), if_neg (by omega)]
  · by_cases h26 : i = 26
    · rw [h26, e26, gd_se_of l26 (by omega) (by omega) (by omega), if_neg h2]
    · rw [hK.2.1 i (fun z => by
        rcases List.mem_cons.mp hi with rfl | hi
        · exact absurd z (by decide)
        rcases List.mem_cons.mp hi with rfl | hi
        · exact absurd z (by decide)
        rcases List.mem_cons.mp hi with rfl | hi
        · exact absurd z (by decide)
        rcases List.mem_cons.mp hi with rfl | hi
        · exact h26 rfl
        · cases hi)]
theorem r_readList (hd : 4 ≤ d) {P R : List Int} {w : Int → Int} {nm a0 : Int} (hn : 0 ≤ nm ∧ nm < 6) (hS : rdOk S P R w) (h27 : S.1 27 ≤ S.1 2) (hw : S.1 29 < 0) (h4 : 4 * gd (S.2.1 26) (S.1 28) ≤ a0) (ha : a0 + 3 ≤ S.1 27) : RM l G d M_Mo_readList [.ref o, .int (zI nm)] o rf S (rlQ S P R w a0) := by
  obtain ⟨d, rfl⟩ : ∃ q, d = q + 1 := ⟨d - 1, by omega⟩
  intro H0 c n hR
  refine XM.of (by decide +kernel) (Nat.le_of_ble_eq_true rfl) ?_
  have hX : xonly H0 H0 RKs := xonly.rf
  obtain ⟨s1, s2, s3, s4, -⟩ := id hS
  obtain ⟨p1, p2, p3, p4, p5, p6, -⟩ := id hS.2.2.2.2.2.2.2.2.1
  have hz : szOk S := s1
  obtain ⟨z1, z2⟩ := id s1
  -- behind the loop
  have ex : ∀ (S1 : MS) (q mo : Int), rdOk S1 P R w → rSm S S1 [27, 29] [23, 24, 26] [22] → agO S S1 (S.1 28) → S.1 27 ≤ S1.1 27 → (0 ≤ S1.1 29 ∨ (S1.1 29 < 0 ∧ S1.1 27 ≤ S.1 2 ∧ ∃ k U : Int, gd (S1.2.1 26) (S.1 28) = gd (S.2.1 26) (S.1 28) + k ∧ 0 ≤ k ∧ U = sm (fun v => gd (S1.2.1 24) v + 4) (vnN S) k.toNat ∧ 5 * k ≤ U ∧ a0 + 4 + U - k ≤ S1.1 27 + 1)) → RX l G M_Mo_readList (d + 1) 110 [some (.ref o), some (.int (zI nm)), some (.int (zI q)), some (.int (zI mo))] [] H0 o rf c n S1 (rlQ S P R w a0) := by
    intro S1 q mo hS1 hsm hag h27' hor h hR hX
    have f2 := hsm.1 2 (by decide)
    rcases hor with hor | ⟨hw1, h1, k, U, g1, g2, g3, g4, g5⟩
    · refine x_aload_n d_Mo_readList_110 rfl rfl ?_
      refine x_get xf_Mo_190_Mo (Or.inl hR.1) (v := .int (zI (S1.1 29))) rfl d_Mo_readList_111 ?_
      have hb111 : inR (S1.1 29) := hR.2.2.2 29
      refine z_if_ge (tgt := 123) d_Mo_readList_114 (by decide) (by omega) (fun _ => ?_) (fun hq => by omega)
      refine x_vret d_Mo_readList_123 rfl ?_
      exact ⟨_, hR, hX, rfl, rfl, rfl, hS1, hsm, hag, h27', Or.inl hor⟩
    · have hz1 : szOk S1 := hS1.1
      have h01 := hS1.2.2.2.1.1
      refine x_aload_n d_Mo_readList_110 rfl rfl ?_
      refine x_get xf_Mo_190_Mo (Or.inl hR.1) (v := .int (zI (S1.1 29))) rfl d_Mo_readList_111 ?_
      have hb111 : inR (S1.1 29) := hR.2.2.2 29
      refine z_if_ge (tgt := 123) d_Mo_readList_114 (by decide) (by omega) (fun hq => by omega) (fun _ => ?_)
      refine x_aload_n d_Mo_readList_117 rfl rfl ?_
      refine x_bipush (v := zI 93) d_Mo_readList_118 (by decide) ?_
      refine x_callV (As := [_]) (k := k_MarkerTextModel) rfl xcv_Mo_232_Mo (Or.inl hR.1) (RM.ap hR (r_expect (by omega) (by decide) (by decide) hz1 ⟨h01, by omega⟩ hw1)) rfl rfl (Nat.le_of_ble_eq_true rfl) d_Mo_readList_120 ?_
      rintro v120 h cq nq ⟨S120, hR, hX120, rfl, rfl, rfl, hsm1, hb1, hor1⟩
      replace hX := hX.tr hX120
      refine x_vret d_Mo_readList_123 rfl ?_
      have hs2 := rd_at hS1 hsm1 (by decide) (by decide) (by omega) (by omega)
      have hag2 : agO S1 S120 (S.1 28) := agO.sm hsm1 (by decide)
      rw [f2] at hb1
      refine ⟨_, hR, hX, rfl, rfl, rfl, hs2, hsm.tr (hsm1.mono (by decide) (by decide) (by decide)), hag.tr hag2, by omega, ?_⟩
      rcases hor1 with ⟨q1, q2⟩ | ⟨q1, q2⟩
      · exact Or.inr ⟨q1, hb1, k, U, by rw [hsm1.2.1 26 (by decide)]; exact g1, g2, by rw [hsm1.2.1 24 (by decide)]; exact g3, g4, by omega⟩
      · exact Or.inl q1
  -- where it is wrong
  have h10 : ∀ (S1 : MS) (q mo : Int), (mo = 0 ∨ mo = 1) → rdOk S1 P R w → rSm S S1 [27, 29] [23, 24, 26] [22] → agO S S1 (S.1 28) → S.1 27 ≤ S1.1 27 → 0 ≤ S1.1 29 → RX l G M_Mo_readList (d + 1) 10 [some (.ref o), some (.int (zI nm)), some (.int (zI q)), some (.int (zI mo))] [] H0 o rf c n S1 (rlQ S P R w a0) := by
    intro S1 q mo hmo hS1 hsm hag h27' hw1 h hR hX
    refine x_iload_n d_Mo_readList_10 rfl ?_
    refine z_if_eq (tgt := 110) d_Mo_readList_11 (by decide) (by omega) (fun hc11 => ?_) (fun hc11 => ?_)
    · exact ex S1 q mo hS1 hsm hag h27' (Or.inl hw1) _ hR hX
    · refine x_aload_n d_Mo_readList_14 rfl rfl ?_
      refine x_get xf_Mo_190_Mo (Or.inl hR.1) (v := .int (zI (S1.1 29))) rfl d_Mo_readList_15 ?_
      have hb15 : inR (S1.1 29) := hR.2.2.2 29
      refine z_if_ge (tgt := 110) d_Mo_readList_18 (by decide) (by omega) (fun _ => ?_) (fun hq => by omega)
      exact ex S1 q mo hS1 hsm hag h27' (Or.inl hw1) _ hR hX
  have bd : ∀ (S1 : MS) (q mo k U : Int), rdOk S1 P R w → rSm S S1 [27, 29] [23, 24, 26] [22] → agO S S1 (S.1 28) → S.1 27 ≤ S1.1 27 → S1.1 29 < 0 → S1.1 27 ≤ S.1 2 → gd (S1.2.1 26) (S.1 28) = gd (S.2.1 26) (S.1 28) + k → 0 ≤ k → U = sm (fun v => gd (S1.2.1 24) v + 4) (vnN S) k.toNat → 5 * k ≤ U → ((mo = 1 ∧ a0 + 4 + U - k ≤ S1.1 27) ∨ (mo = 0 ∧ a0 + 4 + U - k ≤ S1.1 27 + 1)) → 0 ≤ q → q ≤ k → (∀ (S2 : MS) (mo2 U2 : Int), rdOk S2 P R w → rSm S S2 [27, 29] [23, 24, 26] [22] → agO S S2 (S.1 28) → S.1 27 ≤ S2.1 27 → S2.1 29 < 0 → S2.1 27 ≤ S.1 2 → gd (S2.2.1 26) (S.1 28) = gd (S.2.1 26) (S.1 28) + (k + 1) → U2 = sm (fun v => gd (S2.2.1 24) v + 4) (vnN S) (k + 1).toNat → 5 * (k + 1) ≤ U2 → ((mo2 = 1 ∧ a0 + 4 + U2 - (k + 1) ≤ S2.1 27) ∨ (mo2 = 0 ∧ a0 + 4 + U2 - (k + 1) ≤ S2.1 27 + 1)) → S1.1 27 + 3 ≤ S2.1 27 → RX l G M_Mo_readList (d + 1) 10 [some (.ref o), some (.int (zI nm)), some (.int (zI (q + 1))), some (.int (zI mo2))] [] H0 o rf c n S2 (rlQ S P R w a0)) → RX l G M_Mo_readList (d + 1) 10 [some (.ref o), some (.int (zI nm)), some (.int (zI q)), some (.int (zI mo))] [] H0 o rf c n S1 (rlQ S P R w a0) := by
    intro S1 q mo k U hS1 hsm hag h27' hw1 h1 g1 g2 g3 g4 g5 hq0 hqk nx
    have f2 := hsm.1 2 (by decide)
    have f28 := hsm.1 28 (by decide)
    have hz1 : szOk S1 := hS1.1
    have h01 := hS1.2.2.2.1.1
    obtain ⟨v1, v2, v3, v4, v5, v6, v7, v8, v9, v10⟩ := id hS1.2.2.2.2.2.2.2.2.1
    have h16 := hS1.2.2.2.2.2.2.2.2.2.2.1
    -- behind a VALUE
    have j63 : ∀ (S4 : MS) (q4 : Int), rdOk S4 P R w → rSm S S4 [27, 29] [23, 24, 26] [22] → agO S S4 (S.1 28) → S.1 27 ≤ S4.1 27 → (0 ≤ S4.1 29 ∨ (q4 = q + 1 ∧ S4.1 29 < 0 ∧ S4.1 27 ≤ S.1 2 ∧ gd (S4.2.1 26) (S.1 28) = gd (S.2.1 26) (S.1 28) + (k + 1) ∧ ∃ U4 : Int, U4 = sm (fun v => gd (S4.2.1 24) v + 4) (vnN S) (k + 1).toNat ∧ 5 * (k + 1) ≤ U4 ∧ a0 + 4 + U4 - (k + 1) ≤ S4.1 27 + 1 ∧ S1.1 27 + 3 ≤ S4.1 27)) → RX l G M_Mo_readList (d + 1) 63 [some (.ref o), some (.int (zI nm)), some (.int (zI q4)), some (.int (zI mo))] [] H0 o rf c n S4 (rlQ S P R w a0) := by
      intro S4 q4 hS4 hsm4 hag4 h274 hor4 h hR hX
      have f24 := hsm4.1 2 (by decide)
      have h04 := hS4.2.2.2.1
      have fin : ∀ (a z mo4 : Int), S4.1 27 ≤ a → a ≤ z → z ≤ S.1 2 + 1 → (S4.1 29 < 0 → z ≤ S.1 2) → (mo4 = 0 ∨ mo4 = 1) → (mo4 = 1 → S4.1 29 < 0 → S4.1 27 + 1 ≤ z) → RX l G M_Mo_readList (d + 1) 10 [some (.ref o), some (.int (zI nm)), some (.int (zI q4)), some (.int (zI mo4))] [] H0 o rf c n (sp (sp S4 27 a) 27 z) (rlQ S P R w a0) := by
        intro a z mo4 ha1 ha2 hz3 hz4 hmo4 hmo5
        have hsm6 : rSm S4 (sp (sp S4 27 a) 27 z) [27] [] [] := (rSm.r0.sp (by decide)).sp (by decide)
        have hS6 : rdOk (sp (sp S4 27 a) 27 z) P R w := rd_at hS4 hsm6 (by decide) (by decide) (by show S4.1 27 ≤ z; omega) (by show z ≤ S4.1 2 + 1; omega)
        have hag6 : agO S (sp (sp S4 27 a) 27 z) (S.1 28) := hag4.tr (agO.sm hsm6 (by decide))
        have hsm7 := hsm4.tr (hsm6.mono (by decide) (by decide) (by decide))
        rcases hor4 with hor4 | ⟨e1, e2, e3, e4, U4, e5, e6, e7, e8⟩
        · exact h10 _ q4 mo4 hmo4 hS6 hsm7 hag6 (by show S.1 27 ≤ z; omega) hor4
        · subst e1
          exact nx _ mo4 U4 hS6 hsm7 hag6 (by show S.1 27 ≤ z; omega) e2 (hz4 e2) e4 e5 e6 (by
            show (mo4 = 1 ∧ a0 + 4 + U4 - (k + 1) ≤ z) ∨ (mo4 = 0 ∧ a0 + 4 + U4 - (k + 1) ≤ z + 1)
            rcases hmo4 with q | q
            · exact Or.inr ⟨q, by omega⟩
            · have := hmo5 q e2
              exact Or.inl ⟨q, by omega⟩) (by show S1.1 27 + 3 ≤ z; omega)
      refine x_aload_n d_Mo_readList_63 rfl rfl ?_
      refine x_callV (As := []) (k := k_MarkerTextModel) rfl xcv_Mo_225_Mo (Or.inl hR.1) (RM.ap hR (r_skip (by omega) hS4.1)) rfl rfl (Nat.le_of_ble_eq_true rfl) d_Mo_readList_64 ?_
      rintro v64 h cq nq ⟨S64, hR, hX64, rfl, rfl, a64, rfl, rfl, ha64, hb64, hc64⟩
      replace hX := hX.tr hX64
      refine x_aload_n d_Mo_readList_67 rfl rfl ?_
      refine x_callV (As := []) (k := k_MarkerTextModel) rfl xcv_Mo_228_Mo (Or.inl hR.1) (RM.ap hR (r_now (by show 0 ≤ a64; omega) hS4.1)) rfl rfl (Nat.le_of_ble_eq_true rfl) d_Mo_readList_68 ?_
      rintro v68 h cq nq ⟨S68, hR, hX68, rfl, rfl, hE68, r68, rfl, hi68, hr68⟩
      replace hE68 := Eq.symm hE68
      subst hE68
      replace hX := hX.tr hX68
      refine x_bipush (v := zI 44) d_Mo_readList_71 (by decide) ?_
      replace hr68 : (a64 < S4.1 2 ∧ r68 = gd (S4.2.1 1) a64) ∨ (S4.1 2 ≤ a64 ∧ r68 = -1) := hr68
      refine z_icmp_ne (tgt := 80) d_Mo_readList_73 (by decide) (by omega) (by omega) (fun hc73 => ?_) (fun hc73 => ?_)
      · refine x_iconst (v := zI 0) d_Mo_readList_80 (by decide) ?_
        refine x_istore_n (L' := [_, _, _, _]) d_Mo_readList_81 rfl rfl ?_
        refine x_aload_n d_Mo_readList_82 rfl rfl ?_
        refine x_dup d_Mo_readList_83 rfl ?_
        refine x_get xf_Mo_193_Mo (Or.inl hR.1) (v := .int (zI a64)) rfl d_Mo_readList_84 ?_
        have hb84 : inR a64 := hR.2.2.2 27
        refine x_iload_n d_Mo_readList_87 rfl ?_
        refine z_if_eq (tgt := 102) d_Mo_readList_88 (by decide) (by omega) (fun hc88 => ?_) (fun hc88 => ?_)
        · refine x_iconst (v := zI 0) d_Mo_readList_102 (by decide) ?_
          refine z_iadd d_Mo_readList_103 ?_
          refine r_put xf_Mo_193_Mo xp_Mo_27 hR hX (by omega) rfl rfl d_Mo_readList_104 ?_
          intro h hR hX
          refine x_goto (tgt := 10) d_Mo_readList_107 (by decide) ?_
          exact fin a64 _ _ (by omega) (by omega) (by omega) (by omega) (by omega) (by omega) _ hR hX
        · refine x_aload_n d_Mo_readList_91 rfl rfl ?_
          refine x_get xf_Mo_190_Mo (Or.inl hR.1) (v := .int (zI (S4.1 29))) rfl d_Mo_readList_92 ?_
          have hb92 : inR (S4.1 29) := hR.2.2.2 29
          refine z_if_ge (tgt := 102) d_Mo_readList_95 (by decide) (by omega) (fun hc95 => ?_) (fun hc95 => ?_)
          · refine x_iconst (v := zI 0) d_Mo_readList_102 (by decide) ?_
            refine z_iadd d_Mo_readList_103 ?_
            refine r_put xf_Mo_193_Mo xp_Mo_27 hR hX (by omega) rfl rfl d_Mo_readList_104 ?_
            intro h hR hX
            refine x_goto (tgt := 10) d_Mo_readList_107 (by decide) ?_
            exact fin a64 _ _ (by omega) (by omega) (by omega) (by omega) (by omega) (by omega) _ hR hX
          · refine x_iconst (v := zI 1) d_Mo_readList_98 (by decide) ?_
            refine x_goto (tgt := 103) d_Mo_readList_99 (by decide) ?_
            refine z_iadd d_Mo_readList_103 ?_
            refine r_put xf_Mo_193_Mo xp_Mo_27 hR hX (by omega) rfl rfl d_Mo_readList_104 ?_
            intro h hR hX
            refine x_goto (tgt := 10) d_Mo_readList_107 (by decide) ?_
            exact fin a64 _ _ (by omega) (by omega) (by omega) (by omega) (by omega) (by omega) _ hR hX
      · refine x_iconst (v := zI 1) d_Mo_readList_76 (by decide) ?_
        refine x_goto (tgt := 81) d_Mo_readList_77 (by decide) ?_
        refine x_istore_n (L' := [_, _, _, _]) d_Mo_readList_81 rfl rfl ?_
        refine x_aload_n d_Mo_readList_82 rfl rfl ?_
        refine x_dup d_Mo_readList_83 rfl ?_
        refine x_get xf_Mo_193_Mo (Or.inl hR.1) (v := .int (zI a64)) rfl d_Mo_readList_84 ?_
        have hb84 : inR a64 := hR.2.2.2 27
        refine x_iload_n d_Mo_readList_87 rfl ?_
        refine z_if_eq (tgt := 102) d_Mo_readList_88 (by decide) (by omega) (fun hc88 => ?_) (fun hc88 => ?_)
        · refine x_iconst (v := zI 0) d_Mo_readList_102 (by decide) ?_
          refine z_iadd d_Mo_readList_103 ?_
          refine r_put xf_Mo_193_Mo xp_Mo_27 hR hX (by omega) rfl rfl d_Mo_readList_104 ?_
          intro h hR hX
          refine x_goto (tgt := 10) d_Mo_readList_107 (by decide) ?_
          exact fin a64 _ _ (by omega) (by omega) (by omega) (by omega) (by omega) (by omega) _ hR hX
        · refine x_aload_n d_Mo_readList_91 rfl rfl ?_
          refine x_get xf_Mo_190_Mo (Or.inl hR.1) (v := .int (zI (S4.1 29))) rfl d_Mo_readList_92 ?_
          have hb92 : inR (S4.1 29) := hR.2.2.2 29
          refine z_if_ge (tgt := 102) d_Mo_readList_95 (by decide) (by omega) (fun hc95 => ?_) (fun hc95 => ?_)
          · refine x_iconst (v := zI 0) d_Mo_readList_102 (by decide) ?_
            refine z_iadd d_Mo_readList_103 ?_
            refine r_put xf_Mo_193_Mo xp_Mo_27 hR hX (by omega) rfl rfl d_Mo_readList_104 ?_
            intro h hR hX
            refine x_goto (tgt := 10) d_Mo_readList_107 (by decide) ?_
            exact fin a64 _ _ (by omega) (by omega) (by omega) (by omega) (by omega) (by omega) _ hR hX
          · refine x_iconst (v := zI 1) d_Mo_readList_98 (by decide) ?_
            refine x_goto (tgt := 103) d_Mo_readList_99 (by decide) ?_
            refine z_iadd d_Mo_readList_103 ?_
            refine r_put xf_Mo_193_Mo xp_Mo_27 hR hX (by omega) rfl rfl d_Mo_readList_104 ?_
            intro h hR hX
            refine x_goto (tgt := 10) d_Mo_readList_107 (by decide) ?_
            exact fin a64 _ _ (by omega) (by omega) (by omega) (by omega) (by omega) (by omega) _ hR hX
    have jf : ∀ (a a' : Int), S1.1 27 ≤ a → a ≤ S.1 2 → 0 ≤ a' → RX l G M_Mo_readList (d + 1) 63 [some (.ref o), some (.int (zI nm)), some (.int (zI q)), some (.int (zI mo))] [] H0 o rf c n (sp (sp S1 27 a) 29 a') (rlQ S P R w a0) := by
      intro a a' ha1 ha2 ha'
      have hsm6 : rSm S1 (sp (sp S1 27 a) 29 a') [27, 29] [] [] := (rSm.r0.sp (by decide)).sp (by decide)
      exact j63 _ q (rd_at hS1 hsm6 (by decide) (by decide) (by show S1.1 27 ≤ a; omega) (by show a ≤ S1.1 2 + 1; omega)) (hsm.tr (hsm6.mono (by decide) (by decide) (by decide))) (hag.tr (agO.sm hsm6 (by decide))) (by show S.1 27 ≤ a; omega) (Or.inl ha')
    have jv : ∀ (a : Int) (S5 : MS), S1.1 27 ≤ a → a ≤ S.1 2 → (S1.2.1 24).length = 576 → (S1.2.1 26).length = 9 → a0 + 4 + U - k ≤ S1.1 27 → rSm (sp S1 27 a) S5 [27, 29] [23, 24, 26] [22] → a ≤ S5.1 27 → S5.1 27 ≤ S.1 2 → ((0 ≤ S5.1 29 ∧ S5.2.1 24 = S1.2.1 24 ∧ S5.2.1 26 = S1.2.1 26) ∨ (S5.1 29 < 0 ∧ ∃ ws : Int, 1 ≤ ws ∧ ws ≤ 11 ∧ a + ws + 2 ≤ S5.1 27 ∧ S5.2.1 24 = se (S1.2.1 24) (vnN S1) ws ∧ S5.2.1 26 = se (S1.2.1 26) (S1.1 28) (gd (S1.2.1 26) (S1.1 28) + 1))) → RX l G M_Mo_readList (d + 1) 63 [some (.ref o), some (.int (zI nm)), some (.int (zI (q + 1))), some (.int (zI mo))] [] H0 o rf c n S5 (rlQ S P R w a0) := by
      intro a S5 ha1 ha2 l24 l26 hg5 hsm5 hb1 hb2 hor5
      have hsmA : rSm S1 (sp S1 27 a) [27, 29] [23, 24, 26] [22] := rSm.r0.sp (by decide)
      have hsm6 := hsmA.tr hsm5
      have hsm7 := hsm.tr hsm6
      rcases hor5 with ⟨e1, e2, e3⟩ | ⟨e1, ws, e2, e3, e4, e5, e6⟩
      · have hsmB : rSm S1 S5 [27, 29] [23] [22] := ⟨hsm6.1, fun i hi => by
          by_cases h24 : i = 24
          · rw [h24]; exact e2
          by_cases h26 : i = 26
          · rw [h26]; exact e3
          exact hsm6.2.1 i (fun z => by
            rcases List.mem_cons.mp z with rfl | z
            · exact hi (by decide)
            rcases List.mem_cons.mp z with rfl | z
            · exact h24 rfl
            rcases List.mem_cons.mp z with rfl | z
            · exact h26 rfl
            · cases z), hsm6.2.2⟩
        exact j63 _ _ (rd_at hS1 hsmB (by decide) (by decide) (by omega) (by omega)) hsm7 (hag.tr (agO.sm hsmB (by decide))) (by omega) (Or.inl e1)
      · have hV1 : gd (S1.2.1 26) (S1.1 28) = gd (S.2.1 26) (S.1 28) + k := by rw [f28]; exact g1
        obtain ⟨r1, r2, r3, r4⟩ := rd_val hS1 hsm6 (by decide) (by decide) l24 l26 (ws := ws) (by omega) e5 e6 (by omega) (by omega) (by omega)
        have hg : agO S1 S5 (S.1 28) := by
          have := agO_val l24 l26 hsm6 (by omega) (by omega) e5 e6
          rw [f28] at this
          exact this
        have f285 := hsm7.1 28 (by decide)
        rw [f285, hV1] at r2
        have hvn : 64 * S1.1 28 + gd (S1.2.1 26) (S1.1 28) = vnN S + k := by have hx3 : vnN S = 64 * S.1 28 + gd (S.2.1 26) (S.1 28) := rfl; rw [hV1, f28]; omega
        rw [hvn] at r3 r4
        have hk1 : (k + 1).toNat = k.toNat + 1 := by omega
        have hU : sm (fun v => gd (S5.2.1 24) v + 4) (vnN S) (k + 1).toNat = U + (ws + 4) := by
          rw [hk1]
          simp only [sm]
          rw [show vnN S + (k.toNat : Int) = vnN S + k by omega, r4, sm_congr (g := fun v => gd (S1.2.1 24) v + 4) (fun i h5 h6 => by
            show gd (S5.2.1 24) i + 4 = gd (S1.2.1 24) i + 4
            rw [r3 i (by omega) (by omega)]), g3]
        exact j63 _ _ r1 hsm7 (hag.tr hg) (by omega) (Or.inr ⟨rfl, e1, hb2, by omega, _, rfl, by rw [hU]; omega, by rw [hU]; omega, by omega⟩)
    intro h hR hX
    have l24 : _ = 576 := hR.len 24 (by decide)
    have l26 : _ = 9 := hR.len 26 (by decide)
    refine x_iload_n d_Mo_readList_10 rfl ?_
    refine z_if_eq (tgt := 110) d_Mo_readList_11 (by decide) (by omega) (fun hc11 => ?_) (fun hc11 => ?_)
    · exact ex S1 q mo hS1 hsm hag h27' (Or.inr ⟨hw1, h1, k, U, g1, g2, g3, g4, by omega⟩) _ hR hX
    · refine x_aload_n d_Mo_readList_14 rfl rfl ?_
      refine x_get xf_Mo_190_Mo (Or.inl hR.1) (v := .int (zI (S1.1 29))) rfl d_Mo_readList_15 ?_
      have hb15 : inR (S1.1 29) := hR.2.2.2 29
      refine z_if_ge (tgt := 110) d_Mo_readList_18 (by decide) (by omega) (fun hq => by omega) (fun _ => ?_)
      refine x_aload_n d_Mo_readList_21 rfl rfl ?_
      refine x_callV (As := []) (k := k_MarkerTextModel) rfl xcv_Mo_225_Mo (Or.inl hR.1) (RM.ap hR (r_skip (by omega) hz1)) rfl rfl (Nat.le_of_ble_eq_true rfl) d_Mo_readList_22 ?_
      rintro v22 h cq nq ⟨S22, hR, hX22, rfl, rfl, a22, rfl, rfl, ha22, hb22, hc22⟩
      replace hX := hX.tr hX22
      refine x_iload_n d_Mo_readList_25 rfl ?_
      refine x_bipush (v := zI 6) d_Mo_readList_26 (by decide) ?_
      refine z_icmp_ne (tgt := 48) d_Mo_readList_28 (by decide) (by omega) (by omega) (fun hc28 => ?_) (fun hc28 => ?_)
      · try replace ha45 : (S1.1 29 < 0 ∧ a45 = a22) ∨ (0 ≤ S1.1 29 ∧ a45 = S1.1 29) := ha45
        refine x_aload_n d_Mo_readList_48 rfl rfl ?_
        refine x_get xf_Mo_190_Mo (Or.inl hR.1) (v := .int (zI (S1.1 29))) rfl d_Mo_readList_49 ?_
        have hb49 : inR (S1.1 29) := hR.2.2.2 29
        refine z_if_ge (tgt := 63) d_Mo_readList_52 (by decide) (by omega) (fun hc52 => ?_) (fun hc52 => ?_)
        · first | exact jf a22 a45 (by omega) (by omega) (by omega) _ hR hX | exact jv a22 _ (by omega) (by omega) l24 l26 (by omega) hsm57 hl57 (by rw [← f2]; exact hu57) hor57 _ hR hX | omega
        · refine x_aload_n d_Mo_readList_55 rfl rfl ?_
          refine x_iload_n d_Mo_readList_56 rfl ?_
          refine x_callV (As := [_]) (k := k_MarkerTextModel) rfl xcv_Mo_235_Mo (Or.inl hR.1) (RM.ap hR (r_readValue (by omega) hn hz1 (by show 0 ≤ a22 ∧ a22 ≤ S1.1 2; omega) (by first | exact hw1 | (show a45 < 0; omega)) (by show 0 ≤ S1.1 28 ∧ S1.1 28 ≤ 8; omega) (by show 0 ≤ gd (S1.2.1 26) (S1.1 28) ∧ gd (S1.2.1 26) (S1.1 28) ≤ 40; omega))) rfl rfl (Nat.le_of_ble_eq_true rfl) d_Mo_readList_57 ?_
          rintro v57 h cq nq ⟨S57, hR, hX57, rfl, rfl, rfl, hsm57, hl57, hu57, hor57⟩
          replace hX := hX.tr hX57
          refine x_iinc (v := zI (q + 1)) (L' := [_, _, _, _]) d_Mo_readList_60 rfl (zI_add _ _) rfl rfl ?_
          first | exact jf a22 a45 (by omega) (by omega) (by omega) _ hR hX | exact jv a22 _ (by omega) (by omega) l24 l26 (by omega) hsm57 hl57 (by rw [← f2]; exact hu57) hor57 _ hR hX | omega
      · refine x_aload_n d_Mo_readList_31 rfl rfl ?_
        refine x_callV (As := []) (k := k_MarkerTextModel) rfl xcv_Mo_228_Mo (Or.inl hR.1) (RM.ap hR (r_now (by show 0 ≤ a22; omega) hz1)) rfl rfl (Nat.le_of_ble_eq_true rfl) d_Mo_readList_32 ?_
        rintro v32 h cq nq ⟨S32, hR, hX32, rfl, rfl, hE32, r32, rfl, hi32, hr32⟩
        replace hE32 := Eq.symm hE32
        subst hE32
        replace hX := hX.tr hX32
        refine x_bipush (v := zI 39) d_Mo_readList_35 (by decide) ?_
        refine z_icmp_ne (tgt := 48) d_Mo_readList_37 (by decide) (by omega) (by omega) (fun hc37 => ?_) (fun hc37 => ?_)
        · try replace ha45 : (S1.1 29 < 0 ∧ a45 = a22) ∨ (0 ≤ S1.1 29 ∧ a45 = S1.1 29) := ha45
          refine x_aload_n d_Mo_readList_48 rfl rfl ?_
          refine x_get xf_Mo_190_Mo (Or.inl hR.1) (v := .int (zI (S1.1 29))) rfl d_Mo_readList_49 ?_
          have hb49 : inR (S1.1 29) := hR.2.2.2 29
          refine z_if_ge (tgt := 63) d_Mo_readList_52 (by decide) (by omega) (fun hc52 => ?_) (fun hc52 => ?_)
          · first | exact jf a22 a45 (by omega) (by omega) (by omega) _ hR hX | exact jv a22 _ (by omega) (by omega) l24 l26 (by omega) hsm57 hl57 (by rw [← f2]; exact hu57) hor57 _ hR hX | omega
          · refine x_aload_n d_Mo_readList_55 rfl rfl ?_
            refine x_iload_n d_Mo_readList_56 rfl ?_
            refine x_callV (As := [_]) (k := k_MarkerTextModel) rfl xcv_Mo_235_Mo (Or.inl hR.1) (RM.ap hR (r_readValue (by omega) hn hz1 (by show 0 ≤ a22 ∧ a22 ≤ S1.1 2; omega) (by first | exact hw1 | (show a45 < 0; omega)) (by show 0 ≤ S1.1 28 ∧ S1.1 28 ≤ 8; omega) (by show 0 ≤ gd (S1.2.1 26) (S1.1 28) ∧ gd (S1.2.1 26) (S1.1 28) ≤ 40; omega))) rfl rfl (Nat.le_of_ble_eq_true rfl) d_Mo_readList_57 ?_
            rintro v57 h cq nq ⟨S57, hR, hX57, rfl, rfl, rfl, hsm57, hl57, hu57, hor57⟩
            replace hX := hX.tr hX57
            refine x_iinc (v := zI (q + 1)) (L' := [_, _, _, _]) d_Mo_readList_60 rfl (zI_add _ _) rfl rfl ?_
            first | exact jf a22 a45 (by omega) (by omega) (by omega) _ hR hX | exact jv a22 _ (by omega) (by omega) l24 l26 (by omega) hsm57 hl57 (by rw [← f2]; exact hu57) hor57 _ hR hX | omega
        · refine x_aload_n d_Mo_readList_40 rfl rfl ?_
          refine x_aload_n d_Mo_readList_41 rfl rfl ?_
          refine x_get xf_Mo_193_Mo (Or.inl hR.1) (v := .int (zI a22)) rfl d_Mo_readList_42 ?_
          have hb42 : inR a22 := hR.2.2.2 27
          refine x_callV (As := [_]) (k := k_MarkerTextModel) rfl xcv_Mo_218_Mo (Or.inl hR.1) (RM.ap hR (r_fault (by omega))) rfl rfl (Nat.le_of_ble_eq_true rfl) d_Mo_readList_45 ?_
          rintro v45 h cq nq ⟨S45, hR, hX45, rfl, rfl, a45, rfl, rfl, ha45⟩
          replace hX := hX.tr hX45
          try replace ha45 : (S1.1 29 < 0 ∧ a45 = a22) ∨ (0 ≤ S1.1 29 ∧ a45 = S1.1 29) := ha45
          refine x_aload_n d_Mo_readList_48 rfl rfl ?_
          refine x_get xf_Mo_190_Mo (Or.inl hR.1) (v := .int (zI a45)) rfl d_Mo_readList_49 ?_
          have hb49 : inR a45 := hR.2.2.2 29
          refine z_if_ge (tgt := 63) d_Mo_readList_52 (by decide) (by omega) (fun hc52 => ?_) (fun hc52 => ?_)
          · first | exact jf a22 a45 (by omega) (by omega) (by omega) _ hR hX | exact jv a22 _ (by omega) (by omega) l24 l26 (by omega) hsm57 hl57 (by rw [← f2]; exact hu57) hor57 _ hR hX | omega
          · refine x_aload_n d_Mo_readList_55 rfl rfl ?_
            refine x_iload_n d_Mo_readList_56 rfl ?_
            refine x_callV (As := [_]) (k := k_MarkerTextModel) rfl xcv_Mo_235_Mo (Or.inl hR.1) (RM.ap hR (r_readValue (by omega) hn hz1 (by show 0 ≤ a22 ∧ a22 ≤ S1.1 2; omega) (by first | exact hw1 | (show a45 < 0; omega)) (by show 0 ≤ S1.1 28 ∧ S1.1 28 ≤ 8; omega) (by show 0 ≤ gd (S1.2.1 26) (S1.1 28) ∧ gd (S1.2.1 26) (S1.1 28) ≤ 40; omega))) rfl rfl (Nat.le_of_ble_eq_true rfl) d_Mo_readList_57 ?_
            rintro v57 h cq nq ⟨S57, hR, hX57, rfl, rfl, rfl, hsm57, hl57, hu57, hor57⟩
            replace hX := hX.tr hX57
            refine x_iinc (v := zI (q + 1)) (L' := [_, _, _, _]) d_Mo_readList_60 rfl (zI_add _ _) rfl rfl ?_
            first | exact jf a22 a45 (by omega) (by omega) (by omega) _ hR hX | exact jv a22 _ (by omega) (by omega) l24 l26 (by omega) hsm57 hl57 (by rw [← f2]; exact hu57) hor57 _ hR hX | omega
  have lp : ∀ (K : Nat) (S1 : MS) (q mo k U : Int), rdOk S1 P R w → rSm S S1 [27, 29] [23, 24, 26] [22] → agO S S1 (S.1 28) → S.1 27 ≤ S1.1 27 → S1.1 29 < 0 → S1.1 27 ≤ S.1 2 → gd (S1.2.1 26) (S.1 28) = gd (S.2.1 26) (S.1 28) + k → 0 ≤ k → U = sm (fun v => gd (S1.2.1 24) v + 4) (vnN S) k.toNat → 5 * k ≤ U → ((mo = 1 ∧ a0 + 4 + U - k ≤ S1.1 27) ∨ (mo = 0 ∧ a0 + 4 + U - k ≤ S1.1 27 + 1)) → 0 ≤ q → q ≤ k → S.1 2 - S1.1 27 ≤ K → RX l G M_Mo_readList (d + 1) 10 [some (.ref o), some (.int (zI nm)), some (.int (zI q)), some (.int (zI mo))] [] H0 o rf c n S1 (rlQ S P R w a0) := by
    intro K
    induction K with
    | zero =>
      intro S1 q mo k U hS1 hsm hag h27' hw1 h1 g1 g2 g3 g4 g5 hq0 hqk hK
      exact bd S1 q mo k U hS1 hsm hag h27' hw1 h1 g1 g2 g3 g4 g5 hq0 hqk (fun S2 mo2 U2 _ _ _ _ _ y6 _ _ _ _ y11 => by omega)
    | succ K ih =>
      intro S1 q mo k U hS1 hsm hag h27' hw1 h1 g1 g2 g3 g4 g5 hq0 hqk hK
      exact bd S1 q mo k U hS1 hsm hag h27' hw1 h1 g1 g2 g3 g4 g5 hq0 hqk (fun S2 mo2 U2 y1 y2 y3 y4 y5 y6 y7 y8 y9 y10 y11 => ih S2 (q + 1) mo2 (k + 1) U2 y1 y2 y3 y4 y5 y6 y7 (by omega) y8 y9 y10 (by omega) (by omega) (by omega))
  refine x_aload_n d_Mo_readList_0 rfl rfl ?_
  refine x_bipush (v := zI 91) d_Mo_readList_1 (by decide) ?_
  refine x_callV (As := [_]) (k := k_MarkerTextModel) rfl xcv_Mo_232_Mo (Or.inl hR.1) (RM.ap hR (r_expect (by omega) (by decide) (by decide) hz (by omega) hw)) rfl rfl (Nat.le_of_ble_eq_true rfl) d_Mo_readList_3 ?_
  rintro v3 h cq nq ⟨S3, hR, hX3, rfl, rfl, rfl, hsm3, hb3, hor3⟩
  replace hX := hX.tr hX3
  refine x_iconst (v := zI 0) d_Mo_readList_6 (by decide) ?_
  refine x_istore_n (L' := [_, _, _, _]) d_Mo_readList_7 rfl rfl ?_
  refine x_iconst (v := zI 1) d_Mo_readList_8 (by decide) ?_
  refine x_istore_n (L' := [_, _, _, _]) d_Mo_readList_9 rfl rfl ?_
  have hS3 := rd_at hS hsm3 (by decide) (by decide) (by omega) (by omega)
  have hsm4 : rSm S S3 [27, 29] [23, 24, 26] [22] := hsm3.mono (by decide) (by decide) (by decide)
  rcases hor3 with ⟨q1, q2⟩ | ⟨q1, q2⟩
  · exact lp 160 S3 0 1 0 0 hS3 hsm4 (agO.sm hsm3 (by decide)) (by omega) q1 hb3 (by rw [hsm3.2.1 26 (by decide)]; omega) (by omega) rfl (by omega) (by omega) (by omega) (by omega) (by omega) _ hR hX
  · exact h10 S3 0 1 (Or.inr rfl) hS3 hsm4 (agO.sm hsm3 (by decide)) (by omega) q1 _ hR hX
end RF8
