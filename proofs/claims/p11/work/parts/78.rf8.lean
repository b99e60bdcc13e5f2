section
abbrev y_Mo_addTest : MethodName := ⟨"MarkerTextModel", "addTest", "(III)V"⟩
abbrev M_Mo_addTest : XMt := (y_Mo_addTest, prog_13_method_31_code, 5, none)
theorem d_Mo_addTest_0 : decode M_Mo_addTest.2.1 0 = .ok (.bipush 40, 2) := by decide +kernel
theorem d_Mo_addTest_2 : decode M_Mo_addTest.2.1 2 = .ok (.aload_n 0, 1) := by decide +kernel
theorem d_Mo_addTest_3 : decode M_Mo_addTest.2.1 3 = .ok (.getfield 196, 3) := by decide +kernel
theorem d_Mo_addTest_6 : decode M_Mo_addTest.2.1 6 = .ok (.imul, 1) := by decide +kernel
theorem d_Mo_addTest_7 : decode M_Mo_addTest.2.1 7 = .ok (.aload_n 0, 1) := by decide +kernel
theorem d_Mo_addTest_8 : decode M_Mo_addTest.2.1 8 = .ok (.getfield 63, 3) := by decide +kernel
theorem d_Mo_addTest_11 : decode M_Mo_addTest.2.1 11 = .ok (.aload_n 0, 1) := by decide +kernel
theorem d_Mo_addTest_12 : decode M_Mo_addTest.2.1 12 = .ok (.getfield 196, 3) := by decide +kernel
theorem d_Mo_addTest_15 : decode M_Mo_addTest.2.1 15 = .ok (.iaload, 1) := by decide +kernel
theorem d_Mo_addTest_16 : decode M_Mo_addTest.2.1 16 = .ok (.iadd, 1) := by decide +kernel
theorem d_Mo_addTest_17 : decode M_Mo_addTest.2.1 17 = .ok (.istore 4, 2) := by decide +kernel
theorem d_Mo_addTest_19 : decode M_Mo_addTest.2.1 19 = .ok (.aload_n 0, 1) := by decide +kernel
theorem d_Mo_addTest_20 : decode M_Mo_addTest.2.1 20 = .ok (.getfield 51, 3) := by decide +kernel
theorem d_Mo_addTest_23 : decode M_Mo_addTest.2.1 23 = .ok (.iload 4, 2) := by decide +kernel
theorem d_Mo_addTest_25 : decode M_Mo_addTest.2.1 25 = .ok (.iload_n 1, 1) := by decide +kernel
theorem d_Mo_addTest_26 : decode M_Mo_addTest.2.1 26 = .ok (.iastore, 1) := by decide +kernel
theorem d_Mo_addTest_27 : decode M_Mo_addTest.2.1 27 = .ok (.aload_n 0, 1) := by decide +kernel
theorem d_Mo_addTest_28 : decode M_Mo_addTest.2.1 28 = .ok (.getfield 54, 3) := by decide +kernel
theorem d_Mo_addTest_31 : decode M_Mo_addTest.2.1 31 = .ok (.iload 4, 2) := by decide +kernel
theorem d_Mo_addTest_33 : decode M_Mo_addTest.2.1 33 = .ok (.iload_n 2, 1) := by decide +kernel
theorem d_Mo_addTest_34 : decode M_Mo_addTest.2.1 34 = .ok (.iastore, 1) := by decide +kernel
theorem d_Mo_addTest_35 : decode M_Mo_addTest.2.1 35 = .ok (.aload_n 0, 1) := by decide +kernel
theorem d_Mo_addTest_36 : decode M_Mo_addTest.2.1 36 = .ok (.getfield 57, 3) := by decide +kernel
theorem d_Mo_addTest_39 : decode M_Mo_addTest.2.1 39 = .ok (.iload 4, 2) := by decide +kernel
theorem d_Mo_addTest_41 : decode M_Mo_addTest.2.1 41 = .ok (.iload_n 3, 1) := by decide +kernel
theorem d_Mo_addTest_42 : decode M_Mo_addTest.2.1 42 = .ok (.iastore, 1) := by decide +kernel
theorem d_Mo_addTest_43 : decode M_Mo_addTest.2.1 43 = .ok (.aload_n 0, 1) := by decide +kernel
theorem d_Mo_addTest_44 : decode M_Mo_addTest.2.1 44 = .ok (.getfield 60, 3) := by decide +kernel
theorem d_Mo_addTest_47 : decode M_Mo_addTest.2.1 47 = .ok (.iload 4, 2) := by decide +kernel
theorem d_Mo_addTest_49 : decode M_Mo_addTest.2.1 49 = .ok (.bipush 64, 2) := by decide +kernel
theorem d_Mo_addTest_51 : decode M_Mo_addTest.2.1 51 = .ok (.aload_n 0, 1) := by decide +kernel
theorem d_Mo_addTest_52 : decode M_Mo_addTest.2.1 52 = .ok (.getfield 196, 3) := by decide +kernel
theorem d_Mo_addTest_55 : decode M_Mo_addTest.2.1 55 = .ok (.imul, 1) := by decide +kernel
theorem d_Mo_addTest_56 : decode M_Mo_addTest.2.1 56 = .ok (.aload_n 0, 1) := by decide +kernel
theorem d_Mo_addTest_57 : decode M_Mo_addTest.2.1 57 = .ok (.getfield 78, 3) := by decide +kernel
theorem d_Mo_addTest_60 : decode M_Mo_addTest.2.1 60 = .ok (.aload_n 0, 1) := by decide +kernel
theorem d_Mo_addTest_61 : decode M_Mo_addTest.2.1 61 = .ok (.getfield 196, 3) := by decide +kernel
theorem d_Mo_addTest_64 : decode M_Mo_addTest.2.1 64 = .ok (.iaload, 1) := by decide +kernel
theorem d_Mo_addTest_65 : decode M_Mo_addTest.2.1 65 = .ok (.iadd, 1) := by decide +kernel
theorem d_Mo_addTest_66 : decode M_Mo_addTest.2.1 66 = .ok (.iload_n 3, 1) := by decide +kernel
theorem d_Mo_addTest_67 : decode M_Mo_addTest.2.1 67 = .ok (.isub, 1) := by decide +kernel
theorem d_Mo_addTest_68 : decode M_Mo_addTest.2.1 68 = .ok (.iastore, 1) := by decide +kernel
theorem d_Mo_addTest_69 : decode M_Mo_addTest.2.1 69 = .ok (.aload_n 0, 1) := by decide +kernel
theorem d_Mo_addTest_70 : decode M_Mo_addTest.2.1 70 = .ok (.getfield 63, 3) := by decide +kernel
theorem d_Mo_addTest_73 : decode M_Mo_addTest.2.1 73 = .ok (.aload_n 0, 1) := by decide +kernel
theorem d_Mo_addTest_74 : decode M_Mo_addTest.2.1 74 = .ok (.getfield 196, 3) := by decide +kernel
theorem d_Mo_addTest_77 : decode M_Mo_addTest.2.1 77 = .ok (.dup2, 1) := by decide +kernel
theorem d_Mo_addTest_78 : decode M_Mo_addTest.2.1 78 = .ok (.iaload, 1) := by decide +kernel
theorem d_Mo_addTest_79 : decode M_Mo_addTest.2.1 79 = .ok (.iconst 1, 1) := by decide +kernel
theorem d_Mo_addTest_80 : decode M_Mo_addTest.2.1 80 = .ok (.iadd, 1) := by decide +kernel
theorem d_Mo_addTest_81 : decode M_Mo_addTest.2.1 81 = .ok (.iastore, 1) := by decide +kernel
theorem d_Mo_addTest_82 : decode M_Mo_addTest.2.1 82 = .ok (.aload_n 0, 1) := by decide +kernel
theorem d_Mo_addTest_83 : decode M_Mo_addTest.2.1 83 = .ok (.getfield 88, 3) := by decide +kernel
theorem d_Mo_addTest_86 : decode M_Mo_addTest.2.1 86 = .ok (.aload_n 0, 1) := by decide +kernel
theorem d_Mo_addTest_87 : decode M_Mo_addTest.2.1 87 = .ok (.getfield 205, 3) := by decide +kernel
theorem d_Mo_addTest_90 : decode M_Mo_addTest.2.1 90 = .ok (.aload_n 0, 1) := by decide +kernel
theorem d_Mo_addTest_91 : decode M_Mo_addTest.2.1 91 = .ok (.iconst 0, 1) := by decide +kernel
theorem d_Mo_addTest_92 : decode M_Mo_addTest.2.1 92 = .ok (.iload 4, 2) := by decide +kernel
theorem d_Mo_addTest_94 : decode M_Mo_addTest.2.1 94 = .ok (.iconst (-1), 1) := by decide +kernel
theorem d_Mo_addTest_95 : decode M_Mo_addTest.2.1 95 = .ok (.invokevirtual 208, 3) := by decide +kernel
theorem d_Mo_addTest_98 : decode M_Mo_addTest.2.1 98 = .ok (.iastore, 1) := by decide +kernel
theorem d_Mo_addTest_99 : decode M_Mo_addTest.2.1 99 = .ok (.aload_n 0, 1) := by decide +kernel
theorem d_Mo_addTest_100 : decode M_Mo_addTest.2.1 100 = .ok (.dup, 1) := by decide +kernel
theorem d_Mo_addTest_101 : decode M_Mo_addTest.2.1 101 = .ok (.getfield 205, 3) := by decide +kernel
theorem d_Mo_addTest_104 : decode M_Mo_addTest.2.1 104 = .ok (.iconst 1, 1) := by decide +kernel
theorem d_Mo_addTest_105 : decode M_Mo_addTest.2.1 105 = .ok (.iadd, 1) := by decide +kernel
theorem d_Mo_addTest_106 : decode M_Mo_addTest.2.1 106 = .ok (.putfield 205, 3) := by decide +kernel
theorem d_Mo_addTest_109 : decode M_Mo_addTest.2.1 109 = .ok (.aload_n 0, 1) := by decide +kernel
theorem d_Mo_addTest_110 : decode M_Mo_addTest.2.1 110 = .ok (.invokevirtual 238, 3) := by decide +kernel
theorem xw_1458 : (Jvm.Cond.code ({ cls := "MarkerTextModel", name := "complete", desc := "()V" } : Jvm.MethodName) prog_13_method_24_code (1 : Nat) (Option.none : Option Jvm.ClassFile.FieldType)) ∈ xT := xT_at 1458 (by decide +kernel) (by decide +kernel)
theorem xcb_Mo_complete : xcb M_Mo_complete 0 := ⟨xw_1458, xw_8, by decide, by decide, by decide, by decide +kernel⟩
theorem xw_1457 : (Jvm.Cond.instanceMethod ({ cls := "MarkerTextModel", name := "complete", desc := "()V" } : Jvm.MethodName)) ∈ xT := xT_at 1457 (by decide +kernel) (by decide +kernel)
theorem xw_1455 : (Jvm.Cond.methodLink "MarkerTextModel" (238 : Nat) ({ cls := "MarkerTextModel", name := "complete", desc := "()V" } : Jvm.MethodName)) ∈ xT := xT_at 1455 (by decide +kernel) (by decide +kernel)
theorem xsel_Mo_complete : Cond.selects "MarkerTextModel" y_Mo_complete y_Mo_complete ∈ xT := xT_sel (q := (y_Mo_complete, 52)) (by decide +kernel) (by decide +kernel)
theorem xcv_Mo_238_Mo : xCV "MarkerTextModel" 238 "MarkerTextModel" M_Mo_complete 0 := ⟨xcb_Mo_complete, xw_1457, Or.inl ⟨xw_1455, Or.inl xsel_Mo_complete⟩⟩
theorem d_Mo_addTest_113 : decode M_Mo_addTest.2.1 113 = .ok (.return_, 1) := by decide +kernel
abbrev y_Mo_readList : MethodName := ⟨"MarkerTextModel", "readList", "(I)V"⟩
abbrev M_Mo_readList : XMt := (y_Mo_readList, prog_13_method_30_code, 4, none)
theorem d_Mo_readList_110 : decode M_Mo_readList.2.1 110 = .ok (.aload_n 0, 1) := by decide +kernel
theorem d_Mo_readList_111 : decode M_Mo_readList.2.1 111 = .ok (.getfield 190, 3) := by decide +kernel
theorem d_Mo_readList_114 : decode M_Mo_readList.2.1 114 = .ok (.ifCond .ge 9, 3) := by decide +kernel
theorem d_Mo_readList_123 : decode M_Mo_readList.2.1 123 = .ok (.return_, 1) := by decide +kernel
theorem d_Mo_readList_117 : decode M_Mo_readList.2.1 117 = .ok (.aload_n 0, 1) := by decide +kernel
theorem d_Mo_readList_118 : decode M_Mo_readList.2.1 118 = .ok (.bipush 93, 2) := by decide +kernel
theorem d_Mo_readList_120 : decode M_Mo_readList.2.1 120 = .ok (.invokevirtual 232, 3) := by decide +kernel
theorem xw_1438 : (Jvm.Cond.code ({ cls := "MarkerTextModel", name := "expect", desc := "(I)V" } : Jvm.MethodName) prog_13_method_28_code (2 : Nat) (Option.none : Option Jvm.ClassFile.FieldType)) ∈ xT := xT_at 1438 (by decide +kernel) (by decide +kernel)
theorem xcb_Mo_expect : xcb M_Mo_expect 1 := ⟨xw_1438, xw_8, by decide, by decide, by decide, by decide +kernel⟩
theorem xw_1437 : (Jvm.Cond.instanceMethod ({ cls := "MarkerTextModel", name := "expect", desc := "(I)V" } : Jvm.MethodName)) ∈ xT := xT_at 1437 (by decide +kernel) (by decide +kernel)
theorem xw_1435 : (Jvm.Cond.methodLink "MarkerTextModel" (232 : Nat) ({ cls := "MarkerTextModel", name := "expect", desc := "(I)V" } : Jvm.MethodName)) ∈ xT := xT_at 1435 (by decide +kernel) (by decide +kernel)
theorem xsel_Mo_expect : Cond.selects "MarkerTextModel" y_Mo_expect y_Mo_expect ∈ xT := xT_sel (q := (y_Mo_expect, 52)) (by decide +kernel) (by decide +kernel)
theorem xcv_Mo_232_Mo : xCV "MarkerTextModel" 232 "MarkerTextModel" M_Mo_expect 1 := ⟨xcb_Mo_expect, xw_1437, Or.inl ⟨xw_1435, Or.inl xsel_Mo_expect⟩⟩
theorem d_Mo_readList_10 : decode M_Mo_readList.2.1 10 = .ok (.iload_n 3, 1) := by decide +kernel
theorem d_Mo_readList_11 : decode M_Mo_readList.2.1 11 = .ok (.ifCond .eq 99, 3) := by decide +kernel
theorem d_Mo_readList_14 : decode M_Mo_readList.2.1 14 = .ok (.aload_n 0, 1) := by decide +kernel
theorem d_Mo_readList_15 : decode M_Mo_readList.2.1 15 = .ok (.getfield 190, 3) := by decide +kernel
theorem d_Mo_readList_18 : decode M_Mo_readList.2.1 18 = .ok (.ifCond .ge 92, 3) := by decide +kernel
theorem d_Mo_readList_63 : decode M_Mo_readList.2.1 63 = .ok (.aload_n 0, 1) := by decide +kernel
theorem d_Mo_readList_64 : decode M_Mo_readList.2.1 64 = .ok (.invokevirtual 225, 3) := by decide +kernel
theorem d_Mo_readList_67 : decode M_Mo_readList.2.1 67 = .ok (.aload_n 0, 1) := by decide +kernel
theorem d_Mo_readList_68 : decode M_Mo_readList.2.1 68 = .ok (.invokevirtual 228, 3) := by decide +kernel
theorem d_Mo_readList_71 : decode M_Mo_readList.2.1 71 = .ok (.bipush 44, 2) := by decide +kernel
theorem d_Mo_readList_73 : decode M_Mo_readList.2.1 73 = .ok (.if_icmp .ne 7, 3) := by decide +kernel
theorem d_Mo_readList_80 : decode M_Mo_readList.2.1 80 = .ok (.iconst 0, 1) := by decide +kernel
theorem d_Mo_readList_81 : decode M_Mo_readList.2.1 81 = .ok (.istore_n 3, 1) := by decide +kernel
theorem d_Mo_readList_82 : decode M_Mo_readList.2.1 82 = .ok (.aload_n 0, 1) := by decide +kernel
theorem d_Mo_readList_83 : decode M_Mo_readList.2.1 83 = .ok (.dup, 1) := by decide +kernel
theorem d_Mo_readList_84 : decode M_Mo_readList.2.1 84 = .ok (.getfield 193, 3) := by decide +kernel
theorem d_Mo_readList_87 : decode M_Mo_readList.2.1 87 = .ok (.iload_n 3, 1) := by decide +kernel
theorem d_Mo_readList_88 : decode M_Mo_readList.2.1 88 = .ok (.ifCond .eq 14, 3) := by decide +kernel
theorem d_Mo_readList_102 : decode M_Mo_readList.2.1 102 = .ok (.iconst 0, 1) := by decide +kernel
theorem d_Mo_readList_103 : decode M_Mo_readList.2.1 103 = .ok (.iadd, 1) := by decide +kernel
theorem d_Mo_readList_104 : decode M_Mo_readList.2.1 104 = .ok (.putfield 193, 3) := by decide +kernel
theorem d_Mo_readList_107 : decode M_Mo_readList.2.1 107 = .ok (.goto (-97), 3) := by decide +kernel
theorem d_Mo_readList_91 : decode M_Mo_readList.2.1 91 = .ok (.aload_n 0, 1) := by decide +kernel
theorem d_Mo_readList_92 : decode M_Mo_readList.2.1 92 = .ok (.getfield 190, 3) := by decide +kernel
theorem d_Mo_readList_95 : decode M_Mo_readList.2.1 95 = .ok (.ifCond .ge 7, 3) := by decide +kernel
theorem d_Mo_readList_98 : decode M_Mo_readList.2.1 98 = .ok (.iconst 1, 1) := by decide +kernel
theorem d_Mo_readList_99 : decode M_Mo_readList.2.1 99 = .ok (.goto 4, 3) := by decide +kernel
theorem d_Mo_readList_76 : decode M_Mo_readList.2.1 76 = .ok (.iconst 1, 1) := by decide +kernel
theorem d_Mo_readList_77 : decode M_Mo_readList.2.1 77 = .ok (.goto 4, 3) := by decide +kernel
theorem d_Mo_readList_21 : decode M_Mo_readList.2.1 21 = .ok (.aload_n 0, 1) := by decide +kernel
theorem d_Mo_readList_22 : decode M_Mo_readList.2.1 22 = .ok (.invokevirtual 225, 3) := by decide +kernel
theorem d_Mo_readList_25 : decode M_Mo_readList.2.1 25 = .ok (.iload_n 2, 1) := by decide +kernel
theorem d_Mo_readList_26 : decode M_Mo_readList.2.1 26 = .ok (.bipush 6, 2) := by decide +kernel
theorem d_Mo_readList_28 : decode M_Mo_readList.2.1 28 = .ok (.if_icmp .ne 20, 3) := by decide +kernel
theorem d_Mo_readList_48 : decode M_Mo_readList.2.1 48 = .ok (.aload_n 0, 1) := by decide +kernel
theorem d_Mo_readList_49 : decode M_Mo_readList.2.1 49 = .ok (.getfield 190, 3) := by decide +kernel
theorem d_Mo_readList_52 : decode M_Mo_readList.2.1 52 = .ok (.ifCond .ge 11, 3) := by decide +kernel
theorem d_Mo_readList_55 : decode M_Mo_readList.2.1 55 = .ok (.aload_n 0, 1) := by decide +kernel
theorem d_Mo_readList_56 : decode M_Mo_readList.2.1 56 = .ok (.iload_n 1, 1) := by decide +kernel
theorem d_Mo_readList_57 : decode M_Mo_readList.2.1 57 = .ok (.invokevirtual 235, 3) := by decide +kernel
theorem xw_1442 : (Jvm.Cond.code ({ cls := "MarkerTextModel", name := "readValue", desc := "(I)V" } : Jvm.MethodName) prog_13_method_27_code (6 : Nat) (Option.none : Option Jvm.ClassFile.FieldType)) ∈ xT := xT_at 1442 (by decide +kernel) (by decide +kernel)
theorem xcb_Mo_readValue : xcb M_Mo_readValue 1 := ⟨xw_1442, xw_8, by decide, by decide, by decide, by decide +kernel⟩
theorem xw_1441 : (Jvm.Cond.instanceMethod ({ cls := "MarkerTextModel", name := "readValue", desc := "(I)V" } : Jvm.MethodName)) ∈ xT := xT_at 1441 (by decide +kernel) (by decide +kernel)
theorem xw_1439 : (Jvm.Cond.methodLink "MarkerTextModel" (235 : Nat) ({ cls := "MarkerTextModel", name := "readValue", desc := "(I)V" } : Jvm.MethodName)) ∈ xT := xT_at 1439 (by decide +kernel) (by decide +kernel)
theorem xsel_Mo_readValue : Cond.selects "MarkerTextModel" y_Mo_readValue y_Mo_readValue ∈ xT := xT_sel (q := (y_Mo_readValue, 52)) (by decide +kernel) (by decide +kernel)
theorem xcv_Mo_235_Mo : xCV "MarkerTextModel" 235 "MarkerTextModel" M_Mo_readValue 1 := ⟨xcb_Mo_readValue, xw_1441, Or.inl ⟨xw_1439, Or.inl xsel_Mo_readValue⟩⟩
theorem d_Mo_readList_60 : decode M_Mo_readList.2.1 60 = .ok (.iinc 2 1, 3) := by decide +kernel
theorem d_Mo_readList_31 : decode M_Mo_readList.2.1 31 = .ok (.aload_n 0, 1) := by decide +kernel
theorem d_Mo_readList_32 : decode M_Mo_readList.2.1 32 = .ok (.invokevirtual 228, 3) := by decide +kernel
theorem d_Mo_readList_35 : decode M_Mo_readList.2.1 35 = .ok (.bipush 39, 2) := by decide +kernel
theorem d_Mo_readList_37 : decode M_Mo_readList.2.1 37 = .ok (.if_icmp .ne 11, 3) := by decide +kernel
theorem d_Mo_readList_40 : decode M_Mo_readList.2.1 40 = .ok (.aload_n 0, 1) := by decide +kernel
theorem d_Mo_readList_41 : decode M_Mo_readList.2.1 41 = .ok (.aload_n 0, 1) := by decide +kernel
theorem d_Mo_readList_42 : decode M_Mo_readList.2.1 42 = .ok (.getfield 193, 3) := by decide +kernel
theorem d_Mo_readList_45 : decode M_Mo_readList.2.1 45 = .ok (.invokevirtual 218, 3) := by decide +kernel
theorem d_Mo_readList_0 : decode M_Mo_readList.2.1 0 = .ok (.aload_n 0, 1) := by decide +kernel
theorem d_Mo_readList_1 : decode M_Mo_readList.2.1 1 = .ok (.bipush 91, 2) := by decide +kernel
theorem d_Mo_readList_3 : decode M_Mo_readList.2.1 3 = .ok (.invokevirtual 232, 3) := by decide +kernel
theorem d_Mo_readList_6 : decode M_Mo_readList.2.1 6 = .ok (.iconst 0, 1) := by decide +kernel
theorem d_Mo_readList_7 : decode M_Mo_readList.2.1 7 = .ok (.istore_n 2, 1) := by decide +kernel
theorem d_Mo_readList_8 : decode M_Mo_readList.2.1 8 = .ok (.iconst 1, 1) := by decide +kernel
theorem d_Mo_readList_9 : decode M_Mo_readList.2.1 9 = .ok (.istore_n 3, 1) := by decide +kernel
end
section RF8
variable {l : Launch} {G : XG} {h : XH} {c n d : Nat} {o : Nat} {rf : Nat → Nat} {S : MS}
/-- the next test's number -/
abbrev tnN (S : MS) : Int := 40 * S.1 28 + gd (S.2.1 21) (S.1 28)
/-- the next VALUE's number -/
abbrev vnN (S : MS) : Int := 64 * S.1 28 + gd (S.2.1 26) (S.1 28)
abbrev ts5 (S : MS) (nm op f : Int) : MS := sa (sa (sa (sa (sa S 17 (se (S.2.1 17) (tnN S) nm)) 18 (se (S.2.1 18) (tnN S) op)) 19 (se (S.2.1 19) (tnN S) f)) 20 (se (S.2.1 20) (tnN S) (vnN S - f))) 21 (se (S.2.1 21) (S.1 28) (gd (S.2.1 21) (S.1 28) + 1))
abbrev tsN (S : MS) (nm op f : Int) : MS := sp (sa (adN (ts5 S nm op f) 0 (tnN S) (-1)) 34 (se (S.2.1 34) (S.1 35) (nxN S))) 35 (S.1 35 + 1)
/-- how broad it is -/
abbrev tsU (S : MS) (op f : Int) : Int := if 6 < op then 5 else (if op = 6 then 14 else 12) + sm (fun v => gd (S.2.1 24) v + 4) f (vnN S - f).toNat
theorem agO_val {S' : MS} {ws : Int} (l24 : (S.2.1 24).length = 576) (l26 : (S.2.1 26).length = 9) {js ls : List Nat} (hK : rSm S S' js [23, 24, 26] ls) (hs : 0 ≤ S.1 28 ∧ S.1 28 ≤ 8) (hV : 0 ≤ gd (S.2.1 26) (S.1 28) ∧ gd (S.2.1 26) (S.1 28) ≤ 40) (e24 : S'.2.1 24 = se (S.2.1 24) (vnN S) ws) (e26 : S'.2.1 26 = se (S.2.1 26) (S.1 28) (gd (S.2.1 26) (S.1 28) + 1)) : agO S S' (S.1 28) := by
  intro c h1 h2
  have hx3 : vnN S = 64 * S.1 28 + gd (S.2.1 26) (S.1 28) := rfl
  refine ⟨fun i hi m _ _ => ?_, fun i hi m _ _ => ?_, fun m h3 h4 => ?_, fun i hi => ?_⟩
  · rw [hK.2.1 i ((by decide : ∀ i ∈ [12, 13, 14], i ∉ [23, 24, 26]) i hi)]
  · rw [hK.2.1 i ((by decide : ∀ i ∈ [17, 18, 19, 20], i ∉ [23, 24, 26]) i hi)]
  · rw [e24, gd_se_of l24 (by omega) (by omega) (by omega), if_neg (by omega)]
  · by_cases h26 : i = 26
    · rw [h26, e26, gd_se_of l26 (by omega) (by omega) (by omega), if_neg h2]
    · rw [hK.2.1 i (fun z => by
        rcases List.mem_cons.mp hi with rfl | hi
        · exact absurd z (by decide)
        rcases List.mem_cons.mp hi with rfl | hi
        · exact absurd z (by decide)
        rcases List.mem_cons.mp hi with rfl | hi
        · exact absurd z (by decide)
        rcases List.mem_cons.mp hi with rfl | hi
        · exact h26 rfl
        · cases hi)]
end RF8
