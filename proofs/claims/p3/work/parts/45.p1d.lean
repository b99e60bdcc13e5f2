section
abbrev y_Reader_init : MethodName := ⟨"MarkerText$Reader", "<init>", "(Ljava/lang/String;[LMarkerText$Name;)V"⟩
abbrev M_Reader_init : XMt := (y_Reader_init, prog_10_method_1_code, 3, none)
theorem d_Reader_init_0 : decode M_Reader_init.2.1 0 = .ok (.aload_n 0, 1) := by decide +kernel
theorem d_Reader_init_1 : decode M_Reader_init.2.1 1 = .ok (.invokespecial 3, 3) := by decide +kernel
theorem xw_828 : (Jvm.Cond.methodLink "MarkerText$Reader" (3 : Nat) ({ cls := "java/lang/Object", name := "<init>", desc := "()V" } : Jvm.MethodName)) ∈ xT := xT_at 828 (by decide +kernel) (by decide +kernel)
theorem d_Reader_init_4 : decode M_Reader_init.2.1 4 = .ok (.aload_n 0, 1) := by decide +kernel
theorem d_Reader_init_5 : decode M_Reader_init.2.1 5 = .ok (.new 9, 3) := by decide +kernel
theorem xw_829 : (Jvm.Cond.classLink "MarkerText$Reader" (9 : Nat) "java/util/ArrayList") ∈ xT := xT_at 829 (by decide +kernel) (by decide +kernel)
theorem xw_830 : (Jvm.Cond.instantiable "java/util/ArrayList" (3 : Nat)) ∈ xT := xT_at 830 (by decide +kernel) (by decide +kernel)
theorem xnw_Reader_9 : xNw "MarkerText$Reader" 9 k_ArrayList 3 [.null, .int 0, .int 0] := ⟨_, _, _, rfl, rfl, by decide +kernel, xw_829, xw_830, xw_26⟩
theorem d_Reader_init_8 : decode M_Reader_init.2.1 8 = .ok (.dup, 1) := by decide +kernel
theorem d_Reader_init_9 : decode M_Reader_init.2.1 9 = .ok (.invokespecial 11, 3) := by decide +kernel
theorem xw_833 : (Jvm.Cond.code ({ cls := "java/util/ArrayList", name := "<init>", desc := "()V" } : Jvm.MethodName) prog_33_method_2_code (1 : Nat) (Option.none : Option Jvm.ClassFile.FieldType)) ∈ xT := xT_at 833 (by decide +kernel) (by decide +kernel)
theorem xcb_AL_init : xcb M_AL_init 0 := ⟨xw_833, xw_26, by decide, by decide, by decide, by decide +kernel⟩
theorem xw_831 : (Jvm.Cond.methodLink "MarkerText$Reader" (11 : Nat) ({ cls := "java/util/ArrayList", name := "<init>", desc := "()V" } : Jvm.MethodName)) ∈ xT := xT_at 831 (by decide +kernel) (by decide +kernel)
theorem xw_832 : (Jvm.Cond.instanceMethod ({ cls := "java/util/ArrayList", name := "<init>", desc := "()V" } : Jvm.MethodName)) ∈ xT := xT_at 832 (by decide +kernel) (by decide +kernel)
theorem xci_Reader_11 : xCI "MarkerText$Reader" 11 M_AL_init 0 := ⟨xcb_AL_init, rfl, rfl, xw_832, Or.inl xw_831⟩
theorem d_Reader_init_12 : decode M_Reader_init.2.1 12 = .ok (.putfield 12, 3) := by decide +kernel
theorem xp_Reader_2 : xP k_Reader 2 true (.object "java/util/ArrayList") := ⟨_, _, _, rfl, rfl, by decide +kernel⟩
theorem d_Reader_init_15 : decode M_Reader_init.2.1 15 = .ok (.aload_n 0, 1) := by decide +kernel
theorem d_Reader_init_16 : decode M_Reader_init.2.1 16 = .ok (.new 18, 3) := by decide +kernel
theorem xw_855 : (Jvm.Cond.classLink "MarkerText$Reader" (18 : Nat) "java/lang/StringBuilder") ∈ xT := xT_at 855 (by decide +kernel) (by decide +kernel)
theorem xnw_Reader_18 : xNw "MarkerText$Reader" 18 k_StringBuilder 4 [.null, .int 0, .int 0, .int 0] := ⟨_, _, _, rfl, rfl, by decide +kernel, xw_855, xw_43, xw_3⟩
theorem d_Reader_init_19 : decode M_Reader_init.2.1 19 = .ok (.dup, 1) := by decide +kernel
theorem d_Reader_init_20 : decode M_Reader_init.2.1 20 = .ok (.invokespecial 20, 3) := by decide +kernel
theorem xw_856 : (Jvm.Cond.methodLink "MarkerText$Reader" (20 : Nat) ({ cls := "java/lang/StringBuilder", name := "<init>", desc := "()V" } : Jvm.MethodName)) ∈ xT := xT_at 856 (by decide +kernel) (by decide +kernel)
theorem xci_Reader_20 : xCI "MarkerText$Reader" 20 M_SB_init 0 := ⟨xcb_SB_init, rfl, rfl, xw_45, Or.inl xw_856⟩
theorem d_Reader_init_23 : decode M_Reader_init.2.1 23 = .ok (.putfield 21, 3) := by decide +kernel
theorem xp_Reader_3 : xP k_Reader 3 true (.object "java/lang/StringBuilder") := ⟨_, _, _, rfl, rfl, by decide +kernel⟩
theorem d_Reader_init_26 : decode M_Reader_init.2.1 26 = .ok (.aload_n 0, 1) := by decide +kernel
theorem d_Reader_init_27 : decode M_Reader_init.2.1 27 = .ok (.iconst 0, 1) := by decide +kernel
theorem d_Reader_init_28 : decode M_Reader_init.2.1 28 = .ok (.putfield 25, 3) := by decide +kernel
theorem d_Reader_init_31 : decode M_Reader_init.2.1 31 = .ok (.aload_n 0, 1) := by decide +kernel
theorem d_Reader_init_32 : decode M_Reader_init.2.1 32 = .ok (.iconst 0, 1) := by decide +kernel
theorem d_Reader_init_33 : decode M_Reader_init.2.1 33 = .ok (.putfield 29, 3) := by decide +kernel
theorem d_Reader_init_36 : decode M_Reader_init.2.1 36 = .ok (.aload_n 0, 1) := by decide +kernel
theorem d_Reader_init_37 : decode M_Reader_init.2.1 37 = .ok (.iconst 0, 1) := by decide +kernel
theorem d_Reader_init_38 : decode M_Reader_init.2.1 38 = .ok (.putfield 32, 3) := by decide +kernel
theorem xw_864 : (Jvm.Cond.fieldLink "MarkerText$Reader" (32 : Nat) "MarkerText$Reader" "testCount" "I") ∈ xT := xT_at 864 (by decide +kernel) (by decide +kernel)
theorem xf_Reader_32_Reader : xF "MarkerText$Reader" 32 k_Reader 6 := ⟨_, _, _, "MarkerText$Reader", rfl, by decide, Or.inl xw_864, Or.inl rfl⟩
theorem xp_Reader_6 : xP k_Reader 6 false .int := ⟨_, _, _, rfl, rfl, by decide +kernel⟩
theorem d_Reader_init_41 : decode M_Reader_init.2.1 41 = .ok (.aload_n 0, 1) := by decide +kernel
theorem d_Reader_init_42 : decode M_Reader_init.2.1 42 = .ok (.aload_n 1, 1) := by decide +kernel
theorem d_Reader_init_43 : decode M_Reader_init.2.1 43 = .ok (.putfield 35, 3) := by decide +kernel
theorem xp_Reader_0 : xP k_Reader 0 true (.object "java/lang/String") := ⟨_, _, _, rfl, rfl, by decide +kernel⟩
theorem d_Reader_init_46 : decode M_Reader_init.2.1 46 = .ok (.aload_n 0, 1) := by decide +kernel
theorem d_Reader_init_47 : decode M_Reader_init.2.1 47 = .ok (.aload_n 2, 1) := by decide +kernel
theorem d_Reader_init_48 : decode M_Reader_init.2.1 48 = .ok (.putfield 39, 3) := by decide +kernel
theorem xp_Reader_1 : xP k_Reader 1 true (.array (.object "MarkerText$Name")) := ⟨_, _, _, rfl, rfl, by decide +kernel⟩
theorem d_Reader_init_51 : decode M_Reader_init.2.1 51 = .ok (.return_, 1) := by decide +kernel
theorem d_Reader_readTest_0 : decode M_Reader_readTest.2.1 0 = .ok (.aload_n 0, 1) := by decide +kernel
theorem d_Reader_readTest_1 : decode M_Reader_readTest.2.1 1 = .ok (.invokevirtual 49, 3) := by decide +kernel
theorem d_Reader_readTest_4 : decode M_Reader_readTest.2.1 4 = .ok (.aload_n 0, 1) := by decide +kernel
theorem d_Reader_readTest_5 : decode M_Reader_readTest.2.1 5 = .ok (.invokevirtual 92, 3) := by decide +kernel
theorem d_Reader_readTest_8 : decode M_Reader_readTest.2.1 8 = .ok (.astore_n 1, 1) := by decide +kernel
theorem d_Reader_readTest_9 : decode M_Reader_readTest.2.1 9 = .ok (.aload_n 1, 1) := by decide +kernel
theorem d_Reader_readTest_10 : decode M_Reader_readTest.2.1 10 = .ok (.ldc 95, 2) := by decide +kernel
theorem d_Reader_readTest_12 : decode M_Reader_readTest.2.1 12 = .ok (.invokevirtual 97, 3) := by decide +kernel
theorem d_Reader_readTest_15 : decode M_Reader_readTest.2.1 15 = .ok (.istore_n 2, 1) := by decide +kernel
theorem d_Reader_readTest_16 : decode M_Reader_readTest.2.1 16 = .ok (.iload_n 2, 1) := by decide +kernel
theorem d_Reader_readTest_17 : decode M_Reader_readTest.2.1 17 = .ok (.ifCond .ne 12, 3) := by decide +kernel
theorem d_Reader_readTest_20 : decode M_Reader_readTest.2.1 20 = .ok (.aload_n 0, 1) := by decide +kernel
theorem d_Reader_readTest_21 : decode M_Reader_readTest.2.1 21 = .ok (.invokevirtual 101, 3) := by decide +kernel
theorem d_Reader_readTest_24 : decode M_Reader_readTest.2.1 24 = .ok (.bipush 40, 2) := by decide +kernel
theorem d_Reader_readTest_26 : decode M_Reader_readTest.2.1 26 = .ok (.if_icmp .ne 22, 3) := by decide +kernel
theorem d_Reader_readTest_48 : decode M_Reader_readTest.2.1 48 = .ok (.aload_n 1, 1) := by decide +kernel
theorem d_Reader_readTest_49 : decode M_Reader_readTest.2.1 49 = .ok (.ldc 109, 2) := by decide +kernel
theorem d_Reader_readTest_51 : decode M_Reader_readTest.2.1 51 = .ok (.invokevirtual 97, 3) := by decide +kernel
theorem d_Reader_readTest_54 : decode M_Reader_readTest.2.1 54 = .ok (.ifCond .ne 12, 3) := by decide +kernel
theorem d_Reader_readTest_57 : decode M_Reader_readTest.2.1 57 = .ok (.aload_n 1, 1) := by decide +kernel
theorem d_Reader_readTest_58 : decode M_Reader_readTest.2.1 58 = .ok (.ldc 111, 2) := by decide +kernel
theorem d_Reader_readTest_60 : decode M_Reader_readTest.2.1 60 = .ok (.invokevirtual 97, 3) := by decide +kernel
theorem d_Reader_readTest_63 : decode M_Reader_readTest.2.1 63 = .ok (.ifCond .eq 7, 3) := by decide +kernel
theorem d_Reader_readTest_70 : decode M_Reader_readTest.2.1 70 = .ok (.iconst 0, 1) := by decide +kernel
theorem d_Reader_readTest_71 : decode M_Reader_readTest.2.1 71 = .ok (.istore_n 3, 1) := by decide +kernel
theorem d_Reader_readTest_72 : decode M_Reader_readTest.2.1 72 = .ok (.aload_n 0, 1) := by decide +kernel
theorem d_Reader_readTest_73 : decode M_Reader_readTest.2.1 73 = .ok (.getfield 39, 3) := by decide +kernel
theorem d_Reader_readTest_76 : decode M_Reader_readTest.2.1 76 = .ok (.aload_n 1, 1) := by decide +kernel
theorem d_Reader_readTest_77 : decode M_Reader_readTest.2.1 77 = .ok (.invokestatic 113, 3) := by decide +kernel
theorem xw_693 : (Jvm.Cond.code ({ cls := "MarkerText", name := "numberOf", desc := "([LMarkerText$Name;Ljava/lang/String;)I" } : Jvm.MethodName) prog_1_method_24_code (3 : Nat) (Option.some Jvm.ClassFile.FieldType.int)) ∈ xT := xT_at 693 (by decide +kernel) (by decide +kernel)
theorem xcb_MT_numberOf : xcb M_MT_numberOf 2 := ⟨xw_693, xw_1, by decide, by decide, by decide, by decide +kernel⟩
theorem xw_962 : (Jvm.Cond.methodLinkNest "MarkerText$Reader" (113 : Nat) ({ cls := "MarkerText", name := "numberOf", desc := "([LMarkerText$Name;Ljava/lang/String;)I" } : Jvm.MethodName) "MarkerText") ∈ xT := xT_at 962 (by decide +kernel) (by decide +kernel)
theorem xw_692 : (Jvm.Cond.static ({ cls := "MarkerText", name := "numberOf", desc := "([LMarkerText$Name;Ljava/lang/String;)I" } : Jvm.MethodName)) ∈ xT := xT_at 692 (by decide +kernel) (by decide +kernel)
theorem xcs_Reader_113 : xCS "MarkerText$Reader" 113 M_MT_numberOf 2 := ⟨xcb_MT_numberOf, xw_692, Or.inr ⟨_, xw_962⟩⟩
theorem d_Reader_readTest_80 : decode M_Reader_readTest.2.1 80 = .ok (.istore 4, 2) := by decide +kernel
theorem d_Reader_readTest_82 : decode M_Reader_readTest.2.1 82 = .ok (.aload_n 0, 1) := by decide +kernel
theorem d_Reader_readTest_83 : decode M_Reader_readTest.2.1 83 = .ok (.getfield 32, 3) := by decide +kernel
theorem d_Reader_readTest_86 : decode M_Reader_readTest.2.1 86 = .ok (.bipush 40, 2) := by decide +kernel
theorem d_Reader_readTest_88 : decode M_Reader_readTest.2.1 88 = .ok (.if_icmp .ge 13, 3) := by decide +kernel
theorem d_Reader_readTest_91 : decode M_Reader_readTest.2.1 91 = .ok (.iload_n 3, 1) := by decide +kernel
theorem d_Reader_readTest_92 : decode M_Reader_readTest.2.1 92 = .ok (.ifCond .ne 11, 3) := by decide +kernel
theorem d_Reader_readTest_95 : decode M_Reader_readTest.2.1 95 = .ok (.iload 4, 2) := by decide +kernel
theorem d_Reader_readTest_97 : decode M_Reader_readTest.2.1 97 = .ok (.iconst (-1), 1) := by decide +kernel
theorem d_Reader_readTest_98 : decode M_Reader_readTest.2.1 98 = .ok (.if_icmp .ne 5, 3) := by decide +kernel
theorem d_Reader_readTest_101 : decode M_Reader_readTest.2.1 101 = .ok (.aconst_null, 1) := by decide +kernel
theorem d_Reader_readTest_102 : decode M_Reader_readTest.2.1 102 = .ok (.areturn, 1) := by decide +kernel
abbrev y_Reader_readWhole : MethodName := ⟨"MarkerText$Reader", "readWhole", "()LMarkerText$Condition;"⟩
abbrev M_Reader_readWhole : XMt := (y_Reader_readWhole, prog_10_method_2_code, 2, (some (.object "MarkerText$Condition")))
theorem d_Reader_readWhole_0 : decode M_Reader_readWhole.2.1 0 = .ok (.aload_n 0, 1) := by decide +kernel
theorem d_Reader_readWhole_1 : decode M_Reader_readWhole.2.1 1 = .ok (.iconst 1, 1) := by decide +kernel
theorem d_Reader_readWhole_2 : decode M_Reader_readWhole.2.1 2 = .ok (.invokevirtual 45, 3) := by decide +kernel
theorem d_Reader_readWhole_5 : decode M_Reader_readWhole.2.1 5 = .ok (.astore_n 1, 1) := by decide +kernel
theorem d_Reader_readWhole_6 : decode M_Reader_readWhole.2.1 6 = .ok (.aload_n 1, 1) := by decide +kernel
theorem d_Reader_readWhole_7 : decode M_Reader_readWhole.2.1 7 = .ok (.ifnonnull 5, 3) := by decide +kernel
theorem d_Reader_readWhole_10 : decode M_Reader_readWhole.2.1 10 = .ok (.aconst_null, 1) := by decide +kernel
theorem d_Reader_readWhole_11 : decode M_Reader_readWhole.2.1 11 = .ok (.areturn, 1) := by decide +kernel
end
section P1D
variable {l : Launch} {G : XG} {h : XH} {c n d : Nat}
theorem c_Reader_init (hG : xGk G) (hd : 5 ≤ d) {r ta na : Nat} (hr : h r = some (k_Reader, [.null, .null, .null, .null, .int 0, .int 0, .int 0])) (hc : c + 3 ≤ xCB) (hn : n + 40 ≤ xSB) : XM l G d M_Reader_init [.ref r, .ref ta, .ref na] h c n (fun v h' c' n' => v = none ∧ (∃ la ba va, h' r = some (rdO ta na la ba 0 0 0) ∧ isL G h' la (G.2.2.2.1 100) [] ∧ isB h' ba va [] 16) ∧ xfr h h' [r] ∧ c' ≤ c + 3 ∧ n' ≤ n + 40) := by
  obtain ⟨d, rfl⟩ : ∃ q, d = q + 1 := ⟨d - 1, by omega⟩
  refine XM.of (by decide +kernel) (Nat.le_of_ble_eq_true rfl) ?_
  have f0 : xfr h h [r] := xfr.rf
  refine x_aload_n d_Reader_init_0 rfl rfl ?_
  refine x_objInit xw_828 xw_40 xw_41 (Nat.le_of_ble_eq_true rfl) d_Reader_init_1 ?_
  refine x_aload_n d_Reader_init_4 rfl rfl ?_
  refine x_new xnw_Reader_9 (by omega) (by omega) d_Reader_init_5 (fun la hn_la hk_la => ?_)
  refine x_dup d_Reader_init_8 rfl ?_
  refine x_callI (As := []) xci_Reader_11 (c_AL_init (by omega) xup_self) rfl rfl (Nat.le_of_ble_eq_true rfl) d_Reader_init_9 ?_
  rintro v h1 c1 n1 ⟨rfl, hL, g1, rfl, rfl⟩
  have r1 := g1.1 _ _ (xup_old hr hn_la) (by simp; exact xneN hr hn_la)
  refine x_putF xf_Reader_12_Reader xp_Reader_2 ⟨_, _, _, rfl, rfl, xw_859⟩ rfl rfl rfl r1 rfl rfl d_Reader_init_12 ?_
  refine x_any (R := fun h2 => h2 r = some (k_Reader, [.null, .null, .ref la, .null, .int 0, .int 0, .int 0]) ∧ isL G h2 la (G.2.2.2.1 100) [] ∧ xfr h h2 [r]) ⟨xup_self, hL.fr (F := [r]) (xfr.rf.up (Or.inl (by simp))) (xno1 r1 (by decide)), ((f0.up (Or.inr hn_la)).tr g1 (fun q hq hq2 => by rw [List.mem_singleton] at hq2; subst hq2; exact absurd hn_la hq)).up (Or.inl (by simp))⟩ (fun h2 ⟨r2, L2, f2⟩ => ?_)
  refine x_aload_n d_Reader_init_15 rfl rfl ?_
  refine x_new xnw_Reader_18 (by omega) (by omega) d_Reader_init_16 (fun ba hn_ba hk_ba => ?_)
  refine x_dup d_Reader_init_19 rfl ?_
  refine x_callI (As := []) xci_Reader_20 (c_SB_init (by omega) xup_self (by omega) (by omega)) rfl rfl (Nat.le_of_ble_eq_true rfl) d_Reader_init_20 ?_
  rintro v h3 c3 n3 ⟨rfl, va, hva, hB, g3, rfl, rfl⟩
  have t3 : xfr h2 h3 [] := (xfr.rf.up (Or.inr hn_ba)).tr g3 (fun q hq hq2 => by rw [List.mem_singleton] at hq2; subst hq2; exact absurd hn_ba hq)
  have r3 := t3.1 _ _ r2 (by simp)
  obtain ⟨z3, bs3, b31, b32, -⟩ := id hB
  refine x_putF xf_Reader_21_Reader xp_Reader_3 ⟨_, _, _, rfl, rfl, xw_860⟩ rfl rfl rfl r3 rfl rfl d_Reader_init_23 ?_
  refine x_any (R := fun h4 => h4 r = some (k_Reader, [.null, .null, .ref la, .ref ba, .int 0, .int 0, .int 0]) ∧ isL G h4 la (G.2.2.2.1 100) [] ∧ isB h4 ba va [] 16 ∧ xfr h h4 [r]) ⟨xup_self, (L2.fr t3 (fun q hq => by cases hq)).fr (F := [r]) (xfr.rf.up (Or.inl (by simp))) (xno1 r3 (by decide)), hB.fr (F := [r]) (xfr.rf.up (Or.inl (by simp))) (by simp; exact xne b31 r3 (by decide)) (by simp; exact xne b32 r3 (by decide)), (f2.tr t3 (fun q _ hq => by cases hq)).up (Or.inl (by simp))⟩ (fun h4 ⟨r4, L4, B4, f4⟩ => ?_)
  refine x_aload_n d_Reader_init_26 rfl rfl ?_
  refine x_iconst (v := 0) d_Reader_init_27 (by decide) ?_
  refine x_put xf_Reader_25_Reader xp_Reader_4 rfl rfl r4 rfl rfl d_Reader_init_28 ?_
  refine x_aload_n d_Reader_init_31 rfl rfl ?_
  refine x_iconst (v := 0) d_Reader_init_32 (by decide) ?_
  refine x_put xf_Reader_29_Reader xp_Reader_5 rfl rfl xup_self rfl rfl d_Reader_init_33 ?_
  refine x_aload_n d_Reader_init_36 rfl rfl ?_
  refine x_iconst (v := 0) d_Reader_init_37 (by decide) ?_
  refine x_put xf_Reader_32_Reader xp_Reader_6 rfl rfl xup_self rfl rfl d_Reader_init_38 ?_
  refine x_aload_n d_Reader_init_41 rfl rfl ?_
  refine x_aload_n d_Reader_init_42 rfl rfl ?_
  refine x_putF xf_Reader_35_Reader xp_Reader_0 ⟨_, _, _, rfl, rfl, xw_857⟩ rfl rfl rfl xup_self rfl rfl d_Reader_init_43 ?_
  refine x_aload_n d_Reader_init_46 rfl rfl ?_
  refine x_aload_n d_Reader_init_47 rfl rfl ?_
  refine x_putF xf_Reader_39_Reader xp_Reader_1 ⟨_, _, _, rfl, rfl, xw_858⟩ rfl rfl rfl xup_self rfl rfl d_Reader_init_48 ?_
  refine x_vret d_Reader_init_51 rfl ?_
  rw [xup_up, xup_up, xup_up, xup_up]
  obtain ⟨z4, bs4, b41, b42, -⟩ := id B4
  exact ⟨rfl, ⟨la, ba, va, xup_self, L4.fr (F := [r]) (xfr.rf.up (Or.inl (by simp))) (xno1 r4 (by decide)), B4.fr (F := [r]) (xfr.rf.up (Or.inl (by simp))) (by simp; exact xne b41 r4 (by decide)) (by simp; exact xne b42 r4 (by decide))⟩, f4.up (Or.inl (by simp)), by omega, by omega⟩
/-- a TEST in the empty text, without names -/
theorem c_readTest0 (hG : xGk G) (hd : 6 ≤ d) {r ta na la ba : Nat} (hr : h r = some (rdO ta na la ba 0 0 0)) (hS : isS G h ta []) (hna : h na = some (k_aName, List.replicate 6 .null)) (hc : c + 2 ≤ xCB) (hn : n + 4 ≤ xSB) : XM l G d M_Reader_readTest [.ref r] h c n (fun v h' c' n' => v = some .null ∧ h' r = some (rdO ta na la ba 0 0 0) ∧ xfr h h' [r] ∧ c' ≤ c + 2 ∧ n' ≤ n + 4) := by
  obtain ⟨d, rfl⟩ : ∃ q, d = q + 1 := ⟨d - 1, by omega⟩
  refine XM.of (by decide +kernel) (Nat.le_of_ble_eq_true rfl) ?_
  refine x_aload_n d_Reader_readTest_0 rfl rfl ?_
  refine x_callV (As := []) (k := k_Reader) rfl xcv_Reader_49_Reader (Or.inl hr) (c_skipBlanks hG (by omega) hr hS (by simp) (by simp)) rfl rfl (Nat.le_of_ble_eq_true rfl) d_Reader_readTest_1 ?_
  rintro v h1 c1 n1 ⟨rfl, rfl, rfl, rfl⟩
  have e0 : skp [] 0 = 0 := rfl
  rw [e0]
  have f1 : xfr h (xup h r (rdO ta na la ba 0 0 0)) [r] := xfr.rf.up (Or.inl (by simp))
  have S1 := hS.fr f1 (xno1 hr (by decide))
  have N1 := f1.1 _ _ hna (by simp; exact xne hna hr (by decide))
  refine x_aload_n d_Reader_readTest_4 rfl rfl ?_
  refine x_callV (As := []) (k := k_Reader) rfl xcv_Reader_92_Reader (Or.inl xup_self) (c_wordHere hG (by omega) xup_self S1 (by simp) (by simp) (by omega) (by simp; omega)) rfl rfl (Nat.le_of_ble_eq_true rfl) d_Reader_readTest_5 ?_
  rintro v h2 c2 n2 ⟨q, rfl, hw, f2, hc2, hn2⟩
  have r2 := f2.1 _ _ xup_self (by simp)
  have S2 := S1.fr f2 (fun q hq => by cases hq)
  have N2 := f2.1 _ _ N1 (by simp)
  have hw : isS G h2 q [] := hw
  obtain ⟨va, ee, hq1, -⟩ := id hw
  refine x_astore_n (L' := [_, _, _, _, _]) d_Reader_readTest_8 rfl rfl rfl ?_
  refine x_aload_n d_Reader_readTest_9 rfl rfl ?_
  refine x_ldcS (i := 19) (tx := "not") (by decide +kernel) d_Reader_readTest_10 ?_
  refine x_callV (As := [_]) (k := k_String) rfl xcv_Reader_97_String hq1 (c_String_equals (by omega) hw (hG.str (by decide)) (by simp) (by decide)) rfl rfl (Nat.le_of_ble_eq_true rfl) d_Reader_readTest_12 ?_
  rintro v h3 c3 n3 ⟨rfl, rfl, rfl, rfl⟩
  rw [if_neg (by decide)]
  refine x_istore_n (L' := [_, _, _, _, _]) d_Reader_readTest_15 rfl rfl ?_
  refine x_iload_n d_Reader_readTest_16 rfl ?_
  refine x_if_ne (tgt := 29) d_Reader_readTest_17 (by decide) (fun ht => absurd rfl ht) (fun _ => ?_)
  refine x_aload_n d_Reader_readTest_20 rfl rfl ?_
  refine x_callV (As := []) (k := k_Reader) rfl xcv_Reader_101_Reader (Or.inl r2) (c_characterHere hG (by omega) r2 S2 (by simp) (by simp)) rfl rfl (Nat.le_of_ble_eq_true rfl) d_Reader_readTest_21 ?_
  rintro v h4 c4 n4 ⟨rfl, rfl, rfl, rfl⟩
  refine x_bipush (v := 40) d_Reader_readTest_24 (by decide) ?_
  refine x_icmp_ne (tgt := 48) d_Reader_readTest_26 (by decide) (fun _ => ?_) (fun hn => absurd hn (by decide))
  refine x_aload_n d_Reader_readTest_48 rfl rfl ?_
  refine x_ldcS (i := 20) (tx := "true") (by decide +kernel) d_Reader_readTest_49 ?_
  refine x_callV (As := [_]) (k := k_String) rfl xcv_Reader_97_String hq1 (c_String_equals (by omega) hw (hG.str (by decide)) (by simp) (by decide)) rfl rfl (Nat.le_of_ble_eq_true rfl) d_Reader_readTest_51 ?_
  rintro v h5 c5 n5 ⟨rfl, rfl, rfl, rfl⟩
  rw [if_neg (by decide)]
  refine x_if_ne (tgt := 66) d_Reader_readTest_54 (by decide) (fun ht => absurd rfl ht) (fun _ => ?_)
  refine x_aload_n d_Reader_readTest_57 rfl rfl ?_
  refine x_ldcS (i := 21) (tx := "false") (by decide +kernel) d_Reader_readTest_58 ?_
  refine x_callV (As := [_]) (k := k_String) rfl xcv_Reader_97_String hq1 (c_String_equals (by omega) hw (hG.str (by decide)) (by simp) (by decide)) rfl rfl (Nat.le_of_ble_eq_true rfl) d_Reader_readTest_60 ?_
  rintro v h6 c6 n6 ⟨rfl, rfl, rfl, rfl⟩
  rw [if_neg (by decide)]
  refine x_if_eq (tgt := 70) d_Reader_readTest_63 (by decide) (fun _ => ?_) (fun hn => absurd rfl hn)
  refine x_iconst (v := 0) d_Reader_readTest_70 (by decide) ?_
  refine x_istore_n (L' := [_, _, _, _, _]) d_Reader_readTest_71 rfl rfl ?_
  refine x_aload_n d_Reader_readTest_72 rfl rfl ?_
  refine x_get xf_Reader_39_Reader (Or.inl r2) rfl d_Reader_readTest_73 ?_
  refine x_aload_n d_Reader_readTest_76 rfl rfl ?_
  refine x_callS (As := [_, _]) xcs_Reader_113 (c_numberOf (as := []) (kas := []) (Ns := []) (by omega) ⟨N2, rfl, rfl, by simp, by simp, by simp, fun i x a ka hz => by simp at hz⟩ hw (by simp)) rfl rfl (Nat.le_of_ble_eq_true rfl) d_Reader_readTest_77 ?_
  rintro v h7 c7 n7 ⟨rfl, rfl, rfl, rfl⟩
  refine x_istore (L' := [_, _, _, _, _]) d_Reader_readTest_80 rfl rfl ?_
  refine x_aload_n d_Reader_readTest_82 rfl rfl ?_
  refine x_get xf_Reader_32_Reader (Or.inl r2) rfl d_Reader_readTest_83 ?_
  refine x_bipush (v := 40) d_Reader_readTest_86 (by decide) ?_
  refine x_icmp_ge (tgt := 101) d_Reader_readTest_88 (by decide) (fun ht => absurd ht (by decide)) (fun _ => ?_)
  refine x_iload_n d_Reader_readTest_91 rfl ?_
  refine x_if_ne (tgt := 103) d_Reader_readTest_92 (by decide) (fun ht => absurd rfl ht) (fun _ => ?_)
  refine x_iload d_Reader_readTest_95 rfl ?_
  refine x_iconst (v := (-1)) d_Reader_readTest_97 (by decide) ?_
  refine x_icmp_ne (tgt := 103) d_Reader_readTest_98 (by decide) (fun ht => absurd rfl ht) (fun _ => ?_)
  refine x_null d_Reader_readTest_101 ?_
  refine x_aret d_Reader_readTest_102 rfl rfl ?_
  exact ⟨rfl, r2, f1.tr f2 (fun q _ hq => by cases hq), hc2, (by have e9 : (wrd [] 0).length = 0 := rfl; omega)⟩
theorem c_readAnd0 (hG : xGk G) (hd : 7 ≤ d) {r ta na la ba : Nat} (hr : h r = some (rdO ta na la ba 0 0 0)) (hS : isS G h ta []) (hna : h na = some (k_aName, List.replicate 6 .null)) (hc : c + 2 ≤ xCB) (hn : n + 4 ≤ xSB) : XM l G d M_Reader_readJoined [.ref r, .int 2] h c n (fun v h' c' n' => v = some .null ∧ h' r = some (rdO ta na la ba 0 0 0) ∧ xfr h h' [r] ∧ c' ≤ c + 2 ∧ n' ≤ n + 4) := by
  obtain ⟨d, rfl⟩ : ∃ q, d = q + 1 := ⟨d - 1, by omega⟩
  refine XM.of (by decide +kernel) (Nat.le_of_ble_eq_true rfl) ?_
  refine x_iload_n d_Reader_readJoined_0 rfl ?_
  refine x_iconst (v := 1) d_Reader_readJoined_1 (by decide) ?_
  refine x_icmp_ne (tgt := 9) d_Reader_readJoined_2 (by decide) (fun _ => ?_) (fun hn => absurd hn (by decide))
  refine x_iconst (v := 0) d_Reader_readJoined_9 (by decide) ?_
  refine x_istore_n (L' := [_, _, _, _, _, _]) d_Reader_readJoined_10 rfl rfl ?_
  refine x_iload_n d_Reader_readJoined_11 rfl ?_
  refine x_if_eq (tgt := 23) d_Reader_readJoined_12 (by decide) (fun _ => ?_) (fun hn => absurd rfl hn)
  refine x_aload_n d_Reader_readJoined_23 rfl rfl ?_
  refine x_callV (As := []) (k := k_Reader) rfl xcv_Reader_75_Reader (Or.inl hr) (c_readTest0 hG (by omega) hr hS hna hc hn) rfl rfl (Nat.le_of_ble_eq_true rfl) d_Reader_readJoined_24 ?_
  rintro v h1 c1 n1 ⟨rfl, r1, f1, hc1, hn1⟩
  refine x_astore_n (L' := [_, _, _, _, _, _]) d_Reader_readJoined_27 rfl rfl rfl ?_
  refine x_iconst (v := 0) d_Reader_readJoined_28 (by decide) ?_
  refine x_istore (L' := [_, _, _, _, _, _]) d_Reader_readJoined_29 rfl rfl ?_
  refine x_iload d_Reader_readJoined_31 rfl ?_
  refine x_sipush (v := 160) d_Reader_readJoined_33 (by decide) ?_
  refine x_icmp_ge (tgt := 106) d_Reader_readJoined_36 (by decide) (fun ht => absurd ht (by decide)) (fun _ => ?_)
  refine x_aload_n d_Reader_readJoined_39 rfl rfl ?_
  refine x_ifnullN (tgt := 106) d_Reader_readJoined_40 (by decide) ?_
  refine x_aload_n d_Reader_readJoined_106 rfl rfl ?_
  refine x_aret d_Reader_readJoined_107 rfl rfl ?_
  exact ⟨rfl, r1, f1, hc1, hn1⟩
theorem c_readOr0 (hG : xGk G) (hd : 8 ≤ d) {r ta na la ba : Nat} (hr : h r = some (rdO ta na la ba 0 0 0)) (hS : isS G h ta []) (hna : h na = some (k_aName, List.replicate 6 .null)) (hc : c + 2 ≤ xCB) (hn : n + 4 ≤ xSB) : XM l G d M_Reader_readJoined [.ref r, .int 1] h c n (fun v h' c' n' => v = some .null ∧ h' r = some (rdO ta na la ba 0 0 0) ∧ xfr h h' [r] ∧ c' ≤ c + 2 ∧ n' ≤ n + 4) := by
  obtain ⟨d, rfl⟩ : ∃ q, d = q + 1 := ⟨d - 1, by omega⟩
  refine XM.of (by decide +kernel) (Nat.le_of_ble_eq_true rfl) ?_
  refine x_iload_n d_Reader_readJoined_0 rfl ?_
  refine x_iconst (v := 1) d_Reader_readJoined_1 (by decide) ?_
  refine x_icmp_ne (tgt := 9) d_Reader_readJoined_2 (by decide) (fun ht => absurd rfl ht) (fun _ => ?_)
  refine x_iconst (v := 1) d_Reader_readJoined_5 (by decide) ?_
  refine x_goto (tgt := 10) d_Reader_readJoined_6 (by decide) ?_
  refine x_istore_n (L' := [_, _, _, _, _, _]) d_Reader_readJoined_10 rfl rfl ?_
  refine x_iload_n d_Reader_readJoined_11 rfl ?_
  refine x_if_eq (tgt := 23) d_Reader_readJoined_12 (by decide) (fun ht => absurd ht (by decide)) (fun _ => ?_)
  refine x_aload_n d_Reader_readJoined_15 rfl rfl ?_
  refine x_iconst (v := 2) d_Reader_readJoined_16 (by decide) ?_
  refine x_callV (As := [_]) (k := k_Reader) rfl xcv_Reader_45_Reader (Or.inl hr) (c_readAnd0 hG (by omega) hr hS hna hc hn) rfl rfl (Nat.le_of_ble_eq_true rfl) d_Reader_readJoined_17 ?_
  rintro v h1 c1 n1 ⟨rfl, r1, f1, hc1, hn1⟩
  refine x_goto (tgt := 27) d_Reader_readJoined_20 (by decide) ?_
  refine x_astore_n (L' := [_, _, _, _, _, _]) d_Reader_readJoined_27 rfl rfl rfl ?_
  refine x_iconst (v := 0) d_Reader_readJoined_28 (by decide) ?_
  refine x_istore (L' := [_, _, _, _, _, _]) d_Reader_readJoined_29 rfl rfl ?_
  refine x_iload d_Reader_readJoined_31 rfl ?_
  refine x_sipush (v := 160) d_Reader_readJoined_33 (by decide) ?_
  refine x_icmp_ge (tgt := 106) d_Reader_readJoined_36 (by decide) (fun ht => absurd ht (by decide)) (fun _ => ?_)
  refine x_aload_n d_Reader_readJoined_39 rfl rfl ?_
  refine x_ifnullN (tgt := 106) d_Reader_readJoined_40 (by decide) ?_
  refine x_aload_n d_Reader_readJoined_106 rfl rfl ?_
  refine x_aret d_Reader_readJoined_107 rfl rfl ?_
  exact ⟨rfl, r1, f1, hc1, hn1⟩
theorem c_readWhole0 (hG : xGk G) (hd : 9 ≤ d) {r ta na la ba : Nat} (hr : h r = some (rdO ta na la ba 0 0 0)) (hS : isS G h ta []) (hna : h na = some (k_aName, List.replicate 6 .null)) (hc : c + 2 ≤ xCB) (hn : n + 4 ≤ xSB) : XM l G d M_Reader_readWhole [.ref r] h c n (fun v h' c' n' => v = some .null ∧ h' r = some (rdO ta na la ba 0 0 0) ∧ xfr h h' [r] ∧ c' ≤ c + 2 ∧ n' ≤ n + 4) := by
  obtain ⟨d, rfl⟩ : ∃ q, d = q + 1 := ⟨d - 1, by omega⟩
  refine XM.of (by decide +kernel) (Nat.le_of_ble_eq_true rfl) ?_
  refine x_aload_n d_Reader_readWhole_0 rfl rfl ?_
  refine x_iconst (v := 1) d_Reader_readWhole_1 (by decide) ?_
  refine x_callV (As := [_]) (k := k_Reader) rfl xcv_Reader_45_Reader (Or.inl hr) (c_readOr0 hG (by omega) hr hS hna hc hn) rfl rfl (Nat.le_of_ble_eq_true rfl) d_Reader_readWhole_2 ?_
  rintro v h1 c1 n1 ⟨rfl, r1, f1, hc1, hn1⟩
  refine x_astore_n (L' := [_, _]) d_Reader_readWhole_5 rfl rfl rfl ?_
  refine x_aload_n d_Reader_readWhole_6 rfl rfl ?_
  refine x_ifnonnullN d_Reader_readWhole_7 ?_
  refine x_null d_Reader_readWhole_10 ?_
  refine x_aret d_Reader_readWhole_11 rfl rfl ?_
  exact ⟨rfl, r1, f1, hc1, hn1⟩
end P1D
