section
abbrev y_Reader_init : MethodName := ⟨"MarkerText$Reader", "<init>", "(Ljava/lang/String;[LMarkerText$Name;)V"⟩
abbrev M_Reader_init : XMt := (y_Reader_init, prog_10_method_1_code, 3, none)
theorem d_Reader_init_0 : decode M_Reader_init.2.1 0 = .ok (.aload_n 0, 1) := by decide +kernel
theorem d_Reader_init_1 : decode M_Reader_init.2.1 1 = .ok (.invokespecial 3, 3) := by decide +kernel
theorem xw_828 : (Jvm.Cond.methodLink "MarkerText$Reader" (3 : Nat) ({ cls := "java/lang/Object", name := "<init>", desc := "()V" } : Jvm.MethodName)) ∈ xT := xT_at 828 (by decide +kernel) (by decide +kernel)
theorem d_Reader_init_4 : decode M_Reader_init.2.1 4 = .ok (.aload_n 0, 1) := by decide +kernel
theorem d_Reader_init_5 : decode M_Reader_init.2.1 5 = .ok (.new 9, 3) := by decide +kernel
theorem xw_829 : (Jvm.Cond.classLink "MarkerText$Reader" (9 : Nat) "java/util/ArrayList") ∈ xT := xT_at 829 (by decide +kernel) (by decide +kernel)
theorem xw_830 : (Jvm.Cond.instantiable "java/util/ArrayList" (3 : Nat)) ∈ xT := xT_at 830 (by decide +kernel) (by decide +kernel)
theorem xnw_Reader_9 : xNw "MarkerText$Reader" 9 k_ArrayList 3 [.null, .int 0, .int 0] := ⟨_, _, _, rfl, rfl, by decide +kernel, xw_829, xw_830, xw_26⟩
theorem d_Reader_init_8 : decode M_Reader_init.2.1 8 = .ok (.dup, 1) := by decide +kernel
theorem d_Reader_init_9 : decode M_Reader_init.2.1 9 = .ok (.invokespecial 11, 3) := by decide +kernel
theorem xw_833 : (Jvm.Cond.code ({ cls := "java/util/ArrayList", name := "<init>", desc := "()V" } : Jvm.MethodName) prog_33_method_2_code (1 : Nat) (Option.none : Option Jvm.ClassFile.FieldType)) ∈ xT := xT_at 833 (by decide +kernel) (by decide +kernel)
theorem xcb_AL_init : xcb M_AL_init 0 := ⟨xw_833, xw_26, by decide, by decide, by decide, by decide +kernel⟩
theorem xw_831 : (Jvm.Cond.methodLink "MarkerText$Reader" (11 : Nat) ({ cls := "java/util/ArrayList", name := "<init>", desc := "()V" } : Jvm.MethodName)) ∈ xT := xT_at 831 (by decide +kernel) (by decide +kernel)
theorem xw_832 : (Jvm.Cond.instanceMethod ({ cls := "java/util/ArrayList", name := "<init>", desc := "()V" } : Jvm.MethodName)) ∈ xT := xT_at 832 (by decide +kernel) (by decide +kernel)
theorem xci_Reader_11 : xCI "MarkerText$Reader" 11 M_AL_init 0 := ⟨xcb_AL_init, rfl, rfl, xw_832, Or.inl xw_831⟩
theorem d_Reader_init_12 : decode M_Reader_init.2.1 12 = .ok (.putfield 12, 3) := by decide +kernel
theorem xp_Reader_2 : xP k_Reader 2 true (.object "java/util/ArrayList") := ⟨_, _, _, rfl, rfl, by decide +kernel⟩
theorem d_Reader_init_15 : decode M_Reader_init.2.1 15 = .ok (.aload_n 0, 1) := by decide +kernel
theorem d_Reader_init_16 : decode M_Reader_init.2.1 16 = .ok (.new 18, 3) := by decide +kernel
theorem xw_855 : (Jvm.Cond.classLink "MarkerText$Reader" (18 : Nat) "java/lang/StringBuilder") ∈ xT := xT_at 855 (by decide +kernel) (by decide +kernel)
theorem xnw_Reader_18 : xNw "MarkerText$Reader" 18 k_StringBuilder 4 [.null, .int 0, .int 0, .int 0] := ⟨_, _, _, rfl, rfl, by decide +kernel, xw_855, xw_43, xw_3⟩
theorem d_Reader_init_19 : decode M_Reader_init.2.1 19 = .ok (.dup, 1) := by decide +kernel
theorem d_Reader_init_20 : decode M_Reader_init.2.1 20 = .ok (.invokespecial 20, 3) := by decide +kernel
theorem xw_856 : (Jvm.Cond.methodLink "MarkerText$Reader" (20 : Nat) ({ cls := "java/lang/StringBuilder", name := "<init>", desc := "()V" } : Jvm.MethodName)) ∈ xT := xT_at 856 (by decide +kernel) (by decide +kernel)
theorem xci_Reader_20 : xCI "MarkerText$Reader" 20 M_SB_init 0 := ⟨xcb_SB_init, rfl, rfl, xw_45, Or.inl xw_856⟩
theorem d_Reader_init_23 : decode M_Reader_init.2.1 23 = .ok (.putfield 21, 3) := by decide +kernel
theorem xp_Reader_3 : xP k_Reader 3 true (.object "java/lang/StringBuilder") := ⟨_, _, _, rfl, rfl, by decide +kernel⟩
theorem d_Reader_init_26 : decode M_Reader_init.2.1 26 = .ok (.aload_n 0, 1) := by decide +kernel
theorem d_Reader_init_27 : decode M_Reader_init.2.1 27 = .ok (.iconst 0, 1) := by decide +kernel
theorem d_Reader_init_28 : decode M_Reader_init.2.1 28 = .ok (.putfield 25, 3) := by decide +kernel
theorem d_Reader_init_31 : decode M_Reader_init.2.1 31 = .ok (.aload_n 0, 1) := by decide +kernel
theorem d_Reader_init_32 : decode M_Reader_init.2.1 32 = .ok (.iconst 0, 1) := by decide +kernel
theorem d_Reader_init_33 : decode M_Reader_init.2.1 33 = .ok (.putfield 29, 3) := by decide +kernel
theorem d_Reader_init_36 : decode M_Reader_init.2.1 36 = .ok (.aload_n 0, 1) := by decide +kernel
theorem d_Reader_init_37 : decode M_Reader_init.2.1 37 = .ok (.iconst 0, 1) := by decide +kernel
theorem d_Reader_init_38 : decode M_Reader_init.2.1 38 = .ok (.putfield 32, 3) := by decide +kernel
theorem d_Reader_init_41 : decode M_Reader_init.2.1 41 = .ok (.aload_n 0, 1) := by decide +kernel
theorem d_Reader_init_42 : decode M_Reader_init.2.1 42 = .ok (.aload_n 1, 1) := by decide +kernel
theorem d_Reader_init_43 : decode M_Reader_init.2.1 43 = .ok (.putfield 35, 3) := by decide +kernel
theorem xp_Reader_0 : xP k_Reader 0 true (.object "java/lang/String") := ⟨_, _, _, rfl, rfl, by decide +kernel⟩
theorem d_Reader_init_46 : decode M_Reader_init.2.1 46 = .ok (.aload_n 0, 1) := by decide +kernel
theorem d_Reader_init_47 : decode M_Reader_init.2.1 47 = .ok (.aload_n 2, 1) := by decide +kernel
theorem d_Reader_init_48 : decode M_Reader_init.2.1 48 = .ok (.putfield 39, 3) := by decide +kernel
theorem xp_Reader_1 : xP k_Reader 1 true (.array (.object "MarkerText$Name")) := ⟨_, _, _, rfl, rfl, by decide +kernel⟩
theorem d_Reader_init_51 : decode M_Reader_init.2.1 51 = .ok (.return_, 1) := by decide +kernel
abbrev y_MT_condition : MethodName := ⟨"MarkerText", "condition", "()I"⟩
abbrev M_MT_condition : XMt := (y_MT_condition, prog_1_method_5_code, 3, (some .int))
theorem d_MT_condition_0 : decode M_MT_condition.2.1 0 = .ok (.new 121, 3) := by decide +kernel
theorem xw_823 : (Jvm.Cond.classLink "MarkerText" (121 : Nat) "MarkerText$Reader") ∈ xT := xT_at 823 (by decide +kernel) (by decide +kernel)
theorem xw_824 : (Jvm.Cond.instantiable "MarkerText$Reader" (7 : Nat)) ∈ xT := xT_at 824 (by decide +kernel) (by decide +kernel)
theorem xnw_MT_121 : xNw "MarkerText" 121 k_Reader 7 [.null, .null, .null, .null, .int 0, .int 0, .int 0] := ⟨_, _, _, rfl, rfl, by decide +kernel, xw_823, xw_824, xw_23⟩
theorem d_MT_condition_3 : decode M_MT_condition.2.1 3 = .ok (.dup, 1) := by decide +kernel
theorem d_MT_condition_4 : decode M_MT_condition.2.1 4 = .ok (.aload_n 0, 1) := by decide +kernel
theorem d_MT_condition_5 : decode M_MT_condition.2.1 5 = .ok (.invokevirtual 64, 3) := by decide +kernel
theorem d_MT_condition_8 : decode M_MT_condition.2.1 8 = .ok (.aload_n 0, 1) := by decide +kernel
theorem d_MT_condition_9 : decode M_MT_condition.2.1 9 = .ok (.getfield 18, 3) := by decide +kernel
theorem d_MT_condition_12 : decode M_MT_condition.2.1 12 = .ok (.invokespecial 123, 3) := by decide +kernel
theorem xw_827 : (Jvm.Cond.code ({ cls := "MarkerText$Reader", name := "<init>", desc := "(Ljava/lang/String;[LMarkerText$Name;)V" } : Jvm.MethodName) prog_10_method_1_code (3 : Nat) (Option.none : Option Jvm.ClassFile.FieldType)) ∈ xT := xT_at 827 (by decide +kernel) (by decide +kernel)
theorem xcb_Reader_init : xcb M_Reader_init 2 := ⟨xw_827, xw_23, by decide, by decide, by decide, by decide +kernel⟩
theorem xw_825 : (Jvm.Cond.methodLink "MarkerText" (123 : Nat) ({ cls := "MarkerText$Reader", name := "<init>", desc := "(Ljava/lang/String;[LMarkerText$Name;)V" } : Jvm.MethodName)) ∈ xT := xT_at 825 (by decide +kernel) (by decide +kernel)
theorem xw_826 : (Jvm.Cond.instanceMethod ({ cls := "MarkerText$Reader", name := "<init>", desc := "(Ljava/lang/String;[LMarkerText$Name;)V" } : Jvm.MethodName)) ∈ xT := xT_at 826 (by decide +kernel) (by decide +kernel)
theorem xci_MT_123 : xCI "MarkerText" 123 M_Reader_init 2 := ⟨xcb_Reader_init, rfl, rfl, xw_826, Or.inl xw_825⟩
theorem d_MT_condition_15 : decode M_MT_condition.2.1 15 = .ok (.astore_n 1, 1) := by decide +kernel
theorem d_MT_condition_16 : decode M_MT_condition.2.1 16 = .ok (.aload_n 1, 1) := by decide +kernel
theorem d_MT_condition_17 : decode M_MT_condition.2.1 17 = .ok (.invokevirtual 126, 3) := by decide +kernel
theorem xw_883 : (Jvm.Cond.code ({ cls := "MarkerText$Reader", name := "readWhole", desc := "()LMarkerText$Condition;" } : Jvm.MethodName) prog_10_method_2_code (2 : Nat) (Option.some (Jvm.ClassFile.FieldType.object "MarkerText$Condition"))) ∈ xT := xT_at 883 (by decide +kernel) (by decide +kernel)
theorem xcb_Reader_readWhole : xcb M_Reader_readWhole 0 := ⟨xw_883, xw_23, by decide, by decide, by decide, by decide +kernel⟩
theorem xw_881 : (Jvm.Cond.instanceMethod ({ cls := "MarkerText$Reader", name := "readWhole", desc := "()LMarkerText$Condition;" } : Jvm.MethodName)) ∈ xT := xT_at 881 (by decide +kernel) (by decide +kernel)
theorem xw_880 : (Jvm.Cond.methodLink "MarkerText" (126 : Nat) ({ cls := "MarkerText$Reader", name := "readWhole", desc := "()LMarkerText$Condition;" } : Jvm.MethodName)) ∈ xT := xT_at 880 (by decide +kernel) (by decide +kernel)
theorem xw_882 : (Jvm.Cond.selects "MarkerText$Reader" ({ cls := "MarkerText$Reader", name := "readWhole", desc := "()LMarkerText$Condition;" } : Jvm.MethodName) ({ cls := "MarkerText$Reader", name := "readWhole", desc := "()LMarkerText$Condition;" } : Jvm.MethodName)) ∈ xT := xT_at 882 (by decide +kernel) (by decide +kernel)
theorem xcv_MT_126_Reader : xCV "MarkerText" 126 "MarkerText$Reader" M_Reader_readWhole 0 := ⟨xcb_Reader_readWhole, xw_881, Or.inl ⟨xw_880, Or.inl xw_882⟩⟩
theorem d_MT_condition_20 : decode M_MT_condition.2.1 20 = .ok (.astore_n 2, 1) := by decide +kernel
theorem d_MT_condition_21 : decode M_MT_condition.2.1 21 = .ok (.aload_n 0, 1) := by decide +kernel
theorem d_MT_condition_22 : decode M_MT_condition.2.1 22 = .ok (.aload_n 2, 1) := by decide +kernel
theorem d_MT_condition_23 : decode M_MT_condition.2.1 23 = .ok (.ifnonnull 10, 3) := by decide +kernel
theorem d_MT_condition_26 : decode M_MT_condition.2.1 26 = .ok (.aload_n 1, 1) := by decide +kernel
theorem d_MT_condition_27 : decode M_MT_condition.2.1 27 = .ok (.getfield 130, 3) := by decide +kernel
theorem xw_862 : (Jvm.Cond.fieldLinkNest "MarkerText" (130 : Nat) "MarkerText$Reader" "at" "I" "MarkerText") ∈ xT := xT_at 862 (by decide +kernel) (by decide +kernel)
theorem xf_MT_130_Reader : xF "MarkerText" 130 k_Reader 4 := ⟨_, _, _, "MarkerText$Reader", rfl, by decide, Or.inr ⟨_, xw_862⟩, Or.inl rfl⟩
theorem d_MT_condition_30 : decode M_MT_condition.2.1 30 = .ok (.goto 4, 3) := by decide +kernel
theorem d_MT_condition_34 : decode M_MT_condition.2.1 34 = .ok (.putfield 35, 3) := by decide +kernel
theorem d_MT_condition_37 : decode M_MT_condition.2.1 37 = .ok (.aload_n 2, 1) := by decide +kernel
theorem d_MT_condition_38 : decode M_MT_condition.2.1 38 = .ok (.ifnonnull 13, 3) := by decide +kernel
theorem d_MT_condition_41 : decode M_MT_condition.2.1 41 = .ok (.new 76, 3) := by decide +kernel
theorem d_MT_condition_44 : decode M_MT_condition.2.1 44 = .ok (.dup, 1) := by decide +kernel
theorem d_MT_condition_45 : decode M_MT_condition.2.1 45 = .ok (.ldc 133, 2) := by decide +kernel
theorem d_MT_condition_47 : decode M_MT_condition.2.1 47 = .ok (.invokespecial 80, 3) := by decide +kernel
theorem d_MT_condition_50 : decode M_MT_condition.2.1 50 = .ok (.athrow, 1) := by decide +kernel
theorem xw_822 : (Jvm.Cond.code ({ cls := "MarkerText", name := "condition", desc := "()I" } : Jvm.MethodName) prog_1_method_5_code (3 : Nat) (Option.some Jvm.ClassFile.FieldType.int)) ∈ xT := xT_at 822 (by decide +kernel) (by decide +kernel)
theorem d_MT_condition_33 : decode M_MT_condition.2.1 33 = .ok (.iconst (-1), 1) := by decide +kernel
theorem d_MT_condition_51 : decode M_MT_condition.2.1 51 = .ok (.aload_n 0, 1) := by decide +kernel
theorem d_MT_condition_52 : decode M_MT_condition.2.1 52 = .ok (.getfield 32, 3) := by decide +kernel
theorem d_MT_condition_55 : decode M_MT_condition.2.1 55 = .ok (.bipush 8, 2) := by decide +kernel
theorem d_MT_condition_57 : decode M_MT_condition.2.1 57 = .ok (.if_icmp .lt 13, 3) := by decide +kernel
theorem d_MT_condition_60 : decode M_MT_condition.2.1 60 = .ok (.new 85, 3) := by decide +kernel
theorem d_MT_condition_63 : decode M_MT_condition.2.1 63 = .ok (.dup, 1) := by decide +kernel
theorem d_MT_condition_64 : decode M_MT_condition.2.1 64 = .ok (.ldc 135, 2) := by decide +kernel
theorem d_MT_condition_66 : decode M_MT_condition.2.1 66 = .ok (.invokespecial 89, 3) := by decide +kernel
theorem d_MT_condition_69 : decode M_MT_condition.2.1 69 = .ok (.athrow, 1) := by decide +kernel
theorem d_MT_condition_70 : decode M_MT_condition.2.1 70 = .ok (.aload_n 0, 1) := by decide +kernel
theorem d_MT_condition_71 : decode M_MT_condition.2.1 71 = .ok (.getfield 28, 3) := by decide +kernel
theorem d_MT_condition_74 : decode M_MT_condition.2.1 74 = .ok (.aload_n 0, 1) := by decide +kernel
theorem d_MT_condition_75 : decode M_MT_condition.2.1 75 = .ok (.getfield 32, 3) := by decide +kernel
theorem d_MT_condition_78 : decode M_MT_condition.2.1 78 = .ok (.aload_n 2, 1) := by decide +kernel
theorem d_MT_condition_79 : decode M_MT_condition.2.1 79 = .ok (.aastore, 1) := by decide +kernel
theorem d_MT_condition_80 : decode M_MT_condition.2.1 80 = .ok (.aload_n 0, 1) := by decide +kernel
theorem d_MT_condition_81 : decode M_MT_condition.2.1 81 = .ok (.dup, 1) := by decide +kernel
theorem d_MT_condition_82 : decode M_MT_condition.2.1 82 = .ok (.getfield 32, 3) := by decide +kernel
theorem d_MT_condition_85 : decode M_MT_condition.2.1 85 = .ok (.iconst 1, 1) := by decide +kernel
theorem d_MT_condition_86 : decode M_MT_condition.2.1 86 = .ok (.iadd, 1) := by decide +kernel
theorem d_MT_condition_87 : decode M_MT_condition.2.1 87 = .ok (.putfield 32, 3) := by decide +kernel
theorem d_MT_condition_90 : decode M_MT_condition.2.1 90 = .ok (.aload_n 0, 1) := by decide +kernel
theorem d_MT_condition_91 : decode M_MT_condition.2.1 91 = .ok (.getfield 32, 3) := by decide +kernel
theorem d_MT_condition_94 : decode M_MT_condition.2.1 94 = .ok (.iconst 1, 1) := by decide +kernel
theorem d_MT_condition_95 : decode M_MT_condition.2.1 95 = .ok (.isub, 1) := by decide +kernel
theorem d_MT_condition_96 : decode M_MT_condition.2.1 96 = .ok (.ireturn, 1) := by decide +kernel
end
section MT7
variable {l : Launch} {G : XG} {h : XH} {c n d : Nat}
theorem c_Reader_init2 (hG : xGk G) (hd : 5 ≤ d) {r ta na : Nat} (hr : h r = some (k_Reader, [.null, .null, .null, .null, .int 0, .int 0, .int 0])) (hc : c + 3 ≤ xCB) (hn : n + 40 ≤ xSB) : XM l G d M_Reader_init [.ref r, .ref ta, .ref na] h c n (fun v h' c' n' => v = none ∧ (∃ la ba va, h' r = some (rdO ta na la ba 0 0 0) ∧ isL G h' la (G.2.2.2.1 100) [] ∧ isB h' ba va [] 16 ∧ h la = none ∧ h ba = none ∧ h va = none) ∧ xfr h h' [r] ∧ c' ≤ c + 3 ∧ n' ≤ n + 40) := by
  obtain ⟨d, rfl⟩ : ∃ q, d = q + 1 := ⟨d - 1, by omega⟩
  refine XM.of (by decide +kernel) (Nat.le_of_ble_eq_true rfl) ?_
  have f0 : xfr h h [r] := xfr.rf
  refine x_aload_n d_Reader_init_0 rfl rfl ?_
  refine x_objInit xw_828 xw_40 xw_41 (Nat.le_of_ble_eq_true rfl) d_Reader_init_1 ?_
  refine x_aload_n d_Reader_init_4 rfl rfl ?_
  refine x_new xnw_Reader_9 (by omega) (by omega) d_Reader_init_5 (fun la hn_la hk_la => ?_)
  refine x_dup d_Reader_init_8 rfl ?_
  refine x_callI (As := []) xci_Reader_11 (c_AL_init (by omega) xup_self) rfl rfl (Nat.le_of_ble_eq_true rfl) d_Reader_init_9 ?_
  rintro v h1 c1 n1 ⟨rfl, hL, g1, rfl, rfl⟩
  have r1 := g1.1 _ _ (xup_old hr hn_la) (by simp; exact xneN hr hn_la)
  refine x_putF xf_Reader_12_Reader xp_Reader_2 ⟨_, _, _, rfl, rfl, xw_859⟩ rfl rfl rfl r1 rfl rfl d_Reader_init_12 ?_
  refine x_any (R := fun h2 => h2 r = some (k_Reader, [.null, .null, .ref la, .null, .int 0, .int 0, .int 0]) ∧ isL G h2 la (G.2.2.2.1 100) [] ∧ xfr h h2 [r]) ⟨xup_self, hL.fr (F := [r]) (xfr.rf.up (Or.inl (by simp))) (xno1 r1 (by decide)), ((f0.up (Or.inr hn_la)).tr g1 (fun q hq hq2 => by rw [List.mem_singleton] at hq2; subst hq2; exact absurd hn_la hq)).up (Or.inl (by simp))⟩ (fun h2 ⟨r2, L2, f2⟩ => ?_)
  refine x_aload_n d_Reader_init_15 rfl rfl ?_
  refine x_new xnw_Reader_18 (by omega) (by omega) d_Reader_init_16 (fun ba hn_ba hk_ba => ?_)
  refine x_dup d_Reader_init_19 rfl ?_
  refine x_callI (As := []) xci_Reader_20 (c_SB_init (by omega) xup_self (by omega) (by omega)) rfl rfl (Nat.le_of_ble_eq_true rfl) d_Reader_init_20 ?_
  rintro v h3 c3 n3 ⟨rfl, va, hva, hB, g3, rfl, rfl⟩
  have t3 : xfr h2 h3 [] := (xfr.rf.up (Or.inr hn_ba)).tr g3 (fun q hq hq2 => by rw [List.mem_singleton] at hq2; subst hq2; exact absurd hn_ba hq)
  have r3 := t3.1 _ _ r2 (by simp)
  have hba0 : h ba = none := f2.2 _ hn_ba
  have hva0 : h va = none := f2.2 _ ((xfr.rf.up (Or.inr hn_ba) : xfr h2 (xup h2 ba _) []).2 _ hva)
  obtain ⟨z3, bs3, b31, b32, -⟩ := id hB
  refine x_putF xf_Reader_21_Reader xp_Reader_3 ⟨_, _, _, rfl, rfl, xw_860⟩ rfl rfl rfl r3 rfl rfl d_Reader_init_23 ?_
  refine x_any (R := fun h4 => h4 r = some (k_Reader, [.null, .null, .ref la, .ref ba, .int 0, .int 0, .int 0]) ∧ isL G h4 la (G.2.2.2.1 100) [] ∧ isB h4 ba va [] 16 ∧ xfr h h4 [r]) ⟨xup_self, (L2.fr t3 (fun q hq => by cases hq)).fr (F := [r]) (xfr.rf.up (Or.inl (by simp))) (xno1 r3 (by decide)), hB.fr (F := [r]) (xfr.rf.up (Or.inl (by simp))) (by simp; exact xne b31 r3 (by decide)) (by simp; exact xne b32 r3 (by decide)), (f2.tr t3 (fun q _ hq => by cases hq)).up (Or.inl (by simp))⟩ (fun h4 ⟨r4, L4, B4, f4⟩ => ?_)
  refine x_aload_n d_Reader_init_26 rfl rfl ?_
  refine x_iconst (v := 0) d_Reader_init_27 (by decide) ?_
  refine x_put xf_Reader_25_Reader xp_Reader_4 rfl rfl r4 rfl rfl d_Reader_init_28 ?_
  refine x_aload_n d_Reader_init_31 rfl rfl ?_
  refine x_iconst (v := 0) d_Reader_init_32 (by decide) ?_
  refine x_put xf_Reader_29_Reader xp_Reader_5 rfl rfl xup_self rfl rfl d_Reader_init_33 ?_
  refine x_aload_n d_Reader_init_36 rfl rfl ?_
  refine x_iconst (v := 0) d_Reader_init_37 (by decide) ?_
  refine x_put xf_Reader_32_Reader xp_Reader_6 rfl rfl xup_self rfl rfl d_Reader_init_38 ?_
  refine x_aload_n d_Reader_init_41 rfl rfl ?_
  refine x_aload_n d_Reader_init_42 rfl rfl ?_
  refine x_putF xf_Reader_35_Reader xp_Reader_0 ⟨_, _, _, rfl, rfl, xw_857⟩ rfl rfl rfl xup_self rfl rfl d_Reader_init_43 ?_
  refine x_aload_n d_Reader_init_46 rfl rfl ?_
  refine x_aload_n d_Reader_init_47 rfl rfl ?_
  refine x_putF xf_Reader_39_Reader xp_Reader_1 ⟨_, _, _, rfl, rfl, xw_858⟩ rfl rfl rfl xup_self rfl rfl d_Reader_init_48 ?_
  refine x_vret d_Reader_init_51 rfl ?_
  rw [xup_up, xup_up, xup_up, xup_up]
  obtain ⟨z4, bs4, b41, b42, -⟩ := id B4
  exact ⟨rfl, ⟨la, ba, va, xup_self, L4.fr (F := [r]) (xfr.rf.up (Or.inl (by simp))) (xno1 r4 (by decide)), B4.fr (F := [r]) (xfr.rf.up (Or.inl (by simp))) (by simp; exact xne b41 r4 (by decide)) (by simp; exact xne b42 r4 (by decide)), hn_la, hba0, hva0⟩, f4.up (Or.inl (by simp)), by omega, by omega⟩
/-- another place of the latest ILL text -/
theorem isMT.il {x ta va m na ca ea ch pa : Nat} {as kas cas t : List Nat} {Ns : List NmT} {Cs : List CnT} {il : Option Nat} {lv : Nat → Nat} {Pt : PtT} (hM : isMT G h x ta va m na ca ea ch pa as kas cas t Ns Cs il lv Pt) (il' : Option Nat) : isMT G (xup h x (mtS ta na ca ea ch pa Ns.length Cs.length il')) x ta va m na ca ea ch pa as kas cas t Ns Cs il' lv Pt := by
  obtain ⟨e1, e2, e3, e4, e5, e6, e7, e8, e9, e10⟩ := hM
  obtain ⟨z, bs, b1, b2, -⟩ := id e2
  have hf : xfr h (xup h x (mtS ta na ca ea ch pa Ns.length Cs.length il')) [x] := xfr.rf.up (Or.inl (by simp))
  have hn : ∀ ks, k_MarkerText ∉ ks → xno h [x] ks := fun ks z => xno1 e1 z
  exact ⟨xup_self, e2.fr hf ((hn [k_StringBuilder] (by decide)).at b1 (by decide)) ((hn [k_abyte] (by decide)).at b2 (by decide)), e3, e4, e5.fr hf (hn _ (by decide)), e6.fr hf (hn _ (by decide)), e7.fr' hf (hn _ (by decide)), e8.fr hf (hn _ (by decide)), e9.fr hf (hn _ (by decide)), e10⟩
/-- a cell that is made beside it -/
theorem isMT.up {x ta va m na ca ea ch pa a : Nat} {w : Nat × List Value} {as kas cas t : List Nat} {Ns : List NmT} {Cs : List CnT} {il : Option Nat} {lv : Nat → Nat} {Pt : PtT} (hM : isMT G h x ta va m na ca ea ch pa as kas cas t Ns Cs il lv Pt) (ha : h a = none) : isMT G (xup h a w) x ta va m na ca ea ch pa as kas cas t Ns Cs il lv Pt := by
  obtain ⟨e1, e2, e3, e4, -⟩ := id hM
  exact hM.frB (F := []) (xfr.rf.up (Or.inr ha)) (fun q hq => by cases hq) (e2.up ha) e3 e4
/-- what condition() costs -/
abbrev cdC (T : Nat) : Nat := 46 * T + 270
abbrev cdN (T : Nat) : Nat := 2014 * T + 3100
set_option maxRecDepth 100000 in
theorem c_condition (hG : xGk G) (htr : l.stackTraces = false) (hd : 350 ≤ d) {x ta va m na ca ea ch pa : Nat} {as kas cas t : List Nat} {Ns : List NmT} {Cs : List CnT} {il : Option Nat} {lv : Nat → Nat} {Pt : PtT} (hM : isMT G h x ta va m na ca ea ch pa as kas cas t Ns Cs il lv Pt) (hc : c + cdC t.length ≤ xCB) (hn : n + cdN t.length ≤ xSB) :
    XMT l G d M_MT_condition [.ref x] h c n (fun v h' c' n' => c' ≤ c + cdC t.length ∧ n' ≤ n + cdN t.length ∧ xap h h' ∧ match (rW t Ns).2 with
      | none => (∃ a, v = some (.retAddr a) ∧ h' a = some (exK true, [])) ∧ isMT G h' x ta va m na ca ea ch pa as kas cas [] Ns Cs (some (rW t Ns).1) lv Pt
      | some D => if 8 ≤ Cs.length then (∃ a, v = some (.retAddr a) ∧ h' a = some (exK false, [])) ∧ isMT G h' x ta va m na ca ea ch pa as kas cas [] Ns Cs none lv Pt
        else v = some (.int (nI Cs.length)) ∧ ∃ cas', isMT G h' x ta va m na ca ea ch pa as kas cas' [] Ns (Cs ++ [D]) none lv Pt) := by
  obtain ⟨d, rfl⟩ : ∃ q, d = q + 1 := ⟨d - 1, by omega⟩
  obtain ⟨e0, hB, hm, hl, -⟩ := id hM
  obtain ⟨z, bs, b1, b2, -⟩ := id hB
  unfold cdC at hc
  unfold cdN at hn
  refine XMT.of (by decide +kernel) (Nat.le_of_ble_eq_true rfl) ?_
  refine x_new xnw_MT_121 (by omega) (by omega) d_MT_condition_0 (fun r hn_r hk_r => ?_)
  refine x_dup d_MT_condition_3 rfl ?_
  refine x_aload_n d_MT_condition_4 rfl rfl ?_
  have fr : ∀ w, xfr h (xup h r w) [] := fun w => xfr.rf.up (Or.inr hn_r)
  refine x_callV (As := []) (k := k_MarkerText) rfl xcv_MT_64_MT (Or.inl (xup_old e0 hn_r)) (c_takeText (by omega) (xup_old e0 hn_r) (hB.up hn_r) (by omega) (by omega) (by omega)) rfl rfl (Nat.le_of_ble_eq_true rfl) d_MT_condition_5 ?_
  rintro v h1 c1 n1 ⟨q, rfl, hS, hB1, f1, hc1, hn1⟩
  have f01 : xfr h h1 [ta] := ((fr _).mono (by simp)).tr f1 (fun q _ hq => hq)
  have hM1 := hM.frB f01 (xno1 b1 (by decide)) hB1 hm (by simp)
  obtain ⟨e1, -, -, -, hN1, -⟩ := id hM1
  have r1 := f1.1 _ _ xup_self (by simp; exact Ne.symm (xneN b1 hn_r))
  refine x_wf fun hwf1 => ?_
  have hEC : h1 (G.2.2.2.1 100) = none := by
    cases he : h1 (G.2.2.2.1 100) with
    | none => rfl
    | some e =>
      have := hwf1 _ _ he
      rw [hG.2.2] at this
      cases this
  refine x_aload_n d_MT_condition_8 rfl rfl ?_
  refine x_get xf_MT_18_MT (Or.inl e1) rfl d_MT_condition_9 ?_
  refine x_callI (As := [_, _]) xci_MT_123 (c_Reader_init2 hG (by omega) r1 (by omega) (by omega)) rfl rfl (Nat.le_of_ble_eq_true rfl) d_MT_condition_12 ?_
  rintro v h2 c2 n2 ⟨rfl, ⟨la, ba, va2, r2, hL2, hB2, hla, hba, hva2⟩, f2, hc2, hn2⟩
  have hN2 := hN1.fr f2 (xno1 r1 (by decide))
  have hS2 := hS.fr f2 (xno1 r1 (by decide))
  have hRd : isRd G h2 r q na la ba t as kas Ns (G.2.2.2.1 100) va2 0 0 0 [] [] [] 16 := ⟨r2, hS2, hN2, hL2, ⟨rfl, fun i a x hz => by simp at hz⟩, hB2⟩
  obtain ⟨K, hK⟩ : ∃ K, K = 6 * t.length + 200 := ⟨_, rfl⟩
  have hd' : 340 ≤ d := by
    clear hn hc hn1 hc1 hn2 hc2
    omega
  have hnX : n2 + 2 * K + 2000 * t.length + 2600 ≤ xSB + 2 * 16 := by
    clear hd
    omega
  have hX := c_readWhole (l := l) (c := c2) (n := n2) (d := d) (K := K) hG hd' hl (by omega) (by omega) hRd (by omega) (by omega) hnX
  refine x_astore_n (L' := [_, _, _]) d_MT_condition_15 rfl rfl rfl ?_
  refine x_aload_n d_MT_condition_16 rfl rfl ?_
  refine x_callV (As := []) (k := k_Reader) rfl xcv_MT_126_Reader (Or.inl r2) hX rfl rfl (Nat.le_of_ble_eq_true rfl) d_MT_condition_17 ?_
  rintro v h3 c3 n3 ⟨⟨tc, r3⟩, f3, hc3, hn3, hv⟩
  have f02 : xfr h h2 [ta] := f01.tr f2 (fun q hq hq2 => by rw [List.mem_singleton] at hq2; subst hq2; exact absurd hn_r hq)
  have f03 : xfr h h3 [ta] := f02.tr f3 (fun q hq hq2 => by
    simp only [List.mem_cons, List.not_mem_nil, or_false] at hq2
    rcases hq2 with z | z | z | z | z
    · subst z; exact absurd hn_r hq
    · subst z; exact absurd (f01.2 _ hla) hq
    · subst z; exact absurd (f01.2 _ hEC) hq
    · subst z; exact absurd (f01.2 _ hba) hq
    · subst z; exact absurd (f01.2 _ hva2) hq)
  obtain ⟨z1, bs1, b11, b12, -⟩ := id hB1
  have hB2' : isB h2 ta va [] m := hB1.fr f2 (by simp; exact xne b11 r1 (by decide)) (by simp; exact xne b12 r1 (by decide))
  have hB3 : isB h3 ta va [] m := hB2'.fr f3 (by
    simp only [List.mem_cons, List.not_mem_nil, or_false, not_or]
    exact ⟨xne b11 r1 (by decide), xneN b11 hla, xneN b11 hEC, xneN b11 hba, xneN b11 hva2⟩) (by
    simp only [List.mem_cons, List.not_mem_nil, or_false, not_or]
    exact ⟨xne b12 r1 (by decide), xneN b12 hla, xneN b12 hEC, xneN b12 hba, xneN b12 hva2⟩)
  have hM3 := hM.frB f03 (xno1 b1 (by decide)) hB3 hm (by simp)
  obtain ⟨e3, -, -, -, hN3, hC3, hL3, hCh3, hPa3, hP3⟩ := id hM3
  have xa3 : xap h h3 := ⟨[ta], f03, xno1 b1 (by decide)⟩
  have f3x : ∀ w, xfr h3 (xup h3 x w) [x] := fun w => xfr.rf.up (Or.inl (by simp))
  have hthr : ∀ a w w', xup h3 x w a = none → xap h (xup (xup h3 x w) a w') := fun a w w' ha => xq.tr xa3 ⟨[x], (f3x _).up (Or.inr ((f3x _).2 _ ha)), xno1 e3 (by decide)⟩
  cases hR : (rW t Ns).2 with
  | none =>
    rw [hR] at hv
    have hv : v = some .null := hv
    subst hv
    refine x_astore_n (L' := [_, _, _]) d_MT_condition_20 rfl rfl rfl ?_
    refine x_aload_n d_MT_condition_21 rfl rfl ?_
    refine x_aload_n d_MT_condition_22 rfl rfl ?_
    refine x_ifnonnullN d_MT_condition_23 ?_
    refine x_aload_n d_MT_condition_26 rfl rfl ?_
    refine x_get xf_MT_130_Reader (Or.inl r3) rfl d_MT_condition_27 ?_
    refine x_goto (tgt := 34) d_MT_condition_30 (by decide) ?_
    refine x_put xf_MT_35_MT xp_MT_5 rfl rfl e3 rfl rfl d_MT_condition_34 ?_
    refine x_hp (h' := xup h3 x (mtS ta na ca ea ch pa Ns.length Cs.length (some (rW t Ns).1))) rfl ?_
    refine x_aload_n d_MT_condition_37 rfl rfl ?_
    refine x_ifnonnullN d_MT_condition_38 ?_
    refine x_throwS (k := k_IllegalArgumentException) (i := 31) (tx := "the text is ill") hG.1 htr xw_822 rfl (by decide +kernel) (by decide +kernel) (by decide) xnw_MT_76 xthr_MT_80 (by decide +kernel) (by omega) (Nat.le_of_ble_eq_true rfl) (by omega) (by omega) d_MT_condition_41 d_MT_condition_44 d_MT_condition_45 d_MT_condition_47 d_MT_condition_50 (fun a hn_a hk_a => ?_)
    exact ⟨by unfold cdC; omega, by unfold cdN; omega, hthr a _ _ hn_a, ⟨a, rfl, xup_self⟩, (hM3.il _).up hn_a⟩
  | some D =>
    rw [hR] at hv
    obtain ⟨a, hva, ha0, hCa⟩ : ∃ a, v = some (.ref a) ∧ h2 a = none ∧ isC G h3 a D.1 D.2 := hv
    subst hva
    refine x_astore_n (L' := [_, _, _]) d_MT_condition_20 rfl rfl rfl ?_
    refine x_aload_n d_MT_condition_21 rfl rfl ?_
    refine x_aload_n d_MT_condition_22 rfl rfl ?_
    refine x_ifnonnull (tgt := 33) d_MT_condition_23 (by decide) ?_
    refine x_iconst (v := (-1)) d_MT_condition_33 (by decide) ?_
    refine x_put xf_MT_35_MT xp_MT_5 rfl rfl e3 rfl rfl d_MT_condition_34 ?_
    refine x_hp (h' := xup h3 x (mtS ta na ca ea ch pa Ns.length Cs.length none)) rfl ?_
    have hM4 := hM3.il none
    have hCa4 : isC G (xup h3 x (mtS ta na ca ea ch pa Ns.length Cs.length none)) a D.1 D.2 := hCa.fr (f3x _) (xno1 e3 (by decide))
    have xa4 : xap h (xup h3 x (mtS ta na ca ea ch pa Ns.length Cs.length none)) := xq.tr xa3 ⟨[x], f3x _, xno1 e3 (by decide)⟩
    have hthr4 := fun a w' ha => hthr a (mtS ta na ca ea ch pa Ns.length Cs.length none) w' ha
    revert hM4 hCa4 xa4 hthr4
    generalize xup h3 x (mtS ta na ca ea ch pa Ns.length Cs.length none) = h4
    intro hM4 hCa4 xa4 hthr4
    obtain ⟨e4, hB4, -, -, hN4, hC4, hL4, hCh4, hPa4, hP4⟩ := id hM4
    obtain ⟨hca4, w2, w3, w4⟩ := id hC4
    by_cases h8 : 8 ≤ Cs.length
    · refine x_aload_n d_MT_condition_37 rfl rfl ?_
      refine x_ifnonnull (tgt := 51) d_MT_condition_38 (by decide) ?_
      refine x_aload_n d_MT_condition_51 rfl rfl ?_
      refine x_get xf_MT_32_MT (Or.inl e4) rfl d_MT_condition_52 ?_
      refine x_bipush (v := 8) d_MT_condition_55 (by decide) ?_
      refine x_icmp_lt (tgt := 70) d_MT_condition_57 (by decide) (fun ht => absurd ht (nI_nlt (b := 8) h8 (by omega))) (fun _ => ?_)
      refine x_throwS (k := k_IllegalStateException) (i := 32) (tx := "too many conditions") hG.1 htr xw_822 rfl (by decide +kernel) (by decide +kernel) (by decide) xnw_MT_85 xthr_MT_89 (by decide +kernel) (by omega) (Nat.le_of_ble_eq_true rfl) (by omega) (by omega) d_MT_condition_60 d_MT_condition_63 d_MT_condition_64 d_MT_condition_66 d_MT_condition_69 (fun b hn_b hk_b => ?_)
      refine ⟨by unfold cdC; omega, by unfold cdN; omega, hthr4 b _ hn_b, ?_⟩
      show (if 8 ≤ Cs.length then _ else _)
      rw [if_pos h8]
      exact ⟨⟨b, rfl, xup_self⟩, hM4.up hn_b⟩
    · obtain ⟨ra, la', sa', ea', es', ha4, -⟩ := id hCa4
      refine x_aload_n d_MT_condition_37 rfl rfl ?_
      refine x_ifnonnull (tgt := 51) d_MT_condition_38 (by decide) ?_
      refine x_aload_n d_MT_condition_51 rfl rfl ?_
      refine x_get xf_MT_32_MT (Or.inl e4) rfl d_MT_condition_52 ?_
      refine x_bipush (v := 8) d_MT_condition_55 (by decide) ?_
      refine x_icmp_lt (tgt := 70) d_MT_condition_57 (by decide) (fun _ => ?_) (fun hn => absurd (nI_lt (b := 8) (by omega) (by omega)) hn)
      refine x_aload_n d_MT_condition_70 rfl rfl ?_
      refine x_get xf_MT_28_MT (Or.inl e4) rfl d_MT_condition_71 ?_
      refine x_aload_n d_MT_condition_74 rfl rfl ?_
      refine x_get xf_MT_32_MT (Or.inl e4) rfl d_MT_condition_75 ?_
      refine x_aload_n d_MT_condition_78 rfl rfl ?_
      refine x_aast (k := k_aCondition) (kb := k_Condition) rfl rfl (Or.inl rfl) hca4 (Or.inl ha4) (nI_pos (by omega)) (by rw [nI_clamp (by omega)]; exact or_at (by omega) (by omega)) d_MT_condition_79 ?_
      refine x_hp (h' := xup h4 ca (k_aCondition, (cas ++ [a]).map (.ref ·) ++ List.replicate (8 - (cas ++ [a]).length) .null)) (by rw [nI_clamp (by omega), ← w2, set_app (by omega)]) ?_
      have e5 : xup h4 ca (k_aCondition, (cas ++ [a]).map (.ref ·) ++ List.replicate (8 - (cas ++ [a]).length) .null) x = some (mtS ta na ca ea ch pa Ns.length Cs.length none) := by rw [xup_ne (xne e4 hca4 (by decide))]; exact e4
      refine x_aload_n d_MT_condition_80 rfl rfl ?_
      refine x_dup d_MT_condition_81 rfl ?_
      refine x_get xf_MT_32_MT (Or.inl e5) rfl d_MT_condition_82 ?_
      refine x_iconst (v := 1) d_MT_condition_85 (by decide) ?_
      refine x_iadd d_MT_condition_86 ?_
      refine x_top (w := .int (nI (Cs.length + 1))) (by rw [show (1 : Int32) = nI 1 from rfl, nI_add]) ?_
      refine x_put xf_MT_32_MT xp_MT_4 rfl rfl e5 rfl rfl d_MT_condition_87 ?_
      refine x_aload_n d_MT_condition_90 rfl rfl ?_
      refine x_get xf_MT_32_MT (Or.inl xup_self) rfl d_MT_condition_91 ?_
      refine x_iconst (v := 1) d_MT_condition_94 (by decide) ?_
      refine x_isub d_MT_condition_95 ?_
      refine x_top (w := .int (nI Cs.length)) (by rw [show (1 : Int32) = nI 1 from rfl, pk_sub (by omega)]; rfl) ?_
      refine x_ret2 ?_
      refine x_iret d_MT_condition_96 rfl ?_
      have f5 : ∀ w w', xfr h4 (xup (xup h4 ca w) x w') [ca, x] := fun w w' => (xfr.rf.up (Or.inl (by simp))).up (Or.inl (by simp))
      have hno2 : ∀ ks, k_aCondition ∉ ks → k_MarkerText ∉ ks → xno h4 [ca, x] ks := fun ks z1 z2 => xno2 hca4 e4 z1 z2
      obtain ⟨zb, bsb, bb1, bb2, -⟩ := id hB4
      refine ⟨fun a z => (by cases z), by unfold cdC; omega, by unfold cdN; omega, xq.tr xa4 ⟨[ca, x], f5 _ _, hno2 _ (by decide) (by decide)⟩, ?_⟩
      show (if 8 ≤ Cs.length then _ else _)
      rw [if_neg h8]
      refine ⟨rfl, cas ++ [a], ?_, hB4.fr (f5 _ _) ((hno2 [k_StringBuilder] (by decide) (by decide)).at bb1 (by decide)) ((hno2 [k_abyte] (by decide) (by decide)).at bb2 (by decide)), hm, by simp, hN4.fr (f5 _ _) (hno2 _ (by decide) (by decide)), ⟨?_, by simp [w2], by simp; omega, fun i X b g1 g2 => ?_⟩, hL4.fr' (f5 _ _) (hno2 _ (by decide) (by decide)), hCh4.fr (f5 _ _) (hno2 _ (by decide) (by decide)), hPa4.fr (f5 _ _) (hno2 _ (by decide) (by decide)), hP4⟩
      · rw [xup_self, List.length_append]
        rfl
      · rw [xup_ne (xne hca4 e4 (by decide)), xup_self]
      · by_cases hi : i < Cs.length
        · rw [List.getElem?_append_left hi] at g1
          rw [List.getElem?_append_left (by omega)] at g2
          exact (w4 i X b g1 g2).fr (f5 _ _) (hno2 _ (by decide) (by decide))
        · rw [List.getElem?_append_right (by omega)] at g1
          rw [List.getElem?_append_right (by omega)] at g2
          have hz : i - Cs.length = 0 := by
            have := (List.getElem?_eq_some_iff.mp g1).1
            simp at this
            omega
          rw [w2, hz] at g2
          rw [hz] at g1
          cases g1
          cases g2
          exact hCa4.fr (f5 _ _) (hno2 _ (by decide) (by decide))
end MT7
