section
abbrev y_Mo_condition : MethodName := ⟨"MarkerTextModel", "condition", "()I"⟩
abbrev M_Mo_condition : XMt := (y_Mo_condition, prog_13_method_36_code, 1, (some .int))
theorem d_Mo_condition_60 : decode M_Mo_condition.2.1 60 = .ok (.aload_n 0, 1) := by decide +kernel
theorem d_Mo_condition_61 : decode M_Mo_condition.2.1 61 = .ok (.getfield 48, 3) := by decide +kernel
theorem d_Mo_condition_64 : decode M_Mo_condition.2.1 64 = .ok (.aload_n 0, 1) := by decide +kernel
theorem d_Mo_condition_65 : decode M_Mo_condition.2.1 65 = .ok (.getfield 196, 3) := by decide +kernel
theorem d_Mo_condition_68 : decode M_Mo_condition.2.1 68 = .ok (.aload_n 0, 1) := by decide +kernel
theorem d_Mo_condition_69 : decode M_Mo_condition.2.1 69 = .ok (.getfield 88, 3) := by decide +kernel
theorem d_Mo_condition_72 : decode M_Mo_condition.2.1 72 = .ok (.iconst 0, 1) := by decide +kernel
theorem d_Mo_condition_73 : decode M_Mo_condition.2.1 73 = .ok (.iaload, 1) := by decide +kernel
theorem d_Mo_condition_74 : decode M_Mo_condition.2.1 74 = .ok (.iastore, 1) := by decide +kernel
theorem d_Mo_condition_75 : decode M_Mo_condition.2.1 75 = .ok (.aload_n 0, 1) := by decide +kernel
theorem d_Mo_condition_76 : decode M_Mo_condition.2.1 76 = .ok (.dup, 1) := by decide +kernel
theorem d_Mo_condition_77 : decode M_Mo_condition.2.1 77 = .ok (.getfield 268, 3) := by decide +kernel
theorem d_Mo_condition_80 : decode M_Mo_condition.2.1 80 = .ok (.iconst 1, 1) := by decide +kernel
theorem d_Mo_condition_81 : decode M_Mo_condition.2.1 81 = .ok (.iadd, 1) := by decide +kernel
theorem d_Mo_condition_82 : decode M_Mo_condition.2.1 82 = .ok (.putfield 268, 3) := by decide +kernel
theorem xp_Mo_11 : xP k_MarkerTextModel 11 false .int := ⟨_, _, _, rfl, rfl, by decide +kernel⟩
theorem d_Mo_condition_85 : decode M_Mo_condition.2.1 85 = .ok (.aload_n 0, 1) := by decide +kernel
theorem d_Mo_condition_86 : decode M_Mo_condition.2.1 86 = .ok (.getfield 268, 3) := by decide +kernel
theorem d_Mo_condition_89 : decode M_Mo_condition.2.1 89 = .ok (.iconst 1, 1) := by decide +kernel
theorem d_Mo_condition_90 : decode M_Mo_condition.2.1 90 = .ok (.isub, 1) := by decide +kernel
theorem d_Mo_condition_91 : decode M_Mo_condition.2.1 91 = .ok (.ireturn, 1) := by decide +kernel
theorem d_Mo_condition_0 : decode M_Mo_condition.2.1 0 = .ok (.aload_n 0, 1) := by decide +kernel
theorem d_Mo_condition_1 : decode M_Mo_condition.2.1 1 = .ok (.aload_n 0, 1) := by decide +kernel
theorem d_Mo_condition_2 : decode M_Mo_condition.2.1 2 = .ok (.getfield 268, 3) := by decide +kernel
theorem d_Mo_condition_5 : decode M_Mo_condition.2.1 5 = .ok (.putfield 196, 3) := by decide +kernel
theorem xp_Mo_28 : xP k_MarkerTextModel 28 false .int := ⟨_, _, _, rfl, rfl, by decide +kernel⟩
theorem d_Mo_condition_8 : decode M_Mo_condition.2.1 8 = .ok (.aload_n 0, 1) := by decide +kernel
theorem d_Mo_condition_9 : decode M_Mo_condition.2.1 9 = .ok (.invokevirtual 271, 3) := by decide +kernel
theorem xw_1398 : (Jvm.Cond.code ({ cls := "MarkerTextModel", name := "read", desc := "()V" } : Jvm.MethodName) prog_13_method_35_code (3 : Nat) (Option.none : Option Jvm.ClassFile.FieldType)) ∈ xT := xT_at 1398 (by decide +kernel) (by decide +kernel)
theorem xcb_Mo_read : xcb M_Mo_read 0 := ⟨xw_1398, xw_8, by decide, by decide, by decide, by decide +kernel⟩
theorem xw_1397 : (Jvm.Cond.instanceMethod ({ cls := "MarkerTextModel", name := "read", desc := "()V" } : Jvm.MethodName)) ∈ xT := xT_at 1397 (by decide +kernel) (by decide +kernel)
theorem xw_1395 : (Jvm.Cond.methodLink "MarkerTextModel" (271 : Nat) ({ cls := "MarkerTextModel", name := "read", desc := "()V" } : Jvm.MethodName)) ∈ xT := xT_at 1395 (by decide +kernel) (by decide +kernel)
theorem xsel_Mo_read : Cond.selects "MarkerTextModel" y_Mo_read y_Mo_read ∈ xT := xT_sel (q := (y_Mo_read, 52)) (by decide +kernel) (by decide +kernel)
theorem xcv_Mo_271_Mo : xCV "MarkerTextModel" 271 "MarkerTextModel" M_Mo_read 0 := ⟨xcb_Mo_read, xw_1397, Or.inl ⟨xw_1395, Or.inl xsel_Mo_read⟩⟩
theorem d_Mo_condition_12 : decode M_Mo_condition.2.1 12 = .ok (.aload_n 0, 1) := by decide +kernel
theorem d_Mo_condition_13 : decode M_Mo_condition.2.1 13 = .ok (.iconst 0, 1) := by decide +kernel
theorem d_Mo_condition_14 : decode M_Mo_condition.2.1 14 = .ok (.putfield 124, 3) := by decide +kernel
theorem d_Mo_condition_17 : decode M_Mo_condition.2.1 17 = .ok (.aload_n 0, 1) := by decide +kernel
theorem d_Mo_condition_18 : decode M_Mo_condition.2.1 18 = .ok (.aload_n 0, 1) := by decide +kernel
theorem d_Mo_condition_19 : decode M_Mo_condition.2.1 19 = .ok (.getfield 190, 3) := by decide +kernel
theorem d_Mo_condition_22 : decode M_Mo_condition.2.1 22 = .ok (.putfield 81, 3) := by decide +kernel
theorem d_Mo_condition_25 : decode M_Mo_condition.2.1 25 = .ok (.aload_n 0, 1) := by decide +kernel
theorem d_Mo_condition_26 : decode M_Mo_condition.2.1 26 = .ok (.aload_n 0, 1) := by decide +kernel
theorem d_Mo_condition_27 : decode M_Mo_condition.2.1 27 = .ok (.getfield 190, 3) := by decide +kernel
theorem d_Mo_condition_30 : decode M_Mo_condition.2.1 30 = .ok (.ifCond .lt 7, 3) := by decide +kernel
theorem d_Mo_condition_37 : decode M_Mo_condition.2.1 37 = .ok (.iconst 0, 1) := by decide +kernel
theorem d_Mo_condition_38 : decode M_Mo_condition.2.1 38 = .ok (.aload_n 0, 1) := by decide +kernel
theorem d_Mo_condition_39 : decode M_Mo_condition.2.1 39 = .ok (.getfield 268, 3) := by decide +kernel
theorem d_Mo_condition_42 : decode M_Mo_condition.2.1 42 = .ok (.bipush 8, 2) := by decide +kernel
theorem d_Mo_condition_44 : decode M_Mo_condition.2.1 44 = .ok (.if_icmp .ne 7, 3) := by decide +kernel
theorem d_Mo_condition_51 : decode M_Mo_condition.2.1 51 = .ok (.iconst 0, 1) := by decide +kernel
theorem d_Mo_condition_52 : decode M_Mo_condition.2.1 52 = .ok (.invokevirtual 162, 3) := by decide +kernel
theorem d_Mo_condition_55 : decode M_Mo_condition.2.1 55 = .ok (.ifCond .eq 5, 3) := by decide +kernel
theorem d_Mo_condition_58 : decode M_Mo_condition.2.1 58 = .ok (.iconst 0, 1) := by decide +kernel
theorem d_Mo_condition_59 : decode M_Mo_condition.2.1 59 = .ok (.ireturn, 1) := by decide +kernel
theorem d_Mo_condition_47 : decode M_Mo_condition.2.1 47 = .ok (.iconst 1, 1) := by decide +kernel
theorem d_Mo_condition_48 : decode M_Mo_condition.2.1 48 = .ok (.goto 4, 3) := by decide +kernel
theorem d_Mo_condition_33 : decode M_Mo_condition.2.1 33 = .ok (.iconst 1, 1) := by decide +kernel
theorem d_Mo_condition_34 : decode M_Mo_condition.2.1 34 = .ok (.goto 4, 3) := by decide +kernel
end
section RF12
variable {l : Launch} {G : XG} {h : XH} {c n d : Nat} {o : Nat} {rf : Nat → Nat} {S : MS}
abbrev cdJ : List Nat := [0, 2, 11, 27, 28, 29, 30, 32, 33, 35]
abbrev cdA : List Nat := 16 :: 31 :: rtA
end RF12
