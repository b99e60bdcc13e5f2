section
abbrev y_Choices_levelOfPick : MethodName := ⟨"MarkerText$Choices", "levelOfPick", "(I)J"⟩
abbrev M_Choices_levelOfPick : XMt := (y_Choices_levelOfPick, prog_2_method_7_code, 4, (some .long))
theorem d_Choices_levelOfPick_0 : decode M_Choices_levelOfPick.2.1 0 = .ok (.aload_n 0, 1) := by decide +kernel
theorem d_Choices_levelOfPick_1 : decode M_Choices_levelOfPick.2.1 1 = .ok (.getfield 26, 3) := by decide +kernel
theorem d_Choices_levelOfPick_4 : decode M_Choices_levelOfPick.2.1 4 = .ok (.iload_n 1, 1) := by decide +kernel
theorem d_Choices_levelOfPick_5 : decode M_Choices_levelOfPick.2.1 5 = .ok (.iaload, 1) := by decide +kernel
theorem d_Choices_levelOfPick_6 : decode M_Choices_levelOfPick.2.1 6 = .ok (.istore_n 2, 1) := by decide +kernel
theorem d_Choices_levelOfPick_7 : decode M_Choices_levelOfPick.2.1 7 = .ok (.aload_n 0, 1) := by decide +kernel
theorem d_Choices_levelOfPick_8 : decode M_Choices_levelOfPick.2.1 8 = .ok (.getfield 19, 3) := by decide +kernel
theorem d_Choices_levelOfPick_11 : decode M_Choices_levelOfPick.2.1 11 = .ok (.iload_n 1, 1) := by decide +kernel
theorem d_Choices_levelOfPick_12 : decode M_Choices_levelOfPick.2.1 12 = .ok (.iaload, 1) := by decide +kernel
theorem d_Choices_levelOfPick_13 : decode M_Choices_levelOfPick.2.1 13 = .ok (.iload_n 2, 1) := by decide +kernel
theorem d_Choices_levelOfPick_14 : decode M_Choices_levelOfPick.2.1 14 = .ok (.iconst 2, 1) := by decide +kernel
theorem d_Choices_levelOfPick_15 : decode M_Choices_levelOfPick.2.1 15 = .ok (.idiv, 1) := by decide +kernel
theorem d_Choices_levelOfPick_16 : decode M_Choices_levelOfPick.2.1 16 = .ok (.iconst 1, 1) := by decide +kernel
theorem d_Choices_levelOfPick_17 : decode M_Choices_levelOfPick.2.1 17 = .ok (.isub, 1) := by decide +kernel
theorem d_Choices_levelOfPick_18 : decode M_Choices_levelOfPick.2.1 18 = .ok (.iconst 0, 1) := by decide +kernel
theorem d_Choices_levelOfPick_19 : decode M_Choices_levelOfPick.2.1 19 = .ok (.invokestatic 93, 3) := by decide +kernel
theorem xw_362 : (Jvm.Cond.methodLink "MarkerText$Choices" (93 : Nat) ({ cls := "java/lang/Math", name := "max", desc := "(II)I" } : Jvm.MethodName)) ∈ xT := xT_at 362 (by decide +kernel) (by decide +kernel)
theorem d_Choices_levelOfPick_22 : decode M_Choices_levelOfPick.2.1 22 = .ok (.iadd, 1) := by decide +kernel
theorem d_Choices_levelOfPick_23 : decode M_Choices_levelOfPick.2.1 23 = .ok (.istore_n 3, 1) := by decide +kernel
theorem d_Choices_levelOfPick_24 : decode M_Choices_levelOfPick.2.1 24 = .ok (.iload_n 2, 1) := by decide +kernel
theorem d_Choices_levelOfPick_25 : decode M_Choices_levelOfPick.2.1 25 = .ok (.ifCond .le 11, 3) := by decide +kernel
theorem d_Choices_levelOfPick_36 : decode M_Choices_levelOfPick.2.1 36 = .ok (.lconst 0, 1) := by decide +kernel
theorem d_Choices_levelOfPick_37 : decode M_Choices_levelOfPick.2.1 37 = .ok (.lreturn, 1) := by decide +kernel
abbrev y_Choices_advance : MethodName := ⟨"MarkerText$Choices", "advance", "()V"⟩
abbrev M_Choices_advance : XMt := (y_Choices_advance, prog_2_method_6_code, 3, none)
theorem d_Choices_advance_71 : decode M_Choices_advance.2.1 71 = .ok (.return_, 1) := by decide +kernel
theorem d_Choices_advance_4 : decode M_Choices_advance.2.1 4 = .ok (.iload_n 2, 1) := by decide +kernel
theorem d_Choices_advance_5 : decode M_Choices_advance.2.1 5 = .ok (.ifCond .lt 66, 3) := by decide +kernel
theorem d_Choices_advance_8 : decode M_Choices_advance.2.1 8 = .ok (.iload_n 1, 1) := by decide +kernel
theorem d_Choices_advance_9 : decode M_Choices_advance.2.1 9 = .ok (.ifCond .eq 62, 3) := by decide +kernel
theorem d_Choices_advance_12 : decode M_Choices_advance.2.1 12 = .ok (.aload_n 0, 1) := by decide +kernel
theorem d_Choices_advance_13 : decode M_Choices_advance.2.1 13 = .ok (.getfield 26, 3) := by decide +kernel
theorem d_Choices_advance_16 : decode M_Choices_advance.2.1 16 = .ok (.iload_n 2, 1) := by decide +kernel
theorem d_Choices_advance_17 : decode M_Choices_advance.2.1 17 = .ok (.dup2, 1) := by decide +kernel
theorem d_Choices_advance_18 : decode M_Choices_advance.2.1 18 = .ok (.iaload, 1) := by decide +kernel
theorem d_Choices_advance_19 : decode M_Choices_advance.2.1 19 = .ok (.iconst 1, 1) := by decide +kernel
theorem d_Choices_advance_20 : decode M_Choices_advance.2.1 20 = .ok (.iadd, 1) := by decide +kernel
theorem d_Choices_advance_21 : decode M_Choices_advance.2.1 21 = .ok (.iastore, 1) := by decide +kernel
theorem d_Choices_advance_22 : decode M_Choices_advance.2.1 22 = .ok (.aload_n 0, 1) := by decide +kernel
theorem d_Choices_advance_23 : decode M_Choices_advance.2.1 23 = .ok (.getfield 26, 3) := by decide +kernel
theorem d_Choices_advance_26 : decode M_Choices_advance.2.1 26 = .ok (.iload_n 2, 1) := by decide +kernel
theorem d_Choices_advance_27 : decode M_Choices_advance.2.1 27 = .ok (.iaload, 1) := by decide +kernel
theorem d_Choices_advance_28 : decode M_Choices_advance.2.1 28 = .ok (.aload_n 0, 1) := by decide +kernel
theorem d_Choices_advance_29 : decode M_Choices_advance.2.1 29 = .ok (.getfield 23, 3) := by decide +kernel
theorem d_Choices_advance_32 : decode M_Choices_advance.2.1 32 = .ok (.iload_n 2, 1) := by decide +kernel
theorem d_Choices_advance_33 : decode M_Choices_advance.2.1 33 = .ok (.iaload, 1) := by decide +kernel
theorem d_Choices_advance_34 : decode M_Choices_advance.2.1 34 = .ok (.if_icmp .lt 7, 3) := by decide +kernel
theorem d_Choices_advance_37 : decode M_Choices_advance.2.1 37 = .ok (.iconst 1, 1) := by decide +kernel
theorem d_Choices_advance_38 : decode M_Choices_advance.2.1 38 = .ok (.goto 4, 3) := by decide +kernel
theorem d_Choices_advance_42 : decode M_Choices_advance.2.1 42 = .ok (.istore_n 1, 1) := by decide +kernel
theorem d_Choices_advance_43 : decode M_Choices_advance.2.1 43 = .ok (.iload_n 1, 1) := by decide +kernel
theorem d_Choices_advance_44 : decode M_Choices_advance.2.1 44 = .ok (.ifCond .eq 10, 3) := by decide +kernel
theorem d_Choices_advance_47 : decode M_Choices_advance.2.1 47 = .ok (.aload_n 0, 1) := by decide +kernel
theorem d_Choices_advance_48 : decode M_Choices_advance.2.1 48 = .ok (.getfield 26, 3) := by decide +kernel
theorem d_Choices_advance_51 : decode M_Choices_advance.2.1 51 = .ok (.iload_n 2, 1) := by decide +kernel
theorem d_Choices_advance_52 : decode M_Choices_advance.2.1 52 = .ok (.iconst 0, 1) := by decide +kernel
theorem d_Choices_advance_53 : decode M_Choices_advance.2.1 53 = .ok (.iastore, 1) := by decide +kernel
theorem d_Choices_advance_54 : decode M_Choices_advance.2.1 54 = .ok (.aload_n 0, 1) := by decide +kernel
theorem d_Choices_advance_55 : decode M_Choices_advance.2.1 55 = .ok (.getfield 29, 3) := by decide +kernel
theorem d_Choices_advance_58 : decode M_Choices_advance.2.1 58 = .ok (.iload_n 2, 1) := by decide +kernel
theorem d_Choices_advance_59 : decode M_Choices_advance.2.1 59 = .ok (.aload_n 0, 1) := by decide +kernel
theorem d_Choices_advance_60 : decode M_Choices_advance.2.1 60 = .ok (.iload_n 2, 1) := by decide +kernel
theorem d_Choices_advance_61 : decode M_Choices_advance.2.1 61 = .ok (.invokevirtual 89, 3) := by decide +kernel
theorem xw_361 : (Jvm.Cond.code ({ cls := "MarkerText$Choices", name := "levelOfPick", desc := "(I)J" } : Jvm.MethodName) prog_2_method_7_code (4 : Nat) (Option.some Jvm.ClassFile.FieldType.long)) ∈ xT := xT_at 361 (by decide +kernel) (by decide +kernel)
theorem xcb_Choices_levelOfPick : xcb M_Choices_levelOfPick 1 := ⟨xw_361, xw_6, by decide, by decide, by decide, by decide +kernel⟩
theorem xw_360 : (Jvm.Cond.instanceMethod ({ cls := "MarkerText$Choices", name := "levelOfPick", desc := "(I)J" } : Jvm.MethodName)) ∈ xT := xT_at 360 (by decide +kernel) (by decide +kernel)
theorem xw_358 : (Jvm.Cond.methodLink "MarkerText$Choices" (89 : Nat) ({ cls := "MarkerText$Choices", name := "levelOfPick", desc := "(I)J" } : Jvm.MethodName)) ∈ xT := xT_at 358 (by decide +kernel) (by decide +kernel)
theorem xsel_Choices_levelOfPick : Cond.selects "MarkerText$Choices" y_Choices_levelOfPick y_Choices_levelOfPick ∈ xT := xT_sel (q := (y_Choices_levelOfPick, 7)) (by decide +kernel) (by decide +kernel)
theorem xcv_Choices_89_Choices : xCV "MarkerText$Choices" 89 "MarkerText$Choices" M_Choices_levelOfPick 1 := ⟨xcb_Choices_levelOfPick, xw_360, Or.inl ⟨xw_358, Or.inl xsel_Choices_levelOfPick⟩⟩
theorem d_Choices_advance_64 : decode M_Choices_advance.2.1 64 = .ok (.lastore, 1) := by decide +kernel
theorem d_Choices_advance_65 : decode M_Choices_advance.2.1 65 = .ok (.iinc 2 (-1), 3) := by decide +kernel
theorem d_Choices_advance_68 : decode M_Choices_advance.2.1 68 = .ok (.goto (-64), 3) := by decide +kernel
theorem d_Choices_advance_0 : decode M_Choices_advance.2.1 0 = .ok (.iconst 1, 1) := by decide +kernel
theorem d_Choices_advance_1 : decode M_Choices_advance.2.1 1 = .ok (.istore_n 1, 1) := by decide +kernel
theorem d_Choices_advance_2 : decode M_Choices_advance.2.1 2 = .ok (.iconst 5, 1) := by decide +kernel
theorem d_Choices_advance_3 : decode M_Choices_advance.2.1 3 = .ok (.istore_n 2, 1) := by decide +kernel
theorem d_Parting_has_12 : decode M_Parting_has.2.1 12 = .ok (.iconst 1, 1) := by decide +kernel
theorem d_Parting_has_13 : decode M_Parting_has.2.1 13 = .ok (.goto 4, 3) := by decide +kernel
abbrev y_Parting_countIn : MethodName := ⟨"MarkerText$Parting", "countIn", "(II)V"⟩
abbrev M_Parting_countIn : XMt := (y_Parting_countIn, prog_9_method_3_code, 4, none)
theorem d_Parting_countIn_0 : decode M_Parting_countIn.2.1 0 = .ok (.iload_n 1, 1) := by decide +kernel
theorem d_Parting_countIn_1 : decode M_Parting_countIn.2.1 1 = .ok (.ifCond .lt 10, 3) := by decide +kernel
theorem d_Parting_countIn_4 : decode M_Parting_countIn.2.1 4 = .ok (.iload_n 1, 1) := by decide +kernel
theorem d_Parting_countIn_5 : decode M_Parting_countIn.2.1 5 = .ok (.sipush 256, 3) := by decide +kernel
theorem d_Parting_countIn_8 : decode M_Parting_countIn.2.1 8 = .ok (.if_icmp .lt 4, 3) := by decide +kernel
theorem d_Parting_countIn_12 : decode M_Parting_countIn.2.1 12 = .ok (.aload_n 0, 1) := by decide +kernel
theorem d_Parting_countIn_13 : decode M_Parting_countIn.2.1 13 = .ok (.getfield 25, 3) := by decide +kernel
theorem d_Parting_countIn_16 : decode M_Parting_countIn.2.1 16 = .ok (.iload_n 1, 1) := by decide +kernel
theorem d_Parting_countIn_17 : decode M_Parting_countIn.2.1 17 = .ok (.iaload, 1) := by decide +kernel
theorem d_Parting_countIn_18 : decode M_Parting_countIn.2.1 18 = .ok (.ifCond .ne 63, 3) := by decide +kernel
theorem d_Parting_countIn_21 : decode M_Parting_countIn.2.1 21 = .ok (.aload_n 0, 1) := by decide +kernel
theorem d_Parting_countIn_22 : decode M_Parting_countIn.2.1 22 = .ok (.getfield 9, 3) := by decide +kernel
theorem d_Parting_countIn_25 : decode M_Parting_countIn.2.1 25 = .ok (.sipush 256, 3) := by decide +kernel
theorem d_Parting_countIn_28 : decode M_Parting_countIn.2.1 28 = .ok (.if_icmp .ge 53, 3) := by decide +kernel
theorem d_Parting_countIn_31 : decode M_Parting_countIn.2.1 31 = .ok (.aload_n 0, 1) := by decide +kernel
theorem d_Parting_countIn_32 : decode M_Parting_countIn.2.1 32 = .ok (.getfield 15, 3) := by decide +kernel
theorem d_Parting_countIn_35 : decode M_Parting_countIn.2.1 35 = .ok (.aload_n 0, 1) := by decide +kernel
theorem d_Parting_countIn_36 : decode M_Parting_countIn.2.1 36 = .ok (.getfield 9, 3) := by decide +kernel
theorem d_Parting_countIn_39 : decode M_Parting_countIn.2.1 39 = .ok (.iload_n 1, 1) := by decide +kernel
theorem d_Parting_countIn_40 : decode M_Parting_countIn.2.1 40 = .ok (.iastore, 1) := by decide +kernel
theorem d_Parting_countIn_41 : decode M_Parting_countIn.2.1 41 = .ok (.aload_n 0, 1) := by decide +kernel
theorem d_Parting_countIn_42 : decode M_Parting_countIn.2.1 42 = .ok (.getfield 19, 3) := by decide +kernel
theorem d_Parting_countIn_45 : decode M_Parting_countIn.2.1 45 = .ok (.aload_n 0, 1) := by decide +kernel
theorem d_Parting_countIn_46 : decode M_Parting_countIn.2.1 46 = .ok (.getfield 9, 3) := by decide +kernel
theorem d_Parting_countIn_49 : decode M_Parting_countIn.2.1 49 = .ok (.iconst 0, 1) := by decide +kernel
theorem d_Parting_countIn_50 : decode M_Parting_countIn.2.1 50 = .ok (.iastore, 1) := by decide +kernel
theorem d_Parting_countIn_51 : decode M_Parting_countIn.2.1 51 = .ok (.aload_n 0, 1) := by decide +kernel
theorem d_Parting_countIn_52 : decode M_Parting_countIn.2.1 52 = .ok (.getfield 22, 3) := by decide +kernel
theorem d_Parting_countIn_55 : decode M_Parting_countIn.2.1 55 = .ok (.aload_n 0, 1) := by decide +kernel
theorem d_Parting_countIn_56 : decode M_Parting_countIn.2.1 56 = .ok (.getfield 9, 3) := by decide +kernel
theorem d_Parting_countIn_59 : decode M_Parting_countIn.2.1 59 = .ok (.iload_n 2, 1) := by decide +kernel
theorem d_Parting_countIn_60 : decode M_Parting_countIn.2.1 60 = .ok (.iastore, 1) := by decide +kernel
theorem d_Parting_countIn_61 : decode M_Parting_countIn.2.1 61 = .ok (.aload_n 0, 1) := by decide +kernel
theorem d_Parting_countIn_62 : decode M_Parting_countIn.2.1 62 = .ok (.dup, 1) := by decide +kernel
theorem d_Parting_countIn_63 : decode M_Parting_countIn.2.1 63 = .ok (.getfield 9, 3) := by decide +kernel
theorem d_Parting_countIn_66 : decode M_Parting_countIn.2.1 66 = .ok (.iconst 1, 1) := by decide +kernel
theorem d_Parting_countIn_67 : decode M_Parting_countIn.2.1 67 = .ok (.iadd, 1) := by decide +kernel
theorem d_Parting_countIn_68 : decode M_Parting_countIn.2.1 68 = .ok (.putfield 9, 3) := by decide +kernel
theorem d_Parting_countIn_71 : decode M_Parting_countIn.2.1 71 = .ok (.aload_n 0, 1) := by decide +kernel
theorem d_Parting_countIn_72 : decode M_Parting_countIn.2.1 72 = .ok (.getfield 25, 3) := by decide +kernel
theorem d_Parting_countIn_75 : decode M_Parting_countIn.2.1 75 = .ok (.iload_n 1, 1) := by decide +kernel
theorem d_Parting_countIn_76 : decode M_Parting_countIn.2.1 76 = .ok (.aload_n 0, 1) := by decide +kernel
theorem d_Parting_countIn_77 : decode M_Parting_countIn.2.1 77 = .ok (.getfield 9, 3) := by decide +kernel
theorem d_Parting_countIn_80 : decode M_Parting_countIn.2.1 80 = .ok (.iastore, 1) := by decide +kernel
theorem d_Parting_countIn_81 : decode M_Parting_countIn.2.1 81 = .ok (.aload_n 0, 1) := by decide +kernel
theorem d_Parting_countIn_82 : decode M_Parting_countIn.2.1 82 = .ok (.getfield 25, 3) := by decide +kernel
theorem d_Parting_countIn_85 : decode M_Parting_countIn.2.1 85 = .ok (.iload_n 1, 1) := by decide +kernel
theorem d_Parting_countIn_86 : decode M_Parting_countIn.2.1 86 = .ok (.iaload, 1) := by decide +kernel
theorem d_Parting_countIn_87 : decode M_Parting_countIn.2.1 87 = .ok (.iconst 1, 1) := by decide +kernel
theorem d_Parting_countIn_88 : decode M_Parting_countIn.2.1 88 = .ok (.isub, 1) := by decide +kernel
theorem d_Parting_countIn_89 : decode M_Parting_countIn.2.1 89 = .ok (.istore_n 3, 1) := by decide +kernel
theorem d_Parting_countIn_90 : decode M_Parting_countIn.2.1 90 = .ok (.aload_n 0, 1) := by decide +kernel
theorem d_Parting_countIn_91 : decode M_Parting_countIn.2.1 91 = .ok (.iload_n 3, 1) := by decide +kernel
theorem d_Parting_countIn_92 : decode M_Parting_countIn.2.1 92 = .ok (.invokevirtual 57, 3) := by decide +kernel
theorem xw_391 : (Jvm.Cond.methodLink "MarkerText$Parting" (57 : Nat) ({ cls := "MarkerText$Parting", name := "has", desc := "(I)Z" } : Jvm.MethodName)) ∈ xT := xT_at 391 (by decide +kernel) (by decide +kernel)
theorem xcv_Parting_57_Parting : xCV "MarkerText$Parting" 57 "MarkerText$Parting" M_Parting_has 1 := ⟨xcb_Parting_has, xw_392, Or.inl ⟨xw_391, Or.inl xw_393⟩⟩
theorem d_Parting_countIn_95 : decode M_Parting_countIn.2.1 95 = .ok (.ifCond .eq 13, 3) := by decide +kernel
theorem d_Parting_countIn_98 : decode M_Parting_countIn.2.1 98 = .ok (.aload_n 0, 1) := by decide +kernel
theorem d_Parting_countIn_99 : decode M_Parting_countIn.2.1 99 = .ok (.getfield 19, 3) := by decide +kernel
theorem d_Parting_countIn_102 : decode M_Parting_countIn.2.1 102 = .ok (.iload_n 3, 1) := by decide +kernel
theorem d_Parting_countIn_103 : decode M_Parting_countIn.2.1 103 = .ok (.dup2, 1) := by decide +kernel
theorem d_Parting_countIn_104 : decode M_Parting_countIn.2.1 104 = .ok (.iaload, 1) := by decide +kernel
theorem d_Parting_countIn_105 : decode M_Parting_countIn.2.1 105 = .ok (.iconst 1, 1) := by decide +kernel
theorem d_Parting_countIn_106 : decode M_Parting_countIn.2.1 106 = .ok (.iadd, 1) := by decide +kernel
theorem d_Parting_countIn_107 : decode M_Parting_countIn.2.1 107 = .ok (.iastore, 1) := by decide +kernel
theorem d_Parting_countIn_108 : decode M_Parting_countIn.2.1 108 = .ok (.return_, 1) := by decide +kernel
end
section P1C
variable {l : Launch} {G : XG} {h : XH} {c n d : Nat}
theorem xw_idec {j : Nat} : nI (j + 1) + Int32.ofInt (-1) = nI j := by
  rw [← nI_add, Int32.add_assoc, show nI 1 + Int32.ofInt (-1) = 0 from by decide, Int32.add_zero]
theorem c_levelOfPick0 (hd : 1 ≤ d) {o v st sa pk lv na ca j : Nat} {ss : List Value} (hL : chL h o v st sa pk lv na ca 1 ss) (hj : j < 6) : XM l G d M_Choices_levelOfPick [.ref o, .int (nI j)] h c n (xSame (.long 0) h c n) := by
  obtain ⟨d, rfl⟩ : ∃ q, d = q + 1 := ⟨d - 1, by omega⟩
  obtain ⟨eo, est, esa, epk, elv, ena, eca⟩ := id hL
  have at6 : ∀ w : Value, (List.replicate 6 w)[(nI j).toNatClampNeg]? = some w := fun w => by rw [nI_clamp (by omega), List.getElem?_replicate, if_pos hj]
  refine XM.of (by decide +kernel) (Nat.le_of_ble_eq_true rfl) ?_
  refine x_aload_n d_Choices_levelOfPick_0 rfl rfl ?_
  refine x_get xf_Choices_26_Choices (Or.inl eo) rfl d_Choices_levelOfPick_1 ?_
  refine x_iload_n d_Choices_levelOfPick_4 rfl ?_
  refine x_iald (k := k_apicks) rfl (Or.inl epk) (nI_pos (by omega)) (at6 _) d_Choices_levelOfPick_5 ?_
  refine x_istore_n (L' := [_, _, _, _]) d_Choices_levelOfPick_6 rfl rfl ?_
  refine x_aload_n d_Choices_levelOfPick_7 rfl rfl ?_
  refine x_get xf_Choices_19_Choices (Or.inl eo) rfl d_Choices_levelOfPick_8 ?_
  refine x_iload_n d_Choices_levelOfPick_11 rfl ?_
  refine x_iald (k := k_astarts) rfl (Or.inl est) (nI_pos (by omega)) (at6 _) d_Choices_levelOfPick_12 ?_
  refine x_iload_n d_Choices_levelOfPick_13 rfl ?_
  refine x_iconst (v := 2) d_Choices_levelOfPick_14 (by decide) ?_
  refine x_idiv d_Choices_levelOfPick_15 (by decide) ?_
  refine x_iconst (v := 1) d_Choices_levelOfPick_16 (by decide) ?_
  refine x_isub d_Choices_levelOfPick_17 ?_
  refine x_iconst (v := 0) d_Choices_levelOfPick_18 (by decide) ?_
  refine x_mmax xw_362 xw_198 xw_10 xw_199 (Nat.le_of_ble_eq_true rfl) d_Choices_levelOfPick_19 ?_
  refine x_iadd d_Choices_levelOfPick_22 ?_
  refine x_istore_n (L' := [_, _, _, _]) d_Choices_levelOfPick_23 rfl rfl ?_
  refine x_iload_n d_Choices_levelOfPick_24 rfl ?_
  refine x_if_le (tgt := 36) d_Choices_levelOfPick_25 (by decide) (fun _ => ?_) (fun hn => absurd (by decide) hn)
  refine x_lconst (v := 0) d_Choices_levelOfPick_36 (by decide) ?_
  refine x_lret d_Choices_levelOfPick_37 rfl ?_
  exact ⟨rfl, rfl, rfl, rfl⟩
theorem c_advance0 (hd : 2 ≤ d) {o v st sa pk lv na ca : Nat} (hL : chL h o v st sa pk lv na ca 1 (List.replicate 6 (.int 1))) : XM l G d M_Choices_advance [.ref o] h c n (fun r h' c' n' => r = none ∧ (∃ F, xfr h h' F ∧ xno h F [k_MarkerText, k_Parting, k_aptr, k_apsz, k_apfi, k_apcl, k_apsa, k_MarkerTextModel, k_aint, k_along, k_aboolean, k_avals]) ∧ h' o = some (k_Choices, [.ref v, .int 0, .ref st, .ref sa, .ref pk, .ref lv, .int 1]) ∧ c' = c ∧ n' = n) := by
  obtain ⟨d, rfl⟩ : ∃ q, d = q + 1 := ⟨d - 1, by omega⟩
  have hno : xno h [pk, lv] [k_MarkerText, k_Parting, k_aptr, k_apsz, k_apfi, k_apcl, k_apsa, k_MarkerTextModel, k_aint, k_along, k_aboolean, k_avals] := (xno1 hL.2.2.2.1 (by decide)).ap (xno1 hL.2.2.2.2.1 (by decide))
  refine XM.of (by decide +kernel) (Nat.le_of_ble_eq_true rfl) ?_
  have at71 : ∀ (h2 : XH) (L : List (Option Value)), h2 o = some (k_Choices, [.ref v, .int 0, .ref st, .ref sa, .ref pk, .ref lv, .int 1]) → xfr h h2 [pk, lv] → XW l G M_Choices_advance (d + 1) 71 L [] h2 c n (fun r h' c' n' => r = none ∧ (∃ F, xfr h h' F ∧ xno h F [k_MarkerText, k_Parting, k_aptr, k_apsz, k_apfi, k_apcl, k_apsa, k_MarkerTextModel, k_aint, k_along, k_aboolean, k_avals]) ∧ h' o = some (k_Choices, [.ref v, .int 0, .ref st, .ref sa, .ref pk, .ref lv, .int 1]) ∧ c' = c ∧ n' = n) := by
    intro h2 L ho2 hf2
    refine x_vret d_Choices_advance_71 rfl ?_
    exact ⟨rfl, ⟨_, hf2, hno⟩, ho2, rfl, rfl⟩
  have lp : ∀ (j : Nat) (h2 : XH), j < 6 → chL h2 o v st sa pk lv na ca 1 (List.replicate 6 (.int 1)) → xfr h h2 [pk, lv] → XW l G M_Choices_advance (d + 1) 4 [some (.ref o), some (.int 1), some (.int (nI j))] [] h2 c n (fun r h' c' n' => r = none ∧ (∃ F, xfr h h' F ∧ xno h F [k_MarkerText, k_Parting, k_aptr, k_apsz, k_apfi, k_apcl, k_apsa, k_MarkerTextModel, k_aint, k_along, k_aboolean, k_avals]) ∧ h' o = some (k_Choices, [.ref v, .int 0, .ref st, .ref sa, .ref pk, .ref lv, .int 1]) ∧ c' = c ∧ n' = n) := by
    intro j
    induction j with
    | zero =>
      intro h2 hj hL2 hf2
      obtain ⟨eo, est, esa, epk, elv, ena, eca⟩ := id hL2
      have jcl : (nI 0).toNatClampNeg = 0 := nI_clamp (by omega)
      have at6 : ∀ w : Value, (List.replicate 6 w)[(nI 0).toNatClampNeg]? = some w := fun w => by rw [jcl, List.getElem?_replicate, if_pos (by omega)]
      refine x_iload_n d_Choices_advance_4 rfl ?_
      refine x_if_lt (tgt := 71) d_Choices_advance_5 (by decide) (fun ht => absurd ht (nI_pos (by omega))) (fun _ => ?_)
      refine x_iload_n d_Choices_advance_8 rfl ?_
      refine x_if_eq (tgt := 71) d_Choices_advance_9 (by decide) (fun ht => absurd ht (by decide)) (fun _ => ?_)
      refine x_aload_n d_Choices_advance_12 rfl rfl ?_
      refine x_get xf_Choices_26_Choices (Or.inl eo) rfl d_Choices_advance_13 ?_
      refine x_iload_n d_Choices_advance_16 rfl ?_
      refine x_dup2_11 d_Choices_advance_17 rfl rfl ?_
      refine x_iald (k := k_apicks) rfl (Or.inl epk) (nI_pos (by omega)) (at6 _) d_Choices_advance_18 ?_
      refine x_iconst (v := 1) d_Choices_advance_19 (by decide) ?_
      refine x_iadd d_Choices_advance_20 ?_
      refine x_iast (k := k_apicks) rfl epk (nI_pos (by omega)) (at6 _) d_Choices_advance_21 ?_
      have npo : o ≠ pk := xne eo epk (by decide)
      have nps : sa ≠ pk := xne esa epk (by decide)
      have rd1 : ∀ w : Value, ((List.replicate 6 (Value.int 0)).set (nI 0).toNatClampNeg w)[(nI 0).toNatClampNeg]? = some w := fun w => by rw [jcl, List.getElem?_set_self (by rw [List.length_replicate]; omega)]
      have st1 : ∀ w : Value, ((List.replicate 6 (Value.int 0)).set (nI 0).toNatClampNeg w).set (nI 0).toNatClampNeg (.int 0) = List.replicate 6 (.int 0) := fun w => by rw [List.set_set, set_rep]
      refine x_aload_n d_Choices_advance_22 rfl rfl ?_
      refine x_get xf_Choices_26_Choices (Or.inl (by rw [xup_ne npo]; exact eo)) rfl d_Choices_advance_23 ?_
      refine x_iload_n d_Choices_advance_26 rfl ?_
      refine x_iald (k := k_apicks) rfl (Or.inl xup_self) (nI_pos (by omega)) (rd1 _) d_Choices_advance_27 ?_
      refine x_aload_n d_Choices_advance_28 rfl rfl ?_
      refine x_get xf_Choices_23_Choices (Or.inl (by rw [xup_ne npo]; exact eo)) rfl d_Choices_advance_29 ?_
      refine x_iload_n d_Choices_advance_32 rfl ?_
      refine x_iald (k := k_asamples) rfl (Or.inl (by rw [xup_ne nps]; exact esa)) (nI_pos (by omega)) (at6 _) d_Choices_advance_33 ?_
      refine x_icmp_lt (tgt := 41) d_Choices_advance_34 (by decide) (fun ht => absurd ht (by decide)) (fun _ => ?_)
      refine x_iconst (v := 1) d_Choices_advance_37 (by decide) ?_
      refine x_goto (tgt := 42) d_Choices_advance_38 (by decide) ?_
      refine x_istore_n (L' := [_, _, _]) d_Choices_advance_42 rfl rfl ?_
      refine x_iload_n d_Choices_advance_43 rfl ?_
      refine x_if_eq (tgt := 54) d_Choices_advance_44 (by decide) (fun ht => absurd ht (by decide)) (fun _ => ?_)
      refine x_aload_n d_Choices_advance_47 rfl rfl ?_
      refine x_get xf_Choices_26_Choices (Or.inl (by rw [xup_ne npo]; exact eo)) rfl d_Choices_advance_48 ?_
      refine x_iload_n d_Choices_advance_51 rfl ?_
      refine x_iconst (v := 0) d_Choices_advance_52 (by decide) ?_
      refine x_iast (k := k_apicks) rfl xup_self (nI_pos (by omega)) (rd1 _) d_Choices_advance_53 ?_
      refine x_hp (by rw [st1, xup_up]) ?_
      refine x_any (R := fun h3 => chL h3 o v st sa pk lv na ca 1 (List.replicate 6 (.int 1)) ∧ xfr h h3 [pk, lv]) ⟨⟨(by rw [xup_ne (xne eo epk (by decide))]; exact eo), (by rw [xup_ne (xne est epk (by decide))]; exact est), (by rw [xup_ne (xne esa epk (by decide))]; exact esa), xup_self, (by rw [xup_ne (xne elv epk (by decide))]; exact elv), (by rw [xup_ne (xne ena epk (by decide))]; exact ena), (by rw [xup_ne (xne eca epk (by decide))]; exact eca)⟩, hf2.up (Or.inl (by simp))⟩ (fun h3 ⟨hL3, hf3⟩ => ?_)
      clear hL2 hf2 eo est esa epk elv ena eca
      obtain ⟨eo, est, esa, epk, elv, ena, eca⟩ := id hL3
      refine x_aload_n d_Choices_advance_54 rfl rfl ?_
      refine x_get xf_Choices_29_Choices (Or.inl eo) rfl d_Choices_advance_55 ?_
      refine x_iload_n d_Choices_advance_58 rfl ?_
      refine x_aload_n d_Choices_advance_59 rfl rfl ?_
      refine x_iload_n d_Choices_advance_60 rfl ?_
      refine x_callV (As := [_]) (k := k_Choices) rfl xcv_Choices_89_Choices (Or.inl eo) (c_levelOfPick0 (by omega) hL3 (by omega)) rfl rfl (Nat.le_of_ble_eq_true rfl) d_Choices_advance_61 ?_
      rintro r h4 c4 n4 ⟨rfl, rfl, rfl, rfl⟩
      refine x_last (k := k_achl) rfl elv (nI_pos (by omega)) (at6 _) d_Choices_advance_64 ?_
      refine x_any (R := fun h3 => chL h3 o v st sa pk lv na ca 1 (List.replicate 6 (.int 1)) ∧ xfr h h3 [pk, lv]) ⟨⟨(by rw [xup_ne (xne eo elv (by decide))]; exact eo), (by rw [xup_ne (xne est elv (by decide))]; exact est), (by rw [xup_ne (xne esa elv (by decide))]; exact esa), (by rw [xup_ne (xne epk elv (by decide))]; exact epk), (by rw [xup_self, set_rep]), (by rw [xup_ne (xne ena elv (by decide))]; exact ena), (by rw [xup_ne (xne eca elv (by decide))]; exact eca)⟩, hf3.up (Or.inl (by simp))⟩ (fun h5 ⟨hL5, hf5⟩ => ?_)
      refine x_iinc (v := (-1)) (L' := [_, _, _]) d_Choices_advance_65 rfl (by decide) rfl rfl ?_
      refine x_goto (tgt := 4) d_Choices_advance_68 (by decide) ?_
      refine x_iload_n d_Choices_advance_4 rfl ?_
      refine x_if_lt (tgt := 71) d_Choices_advance_5 (by decide) (fun _ => ?_) (fun hn => absurd (by decide) hn)
      exact at71 h5 _ hL5.1 hf5
    | succ j ih =>
      intro h2 hj hL2 hf2
      obtain ⟨eo, est, esa, epk, elv, ena, eca⟩ := id hL2
      have jcl : (nI (j + 1)).toNatClampNeg = (j + 1) := nI_clamp (by omega)
      have at6 : ∀ w : Value, (List.replicate 6 w)[(nI (j + 1)).toNatClampNeg]? = some w := fun w => by rw [jcl, List.getElem?_replicate, if_pos (by omega)]
      refine x_iload_n d_Choices_advance_4 rfl ?_
      refine x_if_lt (tgt := 71) d_Choices_advance_5 (by decide) (fun ht => absurd ht (nI_pos (by omega))) (fun _ => ?_)
      refine x_iload_n d_Choices_advance_8 rfl ?_
      refine x_if_eq (tgt := 71) d_Choices_advance_9 (by decide) (fun ht => absurd ht (by decide)) (fun _ => ?_)
      refine x_aload_n d_Choices_advance_12 rfl rfl ?_
      refine x_get xf_Choices_26_Choices (Or.inl eo) rfl d_Choices_advance_13 ?_
      refine x_iload_n d_Choices_advance_16 rfl ?_
      refine x_dup2_11 d_Choices_advance_17 rfl rfl ?_
      refine x_iald (k := k_apicks) rfl (Or.inl epk) (nI_pos (by omega)) (at6 _) d_Choices_advance_18 ?_
      refine x_iconst (v := 1) d_Choices_advance_19 (by decide) ?_
      refine x_iadd d_Choices_advance_20 ?_
      refine x_iast (k := k_apicks) rfl epk (nI_pos (by omega)) (at6 _) d_Choices_advance_21 ?_
      have npo : o ≠ pk := xne eo epk (by decide)
      have nps : sa ≠ pk := xne esa epk (by decide)
      have rd1 : ∀ w : Value, ((List.replicate 6 (Value.int 0)).set (nI (j + 1)).toNatClampNeg w)[(nI (j + 1)).toNatClampNeg]? = some w := fun w => by rw [jcl, List.getElem?_set_self (by rw [List.length_replicate]; omega)]
      have st1 : ∀ w : Value, ((List.replicate 6 (Value.int 0)).set (nI (j + 1)).toNatClampNeg w).set (nI (j + 1)).toNatClampNeg (.int 0) = List.replicate 6 (.int 0) := fun w => by rw [List.set_set, set_rep]
      refine x_aload_n d_Choices_advance_22 rfl rfl ?_
      refine x_get xf_Choices_26_Choices (Or.inl (by rw [xup_ne npo]; exact eo)) rfl d_Choices_advance_23 ?_
      refine x_iload_n d_Choices_advance_26 rfl ?_
      refine x_iald (k := k_apicks) rfl (Or.inl xup_self) (nI_pos (by omega)) (rd1 _) d_Choices_advance_27 ?_
      refine x_aload_n d_Choices_advance_28 rfl rfl ?_
      refine x_get xf_Choices_23_Choices (Or.inl (by rw [xup_ne npo]; exact eo)) rfl d_Choices_advance_29 ?_
      refine x_iload_n d_Choices_advance_32 rfl ?_
      refine x_iald (k := k_asamples) rfl (Or.inl (by rw [xup_ne nps]; exact esa)) (nI_pos (by omega)) (at6 _) d_Choices_advance_33 ?_
      refine x_icmp_lt (tgt := 41) d_Choices_advance_34 (by decide) (fun ht => absurd ht (by decide)) (fun _ => ?_)
      refine x_iconst (v := 1) d_Choices_advance_37 (by decide) ?_
      refine x_goto (tgt := 42) d_Choices_advance_38 (by decide) ?_
      refine x_istore_n (L' := [_, _, _]) d_Choices_advance_42 rfl rfl ?_
      refine x_iload_n d_Choices_advance_43 rfl ?_
      refine x_if_eq (tgt := 54) d_Choices_advance_44 (by decide) (fun ht => absurd ht (by decide)) (fun _ => ?_)
      refine x_aload_n d_Choices_advance_47 rfl rfl ?_
      refine x_get xf_Choices_26_Choices (Or.inl (by rw [xup_ne npo]; exact eo)) rfl d_Choices_advance_48 ?_
      refine x_iload_n d_Choices_advance_51 rfl ?_
      refine x_iconst (v := 0) d_Choices_advance_52 (by decide) ?_
      refine x_iast (k := k_apicks) rfl xup_self (nI_pos (by omega)) (rd1 _) d_Choices_advance_53 ?_
      refine x_hp (by rw [st1, xup_up]) ?_
      refine x_any (R := fun h3 => chL h3 o v st sa pk lv na ca 1 (List.replicate 6 (.int 1)) ∧ xfr h h3 [pk, lv]) ⟨⟨(by rw [xup_ne (xne eo epk (by decide))]; exact eo), (by rw [xup_ne (xne est epk (by decide))]; exact est), (by rw [xup_ne (xne esa epk (by decide))]; exact esa), xup_self, (by rw [xup_ne (xne elv epk (by decide))]; exact elv), (by rw [xup_ne (xne ena epk (by decide))]; exact ena), (by rw [xup_ne (xne eca epk (by decide))]; exact eca)⟩, hf2.up (Or.inl (by simp))⟩ (fun h3 ⟨hL3, hf3⟩ => ?_)
      clear hL2 hf2 eo est esa epk elv ena eca
      obtain ⟨eo, est, esa, epk, elv, ena, eca⟩ := id hL3
      refine x_aload_n d_Choices_advance_54 rfl rfl ?_
      refine x_get xf_Choices_29_Choices (Or.inl eo) rfl d_Choices_advance_55 ?_
      refine x_iload_n d_Choices_advance_58 rfl ?_
      refine x_aload_n d_Choices_advance_59 rfl rfl ?_
      refine x_iload_n d_Choices_advance_60 rfl ?_
      refine x_callV (As := [_]) (k := k_Choices) rfl xcv_Choices_89_Choices (Or.inl eo) (c_levelOfPick0 (by omega) hL3 (by omega)) rfl rfl (Nat.le_of_ble_eq_true rfl) d_Choices_advance_61 ?_
      rintro r h4 c4 n4 ⟨rfl, rfl, rfl, rfl⟩
      refine x_last (k := k_achl) rfl elv (nI_pos (by omega)) (at6 _) d_Choices_advance_64 ?_
      refine x_any (R := fun h3 => chL h3 o v st sa pk lv na ca 1 (List.replicate 6 (.int 1)) ∧ xfr h h3 [pk, lv]) ⟨⟨(by rw [xup_ne (xne eo elv (by decide))]; exact eo), (by rw [xup_ne (xne est elv (by decide))]; exact est), (by rw [xup_ne (xne esa elv (by decide))]; exact esa), (by rw [xup_ne (xne epk elv (by decide))]; exact epk), (by rw [xup_self, set_rep]), (by rw [xup_ne (xne ena elv (by decide))]; exact ena), (by rw [xup_ne (xne eca elv (by decide))]; exact eca)⟩, hf3.up (Or.inl (by simp))⟩ (fun h5 ⟨hL5, hf5⟩ => ?_)
      refine x_iinc (v := nI j) (L' := [_, _, _]) d_Choices_advance_65 rfl (by exact xw_idec) rfl rfl ?_
      refine x_goto (tgt := 4) d_Choices_advance_68 (by decide) ?_
      exact ih h5 (by omega) hL5 hf5
  refine x_iconst (v := 1) d_Choices_advance_0 (by decide) ?_
  refine x_istore_n (L' := [_, _, _]) d_Choices_advance_1 rfl rfl ?_
  refine x_iconst (v := 5) d_Choices_advance_2 (by decide) ?_
  refine x_istore_n (L' := [_, _, _]) d_Choices_advance_3 rfl rfl ?_
  exact lp 5 h (by omega) hL xfr.rf
/-- a Parting while it is filled -/
abbrev paL (h : XH) (p tr sz fi cl sp : Nat) (cnt : Int32) (t1 t2 t3 t4 : List Value) : Prop := h p = some (k_Parting, [.int cnt, .ref tr, .ref sz, .ref fi, .ref cl, .ref sp]) ∧ h tr = some (k_aptr, t1) ∧ h sz = some (k_apsz, t2) ∧ h fi = some (k_apfi, t3) ∧ h cl = some (k_apcl, t4)
theorem c_has1 {p : Nat} {e : List Value} (hp : h p = some (k_Parting, .int 1 :: e)) : XM l G d M_Parting_has [.ref p, .int 0] h c n (xSame (.int 1) h c n) := by
  refine XM.of (by decide +kernel) (Nat.le_of_ble_eq_true rfl) ?_
  refine x_iload_n d_Parting_has_0 rfl ?_
  refine x_if_lt (tgt := 16) d_Parting_has_1 (by decide) (fun ht => absurd ht (by decide)) (fun _ => ?_)
  refine x_iload_n d_Parting_has_4 rfl ?_
  refine x_aload_n d_Parting_has_5 rfl rfl ?_
  refine x_get xf_Parting_9_Parting (Or.inl hp) rfl d_Parting_has_6 ?_
  refine x_icmp_ge (tgt := 16) d_Parting_has_9 (by decide) (fun ht => absurd ht (by decide)) (fun _ => ?_)
  refine x_iconst (v := 1) d_Parting_has_12 (by decide) ?_
  refine x_goto (tgt := 17) d_Parting_has_13 (by decide) ?_
  refine x_zret d_Parting_has_17 rfl rfl ?_
  exact ⟨rfl, rfl, rfl, rfl⟩
theorem c_countIn0 (hd : 1 ≤ d) {p tr sz fi cl sp : Nat} (hL : paL h p tr sz fi cl sp 0 (List.replicate 256 (Value.int 0)) (List.replicate 256 (Value.int 0)) (List.replicate 256 (Value.int 0)) (List.replicate 256 (Value.int 0))) : XM l G d M_Parting_countIn [.ref p, .int 0, .int 0] h c n (fun r h' c' n' => r = none ∧ h' p = some (k_Parting, [.int 1, .ref tr, .ref sz, .ref fi, .ref cl, .ref sp]) ∧ (∃ F, xfr h h' F ∧ xno h F [k_MarkerText, k_Choices, k_achv, k_astarts, k_asamples, k_apicks, k_achl, k_aCondition, k_aName, k_MarkerTextModel, k_aint, k_along, k_aboolean, k_avals]) ∧ c' = c ∧ n' = n) := by
  obtain ⟨d, rfl⟩ : ∃ q, d = q + 1 := ⟨d - 1, by omega⟩
  obtain ⟨ep, etr, esz, efi, ecl⟩ := id hL
  have hno : xno h [p, tr, sz, fi, cl] [k_MarkerText, k_Choices, k_achv, k_astarts, k_asamples, k_apicks, k_achl, k_aCondition, k_aName, k_MarkerTextModel, k_aint, k_along, k_aboolean, k_avals] := (xno1 ep (by decide)).ap ((xno1 etr (by decide)).ap ((xno1 esz (by decide)).ap ((xno1 efi (by decide)).ap (xno1 ecl (by decide)))))
  have hf0 : xfr h h [p, tr, sz, fi, cl] := xfr.rf
  have a0 : ∀ w : Value, (List.replicate 256 w)[(0 : Int32).toNatClampNeg]? = some w := fun w => rfl
  refine XM.of (by decide +kernel) (Nat.le_of_ble_eq_true rfl) ?_
  refine x_iload_n d_Parting_countIn_0 rfl ?_
  refine x_if_lt (tgt := 11) d_Parting_countIn_1 (by decide) (fun ht => absurd ht (by decide)) (fun _ => ?_)
  refine x_iload_n d_Parting_countIn_4 rfl ?_
  refine x_sipush (v := 256) d_Parting_countIn_5 (by decide) ?_
  refine x_icmp_lt (tgt := 12) d_Parting_countIn_8 (by decide) (fun _ => ?_) (fun hn => absurd (by decide) hn)
  refine x_aload_n d_Parting_countIn_12 rfl rfl ?_
  refine x_get xf_Parting_25_Parting (Or.inl ep) rfl d_Parting_countIn_13 ?_
  refine x_iload_n d_Parting_countIn_16 rfl ?_
  refine x_iald (k := k_apcl) rfl (Or.inl ecl) (by decide) (a0 _) d_Parting_countIn_17 ?_
  refine x_if_ne (tgt := 81) d_Parting_countIn_18 (by decide) (fun ht => absurd rfl ht) (fun _ => ?_)
  refine x_aload_n d_Parting_countIn_21 rfl rfl ?_
  refine x_get xf_Parting_9_Parting (Or.inl ep) rfl d_Parting_countIn_22 ?_
  refine x_sipush (v := 256) d_Parting_countIn_25 (by decide) ?_
  refine x_icmp_ge (tgt := 81) d_Parting_countIn_28 (by decide) (fun ht => absurd ht (by decide)) (fun _ => ?_)
  refine x_aload_n d_Parting_countIn_31 rfl rfl ?_
  refine x_get xf_Parting_15_Parting (Or.inl ep) rfl d_Parting_countIn_32 ?_
  refine x_aload_n d_Parting_countIn_35 rfl rfl ?_
  refine x_get xf_Parting_9_Parting (Or.inl ep) rfl d_Parting_countIn_36 ?_
  refine x_iload_n d_Parting_countIn_39 rfl ?_
  refine x_iast (k := k_aptr) rfl etr (by decide) (a0 _) d_Parting_countIn_40 ?_
  refine x_any (R := fun h3 => paL h3 p tr sz fi cl sp 0 (List.replicate 256 (Value.int 0)) (List.replicate 256 (Value.int 0)) (List.replicate 256 (Value.int 0)) (List.replicate 256 (Value.int 0)) ∧ xfr h h3 [p, tr, sz, fi, cl]) ⟨⟨(by rw [xup_ne (xne ep etr (by decide))]; exact ep), (by rw [xup_self]; exact congrArg _ (congrArg _ set_rep)), (by rw [xup_ne (xne esz etr (by decide))]; exact esz), (by rw [xup_ne (xne efi etr (by decide))]; exact efi), (by rw [xup_ne (xne ecl etr (by decide))]; exact ecl)⟩, hf0.up (Or.inl (by simp))⟩ (fun h1 ⟨hL1, hf1⟩ => ?_)
  clear hL hf0 ep etr esz efi ecl
  obtain ⟨ep, etr, esz, efi, ecl⟩ := id hL1
  refine x_aload_n d_Parting_countIn_41 rfl rfl ?_
  refine x_get xf_Parting_19_Parting (Or.inl ep) rfl d_Parting_countIn_42 ?_
  refine x_aload_n d_Parting_countIn_45 rfl rfl ?_
  refine x_get xf_Parting_9_Parting (Or.inl ep) rfl d_Parting_countIn_46 ?_
  refine x_iconst (v := 0) d_Parting_countIn_49 (by decide) ?_
  refine x_iast (k := k_apsz) rfl esz (by decide) (a0 _) d_Parting_countIn_50 ?_
  refine x_any (R := fun h3 => paL h3 p tr sz fi cl sp 0 (List.replicate 256 (Value.int 0)) (List.replicate 256 (Value.int 0)) (List.replicate 256 (Value.int 0)) (List.replicate 256 (Value.int 0)) ∧ xfr h h3 [p, tr, sz, fi, cl]) ⟨⟨(by rw [xup_ne (xne ep esz (by decide))]; exact ep), (by rw [xup_ne (xne etr esz (by decide))]; exact etr), (by rw [xup_self]; exact congrArg _ (congrArg _ set_rep)), (by rw [xup_ne (xne efi esz (by decide))]; exact efi), (by rw [xup_ne (xne ecl esz (by decide))]; exact ecl)⟩, hf1.up (Or.inl (by simp))⟩ (fun h2 ⟨hL2, hf2⟩ => ?_)
  clear hL1 hf1 ep etr esz efi ecl
  obtain ⟨ep, etr, esz, efi, ecl⟩ := id hL2
  refine x_aload_n d_Parting_countIn_51 rfl rfl ?_
  refine x_get xf_Parting_22_Parting (Or.inl ep) rfl d_Parting_countIn_52 ?_
  refine x_aload_n d_Parting_countIn_55 rfl rfl ?_
  refine x_get xf_Parting_9_Parting (Or.inl ep) rfl d_Parting_countIn_56 ?_
  refine x_iload_n d_Parting_countIn_59 rfl ?_
  refine x_iast (k := k_apfi) rfl efi (by decide) (a0 _) d_Parting_countIn_60 ?_
  refine x_any (R := fun h3 => paL h3 p tr sz fi cl sp 0 (List.replicate 256 (Value.int 0)) (List.replicate 256 (Value.int 0)) (List.replicate 256 (Value.int 0)) (List.replicate 256 (Value.int 0)) ∧ xfr h h3 [p, tr, sz, fi, cl]) ⟨⟨(by rw [xup_ne (xne ep efi (by decide))]; exact ep), (by rw [xup_ne (xne etr efi (by decide))]; exact etr), (by rw [xup_ne (xne esz efi (by decide))]; exact esz), (by rw [xup_self]; exact congrArg _ (congrArg _ set_rep)), (by rw [xup_ne (xne ecl efi (by decide))]; exact ecl)⟩, hf2.up (Or.inl (by simp))⟩ (fun h3 ⟨hL3, hf3⟩ => ?_)
  clear hL2 hf2 ep etr esz efi ecl
  obtain ⟨ep, etr, esz, efi, ecl⟩ := id hL3
  refine x_aload_n d_Parting_countIn_61 rfl rfl ?_
  refine x_dup d_Parting_countIn_62 rfl ?_
  refine x_get xf_Parting_9_Parting (Or.inl ep) rfl d_Parting_countIn_63 ?_
  refine x_iconst (v := 1) d_Parting_countIn_66 (by decide) ?_
  refine x_iadd d_Parting_countIn_67 ?_
  refine x_top (w := .int 1) (by decide) ?_
  refine x_put xf_Parting_9_Parting xp_Parting_0 rfl rfl ep rfl rfl d_Parting_countIn_68 ?_
  refine x_any (R := fun h3 => paL h3 p tr sz fi cl sp 1 (List.replicate 256 (Value.int 0)) (List.replicate 256 (Value.int 0)) (List.replicate 256 (Value.int 0)) (List.replicate 256 (Value.int 0)) ∧ xfr h h3 [p, tr, sz, fi, cl]) ⟨⟨xup_self, (by rw [xup_ne (xne etr ep (by decide))]; exact etr), (by rw [xup_ne (xne esz ep (by decide))]; exact esz), (by rw [xup_ne (xne efi ep (by decide))]; exact efi), (by rw [xup_ne (xne ecl ep (by decide))]; exact ecl)⟩, hf3.up (Or.inl (by simp))⟩ (fun h4 ⟨hL4, hf4⟩ => ?_)
  clear hL3 hf3 ep etr esz efi ecl
  obtain ⟨ep, etr, esz, efi, ecl⟩ := id hL4
  refine x_aload_n d_Parting_countIn_71 rfl rfl ?_
  refine x_get xf_Parting_25_Parting (Or.inl ep) rfl d_Parting_countIn_72 ?_
  refine x_iload_n d_Parting_countIn_75 rfl ?_
  refine x_aload_n d_Parting_countIn_76 rfl rfl ?_
  refine x_get xf_Parting_9_Parting (Or.inl ep) rfl d_Parting_countIn_77 ?_
  refine x_iast (k := k_apcl) rfl ecl (by decide) (a0 _) d_Parting_countIn_80 ?_
  refine x_any (R := fun h3 => paL h3 p tr sz fi cl sp 1 (List.replicate 256 (Value.int 0)) (List.replicate 256 (Value.int 0)) (List.replicate 256 (Value.int 0)) ((List.replicate 256 (Value.int 0)).set 0 (.int 1)) ∧ xfr h h3 [p, tr, sz, fi, cl]) ⟨⟨(by rw [xup_ne (xne ep ecl (by decide))]; exact ep), (by rw [xup_ne (xne etr ecl (by decide))]; exact etr), (by rw [xup_ne (xne esz ecl (by decide))]; exact esz), (by rw [xup_ne (xne efi ecl (by decide))]; exact efi), xup_self⟩, hf4.up (Or.inl (by simp))⟩ (fun h5 ⟨hL5, hf5⟩ => ?_)
  clear hL4 hf4 ep etr esz efi ecl
  obtain ⟨ep, etr, esz, efi, ecl⟩ := id hL5
  refine x_aload_n d_Parting_countIn_81 rfl rfl ?_
  refine x_get xf_Parting_25_Parting (Or.inl ep) rfl d_Parting_countIn_82 ?_
  refine x_iload_n d_Parting_countIn_85 rfl ?_
  refine x_iald (k := k_apcl) rfl (Or.inl ecl) (by decide) rfl d_Parting_countIn_86 ?_
  refine x_iconst (v := 1) d_Parting_countIn_87 (by decide) ?_
  refine x_isub d_Parting_countIn_88 ?_
  refine x_st (st' := [.int 0]) (by decide) ?_
  refine x_istore_n (L' := [_, _, _, _]) d_Parting_countIn_89 rfl rfl ?_
  refine x_aload_n d_Parting_countIn_90 rfl rfl ?_
  refine x_iload_n d_Parting_countIn_91 rfl ?_
  refine x_callV (As := [_]) (k := k_Parting) rfl xcv_Parting_57_Parting (Or.inl ep) (c_has1 ep) rfl rfl (Nat.le_of_ble_eq_true rfl) d_Parting_countIn_92 ?_
  rintro r h6 c6 n6 ⟨rfl, rfl, rfl, rfl⟩
  refine x_if_eq (tgt := 108) d_Parting_countIn_95 (by decide) (fun ht => absurd ht (by decide)) (fun _ => ?_)
  refine x_aload_n d_Parting_countIn_98 rfl rfl ?_
  refine x_get xf_Parting_19_Parting (Or.inl ep) rfl d_Parting_countIn_99 ?_
  refine x_iload_n d_Parting_countIn_102 rfl ?_
  refine x_dup2_11 d_Parting_countIn_103 rfl rfl ?_
  refine x_iald (k := k_apsz) rfl (Or.inl esz) (by decide) (a0 _) d_Parting_countIn_104 ?_
  refine x_iconst (v := 1) d_Parting_countIn_105 (by decide) ?_
  refine x_iadd d_Parting_countIn_106 ?_
  refine x_iast (k := k_apsz) rfl esz (by decide) (a0 _) d_Parting_countIn_107 ?_
  refine x_vret d_Parting_countIn_108 rfl ?_
  exact ⟨rfl, by rw [xup_ne (xne ep esz (by decide))]; exact ep, ⟨_, hf5.up (Or.inl (by simp)), hno⟩, rfl, rfl⟩
end P1C
