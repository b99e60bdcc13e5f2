section
abbrev y_Mo_addNode : MethodName := ⟨"MarkerTextModel", "addNode", "(III)I"⟩
abbrev M_Mo_addNode : XMt := (y_Mo_addNode, prog_13_method_21_code, 5, (some .int))
theorem d_Mo_addNode_0 : decode M_Mo_addNode.2.1 0 = .ok (.sipush 128, 3) := by decide +kernel
theorem d_Mo_addNode_3 : decode M_Mo_addNode.2.1 3 = .ok (.aload_n 0, 1) := by decide +kernel
theorem d_Mo_addNode_4 : decode M_Mo_addNode.2.1 4 = .ok (.getfield 196, 3) := by decide +kernel
theorem xw_1198 : (Jvm.Cond.fieldLink "MarkerTextModel" (196 : Nat) "MarkerTextModel" "slot" "I") ∈ xT := xT_at 1198 (by decide +kernel) (by decide +kernel)
theorem xf_Mo_196_Mo : xF "MarkerTextModel" 196 k_MarkerTextModel 28 := ⟨_, _, _, "MarkerTextModel", rfl, by decide, Or.inl xw_1198, Or.inl rfl⟩
theorem d_Mo_addNode_7 : decode M_Mo_addNode.2.1 7 = .ok (.imul, 1) := by decide +kernel
theorem d_Mo_addNode_8 : decode M_Mo_addNode.2.1 8 = .ok (.aload_n 0, 1) := by decide +kernel
theorem d_Mo_addNode_9 : decode M_Mo_addNode.2.1 9 = .ok (.getfield 45, 3) := by decide +kernel
theorem d_Mo_addNode_12 : decode M_Mo_addNode.2.1 12 = .ok (.aload_n 0, 1) := by decide +kernel
theorem d_Mo_addNode_13 : decode M_Mo_addNode.2.1 13 = .ok (.getfield 196, 3) := by decide +kernel
theorem d_Mo_addNode_16 : decode M_Mo_addNode.2.1 16 = .ok (.iaload, 1) := by decide +kernel
theorem d_Mo_addNode_17 : decode M_Mo_addNode.2.1 17 = .ok (.iadd, 1) := by decide +kernel
theorem d_Mo_addNode_18 : decode M_Mo_addNode.2.1 18 = .ok (.istore 4, 2) := by decide +kernel
theorem d_Mo_addNode_20 : decode M_Mo_addNode.2.1 20 = .ok (.aload_n 0, 1) := by decide +kernel
theorem d_Mo_addNode_21 : decode M_Mo_addNode.2.1 21 = .ok (.getfield 36, 3) := by decide +kernel
theorem d_Mo_addNode_24 : decode M_Mo_addNode.2.1 24 = .ok (.iload 4, 2) := by decide +kernel
theorem d_Mo_addNode_26 : decode M_Mo_addNode.2.1 26 = .ok (.iload_n 1, 1) := by decide +kernel
theorem d_Mo_addNode_27 : decode M_Mo_addNode.2.1 27 = .ok (.iastore, 1) := by decide +kernel
theorem d_Mo_addNode_28 : decode M_Mo_addNode.2.1 28 = .ok (.aload_n 0, 1) := by decide +kernel
theorem d_Mo_addNode_29 : decode M_Mo_addNode.2.1 29 = .ok (.getfield 39, 3) := by decide +kernel
theorem d_Mo_addNode_32 : decode M_Mo_addNode.2.1 32 = .ok (.iload 4, 2) := by decide +kernel
theorem d_Mo_addNode_34 : decode M_Mo_addNode.2.1 34 = .ok (.iload_n 2, 1) := by decide +kernel
theorem d_Mo_addNode_35 : decode M_Mo_addNode.2.1 35 = .ok (.iastore, 1) := by decide +kernel
theorem d_Mo_addNode_36 : decode M_Mo_addNode.2.1 36 = .ok (.aload_n 0, 1) := by decide +kernel
theorem d_Mo_addNode_37 : decode M_Mo_addNode.2.1 37 = .ok (.getfield 42, 3) := by decide +kernel
theorem d_Mo_addNode_40 : decode M_Mo_addNode.2.1 40 = .ok (.iload 4, 2) := by decide +kernel
theorem d_Mo_addNode_42 : decode M_Mo_addNode.2.1 42 = .ok (.iload_n 3, 1) := by decide +kernel
theorem d_Mo_addNode_43 : decode M_Mo_addNode.2.1 43 = .ok (.iastore, 1) := by decide +kernel
theorem d_Mo_addNode_44 : decode M_Mo_addNode.2.1 44 = .ok (.aload_n 0, 1) := by decide +kernel
theorem d_Mo_addNode_45 : decode M_Mo_addNode.2.1 45 = .ok (.getfield 45, 3) := by decide +kernel
theorem d_Mo_addNode_48 : decode M_Mo_addNode.2.1 48 = .ok (.aload_n 0, 1) := by decide +kernel
theorem d_Mo_addNode_49 : decode M_Mo_addNode.2.1 49 = .ok (.getfield 196, 3) := by decide +kernel
theorem d_Mo_addNode_52 : decode M_Mo_addNode.2.1 52 = .ok (.dup2, 1) := by decide +kernel
theorem d_Mo_addNode_53 : decode M_Mo_addNode.2.1 53 = .ok (.iaload, 1) := by decide +kernel
theorem d_Mo_addNode_54 : decode M_Mo_addNode.2.1 54 = .ok (.iconst 1, 1) := by decide +kernel
theorem d_Mo_addNode_55 : decode M_Mo_addNode.2.1 55 = .ok (.iadd, 1) := by decide +kernel
theorem d_Mo_addNode_56 : decode M_Mo_addNode.2.1 56 = .ok (.iastore, 1) := by decide +kernel
theorem d_Mo_addNode_57 : decode M_Mo_addNode.2.1 57 = .ok (.iload 4, 2) := by decide +kernel
theorem d_Mo_addNode_59 : decode M_Mo_addNode.2.1 59 = .ok (.ireturn, 1) := by decide +kernel
abbrev y_Mo_isOnTop : MethodName := ⟨"MarkerTextModel", "isOnTop", "(I)Z"⟩
abbrev M_Mo_isOnTop : XMt := (y_Mo_isOnTop, prog_13_method_23_code, 2, (some .boolean))
theorem d_Mo_isOnTop_0 : decode M_Mo_isOnTop.2.1 0 = .ok (.aload_n 0, 1) := by decide +kernel
theorem d_Mo_isOnTop_1 : decode M_Mo_isOnTop.2.1 1 = .ok (.getfield 199, 3) := by decide +kernel
theorem xw_1202 : (Jvm.Cond.fieldLink "MarkerTextModel" (199 : Nat) "MarkerTextModel" "pile" "I") ∈ xT := xT_at 1202 (by decide +kernel) (by decide +kernel)
theorem xf_Mo_199_Mo : xF "MarkerTextModel" 199 k_MarkerTextModel 32 := ⟨_, _, _, "MarkerTextModel", rfl, by decide, Or.inl xw_1202, Or.inl rfl⟩
theorem d_Mo_isOnTop_4 : decode M_Mo_isOnTop.2.1 4 = .ok (.ifCond .le 22, 3) := by decide +kernel
theorem d_Mo_isOnTop_26 : decode M_Mo_isOnTop.2.1 26 = .ok (.iconst 0, 1) := by decide +kernel
theorem d_Mo_isOnTop_27 : decode M_Mo_isOnTop.2.1 27 = .ok (.ireturn, 1) := by decide +kernel
theorem d_Mo_isOnTop_7 : decode M_Mo_isOnTop.2.1 7 = .ok (.aload_n 0, 1) := by decide +kernel
theorem d_Mo_isOnTop_8 : decode M_Mo_isOnTop.2.1 8 = .ok (.getfield 85, 3) := by decide +kernel
theorem d_Mo_isOnTop_11 : decode M_Mo_isOnTop.2.1 11 = .ok (.aload_n 0, 1) := by decide +kernel
theorem d_Mo_isOnTop_12 : decode M_Mo_isOnTop.2.1 12 = .ok (.getfield 199, 3) := by decide +kernel
theorem d_Mo_isOnTop_15 : decode M_Mo_isOnTop.2.1 15 = .ok (.iconst 1, 1) := by decide +kernel
theorem d_Mo_isOnTop_16 : decode M_Mo_isOnTop.2.1 16 = .ok (.isub, 1) := by decide +kernel
theorem d_Mo_isOnTop_17 : decode M_Mo_isOnTop.2.1 17 = .ok (.iaload, 1) := by decide +kernel
theorem d_Mo_isOnTop_18 : decode M_Mo_isOnTop.2.1 18 = .ok (.iload_n 1, 1) := by decide +kernel
theorem d_Mo_isOnTop_19 : decode M_Mo_isOnTop.2.1 19 = .ok (.if_icmp .ne 7, 3) := by decide +kernel
theorem d_Mo_isOnTop_22 : decode M_Mo_isOnTop.2.1 22 = .ok (.iconst 1, 1) := by decide +kernel
theorem d_Mo_isOnTop_23 : decode M_Mo_isOnTop.2.1 23 = .ok (.goto 4, 3) := by decide +kernel
abbrev y_Mo_apply : MethodName := ⟨"MarkerTextModel", "apply", "()V"⟩
abbrev M_Mo_apply : XMt := (y_Mo_apply, prog_13_method_22_code, 4, none)
theorem d_Mo_apply_0 : decode M_Mo_apply.2.1 0 = .ok (.aload_n 0, 1) := by decide +kernel
theorem d_Mo_apply_1 : decode M_Mo_apply.2.1 1 = .ok (.dup, 1) := by decide +kernel
theorem d_Mo_apply_2 : decode M_Mo_apply.2.1 2 = .ok (.getfield 199, 3) := by decide +kernel
theorem d_Mo_apply_5 : decode M_Mo_apply.2.1 5 = .ok (.iconst 1, 1) := by decide +kernel
theorem d_Mo_apply_6 : decode M_Mo_apply.2.1 6 = .ok (.isub, 1) := by decide +kernel
theorem d_Mo_apply_7 : decode M_Mo_apply.2.1 7 = .ok (.putfield 199, 3) := by decide +kernel
theorem xp_Mo_32 : xP k_MarkerTextModel 32 false .int := ⟨_, _, _, rfl, rfl, by decide +kernel⟩
theorem d_Mo_apply_10 : decode M_Mo_apply.2.1 10 = .ok (.aload_n 0, 1) := by decide +kernel
theorem d_Mo_apply_11 : decode M_Mo_apply.2.1 11 = .ok (.getfield 85, 3) := by decide +kernel
theorem d_Mo_apply_14 : decode M_Mo_apply.2.1 14 = .ok (.aload_n 0, 1) := by decide +kernel
theorem d_Mo_apply_15 : decode M_Mo_apply.2.1 15 = .ok (.getfield 199, 3) := by decide +kernel
theorem d_Mo_apply_18 : decode M_Mo_apply.2.1 18 = .ok (.iaload, 1) := by decide +kernel
theorem d_Mo_apply_19 : decode M_Mo_apply.2.1 19 = .ok (.istore_n 1, 1) := by decide +kernel
theorem d_Mo_apply_20 : decode M_Mo_apply.2.1 20 = .ok (.aload_n 0, 1) := by decide +kernel
theorem d_Mo_apply_21 : decode M_Mo_apply.2.1 21 = .ok (.dup, 1) := by decide +kernel
theorem d_Mo_apply_22 : decode M_Mo_apply.2.1 22 = .ok (.getfield 202, 3) := by decide +kernel
theorem xw_1203 : (Jvm.Cond.fieldLink "MarkerTextModel" (202 : Nat) "MarkerTextModel" "opens" "I") ∈ xT := xT_at 1203 (by decide +kernel) (by decide +kernel)
theorem xf_Mo_202_Mo : xF "MarkerTextModel" 202 k_MarkerTextModel 33 := ⟨_, _, _, "MarkerTextModel", rfl, by decide, Or.inl xw_1203, Or.inl rfl⟩
theorem d_Mo_apply_25 : decode M_Mo_apply.2.1 25 = .ok (.iload_n 1, 1) := by decide +kernel
theorem d_Mo_apply_26 : decode M_Mo_apply.2.1 26 = .ok (.iconst 1, 1) := by decide +kernel
theorem d_Mo_apply_27 : decode M_Mo_apply.2.1 27 = .ok (.if_icmp .ne 7, 3) := by decide +kernel
theorem d_Mo_apply_30 : decode M_Mo_apply.2.1 30 = .ok (.iconst 1, 1) := by decide +kernel
theorem d_Mo_apply_31 : decode M_Mo_apply.2.1 31 = .ok (.goto 4, 3) := by decide +kernel
theorem d_Mo_apply_35 : decode M_Mo_apply.2.1 35 = .ok (.isub, 1) := by decide +kernel
theorem d_Mo_apply_36 : decode M_Mo_apply.2.1 36 = .ok (.putfield 202, 3) := by decide +kernel
theorem xp_Mo_33 : xP k_MarkerTextModel 33 false .int := ⟨_, _, _, rfl, rfl, by decide +kernel⟩
theorem d_Mo_apply_39 : decode M_Mo_apply.2.1 39 = .ok (.aload_n 0, 1) := by decide +kernel
theorem d_Mo_apply_40 : decode M_Mo_apply.2.1 40 = .ok (.getfield 88, 3) := by decide +kernel
theorem d_Mo_apply_43 : decode M_Mo_apply.2.1 43 = .ok (.aload_n 0, 1) := by decide +kernel
theorem d_Mo_apply_44 : decode M_Mo_apply.2.1 44 = .ok (.getfield 205, 3) := by decide +kernel
theorem xw_1205 : (Jvm.Cond.fieldLink "MarkerTextModel" (205 : Nat) "MarkerTextModel" "readyMany" "I") ∈ xT := xT_at 1205 (by decide +kernel) (by decide +kernel)
theorem xf_Mo_205_Mo : xF "MarkerTextModel" 205 k_MarkerTextModel 35 := ⟨_, _, _, "MarkerTextModel", rfl, by decide, Or.inl xw_1205, Or.inl rfl⟩
theorem d_Mo_apply_47 : decode M_Mo_apply.2.1 47 = .ok (.iconst 1, 1) := by decide +kernel
theorem d_Mo_apply_48 : decode M_Mo_apply.2.1 48 = .ok (.isub, 1) := by decide +kernel
theorem d_Mo_apply_49 : decode M_Mo_apply.2.1 49 = .ok (.iaload, 1) := by decide +kernel
theorem d_Mo_apply_50 : decode M_Mo_apply.2.1 50 = .ok (.istore_n 2, 1) := by decide +kernel
theorem d_Mo_apply_51 : decode M_Mo_apply.2.1 51 = .ok (.iload_n 1, 1) := by decide +kernel
theorem d_Mo_apply_52 : decode M_Mo_apply.2.1 52 = .ok (.iconst 1, 1) := by decide +kernel
theorem d_Mo_apply_53 : decode M_Mo_apply.2.1 53 = .ok (.if_icmp .ne 7, 3) := by decide +kernel
theorem d_Mo_apply_56 : decode M_Mo_apply.2.1 56 = .ok (.iconst (-1), 1) := by decide +kernel
theorem d_Mo_apply_57 : decode M_Mo_apply.2.1 57 = .ok (.goto 14, 3) := by decide +kernel
theorem d_Mo_apply_71 : decode M_Mo_apply.2.1 71 = .ok (.istore_n 3, 1) := by decide +kernel
theorem d_Mo_apply_72 : decode M_Mo_apply.2.1 72 = .ok (.aload_n 0, 1) := by decide +kernel
theorem d_Mo_apply_73 : decode M_Mo_apply.2.1 73 = .ok (.dup, 1) := by decide +kernel
theorem d_Mo_apply_74 : decode M_Mo_apply.2.1 74 = .ok (.getfield 205, 3) := by decide +kernel
theorem d_Mo_apply_77 : decode M_Mo_apply.2.1 77 = .ok (.iload_n 1, 1) := by decide +kernel
theorem d_Mo_apply_78 : decode M_Mo_apply.2.1 78 = .ok (.iconst 1, 1) := by decide +kernel
theorem d_Mo_apply_79 : decode M_Mo_apply.2.1 79 = .ok (.if_icmp .ne 7, 3) := by decide +kernel
theorem d_Mo_apply_82 : decode M_Mo_apply.2.1 82 = .ok (.iconst 1, 1) := by decide +kernel
theorem d_Mo_apply_83 : decode M_Mo_apply.2.1 83 = .ok (.goto 4, 3) := by decide +kernel
theorem d_Mo_apply_87 : decode M_Mo_apply.2.1 87 = .ok (.isub, 1) := by decide +kernel
theorem d_Mo_apply_88 : decode M_Mo_apply.2.1 88 = .ok (.putfield 205, 3) := by decide +kernel
theorem xp_Mo_35 : xP k_MarkerTextModel 35 false .int := ⟨_, _, _, rfl, rfl, by decide +kernel⟩
theorem d_Mo_apply_91 : decode M_Mo_apply.2.1 91 = .ok (.aload_n 0, 1) := by decide +kernel
theorem d_Mo_apply_92 : decode M_Mo_apply.2.1 92 = .ok (.getfield 88, 3) := by decide +kernel
theorem d_Mo_apply_95 : decode M_Mo_apply.2.1 95 = .ok (.aload_n 0, 1) := by decide +kernel
theorem d_Mo_apply_96 : decode M_Mo_apply.2.1 96 = .ok (.getfield 205, 3) := by decide +kernel
theorem d_Mo_apply_99 : decode M_Mo_apply.2.1 99 = .ok (.aload_n 0, 1) := by decide +kernel
theorem d_Mo_apply_100 : decode M_Mo_apply.2.1 100 = .ok (.iload_n 1, 1) := by decide +kernel
theorem d_Mo_apply_101 : decode M_Mo_apply.2.1 101 = .ok (.iload_n 3, 1) := by decide +kernel
theorem d_Mo_apply_102 : decode M_Mo_apply.2.1 102 = .ok (.iload_n 2, 1) := by decide +kernel
theorem d_Mo_apply_103 : decode M_Mo_apply.2.1 103 = .ok (.invokevirtual 208, 3) := by decide +kernel
theorem xw_1454 : (Jvm.Cond.code ({ cls := "MarkerTextModel", name := "addNode", desc := "(III)I" } : Jvm.MethodName) prog_13_method_21_code (5 : Nat) (Option.some Jvm.ClassFile.FieldType.int)) ∈ xT := xT_at 1454 (by decide +kernel) (by decide +kernel)
theorem xcb_Mo_addNode : xcb M_Mo_addNode 3 := ⟨xw_1454, xw_8, by decide, by decide, by decide, by decide +kernel⟩
theorem xw_1453 : (Jvm.Cond.instanceMethod ({ cls := "MarkerTextModel", name := "addNode", desc := "(III)I" } : Jvm.MethodName)) ∈ xT := xT_at 1453 (by decide +kernel) (by decide +kernel)
theorem xw_1451 : (Jvm.Cond.methodLink "MarkerTextModel" (208 : Nat) ({ cls := "MarkerTextModel", name := "addNode", desc := "(III)I" } : Jvm.MethodName)) ∈ xT := xT_at 1451 (by decide +kernel) (by decide +kernel)
theorem xsel_Mo_addNode : Cond.selects "MarkerTextModel" y_Mo_addNode y_Mo_addNode ∈ xT := xT_sel (q := (y_Mo_addNode, 52)) (by decide +kernel) (by decide +kernel)
theorem xcv_Mo_208_Mo : xCV "MarkerTextModel" 208 "MarkerTextModel" M_Mo_addNode 3 := ⟨xcb_Mo_addNode, xw_1453, Or.inl ⟨xw_1451, Or.inl xsel_Mo_addNode⟩⟩
theorem d_Mo_apply_106 : decode M_Mo_apply.2.1 106 = .ok (.iastore, 1) := by decide +kernel
theorem d_Mo_apply_107 : decode M_Mo_apply.2.1 107 = .ok (.aload_n 0, 1) := by decide +kernel
theorem d_Mo_apply_108 : decode M_Mo_apply.2.1 108 = .ok (.dup, 1) := by decide +kernel
theorem d_Mo_apply_109 : decode M_Mo_apply.2.1 109 = .ok (.getfield 205, 3) := by decide +kernel
theorem d_Mo_apply_112 : decode M_Mo_apply.2.1 112 = .ok (.iconst 1, 1) := by decide +kernel
theorem d_Mo_apply_113 : decode M_Mo_apply.2.1 113 = .ok (.iadd, 1) := by decide +kernel
theorem d_Mo_apply_114 : decode M_Mo_apply.2.1 114 = .ok (.putfield 205, 3) := by decide +kernel
theorem d_Mo_apply_117 : decode M_Mo_apply.2.1 117 = .ok (.return_, 1) := by decide +kernel
theorem d_Mo_apply_34 : decode M_Mo_apply.2.1 34 = .ok (.iconst 0, 1) := by decide +kernel
theorem d_Mo_apply_60 : decode M_Mo_apply.2.1 60 = .ok (.aload_n 0, 1) := by decide +kernel
theorem d_Mo_apply_61 : decode M_Mo_apply.2.1 61 = .ok (.getfield 88, 3) := by decide +kernel
theorem d_Mo_apply_64 : decode M_Mo_apply.2.1 64 = .ok (.aload_n 0, 1) := by decide +kernel
theorem d_Mo_apply_65 : decode M_Mo_apply.2.1 65 = .ok (.getfield 205, 3) := by decide +kernel
theorem d_Mo_apply_68 : decode M_Mo_apply.2.1 68 = .ok (.iconst 2, 1) := by decide +kernel
theorem d_Mo_apply_69 : decode M_Mo_apply.2.1 69 = .ok (.isub, 1) := by decide +kernel
theorem d_Mo_apply_70 : decode M_Mo_apply.2.1 70 = .ok (.iaload, 1) := by decide +kernel
theorem d_Mo_apply_86 : decode M_Mo_apply.2.1 86 = .ok (.iconst 2, 1) := by decide +kernel
end
section RF6
variable {l : Launch} {G : XG} {h : XH} {c n d : Nat} {o : Nat} {rf : Nat → Nat} {S : MS}
/-- the conditions of other numbers stay -/
def agO (S S' : MS) (s : Int) : Prop := ∀ c : Int, 0 ≤ c → c ≠ s → agr S S' c
theorem agO.r0 {s : Int} : agO S S s := fun _ _ _ => agr.rf
theorem agO.tr {S' S'' : MS} {s : Int} (a : agO S S' s) (b : agO S' S'' s) : agO S S'' s := fun c h1 h2 => (a c h1 h2).tr (b c h1 h2)
theorem agO.sm {S' : MS} {s : Int} {js is ls : List Nat} (h : rSm S S' js is ls) (hn : ∀ i ∈ [12, 13, 14, 15, 16, 17, 18, 19, 20, 21, 24, 26], i ∉ is) : agO S S' s := fun _ _ _ => agr.sm h hn
theorem csOk.ag {S' : MS} {s : Int} (h : csOk S) (a : agO S S' s) (h11 : S'.1 11 = S.1 11) (hs : S.1 11 ≤ s) : csOk S' := by
  obtain ⟨h1, h2, h3⟩ := h
  refine ⟨by omega, by omega, fun c hc1 hc2 => (h3 c hc1 (by omega)).agr (a c hc1 (by omega))⟩
theorem agr_se {S' : MS} {c e z : Int} {i : Nat} {N : Nat} (hl : (S.2.1 i).length = N) (he : 0 ≤ e) (h1 : e < N) (hS : S' = sa S i (se (S.2.1 i) e z)) (hc : 0 ≤ c) (hi : (i ∈ [12, 13, 14] ∧ (e < 128 * c ∨ 128 * c + 128 ≤ e)) ∨ (i ∈ [17, 18, 19, 20] ∧ (e < 40 * c ∨ 40 * c + 40 ≤ e)) ∨ (i = 24 ∧ (e < 64 * c ∨ 64 * c + 64 ≤ e)) ∨ (i ∈ [15, 16, 21, 26] ∧ e ≠ c)) : agr S S' c := by
  subst hS
  have key : ∀ (q : Nat) (m : Int), 0 ≤ m → (q = i → m ≠ e) → gd ((sa S i (se (S.2.1 i) e z)).2.1 q) m = gd (S.2.1 q) m := by
    intro q m hm hq
    show gd (fup S.2.1 i (se (S.2.1 i) e z) q) m = _
    by_cases hqi : q = i
    · subst hqi
      rw [fup_self, gd_se_of hl he h1 hm, if_neg (hq rfl)]
    · rw [fup_ne hqi]
  refine ⟨fun q hq m h1 h2 => key q m (by omega) (fun e' => ?_), fun q hq m h1 h2 => key q m (by omega) (fun e' => ?_), fun m h1 h2 => key 24 m (by omega) (fun e' => ?_), fun q hq => key q c hc (fun e' => ?_)⟩
  · subst e'
    rcases hi with ⟨-, hi⟩ | ⟨hi, -⟩ | ⟨hi, -⟩ | ⟨hi, -⟩
    · omega
    · exact absurd hi ((by decide : ∀ q ∈ [12, 13, 14], q ∉ [17, 18, 19, 20]) q hq)
    · subst hi; exact absurd hq (by decide)
    · exact absurd hi ((by decide : ∀ q ∈ [12, 13, 14], q ∉ [15, 16, 21, 26]) q hq)
  · subst e'
    rcases hi with ⟨hi, -⟩ | ⟨-, hi⟩ | ⟨hi, -⟩ | ⟨hi, -⟩
    · exact absurd hi ((by decide : ∀ q ∈ [17, 18, 19, 20], q ∉ [12, 13, 14]) q hq)
    · omega
    · subst hi; exact absurd hq (by decide)
    · exact absurd hi ((by decide : ∀ q ∈ [17, 18, 19, 20], q ∉ [15, 16, 21, 26]) q hq)
  · subst e'
    rcases hi with ⟨hi, -⟩ | ⟨hi, -⟩ | ⟨-, hi⟩ | ⟨hi, -⟩
    · exact absurd hi (by decide)
    · exact absurd hi (by decide)
    · omega
    · exact absurd hi (by decide)
  · subst e'
    rcases hi with ⟨hi, -⟩ | ⟨hi, -⟩ | ⟨hi, -⟩ | ⟨-, hi⟩
    · exact absurd hi ((by decide : ∀ q ∈ [15, 16, 21, 26], q ∉ [12, 13, 14]) q hq)
    · exact absurd hi ((by decide : ∀ q ∈ [15, 16, 21, 26], q ∉ [17, 18, 19, 20]) q hq)
    · subst hi; exact absurd hq (by decide)
    · exact fun z => hi z.symm
/-- the next node's number -/
abbrev nxN (S : MS) : Int := 128 * S.1 28 + gd (S.2.1 15) (S.1 28)
abbrev adN (S : MS) (k a b : Int) : MS := sa (sa (sa (sa S 12 (se (S.2.1 12) (nxN S) k)) 13 (se (S.2.1 13) (nxN S) a)) 14 (se (S.2.1 14) (nxN S) b)) 15 (se (S.2.1 15) (S.1 28) (gd (S.2.1 15) (S.1 28) + 1))
theorem r_addNode {k a b : Int} (hk : inR k) (ha : inR a) (hb : inR b) (hs : 0 ≤ S.1 28 ∧ S.1 28 ≤ 8) (hN : 0 ≤ gd (S.2.1 15) (S.1 28) ∧ gd (S.2.1 15) (S.1 28) < 128) : RM l G d M_Mo_addNode [.ref o, .int (zI k), .int (zI a), .int (zI b)] o rf S (fun w S' => S' = adN S k a b ∧ w = some (.int (zI (nxN S)))) := by
  intro H0 c n hR
  refine XM.of (by decide +kernel) (Nat.le_of_ble_eq_true rfl) ?_
  have hX : xonly H0 H0 RKs := xonly.rf
  refine x_sipush (v := zI 128) d_Mo_addNode_0 (by decide) ?_
  refine x_aload_n d_Mo_addNode_3 rfl rfl ?_
  refine x_get xf_Mo_196_Mo (Or.inl hR.1) (v := .int (zI (S.1 28))) rfl d_Mo_addNode_4 ?_
  have hb4 : inR (S.1 28) := hR.2.2.2 28
  refine z_imul d_Mo_addNode_7 ?_
  refine x_aload_n d_Mo_addNode_8 rfl rfl ?_
  refine x_get xf_Mo_45_Mo (Or.inl hR.1) (v := .ref (rf 15)) rfl d_Mo_addNode_9 ?_
  refine x_aload_n d_Mo_addNode_12 rfl rfl ?_
  refine x_get xf_Mo_196_Mo (Or.inl hR.1) (v := .int (zI (S.1 28))) rfl d_Mo_addNode_13 ?_
  have hb13 : inR (S.1 28) := hR.2.2.2 28
  refine r_iald (i := 15) (us := (S.2.1 15)) rfl (by decide) hR rfl (by omega) (by show S.1 28 < 9; omega) d_Mo_addNode_16 (fun hr16 => ?_)
  refine z_iadd d_Mo_addNode_17 ?_
  refine x_istore (L' := [_, _, _, _, _]) d_Mo_addNode_18 rfl rfl ?_
  refine x_aload_n d_Mo_addNode_20 rfl rfl ?_
  refine x_get xf_Mo_36_Mo (Or.inl hR.1) (v := .ref (rf 12)) rfl d_Mo_addNode_21 ?_
  refine x_iload d_Mo_addNode_24 rfl ?_
  refine x_iload_n d_Mo_addNode_26 rfl ?_
  refine r_iast (i := 12) (us := (S.2.1 12)) ⟨rfl, rfl⟩ (by decide) hR hX rfl (by omega) (by show 128 * S.1 28 + gd (S.2.1 15) (S.1 28) < 1152; omega) (by omega) d_Mo_addNode_27 ?_
  intro h hR hX
  refine x_aload_n d_Mo_addNode_28 rfl rfl ?_
  refine x_get xf_Mo_39_Mo (Or.inl hR.1) (v := .ref (rf 13)) rfl d_Mo_addNode_29 ?_
  refine x_iload d_Mo_addNode_32 rfl ?_
  refine x_iload_n d_Mo_addNode_34 rfl ?_
  refine r_iast (i := 13) (us := (S.2.1 13)) ⟨rfl, rfl⟩ (by decide) hR hX rfl (by omega) (by show 128 * S.1 28 + gd (S.2.1 15) (S.1 28) < 1152; omega) (by omega) d_Mo_addNode_35 ?_
  intro h hR hX
  refine x_aload_n d_Mo_addNode_36 rfl rfl ?_
  refine x_get xf_Mo_42_Mo (Or.inl hR.1) (v := .ref (rf 14)) rfl d_Mo_addNode_37 ?_
  refine x_iload d_Mo_addNode_40 rfl ?_
  refine x_iload_n d_Mo_addNode_42 rfl ?_
  refine r_iast (i := 14) (us := (S.2.1 14)) ⟨rfl, rfl⟩ (by decide) hR hX rfl (by omega) (by show 128 * S.1 28 + gd (S.2.1 15) (S.1 28) < 1152; omega) (by omega) d_Mo_addNode_43 ?_
  intro h hR hX
  refine x_aload_n d_Mo_addNode_44 rfl rfl ?_
  refine x_get xf_Mo_45_Mo (Or.inl hR.1) (v := .ref (rf 15)) rfl d_Mo_addNode_45 ?_
  refine x_aload_n d_Mo_addNode_48 rfl rfl ?_
  refine x_get xf_Mo_196_Mo (Or.inl hR.1) (v := .int (zI (S.1 28))) rfl d_Mo_addNode_49 ?_
  have hb49 : inR (S.1 28) := hR.2.2.2 28
  refine x_dup2_11 d_Mo_addNode_52 rfl rfl ?_
  refine r_iald (i := 15) (us := (S.2.1 15)) rfl (by decide) hR rfl (by omega) (by show S.1 28 < 9; omega) d_Mo_addNode_53 (fun hr53 => ?_)
  refine x_iconst (v := zI 1) d_Mo_addNode_54 (by decide) ?_
  refine z_iadd d_Mo_addNode_55 ?_
  refine r_iast (i := 15) (us := (S.2.1 15)) ⟨rfl, rfl⟩ (by decide) hR hX rfl (by omega) (by show S.1 28 < 9; omega) (by omega) d_Mo_addNode_56 ?_
  intro h hR hX
  refine x_iload d_Mo_addNode_57 rfl ?_
  refine x_iret d_Mo_addNode_59 rfl ?_
  exact ⟨_, hR, hX, rfl, rfl, rfl, rfl⟩
theorem agO_adN {k a b : Int} (l12 : (S.2.1 12).length = 1152) (l13 : (S.2.1 13).length = 1152) (l14 : (S.2.1 14).length = 1152) (l15 : (S.2.1 15).length = 9) (hs : 0 ≤ S.1 28 ∧ S.1 28 ≤ 8) (hN : 0 ≤ gd (S.2.1 15) (S.1 28) ∧ gd (S.2.1 15) (S.1 28) < 128) : agO S (adN S k a b) (S.1 28) := by
  intro c h1 h2
  have hx : nxN S = 128 * S.1 28 + gd (S.2.1 15) (S.1 28) := rfl
  have a12 := agr_se (S := S) (c := c) (i := 12) (e := nxN S) (z := k) (N := 1152) l12 (by omega) (by omega) rfl h1 (Or.inl ⟨by decide, by omega⟩)
  have a13 := agr_se (S := sa S 12 (se (S.2.1 12) (nxN S) k)) (c := c) (i := 13) (e := nxN S) (z := a) (N := 1152) l13 (by omega) (by omega) rfl h1 (Or.inl ⟨by decide, by omega⟩)
  have a14 := agr_se (S := sa (sa S 12 (se (S.2.1 12) (nxN S) k)) 13 (se (S.2.1 13) (nxN S) a)) (c := c) (i := 14) (e := nxN S) (z := b) (N := 1152) l14 (by omega) (by omega) rfl h1 (Or.inl ⟨by decide, by omega⟩)
  have a15 := agr_se (S := sa (sa (sa S 12 (se (S.2.1 12) (nxN S) k)) 13 (se (S.2.1 13) (nxN S) a)) 14 (se (S.2.1 14) (nxN S) b)) (c := c) (i := 15) (e := S.1 28) (z := gd (S.2.1 15) (S.1 28) + 1) (N := 9) l15 (by omega) (by omega) rfl h1 (Or.inr (Or.inr (Or.inr ⟨by decide, fun z => h2 z.symm⟩)))
  exact ((a12.tr a13).tr a14).tr a15
theorem rdKeep.sm {S' : MS} {js is ls : List Nat} (h : rSm S S' js is ls) (h1 : ∀ j ∈ [2, 3, 27, 28], j ∉ js) (h2 : ∀ i ∈ [5, 7, 17, 18, 19, 20, 21, 24, 26], i ∉ is) : rdKeep S S' := ⟨fun j hj => h.1 j (h1 j hj), fun i hi => h.2.1 i (h2 i hi)⟩
theorem r_isOnTop {k : Int} (hk : inR k) {P : List Int} (h32 : S.1 32 = P.length) (hp : stk (S.2.1 31) P) (hl : (P.length : Int) ≤ 80) : RM l G d M_Mo_isOnTop [.ref o, .int (zI k)] o rf S (fun w S' => S' = S ∧ rBool w (∃ P', P = k :: P')) := by
  intro H0 c n hR
  refine XM.of (by decide +kernel) (Nat.le_of_ble_eq_true rfl) ?_
  have hX : xonly H0 H0 RKs := xonly.rf
  cases P with
  | nil =>
    have h0 : S.1 32 = 0 := h32
    refine x_aload_n d_Mo_isOnTop_0 rfl rfl ?_
    refine x_get xf_Mo_199_Mo (Or.inl hR.1) (v := .int (zI (S.1 32))) rfl d_Mo_isOnTop_1 ?_
    have hb1 : inR (S.1 32) := hR.2.2.2 32
    refine z_if_le (tgt := 26) d_Mo_isOnTop_4 (by decide) (by omega) (fun _ => ?_) (fun hq => by omega)
    refine x_iconst (v := zI 0) d_Mo_isOnTop_26 (by decide) ?_
    refine x_zret d_Mo_isOnTop_27 rfl (z_nb (by omega)) ?_
    exact ⟨_, hR, hX, rfl, rfl, rfl, _, rfl, Or.inr ⟨rfl, fun ⟨P', z⟩ => by cases z⟩⟩
  | cons x P =>
    have h0 : S.1 32 = (P.length : Int) + 1 := by rw [h32]; simp
    have hx : gd (S.2.1 31) (S.1 32 - 1) = x := by rw [h0, Int.add_sub_cancel]; exact hp.1
    have hl' : (P.length : Int) + 1 ≤ 80 := by simp at hl; omega
    refine x_aload_n d_Mo_isOnTop_0 rfl rfl ?_
    refine x_get xf_Mo_199_Mo (Or.inl hR.1) (v := .int (zI (S.1 32))) rfl d_Mo_isOnTop_1 ?_
    have hb1 : inR (S.1 32) := hR.2.2.2 32
    refine z_if_le (tgt := 26) d_Mo_isOnTop_4 (by decide) (by omega) (fun hq => by omega) (fun _ => ?_)
    refine x_aload_n d_Mo_isOnTop_7 rfl rfl ?_
    refine x_get xf_Mo_85_Mo (Or.inl hR.1) (v := .ref (rf 31)) rfl d_Mo_isOnTop_8 ?_
    refine x_aload_n d_Mo_isOnTop_11 rfl rfl ?_
    refine x_get xf_Mo_199_Mo (Or.inl hR.1) (v := .int (zI (S.1 32))) rfl d_Mo_isOnTop_12 ?_
    have hb12 : inR (S.1 32) := hR.2.2.2 32
    refine x_iconst (v := zI 1) d_Mo_isOnTop_15 (by decide) ?_
    refine z_isub d_Mo_isOnTop_16 ?_
    refine r_iald (i := 31) (us := (S.2.1 31)) rfl (by decide) hR rfl (by omega) (by show S.1 32 - 1 < 80; omega) d_Mo_isOnTop_17 (fun hr17 => ?_)
    refine x_iload_n d_Mo_isOnTop_18 rfl ?_
    refine z_icmp_ne (tgt := 26) d_Mo_isOnTop_19 (by decide) (by omega) (by omega) (fun hc19 => ?_) (fun hc19 => ?_)
    · refine x_iconst (v := zI 0) d_Mo_isOnTop_26 (by decide) ?_
      refine x_zret d_Mo_isOnTop_27 rfl (z_nb (by omega)) ?_
      first | exact ⟨_, hR, hX, rfl, rfl, rfl, _, rfl, Or.inl ⟨rfl, P, by rw [show x = k by omega]⟩⟩ | exact ⟨_, hR, hX, rfl, rfl, rfl, _, rfl, Or.inr ⟨rfl, fun ⟨P', z⟩ => by cases z; omega⟩⟩
    · refine x_iconst (v := zI 1) d_Mo_isOnTop_22 (by decide) ?_
      refine x_goto (tgt := 27) d_Mo_isOnTop_23 (by decide) ?_
      refine x_zret d_Mo_isOnTop_27 rfl (z_nb (by omega)) ?_
      first | exact ⟨_, hR, hX, rfl, rfl, rfl, _, rfl, Or.inl ⟨rfl, P, by rw [show x = k by omega]⟩⟩ | exact ⟨_, hR, hX, rfl, rfl, rfl, _, rfl, Or.inr ⟨rfl, fun ⟨P', z⟩ => by cases z; omega⟩⟩
/-- how apply() ends -/
abbrev apQ (S : MS) (P R' : List Int) : Option Value → MS → Prop := fun v S' => v = none ∧ (∃ w', rdOk S' P (nxN S :: R') w') ∧ rSm S S' [32, 33, 35] [12, 13, 14, 15, 34] [] ∧ agO S S' (S.1 28)
end RF6
