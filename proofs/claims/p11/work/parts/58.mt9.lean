section
abbrev y_Parting_firstPick : MethodName := ⟨"MarkerText$Parting", "firstPick", "(II)I"⟩
abbrev M_Parting_firstPick : XMt := (y_Parting_firstPick, prog_9_method_5_code, 5, (some .int))
theorem d_Parting_firstPick_30 : decode M_Parting_firstPick.2.1 30 = .ok (.iload 4, 2) := by decide +kernel
theorem d_Parting_firstPick_32 : decode M_Parting_firstPick.2.1 32 = .ok (.iload_n 2, 1) := by decide +kernel
theorem d_Parting_firstPick_33 : decode M_Parting_firstPick.2.1 33 = .ok (.if_icmp .le 33, 3) := by decide +kernel
theorem d_Parting_firstPick_66 : decode M_Parting_firstPick.2.1 66 = .ok (.aload_n 0, 1) := by decide +kernel
theorem d_Parting_firstPick_67 : decode M_Parting_firstPick.2.1 67 = .ok (.getfield 28, 3) := by decide +kernel
theorem d_Parting_firstPick_70 : decode M_Parting_firstPick.2.1 70 = .ok (.iload_n 2, 1) := by decide +kernel
theorem d_Parting_firstPick_71 : decode M_Parting_firstPick.2.1 71 = .ok (.iaload, 1) := by decide +kernel
theorem d_Parting_firstPick_72 : decode M_Parting_firstPick.2.1 72 = .ok (.ifCond .le 14, 3) := by decide +kernel
theorem d_Parting_firstPick_75 : decode M_Parting_firstPick.2.1 75 = .ok (.iload_n 3, 1) := by decide +kernel
theorem d_Parting_firstPick_76 : decode M_Parting_firstPick.2.1 76 = .ok (.aload_n 0, 1) := by decide +kernel
theorem d_Parting_firstPick_77 : decode M_Parting_firstPick.2.1 77 = .ok (.getfield 28, 3) := by decide +kernel
theorem d_Parting_firstPick_80 : decode M_Parting_firstPick.2.1 80 = .ok (.iload_n 2, 1) := by decide +kernel
theorem d_Parting_firstPick_81 : decode M_Parting_firstPick.2.1 81 = .ok (.iaload, 1) := by decide +kernel
theorem d_Parting_firstPick_82 : decode M_Parting_firstPick.2.1 82 = .ok (.irem, 1) := by decide +kernel
theorem d_Parting_firstPick_83 : decode M_Parting_firstPick.2.1 83 = .ok (.goto 4, 3) := by decide +kernel
theorem d_Parting_firstPick_87 : decode M_Parting_firstPick.2.1 87 = .ok (.ireturn, 1) := by decide +kernel
theorem d_Parting_firstPick_86 : decode M_Parting_firstPick.2.1 86 = .ok (.iconst 0, 1) := by decide +kernel
theorem d_Parting_firstPick_36 : decode M_Parting_firstPick.2.1 36 = .ok (.aload_n 0, 1) := by decide +kernel
theorem d_Parting_firstPick_37 : decode M_Parting_firstPick.2.1 37 = .ok (.getfield 28, 3) := by decide +kernel
theorem d_Parting_firstPick_40 : decode M_Parting_firstPick.2.1 40 = .ok (.iload 4, 2) := by decide +kernel
theorem d_Parting_firstPick_42 : decode M_Parting_firstPick.2.1 42 = .ok (.iaload, 1) := by decide +kernel
theorem d_Parting_firstPick_43 : decode M_Parting_firstPick.2.1 43 = .ok (.ifCond .le 15, 3) := by decide +kernel
theorem d_Parting_firstPick_46 : decode M_Parting_firstPick.2.1 46 = .ok (.iload_n 3, 1) := by decide +kernel
theorem d_Parting_firstPick_47 : decode M_Parting_firstPick.2.1 47 = .ok (.aload_n 0, 1) := by decide +kernel
theorem d_Parting_firstPick_48 : decode M_Parting_firstPick.2.1 48 = .ok (.getfield 28, 3) := by decide +kernel
theorem d_Parting_firstPick_51 : decode M_Parting_firstPick.2.1 51 = .ok (.iload 4, 2) := by decide +kernel
theorem d_Parting_firstPick_53 : decode M_Parting_firstPick.2.1 53 = .ok (.iaload, 1) := by decide +kernel
theorem d_Parting_firstPick_54 : decode M_Parting_firstPick.2.1 54 = .ok (.idiv, 1) := by decide +kernel
theorem d_Parting_firstPick_55 : decode M_Parting_firstPick.2.1 55 = .ok (.goto 4, 3) := by decide +kernel
theorem d_Parting_firstPick_59 : decode M_Parting_firstPick.2.1 59 = .ok (.istore_n 3, 1) := by decide +kernel
theorem d_Parting_firstPick_60 : decode M_Parting_firstPick.2.1 60 = .ok (.iinc 4 (-1), 3) := by decide +kernel
theorem d_Parting_firstPick_63 : decode M_Parting_firstPick.2.1 63 = .ok (.goto (-33), 3) := by decide +kernel
theorem d_Parting_firstPick_58 : decode M_Parting_firstPick.2.1 58 = .ok (.iconst 0, 1) := by decide +kernel
theorem d_Parting_firstPick_0 : decode M_Parting_firstPick.2.1 0 = .ok (.aload_n 0, 1) := by decide +kernel
theorem d_Parting_firstPick_1 : decode M_Parting_firstPick.2.1 1 = .ok (.iload_n 1, 1) := by decide +kernel
theorem d_Parting_firstPick_2 : decode M_Parting_firstPick.2.1 2 = .ok (.invokevirtual 57, 3) := by decide +kernel
theorem xw_391 : (Jvm.Cond.methodLink "MarkerText$Parting" (57 : Nat) ({ cls := "MarkerText$Parting", name := "has", desc := "(I)Z" } : Jvm.MethodName)) ∈ xT := xT_at 391 (by decide +kernel) (by decide +kernel)
theorem xcv_Parting_57_Parting : xCV "MarkerText$Parting" 57 "MarkerText$Parting" M_Parting_has 1 := ⟨xcb_Parting_has, xw_392, Or.inl ⟨xw_391, Or.inl xw_393⟩⟩
theorem d_Parting_firstPick_5 : decode M_Parting_firstPick.2.1 5 = .ok (.ifCond .eq 13, 3) := by decide +kernel
theorem d_Parting_firstPick_8 : decode M_Parting_firstPick.2.1 8 = .ok (.iload_n 2, 1) := by decide +kernel
theorem d_Parting_firstPick_9 : decode M_Parting_firstPick.2.1 9 = .ok (.ifCond .lt 9, 3) := by decide +kernel
theorem d_Parting_firstPick_12 : decode M_Parting_firstPick.2.1 12 = .ok (.iload_n 2, 1) := by decide +kernel
theorem d_Parting_firstPick_13 : decode M_Parting_firstPick.2.1 13 = .ok (.bipush 6, 2) := by decide +kernel
theorem d_Parting_firstPick_15 : decode M_Parting_firstPick.2.1 15 = .ok (.if_icmp .lt 5, 3) := by decide +kernel
theorem d_Parting_firstPick_20 : decode M_Parting_firstPick.2.1 20 = .ok (.aload_n 0, 1) := by decide +kernel
theorem d_Parting_firstPick_21 : decode M_Parting_firstPick.2.1 21 = .ok (.getfield 22, 3) := by decide +kernel
theorem d_Parting_firstPick_24 : decode M_Parting_firstPick.2.1 24 = .ok (.iload_n 1, 1) := by decide +kernel
theorem d_Parting_firstPick_25 : decode M_Parting_firstPick.2.1 25 = .ok (.iaload, 1) := by decide +kernel
theorem d_Parting_firstPick_26 : decode M_Parting_firstPick.2.1 26 = .ok (.istore_n 3, 1) := by decide +kernel
theorem d_Parting_firstPick_27 : decode M_Parting_firstPick.2.1 27 = .ok (.iconst 5, 1) := by decide +kernel
theorem d_Parting_firstPick_28 : decode M_Parting_firstPick.2.1 28 = .ok (.istore 4, 2) := by decide +kernel
theorem d_MT_sample_11 : decode M_MT_sample.2.1 11 = .ok (.aload_n 0, 1) := by decide +kernel
theorem d_MT_sample_12 : decode M_MT_sample.2.1 12 = .ok (.iload_n 2, 1) := by decide +kernel
theorem d_MT_sample_13 : decode M_MT_sample.2.1 13 = .ok (.invokevirtual 93, 3) := by decide +kernel
theorem d_MT_sample_16 : decode M_MT_sample.2.1 16 = .ok (.ifnull 15, 3) := by decide +kernel
theorem d_MT_sample_19 : decode M_MT_sample.2.1 19 = .ok (.aload_n 0, 1) := by decide +kernel
theorem d_MT_sample_20 : decode M_MT_sample.2.1 20 = .ok (.getfield 52, 3) := by decide +kernel
theorem d_MT_sample_23 : decode M_MT_sample.2.1 23 = .ok (.iload_n 1, 1) := by decide +kernel
theorem d_MT_sample_24 : decode M_MT_sample.2.1 24 = .ok (.iload_n 2, 1) := by decide +kernel
theorem d_MT_sample_25 : decode M_MT_sample.2.1 25 = .ok (.invokevirtual 187, 3) := by decide +kernel
theorem xw_416 : (Jvm.Cond.code ({ cls := "MarkerText$Parting", name := "firstPick", desc := "(II)I" } : Jvm.MethodName) prog_9_method_5_code (5 : Nat) (Option.some Jvm.ClassFile.FieldType.int)) ∈ xT := xT_at 416 (by decide +kernel) (by decide +kernel)
theorem xcb_Parting_firstPick : xcb M_Parting_firstPick 2 := ⟨xw_416, xw_7, by decide, by decide, by decide, by decide +kernel⟩
theorem xw_414 : (Jvm.Cond.instanceMethod ({ cls := "MarkerText$Parting", name := "firstPick", desc := "(II)I" } : Jvm.MethodName)) ∈ xT := xT_at 414 (by decide +kernel) (by decide +kernel)
theorem xw_413 : (Jvm.Cond.methodLink "MarkerText" (187 : Nat) ({ cls := "MarkerText$Parting", name := "firstPick", desc := "(II)I" } : Jvm.MethodName)) ∈ xT := xT_at 413 (by decide +kernel) (by decide +kernel)
theorem xw_415 : (Jvm.Cond.selects "MarkerText$Parting" ({ cls := "MarkerText$Parting", name := "firstPick", desc := "(II)I" } : Jvm.MethodName) ({ cls := "MarkerText$Parting", name := "firstPick", desc := "(II)I" } : Jvm.MethodName)) ∈ xT := xT_at 415 (by decide +kernel) (by decide +kernel)
theorem xcv_MT_187_Parting : xCV "MarkerText" 187 "MarkerText$Parting" M_Parting_firstPick 2 := ⟨xcb_Parting_firstPick, xw_414, Or.inl ⟨xw_413, Or.inl xw_415⟩⟩
theorem d_MT_sample_28 : decode M_MT_sample.2.1 28 = .ok (.goto 4, 3) := by decide +kernel
end
section MT9
variable {l : Launch} {G : XG} {h : XH} {c n d : Nat}
/-- what is left of a CHOICE's number, behind the names after one -/
def rdv (sa : List Nat) (j : Nat) : Nat → Nat → Nat
  | 0, r => r
  | i + 1, r => rdv sa j i (r / sa.getD (j + i + 1) 0)
def fpk (p : PtT) (k j : Nat) : Nat := if 0 < p.2.2.2.2.2.getD j 0 then rdv p.2.2.2.2.2 j (5 - j) (p.2.2.2.1.getD k 0) % p.2.2.2.2.2.getD j 0 else 0
theorem xw_iincm {i : Nat} : nI (i + 1) + (Int32.ofInt (-1)) = nI i := by
  have : nI (i + 1) = nI i + 1 := by rw [show (1 : Int32) = nI 1 from rfl, nI_add]
  rw [this, Int32.add_assoc]
  show nI i + 0 = nI i
  rw [Int32.add_zero]
theorem c_firstPick (hd : 1 ≤ d) {o j q : Nat} {p : PtT} (hp : isPa h o p) (hP : okP p) (hj : j < 6) (hq : q < p.1) : XM l G d M_Parting_firstPick [.ref o, .int (nI q), .int (nI j)] h c n (xSame (.int (nI (fpk p q j))) h c n) := by
  obtain ⟨d, rfl⟩ : ∃ q, d = q + 1 := ⟨d - 1, by omega⟩
  obtain ⟨pt, ps, pf, pc, pa, p0, p1, p2, p3, p4, p5⟩ := id hp
  obtain ⟨k1, k2, k3, k4, k5, k6, k7, k8, k9, k10, k11⟩ := id hP
  have hat : ∀ i, i < 6 → (xiv p.2.2.2.2.2)[(nI i).toNatClampNeg]? = some (.int (nI (p.2.2.2.2.2.getD i 0))) := fun i hi => by
    rw [nI_clamp (by omega), xiv_at (by omega), List.getD_eq_getElem?_getD, List.getElem?_eq_getElem (by omega)]
    rfl
  have hbd : ∀ i, p.2.2.2.2.2.getD i 0 ≤ 20001 := fun i => by
    by_cases hi : i < 6
    · rw [List.getD_eq_getElem?_getD, List.getElem?_eq_getElem (by omega)]
      exact k11 _ (List.getElem_mem _)
    · rw [List.getD_eq_getElem?_getD, List.getElem?_eq_none (by omega)]
      exact Nat.zero_le _
  refine XM.of (by decide +kernel) (Nat.le_of_ble_eq_true rfl) ?_
  have lp : ∀ (i r : Nat), j + i < 6 → r < 20000 → XW l G M_Parting_firstPick (d + 1) 30 [some (.ref o), some (.int (nI q)), some (.int (nI j)), some (.int (nI r)), some (.int (nI (j + i)))] [] h c n (xSame (.int (nI (if 0 < p.2.2.2.2.2.getD j 0 then rdv p.2.2.2.2.2 j i r % p.2.2.2.2.2.getD j 0 else 0))) h c n) := by
    intro i
    induction i with
    | zero =>
      intro r hi hr
      have hb := hbd j
      by_cases hz : 0 < p.2.2.2.2.2.getD j 0
      · rw [if_pos hz]
        refine x_iload d_Parting_firstPick_30 rfl ?_
        refine x_iload_n d_Parting_firstPick_32 rfl ?_
        refine x_icmp_le (tgt := 66) d_Parting_firstPick_33 (by decide) (fun _ => ?_) (fun hn => absurd (nI_le (by omega) (by omega)) hn)
        refine x_aload_n d_Parting_firstPick_66 rfl rfl ?_
        refine x_get xf_Parting_28_Parting (Or.inl p0) rfl d_Parting_firstPick_67 ?_
        refine x_iload_n d_Parting_firstPick_70 rfl ?_
        refine x_iald (k := k_apsa) rfl (Or.inl p5) (nI_pos (by omega)) (hat j hj) d_Parting_firstPick_71 ?_
        refine x_if_le (tgt := 86) d_Parting_firstPick_72 (by decide) (fun ht => absurd ht (nI_nle hz (by omega))) (fun _ => ?_)
        refine x_iload_n d_Parting_firstPick_75 rfl ?_
        refine x_aload_n d_Parting_firstPick_76 rfl rfl ?_
        refine x_get xf_Parting_28_Parting (Or.inl p0) rfl d_Parting_firstPick_77 ?_
        refine x_iload_n d_Parting_firstPick_80 rfl ?_
        refine x_iald (k := k_apsa) rfl (Or.inl p5) (nI_pos (by omega)) (hat j hj) d_Parting_firstPick_81 ?_
        refine x_irem d_Parting_firstPick_82 (fun z => nI_nle hz (by omega) (by rw [z]; decide)) ?_
        refine x_top (w := .int (nI (r % p.2.2.2.2.2.getD j 0))) (by rw [pk_rem (by omega) hz (by omega)]) ?_
        refine x_goto (tgt := 87) d_Parting_firstPick_83 (by decide) ?_
        refine x_iret d_Parting_firstPick_87 rfl ?_
        exact ⟨rfl, rfl, rfl, rfl⟩
      · rw [if_neg hz]
        refine x_iload d_Parting_firstPick_30 rfl ?_
        refine x_iload_n d_Parting_firstPick_32 rfl ?_
        refine x_icmp_le (tgt := 66) d_Parting_firstPick_33 (by decide) (fun _ => ?_) (fun hn => absurd (nI_le (by omega) (by omega)) hn)
        refine x_aload_n d_Parting_firstPick_66 rfl rfl ?_
        refine x_get xf_Parting_28_Parting (Or.inl p0) rfl d_Parting_firstPick_67 ?_
        refine x_iload_n d_Parting_firstPick_70 rfl ?_
        refine x_iald (k := k_apsa) rfl (Or.inl p5) (nI_pos (by omega)) (hat j hj) d_Parting_firstPick_71 ?_
        refine x_if_le (tgt := 86) d_Parting_firstPick_72 (by decide) (fun _ => ?_) (fun hn => absurd (by rw [show p.2.2.2.2.2.getD j 0 = 0 by omega]; decide) hn)
        refine x_iconst (v := 0) d_Parting_firstPick_86 (by decide) ?_
        refine x_iret d_Parting_firstPick_87 rfl ?_
        exact ⟨rfl, rfl, rfl, rfl⟩
    | succ i ih =>
      intro r hi hr
      have hb := hbd (j + i + 1)
      have hdv : r / p.2.2.2.2.2.getD (j + i + 1) 0 ≤ r := Nat.div_le_self _ _
      have hgo := ih (r / p.2.2.2.2.2.getD (j + i + 1) 0) (by omega) (by omega)
      by_cases hz : 0 < p.2.2.2.2.2.getD (j + i + 1) 0
      · refine x_iload d_Parting_firstPick_30 rfl ?_
        refine x_iload_n d_Parting_firstPick_32 rfl ?_
        refine x_icmp_le (tgt := 66) d_Parting_firstPick_33 (by decide) (fun ht => absurd ht (nI_ge (by omega) (by omega))) (fun _ => ?_)
        refine x_aload_n d_Parting_firstPick_36 rfl rfl ?_
        refine x_get xf_Parting_28_Parting (Or.inl p0) rfl d_Parting_firstPick_37 ?_
        refine x_iload d_Parting_firstPick_40 rfl ?_
        refine x_iald (k := k_apsa) rfl (Or.inl p5) (nI_pos (by omega)) (hat (j + i + 1) (by omega)) d_Parting_firstPick_42 ?_
        refine x_if_le (tgt := 58) d_Parting_firstPick_43 (by decide) (fun ht => absurd ht (nI_nle hz (by omega))) (fun _ => ?_)
        refine x_iload_n d_Parting_firstPick_46 rfl ?_
        refine x_aload_n d_Parting_firstPick_47 rfl rfl ?_
        refine x_get xf_Parting_28_Parting (Or.inl p0) rfl d_Parting_firstPick_48 ?_
        refine x_iload d_Parting_firstPick_51 rfl ?_
        refine x_iald (k := k_apsa) rfl (Or.inl p5) (nI_pos (by omega)) (hat (j + i + 1) (by omega)) d_Parting_firstPick_53 ?_
        refine x_idiv d_Parting_firstPick_54 (fun z => nI_nle hz (by omega) (by rw [z]; decide)) ?_
        refine x_top (w := .int (nI (r / p.2.2.2.2.2.getD (j + i + 1) 0))) (by rw [pk_div (by omega) hz (by omega)]) ?_
        refine x_goto (tgt := 59) d_Parting_firstPick_55 (by decide) ?_
        refine x_istore_n (L' := [_, _, _, _, _]) d_Parting_firstPick_59 rfl rfl ?_
        refine x_iinc (v := nI (j + i)) (L' := [_, _, _, _, _]) d_Parting_firstPick_60 rfl (by exact xw_iincm) rfl rfl ?_
        refine x_goto (tgt := 30) d_Parting_firstPick_63 (by decide) ?_
        exact hgo
      · have hz0 : p.2.2.2.2.2.getD (j + i + 1) 0 = 0 := by omega
        refine x_iload d_Parting_firstPick_30 rfl ?_
        refine x_iload_n d_Parting_firstPick_32 rfl ?_
        refine x_icmp_le (tgt := 66) d_Parting_firstPick_33 (by decide) (fun ht => absurd ht (nI_ge (by omega) (by omega))) (fun _ => ?_)
        refine x_aload_n d_Parting_firstPick_36 rfl rfl ?_
        refine x_get xf_Parting_28_Parting (Or.inl p0) rfl d_Parting_firstPick_37 ?_
        refine x_iload d_Parting_firstPick_40 rfl ?_
        refine x_iald (k := k_apsa) rfl (Or.inl p5) (nI_pos (by omega)) (hat (j + i + 1) (by omega)) d_Parting_firstPick_42 ?_
        refine x_if_le (tgt := 58) d_Parting_firstPick_43 (by decide) (fun _ => ?_) (fun hn => absurd (by rw [hz0]; decide) hn)
        refine x_iconst (v := 0) d_Parting_firstPick_58 (by decide) ?_
        refine x_top (w := .int (nI (r / p.2.2.2.2.2.getD (j + i + 1) 0))) (by rw [hz0, Nat.div_zero]; rfl) ?_
        refine x_istore_n (L' := [_, _, _, _, _]) d_Parting_firstPick_59 rfl rfl ?_
        refine x_iinc (v := nI (j + i)) (L' := [_, _, _, _, _]) d_Parting_firstPick_60 rfl (by exact xw_iincm) rfl rfl ?_
        refine x_goto (tgt := 30) d_Parting_firstPick_63 (by decide) ?_
        exact hgo
  have hq2 : q < p.2.2.2.1.length := by omega
  refine x_aload_n d_Parting_firstPick_0 rfl rfl ?_
  refine x_iload_n d_Parting_firstPick_1 rfl ?_
  refine x_callV (As := [_]) (k := k_Parting) rfl xcv_Parting_57_Parting (Or.inl p0) (c_has hp hP) rfl rfl (Nat.le_of_ble_eq_true rfl) d_Parting_firstPick_2 ?_
  rintro v h1 c1 n1 ⟨rfl, rfl, rfl, rfl⟩
  have hqv : p.2.2.2.1[q] = p.2.2.2.1.getD q 0 := by rw [List.getD_eq_getElem?_getD, List.getElem?_eq_getElem hq2]; rfl
  refine x_if_eq (tgt := 18) d_Parting_firstPick_5 (by decide) (fun ht => absurd ht (by rw [hasK_nI (by omega), decide_eq_true hq]; decide)) (fun _ => ?_)
  refine x_iload_n d_Parting_firstPick_8 rfl ?_
  refine x_if_lt (tgt := 18) d_Parting_firstPick_9 (by decide) (fun ht => absurd ht (nI_pos (by omega))) (fun _ => ?_)
  refine x_iload_n d_Parting_firstPick_12 rfl ?_
  refine x_bipush (v := 6) d_Parting_firstPick_13 (by decide) ?_
  refine x_icmp_lt (tgt := 20) d_Parting_firstPick_15 (by decide) (fun _ => ?_) (fun hn => absurd (nI_lt (b := 6) hj (by omega)) hn)
  refine x_aload_n d_Parting_firstPick_20 rfl rfl ?_
  refine x_get xf_Parting_22_Parting (Or.inl p0) rfl d_Parting_firstPick_21 ?_
  refine x_iload_n d_Parting_firstPick_24 rfl ?_
  refine x_iald (k := k_apfi) rfl (Or.inl p3) (nI_pos (by omega)) (by rw [nI_clamp (by omega)]; exact xiv_at hq2) d_Parting_firstPick_25 ?_
  refine x_istore_n (L' := [_, _, _, _, _]) d_Parting_firstPick_26 rfl rfl ?_
  refine x_iconst (v := 5) d_Parting_firstPick_27 (by decide) ?_
  refine x_istore (L' := [_, _, _, _, _]) d_Parting_firstPick_28 rfl rfl ?_
  have := lp (5 - j) (p.2.2.2.1[q]) (by omega) (k9 _ (List.getElem_mem hq2))
  rw [show j + (5 - j) = 5 by omega, hqv] at this
  rw [hqv]
  exact this
/-- what sample() answers -/
def smp (Ns : List NmT) (p : PtT) (k e : Int32) : Option Nat := if hasK p k && (iAt e Ns).isSome then some (fpk p k.toNatClampNeg e.toNatClampNeg) else none
theorem c_sample (hd : 3 ≤ d) {x ta va m na ca ea ch pa : Nat} {as kas cas t : List Nat} {Ns : List NmT} {Cs : List CnT} {il : Option Nat} {lv : Nat → Nat} {Pt : PtT} {k e : Int32} (hM : isMT G h x ta va m na ca ea ch pa as kas cas t Ns Cs il lv Pt) : XM l G d M_MT_sample [.ref x, .int k, .int e] h c n (xSame (.int (oI (smp Ns Pt k e))) h c n) := by
  obtain ⟨d, rfl⟩ : ∃ q, d = q + 1 := ⟨d - 1, by omega⟩
  obtain ⟨e0, -, -, -, hN, -, -, -, hPa, hP⟩ := id hM
  obtain ⟨pt, ps, pf, pc, pq, p0, -⟩ := id hPa
  have hP1 := hP.1
  have hN6 : Ns.length ≤ 6 := hN.2.2.2.1
  refine XM.of (by decide +kernel) (Nat.le_of_ble_eq_true rfl) ?_
  refine x_aload_n d_MT_sample_0 rfl rfl ?_
  refine x_get xf_MT_52_MT (Or.inl e0) rfl d_MT_sample_1 ?_
  refine x_iload_n d_MT_sample_4 rfl ?_
  refine x_callV (As := [_]) (k := k_Parting) rfl xcv_MT_176_Parting (Or.inl p0) (c_has hPa hP) rfl rfl (Nat.le_of_ble_eq_true rfl) d_MT_sample_5 ?_
  rintro v h1 c1 n1 ⟨rfl, rfl, rfl, rfl⟩
  cases hk : hasK Pt k with
  | false =>
    rw [show smp Ns Pt k e = none by unfold smp; rw [hk]; rfl]
    refine x_if_eq (tgt := 31) d_MT_sample_8 (by decide) (fun _ => ?_) (fun hn => absurd rfl hn)
    refine x_iconst (v := (-1)) d_MT_sample_31 (by decide) ?_
    refine x_iret d_MT_sample_32 rfl ?_
    exact ⟨rfl, rfl, rfl, rfl⟩
  | true =>
    obtain ⟨g1, g2⟩ := of_decide_eq_true hk
    refine x_if_eq (tgt := 31) d_MT_sample_8 (by decide) (fun ht => absurd ht (by decide)) (fun _ => ?_)
    refine x_aload_n d_MT_sample_11 rfl rfl ?_
    refine x_iload_n d_MT_sample_12 rfl ?_
    refine x_callV (As := [_]) (k := k_MarkerText) rfl xcv_MT_93_MT (Or.inl e0) (c_nameAt e0 hN) rfl rfl (Nat.le_of_ble_eq_true rfl) d_MT_sample_13 ?_
    rintro v h2 c2 n2 ⟨rfl, rfl, rfl, rfl⟩
    rcases hN.at (k := e) with ⟨y1, y2⟩ | ⟨a, ka, X, j, hj, rfl, y1, -, -, y2, -⟩
    · rw [y1, show smp Ns Pt k e = none by unfold smp; rw [hk, y2]; rfl]
      refine x_ifnullN (tgt := 31) d_MT_sample_16 (by decide) ?_
      refine x_iconst (v := (-1)) d_MT_sample_31 (by decide) ?_
      refine x_iret d_MT_sample_32 rfl ?_
      exact ⟨rfl, rfl, rfl, rfl⟩
    · rw [y1, show smp Ns Pt k (nI j) = some (fpk Pt k.toNatClampNeg j) by unfold smp; rw [hk, y2, nI_clamp (by omega)]; rfl]
      have hX := c_firstPick (l := l) (G := G) (c := c2) (n := n2) (d := d) (by omega) hPa hP (by omega : j < 6) g2
      rw [i32_nI g1] at hX
      refine x_ifnull d_MT_sample_16 ?_
      refine x_aload_n d_MT_sample_19 rfl rfl ?_
      refine x_get xf_MT_52_MT (Or.inl e0) rfl d_MT_sample_20 ?_
      refine x_iload_n d_MT_sample_23 rfl ?_
      refine x_iload_n d_MT_sample_24 rfl ?_
      refine x_callV (As := [_, _]) (k := k_Parting) rfl xcv_MT_187_Parting (Or.inl p0) hX rfl rfl (Nat.le_of_ble_eq_true rfl) d_MT_sample_25 ?_
      rintro v h3 c3 n3 ⟨rfl, rfl, rfl, rfl⟩
      refine x_goto (tgt := 32) d_MT_sample_28 (by decide) ?_
      refine x_iret d_MT_sample_32 rfl ?_
      exact ⟨rfl, rfl, rfl, rfl⟩
end MT9
