section
abbrev y_Reader_readOperator : MethodName := ⟨"MarkerText$Reader", "readOperator", "()I"⟩
abbrev M_Reader_readOperator : XMt := (y_Reader_readOperator, prog_10_method_7_code, 4, (some .int))
theorem d_Reader_readOperator_89 : decode M_Reader_readOperator.2.1 89 = .ok (.iload_n 2, 1) := by decide +kernel
theorem d_Reader_readOperator_90 : decode M_Reader_readOperator.2.1 90 = .ok (.ifCond .ne 17, 3) := by decide +kernel
theorem d_Reader_readOperator_93 : decode M_Reader_readOperator.2.1 93 = .ok (.iload_n 1, 1) := by decide +kernel
theorem d_Reader_readOperator_94 : decode M_Reader_readOperator.2.1 94 = .ok (.bipush 61, 2) := by decide +kernel
theorem d_Reader_readOperator_96 : decode M_Reader_readOperator.2.1 96 = .ok (.if_icmp .eq 9, 3) := by decide +kernel
theorem d_Reader_readOperator_105 : decode M_Reader_readOperator.2.1 105 = .ok (.iconst (-1), 1) := by decide +kernel
theorem d_Reader_readOperator_106 : decode M_Reader_readOperator.2.1 106 = .ok (.ireturn, 1) := by decide +kernel
theorem d_Reader_readOperator_107 : decode M_Reader_readOperator.2.1 107 = .ok (.iload_n 1, 1) := by decide +kernel
theorem d_Reader_readOperator_108 : decode M_Reader_readOperator.2.1 108 = .ok (.bipush 61, 2) := by decide +kernel
theorem d_Reader_readOperator_110 : decode M_Reader_readOperator.2.1 110 = .ok (.if_icmp .ne 5, 3) := by decide +kernel
theorem d_Reader_readOperator_113 : decode M_Reader_readOperator.2.1 113 = .ok (.iconst 2, 1) := by decide +kernel
theorem d_Reader_readOperator_114 : decode M_Reader_readOperator.2.1 114 = .ok (.ireturn, 1) := by decide +kernel
theorem d_Reader_readOperator_99 : decode M_Reader_readOperator.2.1 99 = .ok (.iload_n 1, 1) := by decide +kernel
theorem d_Reader_readOperator_100 : decode M_Reader_readOperator.2.1 100 = .ok (.bipush 33, 2) := by decide +kernel
theorem d_Reader_readOperator_102 : decode M_Reader_readOperator.2.1 102 = .ok (.if_icmp .ne 5, 3) := by decide +kernel
theorem d_Reader_readOperator_115 : decode M_Reader_readOperator.2.1 115 = .ok (.iload_n 1, 1) := by decide +kernel
theorem d_Reader_readOperator_116 : decode M_Reader_readOperator.2.1 116 = .ok (.bipush 33, 2) := by decide +kernel
theorem d_Reader_readOperator_118 : decode M_Reader_readOperator.2.1 118 = .ok (.if_icmp .ne 6, 3) := by decide +kernel
theorem d_Reader_readOperator_121 : decode M_Reader_readOperator.2.1 121 = .ok (.bipush 13, 2) := by decide +kernel
theorem d_Reader_readOperator_123 : decode M_Reader_readOperator.2.1 123 = .ok (.ireturn, 1) := by decide +kernel
theorem d_Reader_readOperator_124 : decode M_Reader_readOperator.2.1 124 = .ok (.iload_n 1, 1) := by decide +kernel
theorem d_Reader_readOperator_125 : decode M_Reader_readOperator.2.1 125 = .ok (.bipush 60, 2) := by decide +kernel
theorem d_Reader_readOperator_127 : decode M_Reader_readOperator.2.1 127 = .ok (.if_icmp .ne 7, 3) := by decide +kernel
theorem d_Reader_readOperator_130 : decode M_Reader_readOperator.2.1 130 = .ok (.iconst 1, 1) := by decide +kernel
theorem d_Reader_readOperator_131 : decode M_Reader_readOperator.2.1 131 = .ok (.goto 4, 3) := by decide +kernel
theorem d_Reader_readOperator_135 : decode M_Reader_readOperator.2.1 135 = .ok (.istore_n 3, 1) := by decide +kernel
theorem d_Reader_readOperator_136 : decode M_Reader_readOperator.2.1 136 = .ok (.iload_n 2, 1) := by decide +kernel
theorem d_Reader_readOperator_137 : decode M_Reader_readOperator.2.1 137 = .ok (.ifCond .eq 9, 3) := by decide +kernel
theorem d_Reader_readOperator_146 : decode M_Reader_readOperator.2.1 146 = .ok (.iload_n 3, 1) := by decide +kernel
theorem d_Reader_readOperator_147 : decode M_Reader_readOperator.2.1 147 = .ok (.ireturn, 1) := by decide +kernel
theorem d_Reader_readOperator_140 : decode M_Reader_readOperator.2.1 140 = .ok (.iload_n 3, 1) := by decide +kernel
theorem d_Reader_readOperator_141 : decode M_Reader_readOperator.2.1 141 = .ok (.iconst 2, 1) := by decide +kernel
theorem d_Reader_readOperator_142 : decode M_Reader_readOperator.2.1 142 = .ok (.ior, 1) := by decide +kernel
theorem d_Reader_readOperator_143 : decode M_Reader_readOperator.2.1 143 = .ok (.goto 4, 3) := by decide +kernel
theorem d_Reader_readOperator_134 : decode M_Reader_readOperator.2.1 134 = .ok (.iconst 4, 1) := by decide +kernel
theorem d_Reader_readOperator_31 : decode M_Reader_readOperator.2.1 31 = .ok (.aload_n 0, 1) := by decide +kernel
theorem d_Reader_readOperator_32 : decode M_Reader_readOperator.2.1 32 = .ok (.dup, 1) := by decide +kernel
theorem d_Reader_readOperator_33 : decode M_Reader_readOperator.2.1 33 = .ok (.getfield 25, 3) := by decide +kernel
theorem d_Reader_readOperator_36 : decode M_Reader_readOperator.2.1 36 = .ok (.iconst 1, 1) := by decide +kernel
theorem d_Reader_readOperator_37 : decode M_Reader_readOperator.2.1 37 = .ok (.iadd, 1) := by decide +kernel
theorem d_Reader_readOperator_38 : decode M_Reader_readOperator.2.1 38 = .ok (.putfield 25, 3) := by decide +kernel
theorem d_Reader_readOperator_41 : decode M_Reader_readOperator.2.1 41 = .ok (.aload_n 0, 1) := by decide +kernel
theorem d_Reader_readOperator_42 : decode M_Reader_readOperator.2.1 42 = .ok (.getfield 21, 3) := by decide +kernel
theorem xw_860 : (Jvm.Cond.fieldLink "MarkerText$Reader" (21 : Nat) "MarkerText$Reader" "line" "Ljava/lang/StringBuilder;") ∈ xT := xT_at 860 (by decide +kernel) (by decide +kernel)
theorem xf_Reader_21_Reader : xF "MarkerText$Reader" 21 k_Reader 3 := ⟨_, _, _, "MarkerText$Reader", rfl, by decide, Or.inl xw_860, Or.inl rfl⟩
theorem d_Reader_readOperator_45 : decode M_Reader_readOperator.2.1 45 = .ok (.iload_n 1, 1) := by decide +kernel
theorem d_Reader_readOperator_46 : decode M_Reader_readOperator.2.1 46 = .ok (.invokevirtual 143, 3) := by decide +kernel
theorem xw_980 : (Jvm.Cond.methodLink "MarkerText$Reader" (143 : Nat) ({ cls := "java/lang/StringBuilder", name := "append", desc := "(C)Ljava/lang/StringBuilder;" } : Jvm.MethodName)) ∈ xT := xT_at 980 (by decide +kernel) (by decide +kernel)
theorem xcv_Reader_143_SB : xCV "MarkerText$Reader" 143 "java/lang/StringBuilder" M_SB_append_C 1 := ⟨xcb_SB_append_C, xw_180, Or.inl ⟨xw_980, Or.inl xw_181⟩⟩
theorem d_Reader_readOperator_49 : decode M_Reader_readOperator.2.1 49 = .ok (.pop, 1) := by decide +kernel
theorem d_Reader_readOperator_50 : decode M_Reader_readOperator.2.1 50 = .ok (.aload_n 0, 1) := by decide +kernel
theorem d_Reader_readOperator_51 : decode M_Reader_readOperator.2.1 51 = .ok (.invokevirtual 101, 3) := by decide +kernel
theorem d_Reader_readOperator_54 : decode M_Reader_readOperator.2.1 54 = .ok (.bipush 61, 2) := by decide +kernel
theorem d_Reader_readOperator_56 : decode M_Reader_readOperator.2.1 56 = .ok (.if_icmp .ne 7, 3) := by decide +kernel
theorem d_Reader_readOperator_59 : decode M_Reader_readOperator.2.1 59 = .ok (.iconst 1, 1) := by decide +kernel
theorem d_Reader_readOperator_60 : decode M_Reader_readOperator.2.1 60 = .ok (.goto 4, 3) := by decide +kernel
theorem d_Reader_readOperator_64 : decode M_Reader_readOperator.2.1 64 = .ok (.istore_n 2, 1) := by decide +kernel
theorem d_Reader_readOperator_65 : decode M_Reader_readOperator.2.1 65 = .ok (.iload_n 2, 1) := by decide +kernel
theorem d_Reader_readOperator_66 : decode M_Reader_readOperator.2.1 66 = .ok (.ifCond .eq 23, 3) := by decide +kernel
theorem d_Reader_readOperator_69 : decode M_Reader_readOperator.2.1 69 = .ok (.aload_n 0, 1) := by decide +kernel
theorem d_Reader_readOperator_70 : decode M_Reader_readOperator.2.1 70 = .ok (.dup, 1) := by decide +kernel
theorem d_Reader_readOperator_71 : decode M_Reader_readOperator.2.1 71 = .ok (.getfield 25, 3) := by decide +kernel
theorem d_Reader_readOperator_74 : decode M_Reader_readOperator.2.1 74 = .ok (.iconst 1, 1) := by decide +kernel
theorem d_Reader_readOperator_75 : decode M_Reader_readOperator.2.1 75 = .ok (.iadd, 1) := by decide +kernel
theorem d_Reader_readOperator_76 : decode M_Reader_readOperator.2.1 76 = .ok (.putfield 25, 3) := by decide +kernel
theorem d_Reader_readOperator_79 : decode M_Reader_readOperator.2.1 79 = .ok (.aload_n 0, 1) := by decide +kernel
theorem d_Reader_readOperator_80 : decode M_Reader_readOperator.2.1 80 = .ok (.getfield 21, 3) := by decide +kernel
theorem d_Reader_readOperator_83 : decode M_Reader_readOperator.2.1 83 = .ok (.bipush 61, 2) := by decide +kernel
theorem d_Reader_readOperator_85 : decode M_Reader_readOperator.2.1 85 = .ok (.invokevirtual 143, 3) := by decide +kernel
theorem d_Reader_readOperator_88 : decode M_Reader_readOperator.2.1 88 = .ok (.pop, 1) := by decide +kernel
theorem d_Reader_readOperator_63 : decode M_Reader_readOperator.2.1 63 = .ok (.iconst 0, 1) := by decide +kernel
theorem d_Reader_readOperator_0 : decode M_Reader_readOperator.2.1 0 = .ok (.aload_n 0, 1) := by decide +kernel
theorem d_Reader_readOperator_1 : decode M_Reader_readOperator.2.1 1 = .ok (.invokevirtual 101, 3) := by decide +kernel
theorem d_Reader_readOperator_4 : decode M_Reader_readOperator.2.1 4 = .ok (.istore_n 1, 1) := by decide +kernel
theorem d_Reader_readOperator_5 : decode M_Reader_readOperator.2.1 5 = .ok (.iload_n 1, 1) := by decide +kernel
theorem d_Reader_readOperator_6 : decode M_Reader_readOperator.2.1 6 = .ok (.bipush 61, 2) := by decide +kernel
theorem d_Reader_readOperator_8 : decode M_Reader_readOperator.2.1 8 = .ok (.if_icmp .eq 23, 3) := by decide +kernel
theorem d_Reader_readOperator_11 : decode M_Reader_readOperator.2.1 11 = .ok (.iload_n 1, 1) := by decide +kernel
theorem d_Reader_readOperator_12 : decode M_Reader_readOperator.2.1 12 = .ok (.bipush 33, 2) := by decide +kernel
theorem d_Reader_readOperator_14 : decode M_Reader_readOperator.2.1 14 = .ok (.if_icmp .eq 17, 3) := by decide +kernel
theorem d_Reader_readOperator_17 : decode M_Reader_readOperator.2.1 17 = .ok (.iload_n 1, 1) := by decide +kernel
theorem d_Reader_readOperator_18 : decode M_Reader_readOperator.2.1 18 = .ok (.bipush 60, 2) := by decide +kernel
theorem d_Reader_readOperator_20 : decode M_Reader_readOperator.2.1 20 = .ok (.if_icmp .eq 11, 3) := by decide +kernel
theorem d_Reader_readOperator_23 : decode M_Reader_readOperator.2.1 23 = .ok (.iload_n 1, 1) := by decide +kernel
theorem d_Reader_readOperator_24 : decode M_Reader_readOperator.2.1 24 = .ok (.bipush 62, 2) := by decide +kernel
theorem d_Reader_readOperator_26 : decode M_Reader_readOperator.2.1 26 = .ok (.if_icmp .eq 5, 3) := by decide +kernel
theorem d_Reader_readOperator_29 : decode M_Reader_readOperator.2.1 29 = .ok (.iconst (-1), 1) := by decide +kernel
theorem d_Reader_readOperator_30 : decode M_Reader_readOperator.2.1 30 = .ok (.ireturn, 1) := by decide +kernel
end
section RD3
variable {l : Launch} {G : XG} {h : XH} {c n d : Nat}
/-- an operator at a place: where it ends, what it accepts, its text -/
def opr (t : List Nat) (p : Nat) : Nat × Option Nat × List Nat :=
  if chr t p = 61 ∨ chr t p = 33 ∨ chr t p = 60 ∨ chr t p = 62 then
    if chr t (p + 1) = 61 then (p + 2, some (if chr t p = 61 then 2 else if chr t p = 33 then 13 else if chr t p = 60 then 3 else 6), [chr t p, 61])
    else (p + 1, (if chr t p = 61 then none else if chr t p = 33 then none else if chr t p = 60 then some 1 else some 4), [chr t p])
  else (p, none, [])
theorem opr_at89 {s : Nat} {r ba va K m : Nat} {P : Option Value → XH → Nat → Nat → Prop} {b : Bool} {e3 : Option Value} (hs : s = 61 ∨ s = 33 ∨ s = 60 ∨ s = 62) (hP : P (some (.int (oI (if b then some (if s = 61 then 2 else if s = 33 then 13 else if s = 60 then 3 else 6) else (if s = 61 then none else if s = 33 then none else if s = 60 then some 1 else some 4))))) h c n) : XW l G M_Reader_readOperator d 89 [some (.ref r), some (.int (nI s)), some (.int (bI b)), e3] [] h c n P := by
  rcases hs with rfl | rfl | rfl | rfl <;> cases b
  · refine x_iload_n d_Reader_readOperator_89 rfl ?_
    refine x_if_ne (tgt := 107) d_Reader_readOperator_90 (by decide) (fun ht => absurd rfl ht) (fun _ => ?_)
    refine x_iload_n d_Reader_readOperator_93 rfl ?_
    refine x_bipush (v := 61) d_Reader_readOperator_94 (by decide) ?_
    refine x_icmp_eq (tgt := 105) d_Reader_readOperator_96 (by decide) (fun _ => ?_) (fun hn => absurd rfl hn)
    refine x_iconst (v := (-1)) d_Reader_readOperator_105 (by decide) ?_
    refine x_iret d_Reader_readOperator_106 rfl ?_
    exact hP
  · refine x_iload_n d_Reader_readOperator_89 rfl ?_
    refine x_if_ne (tgt := 107) d_Reader_readOperator_90 (by decide) (fun _ => ?_) (fun hn => absurd hn (by decide))
    refine x_iload_n d_Reader_readOperator_107 rfl ?_
    refine x_bipush (v := 61) d_Reader_readOperator_108 (by decide) ?_
    refine x_icmp_ne (tgt := 115) d_Reader_readOperator_110 (by decide) (fun ht => absurd rfl ht) (fun _ => ?_)
    refine x_iconst (v := 2) d_Reader_readOperator_113 (by decide) ?_
    refine x_iret d_Reader_readOperator_114 rfl ?_
    exact hP
  · refine x_iload_n d_Reader_readOperator_89 rfl ?_
    refine x_if_ne (tgt := 107) d_Reader_readOperator_90 (by decide) (fun ht => absurd rfl ht) (fun _ => ?_)
    refine x_iload_n d_Reader_readOperator_93 rfl ?_
    refine x_bipush (v := 61) d_Reader_readOperator_94 (by decide) ?_
    refine x_icmp_eq (tgt := 105) d_Reader_readOperator_96 (by decide) (fun ht => absurd ht (by decide)) (fun _ => ?_)
    refine x_iload_n d_Reader_readOperator_99 rfl ?_
    refine x_bipush (v := 33) d_Reader_readOperator_100 (by decide) ?_
    refine x_icmp_ne (tgt := 107) d_Reader_readOperator_102 (by decide) (fun ht => absurd rfl ht) (fun _ => ?_)
    refine x_iconst (v := (-1)) d_Reader_readOperator_105 (by decide) ?_
    refine x_iret d_Reader_readOperator_106 rfl ?_
    exact hP
  · refine x_iload_n d_Reader_readOperator_89 rfl ?_
    refine x_if_ne (tgt := 107) d_Reader_readOperator_90 (by decide) (fun _ => ?_) (fun hn => absurd hn (by decide))
    refine x_iload_n d_Reader_readOperator_107 rfl ?_
    refine x_bipush (v := 61) d_Reader_readOperator_108 (by decide) ?_
    refine x_icmp_ne (tgt := 115) d_Reader_readOperator_110 (by decide) (fun _ => ?_) (fun hn => absurd hn (by decide))
    refine x_iload_n d_Reader_readOperator_115 rfl ?_
    refine x_bipush (v := 33) d_Reader_readOperator_116 (by decide) ?_
    refine x_icmp_ne (tgt := 124) d_Reader_readOperator_118 (by decide) (fun ht => absurd rfl ht) (fun _ => ?_)
    refine x_bipush (v := 13) d_Reader_readOperator_121 (by decide) ?_
    refine x_iret d_Reader_readOperator_123 rfl ?_
    exact hP
  · refine x_iload_n d_Reader_readOperator_89 rfl ?_
    refine x_if_ne (tgt := 107) d_Reader_readOperator_90 (by decide) (fun ht => absurd rfl ht) (fun _ => ?_)
    refine x_iload_n d_Reader_readOperator_93 rfl ?_
    refine x_bipush (v := 61) d_Reader_readOperator_94 (by decide) ?_
    refine x_icmp_eq (tgt := 105) d_Reader_readOperator_96 (by decide) (fun ht => absurd ht (by decide)) (fun _ => ?_)
    refine x_iload_n d_Reader_readOperator_99 rfl ?_
    refine x_bipush (v := 33) d_Reader_readOperator_100 (by decide) ?_
    refine x_icmp_ne (tgt := 107) d_Reader_readOperator_102 (by decide) (fun _ => ?_) (fun hn => absurd hn (by decide))
    refine x_iload_n d_Reader_readOperator_107 rfl ?_
    refine x_bipush (v := 61) d_Reader_readOperator_108 (by decide) ?_
    refine x_icmp_ne (tgt := 115) d_Reader_readOperator_110 (by decide) (fun _ => ?_) (fun hn => absurd hn (by decide))
    refine x_iload_n d_Reader_readOperator_115 rfl ?_
    refine x_bipush (v := 33) d_Reader_readOperator_116 (by decide) ?_
    refine x_icmp_ne (tgt := 124) d_Reader_readOperator_118 (by decide) (fun _ => ?_) (fun hn => absurd hn (by decide))
    refine x_iload_n d_Reader_readOperator_124 rfl ?_
    refine x_bipush (v := 60) d_Reader_readOperator_125 (by decide) ?_
    refine x_icmp_ne (tgt := 134) d_Reader_readOperator_127 (by decide) (fun ht => absurd rfl ht) (fun _ => ?_)
    refine x_iconst (v := 1) d_Reader_readOperator_130 (by decide) ?_
    refine x_goto (tgt := 135) d_Reader_readOperator_131 (by decide) ?_
    refine x_istore_n (L' := [_, _, _, _]) d_Reader_readOperator_135 rfl rfl ?_
    refine x_iload_n d_Reader_readOperator_136 rfl ?_
    refine x_if_eq (tgt := 146) d_Reader_readOperator_137 (by decide) (fun _ => ?_) (fun hn => absurd rfl hn)
    refine x_iload_n d_Reader_readOperator_146 rfl ?_
    refine x_iret d_Reader_readOperator_147 rfl ?_
    exact hP
  · refine x_iload_n d_Reader_readOperator_89 rfl ?_
    refine x_if_ne (tgt := 107) d_Reader_readOperator_90 (by decide) (fun _ => ?_) (fun hn => absurd hn (by decide))
    refine x_iload_n d_Reader_readOperator_107 rfl ?_
    refine x_bipush (v := 61) d_Reader_readOperator_108 (by decide) ?_
    refine x_icmp_ne (tgt := 115) d_Reader_readOperator_110 (by decide) (fun _ => ?_) (fun hn => absurd hn (by decide))
    refine x_iload_n d_Reader_readOperator_115 rfl ?_
    refine x_bipush (v := 33) d_Reader_readOperator_116 (by decide) ?_
    refine x_icmp_ne (tgt := 124) d_Reader_readOperator_118 (by decide) (fun _ => ?_) (fun hn => absurd hn (by decide))
    refine x_iload_n d_Reader_readOperator_124 rfl ?_
    refine x_bipush (v := 60) d_Reader_readOperator_125 (by decide) ?_
    refine x_icmp_ne (tgt := 134) d_Reader_readOperator_127 (by decide) (fun ht => absurd rfl ht) (fun _ => ?_)
    refine x_iconst (v := 1) d_Reader_readOperator_130 (by decide) ?_
    refine x_goto (tgt := 135) d_Reader_readOperator_131 (by decide) ?_
    refine x_istore_n (L' := [_, _, _, _]) d_Reader_readOperator_135 rfl rfl ?_
    refine x_iload_n d_Reader_readOperator_136 rfl ?_
    refine x_if_eq (tgt := 146) d_Reader_readOperator_137 (by decide) (fun ht => absurd ht (by decide)) (fun _ => ?_)
    refine x_iload_n d_Reader_readOperator_140 rfl ?_
    refine x_iconst (v := 2) d_Reader_readOperator_141 (by decide) ?_
    refine x_ior d_Reader_readOperator_142 ?_
    refine x_goto (tgt := 147) d_Reader_readOperator_143 (by decide) ?_
    refine x_iret d_Reader_readOperator_147 rfl ?_
    exact hP
  · refine x_iload_n d_Reader_readOperator_89 rfl ?_
    refine x_if_ne (tgt := 107) d_Reader_readOperator_90 (by decide) (fun ht => absurd rfl ht) (fun _ => ?_)
    refine x_iload_n d_Reader_readOperator_93 rfl ?_
    refine x_bipush (v := 61) d_Reader_readOperator_94 (by decide) ?_
    refine x_icmp_eq (tgt := 105) d_Reader_readOperator_96 (by decide) (fun ht => absurd ht (by decide)) (fun _ => ?_)
    refine x_iload_n d_Reader_readOperator_99 rfl ?_
    refine x_bipush (v := 33) d_Reader_readOperator_100 (by decide) ?_
    refine x_icmp_ne (tgt := 107) d_Reader_readOperator_102 (by decide) (fun _ => ?_) (fun hn => absurd hn (by decide))
    refine x_iload_n d_Reader_readOperator_107 rfl ?_
    refine x_bipush (v := 61) d_Reader_readOperator_108 (by decide) ?_
    refine x_icmp_ne (tgt := 115) d_Reader_readOperator_110 (by decide) (fun _ => ?_) (fun hn => absurd hn (by decide))
    refine x_iload_n d_Reader_readOperator_115 rfl ?_
    refine x_bipush (v := 33) d_Reader_readOperator_116 (by decide) ?_
    refine x_icmp_ne (tgt := 124) d_Reader_readOperator_118 (by decide) (fun _ => ?_) (fun hn => absurd hn (by decide))
    refine x_iload_n d_Reader_readOperator_124 rfl ?_
    refine x_bipush (v := 60) d_Reader_readOperator_125 (by decide) ?_
    refine x_icmp_ne (tgt := 134) d_Reader_readOperator_127 (by decide) (fun _ => ?_) (fun hn => absurd hn (by decide))
    refine x_iconst (v := 4) d_Reader_readOperator_134 (by decide) ?_
    refine x_istore_n (L' := [_, _, _, _]) d_Reader_readOperator_135 rfl rfl ?_
    refine x_iload_n d_Reader_readOperator_136 rfl ?_
    refine x_if_eq (tgt := 146) d_Reader_readOperator_137 (by decide) (fun _ => ?_) (fun hn => absurd rfl hn)
    refine x_iload_n d_Reader_readOperator_146 rfl ?_
    refine x_iret d_Reader_readOperator_147 rfl ?_
    exact hP
  · refine x_iload_n d_Reader_readOperator_89 rfl ?_
    refine x_if_ne (tgt := 107) d_Reader_readOperator_90 (by decide) (fun _ => ?_) (fun hn => absurd hn (by decide))
    refine x_iload_n d_Reader_readOperator_107 rfl ?_
    refine x_bipush (v := 61) d_Reader_readOperator_108 (by decide) ?_
    refine x_icmp_ne (tgt := 115) d_Reader_readOperator_110 (by decide) (fun _ => ?_) (fun hn => absurd hn (by decide))
    refine x_iload_n d_Reader_readOperator_115 rfl ?_
    refine x_bipush (v := 33) d_Reader_readOperator_116 (by decide) ?_
    refine x_icmp_ne (tgt := 124) d_Reader_readOperator_118 (by decide) (fun _ => ?_) (fun hn => absurd hn (by decide))
    refine x_iload_n d_Reader_readOperator_124 rfl ?_
    refine x_bipush (v := 60) d_Reader_readOperator_125 (by decide) ?_
    refine x_icmp_ne (tgt := 134) d_Reader_readOperator_127 (by decide) (fun _ => ?_) (fun hn => absurd hn (by decide))
    refine x_iconst (v := 4) d_Reader_readOperator_134 (by decide) ?_
    refine x_istore_n (L' := [_, _, _, _]) d_Reader_readOperator_135 rfl rfl ?_
    refine x_iload_n d_Reader_readOperator_136 rfl ?_
    refine x_if_eq (tgt := 146) d_Reader_readOperator_137 (by decide) (fun ht => absurd ht (by decide)) (fun _ => ?_)
    refine x_iload_n d_Reader_readOperator_140 rfl ?_
    refine x_iconst (v := 2) d_Reader_readOperator_141 (by decide) ?_
    refine x_ior d_Reader_readOperator_142 ?_
    refine x_goto (tgt := 147) d_Reader_readOperator_143 (by decide) ?_
    refine x_iret d_Reader_readOperator_147 rfl ?_
    exact hP
theorem c_readOperator (hG : xGk G) (hd : 6 ≤ d) {K r ta na la ba va p o tc m : Nat} {t ln : List Nat} (hr : h r = some (rdO ta na la ba p o tc)) (hS : isS G h ta t) (hl : t.length < 2 ^ 20) (hp : p ≤ t.length) (hB : isB h ba va ln m) (hK : K < 2 ^ 16) (hm : m ≤ K) (hL : 2 * ln.length + 8 ≤ K) (hc : c + K ≤ xCB + m) (hn : n + 2 * K ≤ xSB + 2 * m) :
    XM l G d M_Reader_readOperator [.ref r] h c n (fun v h' c' n' => v = some (.int (oI (opr t p).2.1)) ∧ pR 0 0 K r ba va (rdO ta na la ba (opr t p).1 o tc) (ln ++ (opr t p).2.2) m h c n h' c' n') := by
  obtain ⟨d, rfl⟩ : ∃ q, d = q + 1 := ⟨d - 1, by omega⟩
  refine XM.of (by decide +kernel) (Nat.le_of_ble_eq_true rfl) ?_
  have hs128 := chr_lt (p := p) hS.asc
  have at31 : ∀ e2 e3, (chr t p = 61 ∨ chr t p = 33 ∨ chr t p = 60 ∨ chr t p = 62) → XW l G M_Reader_readOperator (d + 1) 31 [some (.ref r), some (.int (nI (chr t p))), e2, e3] [] h c n (fun v h' c' n' => v = some (.int (oI (opr t p).2.1)) ∧ pR 0 0 K r ba va (rdO ta na la ba (opr t p).1 o tc) (ln ++ (opr t p).2.2) m h c n h' c' n') := by
    intro e2 e3 hs
    have hpl : p < t.length := Nat.lt_of_not_le (fun z => by rw [chr_out z] at hs; omega)
    refine x_aload_n d_Reader_readOperator_31 rfl rfl ?_
    refine x_dup d_Reader_readOperator_32 rfl ?_
    refine x_get xf_Reader_25_Reader (Or.inl hr) rfl d_Reader_readOperator_33 ?_
    refine x_iconst (v := 1) d_Reader_readOperator_36 (by decide) ?_
    refine x_iadd d_Reader_readOperator_37 ?_
    refine x_top (w := .int (nI (p + 1))) (by rw [show (1 : Int32) = nI 1 from rfl, nI_add]) ?_
    refine x_put xf_Reader_25_Reader xp_Reader_4 rfl rfl hr rfl rfl d_Reader_readOperator_38 ?_
    obtain ⟨va0, m0, r0, b0, f0, w0, g0⟩ := pR.ofU (c := c) (n := n) (e := rdO ta na la ba (p + 1) o tc) hr hB hm
    obtain ⟨z0, bs0, hb0, -⟩ := id b0
    refine x_aload_n d_Reader_readOperator_41 rfl rfl ?_
    refine x_get xf_Reader_21_Reader (Or.inl r0) rfl d_Reader_readOperator_42 ?_
    refine x_iload_n d_Reader_readOperator_45 rfl ?_
    refine x_callV (As := [_]) (k := k_StringBuilder) rfl xcv_Reader_143_SB (Or.inl hb0) (c_SB_append_C (K := K) (by omega) b0 hs128 hK g0.2.1 (by omega) (by omega) (by omega)) rfl rfl (Nat.le_of_ble_eq_true rfl) d_Reader_readOperator_46 ?_
    rintro v h1 c1 n1 ⟨rfl, p1⟩
    obtain ⟨va1, m1, r1, b1, f1, w1, g1⟩ := pR.tr r0 b0 f0 w0 g0 (pR.ofB r0 b0 p1)
    have hS1 : isS G h1 ta t := hS.fr f1 (hB.kR hr (by decide) (by decide) (by decide))
    refine x_pop d_Reader_readOperator_49 rfl ?_
    refine x_aload_n d_Reader_readOperator_50 rfl rfl ?_
    refine x_callV (As := []) (k := k_Reader) rfl xcv_Reader_101_Reader (Or.inl r1) (c_characterHere hG (by omega) r1 hS1 hl (by omega)) rfl rfl (Nat.le_of_ble_eq_true rfl) d_Reader_readOperator_51 ?_
    rintro v h' c' n' ⟨rfl, rfl, rfl, rfl⟩
    refine x_bipush (v := 61) d_Reader_readOperator_54 (by decide) ?_
    have h128 := chr_lt (p := p + 1) hS.asc
    by_cases hd2 : chr t (p + 1) = 61
    · have hpl2 : p + 1 < t.length := Nat.lt_of_not_le (fun z => by rw [chr_out z] at hd2; omega)
      refine x_icmp_ne (tgt := 63) d_Reader_readOperator_56 (by decide) (fun ht => absurd (by rw [hd2]; rfl) ht) (fun _ => ?_)
      refine x_iconst (v := 1) d_Reader_readOperator_59 (by decide) ?_
      refine x_goto (tgt := 64) d_Reader_readOperator_60 (by decide) ?_
      refine x_istore_n (L' := [_, _, _, _]) d_Reader_readOperator_64 rfl rfl ?_
      refine x_iload_n d_Reader_readOperator_65 rfl ?_
      refine x_if_eq (tgt := 89) d_Reader_readOperator_66 (by decide) (fun ht => absurd ht (by decide)) (fun _ => ?_)
      refine x_aload_n d_Reader_readOperator_69 rfl rfl ?_
      refine x_dup d_Reader_readOperator_70 rfl ?_
      refine x_get xf_Reader_25_Reader (Or.inl r1) rfl d_Reader_readOperator_71 ?_
      refine x_iconst (v := 1) d_Reader_readOperator_74 (by decide) ?_
      refine x_iadd d_Reader_readOperator_75 ?_
      refine x_top (w := .int (nI (p + 2))) (by rw [show (1 : Int32) = nI 1 from rfl, nI_add]) ?_
      refine x_put xf_Reader_25_Reader xp_Reader_4 rfl rfl r1 rfl rfl d_Reader_readOperator_76 ?_
      obtain ⟨va2, m2, r2, b2, f2, w2, g2⟩ := pR.tr r1 b1 f1 w1 g1 (pR.ofU (c := c') (n := n') (e := rdO ta na la ba (p + 2) o tc) r1 b1 g1.2.1)
      obtain ⟨z2, bs2, hb2, -⟩ := id b2
      refine x_aload_n d_Reader_readOperator_79 rfl rfl ?_
      refine x_get xf_Reader_21_Reader (Or.inl r2) rfl d_Reader_readOperator_80 ?_
      refine x_bipush (v := 61) d_Reader_readOperator_83 (by decide) ?_
      refine x_callV (As := [_]) (k := k_StringBuilder) rfl xcv_Reader_143_SB (Or.inl hb2) (c_SB_append_C (K := K) (ch := 61) (by omega) b2 (by decide) hK g2.2.1 (by simp; omega) (by omega) (by omega)) rfl rfl (Nat.le_of_ble_eq_true rfl) d_Reader_readOperator_85 ?_
      rintro v h3 c3 n3 ⟨rfl, p3⟩
      have q3 := pR.tr r2 b2 f2 w2 g2 (pR.ofB r2 b2 p3)
      refine x_pop d_Reader_readOperator_88 rfl ?_
      have hop : opr t p = (p + 2, some (if chr t p = 61 then 2 else if chr t p = 33 then 13 else if chr t p = 60 then 3 else 6), [chr t p, 61]) := by
        unfold opr
        rw [if_pos hs, if_pos hd2]
      rw [hop]
      refine opr_at89 (b := true) (va := 0) (ba := 0) (K := 0) (m := 0) hs ⟨rfl, ?_⟩
      simpa using q3
    · have hop : opr t p = (p + 1, (if chr t p = 61 then none else if chr t p = 33 then none else if chr t p = 60 then some 1 else some 4), [chr t p]) := by
        unfold opr
        rw [if_pos hs, if_neg hd2]
      refine x_icmp_ne (tgt := 63) d_Reader_readOperator_56 (by decide) (fun _ => ?_) (fun hn => absurd hn (fun z => hd2 ((nI_eq (b := 61) (by omega) (by omega)).mp z)))
      refine x_iconst (v := 0) d_Reader_readOperator_63 (by decide) ?_
      refine x_istore_n (L' := [_, _, _, _]) d_Reader_readOperator_64 rfl rfl ?_
      refine x_iload_n d_Reader_readOperator_65 rfl ?_
      refine x_if_eq (tgt := 89) d_Reader_readOperator_66 (by decide) (fun _ => ?_) (fun hn => absurd rfl hn)
      rw [hop]
      refine opr_at89 (b := false) (va := 0) (ba := 0) (K := 0) (m := 0) hs ⟨rfl, va1, m1, r1, b1, f1, w1, g1⟩
  refine x_aload_n d_Reader_readOperator_0 rfl rfl ?_
  refine x_callV (As := []) (k := k_Reader) rfl xcv_Reader_101_Reader (Or.inl hr) (c_characterHere hG (by omega) hr hS hl hp) rfl rfl (Nat.le_of_ble_eq_true rfl) d_Reader_readOperator_1 ?_
  rintro v h' c' n' ⟨rfl, rfl, rfl, rfl⟩
  by_cases k1 : chr t p = 61
  · refine x_istore_n (L' := [_, _, _, _]) d_Reader_readOperator_4 rfl rfl ?_
    refine x_iload_n d_Reader_readOperator_5 rfl ?_
    refine x_bipush (v := 61) d_Reader_readOperator_6 (by decide) ?_
    refine x_icmp_eq (tgt := 31) d_Reader_readOperator_8 (by decide) (fun _ => ?_) (fun hn => absurd (by rw [k1]; rfl) hn)
    exact at31 _ _ (Or.inl k1)
  by_cases k2 : chr t p = 33
  · refine x_istore_n (L' := [_, _, _, _]) d_Reader_readOperator_4 rfl rfl ?_
    refine x_iload_n d_Reader_readOperator_5 rfl ?_
    refine x_bipush (v := 61) d_Reader_readOperator_6 (by decide) ?_
    refine x_icmp_eq (tgt := 31) d_Reader_readOperator_8 (by decide) (fun ht => absurd ht (fun z => k1 ((nI_eq (b := 61) (by omega) (by omega)).mp z))) (fun _ => ?_)
    refine x_iload_n d_Reader_readOperator_11 rfl ?_
    refine x_bipush (v := 33) d_Reader_readOperator_12 (by decide) ?_
    refine x_icmp_eq (tgt := 31) d_Reader_readOperator_14 (by decide) (fun _ => ?_) (fun hn => absurd (by rw [k2]; rfl) hn)
    exact at31 _ _ (Or.inr (Or.inl k2))
  by_cases k3 : chr t p = 60
  · refine x_istore_n (L' := [_, _, _, _]) d_Reader_readOperator_4 rfl rfl ?_
    refine x_iload_n d_Reader_readOperator_5 rfl ?_
    refine x_bipush (v := 61) d_Reader_readOperator_6 (by decide) ?_
    refine x_icmp_eq (tgt := 31) d_Reader_readOperator_8 (by decide) (fun ht => absurd ht (fun z => k1 ((nI_eq (b := 61) (by omega) (by omega)).mp z))) (fun _ => ?_)
    refine x_iload_n d_Reader_readOperator_11 rfl ?_
    refine x_bipush (v := 33) d_Reader_readOperator_12 (by decide) ?_
    refine x_icmp_eq (tgt := 31) d_Reader_readOperator_14 (by decide) (fun ht => absurd ht (fun z => k2 ((nI_eq (b := 33) (by omega) (by omega)).mp z))) (fun _ => ?_)
    refine x_iload_n d_Reader_readOperator_17 rfl ?_
    refine x_bipush (v := 60) d_Reader_readOperator_18 (by decide) ?_
    refine x_icmp_eq (tgt := 31) d_Reader_readOperator_20 (by decide) (fun _ => ?_) (fun hn => absurd (by rw [k3]; rfl) hn)
    exact at31 _ _ (Or.inr (Or.inr (Or.inl k3)))
  by_cases k4 : chr t p = 62
  · refine x_istore_n (L' := [_, _, _, _]) d_Reader_readOperator_4 rfl rfl ?_
    refine x_iload_n d_Reader_readOperator_5 rfl ?_
    refine x_bipush (v := 61) d_Reader_readOperator_6 (by decide) ?_
    refine x_icmp_eq (tgt := 31) d_Reader_readOperator_8 (by decide) (fun ht => absurd ht (fun z => k1 ((nI_eq (b := 61) (by omega) (by omega)).mp z))) (fun _ => ?_)
    refine x_iload_n d_Reader_readOperator_11 rfl ?_
    refine x_bipush (v := 33) d_Reader_readOperator_12 (by decide) ?_
    refine x_icmp_eq (tgt := 31) d_Reader_readOperator_14 (by decide) (fun ht => absurd ht (fun z => k2 ((nI_eq (b := 33) (by omega) (by omega)).mp z))) (fun _ => ?_)
    refine x_iload_n d_Reader_readOperator_17 rfl ?_
    refine x_bipush (v := 60) d_Reader_readOperator_18 (by decide) ?_
    refine x_icmp_eq (tgt := 31) d_Reader_readOperator_20 (by decide) (fun ht => absurd ht (fun z => k3 ((nI_eq (b := 60) (by omega) (by omega)).mp z))) (fun _ => ?_)
    refine x_iload_n d_Reader_readOperator_23 rfl ?_
    refine x_bipush (v := 62) d_Reader_readOperator_24 (by decide) ?_
    refine x_icmp_eq (tgt := 31) d_Reader_readOperator_26 (by decide) (fun _ => ?_) (fun hn => absurd (by rw [k4]; rfl) hn)
    exact at31 _ _ (Or.inr (Or.inr (Or.inr k4)))
  have hop : opr t p = (p, none, []) := by
    unfold opr
    rw [if_neg (by omega)]
  refine x_istore_n (L' := [_, _, _, _]) d_Reader_readOperator_4 rfl rfl ?_
  refine x_iload_n d_Reader_readOperator_5 rfl ?_
  refine x_bipush (v := 61) d_Reader_readOperator_6 (by decide) ?_
  refine x_icmp_eq (tgt := 31) d_Reader_readOperator_8 (by decide) (fun ht => absurd ht (fun z => k1 ((nI_eq (b := 61) (by omega) (by omega)).mp z))) (fun _ => ?_)
  refine x_iload_n d_Reader_readOperator_11 rfl ?_
  refine x_bipush (v := 33) d_Reader_readOperator_12 (by decide) ?_
  refine x_icmp_eq (tgt := 31) d_Reader_readOperator_14 (by decide) (fun ht => absurd ht (fun z => k2 ((nI_eq (b := 33) (by omega) (by omega)).mp z))) (fun _ => ?_)
  refine x_iload_n d_Reader_readOperator_17 rfl ?_
  refine x_bipush (v := 60) d_Reader_readOperator_18 (by decide) ?_
  refine x_icmp_eq (tgt := 31) d_Reader_readOperator_20 (by decide) (fun ht => absurd ht (fun z => k3 ((nI_eq (b := 60) (by omega) (by omega)).mp z))) (fun _ => ?_)
  refine x_iload_n d_Reader_readOperator_23 rfl ?_
  refine x_bipush (v := 62) d_Reader_readOperator_24 (by decide) ?_
  refine x_icmp_eq (tgt := 31) d_Reader_readOperator_26 (by decide) (fun ht => absurd ht (fun z => k4 ((nI_eq (b := 62) (by omega) (by omega)).mp z))) (fun _ => ?_)
  refine x_iconst (v := (-1)) d_Reader_readOperator_29 (by decide) ?_
  refine x_iret d_Reader_readOperator_30 rfl ?_
  rw [hop]
  exact ⟨rfl, by rw [List.append_nil]; exact ⟨va, m, hr, hB, xfr.rf, Or.inl rfl, by omega⟩⟩
end RD3
