section
abbrev y_Name_versionLevel : MethodName := ⟨"MarkerText$Name", "versionLevel", "(Ljava/lang/String;II)J"⟩
abbrev M_Name_versionLevel : XMt := (y_Name_versionLevel, prog_6_method_6_code, 10, (some .long))
theorem d_Name_versionLevel_146 : decode M_Name_versionLevel.2.1 146 = .ok (.iload 8, 2) := by decide +kernel
theorem d_Name_versionLevel_148 : decode M_Name_versionLevel.2.1 148 = .ok (.iconst 3, 1) := by decide +kernel
theorem d_Name_versionLevel_149 : decode M_Name_versionLevel.2.1 149 = .ok (.if_icmp .ge 15, 3) := by decide +kernel
theorem d_Name_versionLevel_164 : decode M_Name_versionLevel.2.1 164 = .ok (.ldc2_w 47, 3) := by decide +kernel
theorem d_Name_versionLevel_167 : decode M_Name_versionLevel.2.1 167 = .ok (.lload_n 3, 1) := by decide +kernel
theorem d_Name_versionLevel_168 : decode M_Name_versionLevel.2.1 168 = .ok (.lmul, 1) := by decide +kernel
theorem d_Name_versionLevel_169 : decode M_Name_versionLevel.2.1 169 = .ok (.ldc2_w 47, 3) := by decide +kernel
theorem d_Name_versionLevel_172 : decode M_Name_versionLevel.2.1 172 = .ok (.ladd, 1) := by decide +kernel
theorem d_Name_versionLevel_173 : decode M_Name_versionLevel.2.1 173 = .ok (.lreturn, 1) := by decide +kernel
theorem d_Name_versionLevel_152 : decode M_Name_versionLevel.2.1 152 = .ok (.lload_n 3, 1) := by decide +kernel
theorem d_Name_versionLevel_153 : decode M_Name_versionLevel.2.1 153 = .ok (.ldc2_w 49, 3) := by decide +kernel
theorem xw_753 : (Jvm.Cond.constantLong "MarkerText$Name" (49 : Nat) (1000 : Int64)) ∈ xT := xT_at 753 (by decide +kernel) (by decide +kernel)
theorem d_Name_versionLevel_156 : decode M_Name_versionLevel.2.1 156 = .ok (.lmul, 1) := by decide +kernel
theorem d_Name_versionLevel_157 : decode M_Name_versionLevel.2.1 157 = .ok (.lstore_n 3, 1) := by decide +kernel
theorem d_Name_versionLevel_158 : decode M_Name_versionLevel.2.1 158 = .ok (.iinc 8 1, 3) := by decide +kernel
theorem d_Name_versionLevel_161 : decode M_Name_versionLevel.2.1 161 = .ok (.goto (-15), 3) := by decide +kernel
theorem d_Name_versionLevel_14 : decode M_Name_versionLevel.2.1 14 = .ok (.iload 8, 2) := by decide +kernel
theorem d_Name_versionLevel_16 : decode M_Name_versionLevel.2.1 16 = .ok (.iload_n 2, 1) := by decide +kernel
theorem d_Name_versionLevel_17 : decode M_Name_versionLevel.2.1 17 = .ok (.if_icmp .ge 108, 3) := by decide +kernel
theorem d_Name_versionLevel_125 : decode M_Name_versionLevel.2.1 125 = .ok (.iload 6, 2) := by decide +kernel
theorem d_Name_versionLevel_127 : decode M_Name_versionLevel.2.1 127 = .ok (.ifCond .ne 5, 3) := by decide +kernel
theorem d_Name_versionLevel_130 : decode M_Name_versionLevel.2.1 130 = .ok (.lconst 0, 1) := by decide +kernel
theorem d_Name_versionLevel_131 : decode M_Name_versionLevel.2.1 131 = .ok (.lreturn, 1) := by decide +kernel
theorem d_Name_versionLevel_132 : decode M_Name_versionLevel.2.1 132 = .ok (.lload_n 3, 1) := by decide +kernel
theorem d_Name_versionLevel_133 : decode M_Name_versionLevel.2.1 133 = .ok (.ldc2_w 49, 3) := by decide +kernel
theorem d_Name_versionLevel_136 : decode M_Name_versionLevel.2.1 136 = .ok (.lmul, 1) := by decide +kernel
theorem d_Name_versionLevel_137 : decode M_Name_versionLevel.2.1 137 = .ok (.iload 5, 2) := by decide +kernel
theorem d_Name_versionLevel_139 : decode M_Name_versionLevel.2.1 139 = .ok (.i2l, 1) := by decide +kernel
theorem d_Name_versionLevel_140 : decode M_Name_versionLevel.2.1 140 = .ok (.ladd, 1) := by decide +kernel
theorem d_Name_versionLevel_141 : decode M_Name_versionLevel.2.1 141 = .ok (.lstore_n 3, 1) := by decide +kernel
theorem d_Name_versionLevel_142 : decode M_Name_versionLevel.2.1 142 = .ok (.iload 7, 2) := by decide +kernel
theorem d_Name_versionLevel_144 : decode M_Name_versionLevel.2.1 144 = .ok (.istore 8, 2) := by decide +kernel
theorem d_Name_versionLevel_20 : decode M_Name_versionLevel.2.1 20 = .ok (.aload_n 0, 1) := by decide +kernel
theorem d_Name_versionLevel_21 : decode M_Name_versionLevel.2.1 21 = .ok (.iload 8, 2) := by decide +kernel
theorem d_Name_versionLevel_23 : decode M_Name_versionLevel.2.1 23 = .ok (.invokevirtual 35, 3) := by decide +kernel
theorem d_Name_versionLevel_26 : decode M_Name_versionLevel.2.1 26 = .ok (.istore 9, 2) := by decide +kernel
theorem d_Name_versionLevel_28 : decode M_Name_versionLevel.2.1 28 = .ok (.iload 9, 2) := by decide +kernel
theorem d_Name_versionLevel_30 : decode M_Name_versionLevel.2.1 30 = .ok (.bipush 46, 2) := by decide +kernel
theorem d_Name_versionLevel_32 : decode M_Name_versionLevel.2.1 32 = .ok (.if_icmp .ne 36, 3) := by decide +kernel
theorem d_Name_versionLevel_35 : decode M_Name_versionLevel.2.1 35 = .ok (.iload 6, 2) := by decide +kernel
theorem d_Name_versionLevel_37 : decode M_Name_versionLevel.2.1 37 = .ok (.ifCond .le 31, 3) := by decide +kernel
theorem d_Name_versionLevel_40 : decode M_Name_versionLevel.2.1 40 = .ok (.iload 7, 2) := by decide +kernel
theorem d_Name_versionLevel_42 : decode M_Name_versionLevel.2.1 42 = .ok (.iconst 3, 1) := by decide +kernel
theorem d_Name_versionLevel_43 : decode M_Name_versionLevel.2.1 43 = .ok (.if_icmp .ge 25, 3) := by decide +kernel
theorem d_Name_versionLevel_46 : decode M_Name_versionLevel.2.1 46 = .ok (.lload_n 3, 1) := by decide +kernel
theorem d_Name_versionLevel_47 : decode M_Name_versionLevel.2.1 47 = .ok (.ldc2_w 49, 3) := by decide +kernel
theorem d_Name_versionLevel_50 : decode M_Name_versionLevel.2.1 50 = .ok (.lmul, 1) := by decide +kernel
theorem d_Name_versionLevel_51 : decode M_Name_versionLevel.2.1 51 = .ok (.iload 5, 2) := by decide +kernel
theorem d_Name_versionLevel_53 : decode M_Name_versionLevel.2.1 53 = .ok (.i2l, 1) := by decide +kernel
theorem d_Name_versionLevel_54 : decode M_Name_versionLevel.2.1 54 = .ok (.ladd, 1) := by decide +kernel
theorem d_Name_versionLevel_55 : decode M_Name_versionLevel.2.1 55 = .ok (.lstore_n 3, 1) := by decide +kernel
theorem d_Name_versionLevel_56 : decode M_Name_versionLevel.2.1 56 = .ok (.iconst 0, 1) := by decide +kernel
theorem d_Name_versionLevel_57 : decode M_Name_versionLevel.2.1 57 = .ok (.istore 5, 2) := by decide +kernel
theorem d_Name_versionLevel_59 : decode M_Name_versionLevel.2.1 59 = .ok (.iconst 0, 1) := by decide +kernel
theorem d_Name_versionLevel_60 : decode M_Name_versionLevel.2.1 60 = .ok (.istore 6, 2) := by decide +kernel
theorem d_Name_versionLevel_62 : decode M_Name_versionLevel.2.1 62 = .ok (.iinc 7 1, 3) := by decide +kernel
theorem d_Name_versionLevel_65 : decode M_Name_versionLevel.2.1 65 = .ok (.goto 54, 3) := by decide +kernel
theorem d_Name_versionLevel_119 : decode M_Name_versionLevel.2.1 119 = .ok (.iinc 8 1, 3) := by decide +kernel
theorem d_Name_versionLevel_122 : decode M_Name_versionLevel.2.1 122 = .ok (.goto (-108), 3) := by decide +kernel
theorem d_Name_versionLevel_117 : decode M_Name_versionLevel.2.1 117 = .ok (.lconst 0, 1) := by decide +kernel
theorem d_Name_versionLevel_118 : decode M_Name_versionLevel.2.1 118 = .ok (.lreturn, 1) := by decide +kernel
theorem d_Name_versionLevel_98 : decode M_Name_versionLevel.2.1 98 = .ok (.iload 5, 2) := by decide +kernel
theorem d_Name_versionLevel_100 : decode M_Name_versionLevel.2.1 100 = .ok (.bipush 10, 2) := by decide +kernel
theorem d_Name_versionLevel_102 : decode M_Name_versionLevel.2.1 102 = .ok (.imul, 1) := by decide +kernel
theorem d_Name_versionLevel_103 : decode M_Name_versionLevel.2.1 103 = .ok (.iload 9, 2) := by decide +kernel
theorem d_Name_versionLevel_105 : decode M_Name_versionLevel.2.1 105 = .ok (.bipush 48, 2) := by decide +kernel
theorem d_Name_versionLevel_107 : decode M_Name_versionLevel.2.1 107 = .ok (.isub, 1) := by decide +kernel
theorem d_Name_versionLevel_108 : decode M_Name_versionLevel.2.1 108 = .ok (.iadd, 1) := by decide +kernel
theorem d_Name_versionLevel_109 : decode M_Name_versionLevel.2.1 109 = .ok (.istore 5, 2) := by decide +kernel
theorem d_Name_versionLevel_111 : decode M_Name_versionLevel.2.1 111 = .ok (.iinc 6 1, 3) := by decide +kernel
theorem d_Name_versionLevel_114 : decode M_Name_versionLevel.2.1 114 = .ok (.goto 5, 3) := by decide +kernel
theorem d_Name_versionLevel_68 : decode M_Name_versionLevel.2.1 68 = .ok (.iload 9, 2) := by decide +kernel
theorem d_Name_versionLevel_70 : decode M_Name_versionLevel.2.1 70 = .ok (.bipush 48, 2) := by decide +kernel
theorem d_Name_versionLevel_72 : decode M_Name_versionLevel.2.1 72 = .ok (.if_icmp .lt 45, 3) := by decide +kernel
theorem d_Name_versionLevel_75 : decode M_Name_versionLevel.2.1 75 = .ok (.iload 9, 2) := by decide +kernel
theorem d_Name_versionLevel_77 : decode M_Name_versionLevel.2.1 77 = .ok (.bipush 57, 2) := by decide +kernel
theorem d_Name_versionLevel_79 : decode M_Name_versionLevel.2.1 79 = .ok (.if_icmp .gt 38, 3) := by decide +kernel
theorem d_Name_versionLevel_82 : decode M_Name_versionLevel.2.1 82 = .ok (.iload 6, 2) := by decide +kernel
theorem d_Name_versionLevel_84 : decode M_Name_versionLevel.2.1 84 = .ok (.iconst 3, 1) := by decide +kernel
theorem d_Name_versionLevel_85 : decode M_Name_versionLevel.2.1 85 = .ok (.if_icmp .ge 32, 3) := by decide +kernel
theorem d_Name_versionLevel_88 : decode M_Name_versionLevel.2.1 88 = .ok (.iload 6, 2) := by decide +kernel
theorem d_Name_versionLevel_90 : decode M_Name_versionLevel.2.1 90 = .ok (.ifCond .eq 8, 3) := by decide +kernel
theorem d_Name_versionLevel_93 : decode M_Name_versionLevel.2.1 93 = .ok (.iload 5, 2) := by decide +kernel
theorem d_Name_versionLevel_95 : decode M_Name_versionLevel.2.1 95 = .ok (.ifCond .le 22, 3) := by decide +kernel
theorem d_Name_versionLevel_0 : decode M_Name_versionLevel.2.1 0 = .ok (.lconst 0, 1) := by decide +kernel
theorem d_Name_versionLevel_1 : decode M_Name_versionLevel.2.1 1 = .ok (.lstore_n 3, 1) := by decide +kernel
theorem d_Name_versionLevel_2 : decode M_Name_versionLevel.2.1 2 = .ok (.iconst 0, 1) := by decide +kernel
theorem d_Name_versionLevel_3 : decode M_Name_versionLevel.2.1 3 = .ok (.istore 5, 2) := by decide +kernel
theorem d_Name_versionLevel_5 : decode M_Name_versionLevel.2.1 5 = .ok (.iconst 0, 1) := by decide +kernel
theorem d_Name_versionLevel_6 : decode M_Name_versionLevel.2.1 6 = .ok (.istore 6, 2) := by decide +kernel
theorem d_Name_versionLevel_8 : decode M_Name_versionLevel.2.1 8 = .ok (.iconst 1, 1) := by decide +kernel
theorem d_Name_versionLevel_9 : decode M_Name_versionLevel.2.1 9 = .ok (.istore 7, 2) := by decide +kernel
theorem d_Name_versionLevel_11 : decode M_Name_versionLevel.2.1 11 = .ok (.iload_n 1, 1) := by decide +kernel
theorem d_Name_versionLevel_12 : decode M_Name_versionLevel.2.1 12 = .ok (.istore 8, 2) := by decide +kernel
end
section NM2
variable {l : Launch} {G : XG} {h : XH} {c n d : Nat}
/-- a version as it is read: the numbers read whole as one key, the number that is read, its digits, how many numbers -/
def vst (s : Nat × Nat × Nat × Nat) (ch : Nat) : Option (Nat × Nat × Nat × Nat) :=
  if ch = 46 ∧ 0 < s.2.2.1 ∧ s.2.2.2 < 3 then some (s.1 * 1000 + s.2.1, 0, 0, s.2.2.2 + 1)
  else if (48 ≤ ch ∧ ch ≤ 57) ∧ s.2.2.1 < 3 ∧ (s.2.2.1 = 0 ∨ 0 < s.2.1) then some (s.1, s.2.1 * 10 + (ch - 48), s.2.2.1 + 1, s.2.2.2)
  else none
def vrun : List Nat → Nat × Nat × Nat × Nat → Option (Nat × Nat × Nat × Nat)
  | [], s => some s
  | ch :: u, s => match vst s ch with
    | none => none
    | some s' => vrun u s'
def vfin : Option (Nat × Nat × Nat × Nat) → Nat
  | none => 0
  | some s => if s.2.2.1 = 0 then 0 else 2 * ((s.1 * 1000 + s.2.1) * 1000 ^ (3 - s.2.2.2)) + 2
/-- the level of a version VALUE; 0 if it is none -/
def vsl (u : List Nat) : Nat := vfin (vrun u (0, 0, 0, 1))
theorem lp_ver2 {x2 x7 : Int32} {e0 e1 e5 e6 e9 : Option Value} {P : Option Value → XH → Nat → Nat → Prop} : ∀ (k i key : Nat), i + k = 3 → P (some (.long (lN (2 * (key * 1000 ^ k) + 2)))) h c n → XW l G M_Name_versionLevel d 146 [e0, e1, some (.int x2), some (.long (lN key)), none, e5, e6, some (.int x7), some (.int (nI i)), e9] [] h c n P := by
  intro k
  induction k with
  | zero =>
    intro i key hi hP
    have hi3 : i = 3 := by omega
    subst hi3
    refine x_iload d_Name_versionLevel_146 rfl ?_
    refine x_iconst (v := 3) d_Name_versionLevel_148 (by decide) ?_
    refine x_icmp_ge (tgt := 164) d_Name_versionLevel_149 (by decide) (fun _ => ?_) (fun hn => absurd (by decide) hn)
    refine x_ldc2 (v := 2) xw_754 d_Name_versionLevel_164 ?_
    refine x_lload_n d_Name_versionLevel_167 rfl ?_
    refine x_lmul d_Name_versionLevel_168 ?_
    refine x_ldc2 (v := 2) xw_754 d_Name_versionLevel_169 ?_
    refine x_ladd d_Name_versionLevel_172 ?_
    refine x_top (w := .long (lN (2 * (key * 1000 ^ 0) + 2))) (by rw [show (2 : Int64) = lN 2 from rfl, lN_mul, lN_add, Nat.pow_zero, Nat.mul_one]) ?_
    refine x_lret d_Name_versionLevel_173 rfl ?_
    exact hP
  | succ k ih =>
    intro i key hi hP
    refine x_iload d_Name_versionLevel_146 rfl ?_
    refine x_iconst (v := 3) d_Name_versionLevel_148 (by decide) ?_
    refine x_icmp_ge (tgt := 164) d_Name_versionLevel_149 (by decide) (fun ht => absurd ht (nI_ge (a := i) (b := 3) (by omega) (by omega))) (fun _ => ?_)
    refine x_lload_n d_Name_versionLevel_152 rfl ?_
    refine x_ldc2 (v := 1000) xw_753 d_Name_versionLevel_153 ?_
    refine x_lmul d_Name_versionLevel_156 ?_
    refine x_top (w := .long (lN (key * 1000))) (by rw [show (1000 : Int64) = lN 1000 from rfl, lN_mul]) ?_
    refine x_lstore_n (L' := [_, _, _, _, _, _, _, _, _, _]) d_Name_versionLevel_157 rfl rfl ?_
    refine x_iinc (v := nI (i + 1)) (L' := [_, _, _, _, _, _, _, _, _, _]) d_Name_versionLevel_158 rfl (by exact xw_iinc1) rfl rfl ?_
    refine x_goto (tgt := 146) d_Name_versionLevel_161 (by decide) ?_
    refine ih (i + 1) (key * 1000) (by omega) ?_
    rw [Nat.mul_assoc, show 1000 * 1000 ^ k = 1000 ^ (k + 1) by rw [Nat.pow_succ, Nat.mul_comm]]
    exact hP
theorem lp_ver1 (hG : xGk G) (hd : 4 ≤ d) {a f b : Nat} {t : List Nat} {P : Option Value → XH → Nat → Nat → Prop} (hS : isS G h a t) (hb : b ≤ t.length) (hl : t.length < 2 ^ 20) :
    ∀ (k i key num dg nb : Nat) (e9 : Option Value), i + k = b → num < 10 ^ dg → dg ≤ 3 → 1 ≤ nb → nb ≤ 3 → P (some (.long (lN (vfin (vrun ((t.drop i).take k) (key, num, dg, nb)))))) h c n → XW l G M_Name_versionLevel d 14 [some (.ref a), some (.int (nI f)), some (.int (nI b)), some (.long (lN key)), none, some (.int (nI num)), some (.int (nI dg)), some (.int (nI nb)), some (.int (nI i)), e9] [] h c n P := by
  obtain ⟨d, rfl⟩ : ∃ q, d = q + 1 := ⟨d - 1, by omega⟩
  obtain ⟨va, ee, ha, -, hat⟩ := id hS
  have hbig : ∀ {num dg : Nat}, num < 10 ^ dg → dg ≤ 3 → num < 1000 := fun {num dg} h1 h2 => Nat.lt_of_lt_of_le h1 (Nat.pow_le_pow_right (by omega) h2)
  intro k
  induction k with
  | zero =>
    intro i key num dg nb e9 hi hn hdg hb1 hb3 hP
    have := hbig hn hdg
    refine x_iload d_Name_versionLevel_14 rfl ?_
    refine x_iload_n d_Name_versionLevel_16 rfl ?_
    refine x_icmp_ge (tgt := 125) d_Name_versionLevel_17 (by decide) (fun _ => ?_) (fun hn => absurd (nI_le (by omega) (by omega)) hn)
    refine x_iload d_Name_versionLevel_125 rfl ?_
    simp only [List.take_zero, vrun, vfin] at hP
    by_cases h0 : dg = 0
    · subst h0
      rw [if_pos rfl] at hP
      refine x_if_ne (tgt := 132) d_Name_versionLevel_127 (by decide) (fun ht => absurd rfl ht) (fun _ => ?_)
      refine x_lconst (v := 0) d_Name_versionLevel_130 (by decide) ?_
      refine x_lret d_Name_versionLevel_131 rfl ?_
      exact hP
    · rw [if_neg h0] at hP
      refine x_if_ne (tgt := 132) d_Name_versionLevel_127 (by decide) (fun _ => ?_) (fun hn => absurd hn (nI_ne0 (by omega) (by omega)))
      refine x_lload_n d_Name_versionLevel_132 rfl ?_
      refine x_ldc2 (v := 1000) xw_753 d_Name_versionLevel_133 ?_
      refine x_lmul d_Name_versionLevel_136 ?_
      refine x_iload d_Name_versionLevel_137 rfl ?_
      refine x_i2l d_Name_versionLevel_139 ?_
      refine x_ladd d_Name_versionLevel_140 ?_
      refine x_top (w := .long (lN (key * 1000 + num))) (by rw [nI_l (by omega), show (1000 : Int64) = lN 1000 from rfl, lN_mul, lN_add]) ?_
      refine x_lstore_n (L' := [_, _, _, _, _, _, _, _, _, _]) d_Name_versionLevel_141 rfl rfl ?_
      refine x_iload d_Name_versionLevel_142 rfl ?_
      refine x_istore (L' := [_, _, _, _, _, _, _, _, _, _]) d_Name_versionLevel_144 rfl rfl ?_
      exact lp_ver2 (3 - nb) nb (key * 1000 + num) (by omega) hP
  | succ k ih =>
    intro i key num dg nb e9 hi hn hdg hb1 hb3 hP
    have hil : i < t.length := by omega
    have hch := hat t[i] (List.getElem_mem hil)
    have hnb := hbig hn hdg
    rw [List.drop_eq_getElem_cons hil, List.take_succ_cons] at hP
    refine x_iload d_Name_versionLevel_14 rfl ?_
    refine x_iload_n d_Name_versionLevel_16 rfl ?_
    refine x_icmp_ge (tgt := 125) d_Name_versionLevel_17 (by decide) (fun ht => absurd ht (nI_ge (by omega) (by omega))) (fun _ => ?_)
    refine x_aload_n d_Name_versionLevel_20 rfl rfl ?_
    refine x_iload d_Name_versionLevel_21 rfl ?_
    refine x_callV (As := [_]) (k := k_String) rfl xcv_Name_35_String ha (c_String_charAt hG (by omega) hS hil (by omega)) rfl rfl (Nat.le_of_ble_eq_true rfl) d_Name_versionLevel_23 ?_
    rintro v h' c' n' ⟨rfl, rfl, rfl, rfl⟩
    refine x_istore (L' := [_, _, _, _, _, _, _, _, _, _]) d_Name_versionLevel_26 rfl rfl ?_
    refine x_iload d_Name_versionLevel_28 rfl ?_
    refine x_bipush (v := 46) d_Name_versionLevel_30 (by decide) ?_
    generalize hce : t[i] = ch at *
    simp only [vrun, vst] at hP
    by_cases hA : ch = 46 ∧ 0 < dg ∧ nb < 3
    · rw [if_pos hA] at hP
      refine x_icmp_ne (tgt := 68) d_Name_versionLevel_32 (by decide) (fun ht => absurd (by rw [hA.1]; rfl) ht) (fun _ => ?_)
      refine x_iload d_Name_versionLevel_35 rfl ?_
      refine x_if_le (tgt := 68) d_Name_versionLevel_37 (by decide) (fun ht => absurd ht (nI_nle hA.2.1 (by omega))) (fun _ => ?_)
      refine x_iload d_Name_versionLevel_40 rfl ?_
      refine x_iconst (v := 3) d_Name_versionLevel_42 (by decide) ?_
      refine x_icmp_ge (tgt := 68) d_Name_versionLevel_43 (by decide) (fun ht => absurd ht (nI_ge (a := nb) (b := 3) hA.2.2 (by omega))) (fun _ => ?_)
      refine x_lload_n d_Name_versionLevel_46 rfl ?_
      refine x_ldc2 (v := 1000) xw_753 d_Name_versionLevel_47 ?_
      refine x_lmul d_Name_versionLevel_50 ?_
      refine x_iload d_Name_versionLevel_51 rfl ?_
      refine x_i2l d_Name_versionLevel_53 ?_
      refine x_ladd d_Name_versionLevel_54 ?_
      refine x_top (w := .long (lN (key * 1000 + num))) (by rw [nI_l (by omega), show (1000 : Int64) = lN 1000 from rfl, lN_mul, lN_add]) ?_
      refine x_lstore_n (L' := [_, _, _, _, _, _, _, _, _, _]) d_Name_versionLevel_55 rfl rfl ?_
      refine x_iconst (v := 0) d_Name_versionLevel_56 (by decide) ?_
      refine x_istore (L' := [_, _, _, _, _, _, _, _, _, _]) d_Name_versionLevel_57 rfl rfl ?_
      refine x_iconst (v := 0) d_Name_versionLevel_59 (by decide) ?_
      refine x_istore (L' := [_, _, _, _, _, _, _, _, _, _]) d_Name_versionLevel_60 rfl rfl ?_
      refine x_iinc (v := nI (nb + 1)) (L' := [_, _, _, _, _, _, _, _, _, _]) d_Name_versionLevel_62 rfl (by exact xw_iinc1) rfl rfl ?_
      refine x_goto (tgt := 119) d_Name_versionLevel_65 (by decide) ?_
      refine x_iinc (v := nI (i + 1)) (L' := [_, _, _, _, _, _, _, _, _, _]) d_Name_versionLevel_119 rfl (by exact xw_iinc1) rfl rfl ?_
      refine x_goto (tgt := 14) d_Name_versionLevel_122 (by decide) ?_
      exact ih (i + 1) _ 0 0 (nb + 1) _ (by omega) (by decide) (by omega) (by omega) (by omega) hP
    · rw [if_neg hA] at hP
      have at117 : ¬ ((48 ≤ ch ∧ ch ≤ 57) ∧ dg < 3 ∧ (dg = 0 ∨ 0 < num)) → XW l G M_Name_versionLevel (d + 1) 117 [some (.ref a), some (.int (nI f)), some (.int (nI b)), some (.long (lN key)), none, some (.int (nI num)), some (.int (nI dg)), some (.int (nI nb)), some (.int (nI i)), some (.int (nI ch))] [] h' c' n' P := by
        intro hB
        rw [if_neg hB] at hP
        refine x_lconst (v := 0) d_Name_versionLevel_117 (by decide) ?_
        refine x_lret d_Name_versionLevel_118 rfl ?_
        exact hP
      have at98 : (48 ≤ ch ∧ ch ≤ 57) ∧ dg < 3 ∧ (dg = 0 ∨ 0 < num) → XW l G M_Name_versionLevel (d + 1) 98 [some (.ref a), some (.int (nI f)), some (.int (nI b)), some (.long (lN key)), none, some (.int (nI num)), some (.int (nI dg)), some (.int (nI nb)), some (.int (nI i)), some (.int (nI ch))] [] h' c' n' P := by
        intro hB
        rw [if_pos hB] at hP
        refine x_iload d_Name_versionLevel_98 rfl ?_
        refine x_bipush (v := 10) d_Name_versionLevel_100 (by decide) ?_
        refine x_imul d_Name_versionLevel_102 ?_
        refine x_iload d_Name_versionLevel_103 rfl ?_
        refine x_bipush (v := 48) d_Name_versionLevel_105 (by decide) ?_
        refine x_isub d_Name_versionLevel_107 ?_
        refine x_iadd d_Name_versionLevel_108 ?_
        refine x_top (w := .int (nI (num * 10 + (ch - 48)))) (by rw [show (48 : Int32) = nI 48 from rfl, show (10 : Int32) = nI 10 from rfl, pk_sub hB.1.1, pk_mul, nI_add]) ?_
        refine x_istore (L' := [_, _, _, _, _, _, _, _, _, _]) d_Name_versionLevel_109 rfl rfl ?_
        refine x_iinc (v := nI (dg + 1)) (L' := [_, _, _, _, _, _, _, _, _, _]) d_Name_versionLevel_111 rfl (by exact xw_iinc1) rfl rfl ?_
        refine x_goto (tgt := 119) d_Name_versionLevel_114 (by decide) ?_
        refine x_iinc (v := nI (i + 1)) (L' := [_, _, _, _, _, _, _, _, _, _]) d_Name_versionLevel_119 rfl (by exact xw_iinc1) rfl rfl ?_
        refine x_goto (tgt := 14) d_Name_versionLevel_122 (by decide) ?_
        exact ih (i + 1) _ _ (dg + 1) nb _ (by omega) (by rw [Nat.pow_succ]; omega) (by omega) hb1 hb3 hP
      have at68 : XW l G M_Name_versionLevel (d + 1) 68 [some (.ref a), some (.int (nI f)), some (.int (nI b)), some (.long (lN key)), none, some (.int (nI num)), some (.int (nI dg)), some (.int (nI nb)), some (.int (nI i)), some (.int (nI ch))] [] h' c' n' P := by
        by_cases g1 : 48 ≤ ch
        · by_cases g2 : ch ≤ 57
          · by_cases g3 : dg < 3
            · refine x_iload d_Name_versionLevel_68 rfl ?_
              refine x_bipush (v := 48) d_Name_versionLevel_70 (by decide) ?_
              refine x_icmp_lt (tgt := 117) d_Name_versionLevel_72 (by decide) (fun ht => absurd ht (nI_nlt (b := 48) g1 (by omega))) (fun _ => ?_)
              refine x_iload d_Name_versionLevel_75 rfl ?_
              refine x_bipush (v := 57) d_Name_versionLevel_77 (by decide) ?_
              refine x_icmp_gt (tgt := 117) d_Name_versionLevel_79 (by decide) (fun ht => absurd ht (nI_nlt (a := 57) g2 (by omega))) (fun _ => ?_)
              refine x_iload d_Name_versionLevel_82 rfl ?_
              refine x_iconst (v := 3) d_Name_versionLevel_84 (by decide) ?_
              refine x_icmp_ge (tgt := 117) d_Name_versionLevel_85 (by decide) (fun ht => absurd ht (nI_ge (b := 3) g3 (by omega))) (fun _ => ?_)
              refine x_iload d_Name_versionLevel_88 rfl ?_
              by_cases g4 : dg = 0
              · subst g4
                refine x_if_eq (tgt := 98) d_Name_versionLevel_90 (by decide) (fun _ => ?_) (fun hn => absurd rfl hn)
                exact at98 ⟨⟨g1, g2⟩, g3, Or.inl rfl⟩
              · refine x_if_eq (tgt := 98) d_Name_versionLevel_90 (by decide) (fun ht => absurd ht (nI_ne0 (by omega) (by omega))) (fun _ => ?_)
                refine x_iload d_Name_versionLevel_93 rfl ?_
                by_cases g5 : num = 0
                · subst g5
                  refine x_if_le (tgt := 117) d_Name_versionLevel_95 (by decide) (fun _ => ?_) (fun hn => absurd (by decide) hn)
                  exact at117 (fun z => by omega)
                · refine x_if_le (tgt := 117) d_Name_versionLevel_95 (by decide) (fun ht => absurd ht (nI_nle (by omega) (by omega))) (fun _ => ?_)
                  exact at98 ⟨⟨g1, g2⟩, g3, Or.inr (by omega)⟩
            · refine x_iload d_Name_versionLevel_68 rfl ?_
              refine x_bipush (v := 48) d_Name_versionLevel_70 (by decide) ?_
              refine x_icmp_lt (tgt := 117) d_Name_versionLevel_72 (by decide) (fun ht => absurd ht (nI_nlt (b := 48) g1 (by omega))) (fun _ => ?_)
              refine x_iload d_Name_versionLevel_75 rfl ?_
              refine x_bipush (v := 57) d_Name_versionLevel_77 (by decide) ?_
              refine x_icmp_gt (tgt := 117) d_Name_versionLevel_79 (by decide) (fun ht => absurd ht (nI_nlt (a := 57) g2 (by omega))) (fun _ => ?_)
              refine x_iload d_Name_versionLevel_82 rfl ?_
              refine x_iconst (v := 3) d_Name_versionLevel_84 (by decide) ?_
              refine x_icmp_ge (tgt := 117) d_Name_versionLevel_85 (by decide) (fun _ => ?_) (fun hn => absurd (nI_le (a := 3) (by omega) (by omega)) hn)
              exact at117 (fun z => g3 z.2.1)
          · refine x_iload d_Name_versionLevel_68 rfl ?_
            refine x_bipush (v := 48) d_Name_versionLevel_70 (by decide) ?_
            refine x_icmp_lt (tgt := 117) d_Name_versionLevel_72 (by decide) (fun ht => absurd ht (nI_nlt (b := 48) g1 (by omega))) (fun _ => ?_)
            refine x_iload d_Name_versionLevel_75 rfl ?_
            refine x_bipush (v := 57) d_Name_versionLevel_77 (by decide) ?_
            refine x_icmp_gt (tgt := 117) d_Name_versionLevel_79 (by decide) (fun _ => ?_) (fun hn => absurd (nI_lt (a := 57) (by omega) (by omega)) hn)
            exact at117 (fun z => g2 z.1.2)
        · refine x_iload d_Name_versionLevel_68 rfl ?_
          refine x_bipush (v := 48) d_Name_versionLevel_70 (by decide) ?_
          refine x_icmp_lt (tgt := 117) d_Name_versionLevel_72 (by decide) (fun _ => ?_) (fun hn => absurd (nI_lt (b := 48) (by omega) (by omega)) hn)
          exact at117 (fun z => g1 z.1.1)
      by_cases g1 : ch = 46
      · by_cases g2 : dg = 0
        · subst g2
          refine x_icmp_ne (tgt := 68) d_Name_versionLevel_32 (by decide) (fun ht => absurd (by rw [g1]; rfl) ht) (fun _ => ?_)
          refine x_iload d_Name_versionLevel_35 rfl ?_
          refine x_if_le (tgt := 68) d_Name_versionLevel_37 (by decide) (fun _ => ?_) (fun hn => absurd (by decide) hn)
          exact at68
        · refine x_icmp_ne (tgt := 68) d_Name_versionLevel_32 (by decide) (fun ht => absurd (by rw [g1]; rfl) ht) (fun _ => ?_)
          refine x_iload d_Name_versionLevel_35 rfl ?_
          refine x_if_le (tgt := 68) d_Name_versionLevel_37 (by decide) (fun ht => absurd ht (nI_nle (by omega) (by omega))) (fun _ => ?_)
          refine x_iload d_Name_versionLevel_40 rfl ?_
          refine x_iconst (v := 3) d_Name_versionLevel_42 (by decide) ?_
          refine x_icmp_ge (tgt := 68) d_Name_versionLevel_43 (by decide) (fun _ => ?_) (fun hn => absurd (nI_le (a := 3) (by omega) (by omega)) hn)
          exact at68
      · refine x_icmp_ne (tgt := 68) d_Name_versionLevel_32 (by decide) (fun _ => ?_) (fun hn => absurd hn (fun z => g1 ((nI_eq (b := 46) (by omega) (by omega)).mp z)))
        exact at68
theorem c_versionLevel (hG : xGk G) (hd : 4 ≤ d) {a f m : Nat} {t : List Nat} (hS : isS G h a t) (hm : f + m ≤ t.length) (hl : t.length < 2 ^ 20) : XM l G d M_Name_versionLevel [.ref a, .int (nI f), .int (nI (f + m))] h c n (xSame (.long (lN (vsl ((t.drop f).take m)))) h c n) := by
  refine XM.of (by decide +kernel) (Nat.le_of_ble_eq_true rfl) ?_
  refine x_lconst (v := 0) d_Name_versionLevel_0 (by decide) ?_
  refine x_lstore_n (L' := [_, _, _, _, _, _, _, _, _, _]) d_Name_versionLevel_1 rfl rfl ?_
  refine x_iconst (v := 0) d_Name_versionLevel_2 (by decide) ?_
  refine x_istore (L' := [_, _, _, _, _, _, _, _, _, _]) d_Name_versionLevel_3 rfl rfl ?_
  refine x_iconst (v := 0) d_Name_versionLevel_5 (by decide) ?_
  refine x_istore (L' := [_, _, _, _, _, _, _, _, _, _]) d_Name_versionLevel_6 rfl rfl ?_
  refine x_iconst (v := 1) d_Name_versionLevel_8 (by decide) ?_
  refine x_istore (L' := [_, _, _, _, _, _, _, _, _, _]) d_Name_versionLevel_9 rfl rfl ?_
  refine x_iload_n d_Name_versionLevel_11 rfl ?_
  refine x_istore (L' := [_, _, _, _, _, _, _, _, _, _]) d_Name_versionLevel_12 rfl rfl ?_
  exact lp_ver1 hG hd hS hm hl m f 0 0 0 1 none rfl (by decide) (by omega) (by omega) (by omega) ⟨rfl, rfl, rfl, rfl⟩
end NM2
