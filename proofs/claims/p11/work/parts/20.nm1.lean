section
abbrev y_Name_textLevel : MethodName := ⟨"MarkerText$Name", "textLevel", "(Ljava/lang/String;II)J"⟩
abbrev M_Name_textLevel : XMt := (y_Name_textLevel, prog_6_method_5_code, 8, (some .long))
theorem d_Name_textLevel_20 : decode M_Name_textLevel.2.1 20 = .ok (.iload 5, 2) := by decide +kernel
theorem d_Name_textLevel_22 : decode M_Name_textLevel.2.1 22 = .ok (.bipush 8, 2) := by decide +kernel
theorem d_Name_textLevel_24 : decode M_Name_textLevel.2.1 24 = .ok (.if_icmp .ge 72, 3) := by decide +kernel
theorem d_Name_textLevel_96 : decode M_Name_textLevel.2.1 96 = .ok (.ldc2_w 47, 3) := by decide +kernel
theorem xw_754 : (Jvm.Cond.constantLong "MarkerText$Name" (47 : Nat) (2 : Int64)) ∈ xT := xT_at 754 (by decide +kernel) (by decide +kernel)
theorem d_Name_textLevel_99 : decode M_Name_textLevel.2.1 99 = .ok (.lload_n 3, 1) := by decide +kernel
theorem d_Name_textLevel_100 : decode M_Name_textLevel.2.1 100 = .ok (.lmul, 1) := by decide +kernel
theorem d_Name_textLevel_101 : decode M_Name_textLevel.2.1 101 = .ok (.ldc2_w 47, 3) := by decide +kernel
theorem d_Name_textLevel_104 : decode M_Name_textLevel.2.1 104 = .ok (.ladd, 1) := by decide +kernel
theorem d_Name_textLevel_105 : decode M_Name_textLevel.2.1 105 = .ok (.lreturn, 1) := by decide +kernel
theorem d_Name_textLevel_27 : decode M_Name_textLevel.2.1 27 = .ok (.iload_n 1, 1) := by decide +kernel
theorem d_Name_textLevel_28 : decode M_Name_textLevel.2.1 28 = .ok (.iload 5, 2) := by decide +kernel
theorem d_Name_textLevel_30 : decode M_Name_textLevel.2.1 30 = .ok (.iadd, 1) := by decide +kernel
theorem d_Name_textLevel_31 : decode M_Name_textLevel.2.1 31 = .ok (.iload_n 2, 1) := by decide +kernel
theorem d_Name_textLevel_32 : decode M_Name_textLevel.2.1 32 = .ok (.if_icmp .lt 7, 3) := by decide +kernel
theorem d_Name_textLevel_39 : decode M_Name_textLevel.2.1 39 = .ok (.iconst 0, 1) := by decide +kernel
theorem d_Name_textLevel_40 : decode M_Name_textLevel.2.1 40 = .ok (.istore 6, 2) := by decide +kernel
theorem d_Name_textLevel_42 : decode M_Name_textLevel.2.1 42 = .ok (.iload 6, 2) := by decide +kernel
theorem d_Name_textLevel_44 : decode M_Name_textLevel.2.1 44 = .ok (.ifCond .eq 7, 3) := by decide +kernel
theorem d_Name_textLevel_51 : decode M_Name_textLevel.2.1 51 = .ok (.ldc 33, 2) := by decide +kernel
theorem d_Name_textLevel_53 : decode M_Name_textLevel.2.1 53 = .ok (.aload_n 0, 1) := by decide +kernel
theorem d_Name_textLevel_54 : decode M_Name_textLevel.2.1 54 = .ok (.iload_n 1, 1) := by decide +kernel
theorem d_Name_textLevel_55 : decode M_Name_textLevel.2.1 55 = .ok (.iload 5, 2) := by decide +kernel
theorem d_Name_textLevel_57 : decode M_Name_textLevel.2.1 57 = .ok (.iadd, 1) := by decide +kernel
theorem d_Name_textLevel_58 : decode M_Name_textLevel.2.1 58 = .ok (.invokevirtual 35, 3) := by decide +kernel
theorem xw_433 : (Jvm.Cond.code ({ cls := "java/lang/String", name := "charAt", desc := "(I)C" } : Jvm.MethodName) prog_25_method_56_code (2 : Nat) (Option.some Jvm.ClassFile.FieldType.char)) ∈ xT := xT_at 433 (by decide +kernel) (by decide +kernel)
theorem xcb_String_charAt : xcb M_String_charAt 1 := ⟨xw_433, xw_4, by decide, by decide, by decide, by decide +kernel⟩
theorem xw_431 : (Jvm.Cond.instanceMethod ({ cls := "java/lang/String", name := "charAt", desc := "(I)C" } : Jvm.MethodName)) ∈ xT := xT_at 431 (by decide +kernel) (by decide +kernel)
theorem xw_752 : (Jvm.Cond.methodLink "MarkerText$Name" (35 : Nat) ({ cls := "java/lang/String", name := "charAt", desc := "(I)C" } : Jvm.MethodName)) ∈ xT := xT_at 752 (by decide +kernel) (by decide +kernel)
theorem xw_432 : (Jvm.Cond.selects "java/lang/String" ({ cls := "java/lang/String", name := "charAt", desc := "(I)C" } : Jvm.MethodName) ({ cls := "java/lang/String", name := "charAt", desc := "(I)C" } : Jvm.MethodName)) ∈ xT := xT_at 432 (by decide +kernel) (by decide +kernel)
theorem xcv_Name_35_String : xCV "MarkerText$Name" 35 "java/lang/String" M_String_charAt 1 := ⟨xcb_String_charAt, xw_431, Or.inl ⟨xw_752, Or.inl xw_432⟩⟩
theorem d_Name_textLevel_61 : decode M_Name_textLevel.2.1 61 = .ok (.invokevirtual 41, 3) := by decide +kernel
theorem xw_762 : (Jvm.Cond.code ({ cls := "java/lang/String", name := "indexOf", desc := "(I)I" } : Jvm.MethodName) prog_25_method_79_code (2 : Nat) (Option.some Jvm.ClassFile.FieldType.int)) ∈ xT := xT_at 762 (by decide +kernel) (by decide +kernel)
theorem xcb_String_indexOf_I : xcb M_String_indexOf_I 1 := ⟨xw_762, xw_4, by decide, by decide, by decide, by decide +kernel⟩
theorem xw_760 : (Jvm.Cond.instanceMethod ({ cls := "java/lang/String", name := "indexOf", desc := "(I)I" } : Jvm.MethodName)) ∈ xT := xT_at 760 (by decide +kernel) (by decide +kernel)
theorem xw_759 : (Jvm.Cond.methodLink "MarkerText$Name" (41 : Nat) ({ cls := "java/lang/String", name := "indexOf", desc := "(I)I" } : Jvm.MethodName)) ∈ xT := xT_at 759 (by decide +kernel) (by decide +kernel)
theorem xw_761 : (Jvm.Cond.selects "java/lang/String" ({ cls := "java/lang/String", name := "indexOf", desc := "(I)I" } : Jvm.MethodName) ({ cls := "java/lang/String", name := "indexOf", desc := "(I)I" } : Jvm.MethodName)) ∈ xT := xT_at 761 (by decide +kernel) (by decide +kernel)
theorem xcv_Name_41_String : xCV "MarkerText$Name" 41 "java/lang/String" M_String_indexOf_I 1 := ⟨xcb_String_indexOf_I, xw_760, Or.inl ⟨xw_759, Or.inl xw_761⟩⟩
theorem d_Name_textLevel_64 : decode M_Name_textLevel.2.1 64 = .ok (.iconst 1, 1) := by decide +kernel
theorem d_Name_textLevel_65 : decode M_Name_textLevel.2.1 65 = .ok (.iadd, 1) := by decide +kernel
theorem d_Name_textLevel_66 : decode M_Name_textLevel.2.1 66 = .ok (.istore 7, 2) := by decide +kernel
theorem d_Name_textLevel_68 : decode M_Name_textLevel.2.1 68 = .ok (.iload 7, 2) := by decide +kernel
theorem d_Name_textLevel_70 : decode M_Name_textLevel.2.1 70 = .ok (.ifCond .ne 10, 3) := by decide +kernel
theorem d_Name_textLevel_73 : decode M_Name_textLevel.2.1 73 = .ok (.iload 6, 2) := by decide +kernel
theorem d_Name_textLevel_75 : decode M_Name_textLevel.2.1 75 = .ok (.ifCond .ne 5, 3) := by decide +kernel
theorem d_Name_textLevel_78 : decode M_Name_textLevel.2.1 78 = .ok (.lconst 0, 1) := by decide +kernel
theorem d_Name_textLevel_79 : decode M_Name_textLevel.2.1 79 = .ok (.lreturn, 1) := by decide +kernel
theorem d_Name_textLevel_80 : decode M_Name_textLevel.2.1 80 = .ok (.lload_n 3, 1) := by decide +kernel
theorem d_Name_textLevel_81 : decode M_Name_textLevel.2.1 81 = .ok (.ldc2_w 45, 3) := by decide +kernel
theorem xw_805 : (Jvm.Cond.constantLong "MarkerText$Name" (45 : Nat) (38 : Int64)) ∈ xT := xT_at 805 (by decide +kernel) (by decide +kernel)
theorem d_Name_textLevel_84 : decode M_Name_textLevel.2.1 84 = .ok (.lmul, 1) := by decide +kernel
theorem d_Name_textLevel_85 : decode M_Name_textLevel.2.1 85 = .ok (.iload 7, 2) := by decide +kernel
theorem d_Name_textLevel_87 : decode M_Name_textLevel.2.1 87 = .ok (.i2l, 1) := by decide +kernel
theorem d_Name_textLevel_88 : decode M_Name_textLevel.2.1 88 = .ok (.ladd, 1) := by decide +kernel
theorem d_Name_textLevel_89 : decode M_Name_textLevel.2.1 89 = .ok (.lstore_n 3, 1) := by decide +kernel
theorem d_Name_textLevel_90 : decode M_Name_textLevel.2.1 90 = .ok (.iinc 5 1, 3) := by decide +kernel
theorem d_Name_textLevel_93 : decode M_Name_textLevel.2.1 93 = .ok (.goto (-73), 3) := by decide +kernel
theorem d_Name_textLevel_35 : decode M_Name_textLevel.2.1 35 = .ok (.iconst 1, 1) := by decide +kernel
theorem d_Name_textLevel_36 : decode M_Name_textLevel.2.1 36 = .ok (.goto 4, 3) := by decide +kernel
theorem d_Name_textLevel_47 : decode M_Name_textLevel.2.1 47 = .ok (.iconst 0, 1) := by decide +kernel
theorem d_Name_textLevel_48 : decode M_Name_textLevel.2.1 48 = .ok (.goto 18, 3) := by decide +kernel
theorem d_Name_textLevel_0 : decode M_Name_textLevel.2.1 0 = .ok (.iload_n 2, 1) := by decide +kernel
theorem d_Name_textLevel_1 : decode M_Name_textLevel.2.1 1 = .ok (.iload_n 1, 1) := by decide +kernel
theorem d_Name_textLevel_2 : decode M_Name_textLevel.2.1 2 = .ok (.if_icmp .le 11, 3) := by decide +kernel
theorem d_Name_textLevel_13 : decode M_Name_textLevel.2.1 13 = .ok (.lconst 0, 1) := by decide +kernel
theorem d_Name_textLevel_14 : decode M_Name_textLevel.2.1 14 = .ok (.lreturn, 1) := by decide +kernel
theorem d_Name_textLevel_5 : decode M_Name_textLevel.2.1 5 = .ok (.iload_n 2, 1) := by decide +kernel
theorem d_Name_textLevel_6 : decode M_Name_textLevel.2.1 6 = .ok (.iload_n 1, 1) := by decide +kernel
theorem d_Name_textLevel_7 : decode M_Name_textLevel.2.1 7 = .ok (.isub, 1) := by decide +kernel
theorem d_Name_textLevel_8 : decode M_Name_textLevel.2.1 8 = .ok (.bipush 8, 2) := by decide +kernel
theorem d_Name_textLevel_10 : decode M_Name_textLevel.2.1 10 = .ok (.if_icmp .le 5, 3) := by decide +kernel
theorem d_Name_textLevel_15 : decode M_Name_textLevel.2.1 15 = .ok (.lconst 0, 1) := by decide +kernel
theorem d_Name_textLevel_16 : decode M_Name_textLevel.2.1 16 = .ok (.lstore_n 3, 1) := by decide +kernel
theorem d_Name_textLevel_17 : decode M_Name_textLevel.2.1 17 = .ok (.iconst 0, 1) := by decide +kernel
theorem d_Name_textLevel_18 : decode M_Name_textLevel.2.1 18 = .ok (.istore 5, 2) := by decide +kernel
end
section NM1
variable {l : Launch} {G : XG} {h : XH} {c n d : Nat}
/-! NAMES and their VALUES as levels -/
/-- how a character of a text VALUE counts; 0: it's none -/
def rk (ch : Nat) : Nat := if ch = 46 then 1 else if 48 ≤ ch ∧ ch ≤ 57 then ch - 46 else if 97 ≤ ch ∧ ch ≤ 122 then ch - 85 else 0
theorem rk_ix : ∀ ch, ch < 128 → xix (xtx 14) ch + 1 = nI (rk ch) := by decide +kernel
theorem rk_lt : ∀ ch, ch < 128 → rk ch < 38 := by decide +kernel
def tkey (u : List Nat) : Nat → Nat
  | 0 => 0
  | i + 1 => tkey u i * 38 + rk (u.getD i 0)
/-- the level of a text VALUE; 0 if it is none -/
def txl (u : List Nat) : Nat := if u ≠ [] ∧ u.length ≤ 8 ∧ ∀ ch ∈ u, rk ch ≠ 0 then 2 * tkey u 8 + 2 else 0
theorem tkey_lt {u : List Nat} (hu : xasc u) : ∀ i, tkey u i < 38 ^ i
  | 0 => by simp [tkey]
  | i + 1 => by
    have h1 := tkey_lt hu i
    have h2 : rk (u.getD i 0) < 38 := by
      rw [List.getD_eq_getElem?_getD]
      cases hq : u[i]? with
      | none => simp [rk]
      | some x => exact rk_lt x (hu x (List.mem_of_getElem? hq))
    simp only [tkey]
    rw [Nat.pow_succ]
    omega
theorem xcut_at {t : List Nat} {f m i : Nat} (hi : i < m) (hm : f + m ≤ t.length) : ((t.drop f).take m).getD i 0 = t[f + i]'(by omega) := by
  rw [List.getD_eq_getElem?_getD, List.getElem?_take, if_pos hi, List.getElem?_drop, List.getElem?_eq_getElem (by omega)]
  rfl
theorem lp_textLevel (hG : xGk G) (hd : 4 ≤ d) {a f m : Nat} {t : List Nat} {P : Option Value → XH → Nat → Nat → Prop} (hS : isS G h a t) (hm : f + m ≤ t.length) (h1 : 1 ≤ m) (h8 : m ≤ 8) (hl : t.length < 2 ^ 20) (hP : P (some (.long (lN (txl ((t.drop f).take m))))) h c n) :
    ∀ (k i : Nat) (e6 e7 : Option Value), i + k = 8 → (∀ j, j < i → j < m → rk (((t.drop f).take m).getD j 0) ≠ 0) → XW l G M_Name_textLevel d 20 [some (.ref a), some (.int (nI f)), some (.int (nI (f + m))), some (.long (lN (tkey ((t.drop f).take m) i))), none, some (.int (nI i)), e6, e7] [] h c n P := by
  obtain ⟨d, rfl⟩ : ∃ q, d = q + 1 := ⟨d - 1, by omega⟩
  obtain ⟨va, ee, ha, -, hat⟩ := id hS
  have hlen : ((t.drop f).take m).length = m := by simp; omega
  have hne : (t.drop f).take m ≠ [] := fun z => by rw [z] at hlen; simp at hlen; omega
  have hua : xasc ((t.drop f).take m) := xasc_cut hat
  intro k
  induction k with
  | zero =>
    intro i e6 e7 hi hj
    have hi8 : i = 8 := by omega
    subst hi8
    have hall : ∀ ch ∈ (t.drop f).take m, rk ch ≠ 0 := by
      intro ch hch
      obtain ⟨j, hj1, hj2⟩ := List.getElem_of_mem hch
      have := hj j (by omega) (by omega)
      rwa [List.getD_eq_getElem?_getD, List.getElem?_eq_getElem hj1, Option.getD_some, hj2] at this
    unfold txl at hP
    rw [if_pos ⟨hne, by omega, hall⟩] at hP
    refine x_iload d_Name_textLevel_20 rfl ?_
    refine x_bipush (v := 8) d_Name_textLevel_22 (by decide) ?_
    refine x_icmp_ge (tgt := 96) d_Name_textLevel_24 (by decide) (fun _ => ?_) (fun hn => absurd (by decide) hn)
    refine x_ldc2 (v := 2) xw_754 d_Name_textLevel_96 ?_
    refine x_lload_n d_Name_textLevel_99 rfl ?_
    refine x_lmul d_Name_textLevel_100 ?_
    refine x_ldc2 (v := 2) xw_754 d_Name_textLevel_101 ?_
    refine x_ladd d_Name_textLevel_104 ?_
    refine x_top (w := .long (lN (2 * tkey ((t.drop f).take m) 8 + 2))) (by rw [show (2 : Int64) = lN 2 from rfl, lN_mul, lN_add]) ?_
    refine x_lret d_Name_textLevel_105 rfl ?_
    exact hP
  | succ k ih =>
    intro i e6 e7 hi hj
    refine x_iload d_Name_textLevel_20 rfl ?_
    refine x_bipush (v := 8) d_Name_textLevel_22 (by decide) ?_
    refine x_icmp_ge (tgt := 96) d_Name_textLevel_24 (by decide) (fun ht => absurd ht (nI_ge (a := i) (b := 8) (by omega) (by omega))) (fun _ => ?_)
    refine x_iload_n d_Name_textLevel_27 rfl ?_
    refine x_iload d_Name_textLevel_28 rfl ?_
    refine x_iadd d_Name_textLevel_30 ?_
    refine x_top (w := .int (nI (f + i))) (by rw [nI_add]) ?_
    refine x_iload_n d_Name_textLevel_31 rfl ?_
    by_cases him : i < m
    · have hfi : f + i < t.length := by omega
      have hch := hat t[f + i] (List.getElem_mem hfi)
      have hgd := xcut_at (t := t) (f := f) him hm
      refine x_icmp_lt (tgt := 39) d_Name_textLevel_32 (by decide) (fun _ => ?_) (fun hn => absurd (nI_lt (by omega) (by omega)) hn)
      refine x_iconst (v := 0) d_Name_textLevel_39 (by decide) ?_
      refine x_istore (L' := [_, _, _, _, _, _, _, _]) d_Name_textLevel_40 rfl rfl ?_
      refine x_iload d_Name_textLevel_42 rfl ?_
      refine x_if_eq (tgt := 51) d_Name_textLevel_44 (by decide) (fun _ => ?_) (fun hn => absurd rfl hn)
      refine x_ldcS (i := 14) (tx := ".0123456789abcdefghijklmnopqrstuvwxyz") (by decide +kernel) d_Name_textLevel_51 ?_
      refine x_aload_n d_Name_textLevel_53 rfl rfl ?_
      refine x_iload_n d_Name_textLevel_54 rfl ?_
      refine x_iload d_Name_textLevel_55 rfl ?_
      refine x_iadd d_Name_textLevel_57 ?_
      refine x_top (w := .int (nI (f + i))) (by rw [nI_add]) ?_
      refine x_callV (As := [_]) (k := k_String) rfl xcv_Name_35_String ha (c_String_charAt hG (by omega) hS hfi (by omega)) rfl rfl (Nat.le_of_ble_eq_true rfl) d_Name_textLevel_58 ?_
      rintro v h' c' n' ⟨rfl, rfl, rfl, rfl⟩
      obtain ⟨vk, ek, hka, -⟩ := id (hG.str (h := h') (i := 14) (by decide))
      refine x_callV (As := [_]) (k := k_String) rfl xcv_Name_41_String hka (c_String_indexOf (by omega) (hG.str (by decide)) hch (by decide)) rfl rfl (Nat.le_of_ble_eq_true rfl) d_Name_textLevel_61 ?_
      rintro v h' c' n' ⟨rfl, rfl, rfl, rfl⟩
      refine x_iconst (v := 1) d_Name_textLevel_64 (by decide) ?_
      refine x_iadd d_Name_textLevel_65 ?_
      refine x_top (w := .int (nI (rk t[f + i]))) (by rw [rk_ix _ hch]) ?_
      refine x_istore (L' := [_, _, _, _, _, _, _, _]) d_Name_textLevel_66 rfl rfl ?_
      refine x_iload d_Name_textLevel_68 rfl ?_
      have hrk := rk_lt _ hch
      by_cases hr : rk t[f + i] = 0
      · have hbad : ¬ ∀ ch ∈ (t.drop f).take m, rk ch ≠ 0 := by
          intro hz
          refine hz t[f + i] ?_ hr
          rw [← hgd, List.getD_eq_getElem?_getD, List.getElem?_eq_getElem (by omega)]
          exact List.getElem_mem _
        unfold txl at hP
        rw [if_neg (fun z => hbad z.2.2)] at hP
        refine x_if_ne (tgt := 80) d_Name_textLevel_70 (by decide) (fun ht => absurd (by rw [hr]; rfl) ht) (fun _ => ?_)
        refine x_iload d_Name_textLevel_73 rfl ?_
        refine x_if_ne (tgt := 80) d_Name_textLevel_75 (by decide) (fun ht => absurd rfl ht) (fun _ => ?_)
        refine x_lconst (v := 0) d_Name_textLevel_78 (by decide) ?_
        refine x_lret d_Name_textLevel_79 rfl ?_
        exact hP
      · refine x_if_ne (tgt := 80) d_Name_textLevel_70 (by decide) (fun _ => ?_) (fun hn => absurd hn (nI_ne0 (by omega) (by omega)))
        refine x_lload_n d_Name_textLevel_80 rfl ?_
        refine x_ldc2 (v := 38) xw_805 d_Name_textLevel_81 ?_
        refine x_lmul d_Name_textLevel_84 ?_
        refine x_iload d_Name_textLevel_85 rfl ?_
        refine x_st (st' := [.int (nI (rk t[f + i])), .long (lN (tkey ((t.drop f).take m) i * 38))]) (by rw [show (38 : Int64) = lN 38 from rfl, lN_mul]; rfl) ?_
        refine x_i2l d_Name_textLevel_87 ?_
        refine x_ladd d_Name_textLevel_88 ?_
        refine x_top (w := .long (lN (tkey ((t.drop f).take m) (i + 1)))) (by rw [nI_l (by omega), lN_add, ← hgd]; rfl) ?_
        refine x_lstore_n (L' := [_, _, _, _, _, _, _, _]) d_Name_textLevel_89 rfl rfl ?_
        refine x_iinc (v := nI (i + 1)) (L' := [_, _, _, _, _, _, _, _]) d_Name_textLevel_90 rfl (by exact xw_iinc1) rfl rfl ?_
        refine x_goto (tgt := 20) d_Name_textLevel_93 (by decide) ?_
        refine ih (i + 1) _ _ (by omega) (fun j hj1 hj2 => ?_)
        by_cases hji : j = i
        · subst hji; rw [hgd]; exact hr
        · exact hj j (by omega) hj2
    · have hgd : ((t.drop f).take m).getD i 0 = 0 := by
        rw [List.getD_eq_getElem?_getD, List.getElem?_eq_none (by omega)]
        rfl
      refine x_icmp_lt (tgt := 39) d_Name_textLevel_32 (by decide) (fun ht => absurd ht (nI_nlt (by omega) (by omega))) (fun _ => ?_)
      refine x_iconst (v := 1) d_Name_textLevel_35 (by decide) ?_
      refine x_goto (tgt := 40) d_Name_textLevel_36 (by decide) ?_
      refine x_istore (L' := [_, _, _, _, _, _, _, _]) d_Name_textLevel_40 rfl rfl ?_
      refine x_iload d_Name_textLevel_42 rfl ?_
      refine x_if_eq (tgt := 51) d_Name_textLevel_44 (by decide) (fun ht => absurd ht (by decide)) (fun _ => ?_)
      refine x_iconst (v := 0) d_Name_textLevel_47 (by decide) ?_
      refine x_goto (tgt := 66) d_Name_textLevel_48 (by decide) ?_
      refine x_istore (L' := [_, _, _, _, _, _, _, _]) d_Name_textLevel_66 rfl rfl ?_
      refine x_iload d_Name_textLevel_68 rfl ?_
      refine x_if_ne (tgt := 80) d_Name_textLevel_70 (by decide) (fun ht => absurd rfl ht) (fun _ => ?_)
      refine x_iload d_Name_textLevel_73 rfl ?_
      refine x_if_ne (tgt := 80) d_Name_textLevel_75 (by decide) (fun _ => ?_) (fun hn => absurd hn (by decide))
      refine x_lload_n d_Name_textLevel_80 rfl ?_
      refine x_ldc2 (v := 38) xw_805 d_Name_textLevel_81 ?_
      refine x_lmul d_Name_textLevel_84 ?_
      refine x_iload d_Name_textLevel_85 rfl ?_
      refine x_st (st' := [.int (nI 0), .long (lN (tkey ((t.drop f).take m) i * 38))]) (by rw [show (38 : Int64) = lN 38 from rfl, lN_mul]; rfl) ?_
      refine x_i2l d_Name_textLevel_87 ?_
      refine x_ladd d_Name_textLevel_88 ?_
      refine x_top (w := .long (lN (tkey ((t.drop f).take m) (i + 1)))) (by rw [nI_l (by omega), lN_add]; simp only [tkey]; rw [hgd]; rfl) ?_
      refine x_lstore_n (L' := [_, _, _, _, _, _, _, _]) d_Name_textLevel_89 rfl rfl ?_
      refine x_iinc (v := nI (i + 1)) (L' := [_, _, _, _, _, _, _, _]) d_Name_textLevel_90 rfl (by exact xw_iinc1) rfl rfl ?_
      refine x_goto (tgt := 20) d_Name_textLevel_93 (by decide) ?_
      exact ih (i + 1) _ _ (by omega) (fun j hj1 hj2 => hj j (by omega) hj2)
theorem c_textLevel (hG : xGk G) (hd : 4 ≤ d) {a f m : Nat} {t : List Nat} (hS : isS G h a t) (hm : f + m ≤ t.length) (hl : t.length < 2 ^ 20) : XM l G d M_Name_textLevel [.ref a, .int (nI f), .int (nI (f + m))] h c n (xSame (.long (lN (txl ((t.drop f).take m)))) h c n) := by
  have hlen : ((t.drop f).take m).length = m := by simp; omega
  refine XM.of (by decide +kernel) (Nat.le_of_ble_eq_true rfl) ?_
  refine x_iload_n d_Name_textLevel_0 rfl ?_
  refine x_iload_n d_Name_textLevel_1 rfl ?_
  by_cases h0 : m = 0
  · subst h0
    refine x_icmp_le (tgt := 13) d_Name_textLevel_2 (by decide) (fun _ => ?_) (fun hn => absurd (nI_le (by omega) (by omega)) hn)
    refine x_lconst (v := 0) d_Name_textLevel_13 (by decide) ?_
    refine x_lret d_Name_textLevel_14 rfl ?_
    refine ⟨?_, rfl, rfl, rfl⟩
    simp [txl, lN]
  · refine x_icmp_le (tgt := 13) d_Name_textLevel_2 (by decide) (fun ht => absurd ht (nI_ge (by omega) (by omega))) (fun _ => ?_)
    refine x_iload_n d_Name_textLevel_5 rfl ?_
    refine x_iload_n d_Name_textLevel_6 rfl ?_
    refine x_isub d_Name_textLevel_7 ?_
    refine x_top (w := .int (nI m)) (by rw [pk_sub (by omega)]; congr 1; exact congrArg nI (by omega)) ?_
    refine x_bipush (v := 8) d_Name_textLevel_8 (by decide) ?_
    by_cases h8 : m ≤ 8
    · refine x_icmp_le (tgt := 15) d_Name_textLevel_10 (by decide) (fun _ => ?_) (fun hn => absurd (nI_le h8 (by omega)) hn)
      refine x_lconst (v := 0) d_Name_textLevel_15 (by decide) ?_
      refine x_lstore_n (L' := [_, _, _, _, _, _, _, _]) d_Name_textLevel_16 rfl rfl ?_
      refine x_iconst (v := 0) d_Name_textLevel_17 (by decide) ?_
      refine x_istore (L' := [_, _, _, _, _, _, _, _]) d_Name_textLevel_18 rfl rfl ?_
      exact lp_textLevel hG hd hS hm (by omega) h8 hl ⟨rfl, rfl, rfl, rfl⟩ 8 0 _ _ (by omega) (fun j hj => by omega)
    · refine x_icmp_le (tgt := 15) d_Name_textLevel_10 (by decide) (fun ht => absurd ht (nI_ge (a := 8) (b := m) (by omega) (by omega))) (fun _ => ?_)
      refine x_lconst (v := 0) d_Name_textLevel_13 (by decide) ?_
      refine x_lret d_Name_textLevel_14 rfl ?_
      refine ⟨?_, rfl, rfl, rfl⟩
      unfold txl
      rw [if_neg (fun z => by omega)]
      rfl
end NM1
