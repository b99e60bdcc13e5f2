section
abbrev y_ASB_length : MethodName := ⟨"java/lang/AbstractStringBuilder", "length", "()I"⟩
abbrev M_ASB_length : XMt := (y_ASB_length, prog_15_method_6_code, 1, (some .int))
theorem d_ASB_length_0 : decode M_ASB_length.2.1 0 = .ok (.aload_n 0, 1) := by decide +kernel
theorem d_ASB_length_1 : decode M_ASB_length.2.1 1 = .ok (.getfield 79, 3) := by decide +kernel
theorem xw_64 : (Jvm.Cond.fieldLink "java/lang/AbstractStringBuilder" (79 : Nat) "java/lang/AbstractStringBuilder" "count" "I") ∈ xT := xT_at 64 (by decide +kernel) (by decide +kernel)
theorem xf_ASB_79_SB : xF "java/lang/AbstractStringBuilder" 79 k_StringBuilder 3 := ⟨_, _, _, "java/lang/AbstractStringBuilder", rfl, by decide, Or.inl xw_64, Or.inl rfl⟩
theorem d_ASB_length_4 : decode M_ASB_length.2.1 4 = .ok (.ireturn, 1) := by decide +kernel
abbrev y_SB_length : MethodName := ⟨"java/lang/StringBuilder", "length", "()I"⟩
abbrev M_SB_length : XMt := (y_SB_length, prog_26_method_93_code, 1, (some .int))
theorem d_SB_length_0 : decode M_SB_length.2.1 0 = .ok (.aload_n 0, 1) := by decide +kernel
theorem d_SB_length_1 : decode M_SB_length.2.1 1 = .ok (.invokespecial 343, 3) := by decide +kernel
theorem xw_178 : (Jvm.Cond.code ({ cls := "java/lang/AbstractStringBuilder", name := "length", desc := "()I" } : Jvm.MethodName) prog_15_method_6_code (1 : Nat) (Option.some Jvm.ClassFile.FieldType.int)) ∈ xT := xT_at 178 (by decide +kernel) (by decide +kernel)
theorem xw_2 : (Jvm.Cond.initialized "java/lang/AbstractStringBuilder") ∈ xT := xT_at 2 (by decide +kernel) (by decide +kernel)
theorem xcb_ASB_length : xcb M_ASB_length 0 := ⟨xw_178, xw_2, by decide, by decide, by decide, by decide +kernel⟩
theorem xw_177 : (Jvm.Cond.instanceMethod ({ cls := "java/lang/AbstractStringBuilder", name := "length", desc := "()I" } : Jvm.MethodName)) ∈ xT := xT_at 177 (by decide +kernel) (by decide +kernel)
theorem xw_176 : (Jvm.Cond.methodLink "java/lang/StringBuilder" (343 : Nat) ({ cls := "java/lang/AbstractStringBuilder", name := "length", desc := "()I" } : Jvm.MethodName)) ∈ xT := xT_at 176 (by decide +kernel) (by decide +kernel)
theorem xw_1601 : (Jvm.Cond.sameMethod "java/lang/AbstractStringBuilder" "java/lang/AbstractStringBuilder" "length" "()I") ∈ xT := xT_at 1601 (by decide +kernel) (by decide +kernel)
theorem xw_73 : (Jvm.Cond.superclass "java/lang/StringBuilder" "java/lang/AbstractStringBuilder") ∈ xT := xT_at 73 (by decide +kernel) (by decide +kernel)
theorem xcu_SB_343 : xCU "java/lang/StringBuilder" 343 M_ASB_length 0 := ⟨xcb_ASB_length, by decide, xw_177, xw_176, xw_1601, xw_73⟩
theorem d_SB_length_4 : decode M_SB_length.2.1 4 = .ok (.ireturn, 1) := by decide +kernel
abbrev y_ASB_isLatin1 : MethodName := ⟨"java/lang/AbstractStringBuilder", "isLatin1", "()Z"⟩
abbrev M_ASB_isLatin1 : XMt := (y_ASB_isLatin1, prog_15_method_68_code, 1, (some .boolean))
theorem d_ASB_isLatin1_0 : decode M_ASB_isLatin1.2.1 0 = .ok (.getstatic 18, 3) := by decide +kernel
theorem xw_51 : (Jvm.Cond.fieldLink "java/lang/AbstractStringBuilder" (18 : Nat) "java/lang/String" "COMPACT_STRINGS" "Z") ∈ xT := xT_at 51 (by decide +kernel) (by decide +kernel)
theorem d_ASB_isLatin1_3 : decode M_ASB_isLatin1.2.1 3 = .ok (.ifCond .eq 14, 3) := by decide +kernel
theorem d_ASB_isLatin1_6 : decode M_ASB_isLatin1.2.1 6 = .ok (.aload_n 0, 1) := by decide +kernel
theorem d_ASB_isLatin1_7 : decode M_ASB_isLatin1.2.1 7 = .ok (.getfield 22, 3) := by decide +kernel
theorem xw_61 : (Jvm.Cond.fieldLink "java/lang/AbstractStringBuilder" (22 : Nat) "java/lang/AbstractStringBuilder" "coder" "B") ∈ xT := xT_at 61 (by decide +kernel) (by decide +kernel)
theorem xf_ASB_22_SB : xF "java/lang/AbstractStringBuilder" 22 k_StringBuilder 1 := ⟨_, _, _, "java/lang/AbstractStringBuilder", rfl, by decide, Or.inl xw_61, Or.inl rfl⟩
theorem d_ASB_isLatin1_10 : decode M_ASB_isLatin1.2.1 10 = .ok (.ifCond .ne 7, 3) := by decide +kernel
theorem d_ASB_isLatin1_13 : decode M_ASB_isLatin1.2.1 13 = .ok (.iconst 1, 1) := by decide +kernel
theorem d_ASB_isLatin1_14 : decode M_ASB_isLatin1.2.1 14 = .ok (.goto 4, 3) := by decide +kernel
theorem d_ASB_isLatin1_18 : decode M_ASB_isLatin1.2.1 18 = .ok (.ireturn, 1) := by decide +kernel
abbrev y_SL1_canEncode_C : MethodName := ⟨"java/lang/StringLatin1", "canEncode", "(C)Z"⟩
abbrev M_SL1_canEncode_C : XMt := (y_SL1_canEncode_C, prog_27_method_3_code, 1, (some .boolean))
theorem d_SL1_canEncode_C_0 : decode M_SL1_canEncode_C.2.1 0 = .ok (.iload_n 0, 1) := by decide +kernel
theorem d_SL1_canEncode_C_1 : decode M_SL1_canEncode_C.2.1 1 = .ok (.sipush 255, 3) := by decide +kernel
theorem d_SL1_canEncode_C_4 : decode M_SL1_canEncode_C.2.1 4 = .ok (.if_icmp .gt 7, 3) := by decide +kernel
theorem d_SL1_canEncode_C_7 : decode M_SL1_canEncode_C.2.1 7 = .ok (.iconst 1, 1) := by decide +kernel
theorem d_SL1_canEncode_C_8 : decode M_SL1_canEncode_C.2.1 8 = .ok (.goto 4, 3) := by decide +kernel
theorem d_SL1_canEncode_C_12 : decode M_SL1_canEncode_C.2.1 12 = .ok (.ireturn, 1) := by decide +kernel
end
section SB1
variable {l : Launch} {G : XG} {h : XH} {c n d : Nat}
/-- an end that changes nothing -/
abbrev xSame (w : Value) (h : XH) (c n : Nat) : Option Value → XH → Nat → Nat → Prop := fun v h' c' n' => v = some w ∧ h' = h ∧ c' = c ∧ n' = n
/-- characters of one byte, as the byte arrays hold them -/
def xby (t : List Nat) : List Value := t.map (fun ch => .int (nI ch))
def xasc (t : List Nat) : Prop := ∀ ch ∈ t, ch < 128
/-- a StringBuilder: its fields -/
theorem c_ASB_length {a va : Nat} {w z : Value} {k : Int32} (ha : h a = some (k_StringBuilder, [.ref va, w, z, .int k])) : XM l G d M_ASB_length [.ref a] h c n (xSame (.int k) h c n) := by
  refine XM.of (by decide +kernel) (Nat.le_of_ble_eq_true rfl) ?_
  refine x_aload_n d_ASB_length_0 rfl rfl ?_
  refine x_get xf_ASB_79_SB (Or.inl ha) rfl d_ASB_length_1 ?_
  refine x_iret d_ASB_length_4 rfl ?_
  exact ⟨rfl, rfl, rfl, rfl⟩
theorem c_SB_length (hd : 1 ≤ d) {a va : Nat} {w z : Value} {k : Int32} (ha : h a = some (k_StringBuilder, [.ref va, w, z, .int k])) : XM l G d M_SB_length [.ref a] h c n (xSame (.int k) h c n) := by
  obtain ⟨d, rfl⟩ : ∃ q, d = q + 1 := ⟨d - 1, by omega⟩
  refine XM.of (by decide +kernel) (Nat.le_of_ble_eq_true rfl) ?_
  refine x_aload_n d_SB_length_0 rfl rfl ?_
  refine x_callU (As := []) (k := k_StringBuilder) rfl xcu_SB_343 (Or.inl ha) (c_ASB_length ha) rfl rfl (Nat.le_of_ble_eq_true rfl) d_SB_length_1 ?_
  rintro v h' c' n' ⟨rfl, rfl, rfl, rfl⟩
  refine x_iret d_SB_length_4 rfl ?_
  exact ⟨rfl, rfl, rfl, rfl⟩
theorem c_ASB_isLatin1 {a va : Nat} {z : Value} {k : Value} (ha : h a = some (k_StringBuilder, [.ref va, .int 0, z, k])) : XM l G d M_ASB_isLatin1 [.ref a] h c n (xSame (.int 1) h c n) := by
  refine XM.of (by decide +kernel) (Nat.le_of_ble_eq_true rfl) ?_
  refine x_gets xw_51 (List.mem_of_getElem? (i := 0) rfl) d_ASB_isLatin1_0 ?_
  refine x_if_eq (tgt := 17) d_ASB_isLatin1_3 (by decide) (fun ht => absurd ht (by decide)) (fun _ => ?_)
  refine x_aload_n d_ASB_isLatin1_6 rfl rfl ?_
  refine x_get xf_ASB_22_SB (Or.inl ha) rfl d_ASB_isLatin1_7 ?_
  refine x_if_ne (tgt := 17) d_ASB_isLatin1_10 (by decide) (fun ht => absurd (by decide) ht) (fun _ => ?_)
  refine x_iconst (v := 1) d_ASB_isLatin1_13 (by decide) ?_
  refine x_goto (tgt := 18) d_ASB_isLatin1_14 (by decide) ?_
  refine x_zret d_ASB_isLatin1_18 rfl rfl ?_
  exact ⟨rfl, rfl, rfl, rfl⟩
theorem c_SL1_canEncode_C {q : Nat} (hq : q < 256) : XM l G d M_SL1_canEncode_C [.int (nI q)] h c n (xSame (.int 1) h c n) := by
  refine XM.of (by decide +kernel) (Nat.le_of_ble_eq_true rfl) ?_
  refine x_iload_n d_SL1_canEncode_C_0 rfl ?_
  refine x_sipush (v := 255) d_SL1_canEncode_C_1 (by decide) ?_
  refine x_icmp_gt (tgt := 11) d_SL1_canEncode_C_4 (by decide) (fun ht => absurd ht (by exact nI_nlt (a := 255) (b := q) (by omega) (by omega))) (fun _ => ?_)
  refine x_iconst (v := 1) d_SL1_canEncode_C_7 (by decide) ?_
  refine x_goto (tgt := 12) d_SL1_canEncode_C_8 (by decide) ?_
  refine x_zret d_SL1_canEncode_C_12 rfl rfl ?_
  exact ⟨rfl, rfl, rfl, rfl⟩
end SB1
