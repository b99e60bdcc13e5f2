section
abbrev y_ArraysSupport_newLength : MethodName := ⟨"jdk/internal/util/ArraysSupport", "newLength", "(III)I"⟩
abbrev M_ArraysSupport_newLength : XMt := (y_ArraysSupport_newLength, prog_40_method_27_code, 4, (some .int))
theorem d_ArraysSupport_newLength_0 : decode M_ArraysSupport_newLength.2.1 0 = .ok (.iload_n 0, 1) := by decide +kernel
theorem d_ArraysSupport_newLength_1 : decode M_ArraysSupport_newLength.2.1 1 = .ok (.iload_n 1, 1) := by decide +kernel
theorem d_ArraysSupport_newLength_2 : decode M_ArraysSupport_newLength.2.1 2 = .ok (.iload_n 2, 1) := by decide +kernel
theorem d_ArraysSupport_newLength_3 : decode M_ArraysSupport_newLength.2.1 3 = .ok (.invokestatic 194, 3) := by decide +kernel
theorem xw_197 : (Jvm.Cond.methodLink "jdk/internal/util/ArraysSupport" (194 : Nat) ({ cls := "java/lang/Math", name := "max", desc := "(II)I" } : Jvm.MethodName)) ∈ xT := xT_at 197 (by decide +kernel) (by decide +kernel)
theorem xw_198 : (Jvm.Cond.static ({ cls := "java/lang/Math", name := "max", desc := "(II)I" } : Jvm.MethodName)) ∈ xT := xT_at 198 (by decide +kernel) (by decide +kernel)
theorem xw_10 : (Jvm.Cond.initialized "java/lang/Math") ∈ xT := xT_at 10 (by decide +kernel) (by decide +kernel)
theorem xw_199 : (Jvm.Cond.code ({ cls := "java/lang/Math", name := "max", desc := "(II)I" } : Jvm.MethodName) prog_23_method_65_code (2 : Nat) (Option.some Jvm.ClassFile.FieldType.int)) ∈ xT := xT_at 199 (by decide +kernel) (by decide +kernel)
theorem d_ArraysSupport_newLength_6 : decode M_ArraysSupport_newLength.2.1 6 = .ok (.iadd, 1) := by decide +kernel
theorem d_ArraysSupport_newLength_7 : decode M_ArraysSupport_newLength.2.1 7 = .ok (.istore_n 3, 1) := by decide +kernel
theorem d_ArraysSupport_newLength_8 : decode M_ArraysSupport_newLength.2.1 8 = .ok (.iconst 0, 1) := by decide +kernel
theorem d_ArraysSupport_newLength_9 : decode M_ArraysSupport_newLength.2.1 9 = .ok (.iload_n 3, 1) := by decide +kernel
theorem d_ArraysSupport_newLength_10 : decode M_ArraysSupport_newLength.2.1 10 = .ok (.if_icmp .ge 11, 3) := by decide +kernel
theorem d_ArraysSupport_newLength_13 : decode M_ArraysSupport_newLength.2.1 13 = .ok (.iload_n 3, 1) := by decide +kernel
theorem d_ArraysSupport_newLength_14 : decode M_ArraysSupport_newLength.2.1 14 = .ok (.ldc 200, 2) := by decide +kernel
theorem xw_200 : (Jvm.Cond.constant "jdk/internal/util/ArraysSupport" (200 : Nat) (2147483639 : Int32)) ∈ xT := xT_at 200 (by decide +kernel) (by decide +kernel)
theorem d_ArraysSupport_newLength_16 : decode M_ArraysSupport_newLength.2.1 16 = .ok (.if_icmp .gt 5, 3) := by decide +kernel
theorem d_ArraysSupport_newLength_19 : decode M_ArraysSupport_newLength.2.1 19 = .ok (.iload_n 3, 1) := by decide +kernel
theorem d_ArraysSupport_newLength_20 : decode M_ArraysSupport_newLength.2.1 20 = .ok (.ireturn, 1) := by decide +kernel
abbrev y_ASB_newCapacity : MethodName := ⟨"java/lang/AbstractStringBuilder", "newCapacity", "(I)I"⟩
abbrev M_ASB_newCapacity : XMt := (y_ASB_newCapacity, prog_15_method_10_code, 6, (some .int))
theorem d_ASB_newCapacity_0 : decode M_ASB_newCapacity.2.1 0 = .ok (.aload_n 0, 1) := by decide +kernel
theorem d_ASB_newCapacity_1 : decode M_ASB_newCapacity.2.1 1 = .ok (.getfield 15, 3) := by decide +kernel
theorem xw_60 : (Jvm.Cond.fieldLink "java/lang/AbstractStringBuilder" (15 : Nat) "java/lang/AbstractStringBuilder" "value" "[B") ∈ xT := xT_at 60 (by decide +kernel) (by decide +kernel)
theorem xf_ASB_15_SB : xF "java/lang/AbstractStringBuilder" 15 k_StringBuilder 0 := ⟨_, _, _, "java/lang/AbstractStringBuilder", rfl, by decide, Or.inl xw_60, Or.inl rfl⟩
theorem d_ASB_newCapacity_4 : decode M_ASB_newCapacity.2.1 4 = .ok (.arraylength, 1) := by decide +kernel
theorem d_ASB_newCapacity_5 : decode M_ASB_newCapacity.2.1 5 = .ok (.istore_n 2, 1) := by decide +kernel
theorem d_ASB_newCapacity_6 : decode M_ASB_newCapacity.2.1 6 = .ok (.iload_n 1, 1) := by decide +kernel
theorem d_ASB_newCapacity_7 : decode M_ASB_newCapacity.2.1 7 = .ok (.aload_n 0, 1) := by decide +kernel
theorem d_ASB_newCapacity_8 : decode M_ASB_newCapacity.2.1 8 = .ok (.getfield 22, 3) := by decide +kernel
theorem d_ASB_newCapacity_11 : decode M_ASB_newCapacity.2.1 11 = .ok (.ishl, 1) := by decide +kernel
theorem d_ASB_newCapacity_12 : decode M_ASB_newCapacity.2.1 12 = .ok (.istore_n 3, 1) := by decide +kernel
theorem d_ASB_newCapacity_13 : decode M_ASB_newCapacity.2.1 13 = .ok (.iload_n 3, 1) := by decide +kernel
theorem d_ASB_newCapacity_14 : decode M_ASB_newCapacity.2.1 14 = .ok (.iload_n 2, 1) := by decide +kernel
theorem d_ASB_newCapacity_15 : decode M_ASB_newCapacity.2.1 15 = .ok (.isub, 1) := by decide +kernel
theorem d_ASB_newCapacity_16 : decode M_ASB_newCapacity.2.1 16 = .ok (.istore 4, 2) := by decide +kernel
theorem d_ASB_newCapacity_18 : decode M_ASB_newCapacity.2.1 18 = .ok (.iload_n 2, 1) := by decide +kernel
theorem d_ASB_newCapacity_19 : decode M_ASB_newCapacity.2.1 19 = .ok (.iload 4, 2) := by decide +kernel
theorem d_ASB_newCapacity_21 : decode M_ASB_newCapacity.2.1 21 = .ok (.iload_n 2, 1) := by decide +kernel
theorem d_ASB_newCapacity_22 : decode M_ASB_newCapacity.2.1 22 = .ok (.iconst 2, 1) := by decide +kernel
theorem d_ASB_newCapacity_23 : decode M_ASB_newCapacity.2.1 23 = .ok (.aload_n 0, 1) := by decide +kernel
theorem d_ASB_newCapacity_24 : decode M_ASB_newCapacity.2.1 24 = .ok (.getfield 22, 3) := by decide +kernel
theorem d_ASB_newCapacity_27 : decode M_ASB_newCapacity.2.1 27 = .ok (.ishl, 1) := by decide +kernel
theorem d_ASB_newCapacity_28 : decode M_ASB_newCapacity.2.1 28 = .ok (.iadd, 1) := by decide +kernel
theorem d_ASB_newCapacity_29 : decode M_ASB_newCapacity.2.1 29 = .ok (.invokestatic 114, 3) := by decide +kernel
theorem xw_196 : (Jvm.Cond.code ({ cls := "jdk/internal/util/ArraysSupport", name := "newLength", desc := "(III)I" } : Jvm.MethodName) prog_40_method_27_code (4 : Nat) (Option.some Jvm.ClassFile.FieldType.int)) ∈ xT := xT_at 196 (by decide +kernel) (by decide +kernel)
theorem xw_9 : (Jvm.Cond.initialized "jdk/internal/util/ArraysSupport") ∈ xT := xT_at 9 (by decide +kernel) (by decide +kernel)
theorem xcb_ArraysSupport_newLength : xcb M_ArraysSupport_newLength 3 := ⟨xw_196, xw_9, by decide, by decide, by decide, by decide +kernel⟩
theorem xw_194 : (Jvm.Cond.methodLink "java/lang/AbstractStringBuilder" (114 : Nat) ({ cls := "jdk/internal/util/ArraysSupport", name := "newLength", desc := "(III)I" } : Jvm.MethodName)) ∈ xT := xT_at 194 (by decide +kernel) (by decide +kernel)
theorem xw_195 : (Jvm.Cond.static ({ cls := "jdk/internal/util/ArraysSupport", name := "newLength", desc := "(III)I" } : Jvm.MethodName)) ∈ xT := xT_at 195 (by decide +kernel) (by decide +kernel)
theorem xcs_ASB_114 : xCS "java/lang/AbstractStringBuilder" 114 M_ArraysSupport_newLength 3 := ⟨xcb_ArraysSupport_newLength, xw_195, Or.inl xw_194⟩
theorem d_ASB_newCapacity_32 : decode M_ASB_newCapacity.2.1 32 = .ok (.istore 5, 2) := by decide +kernel
theorem d_ASB_newCapacity_34 : decode M_ASB_newCapacity.2.1 34 = .ok (.iload 5, 2) := by decide +kernel
theorem d_ASB_newCapacity_36 : decode M_ASB_newCapacity.2.1 36 = .ok (.ldc 39, 2) := by decide +kernel
theorem xw_204 : (Jvm.Cond.constant "java/lang/AbstractStringBuilder" (39 : Nat) (2147483647 : Int32)) ∈ xT := xT_at 204 (by decide +kernel) (by decide +kernel)
theorem d_ASB_newCapacity_38 : decode M_ASB_newCapacity.2.1 38 = .ok (.if_icmp .ne 13, 3) := by decide +kernel
theorem d_ASB_newCapacity_51 : decode M_ASB_newCapacity.2.1 51 = .ok (.iload 5, 2) := by decide +kernel
theorem d_ASB_newCapacity_53 : decode M_ASB_newCapacity.2.1 53 = .ok (.aload_n 0, 1) := by decide +kernel
theorem d_ASB_newCapacity_54 : decode M_ASB_newCapacity.2.1 54 = .ok (.getfield 22, 3) := by decide +kernel
theorem d_ASB_newCapacity_57 : decode M_ASB_newCapacity.2.1 57 = .ok (.ishr, 1) := by decide +kernel
theorem d_ASB_newCapacity_58 : decode M_ASB_newCapacity.2.1 58 = .ok (.ireturn, 1) := by decide +kernel
abbrev y_Arrays_copyOf_aBI : MethodName := ⟨"java/util/Arrays", "copyOf", "([BI)[B"⟩
abbrev M_Arrays_copyOf_aBI : XMt := (y_Arrays_copyOf_aBI, prog_34_method_121_code, 3, (some (.array .byte)))
theorem d_Arrays_copyOf_aBI_0 : decode M_Arrays_copyOf_aBI.2.1 0 = .ok (.iload_n 1, 1) := by decide +kernel
theorem d_Arrays_copyOf_aBI_1 : decode M_Arrays_copyOf_aBI.2.1 1 = .ok (.aload_n 0, 1) := by decide +kernel
theorem d_Arrays_copyOf_aBI_2 : decode M_Arrays_copyOf_aBI.2.1 2 = .ok (.arraylength, 1) := by decide +kernel
theorem d_Arrays_copyOf_aBI_3 : decode M_Arrays_copyOf_aBI.2.1 3 = .ok (.if_icmp .ne 11, 3) := by decide +kernel
theorem d_Arrays_copyOf_aBI_14 : decode M_Arrays_copyOf_aBI.2.1 14 = .ok (.iload_n 1, 1) := by decide +kernel
theorem d_Arrays_copyOf_aBI_15 : decode M_Arrays_copyOf_aBI.2.1 15 = .ok (.newarray .byte, 2) := by decide +kernel
theorem xw_74 : (Jvm.Cond.arrayClass Jvm.ClassFile.FieldType.byte) ∈ xT := xT_at 74 (by decide +kernel) (by decide +kernel)
theorem d_Arrays_copyOf_aBI_17 : decode M_Arrays_copyOf_aBI.2.1 17 = .ok (.astore_n 2, 1) := by decide +kernel
theorem d_Arrays_copyOf_aBI_18 : decode M_Arrays_copyOf_aBI.2.1 18 = .ok (.aload_n 0, 1) := by decide +kernel
theorem d_Arrays_copyOf_aBI_19 : decode M_Arrays_copyOf_aBI.2.1 19 = .ok (.iconst 0, 1) := by decide +kernel
theorem d_Arrays_copyOf_aBI_20 : decode M_Arrays_copyOf_aBI.2.1 20 = .ok (.aload_n 2, 1) := by decide +kernel
theorem d_Arrays_copyOf_aBI_21 : decode M_Arrays_copyOf_aBI.2.1 21 = .ok (.iconst 0, 1) := by decide +kernel
theorem d_Arrays_copyOf_aBI_22 : decode M_Arrays_copyOf_aBI.2.1 22 = .ok (.aload_n 0, 1) := by decide +kernel
theorem d_Arrays_copyOf_aBI_23 : decode M_Arrays_copyOf_aBI.2.1 23 = .ok (.arraylength, 1) := by decide +kernel
theorem d_Arrays_copyOf_aBI_24 : decode M_Arrays_copyOf_aBI.2.1 24 = .ok (.iload_n 1, 1) := by decide +kernel
theorem d_Arrays_copyOf_aBI_25 : decode M_Arrays_copyOf_aBI.2.1 25 = .ok (.invokestatic 304, 3) := by decide +kernel
theorem xw_215 : (Jvm.Cond.methodLink "java/util/Arrays" (304 : Nat) ({ cls := "java/lang/Math", name := "min", desc := "(II)I" } : Jvm.MethodName)) ∈ xT := xT_at 215 (by decide +kernel) (by decide +kernel)
theorem xw_216 : (Jvm.Cond.static ({ cls := "java/lang/Math", name := "min", desc := "(II)I" } : Jvm.MethodName)) ∈ xT := xT_at 216 (by decide +kernel) (by decide +kernel)
theorem xw_217 : (Jvm.Cond.code ({ cls := "java/lang/Math", name := "min", desc := "(II)I" } : Jvm.MethodName) prog_23_method_69_code (2 : Nat) (Option.some Jvm.ClassFile.FieldType.int)) ∈ xT := xT_at 217 (by decide +kernel) (by decide +kernel)
theorem d_Arrays_copyOf_aBI_28 : decode M_Arrays_copyOf_aBI.2.1 28 = .ok (.invokestatic 150, 3) := by decide +kernel
theorem xw_218 : (Jvm.Cond.methodLink "java/util/Arrays" (150 : Nat) ({ cls := "java/lang/System", name := "arraycopy", desc := "(Ljava/lang/Object;ILjava/lang/Object;II)V" } : Jvm.MethodName)) ∈ xT := xT_at 218 (by decide +kernel) (by decide +kernel)
theorem xw_220 : (Jvm.Cond.native ({ cls := "java/lang/System", name := "arraycopy", desc := "(Ljava/lang/Object;ILjava/lang/Object;II)V" } : Jvm.MethodName)) ∈ xT := xT_at 220 (by decide +kernel) (by decide +kernel)
theorem xw_219 : (Jvm.Cond.static ({ cls := "java/lang/System", name := "arraycopy", desc := "(Ljava/lang/Object;ILjava/lang/Object;II)V" } : Jvm.MethodName)) ∈ xT := xT_at 219 (by decide +kernel) (by decide +kernel)
theorem xw_12 : (Jvm.Cond.initialized "java/lang/System") ∈ xT := xT_at 12 (by decide +kernel) (by decide +kernel)
theorem d_Arrays_copyOf_aBI_31 : decode M_Arrays_copyOf_aBI.2.1 31 = .ok (.aload_n 2, 1) := by decide +kernel
theorem d_Arrays_copyOf_aBI_32 : decode M_Arrays_copyOf_aBI.2.1 32 = .ok (.areturn, 1) := by decide +kernel
end
section SB2
variable {l : Launch} {G : XG} {h : XH} {c n d : Nat}
theorem xby_len (t : List Nat) : (xby t).length = t.length := by simp [xby]
theorem xfit1 : ∀ q, q < 128 → fits .byte (.int (nI q)) = true ∧ (nI q).toInt8.toInt32 = nI q ∧ narrow .byte (.int (nI q)) = .int (nI q) ∧ nI q &&& 255 = nI q ∧ ((nI q).toUInt32 % 65536).toInt32 = nI q := by decide +kernel
theorem xby_fit {t : List Nat} (ht : xasc t) : ∀ v ∈ xby t, fits .byte v = true := by
  intro v hv
  obtain ⟨q, hq, rfl⟩ := List.mem_map.mp hv
  exact (xfit1 q (ht q hq)).1
theorem nI_max {g p : Nat} (hg : g < 2 ^ 31) (hp : p < 2 ^ 31) : (if nI g < nI p then nI p else nI g) = nI (max g p) := by
  by_cases h : g < p
  · rw [if_pos (nI_lt h hp), Nat.max_eq_right (Nat.le_of_lt h)]
  · rw [if_neg (nI_nlt (by omega) hg), Nat.max_eq_left (by omega)]
theorem nI_min {g p : Nat} (hg : g < 2 ^ 31) (hp : p < 2 ^ 31) : (if nI p < nI g then nI p else nI g) = nI (min g p) := by
  by_cases h : p < g
  · rw [if_pos (nI_lt h hg), Nat.min_eq_right (Nat.le_of_lt h)]
  · rw [if_neg (nI_nlt (by omega) hp), Nat.min_eq_left (by omega)]
theorem c_newLength (hd : 1 ≤ d) {o g p : Nat} (ho : o < 2 ^ 20) (hg : g < 2 ^ 20) (hp : p < 2 ^ 20) (h0 : 0 < o + max g p) : XM l G d M_ArraysSupport_newLength [.int (nI o), .int (nI g), .int (nI p)] h c n (xSame (.int (nI (o + max g p))) h c n) := by
  obtain ⟨d, rfl⟩ : ∃ q, d = q + 1 := ⟨d - 1, by omega⟩
  have hm : max g p < 2 ^ 20 := by omega
  refine XM.of (by decide +kernel) (Nat.le_of_ble_eq_true rfl) ?_
  refine x_iload_n d_ArraysSupport_newLength_0 rfl ?_
  refine x_iload_n d_ArraysSupport_newLength_1 rfl ?_
  refine x_iload_n d_ArraysSupport_newLength_2 rfl ?_
  refine x_mmax xw_197 xw_198 xw_10 xw_199 (Nat.le_of_ble_eq_true rfl) d_ArraysSupport_newLength_3 ?_
  refine x_top (w := .int (nI (max g p))) (by rw [nI_max (by omega) (by omega)]) ?_
  refine x_iadd d_ArraysSupport_newLength_6 ?_
  refine x_top (w := .int (nI (o + max g p))) (by rw [nI_add]) ?_
  refine x_istore_n (L' := [_, _, _, _]) d_ArraysSupport_newLength_7 rfl rfl ?_
  refine x_iconst (v := 0) d_ArraysSupport_newLength_8 (by decide) ?_
  refine x_iload_n d_ArraysSupport_newLength_9 rfl ?_
  refine x_icmp_ge (tgt := 21) d_ArraysSupport_newLength_10 (by decide) (fun ht => absurd ht (nI_nle h0 (by omega))) (fun _ => ?_)
  refine x_iload_n d_ArraysSupport_newLength_13 rfl ?_
  refine x_ldc (v := 2147483639) xw_200 d_ArraysSupport_newLength_14 ?_
  refine x_icmp_gt (tgt := 21) d_ArraysSupport_newLength_16 (by decide) (fun ht => absurd ht (by exact nI_nlt (a := 2147483639) (b := o + max g p) (by omega) (by omega))) (fun _ => ?_)
  refine x_iload_n d_ArraysSupport_newLength_19 rfl ?_
  refine x_iret d_ArraysSupport_newLength_20 rfl ?_
  exact ⟨rfl, rfl, rfl, rfl⟩
theorem c_newCapacity (hd : 2 ≤ d) {a va m : Nat} {z k : Value} {vs : List Value} (ha : h a = some (k_StringBuilder, [.ref va, .int 0, z, k])) (hv : h va = some (k_abyte, vs)) (hm : vs.length < m) (hb : m < 2 ^ 18) : XM l G d M_ASB_newCapacity [.ref a, .int (nI m)] h c n (xSame (.int (nI (max m (2 * vs.length + 2)))) h c n) := by
  obtain ⟨d, rfl⟩ : ∃ q, d = q + 1 := ⟨d - 1, by omega⟩
  refine XM.of (by decide +kernel) (Nat.le_of_ble_eq_true rfl) ?_
  refine x_aload_n d_ASB_newCapacity_0 rfl rfl ?_
  refine x_get xf_ASB_15_SB (Or.inl ha) rfl d_ASB_newCapacity_1 ?_
  refine x_alen (k := k_abyte) rfl (Or.inl hv) (v := nI vs.length) rfl d_ASB_newCapacity_4 ?_
  refine x_istore_n (L' := [_, _, _, _, _, _]) d_ASB_newCapacity_5 rfl rfl ?_
  refine x_iload_n d_ASB_newCapacity_6 rfl ?_
  refine x_aload_n d_ASB_newCapacity_7 rfl rfl ?_
  refine x_get xf_ASB_22_SB (Or.inl ha) rfl d_ASB_newCapacity_8 ?_
  refine x_ishl d_ASB_newCapacity_11 ?_
  refine x_top (w := .int (nI m)) (by rw [sb_shl0]) ?_
  refine x_istore_n (L' := [_, _, _, _, _, _]) d_ASB_newCapacity_12 rfl rfl ?_
  refine x_iload_n d_ASB_newCapacity_13 rfl ?_
  refine x_iload_n d_ASB_newCapacity_14 rfl ?_
  refine x_isub d_ASB_newCapacity_15 ?_
  refine x_top (w := .int (nI (m - vs.length))) (by rw [pk_sub (by omega)]) ?_
  refine x_istore (L' := [_, _, _, _, _, _]) d_ASB_newCapacity_16 rfl rfl ?_
  refine x_iload_n d_ASB_newCapacity_18 rfl ?_
  refine x_iload d_ASB_newCapacity_19 rfl ?_
  refine x_iload_n d_ASB_newCapacity_21 rfl ?_
  refine x_iconst (v := 2) d_ASB_newCapacity_22 (by decide) ?_
  refine x_aload_n d_ASB_newCapacity_23 rfl rfl ?_
  refine x_get xf_ASB_22_SB (Or.inl ha) rfl d_ASB_newCapacity_24 ?_
  refine x_ishl d_ASB_newCapacity_27 ?_
  refine x_st (st' := [.int 2, .int (nI vs.length), .int (nI (m - vs.length)), .int (nI vs.length)]) (by rw [sb_shl0]) ?_
  refine x_iadd d_ASB_newCapacity_28 ?_
  refine x_top (w := .int (nI (vs.length + 2))) (by rw [show (2 : Int32) = nI 2 from rfl, nI_add]) ?_
  refine x_callS (As := [_, _, _]) xcs_ASB_114 (c_newLength (by omega) (o := vs.length) (g := m - vs.length) (p := vs.length + 2) (by omega) (by omega) (by omega) (by omega)) rfl rfl (Nat.le_of_ble_eq_true rfl) d_ASB_newCapacity_29 ?_
  rintro v h' c' n' ⟨rfl, rfl, rfl, rfl⟩
  have e : vs.length + max (m - vs.length) (vs.length + 2) = max m (2 * vs.length + 2) := by omega
  rw [e]
  have hl : max m (2 * vs.length + 2) < 2 ^ 20 := by omega
  refine x_istore (L' := [_, _, _, _, _, _]) d_ASB_newCapacity_32 rfl rfl ?_
  refine x_iload d_ASB_newCapacity_34 rfl ?_
  refine x_ldc (v := 2147483647) xw_204 d_ASB_newCapacity_36 ?_
  refine x_icmp_ne (tgt := 51) d_ASB_newCapacity_38 (by decide) (fun _ => ?_) (fun hn => absurd hn (by rw [show (2147483647 : Int32) = nI 2147483647 from rfl, nI_eq (by omega) (by omega)]; omega))
  refine x_iload d_ASB_newCapacity_51 rfl ?_
  refine x_aload_n d_ASB_newCapacity_53 rfl rfl ?_
  refine x_get xf_ASB_22_SB (Or.inl ha) rfl d_ASB_newCapacity_54 ?_
  refine x_ishr d_ASB_newCapacity_57 ?_
  refine x_top (w := .int (nI (max m (2 * vs.length + 2)))) (by rw [sb_shr0]) ?_
  refine x_iret d_ASB_newCapacity_58 rfl ?_
  exact ⟨rfl, rfl, rfl, rfl⟩
/-- an end that is a new cell -/
abbrev xMade (k : Nat) (vs : List Value) (h : XH) (c n : Nat) : Option Value → XH → Nat → Nat → Prop := fun v h' c' n' => ∃ q, v = some (.ref q) ∧ h q = none ∧ h' = xup h q (k, vs) ∧ c' = c + 1 ∧ n' = n + vs.length
theorem xcopy_grow {vs : List Value} {m : Nat} {z : Value} (hm : vs.length ≤ m) : xcopy vs (List.replicate m z) 0 0 vs.length = vs ++ List.replicate (m - vs.length) z := by
  unfold xcopy
  simp
theorem c_copyOf_aB (hd : 1 ≤ d) {a m : Nat} {vs : List Value} (ha : xr G h a k_abyte vs) (hf : ∀ v ∈ vs, fits .byte v = true) (hm : vs.length < m) (hb : m < 2 ^ 20) (hc : c + 1 ≤ xCB) (hn : n + m ≤ xSB) : XM l G d M_Arrays_copyOf_aBI [.ref a, .int (nI m)] h c n (xMade k_abyte (vs ++ List.replicate (m - vs.length) (.int 0)) h c n) := by
  obtain ⟨d, rfl⟩ : ∃ q, d = q + 1 := ⟨d - 1, by omega⟩
  refine XM.of (by decide +kernel) (Nat.le_of_ble_eq_true rfl) ?_
  refine x_iload_n d_Arrays_copyOf_aBI_0 rfl ?_
  refine x_aload_n d_Arrays_copyOf_aBI_1 rfl rfl ?_
  refine x_alen (k := k_abyte) rfl ha (v := nI vs.length) rfl d_Arrays_copyOf_aBI_2 ?_
  refine x_icmp_ne (tgt := 14) d_Arrays_copyOf_aBI_3 (by decide) (fun _ => ?_) (fun hn => absurd hn (by rw [nI_eq (by omega) (by omega)]; omega))
  refine x_iload_n d_Arrays_copyOf_aBI_14 rfl ?_
  refine x_newa (k := k_abyte) rfl rfl (fun _ hz => by cases hz) xw_74 (nI_pos (by omega)) (nI_clamp (by omega)) (by show m * 1 ≤ _; omega) hc hn d_Arrays_copyOf_aBI_15 (fun q hn_q hk_q => ?_)
  refine x_astore_n (L' := [_, _, _]) d_Arrays_copyOf_aBI_17 rfl rfl rfl ?_
  refine x_aload_n d_Arrays_copyOf_aBI_18 rfl rfl ?_
  refine x_iconst (v := 0) d_Arrays_copyOf_aBI_19 (by decide) ?_
  refine x_aload_n d_Arrays_copyOf_aBI_20 rfl rfl ?_
  refine x_iconst (v := 0) d_Arrays_copyOf_aBI_21 (by decide) ?_
  refine x_aload_n d_Arrays_copyOf_aBI_22 rfl rfl ?_
  refine x_alen (k := k_abyte) rfl (xr_up ha hn_q) (v := nI vs.length) rfl d_Arrays_copyOf_aBI_23 ?_
  refine x_iload_n d_Arrays_copyOf_aBI_24 rfl ?_
  refine x_mmin xw_215 xw_216 xw_10 xw_217 (Nat.le_of_ble_eq_true rfl) d_Arrays_copyOf_aBI_25 ?_
  refine x_top (w := .int (nI vs.length)) (by rw [nI_min (by omega) (by omega), Nat.min_eq_left (by omega)]) ?_
  refine x_copyP (k0 := k_abyte) (k := k_abyte) rfl rfl rfl xw_218 xw_220 xw_219 xw_12 (xr_up ha hn_q) xup_self (by decide) (by decide) (nI_pos (by omega)) (by rw [nI_clamp (by omega)]; exact Nat.le_of_eq (by simp)) (by rw [nI_clamp (by omega)]; simp; omega) hf (Nat.le_of_ble_eq_true rfl) d_Arrays_copyOf_aBI_28 ?_
  refine x_hp (h' := xup h q (k_abyte, vs ++ List.replicate (m - vs.length) (.int 0))) (by rw [xup_up, nI_clamp (by omega), ← xcopy_grow (by omega)]; rfl) ?_
  refine x_aload_n d_Arrays_copyOf_aBI_31 rfl rfl ?_
  refine x_aret d_Arrays_copyOf_aBI_32 rfl rfl ?_
  exact ⟨q, rfl, hn_q, rfl, rfl, by simp; omega⟩
end SB2
