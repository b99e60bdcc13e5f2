section
abbrev y_ASB_ensureCapacityInternal : MethodName := ⟨"java/lang/AbstractStringBuilder", "ensureCapacityInternal", "(I)V"⟩
abbrev M_ASB_ensureCapacityInternal : XMt := (y_ASB_ensureCapacityInternal, prog_15_method_9_code, 3, none)
theorem d_ASB_ensureCapacityInternal_0 : decode M_ASB_ensureCapacityInternal.2.1 0 = .ok (.aload_n 0, 1) := by decide +kernel
theorem d_ASB_ensureCapacityInternal_1 : decode M_ASB_ensureCapacityInternal.2.1 1 = .ok (.getfield 15, 3) := by decide +kernel
theorem d_ASB_ensureCapacityInternal_4 : decode M_ASB_ensureCapacityInternal.2.1 4 = .ok (.arraylength, 1) := by decide +kernel
theorem d_ASB_ensureCapacityInternal_5 : decode M_ASB_ensureCapacityInternal.2.1 5 = .ok (.aload_n 0, 1) := by decide +kernel
theorem d_ASB_ensureCapacityInternal_6 : decode M_ASB_ensureCapacityInternal.2.1 6 = .ok (.getfield 22, 3) := by decide +kernel
theorem d_ASB_ensureCapacityInternal_9 : decode M_ASB_ensureCapacityInternal.2.1 9 = .ok (.ishr, 1) := by decide +kernel
theorem d_ASB_ensureCapacityInternal_10 : decode M_ASB_ensureCapacityInternal.2.1 10 = .ok (.istore_n 2, 1) := by decide +kernel
theorem d_ASB_ensureCapacityInternal_11 : decode M_ASB_ensureCapacityInternal.2.1 11 = .ok (.iload_n 1, 1) := by decide +kernel
theorem d_ASB_ensureCapacityInternal_12 : decode M_ASB_ensureCapacityInternal.2.1 12 = .ok (.iload_n 2, 1) := by decide +kernel
theorem d_ASB_ensureCapacityInternal_13 : decode M_ASB_ensureCapacityInternal.2.1 13 = .ok (.isub, 1) := by decide +kernel
theorem d_ASB_ensureCapacityInternal_14 : decode M_ASB_ensureCapacityInternal.2.1 14 = .ok (.ifCond .le 24, 3) := by decide +kernel
theorem d_ASB_ensureCapacityInternal_38 : decode M_ASB_ensureCapacityInternal.2.1 38 = .ok (.return_, 1) := by decide +kernel
theorem d_ASB_ensureCapacityInternal_17 : decode M_ASB_ensureCapacityInternal.2.1 17 = .ok (.aload_n 0, 1) := by decide +kernel
theorem d_ASB_ensureCapacityInternal_18 : decode M_ASB_ensureCapacityInternal.2.1 18 = .ok (.aload_n 0, 1) := by decide +kernel
theorem d_ASB_ensureCapacityInternal_19 : decode M_ASB_ensureCapacityInternal.2.1 19 = .ok (.getfield 15, 3) := by decide +kernel
theorem d_ASB_ensureCapacityInternal_22 : decode M_ASB_ensureCapacityInternal.2.1 22 = .ok (.aload_n 0, 1) := by decide +kernel
theorem d_ASB_ensureCapacityInternal_23 : decode M_ASB_ensureCapacityInternal.2.1 23 = .ok (.iload_n 1, 1) := by decide +kernel
theorem d_ASB_ensureCapacityInternal_24 : decode M_ASB_ensureCapacityInternal.2.1 24 = .ok (.invokevirtual 104, 3) := by decide +kernel
theorem xw_193 : (Jvm.Cond.code ({ cls := "java/lang/AbstractStringBuilder", name := "newCapacity", desc := "(I)I" } : Jvm.MethodName) prog_15_method_10_code (6 : Nat) (Option.some Jvm.ClassFile.FieldType.int)) ∈ xT := xT_at 193 (by decide +kernel) (by decide +kernel)
theorem xcb_ASB_newCapacity : xcb M_ASB_newCapacity 1 := ⟨xw_193, xw_2, by decide, by decide, by decide, by decide +kernel⟩
theorem xw_192 : (Jvm.Cond.instanceMethod ({ cls := "java/lang/AbstractStringBuilder", name := "newCapacity", desc := "(I)I" } : Jvm.MethodName)) ∈ xT := xT_at 192 (by decide +kernel) (by decide +kernel)
theorem xw_190 : (Jvm.Cond.methodLink "java/lang/AbstractStringBuilder" (104 : Nat) ({ cls := "java/lang/AbstractStringBuilder", name := "newCapacity", desc := "(I)I" } : Jvm.MethodName)) ∈ xT := xT_at 190 (by decide +kernel) (by decide +kernel)
theorem xps_ASB_newCapacity_SB : Cond.selects "java/lang/StringBuilder" y_ASB_newCapacity y_ASB_newCapacity ∈ xT := xT_ps (by decide +kernel) (by decide +kernel)
theorem xcv_ASB_104_SB : xCV "java/lang/AbstractStringBuilder" 104 "java/lang/StringBuilder" M_ASB_newCapacity 1 := ⟨xcb_ASB_newCapacity, xw_192, Or.inl ⟨xw_190, Or.inl xps_ASB_newCapacity_SB⟩⟩
theorem d_ASB_ensureCapacityInternal_27 : decode M_ASB_ensureCapacityInternal.2.1 27 = .ok (.aload_n 0, 1) := by decide +kernel
theorem d_ASB_ensureCapacityInternal_28 : decode M_ASB_ensureCapacityInternal.2.1 28 = .ok (.getfield 22, 3) := by decide +kernel
theorem d_ASB_ensureCapacityInternal_31 : decode M_ASB_ensureCapacityInternal.2.1 31 = .ok (.ishl, 1) := by decide +kernel
theorem d_ASB_ensureCapacityInternal_32 : decode M_ASB_ensureCapacityInternal.2.1 32 = .ok (.invokestatic 108, 3) := by decide +kernel
theorem xw_207 : (Jvm.Cond.code ({ cls := "java/util/Arrays", name := "copyOf", desc := "([BI)[B" } : Jvm.MethodName) prog_34_method_121_code (3 : Nat) (Option.some (Jvm.ClassFile.FieldType.array Jvm.ClassFile.FieldType.byte))) ∈ xT := xT_at 207 (by decide +kernel) (by decide +kernel)
theorem xw_11 : (Jvm.Cond.initialized "java/util/Arrays") ∈ xT := xT_at 11 (by decide +kernel) (by decide +kernel)
theorem xcb_Arrays_copyOf_aBI : xcb M_Arrays_copyOf_aBI 2 := ⟨xw_207, xw_11, by decide, by decide, by decide, by decide +kernel⟩
theorem xw_205 : (Jvm.Cond.methodLink "java/lang/AbstractStringBuilder" (108 : Nat) ({ cls := "java/util/Arrays", name := "copyOf", desc := "([BI)[B" } : Jvm.MethodName)) ∈ xT := xT_at 205 (by decide +kernel) (by decide +kernel)
theorem xw_206 : (Jvm.Cond.static ({ cls := "java/util/Arrays", name := "copyOf", desc := "([BI)[B" } : Jvm.MethodName)) ∈ xT := xT_at 206 (by decide +kernel) (by decide +kernel)
theorem xcs_ASB_108 : xCS "java/lang/AbstractStringBuilder" 108 M_Arrays_copyOf_aBI 2 := ⟨xcb_Arrays_copyOf_aBI, xw_206, Or.inl xw_205⟩
theorem d_ASB_ensureCapacityInternal_35 : decode M_ASB_ensureCapacityInternal.2.1 35 = .ok (.putfield 15, 3) := by decide +kernel
theorem xp_SB_0 : xP k_StringBuilder 0 false (.array .byte) := ⟨_, _, _, rfl, rfl, by decide +kernel⟩
abbrev y_ASB_append_C : MethodName := ⟨"java/lang/AbstractStringBuilder", "append", "(C)Ljava/lang/AbstractStringBuilder;"⟩
abbrev M_ASB_append_C : XMt := (y_ASB_append_C, prog_15_method_31_code, 2, (some (.object "java/lang/AbstractStringBuilder")))
theorem d_ASB_append_C_10 : decode M_ASB_append_C.2.1 10 = .ok (.aload_n 0, 1) := by decide +kernel
theorem d_ASB_append_C_11 : decode M_ASB_append_C.2.1 11 = .ok (.invokevirtual 83, 3) := by decide +kernel
theorem xw_225 : (Jvm.Cond.code ({ cls := "java/lang/AbstractStringBuilder", name := "isLatin1", desc := "()Z" } : Jvm.MethodName) prog_15_method_68_code (1 : Nat) (Option.some Jvm.ClassFile.FieldType.boolean)) ∈ xT := xT_at 225 (by decide +kernel) (by decide +kernel)
theorem xcb_ASB_isLatin1 : xcb M_ASB_isLatin1 0 := ⟨xw_225, xw_2, by decide, by decide, by decide, by decide +kernel⟩
theorem xw_222 : (Jvm.Cond.instanceMethod ({ cls := "java/lang/AbstractStringBuilder", name := "isLatin1", desc := "()Z" } : Jvm.MethodName)) ∈ xT := xT_at 222 (by decide +kernel) (by decide +kernel)
theorem xw_221 : (Jvm.Cond.methodLink "java/lang/AbstractStringBuilder" (83 : Nat) ({ cls := "java/lang/AbstractStringBuilder", name := "isLatin1", desc := "()Z" } : Jvm.MethodName)) ∈ xT := xT_at 221 (by decide +kernel) (by decide +kernel)
theorem xw_224 : (Jvm.Cond.selects "java/lang/StringBuilder" ({ cls := "java/lang/AbstractStringBuilder", name := "isLatin1", desc := "()Z" } : Jvm.MethodName) ({ cls := "java/lang/AbstractStringBuilder", name := "isLatin1", desc := "()Z" } : Jvm.MethodName)) ∈ xT := xT_at 224 (by decide +kernel) (by decide +kernel)
theorem xcv_ASB_83_SB : xCV "java/lang/AbstractStringBuilder" 83 "java/lang/StringBuilder" M_ASB_isLatin1 0 := ⟨xcb_ASB_isLatin1, xw_222, Or.inl ⟨xw_221, Or.inl xw_224⟩⟩
theorem d_ASB_append_C_14 : decode M_ASB_append_C.2.1 14 = .ok (.ifCond .eq 31, 3) := by decide +kernel
theorem d_ASB_append_C_17 : decode M_ASB_append_C.2.1 17 = .ok (.iload_n 1, 1) := by decide +kernel
theorem d_ASB_append_C_18 : decode M_ASB_append_C.2.1 18 = .ok (.invokestatic 191, 3) := by decide +kernel
theorem xw_228 : (Jvm.Cond.code ({ cls := "java/lang/StringLatin1", name := "canEncode", desc := "(C)Z" } : Jvm.MethodName) prog_27_method_3_code (1 : Nat) (Option.some Jvm.ClassFile.FieldType.boolean)) ∈ xT := xT_at 228 (by decide +kernel) (by decide +kernel)
theorem xw_13 : (Jvm.Cond.initialized "java/lang/StringLatin1") ∈ xT := xT_at 13 (by decide +kernel) (by decide +kernel)
theorem xcb_SL1_canEncode_C : xcb M_SL1_canEncode_C 1 := ⟨xw_228, xw_13, by decide, by decide, by decide, by decide +kernel⟩
theorem xw_226 : (Jvm.Cond.methodLink "java/lang/AbstractStringBuilder" (191 : Nat) ({ cls := "java/lang/StringLatin1", name := "canEncode", desc := "(C)Z" } : Jvm.MethodName)) ∈ xT := xT_at 226 (by decide +kernel) (by decide +kernel)
theorem xw_227 : (Jvm.Cond.static ({ cls := "java/lang/StringLatin1", name := "canEncode", desc := "(C)Z" } : Jvm.MethodName)) ∈ xT := xT_at 227 (by decide +kernel) (by decide +kernel)
theorem xcs_ASB_191 : xCS "java/lang/AbstractStringBuilder" 191 M_SL1_canEncode_C 1 := ⟨xcb_SL1_canEncode_C, xw_227, Or.inl xw_226⟩
theorem d_ASB_append_C_21 : decode M_ASB_append_C.2.1 21 = .ok (.ifCond .eq 24, 3) := by decide +kernel
theorem d_ASB_append_C_24 : decode M_ASB_append_C.2.1 24 = .ok (.aload_n 0, 1) := by decide +kernel
theorem d_ASB_append_C_25 : decode M_ASB_append_C.2.1 25 = .ok (.getfield 15, 3) := by decide +kernel
theorem d_ASB_append_C_28 : decode M_ASB_append_C.2.1 28 = .ok (.aload_n 0, 1) := by decide +kernel
theorem d_ASB_append_C_29 : decode M_ASB_append_C.2.1 29 = .ok (.dup, 1) := by decide +kernel
theorem d_ASB_append_C_30 : decode M_ASB_append_C.2.1 30 = .ok (.getfield 79, 3) := by decide +kernel
theorem d_ASB_append_C_33 : decode M_ASB_append_C.2.1 33 = .ok (.dup_x1, 1) := by decide +kernel
theorem d_ASB_append_C_34 : decode M_ASB_append_C.2.1 34 = .ok (.iconst 1, 1) := by decide +kernel
theorem d_ASB_append_C_35 : decode M_ASB_append_C.2.1 35 = .ok (.iadd, 1) := by decide +kernel
theorem d_ASB_append_C_36 : decode M_ASB_append_C.2.1 36 = .ok (.putfield 79, 3) := by decide +kernel
theorem xp_SB_3 : xP k_StringBuilder 3 false .int := ⟨_, _, _, rfl, rfl, by decide +kernel⟩
theorem d_ASB_append_C_39 : decode M_ASB_append_C.2.1 39 = .ok (.iload_n 1, 1) := by decide +kernel
theorem d_ASB_append_C_40 : decode M_ASB_append_C.2.1 40 = .ok (.i2b, 1) := by decide +kernel
theorem d_ASB_append_C_41 : decode M_ASB_append_C.2.1 41 = .ok (.bastore, 1) := by decide +kernel
theorem d_ASB_append_C_42 : decode M_ASB_append_C.2.1 42 = .ok (.goto 33, 3) := by decide +kernel
theorem d_ASB_append_C_75 : decode M_ASB_append_C.2.1 75 = .ok (.aload_n 0, 1) := by decide +kernel
theorem d_ASB_append_C_76 : decode M_ASB_append_C.2.1 76 = .ok (.areturn, 1) := by decide +kernel
theorem d_ASB_append_C_0 : decode M_ASB_append_C.2.1 0 = .ok (.aload_n 0, 1) := by decide +kernel
theorem d_ASB_append_C_1 : decode M_ASB_append_C.2.1 1 = .ok (.aload_n 0, 1) := by decide +kernel
theorem d_ASB_append_C_2 : decode M_ASB_append_C.2.1 2 = .ok (.getfield 79, 3) := by decide +kernel
theorem d_ASB_append_C_5 : decode M_ASB_append_C.2.1 5 = .ok (.iconst 1, 1) := by decide +kernel
theorem d_ASB_append_C_6 : decode M_ASB_append_C.2.1 6 = .ok (.iadd, 1) := by decide +kernel
theorem d_ASB_append_C_7 : decode M_ASB_append_C.2.1 7 = .ok (.invokevirtual 100, 3) := by decide +kernel
theorem xw_189 : (Jvm.Cond.code ({ cls := "java/lang/AbstractStringBuilder", name := "ensureCapacityInternal", desc := "(I)V" } : Jvm.MethodName) prog_15_method_9_code (3 : Nat) (Option.none : Option Jvm.ClassFile.FieldType)) ∈ xT := xT_at 189 (by decide +kernel) (by decide +kernel)
theorem xcb_ASB_ensureCapacityInternal : xcb M_ASB_ensureCapacityInternal 1 := ⟨xw_189, xw_2, by decide, by decide, by decide, by decide +kernel⟩
theorem xw_188 : (Jvm.Cond.instanceMethod ({ cls := "java/lang/AbstractStringBuilder", name := "ensureCapacityInternal", desc := "(I)V" } : Jvm.MethodName)) ∈ xT := xT_at 188 (by decide +kernel) (by decide +kernel)
theorem xw_186 : (Jvm.Cond.methodLink "java/lang/AbstractStringBuilder" (100 : Nat) ({ cls := "java/lang/AbstractStringBuilder", name := "ensureCapacityInternal", desc := "(I)V" } : Jvm.MethodName)) ∈ xT := xT_at 186 (by decide +kernel) (by decide +kernel)
theorem xps_ASB_ensureCapacityInternal_SB : Cond.selects "java/lang/StringBuilder" y_ASB_ensureCapacityInternal y_ASB_ensureCapacityInternal ∈ xT := xT_ps (by decide +kernel) (by decide +kernel)
theorem xcv_ASB_100_SB : xCV "java/lang/AbstractStringBuilder" 100 "java/lang/StringBuilder" M_ASB_ensureCapacityInternal 1 := ⟨xcb_ASB_ensureCapacityInternal, xw_188, Or.inl ⟨xw_186, Or.inl xps_ASB_ensureCapacityInternal_SB⟩⟩
abbrev y_SB_append_C : MethodName := ⟨"java/lang/StringBuilder", "append", "(C)Ljava/lang/StringBuilder;"⟩
abbrev M_SB_append_C : XMt := (y_SB_append_C, prog_26_method_14_code, 2, (some (.object "java/lang/StringBuilder")))
theorem d_SB_append_C_0 : decode M_SB_append_C.2.1 0 = .ok (.aload_n 0, 1) := by decide +kernel
theorem d_SB_append_C_1 : decode M_SB_append_C.2.1 1 = .ok (.iload_n 1, 1) := by decide +kernel
theorem d_SB_append_C_2 : decode M_SB_append_C.2.1 2 = .ok (.invokespecial 50, 3) := by decide +kernel
theorem xw_185 : (Jvm.Cond.code ({ cls := "java/lang/AbstractStringBuilder", name := "append", desc := "(C)Ljava/lang/AbstractStringBuilder;" } : Jvm.MethodName) prog_15_method_31_code (2 : Nat) (Option.some (Jvm.ClassFile.FieldType.object "java/lang/AbstractStringBuilder"))) ∈ xT := xT_at 185 (by decide +kernel) (by decide +kernel)
theorem xcb_ASB_append_C : xcb M_ASB_append_C 1 := ⟨xw_185, xw_2, by decide, by decide, by decide, by decide +kernel⟩
theorem xw_184 : (Jvm.Cond.instanceMethod ({ cls := "java/lang/AbstractStringBuilder", name := "append", desc := "(C)Ljava/lang/AbstractStringBuilder;" } : Jvm.MethodName)) ∈ xT := xT_at 184 (by decide +kernel) (by decide +kernel)
theorem xw_183 : (Jvm.Cond.methodLink "java/lang/StringBuilder" (50 : Nat) ({ cls := "java/lang/AbstractStringBuilder", name := "append", desc := "(C)Ljava/lang/AbstractStringBuilder;" } : Jvm.MethodName)) ∈ xT := xT_at 183 (by decide +kernel) (by decide +kernel)
theorem xw_1602 : (Jvm.Cond.sameMethod "java/lang/AbstractStringBuilder" "java/lang/AbstractStringBuilder" "append" "(C)Ljava/lang/AbstractStringBuilder;") ∈ xT := xT_at 1602 (by decide +kernel) (by decide +kernel)
theorem xcu_SB_50 : xCU "java/lang/StringBuilder" 50 M_ASB_append_C 1 := ⟨xcb_ASB_append_C, by decide, xw_184, xw_183, xw_1602, xw_73⟩
theorem d_SB_append_C_5 : decode M_SB_append_C.2.1 5 = .ok (.pop, 1) := by decide +kernel
theorem d_SB_append_C_6 : decode M_SB_append_C.2.1 6 = .ok (.aload_n 0, 1) := by decide +kernel
theorem d_SB_append_C_7 : decode M_SB_append_C.2.1 7 = .ok (.areturn, 1) := by decide +kernel
end
section SB3
variable {l : Launch} {G : XG} {h : XH} {c n d : Nat}
theorem nI_sub_le {m k : Nat} (hm : m < 2 ^ 30) (hk : k < 2 ^ 30) (h : m ≤ k) : nI m - nI k ≤ 0 := by
  rw [Int32.le_iff_toInt_le, pk_sub_toInt hm hk, Int32.toInt_zero]
  omega
theorem nI_sub_gt {m k : Nat} (hm : m < 2 ^ 30) (hk : k < 2 ^ 30) (h : k < m) : ¬ nI m - nI k ≤ 0 := by
  rw [Int32.le_iff_toInt_le, pk_sub_toInt hm hk, Int32.toInt_zero]
  omega
/-- an end of a void method that changes nothing -/
abbrev xVoid (h : XH) (c n : Nat) : Option Value → XH → Nat → Nat → Prop := fun v h' c' n' => v = none ∧ h' = h ∧ c' = c ∧ n' = n
theorem c_ensure_no (hd : 0 ≤ d) {a va m : Nat} {z k : Value} {vs : List Value} (ha : h a = some (k_StringBuilder, [.ref va, .int 0, z, k])) (hv : h va = some (k_abyte, vs)) (hm : m ≤ vs.length) (hb : vs.length < 2 ^ 20) : XM l G d M_ASB_ensureCapacityInternal [.ref a, .int (nI m)] h c n (xVoid h c n) := by
  refine XM.of (by decide +kernel) (Nat.le_of_ble_eq_true rfl) ?_
  refine x_aload_n d_ASB_ensureCapacityInternal_0 rfl rfl ?_
  refine x_get xf_ASB_15_SB (Or.inl ha) rfl d_ASB_ensureCapacityInternal_1 ?_
  refine x_alen (k := k_abyte) rfl (Or.inl hv) (v := nI vs.length) rfl d_ASB_ensureCapacityInternal_4 ?_
  refine x_aload_n d_ASB_ensureCapacityInternal_5 rfl rfl ?_
  refine x_get xf_ASB_22_SB (Or.inl ha) rfl d_ASB_ensureCapacityInternal_6 ?_
  refine x_ishr d_ASB_ensureCapacityInternal_9 ?_
  refine x_top (w := .int (nI vs.length)) (by rw [sb_shr0]) ?_
  refine x_istore_n (L' := [_, _, _]) d_ASB_ensureCapacityInternal_10 rfl rfl ?_
  refine x_iload_n d_ASB_ensureCapacityInternal_11 rfl ?_
  refine x_iload_n d_ASB_ensureCapacityInternal_12 rfl ?_
  refine x_isub d_ASB_ensureCapacityInternal_13 ?_
  refine x_if_le (tgt := 38) d_ASB_ensureCapacityInternal_14 (by decide) (fun _ => ?_) (fun hn => absurd (nI_sub_le (by omega) (by omega) hm) hn)
  refine x_vret d_ASB_ensureCapacityInternal_38 rfl ?_
  exact ⟨rfl, rfl, rfl, rfl⟩
theorem c_ensure_yes (hd : 3 ≤ d) {a va m : Nat} {z k : Value} {vs : List Value} (ha : h a = some (k_StringBuilder, [.ref va, .int 0, z, k])) (hv : h va = some (k_abyte, vs)) (hf : ∀ v ∈ vs, fits .byte v = true) (hm : vs.length < m) (hb : m < 2 ^ 18) (hc : c + 1 ≤ xCB) (hn : n + max m (2 * vs.length + 2) ≤ xSB) : XM l G d M_ASB_ensureCapacityInternal [.ref a, .int (nI m)] h c n
    (fun v h' c' n' => v = none ∧ ∃ q, h q = none ∧ h' = xup (xup h q (k_abyte, vs ++ List.replicate (max m (2 * vs.length + 2) - vs.length) (.int 0))) a (k_StringBuilder, [.ref q, .int 0, z, k]) ∧ c' = c + 1 ∧ n' = n + max m (2 * vs.length + 2)) := by
  obtain ⟨d, rfl⟩ : ∃ q, d = q + 1 := ⟨d - 1, by omega⟩
  refine XM.of (by decide +kernel) (Nat.le_of_ble_eq_true rfl) ?_
  refine x_aload_n d_ASB_ensureCapacityInternal_0 rfl rfl ?_
  refine x_get xf_ASB_15_SB (Or.inl ha) rfl d_ASB_ensureCapacityInternal_1 ?_
  refine x_alen (k := k_abyte) rfl (Or.inl hv) (v := nI vs.length) rfl d_ASB_ensureCapacityInternal_4 ?_
  refine x_aload_n d_ASB_ensureCapacityInternal_5 rfl rfl ?_
  refine x_get xf_ASB_22_SB (Or.inl ha) rfl d_ASB_ensureCapacityInternal_6 ?_
  refine x_ishr d_ASB_ensureCapacityInternal_9 ?_
  refine x_top (w := .int (nI vs.length)) (by rw [sb_shr0]) ?_
  refine x_istore_n (L' := [_, _, _]) d_ASB_ensureCapacityInternal_10 rfl rfl ?_
  refine x_iload_n d_ASB_ensureCapacityInternal_11 rfl ?_
  refine x_iload_n d_ASB_ensureCapacityInternal_12 rfl ?_
  refine x_isub d_ASB_ensureCapacityInternal_13 ?_
  refine x_if_le (tgt := 38) d_ASB_ensureCapacityInternal_14 (by decide) (fun ht => absurd ht (nI_sub_gt (by omega) (by omega) hm)) (fun _ => ?_)
  refine x_aload_n d_ASB_ensureCapacityInternal_17 rfl rfl ?_
  refine x_aload_n d_ASB_ensureCapacityInternal_18 rfl rfl ?_
  refine x_get xf_ASB_15_SB (Or.inl ha) rfl d_ASB_ensureCapacityInternal_19 ?_
  refine x_aload_n d_ASB_ensureCapacityInternal_22 rfl rfl ?_
  refine x_iload_n d_ASB_ensureCapacityInternal_23 rfl ?_
  refine x_callV (As := [_]) (k := k_StringBuilder) rfl xcv_ASB_104_SB (Or.inl ha) (c_newCapacity (by omega) ha hv hm hb) rfl rfl (Nat.le_of_ble_eq_true rfl) d_ASB_ensureCapacityInternal_24 ?_
  rintro v h' c' n' ⟨rfl, rfl, rfl, rfl⟩
  refine x_aload_n d_ASB_ensureCapacityInternal_27 rfl rfl ?_
  refine x_get xf_ASB_22_SB (Or.inl ha) rfl d_ASB_ensureCapacityInternal_28 ?_
  refine x_ishl d_ASB_ensureCapacityInternal_31 ?_
  refine x_top (w := .int (nI (max m (2 * vs.length + 2)))) (by rw [sb_shl0]) ?_
  have hM : vs.length < max m (2 * vs.length + 2) := by omega
  refine x_callS (As := [_, _]) xcs_ASB_108 (c_copyOf_aB (by omega) (Or.inl hv) hf hM (by omega) hc hn) rfl rfl (Nat.le_of_ble_eq_true rfl) d_ASB_ensureCapacityInternal_32 ?_
  rintro v h' c' n' ⟨q, rfl, hq, rfl, rfl, rfl⟩
  refine x_put xf_ASB_15_SB xp_SB_0 rfl rfl (xup_old ha hq) rfl rfl d_ASB_ensureCapacityInternal_35 ?_
  refine x_vret d_ASB_ensureCapacityInternal_38 rfl ?_
  exact ⟨rfl, q, hq, rfl, rfl, by simp; omega⟩
/-- A BUILDER: at a, its bytes at va, the text t, how many it could hold -/
def isB (h : XH) (a va : Nat) (t : List Nat) (m : Nat) : Prop := ∃ (z : Int32) (bs : List Value), h a = some (k_StringBuilder, [.ref va, .int 0, .int z, .int (nI t.length)]) ∧ h va = some (k_abyte, xby t ++ bs) ∧ t.length + bs.length = m ∧ (∀ v ∈ bs, fits .byte v = true) ∧ xasc t
/-- what was there stays, but for the cells F -/
def xfr (h h' : XH) (F : List Nat) : Prop := (∀ (q : Nat) (e : Nat × List Value), h q = some e → q ∉ F → h' q = some e) ∧ ∀ q : Nat, h' q = none → h q = none
theorem xfr.rf {F : List Nat} : xfr h h F := ⟨fun _ _ hq _ => hq, fun _ hq => hq⟩
theorem xfr.mono {h' : XH} {F F' : List Nat} (hf : xfr h h' F) (hs : ∀ q ∈ F, q ∈ F') : xfr h h' F' := ⟨fun q e hq hn => hf.1 q e hq (fun z => hn (hs q z)), hf.2⟩
theorem xfr.tr {h' h'' : XH} {F F' : List Nat} (h1 : xfr h h' F) (h2 : xfr h' h'' F') (hs : ∀ q, h q ≠ none → q ∈ F' → q ∈ F) : xfr h h'' F := ⟨fun q e hq hn => h2.1 q e (h1.1 q e hq hn) (fun z => hn (hs q (by rw [hq]; exact fun y => (by cases y)) z)), fun q hq => h1.2 q (h2.2 q hq)⟩
theorem xfr.up {a : Nat} {e : Nat × List Value} {h' : XH} {F : List Nat} (hf : xfr h h' F) (ha : a ∈ F ∨ h a = none) : xfr h (xup h' a e) F := by
  refine ⟨fun q x hq hn => ?_, fun q hq => ?_⟩
  · by_cases hqa : q = a
    · subst hqa
      rcases ha with z | z
      · exact absurd z hn
      · rw [z] at hq; cases hq
    · rw [xup_ne hqa]; exact hf.1 q x hq hn
  · by_cases hqa : q = a
    · subst hqa; rw [xup_self] at hq; cases hq
    · rw [xup_ne hqa] at hq; exact hf.2 q hq
/-- append a character: what comes of the builder, and what it costs at most -/
abbrev xgr (K m m' c n c' n' : Nat) : Prop := m ≤ m' ∧ m' ≤ K ∧ c' + m ≤ c + m' ∧ n' + 2 * m ≤ n + 2 * m'
/-- what comes of a builder of which no text is longer than half of K: its array grows from m to m', and that is what it costs -/
abbrev pB (K a va : Nat) (t : List Nat) (m : Nat) (h : XH) (c n : Nat) (h' : XH) (c' n' : Nat) : Prop := ∃ va' m', isB h' a va' t m' ∧ xfr h h' [a, va] ∧ (va' = va ∨ h va' = none) ∧ xgr K m m' c n c' n'
theorem xby_app (t : List Nat) (ch : Nat) : xby (t ++ [ch]) = xby t ++ [.int (nI ch)] := by simp [xby]
theorem xput_end {t : List Nat} {b : Value} {bs : List Value} {w : Value} : (xby t ++ (b :: bs)).set t.length w = xby t ++ (w :: bs) := by
  rw [List.set_append_right _ _ (by rw [xby_len]; exact Nat.le_refl _), xby_len, Nat.sub_self]
  rfl
theorem c_ASB_append_C (hd : 4 ≤ d) {K a va ch m : Nat} {t : List Nat} (hB : isB h a va t m) (hch : ch < 128) (hK : K < 2 ^ 16) (hm : m ≤ K) (hL : 2 * t.length + 4 ≤ K) (hc : c + K ≤ xCB + m) (hn : n + 2 * K ≤ xSB + 2 * m) : XM l G d M_ASB_append_C [.ref a, .int (nI ch)] h c n (fun v h' c' n' => v = some (.ref a) ∧ pB K a va (t ++ [ch]) m h c n h' c' n') := by
  obtain ⟨d, rfl⟩ : ∃ q, d = q + 1 := ⟨d - 1, by omega⟩
  obtain ⟨z, bs, ha, hv, hl, hbf, hat⟩ := hB
  have hat' : xasc (t ++ [ch]) := by
    intro x hx
    rcases List.mem_append.mp hx with q | q
    · exact hat x q
    · rw [List.mem_singleton] at q; rw [q]; exact hch
  have hav : a ≠ va := fun e => by rw [e, hv] at ha; cases ha
  have hvl : (xby t ++ bs).length = m := by rw [List.length_append, xby_len]; exact hl
  obtain ⟨f1, f2, f3, -, -⟩ := xfit1 ch hch
  -- the part behind ensureCapacityInternal, for a builder with room
  have fin : ∀ (h1 : XH) (v1 : Nat) (b : Value) (bs1 : List Value) (c1 n1 : Nat), h1 a = some (k_StringBuilder, [.ref v1, .int 0, .int z, .int (nI t.length)]) → h1 v1 = some (k_abyte, xby t ++ (b :: bs1)) → (∀ v ∈ bs1, fits .byte v = true) → a ≠ v1 →
      pB K a va (t ++ [ch]) m h c n (xup (xup h1 a (k_StringBuilder, [.ref v1, .int 0, .int z, .int (nI (t ++ [ch]).length)])) v1 (k_abyte, xby (t ++ [ch]) ++ bs1)) c1 n1 →
      XW l G M_ASB_append_C (d + 1) 10 [some (.ref a), some (.int (nI ch))] [] h1 c1 n1 (fun v h' c' n' => v = some (.ref a) ∧ pB K a va (t ++ [ch]) m h c n h' c' n') := by
    intro h1 v1 b bs1 c1 n1 e1 e2 e3 e4 hP
    refine x_aload_n d_ASB_append_C_10 rfl rfl ?_
    refine x_callV (As := []) (k := k_StringBuilder) rfl xcv_ASB_83_SB (Or.inl e1) (c_ASB_isLatin1 e1) rfl rfl (Nat.le_of_ble_eq_true rfl) d_ASB_append_C_11 ?_
    rintro v h' c' n' ⟨rfl, rfl, rfl, rfl⟩
    refine x_if_eq (tgt := 45) d_ASB_append_C_14 (by decide) (fun ht => absurd ht (by decide)) (fun _ => ?_)
    refine x_iload_n d_ASB_append_C_17 rfl ?_
    refine x_callS (As := [_]) xcs_ASB_191 (c_SL1_canEncode_C (by omega)) rfl rfl (Nat.le_of_ble_eq_true rfl) d_ASB_append_C_18 ?_
    rintro v h' c' n' ⟨rfl, rfl, rfl, rfl⟩
    refine x_if_eq (tgt := 45) d_ASB_append_C_21 (by decide) (fun ht => absurd ht (by decide)) (fun _ => ?_)
    refine x_aload_n d_ASB_append_C_24 rfl rfl ?_
    refine x_get xf_ASB_15_SB (Or.inl e1) rfl d_ASB_append_C_25 ?_
    refine x_aload_n d_ASB_append_C_28 rfl rfl ?_
    refine x_dup d_ASB_append_C_29 rfl ?_
    refine x_get xf_ASB_79_SB (Or.inl e1) rfl d_ASB_append_C_30 ?_
    refine x_dup_x1 d_ASB_append_C_33 rfl rfl ?_
    refine x_iconst (v := 1) d_ASB_append_C_34 (by decide) ?_
    refine x_iadd d_ASB_append_C_35 ?_
    refine x_st (st' := [.int (nI (t ++ [ch]).length), .ref a, .int (nI t.length), .ref v1]) (by rw [show (1 : Int32) = nI 1 from rfl, nI_add]; simp) ?_
    have hlt : t.length < 2 ^ 31 := by omega
    refine x_put xf_ASB_79_SB xp_SB_3 rfl rfl e1 rfl rfl d_ASB_append_C_36 ?_
    refine x_iload_n d_ASB_append_C_39 rfl ?_
    refine x_i2b d_ASB_append_C_40 ?_
    refine x_top (w := .int (nI ch)) (by rw [f2]) ?_
    have e5 : (xby t ++ (b :: bs1))[(nI t.length).toNatClampNeg]? = some b := by
      rw [nI_clamp hlt, List.getElem?_append_right (by rw [xby_len]; exact Nat.le_refl _), xby_len, Nat.sub_self]
      rfl
    refine x_bast (k := k_abyte) rfl (by rw [xup_ne (Ne.symm e4)]; exact e2) (nI_pos hlt) e5 f3 d_ASB_append_C_41 ?_
    refine x_goto (tgt := 75) d_ASB_append_C_42 (by decide) ?_
    refine x_aload_n d_ASB_append_C_75 rfl rfl ?_
    refine x_aret d_ASB_append_C_76 rfl rfl ?_
    refine ⟨rfl, ?_⟩
    rw [nI_clamp hlt, xput_end]
    rw [xby_app, List.append_assoc] at hP
    exact hP
  refine XM.of (by decide +kernel) (Nat.le_of_ble_eq_true rfl) ?_
  refine x_aload_n d_ASB_append_C_0 rfl rfl ?_
  refine x_aload_n d_ASB_append_C_1 rfl rfl ?_
  refine x_get xf_ASB_79_SB (Or.inl ha) rfl d_ASB_append_C_2 ?_
  refine x_iconst (v := 1) d_ASB_append_C_5 (by decide) ?_
  refine x_iadd d_ASB_append_C_6 ?_
  refine x_top (w := .int (nI (t.length + 1))) (by rw [show (1 : Int32) = nI 1 from rfl, nI_add]) ?_
  have hmem : ∀ q, q ∈ [a, va] → True := fun _ _ => trivial
  cases hbs : bs with
  | cons b bs1 =>
    subst hbs
    have hlen : (b :: bs1).length = bs1.length + 1 := rfl
    refine x_callV (As := [_]) (k := k_StringBuilder) rfl xcv_ASB_100_SB (Or.inl ha) (c_ensure_no (Nat.zero_le _) ha hv (by rw [hvl]; omega) (by rw [hvl]; omega)) rfl rfl (Nat.le_of_ble_eq_true rfl) d_ASB_append_C_7 ?_
    rintro v h' c' n' ⟨rfl, rfl, rfl, rfl⟩
    refine fin h' va b bs1 c' n' ha hv (fun v hv => hbf v (List.mem_cons_of_mem _ hv)) hav ⟨va, m, ⟨z, bs1, by rw [xup_ne hav, xup_self], xup_self, by simp; omega, fun v hv => hbf v (List.mem_cons_of_mem _ hv), hat'⟩, ?_, Or.inl rfl, by omega⟩
    exact (xfr.rf.up (Or.inl (by simp))).up (Or.inl (by simp))
  | nil =>
    subst hbs
    have hl' : t.length = m := by simpa using hl
    have hvs : ∀ v ∈ xby t ++ [], fits .byte v = true := by rw [List.append_nil]; exact xby_fit hat
    have hmx : max (t.length + 1) (2 * (xby t ++ []).length + 2) = 2 * m + 2 := by rw [hvl]; omega
    refine x_callV (As := [_]) (k := k_StringBuilder) rfl xcv_ASB_100_SB (Or.inl ha) (c_ensure_yes (by omega) ha hv hvs (by rw [hvl]; omega) (by omega) (by omega) (by rw [hmx]; omega)) rfl rfl (Nat.le_of_ble_eq_true rfl) d_ASB_append_C_7 ?_
    rintro v h' c' n' ⟨rfl, q, hq, rfl, rfl, rfl⟩
    rw [hmx, hvl]
    obtain ⟨w, hw⟩ : ∃ w, 2 * m + 2 - m = w + 1 := ⟨m + 1, by omega⟩
    have haq : a ≠ q := fun e => by rw [e, hq] at ha; cases ha
    have hvq : va ≠ q := fun e => by rw [e, hq] at hv; cases hv
    rw [hw, List.replicate_succ]
    refine fin _ q (.int 0) (List.replicate w (.int 0)) _ _ xup_self (by rw [xup_ne (Ne.symm haq), xup_self]; simp) (fun v hv => by rw [(List.mem_replicate.mp hv).2]; rfl) haq ⟨q, 2 * m + 2, ⟨z, List.replicate w (.int 0), by rw [xup_ne haq, xup_self], xup_self, by simp; omega, fun v hv => by rw [(List.mem_replicate.mp hv).2]; rfl, hat'⟩, ?_, Or.inr hq, by omega⟩
    exact (((xfr.rf.up (Or.inr hq)).up (Or.inl (by simp))).up (Or.inl (by simp))).up (Or.inr hq)
theorem c_SB_append_C (hd : 5 ≤ d) {K a va ch m : Nat} {t : List Nat} (hB : isB h a va t m) (hch : ch < 128) (hK : K < 2 ^ 16) (hm : m ≤ K) (hL : 2 * t.length + 4 ≤ K) (hc : c + K ≤ xCB + m) (hn : n + 2 * K ≤ xSB + 2 * m) : XM l G d M_SB_append_C [.ref a, .int (nI ch)] h c n (fun v h' c' n' => v = some (.ref a) ∧ pB K a va (t ++ [ch]) m h c n h' c' n') := by
  obtain ⟨d, rfl⟩ : ∃ q, d = q + 1 := ⟨d - 1, by omega⟩
  obtain ⟨z, bs, ha, -⟩ := id hB
  refine XM.of (by decide +kernel) (Nat.le_of_ble_eq_true rfl) ?_
  refine x_aload_n d_SB_append_C_0 rfl rfl ?_
  refine x_iload_n d_SB_append_C_1 rfl ?_
  refine x_callU (As := [_]) (k := k_StringBuilder) rfl xcu_SB_50 (Or.inl ha) (c_ASB_append_C (by omega) hB hch hK hm hL hc hn) rfl rfl (Nat.le_of_ble_eq_true rfl) d_SB_append_C_2 ?_
  rintro v h' c' n' ⟨rfl, hp⟩
  refine x_pop d_SB_append_C_5 rfl ?_
  refine x_aload_n d_SB_append_C_6 rfl rfl ?_
  refine x_aret d_SB_append_C_7 rfl rfl ?_
  exact ⟨rfl, hp⟩
end SB3
