section
abbrev y_String_coder : MethodName := ⟨"java/lang/String", "coder", "()B"⟩
abbrev M_String_coder : XMt := (y_String_coder, prog_25_method_152_code, 1, (some .byte))
theorem d_String_coder_0 : decode M_String_coder.2.1 0 = .ok (.getstatic 38, 3) := by decide +kernel
theorem xw_429 : (Jvm.Cond.fieldLink "java/lang/String" (38 : Nat) "java/lang/String" "COMPACT_STRINGS" "Z") ∈ xT := xT_at 429 (by decide +kernel) (by decide +kernel)
theorem d_String_coder_3 : decode M_String_coder.2.1 3 = .ok (.ifCond .eq 10, 3) := by decide +kernel
theorem d_String_coder_6 : decode M_String_coder.2.1 6 = .ok (.aload_n 0, 1) := by decide +kernel
theorem d_String_coder_7 : decode M_String_coder.2.1 7 = .ok (.getfield 15, 3) := by decide +kernel
theorem xw_634 : (Jvm.Cond.fieldLink "java/lang/String" (15 : Nat) "java/lang/String" "coder" "B") ∈ xT := xT_at 634 (by decide +kernel) (by decide +kernel)
theorem xf_String_15_String : xF "java/lang/String" 15 k_String 1 := ⟨_, _, _, "java/lang/String", rfl, by decide, Or.inl xw_634, Or.inl rfl⟩
theorem d_String_coder_10 : decode M_String_coder.2.1 10 = .ok (.goto 4, 3) := by decide +kernel
theorem d_String_coder_14 : decode M_String_coder.2.1 14 = .ok (.ireturn, 1) := by decide +kernel
abbrev y_String_isLatin1 : MethodName := ⟨"java/lang/String", "isLatin1", "()Z"⟩
abbrev M_String_isLatin1 : XMt := (y_String_isLatin1, prog_25_method_154_code, 1, (some .boolean))
theorem d_String_isLatin1_0 : decode M_String_isLatin1.2.1 0 = .ok (.getstatic 38, 3) := by decide +kernel
theorem d_String_isLatin1_3 : decode M_String_isLatin1.2.1 3 = .ok (.ifCond .eq 14, 3) := by decide +kernel
theorem d_String_isLatin1_6 : decode M_String_isLatin1.2.1 6 = .ok (.aload_n 0, 1) := by decide +kernel
theorem d_String_isLatin1_7 : decode M_String_isLatin1.2.1 7 = .ok (.getfield 15, 3) := by decide +kernel
theorem d_String_isLatin1_10 : decode M_String_isLatin1.2.1 10 = .ok (.ifCond .ne 7, 3) := by decide +kernel
theorem d_String_isLatin1_13 : decode M_String_isLatin1.2.1 13 = .ok (.iconst 1, 1) := by decide +kernel
theorem d_String_isLatin1_14 : decode M_String_isLatin1.2.1 14 = .ok (.goto 4, 3) := by decide +kernel
theorem d_String_isLatin1_18 : decode M_String_isLatin1.2.1 18 = .ok (.ireturn, 1) := by decide +kernel
abbrev y_String_length : MethodName := ⟨"java/lang/String", "length", "()I"⟩
abbrev M_String_length : XMt := (y_String_length, prog_25_method_54_code, 1, (some .int))
theorem d_String_length_0 : decode M_String_length.2.1 0 = .ok (.aload_n 0, 1) := by decide +kernel
theorem d_String_length_1 : decode M_String_length.2.1 1 = .ok (.getfield 9, 3) := by decide +kernel
theorem xw_633 : (Jvm.Cond.fieldLink "java/lang/String" (9 : Nat) "java/lang/String" "value" "[B") ∈ xT := xT_at 633 (by decide +kernel) (by decide +kernel)
theorem xf_String_9_String : xF "java/lang/String" 9 k_String 0 := ⟨_, _, _, "java/lang/String", rfl, by decide, Or.inl xw_633, Or.inl rfl⟩
theorem d_String_length_4 : decode M_String_length.2.1 4 = .ok (.arraylength, 1) := by decide +kernel
theorem d_String_length_5 : decode M_String_length.2.1 5 = .ok (.aload_n 0, 1) := by decide +kernel
theorem d_String_length_6 : decode M_String_length.2.1 6 = .ok (.invokevirtual 335, 3) := by decide +kernel
theorem xw_428 : (Jvm.Cond.code ({ cls := "java/lang/String", name := "coder", desc := "()B" } : Jvm.MethodName) prog_25_method_152_code (1 : Nat) (Option.some Jvm.ClassFile.FieldType.byte)) ∈ xT := xT_at 428 (by decide +kernel) (by decide +kernel)
theorem xw_4 : (Jvm.Cond.initialized "java/lang/String") ∈ xT := xT_at 4 (by decide +kernel) (by decide +kernel)
theorem xcb_String_coder : xcb M_String_coder 0 := ⟨xw_428, xw_4, by decide, by decide, by decide, by decide +kernel⟩
theorem xw_426 : (Jvm.Cond.instanceMethod ({ cls := "java/lang/String", name := "coder", desc := "()B" } : Jvm.MethodName)) ∈ xT := xT_at 426 (by decide +kernel) (by decide +kernel)
theorem xw_425 : (Jvm.Cond.methodLink "java/lang/String" (335 : Nat) ({ cls := "java/lang/String", name := "coder", desc := "()B" } : Jvm.MethodName)) ∈ xT := xT_at 425 (by decide +kernel) (by decide +kernel)
theorem xw_427 : (Jvm.Cond.selects "java/lang/String" ({ cls := "java/lang/String", name := "coder", desc := "()B" } : Jvm.MethodName) ({ cls := "java/lang/String", name := "coder", desc := "()B" } : Jvm.MethodName)) ∈ xT := xT_at 427 (by decide +kernel) (by decide +kernel)
theorem xcv_String_335_String : xCV "java/lang/String" 335 "java/lang/String" M_String_coder 0 := ⟨xcb_String_coder, xw_426, Or.inl ⟨xw_425, Or.inl xw_427⟩⟩
theorem d_String_length_9 : decode M_String_length.2.1 9 = .ok (.ishr, 1) := by decide +kernel
theorem d_String_length_10 : decode M_String_length.2.1 10 = .ok (.ireturn, 1) := by decide +kernel
abbrev y_String_isEmpty : MethodName := ⟨"java/lang/String", "isEmpty", "()Z"⟩
abbrev M_String_isEmpty : XMt := (y_String_isEmpty, prog_25_method_55_code, 1, (some .boolean))
theorem d_String_isEmpty_0 : decode M_String_isEmpty.2.1 0 = .ok (.aload_n 0, 1) := by decide +kernel
theorem d_String_isEmpty_1 : decode M_String_isEmpty.2.1 1 = .ok (.getfield 9, 3) := by decide +kernel
theorem d_String_isEmpty_4 : decode M_String_isEmpty.2.1 4 = .ok (.arraylength, 1) := by decide +kernel
theorem d_String_isEmpty_5 : decode M_String_isEmpty.2.1 5 = .ok (.ifCond .ne 7, 3) := by decide +kernel
theorem d_String_isEmpty_8 : decode M_String_isEmpty.2.1 8 = .ok (.iconst 1, 1) := by decide +kernel
theorem d_String_isEmpty_9 : decode M_String_isEmpty.2.1 9 = .ok (.goto 4, 3) := by decide +kernel
theorem d_String_isEmpty_13 : decode M_String_isEmpty.2.1 13 = .ok (.ireturn, 1) := by decide +kernel
theorem d_String_isEmpty_12 : decode M_String_isEmpty.2.1 12 = .ok (.iconst 0, 1) := by decide +kernel
abbrev y_Preconditions_checkIndex : MethodName := ⟨"jdk/internal/util/Preconditions", "checkIndex", "(IILjava/util/function/BiFunction;)I"⟩
abbrev M_Preconditions_checkIndex : XMt := (y_Preconditions_checkIndex, prog_41_method_11_code, 3, (some .int))
theorem d_Preconditions_checkIndex_0 : decode M_Preconditions_checkIndex.2.1 0 = .ok (.iload_n 0, 1) := by decide +kernel
theorem d_Preconditions_checkIndex_1 : decode M_Preconditions_checkIndex.2.1 1 = .ok (.ifCond .lt 8, 3) := by decide +kernel
theorem d_Preconditions_checkIndex_4 : decode M_Preconditions_checkIndex.2.1 4 = .ok (.iload_n 0, 1) := by decide +kernel
theorem d_Preconditions_checkIndex_5 : decode M_Preconditions_checkIndex.2.1 5 = .ok (.iload_n 1, 1) := by decide +kernel
theorem d_Preconditions_checkIndex_6 : decode M_Preconditions_checkIndex.2.1 6 = .ok (.if_icmp .lt 10, 3) := by decide +kernel
theorem d_Preconditions_checkIndex_16 : decode M_Preconditions_checkIndex.2.1 16 = .ok (.iload_n 0, 1) := by decide +kernel
theorem d_Preconditions_checkIndex_17 : decode M_Preconditions_checkIndex.2.1 17 = .ok (.ireturn, 1) := by decide +kernel
abbrev y_String_checkIndex : MethodName := ⟨"java/lang/String", "checkIndex", "(II)V"⟩
abbrev M_String_checkIndex : XMt := (y_String_checkIndex, prog_25_method_155_code, 2, none)
theorem d_String_checkIndex_0 : decode M_String_checkIndex.2.1 0 = .ok (.iload_n 0, 1) := by decide +kernel
theorem d_String_checkIndex_1 : decode M_String_checkIndex.2.1 1 = .ok (.iload_n 1, 1) := by decide +kernel
theorem d_String_checkIndex_2 : decode M_String_checkIndex.2.1 2 = .ok (.getstatic 1053, 3) := by decide +kernel
theorem xw_248 : (Jvm.Cond.fieldLink "java/lang/String" (1053 : Nat) "jdk/internal/util/Preconditions" "SIOOBE_FORMATTER" "Ljava/util/function/BiFunction;") ∈ xT := xT_at 248 (by decide +kernel) (by decide +kernel)
theorem d_String_checkIndex_5 : decode M_String_checkIndex.2.1 5 = .ok (.invokestatic 1059, 3) := by decide +kernel
theorem xw_273 : (Jvm.Cond.code ({ cls := "jdk/internal/util/Preconditions", name := "checkIndex", desc := "(IILjava/util/function/BiFunction;)I" } : Jvm.MethodName) prog_41_method_11_code (3 : Nat) (Option.some Jvm.ClassFile.FieldType.int)) ∈ xT := xT_at 273 (by decide +kernel) (by decide +kernel)
theorem xw_14 : (Jvm.Cond.initialized "jdk/internal/util/Preconditions") ∈ xT := xT_at 14 (by decide +kernel) (by decide +kernel)
theorem xcb_Preconditions_checkIndex : xcb M_Preconditions_checkIndex 3 := ⟨xw_273, xw_14, by decide, by decide, by decide, by decide +kernel⟩
theorem xw_271 : (Jvm.Cond.methodLink "java/lang/String" (1059 : Nat) ({ cls := "jdk/internal/util/Preconditions", name := "checkIndex", desc := "(IILjava/util/function/BiFunction;)I" } : Jvm.MethodName)) ∈ xT := xT_at 271 (by decide +kernel) (by decide +kernel)
theorem xw_272 : (Jvm.Cond.static ({ cls := "jdk/internal/util/Preconditions", name := "checkIndex", desc := "(IILjava/util/function/BiFunction;)I" } : Jvm.MethodName)) ∈ xT := xT_at 272 (by decide +kernel) (by decide +kernel)
theorem xcs_String_1059 : xCS "java/lang/String" 1059 M_Preconditions_checkIndex 3 := ⟨xcb_Preconditions_checkIndex, xw_272, Or.inl xw_271⟩
theorem d_String_checkIndex_8 : decode M_String_checkIndex.2.1 8 = .ok (.pop, 1) := by decide +kernel
theorem d_String_checkIndex_9 : decode M_String_checkIndex.2.1 9 = .ok (.return_, 1) := by decide +kernel
abbrev y_SL1_charAt : MethodName := ⟨"java/lang/StringLatin1", "charAt", "([BI)C"⟩
abbrev M_SL1_charAt : XMt := (y_SL1_charAt, prog_27_method_2_code, 2, (some .char))
theorem d_SL1_charAt_0 : decode M_SL1_charAt.2.1 0 = .ok (.iload_n 1, 1) := by decide +kernel
theorem d_SL1_charAt_1 : decode M_SL1_charAt.2.1 1 = .ok (.aload_n 0, 1) := by decide +kernel
theorem d_SL1_charAt_2 : decode M_SL1_charAt.2.1 2 = .ok (.arraylength, 1) := by decide +kernel
theorem d_SL1_charAt_3 : decode M_SL1_charAt.2.1 3 = .ok (.invokestatic 9, 3) := by decide +kernel
theorem xw_270 : (Jvm.Cond.code ({ cls := "java/lang/String", name := "checkIndex", desc := "(II)V" } : Jvm.MethodName) prog_25_method_155_code (2 : Nat) (Option.none : Option Jvm.ClassFile.FieldType)) ∈ xT := xT_at 270 (by decide +kernel) (by decide +kernel)
theorem xcb_String_checkIndex : xcb M_String_checkIndex 2 := ⟨xw_270, xw_4, by decide, by decide, by decide, by decide +kernel⟩
theorem xw_441 : (Jvm.Cond.methodLink "java/lang/StringLatin1" (9 : Nat) ({ cls := "java/lang/String", name := "checkIndex", desc := "(II)V" } : Jvm.MethodName)) ∈ xT := xT_at 441 (by decide +kernel) (by decide +kernel)
theorem xw_269 : (Jvm.Cond.static ({ cls := "java/lang/String", name := "checkIndex", desc := "(II)V" } : Jvm.MethodName)) ∈ xT := xT_at 269 (by decide +kernel) (by decide +kernel)
theorem xcs_SL1_9 : xCS "java/lang/StringLatin1" 9 M_String_checkIndex 2 := ⟨xcb_String_checkIndex, xw_269, Or.inl xw_441⟩
theorem d_SL1_charAt_6 : decode M_SL1_charAt.2.1 6 = .ok (.aload_n 0, 1) := by decide +kernel
theorem d_SL1_charAt_7 : decode M_SL1_charAt.2.1 7 = .ok (.iload_n 1, 1) := by decide +kernel
theorem d_SL1_charAt_8 : decode M_SL1_charAt.2.1 8 = .ok (.baload, 1) := by decide +kernel
theorem d_SL1_charAt_9 : decode M_SL1_charAt.2.1 9 = .ok (.sipush 255, 3) := by decide +kernel
theorem d_SL1_charAt_12 : decode M_SL1_charAt.2.1 12 = .ok (.iand, 1) := by decide +kernel
theorem d_SL1_charAt_13 : decode M_SL1_charAt.2.1 13 = .ok (.i2c, 1) := by decide +kernel
theorem d_SL1_charAt_14 : decode M_SL1_charAt.2.1 14 = .ok (.ireturn, 1) := by decide +kernel
abbrev y_String_charAt : MethodName := ⟨"java/lang/String", "charAt", "(I)C"⟩
abbrev M_String_charAt : XMt := (y_String_charAt, prog_25_method_56_code, 2, (some .char))
theorem d_String_charAt_0 : decode M_String_charAt.2.1 0 = .ok (.aload_n 0, 1) := by decide +kernel
theorem d_String_charAt_1 : decode M_String_charAt.2.1 1 = .ok (.invokevirtual 492, 3) := by decide +kernel
theorem xw_437 : (Jvm.Cond.code ({ cls := "java/lang/String", name := "isLatin1", desc := "()Z" } : Jvm.MethodName) prog_25_method_154_code (1 : Nat) (Option.some Jvm.ClassFile.FieldType.boolean)) ∈ xT := xT_at 437 (by decide +kernel) (by decide +kernel)
theorem xcb_String_isLatin1 : xcb M_String_isLatin1 0 := ⟨xw_437, xw_4, by decide, by decide, by decide, by decide +kernel⟩
theorem xw_435 : (Jvm.Cond.instanceMethod ({ cls := "java/lang/String", name := "isLatin1", desc := "()Z" } : Jvm.MethodName)) ∈ xT := xT_at 435 (by decide +kernel) (by decide +kernel)
theorem xw_434 : (Jvm.Cond.methodLink "java/lang/String" (492 : Nat) ({ cls := "java/lang/String", name := "isLatin1", desc := "()Z" } : Jvm.MethodName)) ∈ xT := xT_at 434 (by decide +kernel) (by decide +kernel)
theorem xw_436 : (Jvm.Cond.selects "java/lang/String" ({ cls := "java/lang/String", name := "isLatin1", desc := "()Z" } : Jvm.MethodName) ({ cls := "java/lang/String", name := "isLatin1", desc := "()Z" } : Jvm.MethodName)) ∈ xT := xT_at 436 (by decide +kernel) (by decide +kernel)
theorem xcv_String_492_String : xCV "java/lang/String" 492 "java/lang/String" M_String_isLatin1 0 := ⟨xcb_String_isLatin1, xw_435, Or.inl ⟨xw_434, Or.inl xw_436⟩⟩
theorem d_String_charAt_4 : decode M_String_charAt.2.1 4 = .ok (.ifCond .eq 12, 3) := by decide +kernel
theorem d_String_charAt_7 : decode M_String_charAt.2.1 7 = .ok (.aload_n 0, 1) := by decide +kernel
theorem d_String_charAt_8 : decode M_String_charAt.2.1 8 = .ok (.getfield 9, 3) := by decide +kernel
theorem d_String_charAt_11 : decode M_String_charAt.2.1 11 = .ok (.iload_n 1, 1) := by decide +kernel
theorem d_String_charAt_12 : decode M_String_charAt.2.1 12 = .ok (.invokestatic 495, 3) := by decide +kernel
theorem xw_440 : (Jvm.Cond.code ({ cls := "java/lang/StringLatin1", name := "charAt", desc := "([BI)C" } : Jvm.MethodName) prog_27_method_2_code (2 : Nat) (Option.some Jvm.ClassFile.FieldType.char)) ∈ xT := xT_at 440 (by decide +kernel) (by decide +kernel)
theorem xcb_SL1_charAt : xcb M_SL1_charAt 2 := ⟨xw_440, xw_13, by decide, by decide, by decide, by decide +kernel⟩
theorem xw_438 : (Jvm.Cond.methodLink "java/lang/String" (495 : Nat) ({ cls := "java/lang/StringLatin1", name := "charAt", desc := "([BI)C" } : Jvm.MethodName)) ∈ xT := xT_at 438 (by decide +kernel) (by decide +kernel)
theorem xw_439 : (Jvm.Cond.static ({ cls := "java/lang/StringLatin1", name := "charAt", desc := "([BI)C" } : Jvm.MethodName)) ∈ xT := xT_at 439 (by decide +kernel) (by decide +kernel)
theorem xcs_String_495 : xCS "java/lang/String" 495 M_SL1_charAt 2 := ⟨xcb_SL1_charAt, xw_439, Or.inl xw_438⟩
theorem d_String_charAt_15 : decode M_String_charAt.2.1 15 = .ok (.ireturn, 1) := by decide +kernel
end
section ST1
variable {l : Launch} {G : XG} {h : XH} {c n d : Nat}
/-- A STRING: its cell and its bytes never change -/
def isS (G : XG) (h : XH) (a : Nat) (t : List Nat) : Prop := ∃ (va : Nat) (e : List Value), xr G h a k_String (.ref va :: .int 0 :: e) ∧ xr G h va k_asbyte (xby t) ∧ xasc t
/-- what is known of the cells that stay -/
def xGk (G : XG) : Prop := (∀ j, xisr (G.2.2.2.2 j) = true) ∧ (∀ i, i < xnstr → ∃ va, G.2.2.1 (G.2.2.2.1 i) = some (k_String, [.ref va, .int 0]) ∧ G.2.2.1 va = some (k_asbyte, xby (xtx i))) ∧ G.2.2.1 (G.2.2.2.1 100) = some (k_aObject, [])
theorem xtx_asc : ∀ i, i < xnstr → ∀ ch ∈ xtx i, ch < 128 := by decide +kernel
theorem xGk.str (hG : xGk G) {i : Nat} (hi : i < xnstr) : isS G h (G.2.2.2.1 i) (xtx i) := by
  obtain ⟨va, h1, h2⟩ := hG.2.1 i hi
  exact ⟨va, [], Or.inr h1, Or.inr h2, xtx_asc i hi⟩
/-- cells of other kinds than these -/
def xno (h : XH) (F ks : List Nat) : Prop := ∀ q ∈ F, ∀ e, h q = some e → e.1 ∉ ks
theorem xr.fr {h' : XH} {F : List Nat} {a k : Nat} {vs : List Value} (ha : xr G h a k vs) (hf : xfr h h' F) (hn : xno h F [k]) : xr G h' a k vs := by
  rcases ha with ha | ha
  · exact Or.inl (hf.1 a _ ha (fun z => hn a z _ ha (by simp)))
  · exact Or.inr ha
theorem xno.sub {F ks ks' : List Nat} (hn : xno h F ks) (hs : ∀ k ∈ ks', k ∈ ks) : xno h F ks' := fun q hq e he hk => hn q hq e he (hs _ hk)
theorem isS.fr {h' : XH} {F : List Nat} {a : Nat} {t : List Nat} (hS : isS G h a t) (hf : xfr h h' F) (hn : xno h F [k_String, k_asbyte]) : isS G h' a t := by
  obtain ⟨va, e, h1, h2, h3⟩ := hS
  exact ⟨va, e, h1.fr hf (hn.sub (by simp)), h2.fr hf (hn.sub (by simp)), h3⟩
theorem isS.up {q : Nat} {e : Nat × List Value} {a : Nat} {t : List Nat} (hS : isS G h a t) (hq : h q = none) : isS G (xup h q e) a t := by
  obtain ⟨va, e', h1, h2, h3⟩ := hS
  exact ⟨va, e', xr_up h1 hq, xr_up h2 hq, h3⟩
theorem c_String_coder {a : Nat} {va : Value} {e : List Value} (ha : xr G h a k_String (va :: .int 0 :: e)) : XM l G d M_String_coder [.ref a] h c n (xSame (.int 0) h c n) := by
  refine XM.of (by decide +kernel) (Nat.le_of_ble_eq_true rfl) ?_
  refine x_gets xw_429 (List.mem_of_getElem? (i := 0) rfl) d_String_coder_0 ?_
  refine x_if_eq (tgt := 13) d_String_coder_3 (by decide) (fun ht => absurd ht (by decide)) (fun _ => ?_)
  refine x_aload_n d_String_coder_6 rfl rfl ?_
  refine x_get xf_String_15_String ha rfl d_String_coder_7 ?_
  refine x_goto (tgt := 14) d_String_coder_10 (by decide) ?_
  refine x_zret d_String_coder_14 rfl rfl ?_
  exact ⟨rfl, rfl, rfl, rfl⟩
theorem c_String_isLatin1 {a : Nat} {va : Value} {e : List Value} (ha : xr G h a k_String (va :: .int 0 :: e)) : XM l G d M_String_isLatin1 [.ref a] h c n (xSame (.int 1) h c n) := by
  refine XM.of (by decide +kernel) (Nat.le_of_ble_eq_true rfl) ?_
  refine x_gets xw_429 (List.mem_of_getElem? (i := 0) rfl) d_String_isLatin1_0 ?_
  refine x_if_eq (tgt := 17) d_String_isLatin1_3 (by decide) (fun ht => absurd ht (by decide)) (fun _ => ?_)
  refine x_aload_n d_String_isLatin1_6 rfl rfl ?_
  refine x_get xf_String_15_String ha rfl d_String_isLatin1_7 ?_
  refine x_if_ne (tgt := 17) d_String_isLatin1_10 (by decide) (fun ht => absurd (by decide) ht) (fun _ => ?_)
  refine x_iconst (v := 1) d_String_isLatin1_13 (by decide) ?_
  refine x_goto (tgt := 18) d_String_isLatin1_14 (by decide) ?_
  refine x_zret d_String_isLatin1_18 rfl rfl ?_
  exact ⟨rfl, rfl, rfl, rfl⟩
theorem c_String_length (hd : 1 ≤ d) {a : Nat} {t : List Nat} (hS : isS G h a t) : XM l G d M_String_length [.ref a] h c n (xSame (.int (nI t.length)) h c n) := by
  obtain ⟨d, rfl⟩ : ∃ q, d = q + 1 := ⟨d - 1, by omega⟩
  obtain ⟨va, e, ha, hv, hat⟩ := hS
  refine XM.of (by decide +kernel) (Nat.le_of_ble_eq_true rfl) ?_
  refine x_aload_n d_String_length_0 rfl rfl ?_
  refine x_get xf_String_9_String ha rfl d_String_length_1 ?_
  refine x_alen (k := k_asbyte) rfl hv (v := nI t.length) (by rw [xby_len]; rfl) d_String_length_4 ?_
  refine x_aload_n d_String_length_5 rfl rfl ?_
  refine x_callV (As := []) (k := k_String) rfl xcv_String_335_String ha (c_String_coder ha) rfl rfl (Nat.le_of_ble_eq_true rfl) d_String_length_6 ?_
  rintro v h' c' n' ⟨rfl, rfl, rfl, rfl⟩
  refine x_ishr d_String_length_9 ?_
  refine x_top (w := .int (nI t.length)) (by rw [sb_shr0]) ?_
  refine x_iret d_String_length_10 rfl ?_
  exact ⟨rfl, rfl, rfl, rfl⟩
theorem c_String_isEmpty {a : Nat} {t : List Nat} (hS : isS G h a t) (hl : t.length < 2 ^ 31) : XM l G d M_String_isEmpty [.ref a] h c n (xSame (.int (if t = [] then 1 else 0)) h c n) := by
  obtain ⟨va, e, ha, hv, hat⟩ := hS
  refine XM.of (by decide +kernel) (Nat.le_of_ble_eq_true rfl) ?_
  refine x_aload_n d_String_isEmpty_0 rfl rfl ?_
  refine x_get xf_String_9_String ha rfl d_String_isEmpty_1 ?_
  refine x_alen (k := k_asbyte) rfl hv (v := nI t.length) (by rw [xby_len]; rfl) d_String_isEmpty_4 ?_
  cases ht : t with
  | nil =>
    subst ht
    refine x_if_ne (tgt := 12) d_String_isEmpty_5 (by decide) (fun ht => absurd (by rfl) ht) (fun _ => ?_)
    refine x_iconst (v := 1) d_String_isEmpty_8 (by decide) ?_
    refine x_goto (tgt := 13) d_String_isEmpty_9 (by decide) ?_
    refine x_zret d_String_isEmpty_13 rfl rfl ?_
    exact ⟨rfl, rfl, rfl, rfl⟩
  | cons x xs =>
    subst ht
    refine x_if_ne (tgt := 12) d_String_isEmpty_5 (by decide) (fun _ => ?_) (fun hn => absurd hn (nI_ne0 (by simp) hl))
    refine x_iconst (v := 0) d_String_isEmpty_12 (by decide) ?_
    refine x_zret d_String_isEmpty_13 rfl rfl ?_
    exact ⟨rfl, rfl, rfl, rfl⟩
theorem c_checkIndex {i m : Nat} {w : Value} (hw : xisr w = true) (hi : i < m) (hm : m < 2 ^ 31) : XM l G d M_Preconditions_checkIndex [.int (nI i), .int (nI m), w] h c n (xSame (.int (nI i)) h c n) := by
  rcases xisr_or hw with rfl | ⟨a, rfl⟩
  · refine XM.of (by decide +kernel) (Nat.le_of_ble_eq_true rfl) ?_
    refine x_iload_n d_Preconditions_checkIndex_0 rfl ?_
    refine x_if_lt (tgt := 9) d_Preconditions_checkIndex_1 (by decide) (fun ht => absurd ht (nI_pos (by omega))) (fun _ => ?_)
    refine x_iload_n d_Preconditions_checkIndex_4 rfl ?_
    refine x_iload_n d_Preconditions_checkIndex_5 rfl ?_
    refine x_icmp_lt (tgt := 16) d_Preconditions_checkIndex_6 (by decide) (fun _ => ?_) (fun hn => absurd (nI_lt hi hm) hn)
    refine x_iload_n d_Preconditions_checkIndex_16 rfl ?_
    refine x_iret d_Preconditions_checkIndex_17 rfl ?_
    exact ⟨rfl, rfl, rfl, rfl⟩
  · refine XM.of (by decide +kernel) (Nat.le_of_ble_eq_true rfl) ?_
    refine x_iload_n d_Preconditions_checkIndex_0 rfl ?_
    refine x_if_lt (tgt := 9) d_Preconditions_checkIndex_1 (by decide) (fun ht => absurd ht (nI_pos (by omega))) (fun _ => ?_)
    refine x_iload_n d_Preconditions_checkIndex_4 rfl ?_
    refine x_iload_n d_Preconditions_checkIndex_5 rfl ?_
    refine x_icmp_lt (tgt := 16) d_Preconditions_checkIndex_6 (by decide) (fun _ => ?_) (fun hn => absurd (nI_lt hi hm) hn)
    refine x_iload_n d_Preconditions_checkIndex_16 rfl ?_
    refine x_iret d_Preconditions_checkIndex_17 rfl ?_
    exact ⟨rfl, rfl, rfl, rfl⟩
theorem c_String_checkIndex (hG : xGk G) (hd : 1 ≤ d) {i m : Nat} (hi : i < m) (hm : m < 2 ^ 31) : XM l G d M_String_checkIndex [.int (nI i), .int (nI m)] h c n (xVoid h c n) := by
  obtain ⟨d, rfl⟩ : ∃ q, d = q + 1 := ⟨d - 1, by omega⟩
  refine XM.of (by decide +kernel) (Nat.le_of_ble_eq_true rfl) ?_
  refine x_iload_n d_String_checkIndex_0 rfl ?_
  refine x_iload_n d_String_checkIndex_1 rfl ?_
  refine x_gets xw_248 (List.mem_of_getElem? (i := 5) rfl) d_String_checkIndex_2 ?_
  refine x_callS (As := [_, _, _]) xcs_String_1059 (c_checkIndex (hG.1 0) hi hm) rfl rfl (Nat.le_of_ble_eq_true rfl) d_String_checkIndex_5 ?_
  rintro v h' c' n' ⟨rfl, rfl, rfl, rfl⟩
  refine x_pop d_String_checkIndex_8 rfl ?_
  refine x_vret d_String_checkIndex_9 rfl ?_
  exact ⟨rfl, rfl, rfl, rfl⟩
theorem xby_at {t : List Nat} {i : Nat} (hi : i < t.length) : (xby t)[i]? = some (.int (nI t[i])) := by
  unfold xby
  rw [List.getElem?_map, List.getElem?_eq_getElem hi]
  rfl
theorem c_SL1_charAt (hG : xGk G) (hd : 2 ≤ d) {va i : Nat} {t : List Nat} (hv : xr G h va k_asbyte (xby t)) (hat : xasc t) (hi : i < t.length) (hl : t.length < 2 ^ 31) : XM l G d M_SL1_charAt [.ref va, .int (nI i)] h c n (xSame (.int (nI t[i])) h c n) := by
  obtain ⟨d, rfl⟩ : ∃ q, d = q + 1 := ⟨d - 1, by omega⟩
  obtain ⟨-, -, -, f4, f5⟩ := xfit1 t[i] (hat _ (List.getElem_mem hi))
  refine XM.of (by decide +kernel) (Nat.le_of_ble_eq_true rfl) ?_
  refine x_iload_n d_SL1_charAt_0 rfl ?_
  refine x_aload_n d_SL1_charAt_1 rfl rfl ?_
  refine x_alen (k := k_asbyte) rfl hv (v := nI t.length) (by rw [xby_len]; rfl) d_SL1_charAt_2 ?_
  refine x_callS (As := [_, _]) xcs_SL1_9 (c_String_checkIndex hG (by omega) hi hl) rfl rfl (Nat.le_of_ble_eq_true rfl) d_SL1_charAt_3 ?_
  rintro v h' c' n' ⟨rfl, rfl, rfl, rfl⟩
  refine x_aload_n d_SL1_charAt_6 rfl rfl ?_
  refine x_iload_n d_SL1_charAt_7 rfl ?_
  refine x_bald (k := k_asbyte) rfl hv (nI_pos (by omega)) (by rw [nI_clamp (by omega)]; exact xby_at hi) d_SL1_charAt_8 ?_
  refine x_sipush (v := 255) d_SL1_charAt_9 (by decide) ?_
  refine x_iand d_SL1_charAt_12 ?_
  refine x_top (w := .int (nI t[i])) (by rw [f4]) ?_
  refine x_i2c d_SL1_charAt_13 ?_
  refine x_top (w := .int (nI t[i])) (by rw [f5]) ?_
  refine x_zret d_SL1_charAt_14 rfl (by show Value.int _ = _; rw [← lg_i2c_nf, f5]) ?_
  exact ⟨rfl, rfl, rfl, rfl⟩
theorem c_String_charAt (hG : xGk G) (hd : 3 ≤ d) {a i : Nat} {t : List Nat} (hS : isS G h a t) (hi : i < t.length) (hl : t.length < 2 ^ 31) : XM l G d M_String_charAt [.ref a, .int (nI i)] h c n (xSame (.int (nI t[i])) h c n) := by
  obtain ⟨d, rfl⟩ : ∃ q, d = q + 1 := ⟨d - 1, by omega⟩
  obtain ⟨va, e, ha, hv, hat⟩ := hS
  obtain ⟨-, -, -, f4, f5⟩ := xfit1 t[i] (hat _ (List.getElem_mem hi))
  refine XM.of (by decide +kernel) (Nat.le_of_ble_eq_true rfl) ?_
  refine x_aload_n d_String_charAt_0 rfl rfl ?_
  refine x_callV (As := []) (k := k_String) rfl xcv_String_492_String ha (c_String_isLatin1 ha) rfl rfl (Nat.le_of_ble_eq_true rfl) d_String_charAt_1 ?_
  rintro v h' c' n' ⟨rfl, rfl, rfl, rfl⟩
  refine x_if_eq (tgt := 16) d_String_charAt_4 (by decide) (fun ht => absurd ht (by decide)) (fun _ => ?_)
  refine x_aload_n d_String_charAt_7 rfl rfl ?_
  refine x_get xf_String_9_String ha rfl d_String_charAt_8 ?_
  refine x_iload_n d_String_charAt_11 rfl ?_
  refine x_callS (As := [_, _]) xcs_String_495 (c_SL1_charAt hG (by omega) hv hat hi hl) rfl rfl (Nat.le_of_ble_eq_true rfl) d_String_charAt_12 ?_
  rintro v h' c' n' ⟨rfl, rfl, rfl, rfl⟩
  refine x_zret d_String_charAt_15 rfl (by show Value.int _ = _; rw [← lg_i2c_nf, f5]) ?_
  exact ⟨rfl, rfl, rfl, rfl⟩
end ST1
