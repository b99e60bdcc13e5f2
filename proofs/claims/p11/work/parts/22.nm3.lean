section
abbrev y_Name_levelOf : MethodName := ⟨"MarkerText$Name", "levelOf", "(Ljava/lang/String;II)J"⟩
abbrev M_Name_levelOf : XMt := (y_Name_levelOf, prog_6_method_4_code, 4, (some .long))
theorem d_Name_levelOf_0 : decode M_Name_levelOf.2.1 0 = .ok (.aload_n 0, 1) := by decide +kernel
theorem d_Name_levelOf_1 : decode M_Name_levelOf.2.1 1 = .ok (.getfield 23, 3) := by decide +kernel
theorem xw_722 : (Jvm.Cond.fieldLink "MarkerText$Name" (23 : Nat) "MarkerText$Name" "kind" "I") ∈ xT := xT_at 722 (by decide +kernel) (by decide +kernel)
theorem xf_Name_23_Name : xF "MarkerText$Name" 23 k_Name 1 := ⟨_, _, _, "MarkerText$Name", rfl, by decide, Or.inl xw_722, Or.inl rfl⟩
theorem d_Name_levelOf_4 : decode M_Name_levelOf.2.1 4 = .ok (.iconst 1, 1) := by decide +kernel
theorem d_Name_levelOf_5 : decode M_Name_levelOf.2.1 5 = .ok (.if_icmp .ne 12, 3) := by decide +kernel
theorem d_Name_levelOf_8 : decode M_Name_levelOf.2.1 8 = .ok (.aload_n 1, 1) := by decide +kernel
theorem d_Name_levelOf_9 : decode M_Name_levelOf.2.1 9 = .ok (.iload_n 2, 1) := by decide +kernel
theorem d_Name_levelOf_10 : decode M_Name_levelOf.2.1 10 = .ok (.iload_n 3, 1) := by decide +kernel
theorem d_Name_levelOf_11 : decode M_Name_levelOf.2.1 11 = .ok (.invokestatic 26, 3) := by decide +kernel
theorem xw_751 : (Jvm.Cond.code ({ cls := "MarkerText$Name", name := "versionLevel", desc := "(Ljava/lang/String;II)J" } : Jvm.MethodName) prog_6_method_6_code (10 : Nat) (Option.some Jvm.ClassFile.FieldType.long)) ∈ xT := xT_at 751 (by decide +kernel) (by decide +kernel)
theorem xw_21 : (Jvm.Cond.initialized "MarkerText$Name") ∈ xT := xT_at 21 (by decide +kernel) (by decide +kernel)
theorem xcb_Name_versionLevel : xcb M_Name_versionLevel 3 := ⟨xw_751, xw_21, by decide, by decide, by decide, by decide +kernel⟩
theorem xw_749 : (Jvm.Cond.methodLink "MarkerText$Name" (26 : Nat) ({ cls := "MarkerText$Name", name := "versionLevel", desc := "(Ljava/lang/String;II)J" } : Jvm.MethodName)) ∈ xT := xT_at 749 (by decide +kernel) (by decide +kernel)
theorem xw_750 : (Jvm.Cond.static ({ cls := "MarkerText$Name", name := "versionLevel", desc := "(Ljava/lang/String;II)J" } : Jvm.MethodName)) ∈ xT := xT_at 750 (by decide +kernel) (by decide +kernel)
theorem xcs_Name_26 : xCS "MarkerText$Name" 26 M_Name_versionLevel 3 := ⟨xcb_Name_versionLevel, xw_750, Or.inl xw_749⟩
theorem d_Name_levelOf_14 : decode M_Name_levelOf.2.1 14 = .ok (.goto 9, 3) := by decide +kernel
theorem d_Name_levelOf_23 : decode M_Name_levelOf.2.1 23 = .ok (.lreturn, 1) := by decide +kernel
theorem d_Name_levelOf_17 : decode M_Name_levelOf.2.1 17 = .ok (.aload_n 1, 1) := by decide +kernel
theorem d_Name_levelOf_18 : decode M_Name_levelOf.2.1 18 = .ok (.iload_n 2, 1) := by decide +kernel
theorem d_Name_levelOf_19 : decode M_Name_levelOf.2.1 19 = .ok (.iload_n 3, 1) := by decide +kernel
theorem d_Name_levelOf_20 : decode M_Name_levelOf.2.1 20 = .ok (.invokestatic 30, 3) := by decide +kernel
theorem xw_757 : (Jvm.Cond.code ({ cls := "MarkerText$Name", name := "textLevel", desc := "(Ljava/lang/String;II)J" } : Jvm.MethodName) prog_6_method_5_code (8 : Nat) (Option.some Jvm.ClassFile.FieldType.long)) ∈ xT := xT_at 757 (by decide +kernel) (by decide +kernel)
theorem xcb_Name_textLevel : xcb M_Name_textLevel 3 := ⟨xw_757, xw_21, by decide, by decide, by decide, by decide +kernel⟩
theorem xw_755 : (Jvm.Cond.methodLink "MarkerText$Name" (30 : Nat) ({ cls := "MarkerText$Name", name := "textLevel", desc := "(Ljava/lang/String;II)J" } : Jvm.MethodName)) ∈ xT := xT_at 755 (by decide +kernel) (by decide +kernel)
theorem xw_756 : (Jvm.Cond.static ({ cls := "MarkerText$Name", name := "textLevel", desc := "(Ljava/lang/String;II)J" } : Jvm.MethodName)) ∈ xT := xT_at 756 (by decide +kernel) (by decide +kernel)
theorem xcs_Name_30 : xCS "MarkerText$Name" 30 M_Name_textLevel 3 := ⟨xcb_Name_textLevel, xw_756, Or.inl xw_755⟩
abbrev y_Name_knows : MethodName := ⟨"MarkerText$Name", "knows", "(J)Z"⟩
abbrev M_Name_knows : XMt := (y_Name_knows, prog_6_method_2_code, 4, (some .boolean))
theorem d_Name_knows_2 : decode M_Name_knows.2.1 2 = .ok (.iload_n 3, 1) := by decide +kernel
theorem d_Name_knows_3 : decode M_Name_knows.2.1 3 = .ok (.aload_n 0, 1) := by decide +kernel
theorem d_Name_knows_4 : decode M_Name_knows.2.1 4 = .ok (.getfield 15, 3) := by decide +kernel
theorem xw_725 : (Jvm.Cond.fieldLink "MarkerText$Name" (15 : Nat) "MarkerText$Name" "knownCount" "I") ∈ xT := xT_at 725 (by decide +kernel) (by decide +kernel)
theorem xf_Name_15_Name : xF "MarkerText$Name" 15 k_Name 3 := ⟨_, _, _, "MarkerText$Name", rfl, by decide, Or.inl xw_725, Or.inl rfl⟩
theorem d_Name_knows_7 : decode M_Name_knows.2.1 7 = .ok (.if_icmp .ge 22, 3) := by decide +kernel
theorem d_Name_knows_29 : decode M_Name_knows.2.1 29 = .ok (.iconst 0, 1) := by decide +kernel
theorem d_Name_knows_30 : decode M_Name_knows.2.1 30 = .ok (.ireturn, 1) := by decide +kernel
theorem d_Name_knows_10 : decode M_Name_knows.2.1 10 = .ok (.aload_n 0, 1) := by decide +kernel
theorem d_Name_knows_11 : decode M_Name_knows.2.1 11 = .ok (.getfield 9, 3) := by decide +kernel
theorem xw_723 : (Jvm.Cond.fieldLink "MarkerText$Name" (9 : Nat) "MarkerText$Name" "known" "[J") ∈ xT := xT_at 723 (by decide +kernel) (by decide +kernel)
theorem xf_Name_9_Name : xF "MarkerText$Name" 9 k_Name 2 := ⟨_, _, _, "MarkerText$Name", rfl, by decide, Or.inl xw_723, Or.inl rfl⟩
theorem d_Name_knows_14 : decode M_Name_knows.2.1 14 = .ok (.iload_n 3, 1) := by decide +kernel
theorem d_Name_knows_15 : decode M_Name_knows.2.1 15 = .ok (.laload, 1) := by decide +kernel
theorem d_Name_knows_16 : decode M_Name_knows.2.1 16 = .ok (.lload_n 1, 1) := by decide +kernel
theorem d_Name_knows_17 : decode M_Name_knows.2.1 17 = .ok (.lcmp, 1) := by decide +kernel
theorem d_Name_knows_18 : decode M_Name_knows.2.1 18 = .ok (.ifCond .ne 5, 3) := by decide +kernel
theorem d_Name_knows_21 : decode M_Name_knows.2.1 21 = .ok (.iconst 1, 1) := by decide +kernel
theorem d_Name_knows_22 : decode M_Name_knows.2.1 22 = .ok (.ireturn, 1) := by decide +kernel
theorem d_Name_knows_23 : decode M_Name_knows.2.1 23 = .ok (.iinc 3 1, 3) := by decide +kernel
theorem d_Name_knows_26 : decode M_Name_knows.2.1 26 = .ok (.goto (-24), 3) := by decide +kernel
theorem d_Name_knows_0 : decode M_Name_knows.2.1 0 = .ok (.iconst 0, 1) := by decide +kernel
theorem d_Name_knows_1 : decode M_Name_knows.2.1 1 = .ok (.istore_n 3, 1) := by decide +kernel
abbrev y_Name_learn : MethodName := ⟨"MarkerText$Name", "learn", "(J)V"⟩
abbrev M_Name_learn : XMt := (y_Name_learn, prog_6_method_3_code, 3, none)
theorem d_Name_learn_0 : decode M_Name_learn.2.1 0 = .ok (.aload_n 0, 1) := by decide +kernel
theorem d_Name_learn_1 : decode M_Name_learn.2.1 1 = .ok (.getfield 15, 3) := by decide +kernel
theorem d_Name_learn_4 : decode M_Name_learn.2.1 4 = .ok (.bipush 6, 2) := by decide +kernel
theorem d_Name_learn_6 : decode M_Name_learn.2.1 6 = .ok (.if_icmp .ge 23, 3) := by decide +kernel
theorem d_Name_learn_9 : decode M_Name_learn.2.1 9 = .ok (.aload_n 0, 1) := by decide +kernel
theorem d_Name_learn_10 : decode M_Name_learn.2.1 10 = .ok (.getfield 9, 3) := by decide +kernel
theorem d_Name_learn_13 : decode M_Name_learn.2.1 13 = .ok (.aload_n 0, 1) := by decide +kernel
theorem d_Name_learn_14 : decode M_Name_learn.2.1 14 = .ok (.getfield 15, 3) := by decide +kernel
theorem d_Name_learn_17 : decode M_Name_learn.2.1 17 = .ok (.lload_n 1, 1) := by decide +kernel
theorem d_Name_learn_18 : decode M_Name_learn.2.1 18 = .ok (.lastore, 1) := by decide +kernel
theorem d_Name_learn_19 : decode M_Name_learn.2.1 19 = .ok (.aload_n 0, 1) := by decide +kernel
theorem d_Name_learn_20 : decode M_Name_learn.2.1 20 = .ok (.dup, 1) := by decide +kernel
theorem d_Name_learn_21 : decode M_Name_learn.2.1 21 = .ok (.getfield 15, 3) := by decide +kernel
theorem d_Name_learn_24 : decode M_Name_learn.2.1 24 = .ok (.iconst 1, 1) := by decide +kernel
theorem d_Name_learn_25 : decode M_Name_learn.2.1 25 = .ok (.iadd, 1) := by decide +kernel
theorem d_Name_learn_26 : decode M_Name_learn.2.1 26 = .ok (.putfield 15, 3) := by decide +kernel
theorem xp_Name_3 : xP k_Name 3 false .int := ⟨_, _, _, rfl, rfl, by decide +kernel⟩
theorem d_Name_learn_29 : decode M_Name_learn.2.1 29 = .ok (.return_, 1) := by decide +kernel
abbrev y_Name_init : MethodName := ⟨"MarkerText$Name", "<init>", "(Ljava/lang/String;I)V"⟩
abbrev M_Name_init : XMt := (y_Name_init, prog_6_method_1_code, 3, none)
theorem d_Name_init_0 : decode M_Name_init.2.1 0 = .ok (.aload_n 0, 1) := by decide +kernel
theorem d_Name_init_1 : decode M_Name_init.2.1 1 = .ok (.invokespecial 3, 3) := by decide +kernel
theorem xw_718 : (Jvm.Cond.methodLink "MarkerText$Name" (3 : Nat) ({ cls := "java/lang/Object", name := "<init>", desc := "()V" } : Jvm.MethodName)) ∈ xT := xT_at 718 (by decide +kernel) (by decide +kernel)
theorem d_Name_init_4 : decode M_Name_init.2.1 4 = .ok (.aload_n 0, 1) := by decide +kernel
theorem d_Name_init_5 : decode M_Name_init.2.1 5 = .ok (.bipush 6, 2) := by decide +kernel
theorem d_Name_init_7 : decode M_Name_init.2.1 7 = .ok (.newarray .long, 2) := by decide +kernel
theorem xw_110 : (Jvm.Cond.arrayClass Jvm.ClassFile.FieldType.long) ∈ xT := xT_at 110 (by decide +kernel) (by decide +kernel)
theorem d_Name_init_9 : decode M_Name_init.2.1 9 = .ok (.putfield 9, 3) := by decide +kernel
theorem xp_Name_2 : xP k_Name 2 true (.array .long) := ⟨_, _, _, rfl, rfl, by decide +kernel⟩
theorem d_Name_init_12 : decode M_Name_init.2.1 12 = .ok (.aload_n 0, 1) := by decide +kernel
theorem d_Name_init_13 : decode M_Name_init.2.1 13 = .ok (.iconst 0, 1) := by decide +kernel
theorem d_Name_init_14 : decode M_Name_init.2.1 14 = .ok (.putfield 15, 3) := by decide +kernel
theorem d_Name_init_17 : decode M_Name_init.2.1 17 = .ok (.aload_n 0, 1) := by decide +kernel
theorem d_Name_init_18 : decode M_Name_init.2.1 18 = .ok (.aload_n 1, 1) := by decide +kernel
theorem d_Name_init_19 : decode M_Name_init.2.1 19 = .ok (.putfield 19, 3) := by decide +kernel
theorem xw_719 : (Jvm.Cond.fieldLink "MarkerText$Name" (19 : Nat) "MarkerText$Name" "spelling" "Ljava/lang/String;") ∈ xT := xT_at 719 (by decide +kernel) (by decide +kernel)
theorem xf_Name_19_Name : xF "MarkerText$Name" 19 k_Name 0 := ⟨_, _, _, "MarkerText$Name", rfl, by decide, Or.inl xw_719, Or.inl rfl⟩
theorem xp_Name_0 : xP k_Name 0 true (.object "java/lang/String") := ⟨_, _, _, rfl, rfl, by decide +kernel⟩
theorem d_Name_init_22 : decode M_Name_init.2.1 22 = .ok (.aload_n 0, 1) := by decide +kernel
theorem d_Name_init_23 : decode M_Name_init.2.1 23 = .ok (.iload_n 2, 1) := by decide +kernel
theorem d_Name_init_24 : decode M_Name_init.2.1 24 = .ok (.putfield 23, 3) := by decide +kernel
theorem xp_Name_1 : xP k_Name 1 true .int := ⟨_, _, _, rfl, rfl, by decide +kernel⟩
theorem d_Name_init_27 : decode M_Name_init.2.1 27 = .ok (.return_, 1) := by decide +kernel
abbrev y_MT_isLetter : MethodName := ⟨"MarkerText", "isLetter", "(C)Z"⟩
abbrev M_MT_isLetter : XMt := (y_MT_isLetter, prog_1_method_22_code, 1, (some .boolean))
theorem d_MT_isLetter_0 : decode M_MT_isLetter.2.1 0 = .ok (.iload_n 0, 1) := by decide +kernel
theorem d_MT_isLetter_1 : decode M_MT_isLetter.2.1 1 = .ok (.bipush 97, 2) := by decide +kernel
theorem d_MT_isLetter_3 : decode M_MT_isLetter.2.1 3 = .ok (.if_icmp .lt 13, 3) := by decide +kernel
theorem d_MT_isLetter_6 : decode M_MT_isLetter.2.1 6 = .ok (.iload_n 0, 1) := by decide +kernel
theorem d_MT_isLetter_7 : decode M_MT_isLetter.2.1 7 = .ok (.bipush 122, 2) := by decide +kernel
theorem d_MT_isLetter_9 : decode M_MT_isLetter.2.1 9 = .ok (.if_icmp .gt 7, 3) := by decide +kernel
theorem d_MT_isLetter_12 : decode M_MT_isLetter.2.1 12 = .ok (.iconst 1, 1) := by decide +kernel
theorem d_MT_isLetter_13 : decode M_MT_isLetter.2.1 13 = .ok (.goto 4, 3) := by decide +kernel
theorem d_MT_isLetter_17 : decode M_MT_isLetter.2.1 17 = .ok (.ireturn, 1) := by decide +kernel
theorem d_MT_isLetter_16 : decode M_MT_isLetter.2.1 16 = .ok (.iconst 0, 1) := by decide +kernel
end
section NM3
variable {l : Launch} {G : XG} {h : XH} {c n d : Nat}
/-- the level of a VALUE of a KIND -/
def klv (kd : Nat) (u : List Nat) : Nat := if kd = 1 then vsl u else txl u
theorem xno1 {a k : Nat} {vs : List Value} {ks : List Nat} (ha : h a = some (k, vs)) (hk : k ∉ ks) : xno h [a] ks := by
  intro q hq e he
  rw [List.mem_singleton] at hq
  subst hq
  rw [ha] at he
  cases he
  exact hk
theorem xno.ap {F F' ks : List Nat} (h1 : xno h F ks) (h2 : xno h F' ks) : xno h (F ++ F') ks := by
  intro q hq e he
  rcases List.mem_append.mp hq with z | z
  · exact h1 q z e he
  · exact h2 q z e he
theorem xno2 {a b k k' : Nat} {vs vs' : List Value} {ks : List Nat} (ha : h a = some (k, vs)) (hb : h b = some (k', vs')) (hk : k ∉ ks) (hk' : k' ∉ ks) : xno h [a, b] ks := (xno1 ha hk).ap (xno1 hb hk')
/-- two cells of two kinds are two -/
theorem xne {a b k k' : Nat} {vs vs' : List Value} (ha : h a = some (k, vs)) (hb : h b = some (k', vs')) (hk : k ≠ k') : a ≠ b := fun e => by
  rw [e, hb] at ha
  cases ha
  exact hk rfl
theorem xneN {a b k : Nat} {vs : List Value} (ha : h a = some (k, vs)) (hb : h b = none) : a ≠ b := fun e => by rw [e, hb] at ha; cases ha
/-- an array of levels, filled up with 0 -/
def xlv (N : Nat) (ks : List Nat) : List Value := ks.map (fun v => .long (lN v)) ++ List.replicate (N - ks.length) (.long 0)
theorem xlv_at {N i : Nat} {ks : List Nat} (hi : i < ks.length) : (xlv N ks)[i]? = some (.long (lN ks[i])) := by
  unfold xlv
  rw [List.getElem?_append_left (by simpa using hi), List.getElem?_map, List.getElem?_eq_getElem hi]
  rfl
theorem xlv_push {N v : Nat} {ks : List Nat} (hi : ks.length < N) : (xlv N ks).set ks.length (.long (lN v)) = xlv N (ks ++ [v]) := by
  unfold xlv
  rw [List.set_append_right _ _ (by simp)]
  obtain ⟨k, hk⟩ : ∃ k, N - ks.length = k + 1 := ⟨N - ks.length - 1, by omega⟩
  rw [List.length_map, Nat.sub_self, hk, List.replicate_succ, List.set_cons_zero, List.map_append, List.length_append, List.length_singleton, show N - (ks.length + 1) = k by omega, List.append_assoc]
  rfl
theorem xlv_end {N : Nat} {ks : List Nat} (hi : ks.length < N) : (xlv N ks)[ks.length]? = some (.long 0) := by
  unfold xlv
  rw [List.getElem?_append_right (by simp), List.length_map, Nat.sub_self, List.getElem?_replicate, if_pos (by omega)]
/-- a Name: its spelling, KIND and levels that are known -/
def isN (G : XG) (h : XH) (a ka : Nat) (w : List Nat) (kd : Nat) (ks : List Nat) : Prop := ∃ sa, h a = some (k_Name, [.ref sa, .int (nI kd), .ref ka, .int (nI ks.length)]) ∧ isS G h sa w ∧ h ka = some (k_aknown, xlv 6 ks) ∧ ks.length ≤ 6 ∧ kd < 2 ∧ ∀ v ∈ ks, v < 2 ^ 63
theorem isN.fr {h' : XH} {F : List Nat} {a ka kd : Nat} {w ks : List Nat} (hN : isN G h a ka w kd ks) (hf : xfr h h' F) (hn : xno h F [k_String, k_asbyte]) (h1 : a ∉ F) (h2 : ka ∉ F) : isN G h' a ka w kd ks := by
  obtain ⟨sa, e1, e2, e3, e4⟩ := hN
  exact ⟨sa, hf.1 _ _ e1 h1, e2.fr hf hn, hf.1 _ _ e3 h2, e4⟩
theorem c_levelOf (hG : xGk G) (hd : 5 ≤ d) {o ka a f m kd : Nat} {t w ks : List Nat} (hN : isN G h o ka w kd ks) (hS : isS G h a t) (hm : f + m ≤ t.length) (hl : t.length < 2 ^ 20) : XM l G d M_Name_levelOf [.ref o, .ref a, .int (nI f), .int (nI (f + m))] h c n (xSame (.long (lN (klv kd ((t.drop f).take m)))) h c n) := by
  obtain ⟨d, rfl⟩ : ∃ q, d = q + 1 := ⟨d - 1, by omega⟩
  obtain ⟨sa, ho, -, -, -, hkd, -⟩ := hN
  refine XM.of (by decide +kernel) (Nat.le_of_ble_eq_true rfl) ?_
  refine x_aload_n d_Name_levelOf_0 rfl rfl ?_
  refine x_get xf_Name_23_Name (Or.inl ho) rfl d_Name_levelOf_1 ?_
  refine x_iconst (v := 1) d_Name_levelOf_4 (by decide) ?_
  unfold klv
  by_cases h1 : kd = 1
  · subst h1
    rw [if_pos rfl]
    refine x_icmp_ne (tgt := 17) d_Name_levelOf_5 (by decide) (fun ht => absurd rfl ht) (fun _ => ?_)
    refine x_aload_n d_Name_levelOf_8 rfl rfl ?_
    refine x_iload_n d_Name_levelOf_9 rfl ?_
    refine x_iload_n d_Name_levelOf_10 rfl ?_
    refine x_callS (As := [_, _, _]) xcs_Name_26 (c_versionLevel hG (by omega) hS hm hl) rfl rfl (Nat.le_of_ble_eq_true rfl) d_Name_levelOf_11 ?_
    rintro v h' c' n' ⟨rfl, rfl, rfl, rfl⟩
    refine x_goto (tgt := 23) d_Name_levelOf_14 (by decide) ?_
    refine x_lret d_Name_levelOf_23 rfl ?_
    exact ⟨rfl, rfl, rfl, rfl⟩
  · rw [if_neg h1]
    refine x_icmp_ne (tgt := 17) d_Name_levelOf_5 (by decide) (fun _ => ?_) (fun hn => absurd hn (fun z => h1 ((nI_eq (b := 1) (by omega) (by omega)).mp z)))
    refine x_aload_n d_Name_levelOf_17 rfl rfl ?_
    refine x_iload_n d_Name_levelOf_18 rfl ?_
    refine x_iload_n d_Name_levelOf_19 rfl ?_
    refine x_callS (As := [_, _, _]) xcs_Name_30 (c_textLevel hG (by omega) hS hm hl) rfl rfl (Nat.le_of_ble_eq_true rfl) d_Name_levelOf_20 ?_
    rintro v h' c' n' ⟨rfl, rfl, rfl, rfl⟩
    refine x_lret d_Name_levelOf_23 rfl ?_
    exact ⟨rfl, rfl, rfl, rfl⟩
theorem c_knows {o ka v kd : Nat} {w ks : List Nat} (hN : isN G h o ka w kd ks) (hv : v < 2 ^ 63) : XM l G d M_Name_knows [.ref o, .long (lN v)] h c n (xSame (.int (if v ∈ ks then 1 else 0)) h c n) := by
  obtain ⟨sa, ho, -, hka, hl, -, hb⟩ := hN
  refine XM.of (by decide +kernel) (Nat.le_of_ble_eq_true rfl) ?_
  have lp : ∀ (k i : Nat), i + k = ks.length → (∀ j (hj : j < ks.length), j < i → ks[j] ≠ v) → XW l G M_Name_knows d 2 [some (.ref o), some (.long (lN v)), none, some (.int (nI i))] [] h c n (xSame (.int (if v ∈ ks then 1 else 0)) h c n) := by
    intro k
    induction k with
    | zero =>
      intro i hi hj
      have hno : v ∉ ks := fun z => by
        obtain ⟨j, h1, h2⟩ := List.getElem_of_mem z
        exact hj j h1 (by omega) h2
      rw [if_neg hno]
      refine x_iload_n d_Name_knows_2 rfl ?_
      refine x_aload_n d_Name_knows_3 rfl rfl ?_
      refine x_get xf_Name_15_Name (Or.inl ho) rfl d_Name_knows_4 ?_
      refine x_icmp_ge (tgt := 29) d_Name_knows_7 (by decide) (fun _ => ?_) (fun hn => absurd (nI_le (by omega) (by omega)) hn)
      refine x_iconst (v := 0) d_Name_knows_29 (by decide) ?_
      refine x_zret d_Name_knows_30 rfl rfl ?_
      exact ⟨rfl, rfl, rfl, rfl⟩
    | succ k ih =>
      intro i hi hj
      have hil : i < ks.length := by omega
      refine x_iload_n d_Name_knows_2 rfl ?_
      refine x_aload_n d_Name_knows_3 rfl rfl ?_
      refine x_get xf_Name_15_Name (Or.inl ho) rfl d_Name_knows_4 ?_
      refine x_icmp_ge (tgt := 29) d_Name_knows_7 (by decide) (fun ht => absurd ht (nI_ge (by omega) (by omega))) (fun _ => ?_)
      refine x_aload_n d_Name_knows_10 rfl rfl ?_
      refine x_get xf_Name_9_Name (Or.inl ho) rfl d_Name_knows_11 ?_
      refine x_iload_n d_Name_knows_14 rfl ?_
      refine x_lald (k := k_aknown) rfl (Or.inl hka) (nI_pos (by omega)) (by rw [nI_clamp (by omega)]; exact xlv_at hil) d_Name_knows_15 ?_
      refine x_lload_n d_Name_knows_16 rfl ?_
      refine x_lcmp d_Name_knows_17 ?_
      by_cases he : ks[i] = v
      · rw [if_pos (he ▸ List.getElem_mem hil)]
        refine x_if_ne (tgt := 23) d_Name_knows_18 (by decide) (fun ht => absurd ((lg_cmp_eq _ _).mpr (by rw [he])) ht) (fun _ => ?_)
        refine x_iconst (v := 1) d_Name_knows_21 (by decide) ?_
        refine x_zret d_Name_knows_22 rfl rfl ?_
        exact ⟨rfl, rfl, rfl, rfl⟩
      · refine x_if_ne (tgt := 23) d_Name_knows_18 (by decide) (fun _ => ?_) (fun hn => absurd hn (fun z => he ((pk_lEQ (hb _ (List.getElem_mem hil)) hv).mp ((lg_cmp_eq _ _).mp z))))
        refine x_iinc (v := nI (i + 1)) (L' := [_, _, _, _]) d_Name_knows_23 rfl (by exact xw_iinc1) rfl rfl ?_
        refine x_goto (tgt := 2) d_Name_knows_26 (by decide) ?_
        refine ih (i + 1) (by omega) (fun j h1 h2 => ?_)
        by_cases hji : j = i
        · subst hji; exact he
        · exact hj j h1 (by omega)
  refine x_iconst (v := 0) d_Name_knows_0 (by decide) ?_
  refine x_istore_n (L' := [_, _, _, _]) d_Name_knows_1 rfl rfl ?_
  exact lp ks.length 0 (by omega) (fun j h1 h2 => by omega)
theorem c_learn {o ka v kd : Nat} {w ks : List Nat} (hN : isN G h o ka w kd ks) (hv : v < 2 ^ 63) (h6 : ks.length < 6) : XM l G d M_Name_learn [.ref o, .long (lN v)] h c n (fun r h' c' n' => r = none ∧ isN G h' o ka w kd (ks ++ [v]) ∧ xfr h h' [o, ka] ∧ c' = c ∧ n' = n) := by
  obtain ⟨sa, ho, hs, hka, hl, hkd, hb⟩ := hN
  have hok : o ≠ ka := xne ho hka (by decide)
  refine XM.of (by decide +kernel) (Nat.le_of_ble_eq_true rfl) ?_
  refine x_aload_n d_Name_learn_0 rfl rfl ?_
  refine x_get xf_Name_15_Name (Or.inl ho) rfl d_Name_learn_1 ?_
  refine x_bipush (v := 6) d_Name_learn_4 (by decide) ?_
  refine x_icmp_ge (tgt := 29) d_Name_learn_6 (by decide) (fun ht => absurd ht (nI_ge (b := 6) (by omega) (by omega))) (fun _ => ?_)
  refine x_aload_n d_Name_learn_9 rfl rfl ?_
  refine x_get xf_Name_9_Name (Or.inl ho) rfl d_Name_learn_10 ?_
  refine x_aload_n d_Name_learn_13 rfl rfl ?_
  refine x_get xf_Name_15_Name (Or.inl ho) rfl d_Name_learn_14 ?_
  refine x_lload_n d_Name_learn_17 rfl ?_
  refine x_last (k := k_aknown) rfl hka (nI_pos (by omega)) (by rw [nI_clamp (by omega)]; exact xlv_end h6) d_Name_learn_18 ?_
  rw [nI_clamp (by omega), xlv_push h6]
  have ho' : xup h ka (k_aknown, xlv 6 (ks ++ [v])) o = some (k_Name, [.ref sa, .int (nI kd), .ref ka, .int (nI ks.length)]) := by rw [xup_ne hok]; exact ho
  refine x_aload_n d_Name_learn_19 rfl rfl ?_
  refine x_dup d_Name_learn_20 rfl ?_
  refine x_get xf_Name_15_Name (Or.inl ho') rfl d_Name_learn_21 ?_
  refine x_iconst (v := 1) d_Name_learn_24 (by decide) ?_
  refine x_iadd d_Name_learn_25 ?_
  refine x_top (w := .int (nI (ks ++ [v]).length)) (by rw [show (1 : Int32) = nI 1 from rfl, nI_add]; simp) ?_
  refine x_put xf_Name_15_Name xp_Name_3 rfl rfl ho' rfl rfl d_Name_learn_26 ?_
  refine x_vret d_Name_learn_29 rfl ?_
  have hf : xfr h (xup (xup h ka (k_aknown, xlv 6 (ks ++ [v]))) o (k_Name, [.ref sa, .int (nI kd), .ref ka, .int (nI (ks ++ [v]).length)])) [o, ka] := (xfr.rf.up (Or.inl (by simp))).up (Or.inl (by simp))
  refine ⟨rfl, ⟨sa, xup_self, hs.fr hf (xno2 ho hka (by decide) (by decide)), (by rw [xup_ne (Ne.symm hok), xup_self]), (by simp; omega), hkd, fun x hx => ?_⟩, hf, rfl, rfl⟩
  rcases List.mem_append.mp hx with z | z
  · exact hb x z
  · rw [List.mem_singleton] at z; rw [z]; exact hv
theorem c_Name_init (hd : 1 ≤ d) {o sa kd : Nat} {w : List Nat} (ho : h o = some (k_Name, [.null, .int 0, .null, .int 0])) (hs : isS G h sa w) (hkd : kd < 2) (hc : c + 1 ≤ xCB) (hn : n + 6 ≤ xSB) : XM l G d M_Name_init [.ref o, .ref sa, .int (nI kd)] h c n (fun r h' c' n' => r = none ∧ ∃ ka, h ka = none ∧ isN G h' o ka w kd [] ∧ xfr h h' [o] ∧ c' = c + 1 ∧ n' = n + 6) := by
  obtain ⟨d, rfl⟩ : ∃ q, d = q + 1 := ⟨d - 1, by omega⟩
  refine XM.of (by decide +kernel) (Nat.le_of_ble_eq_true rfl) ?_
  refine x_aload_n d_Name_init_0 rfl rfl ?_
  refine x_objInit xw_718 xw_40 xw_41 (Nat.le_of_ble_eq_true rfl) d_Name_init_1 ?_
  refine x_aload_n d_Name_init_4 rfl rfl ?_
  refine x_bipush (v := 6) d_Name_init_5 (by decide) ?_
  refine x_newa (k := k_aknown) rfl rfl (fun _ hz => by cases hz) xw_110 (by decide) rfl (by decide) hc hn d_Name_init_7 (fun q hn_q hk_q => ?_)
  have hoq : o ≠ q := xneN ho hn_q
  refine x_putF xf_Name_9_Name xp_Name_2 ⟨_, _, _, rfl, rfl, xw_723⟩ rfl rfl rfl (xup_old ho hn_q) rfl rfl d_Name_init_9 ?_
  refine x_aload_n d_Name_init_12 rfl rfl ?_
  refine x_iconst (v := 0) d_Name_init_13 (by decide) ?_
  refine x_put xf_Name_15_Name xp_Name_3 rfl rfl xup_self rfl rfl d_Name_init_14 ?_
  refine x_aload_n d_Name_init_17 rfl rfl ?_
  refine x_aload_n d_Name_init_18 rfl rfl ?_
  refine x_putF xf_Name_19_Name xp_Name_0 ⟨_, _, _, rfl, rfl, xw_719⟩ rfl rfl rfl xup_self rfl rfl d_Name_init_19 ?_
  refine x_aload_n d_Name_init_22 rfl rfl ?_
  refine x_iload_n d_Name_init_23 rfl ?_
  refine x_putF xf_Name_23_Name xp_Name_1 ⟨_, _, _, rfl, rfl, xw_722⟩ rfl rfl rfl xup_self rfl rfl d_Name_init_24 ?_
  refine x_vret d_Name_init_27 rfl ?_
  have hf : ∀ e, xfr h (xup (xup h q (k_aknown, List.replicate 6 (.long 0))) o e) [o] := fun e => (xfr.rf.up (Or.inr hn_q)).up (Or.inl (by simp))
  rw [xup_up, xup_up, xup_up]
  refine ⟨rfl, q, hn_q, ⟨sa, xup_self, hs.fr (hf _) (xno1 ho (by decide)), ?_, by simp, hkd, fun _ z => by cases z⟩, hf _, rfl, rfl⟩
  rw [xup_ne (Ne.symm hoq), xup_self]
  rfl
theorem c_isLetter {ch : Nat} (hch : ch < 128) : XM l G d M_MT_isLetter [.int (nI ch)] h c n (xSame (.int (if 97 ≤ ch ∧ ch ≤ 122 then 1 else 0)) h c n) := by
  refine XM.of (by decide +kernel) (Nat.le_of_ble_eq_true rfl) ?_
  by_cases g1 : 97 ≤ ch
  · by_cases g2 : ch ≤ 122
    · rw [if_pos ⟨g1, g2⟩]
      refine x_iload_n d_MT_isLetter_0 rfl ?_
      refine x_bipush (v := 97) d_MT_isLetter_1 (by decide) ?_
      refine x_icmp_lt (tgt := 16) d_MT_isLetter_3 (by decide) (fun ht => absurd ht (nI_nlt (b := 97) g1 (by omega))) (fun _ => ?_)
      refine x_iload_n d_MT_isLetter_6 rfl ?_
      refine x_bipush (v := 122) d_MT_isLetter_7 (by decide) ?_
      refine x_icmp_gt (tgt := 16) d_MT_isLetter_9 (by decide) (fun ht => absurd ht (nI_nlt (a := 122) g2 (by omega))) (fun _ => ?_)
      refine x_iconst (v := 1) d_MT_isLetter_12 (by decide) ?_
      refine x_goto (tgt := 17) d_MT_isLetter_13 (by decide) ?_
      refine x_zret d_MT_isLetter_17 rfl rfl ?_
      exact ⟨rfl, rfl, rfl, rfl⟩
    · rw [if_neg (fun z => g2 z.2)]
      refine x_iload_n d_MT_isLetter_0 rfl ?_
      refine x_bipush (v := 97) d_MT_isLetter_1 (by decide) ?_
      refine x_icmp_lt (tgt := 16) d_MT_isLetter_3 (by decide) (fun ht => absurd ht (nI_nlt (b := 97) g1 (by omega))) (fun _ => ?_)
      refine x_iload_n d_MT_isLetter_6 rfl ?_
      refine x_bipush (v := 122) d_MT_isLetter_7 (by decide) ?_
      refine x_icmp_gt (tgt := 16) d_MT_isLetter_9 (by decide) (fun _ => ?_) (fun hn => absurd (nI_lt (a := 122) (by omega) (by omega)) hn)
      refine x_iconst (v := 0) d_MT_isLetter_16 (by decide) ?_
      refine x_zret d_MT_isLetter_17 rfl rfl ?_
      exact ⟨rfl, rfl, rfl, rfl⟩
  · rw [if_neg (fun z => g1 z.1)]
    refine x_iload_n d_MT_isLetter_0 rfl ?_
    refine x_bipush (v := 97) d_MT_isLetter_1 (by decide) ?_
    refine x_icmp_lt (tgt := 16) d_MT_isLetter_3 (by decide) (fun _ => ?_) (fun hn => absurd (nI_lt (b := 97) (by omega) (by omega)) hn)
    refine x_iconst (v := 0) d_MT_isLetter_16 (by decide) ?_
    refine x_zret d_MT_isLetter_17 rfl rfl ?_
    exact ⟨rfl, rfl, rfl, rfl⟩
end NM3
