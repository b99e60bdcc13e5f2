section
abbrev y_SL1_equals : MethodName := ⟨"java/lang/StringLatin1", "equals", "([B[B)Z"⟩
abbrev M_SL1_equals : XMt := (y_SL1_equals, prog_27_method_13_code, 3, (some .boolean))
theorem d_SL1_equals_9 : decode M_SL1_equals.2.1 9 = .ok (.iload_n 2, 1) := by decide +kernel
theorem d_SL1_equals_10 : decode M_SL1_equals.2.1 10 = .ok (.aload_n 0, 1) := by decide +kernel
theorem d_SL1_equals_11 : decode M_SL1_equals.2.1 11 = .ok (.arraylength, 1) := by decide +kernel
theorem d_SL1_equals_12 : decode M_SL1_equals.2.1 12 = .ok (.if_icmp .ge 20, 3) := by decide +kernel
theorem d_SL1_equals_32 : decode M_SL1_equals.2.1 32 = .ok (.iconst 1, 1) := by decide +kernel
theorem d_SL1_equals_33 : decode M_SL1_equals.2.1 33 = .ok (.ireturn, 1) := by decide +kernel
theorem d_SL1_equals_15 : decode M_SL1_equals.2.1 15 = .ok (.aload_n 0, 1) := by decide +kernel
theorem d_SL1_equals_16 : decode M_SL1_equals.2.1 16 = .ok (.iload_n 2, 1) := by decide +kernel
theorem d_SL1_equals_17 : decode M_SL1_equals.2.1 17 = .ok (.baload, 1) := by decide +kernel
theorem d_SL1_equals_18 : decode M_SL1_equals.2.1 18 = .ok (.aload_n 1, 1) := by decide +kernel
theorem d_SL1_equals_19 : decode M_SL1_equals.2.1 19 = .ok (.iload_n 2, 1) := by decide +kernel
theorem d_SL1_equals_20 : decode M_SL1_equals.2.1 20 = .ok (.baload, 1) := by decide +kernel
theorem d_SL1_equals_21 : decode M_SL1_equals.2.1 21 = .ok (.if_icmp .eq 5, 3) := by decide +kernel
theorem d_SL1_equals_26 : decode M_SL1_equals.2.1 26 = .ok (.iinc 2 1, 3) := by decide +kernel
theorem d_SL1_equals_29 : decode M_SL1_equals.2.1 29 = .ok (.goto (-20), 3) := by decide +kernel
theorem d_SL1_equals_24 : decode M_SL1_equals.2.1 24 = .ok (.iconst 0, 1) := by decide +kernel
theorem d_SL1_equals_25 : decode M_SL1_equals.2.1 25 = .ok (.ireturn, 1) := by decide +kernel
theorem d_SL1_equals_0 : decode M_SL1_equals.2.1 0 = .ok (.aload_n 0, 1) := by decide +kernel
theorem d_SL1_equals_1 : decode M_SL1_equals.2.1 1 = .ok (.arraylength, 1) := by decide +kernel
theorem d_SL1_equals_2 : decode M_SL1_equals.2.1 2 = .ok (.aload_n 1, 1) := by decide +kernel
theorem d_SL1_equals_3 : decode M_SL1_equals.2.1 3 = .ok (.arraylength, 1) := by decide +kernel
theorem d_SL1_equals_4 : decode M_SL1_equals.2.1 4 = .ok (.if_icmp .ne 30, 3) := by decide +kernel
theorem d_SL1_equals_7 : decode M_SL1_equals.2.1 7 = .ok (.iconst 0, 1) := by decide +kernel
theorem d_SL1_equals_8 : decode M_SL1_equals.2.1 8 = .ok (.istore_n 2, 1) := by decide +kernel
theorem d_SL1_equals_34 : decode M_SL1_equals.2.1 34 = .ok (.iconst 0, 1) := by decide +kernel
theorem d_SL1_equals_35 : decode M_SL1_equals.2.1 35 = .ok (.ireturn, 1) := by decide +kernel
abbrev y_String_equals : MethodName := ⟨"java/lang/String", "equals", "(Ljava/lang/Object;)Z"⟩
abbrev M_String_equals : XMt := (y_String_equals, prog_25_method_66_code, 3, (some .boolean))
theorem d_String_equals_0 : decode M_String_equals.2.1 0 = .ok (.aload_n 0, 1) := by decide +kernel
theorem d_String_equals_1 : decode M_String_equals.2.1 1 = .ok (.aload_n 1, 1) := by decide +kernel
theorem d_String_equals_2 : decode M_String_equals.2.1 2 = .ok (.if_acmp .ne 5, 3) := by decide +kernel
theorem d_String_equals_5 : decode M_String_equals.2.1 5 = .ok (.iconst 1, 1) := by decide +kernel
theorem d_String_equals_6 : decode M_String_equals.2.1 6 = .ok (.ireturn, 1) := by decide +kernel
theorem d_String_equals_7 : decode M_String_equals.2.1 7 = .ok (.aload_n 1, 1) := by decide +kernel
theorem d_String_equals_8 : decode M_String_equals.2.1 8 = .ok (.instanceof 10, 3) := by decide +kernel
theorem xw_682 : (Jvm.Cond.classLink "java/lang/String" (10 : Nat) "java/lang/String") ∈ xT := xT_at 682 (by decide +kernel) (by decide +kernel)
theorem d_String_equals_11 : decode M_String_equals.2.1 11 = .ok (.ifCond .eq 43, 3) := by decide +kernel
theorem d_String_equals_14 : decode M_String_equals.2.1 14 = .ok (.aload_n 1, 1) := by decide +kernel
theorem d_String_equals_15 : decode M_String_equals.2.1 15 = .ok (.checkcast 10, 3) := by decide +kernel
theorem d_String_equals_18 : decode M_String_equals.2.1 18 = .ok (.astore_n 2, 1) := by decide +kernel
theorem d_String_equals_19 : decode M_String_equals.2.1 19 = .ok (.getstatic 38, 3) := by decide +kernel
theorem d_String_equals_22 : decode M_String_equals.2.1 22 = .ok (.ifCond .eq 14, 3) := by decide +kernel
theorem d_String_equals_25 : decode M_String_equals.2.1 25 = .ok (.aload_n 0, 1) := by decide +kernel
theorem d_String_equals_26 : decode M_String_equals.2.1 26 = .ok (.getfield 15, 3) := by decide +kernel
theorem d_String_equals_29 : decode M_String_equals.2.1 29 = .ok (.aload_n 2, 1) := by decide +kernel
theorem d_String_equals_30 : decode M_String_equals.2.1 30 = .ok (.getfield 15, 3) := by decide +kernel
theorem d_String_equals_33 : decode M_String_equals.2.1 33 = .ok (.if_icmp .ne 21, 3) := by decide +kernel
theorem d_String_equals_36 : decode M_String_equals.2.1 36 = .ok (.aload_n 0, 1) := by decide +kernel
theorem d_String_equals_37 : decode M_String_equals.2.1 37 = .ok (.getfield 9, 3) := by decide +kernel
theorem d_String_equals_40 : decode M_String_equals.2.1 40 = .ok (.aload_n 2, 1) := by decide +kernel
theorem d_String_equals_41 : decode M_String_equals.2.1 41 = .ok (.getfield 9, 3) := by decide +kernel
theorem d_String_equals_44 : decode M_String_equals.2.1 44 = .ok (.invokestatic 541, 3) := by decide +kernel
theorem xw_685 : (Jvm.Cond.code ({ cls := "java/lang/StringLatin1", name := "equals", desc := "([B[B)Z" } : Jvm.MethodName) prog_27_method_13_code (3 : Nat) (Option.some Jvm.ClassFile.FieldType.boolean)) ∈ xT := xT_at 685 (by decide +kernel) (by decide +kernel)
theorem xcb_SL1_equals : xcb M_SL1_equals 2 := ⟨xw_685, xw_13, by decide, by decide, by decide, by decide +kernel⟩
theorem xw_683 : (Jvm.Cond.methodLink "java/lang/String" (541 : Nat) ({ cls := "java/lang/StringLatin1", name := "equals", desc := "([B[B)Z" } : Jvm.MethodName)) ∈ xT := xT_at 683 (by decide +kernel) (by decide +kernel)
theorem xw_684 : (Jvm.Cond.static ({ cls := "java/lang/StringLatin1", name := "equals", desc := "([B[B)Z" } : Jvm.MethodName)) ∈ xT := xT_at 684 (by decide +kernel) (by decide +kernel)
theorem xcs_String_541 : xCS "java/lang/String" 541 M_SL1_equals 2 := ⟨xcb_SL1_equals, xw_684, Or.inl xw_683⟩
theorem d_String_equals_47 : decode M_String_equals.2.1 47 = .ok (.ifCond .eq 7, 3) := by decide +kernel
theorem d_String_equals_50 : decode M_String_equals.2.1 50 = .ok (.iconst 1, 1) := by decide +kernel
theorem d_String_equals_51 : decode M_String_equals.2.1 51 = .ok (.goto 4, 3) := by decide +kernel
theorem d_String_equals_55 : decode M_String_equals.2.1 55 = .ok (.ireturn, 1) := by decide +kernel
theorem d_String_equals_54 : decode M_String_equals.2.1 54 = .ok (.iconst 0, 1) := by decide +kernel
end
section ST2
variable {l : Launch} {G : XG} {h : XH} {c n d : Nat}
/-- our cells and those that stay are apart -/
def xwf (G : XG) (h : XH) : Prop := ∀ a e, h a = some e → G.2.2.1 a = none
theorem x_wf {M : XMt} {pc : Nat} {L : List (Option Value)} {st : List Value} {P : XPo} (k : xwf G h → XX l G M d pc L st h c n P) : XX l G M d pc L st h c n P := by
  intro p e R s m args below meth cd H locs cells slots ls hF hR hl hL hV hS hN
  refine k (fun a x ha => ?_) p e R s m args below meth cd H locs cells slots ls hF hR hl hL hV hS hN
  cases hk : G.2.2.1 a with
  | none => rfl
  | some y =>
    obtain ⟨g1, -⟩ := hV.2.2.2.2 a y.1 y.2 hk
    obtain ⟨g2, -⟩ := hS.1 a x.1 x.2 ha
    omega
theorem xr_fun {a k k' : Nat} {vs vs' : List Value} (hw : xwf G h) (h1 : xr G h a k vs) (h2 : xr G h a k' vs') : k = k' ∧ vs = vs' := by
  rcases h1 with h1 | h1 <;> rcases h2 with h2 | h2
  · cases h1.symm.trans h2; exact ⟨rfl, rfl⟩
  · rw [hw a _ h1] at h2; cases h2
  · rw [hw a _ h2] at h1; cases h1
  · cases h1.symm.trans h2; exact ⟨rfl, rfl⟩
theorem xby_inj {t u : List Nat} (ht : xasc t) (hu : xasc u) (e : xby t = xby u) : t = u := by
  unfold xby at e
  refine List.ext_getElem? fun i => ?_
  have h1 := congrArg (fun z => z[i]?) e
  simp only [List.getElem?_map] at h1
  cases h2 : t[i]? with
  | none =>
    rw [h2] at h1
    cases h3 : u[i]? with
    | none => rfl
    | some y => rw [h3] at h1; simp at h1
  | some x =>
    rw [h2] at h1
    cases h3 : u[i]? with
    | none => rw [h3] at h1; simp at h1
    | some y =>
      rw [h3] at h1
      simp at h1
      have hx := ht x (List.mem_of_getElem? h2)
      have hy := hu y (List.mem_of_getElem? h3)
      rw [(nI_eq (by omega) (by omega)).mp h1]
theorem isS.inj {a : Nat} {t u : List Nat} (hw : xwf G h) (h1 : isS G h a t) (h2 : isS G h a u) : t = u := by
  obtain ⟨va, e, a1, a2, a3⟩ := h1
  obtain ⟨vb, e', b1, b2, b3⟩ := h2
  obtain ⟨-, q⟩ := xr_fun hw a1 b1
  cases q
  exact xby_inj a3 b3 (xr_fun hw a2 b2).2
theorem xw_iinc1 {i : Nat} : nI i + Int32.ofInt 1 = nI (i + 1) := by rw [show Int32.ofInt 1 = nI 1 from rfl, nI_add]
theorem lp_SL1_equals {va vb : Nat} {t u : List Nat} {P : Option Value → XH → Nat → Nat → Prop} (hv : xr G h va k_asbyte (xby t)) (hu : xr G h vb k_asbyte (xby u)) (ht : xasc t) (hua : xasc u) (hlen : t.length = u.length) (hl : t.length < 2 ^ 30) (hP : P (some (.int (if t = u then 1 else 0))) h c n) :
    ∀ (k i : Nat), i + k = t.length → t.take i = u.take i → XW l G M_SL1_equals d 9 [some (.ref va), some (.ref vb), some (.int (nI i))] [] h c n P := by
  intro k
  induction k with
  | zero =>
    intro i hi he
    have htu : t = u := by rw [List.take_of_length_le (by omega), List.take_of_length_le (by omega)] at he; exact he
    rw [if_pos htu] at hP
    refine x_iload_n d_SL1_equals_9 rfl ?_
    refine x_aload_n d_SL1_equals_10 rfl rfl ?_
    refine x_alen (k := k_asbyte) rfl hv (v := nI t.length) (by rw [xby_len]; rfl) d_SL1_equals_11 ?_
    refine x_icmp_ge (tgt := 32) d_SL1_equals_12 (by decide) (fun _ => ?_) (fun hn => absurd (nI_le (by omega) (by omega)) hn)
    refine x_iconst (v := 1) d_SL1_equals_32 (by decide) ?_
    refine x_zret d_SL1_equals_33 rfl rfl ?_
    exact hP
  | succ k ih =>
    intro i hi he
    have hit : i < t.length := by omega
    have hiu : i < u.length := by omega
    refine x_iload_n d_SL1_equals_9 rfl ?_
    refine x_aload_n d_SL1_equals_10 rfl rfl ?_
    refine x_alen (k := k_asbyte) rfl hv (v := nI t.length) (by rw [xby_len]; rfl) d_SL1_equals_11 ?_
    refine x_icmp_ge (tgt := 32) d_SL1_equals_12 (by decide) (fun ht => absurd ht (nI_ge hit (by omega))) (fun _ => ?_)
    refine x_aload_n d_SL1_equals_15 rfl rfl ?_
    refine x_iload_n d_SL1_equals_16 rfl ?_
    refine x_bald (k := k_asbyte) rfl hv (nI_pos (by omega)) (by rw [nI_clamp (by omega)]; exact xby_at hit) d_SL1_equals_17 ?_
    refine x_aload_n d_SL1_equals_18 rfl rfl ?_
    refine x_iload_n d_SL1_equals_19 rfl ?_
    refine x_bald (k := k_asbyte) rfl hu (nI_pos (by omega)) (by rw [nI_clamp (by omega)]; exact xby_at hiu) d_SL1_equals_20 ?_
    have e1 := ht t[i] (List.getElem_mem hit)
    have e2 := hua u[i] (List.getElem_mem hiu)
    by_cases hq : t[i] = u[i]
    · refine x_icmp_eq (tgt := 26) d_SL1_equals_21 (by decide) (fun _ => ?_) (fun hn => absurd (by rw [hq]) hn)
      refine x_iinc (v := nI (i + 1)) (L' := [_, _, _]) d_SL1_equals_26 rfl (by exact xw_iinc1) rfl rfl ?_
      refine x_goto (tgt := 9) d_SL1_equals_29 (by decide) ?_
      exact ih (i + 1) (by omega) (by rw [List.take_succ_eq_append_getElem hit, List.take_succ_eq_append_getElem hiu, he, hq])
    · rw [if_neg (fun z => hq (by subst z; rfl))] at hP
      refine x_icmp_eq (tgt := 26) d_SL1_equals_21 (by decide) (fun ht => absurd ht (by rw [nI_eq (by omega) (by omega)]; exact hq)) (fun _ => ?_)
      refine x_iconst (v := 0) d_SL1_equals_24 (by decide) ?_
      refine x_zret d_SL1_equals_25 rfl rfl ?_
      exact hP
theorem c_SL1_equals {va vb : Nat} {t u : List Nat} (hv : xr G h va k_asbyte (xby t)) (hu : xr G h vb k_asbyte (xby u)) (ht : xasc t) (hua : xasc u) (hl : t.length < 2 ^ 30) (hl2 : u.length < 2 ^ 30) : XM l G d M_SL1_equals [.ref va, .ref vb] h c n (xSame (.int (if t = u then 1 else 0)) h c n) := by
  refine XM.of (by decide +kernel) (Nat.le_of_ble_eq_true rfl) ?_
  refine x_aload_n d_SL1_equals_0 rfl rfl ?_
  refine x_alen (k := k_asbyte) rfl hv (v := nI t.length) (by rw [xby_len]; rfl) d_SL1_equals_1 ?_
  refine x_aload_n d_SL1_equals_2 rfl rfl ?_
  refine x_alen (k := k_asbyte) rfl hu (v := nI u.length) (by rw [xby_len]; rfl) d_SL1_equals_3 ?_
  by_cases hq : t.length = u.length
  · refine x_icmp_ne (tgt := 34) d_SL1_equals_4 (by decide) (fun ht => absurd (by rw [hq]) ht) (fun _ => ?_)
    refine x_iconst (v := 0) d_SL1_equals_7 (by decide) ?_
    refine x_istore_n (L' := [_, _, _]) d_SL1_equals_8 rfl rfl ?_
    exact lp_SL1_equals hv hu ht hua hq hl ⟨rfl, rfl, rfl, rfl⟩ t.length 0 (by omega) rfl
  · refine x_icmp_ne (tgt := 34) d_SL1_equals_4 (by decide) (fun _ => ?_) (fun hn => absurd hn (by rw [nI_eq (by omega) (by omega)]; exact hq))
    refine x_iconst (v := 0) d_SL1_equals_34 (by decide) ?_
    refine x_zret d_SL1_equals_35 rfl rfl ?_
    rw [if_neg (fun z => hq (by rw [z]))]
    exact ⟨rfl, rfl, rfl, rfl⟩
theorem c_String_equals (hd : 1 ≤ d) {a b : Nat} {t u : List Nat} (hS : isS G h a t) (hU : isS G h b u) (hl : t.length < 2 ^ 30) (hl2 : u.length < 2 ^ 30) : XM l G d M_String_equals [.ref a, .ref b] h c n (xSame (.int (if t = u then 1 else 0)) h c n) := by
  obtain ⟨d, rfl⟩ : ∃ q, d = q + 1 := ⟨d - 1, by omega⟩
  refine XM.of (by decide +kernel) (Nat.le_of_ble_eq_true rfl) ?_
  refine x_wf fun hw => ?_
  refine x_aload_n d_String_equals_0 rfl rfl ?_
  refine x_aload_n d_String_equals_1 rfl rfl ?_
  by_cases hab : a = b
  · subst hab
    rw [isS.inj hw hS hU, if_pos rfl]
    refine x_acmp_ne (tgt := 7) rfl rfl d_String_equals_2 (by decide) (fun ht => absurd rfl ht) (fun _ => ?_)
    refine x_iconst (v := 1) d_String_equals_5 (by decide) ?_
    refine x_zret d_String_equals_6 rfl rfl ?_
    exact ⟨rfl, rfl, rfl, rfl⟩
  · obtain ⟨va, e, ha, hv, hat⟩ := hS
    obtain ⟨vb, e', hb, hvb, hbt⟩ := hU
    refine x_acmp_ne (tgt := 7) rfl rfl d_String_equals_2 (by decide) (fun _ => ?_) (fun hn => absurd hn (by intro z; cases z; exact hab rfl))
    refine x_aload_n d_String_equals_7 rfl rfl ?_
    refine x_instY (k := k_String) rfl xw_682 (Or.inl rfl) hb d_String_equals_8 ?_
    refine x_if_eq (tgt := 54) d_String_equals_11 (by decide) (fun ht => absurd ht (by decide)) (fun _ => ?_)
    refine x_aload_n d_String_equals_14 rfl rfl ?_
    refine x_castY (k := k_String) rfl xw_682 (Or.inl rfl) hb d_String_equals_15 ?_
    refine x_astore_n (L' := [_, _, _]) d_String_equals_18 rfl rfl rfl ?_
    refine x_gets xw_429 (List.mem_of_getElem? (i := 0) rfl) d_String_equals_19 ?_
    refine x_if_eq (tgt := 36) d_String_equals_22 (by decide) (fun ht => absurd ht (by decide)) (fun _ => ?_)
    refine x_aload_n d_String_equals_25 rfl rfl ?_
    refine x_get xf_String_15_String ha rfl d_String_equals_26 ?_
    refine x_aload_n d_String_equals_29 rfl rfl ?_
    refine x_get xf_String_15_String hb rfl d_String_equals_30 ?_
    refine x_icmp_ne (tgt := 54) d_String_equals_33 (by decide) (fun ht => absurd rfl ht) (fun _ => ?_)
    refine x_aload_n d_String_equals_36 rfl rfl ?_
    refine x_get xf_String_9_String ha rfl d_String_equals_37 ?_
    refine x_aload_n d_String_equals_40 rfl rfl ?_
    refine x_get xf_String_9_String hb rfl d_String_equals_41 ?_
    refine x_callS (As := [_, _]) xcs_String_541 (c_SL1_equals hv hvb hat hbt hl hl2) rfl rfl (Nat.le_of_ble_eq_true rfl) d_String_equals_44 ?_
    rintro v h' c' n' ⟨rfl, rfl, rfl, rfl⟩
    by_cases hq : t = u
    · rw [if_pos hq]
      refine x_if_eq (tgt := 54) d_String_equals_47 (by decide) (fun ht => absurd ht (by decide)) (fun _ => ?_)
      refine x_iconst (v := 1) d_String_equals_50 (by decide) ?_
      refine x_goto (tgt := 55) d_String_equals_51 (by decide) ?_
      refine x_zret d_String_equals_55 rfl rfl ?_
      exact ⟨rfl, rfl, rfl, rfl⟩
    · rw [if_neg hq]
      refine x_if_eq (tgt := 54) d_String_equals_47 (by decide) (fun _ => ?_) (fun hn => absurd rfl hn)
      refine x_iconst (v := 0) d_String_equals_54 (by decide) ?_
      refine x_zret d_String_equals_55 rfl rfl ?_
      exact ⟨rfl, rfl, rfl, rfl⟩
end ST2
