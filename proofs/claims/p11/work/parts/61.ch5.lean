section
abbrev y_Choices_advance : MethodName := ⟨"MarkerText$Choices", "advance", "()V"⟩
abbrev M_Choices_advance : XMt := (y_Choices_advance, prog_2_method_6_code, 3, none)
theorem d_Choices_advance_4 : decode M_Choices_advance.2.1 4 = .ok (.iload_n 2, 1) := by decide +kernel
theorem d_Choices_advance_5 : decode M_Choices_advance.2.1 5 = .ok (.ifCond .lt 66, 3) := by decide +kernel
theorem d_Choices_advance_71 : decode M_Choices_advance.2.1 71 = .ok (.return_, 1) := by decide +kernel
theorem d_Choices_advance_8 : decode M_Choices_advance.2.1 8 = .ok (.iload_n 1, 1) := by decide +kernel
theorem d_Choices_advance_9 : decode M_Choices_advance.2.1 9 = .ok (.ifCond .eq 62, 3) := by decide +kernel
theorem d_Choices_advance_12 : decode M_Choices_advance.2.1 12 = .ok (.aload_n 0, 1) := by decide +kernel
theorem d_Choices_advance_13 : decode M_Choices_advance.2.1 13 = .ok (.getfield 26, 3) := by decide +kernel
theorem d_Choices_advance_16 : decode M_Choices_advance.2.1 16 = .ok (.iload_n 2, 1) := by decide +kernel
theorem d_Choices_advance_17 : decode M_Choices_advance.2.1 17 = .ok (.dup2, 1) := by decide +kernel
theorem d_Choices_advance_18 : decode M_Choices_advance.2.1 18 = .ok (.iaload, 1) := by decide +kernel
theorem d_Choices_advance_19 : decode M_Choices_advance.2.1 19 = .ok (.iconst 1, 1) := by decide +kernel
theorem d_Choices_advance_20 : decode M_Choices_advance.2.1 20 = .ok (.iadd, 1) := by decide +kernel
theorem d_Choices_advance_21 : decode M_Choices_advance.2.1 21 = .ok (.iastore, 1) := by decide +kernel
theorem d_Choices_advance_22 : decode M_Choices_advance.2.1 22 = .ok (.aload_n 0, 1) := by decide +kernel
theorem d_Choices_advance_23 : decode M_Choices_advance.2.1 23 = .ok (.getfield 26, 3) := by decide +kernel
theorem d_Choices_advance_26 : decode M_Choices_advance.2.1 26 = .ok (.iload_n 2, 1) := by decide +kernel
theorem d_Choices_advance_27 : decode M_Choices_advance.2.1 27 = .ok (.iaload, 1) := by decide +kernel
theorem d_Choices_advance_28 : decode M_Choices_advance.2.1 28 = .ok (.aload_n 0, 1) := by decide +kernel
theorem d_Choices_advance_29 : decode M_Choices_advance.2.1 29 = .ok (.getfield 23, 3) := by decide +kernel
theorem d_Choices_advance_32 : decode M_Choices_advance.2.1 32 = .ok (.iload_n 2, 1) := by decide +kernel
theorem d_Choices_advance_33 : decode M_Choices_advance.2.1 33 = .ok (.iaload, 1) := by decide +kernel
theorem d_Choices_advance_34 : decode M_Choices_advance.2.1 34 = .ok (.if_icmp .lt 7, 3) := by decide +kernel
theorem d_Choices_advance_37 : decode M_Choices_advance.2.1 37 = .ok (.iconst 1, 1) := by decide +kernel
theorem d_Choices_advance_38 : decode M_Choices_advance.2.1 38 = .ok (.goto 4, 3) := by decide +kernel
theorem d_Choices_advance_42 : decode M_Choices_advance.2.1 42 = .ok (.istore_n 1, 1) := by decide +kernel
theorem d_Choices_advance_43 : decode M_Choices_advance.2.1 43 = .ok (.iload_n 1, 1) := by decide +kernel
theorem d_Choices_advance_44 : decode M_Choices_advance.2.1 44 = .ok (.ifCond .eq 10, 3) := by decide +kernel
theorem d_Choices_advance_47 : decode M_Choices_advance.2.1 47 = .ok (.aload_n 0, 1) := by decide +kernel
theorem d_Choices_advance_48 : decode M_Choices_advance.2.1 48 = .ok (.getfield 26, 3) := by decide +kernel
theorem d_Choices_advance_51 : decode M_Choices_advance.2.1 51 = .ok (.iload_n 2, 1) := by decide +kernel
theorem d_Choices_advance_52 : decode M_Choices_advance.2.1 52 = .ok (.iconst 0, 1) := by decide +kernel
theorem d_Choices_advance_53 : decode M_Choices_advance.2.1 53 = .ok (.iastore, 1) := by decide +kernel
theorem d_Choices_advance_54 : decode M_Choices_advance.2.1 54 = .ok (.aload_n 0, 1) := by decide +kernel
theorem d_Choices_advance_55 : decode M_Choices_advance.2.1 55 = .ok (.getfield 29, 3) := by decide +kernel
theorem d_Choices_advance_58 : decode M_Choices_advance.2.1 58 = .ok (.iload_n 2, 1) := by decide +kernel
theorem d_Choices_advance_59 : decode M_Choices_advance.2.1 59 = .ok (.aload_n 0, 1) := by decide +kernel
theorem d_Choices_advance_60 : decode M_Choices_advance.2.1 60 = .ok (.iload_n 2, 1) := by decide +kernel
theorem d_Choices_advance_61 : decode M_Choices_advance.2.1 61 = .ok (.invokevirtual 89, 3) := by decide +kernel
theorem xw_361 : (Jvm.Cond.code ({ cls := "MarkerText$Choices", name := "levelOfPick", desc := "(I)J" } : Jvm.MethodName) prog_2_method_7_code (4 : Nat) (Option.some Jvm.ClassFile.FieldType.long)) ∈ xT := xT_at 361 (by decide +kernel) (by decide +kernel)
theorem xcb_Choices_levelOfPick : xcb M_Choices_levelOfPick 1 := ⟨xw_361, xw_6, by decide, by decide, by decide, by decide +kernel⟩
theorem xw_360 : (Jvm.Cond.instanceMethod ({ cls := "MarkerText$Choices", name := "levelOfPick", desc := "(I)J" } : Jvm.MethodName)) ∈ xT := xT_at 360 (by decide +kernel) (by decide +kernel)
theorem xw_358 : (Jvm.Cond.methodLink "MarkerText$Choices" (89 : Nat) ({ cls := "MarkerText$Choices", name := "levelOfPick", desc := "(I)J" } : Jvm.MethodName)) ∈ xT := xT_at 358 (by decide +kernel) (by decide +kernel)
theorem xsel_Choices_levelOfPick : Cond.selects "MarkerText$Choices" y_Choices_levelOfPick y_Choices_levelOfPick ∈ xT := xT_sel (q := (y_Choices_levelOfPick, 7)) (by decide +kernel) (by decide +kernel)
theorem xcv_Choices_89_Choices : xCV "MarkerText$Choices" 89 "MarkerText$Choices" M_Choices_levelOfPick 1 := ⟨xcb_Choices_levelOfPick, xw_360, Or.inl ⟨xw_358, Or.inl xsel_Choices_levelOfPick⟩⟩
theorem d_Choices_advance_64 : decode M_Choices_advance.2.1 64 = .ok (.lastore, 1) := by decide +kernel
theorem d_Choices_advance_65 : decode M_Choices_advance.2.1 65 = .ok (.iinc 2 (-1), 3) := by decide +kernel
theorem d_Choices_advance_68 : decode M_Choices_advance.2.1 68 = .ok (.goto (-64), 3) := by decide +kernel
theorem d_Choices_advance_41 : decode M_Choices_advance.2.1 41 = .ok (.iconst 0, 1) := by decide +kernel
theorem d_Choices_advance_0 : decode M_Choices_advance.2.1 0 = .ok (.iconst 1, 1) := by decide +kernel
theorem d_Choices_advance_1 : decode M_Choices_advance.2.1 1 = .ok (.istore_n 1, 1) := by decide +kernel
theorem d_Choices_advance_2 : decode M_Choices_advance.2.1 2 = .ok (.iconst 5, 1) := by decide +kernel
theorem d_Choices_advance_3 : decode M_Choices_advance.2.1 3 = .ok (.istore_n 2, 1) := by decide +kernel
end
section CH5
variable {l : Launch} {G : XG} {h : XH} {c n d : Nat}
/-- cells of some kinds alone change -/
def xonly (h h' : XH) (Ks : List Nat) : Prop := ∃ F, xfr h h' F ∧ ∀ ks, (∀ k ∈ Ks, k ∉ ks) → xno h F ks
theorem xonly.rf {Ks : List Nat} : xonly h h Ks := ⟨[], xfr.rf, fun _ _ q hq => by cases hq⟩
theorem xonly.tr {Ks : List Nat} {h1 h2 : XH} (a : xonly h h1 Ks) (b : xonly h1 h2 Ks) : xonly h h2 Ks := by
  obtain ⟨F1, f1, n1⟩ := a
  obtain ⟨F2, f2, n2⟩ := b
  refine ⟨F1 ++ F2, (f1.mono (fun q hq => List.mem_append_left _ hq)).tr f2 (fun q _ hq => List.mem_append_right _ hq), fun ks hks q hq e he hk => ?_⟩
  by_cases hq1 : q ∈ F1
  · exact n1 ks hks q hq1 e he hk
  · rcases List.mem_append.mp hq with z | z
    · exact hq1 z
    · exact n2 ks hks q z e (f1.1 q e he hq1) hk
theorem xonly.up {Ks : List Nat} {a k : Nat} {vs : List Value} {e : Nat × List Value} (ha : h a = some (k, vs)) (hk : k ∈ Ks) : xonly h (xup h a e) Ks := ⟨[a], xfr.rf.up (Or.inl (by simp)), fun ks hks => xno1 ha (hks k hk)⟩
theorem xiv_set {us : List Nat} {i v : Nat} : (xiv us).set i (.int (nI v)) = xiv (us.set i v) := by
  unfold xiv
  rw [List.map_set]
/-- the levels of the picks -/
def lvO (vs : List Nat) (us : Nat) (st pk : List Nat) : List Nat := (List.range 6).map (fun j => lop vs us (st.getD j 0) (pk.getD j 0))
theorem getD_set {us : List Nat} {i j v : Nat} (hi : i < us.length) : (us.set i v).getD j 0 = if j = i then v else us.getD j 0 := by
  rw [List.getD_eq_getElem?_getD, List.getElem?_set, List.getD_eq_getElem?_getD]
  by_cases hj : i = j
  · rw [if_pos hj, if_pos hi, if_pos hj.symm]
    rfl
  · rw [if_neg hj, if_neg (fun z => hj z.symm)]
theorem lvO_set {vs st pk : List Nat} {us i v : Nat} (hi : i < 6) (hp : pk.length = 6) : ((lvO vs us st pk).map (fun v => Value.long (lN v))).set i (.long (lN (lop vs us (st.getD i 0) v))) = (lvO vs us st (pk.set i v)).map (fun v => Value.long (lN v)) := by
  refine List.ext_getElem (by simp [lvO]) (fun j h1 h2 => ?_)
  simp only [lvO, List.getElem_set, List.getElem_map, List.getElem_range]
  rw [getD_set (by omega)]
  by_cases hj : i = j
  · rw [if_pos hj, if_pos hj.symm, hj]
  · rw [if_neg hj, if_neg (fun z => hj z.symm)]
/-- the next CHOICE's picks -/
def advP (sa : List Nat) : Nat → List Nat → List Nat
  | 0, pk => pk
  | i + 1, pk => if sa.getD i 0 ≤ pk.getD i 0 + 1 then advP sa i (pk.set i 0) else pk.set i (pk.getD i 0 + 1)
theorem c_advance (hd : 2 ≤ d) {o us co : Nat} {vs st sa pk : List Nat} (hc : isCh h o vs us st sa pk (lvO vs us st pk) co) (hl : vs.length = 356) (hu : us ≤ 356) (hs : st.length = 6) (hsa : sa.length = 6) (hp : pk.length = 6) (hs2 : ∀ j, st.getD j 0 ≤ 356) (hp2 : ∀ j, pk.getD j 0 ≤ 20000) (ha2 : ∀ j, sa.getD j 0 ≤ 20000) (hv1 : ∀ i, i < us → 1 ≤ vs.getD i 0) : XM l G d M_Choices_advance [.ref o] h c n (fun v h' c' n' => v = none ∧ isCh h' o vs us st sa (advP sa 6 pk) (lvO vs us st (advP sa 6 pk)) co ∧ xonly h h' [k_apicks, k_achl] ∧ c' = c ∧ n' = n) := by
  obtain ⟨d, rfl⟩ : ∃ q, d = q + 1 := ⟨d - 1, by omega⟩
  refine XM.of (by decide +kernel) (Nat.le_of_ble_eq_true rfl) ?_
  have lp : ∀ (i : Nat) (pk1 : List Nat) (h1 : XH) (w : Int32), i ≤ 6 → (i = 0 → w = -1) → (∀ k, i = k + 1 → w = nI k) → isCh h1 o vs us st sa pk1 (lvO vs us st pk1) co → xonly h h1 [k_apicks, k_achl] → pk1.length = 6 → (∀ j, pk1.getD j 0 ≤ 20000) → advP sa i pk1 = advP sa 6 pk → XW l G M_Choices_advance (d + 1) 4 [some (.ref o), some (.int 1), some (.int w)] [] h1 c n (fun v h' c' n' => v = none ∧ isCh h' o vs us st sa (advP sa 6 pk) (lvO vs us st (advP sa 6 pk)) co ∧ xonly h h' [k_apicks, k_achl] ∧ c' = c ∧ n' = n) := by
    intro i
    induction i with
    | zero =>
      intro pk1 h1 w hi hw0 hw1 hc1 hx hp1 hpb he
      rw [hw0 rfl]
      refine x_iload_n d_Choices_advance_4 rfl ?_
      refine x_if_lt (tgt := 71) d_Choices_advance_5 (by decide) (fun _ => ?_) (fun hn => absurd (by decide) hn)
      refine x_vret d_Choices_advance_71 rfl ?_
      rw [← he]
      exact ⟨rfl, hc1, hx, rfl, rfl⟩
    | succ k ih =>
      intro pk1 h1 w hi hw0 hw1 hc1 hx hp1 hpb he
      rw [hw1 k rfl]
      obtain ⟨cv, cs, ca, cp, cl, e0, e1, e2, e3, e4, e5⟩ := id hc1
      have hb1 := hpb k
      have hb2 := ha2 k
      refine x_iload_n d_Choices_advance_4 rfl ?_
      refine x_if_lt (tgt := 71) d_Choices_advance_5 (by decide) (fun ht => absurd ht (nI_pos (by omega))) (fun _ => ?_)
      refine x_iload_n d_Choices_advance_8 rfl ?_
      refine x_if_eq (tgt := 71) d_Choices_advance_9 (by decide) (fun ht => absurd ht (by decide)) (fun _ => ?_)
      refine x_aload_n d_Choices_advance_12 rfl rfl ?_
      refine x_get xf_Choices_26_Choices (Or.inl e0) rfl d_Choices_advance_13 ?_
      refine x_iload_n d_Choices_advance_16 rfl ?_
      refine x_dup2_11 d_Choices_advance_17 rfl rfl ?_
      refine x_iald (k := k_apicks) rfl (Or.inl e4) (nI_pos (by omega)) (by rw [nI_clamp (by omega)]; exact iv_at (by omega)) d_Choices_advance_18 ?_
      refine x_iconst (v := 1) d_Choices_advance_19 (by decide) ?_
      refine x_iadd d_Choices_advance_20 ?_
      refine x_top (w := .int (nI (pk1.getD k 0 + 1))) (by rw [show (1 : Int32) = nI 1 from rfl, nI_add]) ?_
      refine x_iast (k := k_apicks) rfl e4 (nI_pos (by omega)) (by rw [nI_clamp (by omega)]; exact iv_at (by omega)) d_Choices_advance_21 ?_
      refine x_hp (h' := xup h1 cp (k_apicks, xiv (pk1.set k (pk1.getD k 0 + 1)))) (by rw [nI_clamp (by omega), xiv_set]) ?_
      have hx2 : ∀ w, xonly h (xup h1 cp w) [k_apicks, k_achl] := fun w => hx.tr (xonly.up e4 (by simp))
      have H0 : ∀ w, xup h1 cp w o = some (k_Choices, [.ref cv, .int (nI us), .ref cs, .ref ca, .ref cp, .ref cl, .int (nI co)]) := fun w => by rw [xup_ne (xne e0 e4 (by decide))]; exact e0
      have H1 : ∀ w, xup h1 cp w cv = some (k_achv, vs.map (fun v => .long (lN v))) := fun w => by rw [xup_ne (xne e1 e4 (by decide))]; exact e1
      have H2 : ∀ w, xup h1 cp w cs = some (k_astarts, xiv st) := fun w => by rw [xup_ne (xne e2 e4 (by decide))]; exact e2
      have H3 : ∀ w, xup h1 cp w ca = some (k_asamples, xiv sa) := fun w => by rw [xup_ne (xne e3 e4 (by decide))]; exact e3
      have H5 : ∀ w, xup h1 cp w cl = some (k_achl, (lvO vs us st pk1).map (fun v => .long (lN v))) := fun w => by rw [xup_ne (xne e5 e4 (by decide))]; exact e5
      obtain ⟨w2, hw2, hwz, hws⟩ : ∃ w2, nI k + Int32.ofInt (-1) = w2 ∧ (k = 0 → w2 = -1) ∧ (∀ k', k = k' + 1 → w2 = nI k') := by
        cases k with
        | zero => exact ⟨-1, by decide, fun _ => rfl, fun k' z => by cases z⟩
        | succ k => exact ⟨nI k, xw_iincm, (fun z => by cases z), fun k' z => by cases z; rfl⟩
      have fin : ∀ (vX : Nat) (h2 : XH), vX ≤ 20001 → h2 = xup h1 cp (k_apicks, xiv (pk1.set k vX)) → isCh h2 o vs us st sa (pk1.set k vX) (lvO vs us st pk1) co ∧ isCh (xup h2 cl (k_achl, (lvO vs us st (pk1.set k vX)).map (fun v => .long (lN v)))) o vs us st sa (pk1.set k vX) (lvO vs us st (pk1.set k vX)) co ∧ xonly h (xup h2 cl (k_achl, (lvO vs us st (pk1.set k vX)).map (fun v => .long (lN v)))) [k_apicks, k_achl] := by
        intro vX h2 hvX hh
        subst hh
        refine ⟨⟨cv, cs, ca, cp, cl, H0 _, H1 _, H2 _, H3 _, xup_self, H5 _⟩, ⟨cv, cs, ca, cp, cl, ?_, ?_, ?_, ?_, ?_, xup_self⟩, (hx2 _).tr (xonly.up (H5 _) (by simp))⟩
        · rw [xup_ne (xne e0 e5 (by decide))]; exact H0 _
        · rw [xup_ne (xne e1 e5 (by decide))]; exact H1 _
        · rw [xup_ne (xne e2 e5 (by decide))]; exact H2 _
        · rw [xup_ne (xne e3 e5 (by decide))]; exact H3 _
        · rw [xup_ne (xne e4 e5 (by decide))]; exact xup_self
      have hgk : ∀ vX, (pk1.set k vX).getD k 0 = vX := fun vX => by rw [getD_set (by omega), if_pos rfl]
      by_cases hcy : sa.getD k 0 ≤ pk1.getD k 0 + 1
      · rw [show advP sa (k + 1) pk1 = advP sa k (pk1.set k 0) from if_pos hcy] at he
        obtain ⟨q1, q2, q3⟩ := fin 0 _ (by omega) rfl
        refine x_aload_n d_Choices_advance_22 rfl rfl ?_
        refine x_get xf_Choices_26_Choices (Or.inl (H0 _)) rfl d_Choices_advance_23 ?_
        refine x_iload_n d_Choices_advance_26 rfl ?_
        refine x_iald (k := k_apicks) rfl (Or.inl xup_self) (nI_pos (by omega)) (by rw [nI_clamp (by omega)]; exact iv_at (by simp; omega)) d_Choices_advance_27 ?_
        refine x_aload_n d_Choices_advance_28 rfl rfl ?_
        refine x_get xf_Choices_23_Choices (Or.inl (H0 _)) rfl d_Choices_advance_29 ?_
        refine x_iload_n d_Choices_advance_32 rfl ?_
        refine x_iald (k := k_asamples) rfl (Or.inl (H3 _)) (nI_pos (by omega)) (by rw [nI_clamp (by omega)]; exact iv_at (by omega)) d_Choices_advance_33 ?_
        refine x_icmp_lt (tgt := 41) d_Choices_advance_34 (by decide) (fun ht => absurd ht (by rw [hgk]; exact nI_nlt hcy (by omega))) (fun _ => ?_)
        refine x_iconst (v := 1) d_Choices_advance_37 (by decide) ?_
        refine x_goto (tgt := 42) d_Choices_advance_38 (by decide) ?_
        refine x_istore_n (L' := [_, _, _]) d_Choices_advance_42 rfl rfl ?_
        refine x_iload_n d_Choices_advance_43 rfl ?_
        refine x_if_eq (tgt := 54) d_Choices_advance_44 (by decide) (fun ht => absurd ht (by decide)) (fun _ => ?_)
        refine x_aload_n d_Choices_advance_47 rfl rfl ?_
        refine x_get xf_Choices_26_Choices (Or.inl (H0 _)) rfl d_Choices_advance_48 ?_
        refine x_iload_n d_Choices_advance_51 rfl ?_
        refine x_iconst (v := 0) d_Choices_advance_52 (by decide) ?_
        refine x_iast (k := k_apicks) rfl xup_self (nI_pos (by omega)) (by rw [nI_clamp (by omega)]; exact iv_at (by simp; omega)) d_Choices_advance_53 ?_
        refine x_hp (h' := xup h1 cp (k_apicks, xiv (pk1.set k 0))) (by rw [xup_up, nI_clamp (by omega), show (Value.int 0) = .int (nI 0) from rfl, xiv_set, List.set_set]) ?_
        refine x_aload_n d_Choices_advance_54 rfl rfl ?_
        refine x_get xf_Choices_29_Choices (Or.inl (H0 _)) rfl d_Choices_advance_55 ?_
        refine x_iload_n d_Choices_advance_58 rfl ?_
        refine x_aload_n d_Choices_advance_59 rfl rfl ?_
        refine x_iload_n d_Choices_advance_60 rfl ?_
        refine x_callV (As := [_]) (k := k_Choices) rfl xcv_Choices_89_Choices (Or.inl (H0 _)) (c_levelOfPick (by omega) q1 hl hu hs (by simp; omega) (by omega) (hs2 k) (by rw [hgk]; omega) hv1) rfl rfl (Nat.le_of_ble_eq_true rfl) d_Choices_advance_61 ?_
        rintro v h4 c4 n4 ⟨rfl, rfl, rfl, rfl⟩
        rw [hgk]
        refine x_last (k := k_achl) rfl (H5 _) (nI_pos (by omega)) (by rw [nI_clamp (by omega)]; exact lvv_at (by simp [lvO]; omega)) d_Choices_advance_64 ?_
        refine x_hp (h' := xup (xup h1 cp (k_apicks, xiv (pk1.set k 0))) cl (k_achl, (lvO vs us st (pk1.set k 0)).map (fun v => .long (lN v)))) (by rw [nI_clamp (by omega), lvO_set (by omega) hp1]) ?_
        refine x_iinc (v := w2) (L' := [_, _, _]) d_Choices_advance_65 rfl (by exact hw2) rfl rfl ?_
        refine x_goto (tgt := 4) d_Choices_advance_68 (by decide) ?_
        refine ih _ _ w2 (by omega) hwz hws q2 q3 (by simp; omega) (fun j => ?_) he
        rw [getD_set (by omega)]
        split
        · omega
        · exact hpb j
      · rw [show advP sa (k + 1) pk1 = pk1.set k (pk1.getD k 0 + 1) from if_neg hcy] at he
        obtain ⟨q1, q2, q3⟩ := fin (pk1.getD k 0 + 1) _ (by omega) rfl
        refine x_aload_n d_Choices_advance_22 rfl rfl ?_
        refine x_get xf_Choices_26_Choices (Or.inl (H0 _)) rfl d_Choices_advance_23 ?_
        refine x_iload_n d_Choices_advance_26 rfl ?_
        refine x_iald (k := k_apicks) rfl (Or.inl xup_self) (nI_pos (by omega)) (by rw [nI_clamp (by omega)]; exact iv_at (by simp; omega)) d_Choices_advance_27 ?_
        refine x_aload_n d_Choices_advance_28 rfl rfl ?_
        refine x_get xf_Choices_23_Choices (Or.inl (H0 _)) rfl d_Choices_advance_29 ?_
        refine x_iload_n d_Choices_advance_32 rfl ?_
        refine x_iald (k := k_asamples) rfl (Or.inl (H3 _)) (nI_pos (by omega)) (by rw [nI_clamp (by omega)]; exact iv_at (by omega)) d_Choices_advance_33 ?_
        refine x_icmp_lt (tgt := 41) d_Choices_advance_34 (by decide) (fun _ => ?_) (fun hn => absurd (by rw [hgk]; exact nI_lt (by omega) (by omega)) hn)
        refine x_iconst (v := 0) d_Choices_advance_41 (by decide) ?_
        refine x_istore_n (L' := [_, _, _]) d_Choices_advance_42 rfl rfl ?_
        refine x_iload_n d_Choices_advance_43 rfl ?_
        refine x_if_eq (tgt := 54) d_Choices_advance_44 (by decide) (fun _ => ?_) (fun hn => absurd rfl hn)
        refine x_aload_n d_Choices_advance_54 rfl rfl ?_
        refine x_get xf_Choices_29_Choices (Or.inl (H0 _)) rfl d_Choices_advance_55 ?_
        refine x_iload_n d_Choices_advance_58 rfl ?_
        refine x_aload_n d_Choices_advance_59 rfl rfl ?_
        refine x_iload_n d_Choices_advance_60 rfl ?_
        refine x_callV (As := [_]) (k := k_Choices) rfl xcv_Choices_89_Choices (Or.inl (H0 _)) (c_levelOfPick (by omega) q1 hl hu hs (by simp; omega) (by omega) (hs2 k) (by rw [hgk]; omega) hv1) rfl rfl (Nat.le_of_ble_eq_true rfl) d_Choices_advance_61 ?_
        rintro v h4 c4 n4 ⟨rfl, rfl, rfl, rfl⟩
        rw [hgk]
        refine x_last (k := k_achl) rfl (H5 _) (nI_pos (by omega)) (by rw [nI_clamp (by omega)]; exact lvv_at (by simp [lvO]; omega)) d_Choices_advance_64 ?_
        refine x_hp (h' := xup (xup h1 cp (k_apicks, xiv (pk1.set k (pk1.getD k 0 + 1)))) cl (k_achl, (lvO vs us st (pk1.set k (pk1.getD k 0 + 1))).map (fun v => .long (lN v)))) (by rw [nI_clamp (by omega), lvO_set (by omega) hp1]) ?_
        refine x_iinc (v := w2) (L' := [_, _, _]) d_Choices_advance_65 rfl (by exact hw2) rfl rfl ?_
        refine x_goto (tgt := 4) d_Choices_advance_68 (by decide) ?_
        rw [he] at q2 q3 ⊢
        cases k with
        | zero =>
          rw [hwz rfl]
          refine x_iload_n d_Choices_advance_4 rfl ?_
          refine x_if_lt (tgt := 71) d_Choices_advance_5 (by decide) (fun _ => ?_) (fun hn => absurd (by decide) hn)
          refine x_vret d_Choices_advance_71 rfl ?_
          exact ⟨rfl, q2, q3, rfl, rfl⟩
        | succ k =>
          rw [hws k rfl]
          refine x_iload_n d_Choices_advance_4 rfl ?_
          refine x_if_lt (tgt := 71) d_Choices_advance_5 (by decide) (fun ht => absurd ht (nI_pos (by omega))) (fun _ => ?_)
          refine x_iload_n d_Choices_advance_8 rfl ?_
          refine x_if_eq (tgt := 71) d_Choices_advance_9 (by decide) (fun _ => ?_) (fun hn => absurd rfl hn)
          refine x_vret d_Choices_advance_71 rfl ?_
          exact ⟨rfl, q2, q3, rfl, rfl⟩
  refine x_iconst (v := 1) d_Choices_advance_0 (by decide) ?_
  refine x_istore_n (L' := [_, _, _]) d_Choices_advance_1 rfl rfl ?_
  refine x_iconst (v := 5) d_Choices_advance_2 (by decide) ?_
  refine x_istore_n (L' := [_, _, _]) d_Choices_advance_3 rfl rfl ?_
  exact lp 6 pk h 5 (Nat.le_refl _) (fun z => by cases z) (fun k z => by cases z; rfl) hc xonly.rf hp hp2 rfl
end CH5
