section
abbrev y_Choices_addTested : MethodName := ⟨"MarkerText$Choices", "addTested", "(Ljava/util/ArrayList;I)V"⟩
abbrev M_Choices_addTested : XMt := (y_Choices_addTested, prog_2_method_3_code, 6, none)
theorem d_Choices_addTested_2 : decode M_Choices_addTested.2.1 2 = .ok (.iload_n 3, 1) := by decide +kernel
theorem d_Choices_addTested_3 : decode M_Choices_addTested.2.1 3 = .ok (.aload_n 1, 1) := by decide +kernel
theorem d_Choices_addTested_4 : decode M_Choices_addTested.2.1 4 = .ok (.invokevirtual 55, 3) := by decide +kernel
theorem xw_325 : (Jvm.Cond.code ({ cls := "java/util/ArrayList", name := "size", desc := "()I" } : Jvm.MethodName) prog_33_method_8_code (1 : Nat) (Option.some Jvm.ClassFile.FieldType.int)) ∈ xT := xT_at 325 (by decide +kernel) (by decide +kernel)
theorem xcb_AL_size : xcb M_AL_size 0 := ⟨xw_325, xw_26, by decide, by decide, by decide, by decide +kernel⟩
theorem xw_323 : (Jvm.Cond.instanceMethod ({ cls := "java/util/ArrayList", name := "size", desc := "()I" } : Jvm.MethodName)) ∈ xT := xT_at 323 (by decide +kernel) (by decide +kernel)
theorem xw_322 : (Jvm.Cond.methodLink "MarkerText$Choices" (55 : Nat) ({ cls := "java/util/ArrayList", name := "size", desc := "()I" } : Jvm.MethodName)) ∈ xT := xT_at 322 (by decide +kernel) (by decide +kernel)
theorem xw_324 : (Jvm.Cond.selects "java/util/ArrayList" ({ cls := "java/util/ArrayList", name := "size", desc := "()I" } : Jvm.MethodName) ({ cls := "java/util/ArrayList", name := "size", desc := "()I" } : Jvm.MethodName)) ∈ xT := xT_at 324 (by decide +kernel) (by decide +kernel)
theorem xcv_Choices_55_AL : xCV "MarkerText$Choices" 55 "java/util/ArrayList" M_AL_size 0 := ⟨xcb_AL_size, xw_323, Or.inl ⟨xw_322, Or.inl xw_324⟩⟩
theorem d_Choices_addTested_7 : decode M_Choices_addTested.2.1 7 = .ok (.if_icmp .ge 61, 3) := by decide +kernel
theorem d_Choices_addTested_68 : decode M_Choices_addTested.2.1 68 = .ok (.return_, 1) := by decide +kernel
theorem d_Choices_addTested_10 : decode M_Choices_addTested.2.1 10 = .ok (.aload_n 1, 1) := by decide +kernel
theorem d_Choices_addTested_11 : decode M_Choices_addTested.2.1 11 = .ok (.iload_n 3, 1) := by decide +kernel
theorem d_Choices_addTested_12 : decode M_Choices_addTested.2.1 12 = .ok (.invokevirtual 61, 3) := by decide +kernel
theorem xw_329 : (Jvm.Cond.code ({ cls := "java/util/ArrayList", name := "get", desc := "(I)Ljava/lang/Object;" } : Jvm.MethodName) prog_33_method_20_code (2 : Nat) (Option.some (Jvm.ClassFile.FieldType.object "java/lang/Object"))) ∈ xT := xT_at 329 (by decide +kernel) (by decide +kernel)
theorem xcb_AL_get : xcb M_AL_get 1 := ⟨xw_329, xw_26, by decide, by decide, by decide, by decide +kernel⟩
theorem xw_327 : (Jvm.Cond.instanceMethod ({ cls := "java/util/ArrayList", name := "get", desc := "(I)Ljava/lang/Object;" } : Jvm.MethodName)) ∈ xT := xT_at 327 (by decide +kernel) (by decide +kernel)
theorem xw_326 : (Jvm.Cond.methodLink "MarkerText$Choices" (61 : Nat) ({ cls := "java/util/ArrayList", name := "get", desc := "(I)Ljava/lang/Object;" } : Jvm.MethodName)) ∈ xT := xT_at 326 (by decide +kernel) (by decide +kernel)
theorem xw_328 : (Jvm.Cond.selects "java/util/ArrayList" ({ cls := "java/util/ArrayList", name := "get", desc := "(I)Ljava/lang/Object;" } : Jvm.MethodName) ({ cls := "java/util/ArrayList", name := "get", desc := "(I)Ljava/lang/Object;" } : Jvm.MethodName)) ∈ xT := xT_at 328 (by decide +kernel) (by decide +kernel)
theorem xcv_Choices_61_AL : xCV "MarkerText$Choices" 61 "java/util/ArrayList" M_AL_get 1 := ⟨xcb_AL_get, xw_327, Or.inl ⟨xw_326, Or.inl xw_328⟩⟩
theorem d_Choices_addTested_15 : decode M_Choices_addTested.2.1 15 = .ok (.checkcast 65, 3) := by decide +kernel
theorem xw_338 : (Jvm.Cond.classLink "MarkerText$Choices" (65 : Nat) "MarkerText$Test") ∈ xT := xT_at 338 (by decide +kernel) (by decide +kernel)
theorem d_Choices_addTested_18 : decode M_Choices_addTested.2.1 18 = .ok (.astore 4, 2) := by decide +kernel
theorem d_Choices_addTested_20 : decode M_Choices_addTested.2.1 20 = .ok (.aload 4, 2) := by decide +kernel
theorem d_Choices_addTested_22 : decode M_Choices_addTested.2.1 22 = .ok (.getfield 67, 3) := by decide +kernel
theorem xw_1020 : (Jvm.Cond.fieldLinkNest "MarkerText$Choices" (67 : Nat) "MarkerText$Test" "name" "I" "MarkerText") ∈ xT := xT_at 1020 (by decide +kernel) (by decide +kernel)
theorem xf_Choices_67_Test : xF "MarkerText$Choices" 67 k_Test 0 := ⟨_, _, _, "MarkerText$Test", rfl, by decide, Or.inr ⟨_, xw_1020⟩, Or.inl rfl⟩
theorem d_Choices_addTested_25 : decode M_Choices_addTested.2.1 25 = .ok (.iload_n 2, 1) := by decide +kernel
theorem d_Choices_addTested_26 : decode M_Choices_addTested.2.1 26 = .ok (.if_icmp .ne 36, 3) := by decide +kernel
theorem d_Choices_addTested_29 : decode M_Choices_addTested.2.1 29 = .ok (.iconst 0, 1) := by decide +kernel
theorem d_Choices_addTested_30 : decode M_Choices_addTested.2.1 30 = .ok (.istore 5, 2) := by decide +kernel
theorem d_Choices_addTested_32 : decode M_Choices_addTested.2.1 32 = .ok (.iload 5, 2) := by decide +kernel
theorem d_Choices_addTested_34 : decode M_Choices_addTested.2.1 34 = .ok (.aload 4, 2) := by decide +kernel
theorem d_Choices_addTested_36 : decode M_Choices_addTested.2.1 36 = .ok (.getfield 70, 3) := by decide +kernel
theorem xw_1023 : (Jvm.Cond.fieldLinkNest "MarkerText$Choices" (70 : Nat) "MarkerText$Test" "values" "[J" "MarkerText") ∈ xT := xT_at 1023 (by decide +kernel) (by decide +kernel)
theorem xf_Choices_70_Test : xF "MarkerText$Choices" 70 k_Test 2 := ⟨_, _, _, "MarkerText$Test", rfl, by decide, Or.inr ⟨_, xw_1023⟩, Or.inl rfl⟩
theorem d_Choices_addTested_39 : decode M_Choices_addTested.2.1 39 = .ok (.arraylength, 1) := by decide +kernel
theorem d_Choices_addTested_40 : decode M_Choices_addTested.2.1 40 = .ok (.if_icmp .ge 22, 3) := by decide +kernel
theorem d_Choices_addTested_62 : decode M_Choices_addTested.2.1 62 = .ok (.iinc 3 1, 3) := by decide +kernel
theorem d_Choices_addTested_65 : decode M_Choices_addTested.2.1 65 = .ok (.goto (-63), 3) := by decide +kernel
theorem d_Choices_addTested_43 : decode M_Choices_addTested.2.1 43 = .ok (.aload_n 0, 1) := by decide +kernel
theorem d_Choices_addTested_44 : decode M_Choices_addTested.2.1 44 = .ok (.aload 4, 2) := by decide +kernel
theorem d_Choices_addTested_46 : decode M_Choices_addTested.2.1 46 = .ok (.getfield 70, 3) := by decide +kernel
theorem d_Choices_addTested_49 : decode M_Choices_addTested.2.1 49 = .ok (.iload 5, 2) := by decide +kernel
theorem d_Choices_addTested_51 : decode M_Choices_addTested.2.1 51 = .ok (.laload, 1) := by decide +kernel
theorem d_Choices_addTested_52 : decode M_Choices_addTested.2.1 52 = .ok (.iload_n 2, 1) := by decide +kernel
theorem d_Choices_addTested_53 : decode M_Choices_addTested.2.1 53 = .ok (.invokevirtual 71, 3) := by decide +kernel
theorem xw_342 : (Jvm.Cond.code ({ cls := "MarkerText$Choices", name := "add", desc := "(JI)V" } : Jvm.MethodName) prog_2_method_5_code (6 : Nat) (Option.none : Option Jvm.ClassFile.FieldType)) ∈ xT := xT_at 342 (by decide +kernel) (by decide +kernel)
theorem xcb_Choices_add : xcb M_Choices_add 2 := ⟨xw_342, xw_6, by decide, by decide, by decide, by decide +kernel⟩
theorem xw_341 : (Jvm.Cond.instanceMethod ({ cls := "MarkerText$Choices", name := "add", desc := "(JI)V" } : Jvm.MethodName)) ∈ xT := xT_at 341 (by decide +kernel) (by decide +kernel)
theorem xw_339 : (Jvm.Cond.methodLink "MarkerText$Choices" (71 : Nat) ({ cls := "MarkerText$Choices", name := "add", desc := "(JI)V" } : Jvm.MethodName)) ∈ xT := xT_at 339 (by decide +kernel) (by decide +kernel)
theorem xsel_Choices_add : Cond.selects "MarkerText$Choices" y_Choices_add y_Choices_add ∈ xT := xT_sel (q := (y_Choices_add, 7)) (by decide +kernel) (by decide +kernel)
theorem xcv_Choices_71_Choices : xCV "MarkerText$Choices" 71 "MarkerText$Choices" M_Choices_add 2 := ⟨xcb_Choices_add, xw_341, Or.inl ⟨xw_339, Or.inl xsel_Choices_add⟩⟩
theorem d_Choices_addTested_56 : decode M_Choices_addTested.2.1 56 = .ok (.iinc 5 1, 3) := by decide +kernel
theorem d_Choices_addTested_59 : decode M_Choices_addTested.2.1 59 = .ok (.goto (-27), 3) := by decide +kernel
theorem d_Choices_addTested_0 : decode M_Choices_addTested.2.1 0 = .ok (.iconst 0, 1) := by decide +kernel
theorem d_Choices_addTested_1 : decode M_Choices_addTested.2.1 1 = .ok (.istore_n 3, 1) := by decide +kernel
abbrev y_Choices_addKnown : MethodName := ⟨"MarkerText$Choices", "addKnown", "(LMarkerText$Name;I)V"⟩
abbrev M_Choices_addKnown : XMt := (y_Choices_addKnown, prog_2_method_4_code, 4, none)
theorem d_Choices_addKnown_2 : decode M_Choices_addKnown.2.1 2 = .ok (.iload_n 3, 1) := by decide +kernel
theorem d_Choices_addKnown_3 : decode M_Choices_addKnown.2.1 3 = .ok (.aload_n 1, 1) := by decide +kernel
theorem d_Choices_addKnown_4 : decode M_Choices_addKnown.2.1 4 = .ok (.getfield 75, 3) := by decide +kernel
theorem xw_726 : (Jvm.Cond.fieldLinkNest "MarkerText$Choices" (75 : Nat) "MarkerText$Name" "knownCount" "I" "MarkerText") ∈ xT := xT_at 726 (by decide +kernel) (by decide +kernel)
theorem xf_Choices_75_Name : xF "MarkerText$Choices" 75 k_Name 3 := ⟨_, _, _, "MarkerText$Name", rfl, by decide, Or.inr ⟨_, xw_726⟩, Or.inl rfl⟩
theorem d_Choices_addKnown_7 : decode M_Choices_addKnown.2.1 7 = .ok (.if_icmp .ge 20, 3) := by decide +kernel
theorem d_Choices_addKnown_27 : decode M_Choices_addKnown.2.1 27 = .ok (.return_, 1) := by decide +kernel
theorem d_Choices_addKnown_10 : decode M_Choices_addKnown.2.1 10 = .ok (.aload_n 0, 1) := by decide +kernel
theorem d_Choices_addKnown_11 : decode M_Choices_addKnown.2.1 11 = .ok (.aload_n 1, 1) := by decide +kernel
theorem d_Choices_addKnown_12 : decode M_Choices_addKnown.2.1 12 = .ok (.getfield 80, 3) := by decide +kernel
theorem xw_724 : (Jvm.Cond.fieldLinkNest "MarkerText$Choices" (80 : Nat) "MarkerText$Name" "known" "[J" "MarkerText") ∈ xT := xT_at 724 (by decide +kernel) (by decide +kernel)
theorem xf_Choices_80_Name : xF "MarkerText$Choices" 80 k_Name 2 := ⟨_, _, _, "MarkerText$Name", rfl, by decide, Or.inr ⟨_, xw_724⟩, Or.inl rfl⟩
theorem d_Choices_addKnown_15 : decode M_Choices_addKnown.2.1 15 = .ok (.iload_n 3, 1) := by decide +kernel
theorem d_Choices_addKnown_16 : decode M_Choices_addKnown.2.1 16 = .ok (.laload, 1) := by decide +kernel
theorem d_Choices_addKnown_17 : decode M_Choices_addKnown.2.1 17 = .ok (.iload_n 2, 1) := by decide +kernel
theorem d_Choices_addKnown_18 : decode M_Choices_addKnown.2.1 18 = .ok (.invokevirtual 71, 3) := by decide +kernel
theorem d_Choices_addKnown_21 : decode M_Choices_addKnown.2.1 21 = .ok (.iinc 3 1, 3) := by decide +kernel
theorem d_Choices_addKnown_24 : decode M_Choices_addKnown.2.1 24 = .ok (.goto (-22), 3) := by decide +kernel
theorem d_Choices_addKnown_0 : decode M_Choices_addKnown.2.1 0 = .ok (.iconst 0, 1) := by decide +kernel
theorem d_Choices_addKnown_1 : decode M_Choices_addKnown.2.1 1 = .ok (.istore_n 3, 1) := by decide +kernel
end
section CH7
variable {l : Launch} {G : XG} {h : XH} {c n d : Nat}
/-- the VALUES of the tests of a name -/
def adT (j a : Nat) (ts : List TsT) (q : List Nat × Nat) : List Nat × Nat := ts.foldl (fun q t => if t.1 = j then adL a t.2.2.1 q else q) q
def okVs (ws : List Nat) : Prop := ∀ v ∈ ws, 1 ≤ v ∧ v < 2 ^ 62
theorem adT_ok {j a : Nat} {ts : List TsT} : ∀ {q : List Nat × Nat}, okQ q → a ≤ q.2 → (∀ t ∈ ts, okVs t.2.2.1) → okQ (adT j a ts q) ∧ q.2 ≤ (adT j a ts q).2 := by
  induction ts with
  | nil => intro q hq ha hw; exact ⟨hq, Nat.le_refl _⟩
  | cons t ts ih =>
    intro q hq ha hw
    have e : adT j a (t :: ts) q = adT j a ts (if t.1 = j then adL a t.2.2.1 q else q) := rfl
    rw [e]
    by_cases hj : t.1 = j
    · rw [if_pos hj]
      obtain ⟨k1, k2⟩ := adL_ok hq ha (hw t List.mem_cons_self)
      obtain ⟨k3, k4⟩ := ih k1 (by omega) (fun w hw' => hw w (List.mem_cons_of_mem _ hw'))
      exact ⟨k3, Nat.le_trans k2 k4⟩
    · rw [if_neg hj]
      exact ih hq ha (fun w hw' => hw w (List.mem_cons_of_mem _ hw'))
abbrev kAd : List Nat := [k_Choices, k_achv]
theorem c_addTested (hd : 3 ≤ d) {o co j la ea : Nat} {st sa pk lv es : List Nat} {ts : List TsT} {q : List Nat × Nat} (hc : isCh h o q.1 q.2 st sa pk lv co) (hq : okQ q) (hs : st.length = 6) (hj : j < 6) (ha : st.getD j 0 ≤ q.2) (hL : isL G h la ea es) (hT : okT G h es ts) (hb : ∀ t ∈ ts, okVs t.2.2.1) (hl : ts.length ≤ 40) : XM l G d M_Choices_addTested [.ref o, .ref la, .int (nI j)] h c n (fun r h' c' n' => r = none ∧ isCh h' o (adT j (st.getD j 0) ts q).1 (adT j (st.getD j 0) ts q).2 st sa pk lv co ∧ xonly h h' kAd ∧ c' = c ∧ n' = n) := by
  obtain ⟨d, rfl⟩ : ∃ q, d = q + 1 := ⟨d - 1, by omega⟩
  refine XM.of (by decide +kernel) (Nat.le_of_ble_eq_true rfl) ?_
  generalize hZ : adT j (st.getD j 0) ts q = Z
  generalize haE : st.getD j 0 = a at ha hZ
  have lp : ∀ (k i : Nat) (q1 : List Nat × Nat) (h1 : XH) (w4 w5 : Option Value), i + k = ts.length → isCh h1 o q1.1 q1.2 st sa pk lv co → xonly h h1 kAd → okQ q1 → a ≤ q1.2 → adT j a (ts.drop i) q1 = Z → XW l G M_Choices_addTested (d + 1) 2 [some (.ref o), some (.ref la), some (.int (nI j)), some (.int (nI i)), w4, w5] [] h1 c n (fun r h' c' n' => r = none ∧ isCh h' o Z.1 Z.2 st sa pk lv co ∧ xonly h h' kAd ∧ c' = c ∧ n' = n) := by
    intro k
    induction k with
    | zero =>
      intro i q1 h1 w4 w5 hi hc1 hx hq1 ha1 he
      obtain ⟨F, hf1, hn1⟩ := id hx
      have hL1 := hL.fr hf1 (hn1 _ (by decide))
      obtain ⟨mc, hl0, -⟩ := id hL1
      have hte := hT.1
      refine x_iload_n d_Choices_addTested_2 rfl ?_
      refine x_aload_n d_Choices_addTested_3 rfl rfl ?_
      refine x_callV (As := []) (k := k_ArrayList) rfl xcv_Choices_55_AL (Or.inl hl0) (c_AL_size hL1) rfl rfl (Nat.le_of_ble_eq_true rfl) d_Choices_addTested_4 ?_
      rintro v h1 c n ⟨rfl, rfl, rfl, rfl⟩
      refine x_icmp_ge (tgt := 68) d_Choices_addTested_7 (by decide) (fun _ => ?_) (fun hn => absurd (nI_le (by omega) (by omega)) hn)
      refine x_vret d_Choices_addTested_68 rfl ?_
      rw [List.drop_of_length_le (by omega)] at he
      have he' : q1 = Z := he
      rw [← he']
      exact ⟨rfl, hc1, hx, rfl, rfl⟩
    | succ k ih =>
      intro i q1 h1 w4 w5 hi hc1 hx hq1 ha1 he
      obtain ⟨F, hf1, hn1⟩ := id hx
      have hL1 := hL.fr hf1 (hn1 _ (by decide))
      have hT1 := hT.fr hf1 (hn1 _ (by decide))
      obtain ⟨mc, hl0, -⟩ := id hL1
      have hte := hT.1
      have hie : i < es.length := by omega
      have hit : i < ts.length := by omega
      rw [List.drop_eq_getElem_cons hit] at he
      have he' : adT j a (ts.drop (i + 1)) (if ts[i].1 = j then adL a ts[i].2.2.1 q1 else q1) = Z := he
      have hTs := hT1.2 i _ _ (List.getElem?_eq_getElem hie) (List.getElem?_eq_getElem hit)
      obtain ⟨va, sa', t0, t1, -, t3, t4, t5, t6⟩ := id hTs
      refine x_iload_n d_Choices_addTested_2 rfl ?_
      refine x_aload_n d_Choices_addTested_3 rfl rfl ?_
      refine x_callV (As := []) (k := k_ArrayList) rfl xcv_Choices_55_AL (Or.inl hl0) (c_AL_size hL1) rfl rfl (Nat.le_of_ble_eq_true rfl) d_Choices_addTested_4 ?_
      rintro v h1 c n ⟨rfl, rfl, rfl, rfl⟩
      refine x_icmp_ge (tgt := 68) d_Choices_addTested_7 (by decide) (fun ht => absurd ht (nI_ge (by omega) (by omega))) (fun _ => ?_)
      refine x_aload_n d_Choices_addTested_10 rfl rfl ?_
      refine x_iload_n d_Choices_addTested_11 rfl ?_
      refine x_callV (As := [_]) (k := k_ArrayList) rfl xcv_Choices_61_AL (Or.inl hl0) (c_AL_get (by omega) hL1 hie (by omega)) rfl rfl (Nat.le_of_ble_eq_true rfl) d_Choices_addTested_12 ?_
      rintro v h1 c n ⟨rfl, rfl, rfl, rfl⟩
      by_cases hnm : ts[i].1 = j
      · rw [if_pos hnm] at he'
        refine x_castY (k := k_Test) rfl xw_338 (Or.inl rfl) (Or.inl t0) d_Choices_addTested_15 ?_
        refine x_astore (L' := [_, _, _, _, _, _]) d_Choices_addTested_18 rfl rfl rfl ?_
        refine x_aload d_Choices_addTested_20 rfl rfl ?_
        refine x_get xf_Choices_67_Test (Or.inl t0) rfl d_Choices_addTested_22 ?_
        refine x_iload_n d_Choices_addTested_25 rfl ?_
        refine x_icmp_ne (tgt := 62) d_Choices_addTested_26 (by decide) (fun ht => absurd (by rw [hnm]) ht) (fun _ => ?_)
        refine x_iconst (v := 0) d_Choices_addTested_29 (by decide) ?_
        refine x_istore (L' := [_, _, _, _, _, _]) d_Choices_addTested_30 rfl rfl ?_
        have hbv : okVs ts[i].2.2.1 := hb _ (List.getElem_mem hit)
        have lp2 : ∀ (k2 m : Nat) (q2 : List Nat × Nat) (h2 : XH), m + k2 = ts[i].2.2.1.length → isCh h2 o q2.1 q2.2 st sa pk lv co → xonly h h2 kAd → okQ q2 → a ≤ q2.2 → adT j a (ts.drop (i + 1)) (adL a (ts[i].2.2.1.drop m) q2) = Z → XW l G M_Choices_addTested (d + 1) 32 [some (.ref o), some (.ref la), some (.int (nI j)), some (.int (nI i)), some (.ref es[i]), some (.int (nI m))] [] h2 c n (fun r h' c' n' => r = none ∧ isCh h' o Z.1 Z.2 st sa pk lv co ∧ xonly h h' kAd ∧ c' = c ∧ n' = n) := by
          intro k2
          induction k2 with
          | zero =>
            intro m q2 h2 hm hc2 hx2 hq2 ha2 he2
            obtain ⟨F2, hf2, hn2⟩ := id hx2
            obtain ⟨va, sa', t0, t1, -⟩ := (hT.fr hf2 (hn2 _ (by decide))).2 i _ _ (List.getElem?_eq_getElem hie) (List.getElem?_eq_getElem hit)
            rw [List.drop_of_length_le (l := ts[i].2.2.1) (by omega)] at he2
            refine x_iload d_Choices_addTested_32 rfl ?_
            refine x_aload d_Choices_addTested_34 rfl rfl ?_
            refine x_get xf_Choices_70_Test (Or.inl t0) rfl d_Choices_addTested_36 ?_
            refine x_alen (k := k_avals) rfl (Or.inl t1) (v := nI ts[i].2.2.1.length) (by rw [List.length_map]; rfl) d_Choices_addTested_39 ?_
            refine x_icmp_ge (tgt := 62) d_Choices_addTested_40 (by decide) (fun _ => ?_) (fun hn => absurd (nI_le (by omega) (by omega)) hn)
            refine x_iinc (v := nI (i + 1)) (L' := [_, _, _, _, _, _]) d_Choices_addTested_62 rfl (by exact xw_iinc1) rfl rfl ?_
            refine x_goto (tgt := 2) d_Choices_addTested_65 (by decide) ?_
            exact ih (i + 1) q2 h2 _ _ (by omega) hc2 hx2 hq2 ha2 he2
          | succ k2 ih2 =>
            intro m q2 h2 hm hc2 hx2 hq2 ha2 he2
            obtain ⟨F2, hf2, hn2⟩ := id hx2
            obtain ⟨va, sa', t0, t1, -⟩ := (hT.fr hf2 (hn2 _ (by decide))).2 i _ _ (List.getElem?_eq_getElem hie) (List.getElem?_eq_getElem hit)
            have hml : m < ts[i].2.2.1.length := by omega
            obtain ⟨b1, b2⟩ := hbv _ (List.getElem_mem hml)
            rw [List.drop_eq_getElem_cons (l := ts[i].2.2.1) hml] at he2
            have he3 : adT j a (ts.drop (i + 1)) (adL a (ts[i].2.2.1.drop (m + 1)) (adV a q2 ts[i].2.2.1[m])) = Z := he2
            obtain ⟨k3, k4⟩ := adV_ok hq2 ha2 b1 b2
            obtain ⟨cv', cs', ca', cp', cl', o0, -⟩ := id hc2
            have hcc := c_add (l := l) (G := G) (c := c) (n := n) (d := d) (by omega) hc2 hq2 hs hj (by rw [haE]; exact ha2) b2
            rw [haE] at hcc
            refine x_iload d_Choices_addTested_32 rfl ?_
            refine x_aload d_Choices_addTested_34 rfl rfl ?_
            refine x_get xf_Choices_70_Test (Or.inl t0) rfl d_Choices_addTested_36 ?_
            refine x_alen (k := k_avals) rfl (Or.inl t1) (v := nI ts[i].2.2.1.length) (by rw [List.length_map]; rfl) d_Choices_addTested_39 ?_
            refine x_icmp_ge (tgt := 62) d_Choices_addTested_40 (by decide) (fun ht => absurd ht (nI_ge (by omega) (by omega))) (fun _ => ?_)
            refine x_aload_n d_Choices_addTested_43 rfl rfl ?_
            refine x_aload d_Choices_addTested_44 rfl rfl ?_
            refine x_get xf_Choices_70_Test (Or.inl t0) rfl d_Choices_addTested_46 ?_
            refine x_iload d_Choices_addTested_49 rfl ?_
            refine x_lald (k := k_avals) rfl (Or.inl t1) (nI_pos (by omega)) (by rw [nI_clamp (by omega), List.getElem?_map, List.getElem?_eq_getElem hml]; rfl) d_Choices_addTested_51 ?_
            refine x_iload_n d_Choices_addTested_52 rfl ?_
            refine x_callV (As := [_, _]) (k := k_Choices) rfl xcv_Choices_71_Choices (Or.inl o0) hcc rfl rfl (Nat.le_of_ble_eq_true rfl) d_Choices_addTested_53 ?_
            rintro v h3 c n ⟨rfl, hc3, hx3, rfl, rfl⟩
            refine x_iinc (v := nI (m + 1)) (L' := [_, _, _, _, _, _]) d_Choices_addTested_56 rfl (by exact xw_iinc1) rfl rfl ?_
            refine x_goto (tgt := 32) d_Choices_addTested_59 (by decide) ?_
            exact ih2 (m + 1) _ h3 (by omega) hc3 (hx2.tr hx3) k3 (by omega) he3
        exact lp2 ts[i].2.2.1.length 0 q1 h1 (by omega) hc1 hx hq1 ha1 he'
      · rw [if_neg hnm] at he'
        refine x_castY (k := k_Test) rfl xw_338 (Or.inl rfl) (Or.inl t0) d_Choices_addTested_15 ?_
        refine x_astore (L' := [_, _, _, _, _, _]) d_Choices_addTested_18 rfl rfl rfl ?_
        refine x_aload d_Choices_addTested_20 rfl rfl ?_
        refine x_get xf_Choices_67_Test (Or.inl t0) rfl d_Choices_addTested_22 ?_
        refine x_iload_n d_Choices_addTested_25 rfl ?_
        refine x_icmp_ne (tgt := 62) d_Choices_addTested_26 (by decide) (fun _ => ?_) (fun hn => absurd hn (fun z => hnm ((nI_eq (by omega) (by omega)).mp z)))
        refine x_iinc (v := nI (i + 1)) (L' := [_, _, _, _, _, _]) d_Choices_addTested_62 rfl (by exact xw_iinc1) rfl rfl ?_
        refine x_goto (tgt := 2) d_Choices_addTested_65 (by decide) ?_
        exact ih (i + 1) q1 h1 _ _ (by omega) hc1 hx hq1 ha1 he'
  refine x_iconst (v := 0) d_Choices_addTested_0 (by decide) ?_
  refine x_istore_n (L' := [_, _, _, _, _, _]) d_Choices_addTested_1 rfl rfl ?_
  exact lp ts.length 0 q h _ _ (by omega) hc xonly.rf hq ha hZ
theorem c_addKnown (hd : 2 ≤ d) {o co j nA ka kd : Nat} {st sa pk lv w ks : List Nat} {q : List Nat × Nat} (hc : isCh h o q.1 q.2 st sa pk lv co) (hq : okQ q) (hs : st.length = 6) (hj : j < 6) (ha : st.getD j 0 ≤ q.2) (hN : isN G h nA ka w kd ks) (hb : okVs ks) : XM l G d M_Choices_addKnown [.ref o, .ref nA, .int (nI j)] h c n (fun r h' c' n' => r = none ∧ isCh h' o (adL (st.getD j 0) ks q).1 (adL (st.getD j 0) ks q).2 st sa pk lv co ∧ xonly h h' kAd ∧ c' = c ∧ n' = n) := by
  obtain ⟨d, rfl⟩ : ∃ q, d = q + 1 := ⟨d - 1, by omega⟩
  refine XM.of (by decide +kernel) (Nat.le_of_ble_eq_true rfl) ?_
  generalize hZ : adL (st.getD j 0) ks q = Z
  generalize haE : st.getD j 0 = a at ha hZ
  obtain ⟨sA, n0, -, n1, n2, -⟩ := id hN
  have lp : ∀ (k i : Nat) (q1 : List Nat × Nat) (h1 : XH), i + k = ks.length → isCh h1 o q1.1 q1.2 st sa pk lv co → xonly h h1 kAd → okQ q1 → a ≤ q1.2 → adL a (ks.drop i) q1 = Z → XW l G M_Choices_addKnown (d + 1) 2 [some (.ref o), some (.ref nA), some (.int (nI j)), some (.int (nI i))] [] h1 c n (fun r h' c' n' => r = none ∧ isCh h' o Z.1 Z.2 st sa pk lv co ∧ xonly h h' kAd ∧ c' = c ∧ n' = n) := by
    intro k
    induction k with
    | zero =>
      intro i q1 h1 hi hc1 hx hq1 ha1 he
      obtain ⟨F, hf1, hn1⟩ := id hx
      have n0' := hf1.1 _ _ n0 ((hn1 [k_Name] (by decide)).at n0 (by decide))
      refine x_iload_n d_Choices_addKnown_2 rfl ?_
      refine x_aload_n d_Choices_addKnown_3 rfl rfl ?_
      refine x_get xf_Choices_75_Name (Or.inl n0') rfl d_Choices_addKnown_4 ?_
      refine x_icmp_ge (tgt := 27) d_Choices_addKnown_7 (by decide) (fun _ => ?_) (fun hn => absurd (nI_le (by omega) (by omega)) hn)
      refine x_vret d_Choices_addKnown_27 rfl ?_
      rw [List.drop_of_length_le (by omega)] at he
      have he' : q1 = Z := he
      rw [← he']
      exact ⟨rfl, hc1, hx, rfl, rfl⟩
    | succ k ih =>
      intro i q1 h1 hi hc1 hx hq1 ha1 he
      obtain ⟨F, hf1, hn1⟩ := id hx
      have n0' := hf1.1 _ _ n0 ((hn1 [k_Name] (by decide)).at n0 (by decide))
      have n1' := hf1.1 _ _ n1 ((hn1 [k_aknown] (by decide)).at n1 (by decide))
      have hil : i < ks.length := by omega
      obtain ⟨b1, b2⟩ := hb _ (List.getElem_mem hil)
      rw [List.drop_eq_getElem_cons hil] at he
      have he3 : adL a (ks.drop (i + 1)) (adV a q1 ks[i]) = Z := he
      obtain ⟨k3, k4⟩ := adV_ok hq1 ha1 b1 b2
      obtain ⟨cv', cs', ca', cp', cl', o0, -⟩ := id hc1
      have hcc := c_add (l := l) (G := G) (c := c) (n := n) (d := d) (by omega) hc1 hq1 hs hj (by rw [haE]; exact ha1) b2
      rw [haE] at hcc
      refine x_iload_n d_Choices_addKnown_2 rfl ?_
      refine x_aload_n d_Choices_addKnown_3 rfl rfl ?_
      refine x_get xf_Choices_75_Name (Or.inl n0') rfl d_Choices_addKnown_4 ?_
      refine x_icmp_ge (tgt := 27) d_Choices_addKnown_7 (by decide) (fun ht => absurd ht (nI_ge (by omega) (by omega))) (fun _ => ?_)
      refine x_aload_n d_Choices_addKnown_10 rfl rfl ?_
      refine x_aload_n d_Choices_addKnown_11 rfl rfl ?_
      refine x_get xf_Choices_80_Name (Or.inl n0') rfl d_Choices_addKnown_12 ?_
      refine x_iload_n d_Choices_addKnown_15 rfl ?_
      refine x_lald (k := k_aknown) rfl (Or.inl n1') (nI_pos (by omega)) (by rw [nI_clamp (by omega)]; exact xlv_at hil) d_Choices_addKnown_16 ?_
      refine x_iload_n d_Choices_addKnown_17 rfl ?_
      refine x_callV (As := [_, _]) (k := k_Choices) rfl xcv_Choices_71_Choices (Or.inl o0) hcc rfl rfl (Nat.le_of_ble_eq_true rfl) d_Choices_addKnown_18 ?_
      rintro v h3 c n ⟨rfl, hc3, hx3, rfl, rfl⟩
      refine x_iinc (v := nI (i + 1)) (L' := [_, _, _, _]) d_Choices_addKnown_21 rfl (by exact xw_iinc1) rfl rfl ?_
      refine x_goto (tgt := 2) d_Choices_addKnown_24 (by decide) ?_
      exact ih (i + 1) _ h3 (by omega) hc3 (hx.tr hx3) k3 (by omega) he3
  refine x_iconst (v := 0) d_Choices_addKnown_0 (by decide) ?_
  refine x_istore_n (L' := [_, _, _, _]) d_Choices_addKnown_1 rfl rfl ?_
  exact lp ks.length 0 q h (by omega) hc xonly.rf hq ha hZ
end CH7
