section
abbrev y_Choices_layOut : MethodName := ⟨"MarkerText$Choices", "layOut", "([LMarkerText$Name;[LMarkerText$Condition;I)Z"⟩
abbrev M_Choices_layOut : XMt := (y_Choices_layOut, prog_2_method_2_code, 6, (some .boolean))
theorem d_Choices_layOut_34 : decode M_Choices_layOut.2.1 34 = .ok (.iload 5, 2) := by decide +kernel
theorem d_Choices_layOut_36 : decode M_Choices_layOut.2.1 36 = .ok (.aload_n 2, 1) := by decide +kernel
theorem d_Choices_layOut_37 : decode M_Choices_layOut.2.1 37 = .ok (.arraylength, 1) := by decide +kernel
theorem d_Choices_layOut_38 : decode M_Choices_layOut.2.1 38 = .ok (.if_icmp .ge 39, 3) := by decide +kernel
theorem d_Choices_layOut_41 : decode M_Choices_layOut.2.1 41 = .ok (.iload_n 3, 1) := by decide +kernel
theorem d_Choices_layOut_42 : decode M_Choices_layOut.2.1 42 = .ok (.iload 5, 2) := by decide +kernel
theorem d_Choices_layOut_44 : decode M_Choices_layOut.2.1 44 = .ok (.ishr, 1) := by decide +kernel
theorem d_Choices_layOut_45 : decode M_Choices_layOut.2.1 45 = .ok (.iconst 1, 1) := by decide +kernel
theorem d_Choices_layOut_46 : decode M_Choices_layOut.2.1 46 = .ok (.iand, 1) := by decide +kernel
theorem d_Choices_layOut_47 : decode M_Choices_layOut.2.1 47 = .ok (.iconst 1, 1) := by decide +kernel
theorem d_Choices_layOut_48 : decode M_Choices_layOut.2.1 48 = .ok (.if_icmp .ne 23, 3) := by decide +kernel
theorem d_Choices_layOut_71 : decode M_Choices_layOut.2.1 71 = .ok (.iinc 5 1, 3) := by decide +kernel
theorem d_Choices_layOut_74 : decode M_Choices_layOut.2.1 74 = .ok (.goto (-40), 3) := by decide +kernel
theorem d_Choices_layOut_13 : decode M_Choices_layOut.2.1 13 = .ok (.iload 4, 2) := by decide +kernel
theorem d_Choices_layOut_15 : decode M_Choices_layOut.2.1 15 = .ok (.bipush 6, 2) := by decide +kernel
theorem d_Choices_layOut_17 : decode M_Choices_layOut.2.1 17 = .ok (.if_icmp .ge 179, 3) := by decide +kernel
theorem d_Choices_layOut_196 : decode M_Choices_layOut.2.1 196 = .ok (.aload_n 0, 1) := by decide +kernel
theorem d_Choices_layOut_197 : decode M_Choices_layOut.2.1 197 = .ok (.getfield 32, 3) := by decide +kernel
theorem d_Choices_layOut_200 : decode M_Choices_layOut.2.1 200 = .ok (.sipush 20000, 3) := by decide +kernel
theorem d_Choices_layOut_203 : decode M_Choices_layOut.2.1 203 = .ok (.if_icmp .gt 7, 3) := by decide +kernel
theorem d_Choices_layOut_206 : decode M_Choices_layOut.2.1 206 = .ok (.iconst 1, 1) := by decide +kernel
theorem d_Choices_layOut_207 : decode M_Choices_layOut.2.1 207 = .ok (.goto 4, 3) := by decide +kernel
theorem d_Choices_layOut_211 : decode M_Choices_layOut.2.1 211 = .ok (.ireturn, 1) := by decide +kernel
theorem d_Choices_layOut_20 : decode M_Choices_layOut.2.1 20 = .ok (.aload_n 0, 1) := by decide +kernel
theorem d_Choices_layOut_21 : decode M_Choices_layOut.2.1 21 = .ok (.getfield 19, 3) := by decide +kernel
theorem d_Choices_layOut_24 : decode M_Choices_layOut.2.1 24 = .ok (.iload 4, 2) := by decide +kernel
theorem d_Choices_layOut_26 : decode M_Choices_layOut.2.1 26 = .ok (.aload_n 0, 1) := by decide +kernel
theorem d_Choices_layOut_27 : decode M_Choices_layOut.2.1 27 = .ok (.getfield 15, 3) := by decide +kernel
theorem d_Choices_layOut_30 : decode M_Choices_layOut.2.1 30 = .ok (.iastore, 1) := by decide +kernel
theorem d_Choices_layOut_31 : decode M_Choices_layOut.2.1 31 = .ok (.iconst 0, 1) := by decide +kernel
theorem d_Choices_layOut_32 : decode M_Choices_layOut.2.1 32 = .ok (.istore 5, 2) := by decide +kernel
theorem d_Choices_layOut_77 : decode M_Choices_layOut.2.1 77 = .ok (.aload_n 0, 1) := by decide +kernel
theorem d_Choices_layOut_78 : decode M_Choices_layOut.2.1 78 = .ok (.getfield 15, 3) := by decide +kernel
theorem d_Choices_layOut_81 : decode M_Choices_layOut.2.1 81 = .ok (.aload_n 0, 1) := by decide +kernel
theorem d_Choices_layOut_82 : decode M_Choices_layOut.2.1 82 = .ok (.getfield 19, 3) := by decide +kernel
theorem d_Choices_layOut_85 : decode M_Choices_layOut.2.1 85 = .ok (.iload 4, 2) := by decide +kernel
theorem d_Choices_layOut_87 : decode M_Choices_layOut.2.1 87 = .ok (.iaload, 1) := by decide +kernel
theorem d_Choices_layOut_88 : decode M_Choices_layOut.2.1 88 = .ok (.isub, 1) := by decide +kernel
theorem d_Choices_layOut_89 : decode M_Choices_layOut.2.1 89 = .ok (.istore 5, 2) := by decide +kernel
theorem d_Choices_layOut_91 : decode M_Choices_layOut.2.1 91 = .ok (.iload 5, 2) := by decide +kernel
theorem d_Choices_layOut_93 : decode M_Choices_layOut.2.1 93 = .ok (.ifCond .le 27, 3) := by decide +kernel
theorem d_Choices_layOut_120 : decode M_Choices_layOut.2.1 120 = .ok (.aload_n 0, 1) := by decide +kernel
theorem d_Choices_layOut_121 : decode M_Choices_layOut.2.1 121 = .ok (.getfield 23, 3) := by decide +kernel
theorem d_Choices_layOut_124 : decode M_Choices_layOut.2.1 124 = .ok (.iload 4, 2) := by decide +kernel
theorem d_Choices_layOut_126 : decode M_Choices_layOut.2.1 126 = .ok (.iload 5, 2) := by decide +kernel
theorem d_Choices_layOut_128 : decode M_Choices_layOut.2.1 128 = .ok (.ifCond .le 22, 3) := by decide +kernel
theorem d_Choices_layOut_150 : decode M_Choices_layOut.2.1 150 = .ok (.iconst 1, 1) := by decide +kernel
theorem d_Choices_layOut_151 : decode M_Choices_layOut.2.1 151 = .ok (.iastore, 1) := by decide +kernel
theorem d_Choices_layOut_152 : decode M_Choices_layOut.2.1 152 = .ok (.aload_n 0, 1) := by decide +kernel
theorem d_Choices_layOut_153 : decode M_Choices_layOut.2.1 153 = .ok (.getfield 26, 3) := by decide +kernel
theorem d_Choices_layOut_156 : decode M_Choices_layOut.2.1 156 = .ok (.iload 4, 2) := by decide +kernel
theorem d_Choices_layOut_158 : decode M_Choices_layOut.2.1 158 = .ok (.iconst 0, 1) := by decide +kernel
theorem d_Choices_layOut_159 : decode M_Choices_layOut.2.1 159 = .ok (.iastore, 1) := by decide +kernel
theorem d_Choices_layOut_160 : decode M_Choices_layOut.2.1 160 = .ok (.aload_n 0, 1) := by decide +kernel
theorem d_Choices_layOut_161 : decode M_Choices_layOut.2.1 161 = .ok (.getfield 29, 3) := by decide +kernel
theorem d_Choices_layOut_164 : decode M_Choices_layOut.2.1 164 = .ok (.iload 4, 2) := by decide +kernel
theorem d_Choices_layOut_166 : decode M_Choices_layOut.2.1 166 = .ok (.lconst 0, 1) := by decide +kernel
theorem d_Choices_layOut_167 : decode M_Choices_layOut.2.1 167 = .ok (.lastore, 1) := by decide +kernel
theorem d_Choices_layOut_168 : decode M_Choices_layOut.2.1 168 = .ok (.aload_n 0, 1) := by decide +kernel
theorem d_Choices_layOut_169 : decode M_Choices_layOut.2.1 169 = .ok (.aload_n 0, 1) := by decide +kernel
theorem d_Choices_layOut_170 : decode M_Choices_layOut.2.1 170 = .ok (.getfield 32, 3) := by decide +kernel
theorem d_Choices_layOut_173 : decode M_Choices_layOut.2.1 173 = .ok (.aload_n 0, 1) := by decide +kernel
theorem d_Choices_layOut_174 : decode M_Choices_layOut.2.1 174 = .ok (.getfield 23, 3) := by decide +kernel
theorem d_Choices_layOut_177 : decode M_Choices_layOut.2.1 177 = .ok (.iload 4, 2) := by decide +kernel
theorem d_Choices_layOut_179 : decode M_Choices_layOut.2.1 179 = .ok (.iaload, 1) := by decide +kernel
theorem d_Choices_layOut_180 : decode M_Choices_layOut.2.1 180 = .ok (.imul, 1) := by decide +kernel
theorem d_Choices_layOut_181 : decode M_Choices_layOut.2.1 181 = .ok (.sipush 20001, 3) := by decide +kernel
theorem d_Choices_layOut_184 : decode M_Choices_layOut.2.1 184 = .ok (.invokestatic 49, 3) := by decide +kernel
theorem xw_348 : (Jvm.Cond.methodLink "MarkerText$Choices" (49 : Nat) ({ cls := "java/lang/Math", name := "min", desc := "(II)I" } : Jvm.MethodName)) ∈ xT := xT_at 348 (by decide +kernel) (by decide +kernel)
theorem d_Choices_layOut_187 : decode M_Choices_layOut.2.1 187 = .ok (.putfield 32, 3) := by decide +kernel
theorem d_Choices_layOut_190 : decode M_Choices_layOut.2.1 190 = .ok (.iinc 4 1, 3) := by decide +kernel
theorem d_Choices_layOut_193 : decode M_Choices_layOut.2.1 193 = .ok (.goto (-180), 3) := by decide +kernel
theorem d_Choices_layOut_0 : decode M_Choices_layOut.2.1 0 = .ok (.aload_n 0, 1) := by decide +kernel
theorem d_Choices_layOut_1 : decode M_Choices_layOut.2.1 1 = .ok (.iconst 0, 1) := by decide +kernel
theorem d_Choices_layOut_2 : decode M_Choices_layOut.2.1 2 = .ok (.putfield 15, 3) := by decide +kernel
theorem d_Choices_layOut_5 : decode M_Choices_layOut.2.1 5 = .ok (.aload_n 0, 1) := by decide +kernel
theorem d_Choices_layOut_6 : decode M_Choices_layOut.2.1 6 = .ok (.iconst 1, 1) := by decide +kernel
theorem d_Choices_layOut_7 : decode M_Choices_layOut.2.1 7 = .ok (.putfield 32, 3) := by decide +kernel
theorem d_Choices_layOut_10 : decode M_Choices_layOut.2.1 10 = .ok (.iconst 0, 1) := by decide +kernel
theorem d_Choices_layOut_11 : decode M_Choices_layOut.2.1 11 = .ok (.istore 4, 2) := by decide +kernel
abbrev y_Choices_truths : MethodName := ⟨"MarkerText$Choices", "truths", "([LMarkerText$Condition;I)I"⟩
abbrev M_Choices_truths : XMt := (y_Choices_truths, prog_2_method_8_code, 5, (some .int))
theorem d_Choices_truths_5 : decode M_Choices_truths.2.1 5 = .ok (.iload 4, 2) := by decide +kernel
theorem d_Choices_truths_7 : decode M_Choices_truths.2.1 7 = .ok (.aload_n 1, 1) := by decide +kernel
theorem d_Choices_truths_8 : decode M_Choices_truths.2.1 8 = .ok (.arraylength, 1) := by decide +kernel
theorem d_Choices_truths_9 : decode M_Choices_truths.2.1 9 = .ok (.if_icmp .ge 50, 3) := by decide +kernel
theorem d_Choices_truths_59 : decode M_Choices_truths.2.1 59 = .ok (.iload_n 3, 1) := by decide +kernel
theorem d_Choices_truths_60 : decode M_Choices_truths.2.1 60 = .ok (.ireturn, 1) := by decide +kernel
theorem d_Choices_truths_12 : decode M_Choices_truths.2.1 12 = .ok (.iload_n 2, 1) := by decide +kernel
theorem d_Choices_truths_13 : decode M_Choices_truths.2.1 13 = .ok (.iload 4, 2) := by decide +kernel
theorem d_Choices_truths_15 : decode M_Choices_truths.2.1 15 = .ok (.ishr, 1) := by decide +kernel
theorem d_Choices_truths_16 : decode M_Choices_truths.2.1 16 = .ok (.iconst 1, 1) := by decide +kernel
theorem d_Choices_truths_17 : decode M_Choices_truths.2.1 17 = .ok (.iand, 1) := by decide +kernel
theorem d_Choices_truths_18 : decode M_Choices_truths.2.1 18 = .ok (.iconst 1, 1) := by decide +kernel
theorem d_Choices_truths_19 : decode M_Choices_truths.2.1 19 = .ok (.if_icmp .ne 34, 3) := by decide +kernel
theorem d_Choices_truths_53 : decode M_Choices_truths.2.1 53 = .ok (.iinc 4 1, 3) := by decide +kernel
theorem d_Choices_truths_56 : decode M_Choices_truths.2.1 56 = .ok (.goto (-51), 3) := by decide +kernel
theorem d_Choices_truths_0 : decode M_Choices_truths.2.1 0 = .ok (.iconst 0, 1) := by decide +kernel
theorem d_Choices_truths_1 : decode M_Choices_truths.2.1 1 = .ok (.istore_n 3, 1) := by decide +kernel
theorem d_Choices_truths_2 : decode M_Choices_truths.2.1 2 = .ok (.iconst 0, 1) := by decide +kernel
theorem d_Choices_truths_3 : decode M_Choices_truths.2.1 3 = .ok (.istore 4, 2) := by decide +kernel
end
section P1B
variable {l : Launch} {G : XG} {h : XH} {c n d : Nat}
theorem sh_at {j : Nat} (hj : j < 8) : ((0 : Int32) >>> (nI j &&& 31)) &&& 1 = 0 := by
  have : ∀ j < 8, ((0 : Int32) >>> (nI j &&& 31)) &&& 1 = 0 := by decide
  exact this j hj
theorem set_rep {v : Value} {m i : Nat} : (List.replicate m v).set i v = List.replicate m v := by
  apply List.ext_getElem?
  intro k
  rw [List.getElem?_set]
  split
  · subst_vars
    rw [List.length_replicate, List.getElem?_replicate]
  · rfl
/-- the cells of Choices while none are laid out -/
abbrev chL (h : XH) (o v st sa pk lv na ca : Nat) (cnt : Int32) (ss : List Value) : Prop := h o = some (k_Choices, [.ref v, .int 0, .ref st, .ref sa, .ref pk, .ref lv, .int cnt]) ∧ h st = some (k_astarts, List.replicate 6 (.int 0)) ∧ h sa = some (k_asamples, ss) ∧ h pk = some (k_apicks, List.replicate 6 (.int 0)) ∧ h lv = some (k_achl, List.replicate 6 (.long 0)) ∧ h na = some (k_aName, List.replicate 6 .null) ∧ h ca = some (k_aCondition, List.replicate 8 .null)
theorem c_layOut0 (hd : 1 ≤ d) {o na ca : Nat} (ho : ch0 h o) (hna : h na = some (k_aName, List.replicate 6 .null)) (hca : h ca = some (k_aCondition, List.replicate 8 .null)) : XM l G d M_Choices_layOut [.ref o, .ref na, .ref ca, .int 0] h c n (fun r h' c' n' => r = some (.int 1) ∧ (∃ v st sa pk lv, chL h' o v st sa pk lv na ca 1 (List.replicate 6 (.int 1)) ∧ (∃ F, xfr h h' F ∧ xno h F [k_MarkerText, k_Parting, k_aptr, k_apsz, k_apfi, k_apcl, k_apsa, k_MarkerTextModel, k_aint, k_along, k_aboolean, k_avals])) ∧ c' = c ∧ n' = n) := by
  obtain ⟨d, rfl⟩ : ∃ q, d = q + 1 := ⟨d - 1, by omega⟩
  obtain ⟨v, st, sa, pk, lv, eo, ev, est, esa, epk, elv⟩ := ho
  have hno : xno h [o, st, sa, pk, lv] [k_MarkerText, k_Parting, k_aptr, k_apsz, k_apfi, k_apcl, k_apsa, k_MarkerTextModel, k_aint, k_along, k_aboolean, k_avals] := (xno1 eo (by decide)).ap ((xno1 est (by decide)).ap ((xno1 esa (by decide)).ap ((xno1 epk (by decide)).ap (xno1 elv (by decide)))))
  refine XM.of (by decide +kernel) (Nat.le_of_ble_eq_true rfl) ?_
  have inner : ∀ (i : Nat), i < 6 → ∀ (Q : XPo) (h2 : XH) (e4 : Option Value), h2 ca = some (k_aCondition, List.replicate 8 .null) → XX l G M_Choices_layOut (d + 1) 77 [some (.ref o), some (.ref na), some (.ref ca), some (.int 0), some (.int (nI i)), some (.int (nI 8))] [] h2 c n Q → ∀ (k j : Nat), j + k = 8 → XX l G M_Choices_layOut (d + 1) 34 [some (.ref o), some (.ref na), some (.ref ca), some (.int 0), some (.int (nI i)), some (.int (nI j))] [] h2 c n Q := by
    intro i hi Q h2 e4 hc2 k77 k
    induction k with
    | zero =>
      intro j hj
      obtain rfl : j = 8 := by omega
      refine x_iload d_Choices_layOut_34 rfl ?_
      refine x_aload_n d_Choices_layOut_36 rfl rfl ?_
      refine x_alen (k := k_aCondition) rfl (Or.inl hc2) (v := nI 8) rfl d_Choices_layOut_37 ?_
      refine x_icmp_ge (tgt := 77) d_Choices_layOut_38 (by decide) (fun _ => ?_) (fun hn => absurd (nI_le (a := 8) (by omega) (by omega)) hn)
      exact k77
    | succ k ih =>
      intro j hj
      refine x_iload d_Choices_layOut_34 rfl ?_
      refine x_aload_n d_Choices_layOut_36 rfl rfl ?_
      refine x_alen (k := k_aCondition) rfl (Or.inl hc2) (v := nI 8) rfl d_Choices_layOut_37 ?_
      refine x_icmp_ge (tgt := 77) d_Choices_layOut_38 (by decide) (fun ht => absurd ht (nI_ge (b := 8) (by omega) (by omega))) (fun _ => ?_)
      refine x_iload_n d_Choices_layOut_41 rfl ?_
      refine x_iload d_Choices_layOut_42 rfl ?_
      refine x_ishr d_Choices_layOut_44 ?_
      refine x_iconst (v := 1) d_Choices_layOut_45 (by decide) ?_
      refine x_iand d_Choices_layOut_46 ?_
      refine x_iconst (v := 1) d_Choices_layOut_47 (by decide) ?_
      refine x_st (st' := [.int 1, .int 0]) (by rw [sh_at (by omega)]) ?_
      refine x_icmp_ne (tgt := 71) d_Choices_layOut_48 (by decide) (fun _ => ?_) (fun hn => absurd hn (by decide))
      refine x_iinc (v := nI (j + 1)) (L' := [_, _, _, _, _, _]) d_Choices_layOut_71 rfl (by exact xw_iinc1) rfl rfl ?_
      refine x_goto (tgt := 34) d_Choices_layOut_74 (by decide) ?_
      exact ih (j + 1) (by omega)
  have outer : ∀ (k i : Nat) (h2 : XH) (e5 : Option Value), i + k = 6 → chL h2 o v st sa pk lv na ca 1 (List.replicate i (.int 1) ++ List.replicate (6 - i) (.int 0)) → xfr h h2 [o, st, sa, pk, lv] → XW l G M_Choices_layOut (d + 1) 13 [some (.ref o), some (.ref na), some (.ref ca), some (.int 0), some (.int (nI i)), e5] [] h2 c n (fun r h' c' n' => r = some (.int 1) ∧ (∃ v st sa pk lv, chL h' o v st sa pk lv na ca 1 (List.replicate 6 (.int 1)) ∧ (∃ F, xfr h h' F ∧ xno h F [k_MarkerText, k_Parting, k_aptr, k_apsz, k_apfi, k_apcl, k_apsa, k_MarkerTextModel, k_aint, k_along, k_aboolean, k_avals])) ∧ c' = c ∧ n' = n) := by
    intro k
    induction k with
    | zero =>
      intro i h2 e5 hi hL hf
      obtain rfl : i = 6 := by omega
      obtain ⟨eo, -⟩ := id hL
      refine x_iload d_Choices_layOut_13 rfl ?_
      refine x_bipush (v := 6) d_Choices_layOut_15 (by decide) ?_
      refine x_icmp_ge (tgt := 196) d_Choices_layOut_17 (by decide) (fun _ => ?_) (fun hn => absurd (nI_le (a := 6) (by omega) (by omega)) hn)
      refine x_aload_n d_Choices_layOut_196 rfl rfl ?_
      refine x_get xf_Choices_32_Choices (Or.inl eo) rfl d_Choices_layOut_197 ?_
      refine x_sipush (v := 20000) d_Choices_layOut_200 (by decide) ?_
      refine x_icmp_gt (tgt := 210) d_Choices_layOut_203 (by decide) (fun ht => absurd ht (by decide)) (fun _ => ?_)
      refine x_iconst (v := 1) d_Choices_layOut_206 (by decide) ?_
      refine x_goto (tgt := 211) d_Choices_layOut_207 (by decide) ?_
      refine x_zret d_Choices_layOut_211 rfl rfl ?_
      exact ⟨rfl, ⟨v, st, sa, pk, lv, hL, _, hf, hno⟩, rfl, rfl⟩
    | succ k ih =>
      intro i h2 e5 hi hL hf
      obtain ⟨eo, est, esa, epk, elv, ena, eca⟩ := id hL
      have i6 : i < 6 := by omega
      have icl : (nI i).toNatClampNeg = i := nI_clamp (by omega)
      have at6 : ∀ w : Value, (List.replicate 6 w)[(nI i).toNatClampNeg]? = some w := fun w => by rw [icl, List.getElem?_replicate, if_pos i6]
      refine x_iload d_Choices_layOut_13 rfl ?_
      refine x_bipush (v := 6) d_Choices_layOut_15 (by decide) ?_
      refine x_icmp_ge (tgt := 196) d_Choices_layOut_17 (by decide) (fun ht => absurd ht (nI_ge (b := 6) (by omega) (by omega))) (fun _ => ?_)
      refine x_aload_n d_Choices_layOut_20 rfl rfl ?_
      refine x_get xf_Choices_19_Choices (Or.inl eo) rfl d_Choices_layOut_21 ?_
      refine x_iload d_Choices_layOut_24 rfl ?_
      refine x_aload_n d_Choices_layOut_26 rfl rfl ?_
      refine x_get xf_Choices_15_Choices (Or.inl eo) rfl d_Choices_layOut_27 ?_
      refine x_iast (k := k_astarts) rfl est (nI_pos (by omega)) (at6 _) d_Choices_layOut_30 ?_
      refine x_any (R := fun h3 => chL h3 o v st sa pk lv na ca 1 (List.replicate i (.int 1) ++ List.replicate (6 - i) (.int 0)) ∧ xfr h h3 [o, st, sa, pk, lv]) ⟨⟨(by rw [xup_ne (xne eo est (by decide))]; exact eo), (by rw [xup_self, set_rep]), (by rw [xup_ne (xne esa est (by decide))]; exact esa), (by rw [xup_ne (xne epk est (by decide))]; exact epk), (by rw [xup_ne (xne elv est (by decide))]; exact elv), (by rw [xup_ne (xne ena est (by decide))]; exact ena), (by rw [xup_ne (xne eca est (by decide))]; exact eca)⟩, hf.up (Or.inl (by simp))⟩ (fun h3 ⟨hL3, hf3⟩ => ?_)
      clear hL hf eo est esa epk elv ena eca
      obtain ⟨eo, est, esa, epk, elv, ena, eca⟩ := id hL3
      refine x_iconst (v := 0) d_Choices_layOut_31 (by decide) ?_
      refine x_istore (L' := [_, _, _, _, _, _]) d_Choices_layOut_32 rfl rfl ?_
      refine inner i i6 _ h3 none eca ?_ 8 0 (by omega)
      refine x_aload_n d_Choices_layOut_77 rfl rfl ?_
      refine x_get xf_Choices_15_Choices (Or.inl eo) rfl d_Choices_layOut_78 ?_
      refine x_aload_n d_Choices_layOut_81 rfl rfl ?_
      refine x_get xf_Choices_19_Choices (Or.inl eo) rfl d_Choices_layOut_82 ?_
      refine x_iload d_Choices_layOut_85 rfl ?_
      refine x_iald (k := k_astarts) rfl (Or.inl est) (nI_pos (by omega)) (at6 _) d_Choices_layOut_87 ?_
      refine x_isub d_Choices_layOut_88 ?_
      refine x_st (st' := [.int 0]) (by decide) ?_
      have sat : (List.replicate i (Value.int 1) ++ List.replicate (6 - i) (.int 0))[(nI i).toNatClampNeg]? = some (.int 0) := by
        rw [icl, List.getElem?_append_right (by simp), List.length_replicate, Nat.sub_self, List.getElem?_replicate, if_pos (by omega)]
      have sset : (List.replicate i (Value.int 1) ++ List.replicate (6 - i) (Value.int 0)).set (nI i).toNatClampNeg (Value.int 1) = List.replicate (i + 1) (Value.int 1) ++ List.replicate (6 - (i + 1)) (Value.int 0) := by
        obtain ⟨q, hq⟩ : ∃ q, 6 - i = q + 1 := ⟨6 - i - 1, by omega⟩
        rw [icl, List.set_append_right _ _ (by simp), List.length_replicate, Nat.sub_self, hq, List.replicate_succ, List.set_cons_zero, show 6 - (i + 1) = q by omega, List.replicate_succ', List.append_assoc]
        rfl
      have sat2 : (List.replicate (i + 1) (Value.int 1) ++ List.replicate (6 - (i + 1)) (.int 0))[(nI i).toNatClampNeg]? = some (.int 1) := by
        rw [icl, List.getElem?_append_left (by simp), List.getElem?_replicate, if_pos (by omega)]
      refine x_istore (L' := [_, _, _, _, _, _]) d_Choices_layOut_89 rfl rfl ?_
      refine x_iload d_Choices_layOut_91 rfl ?_
      refine x_if_le (tgt := 120) d_Choices_layOut_93 (by decide) (fun _ => ?_) (fun hn => absurd (by decide) hn)
      refine x_aload_n d_Choices_layOut_120 rfl rfl ?_
      refine x_get xf_Choices_23_Choices (Or.inl eo) rfl d_Choices_layOut_121 ?_
      refine x_iload d_Choices_layOut_124 rfl ?_
      refine x_iload d_Choices_layOut_126 rfl ?_
      refine x_if_le (tgt := 150) d_Choices_layOut_128 (by decide) (fun _ => ?_) (fun hn => absurd (by decide) hn)
      refine x_iconst (v := 1) d_Choices_layOut_150 (by decide) ?_
      refine x_iast (k := k_asamples) rfl esa (nI_pos (by omega)) sat d_Choices_layOut_151 ?_
      refine x_any (R := fun h3 => chL h3 o v st sa pk lv na ca 1 (List.replicate (i + 1) (.int 1) ++ List.replicate (6 - (i + 1)) (.int 0)) ∧ xfr h h3 [o, st, sa, pk, lv]) ⟨⟨(by rw [xup_ne (xne eo esa (by decide))]; exact eo), (by rw [xup_ne (xne est esa (by decide))]; exact est), (by rw [xup_self, sset]), (by rw [xup_ne (xne epk esa (by decide))]; exact epk), (by rw [xup_ne (xne elv esa (by decide))]; exact elv), (by rw [xup_ne (xne ena esa (by decide))]; exact ena), (by rw [xup_ne (xne eca esa (by decide))]; exact eca)⟩, hf3.up (Or.inl (by simp))⟩ (fun h4 ⟨hL4, hf4⟩ => ?_)
      clear hL3 hf3 eo est esa epk elv ena eca
      obtain ⟨eo, est, esa, epk, elv, ena, eca⟩ := id hL4
      refine x_aload_n d_Choices_layOut_152 rfl rfl ?_
      refine x_get xf_Choices_26_Choices (Or.inl eo) rfl d_Choices_layOut_153 ?_
      refine x_iload d_Choices_layOut_156 rfl ?_
      refine x_iconst (v := 0) d_Choices_layOut_158 (by decide) ?_
      refine x_iast (k := k_apicks) rfl epk (nI_pos (by omega)) (at6 _) d_Choices_layOut_159 ?_
      refine x_any (R := fun h3 => chL h3 o v st sa pk lv na ca 1 (List.replicate (i + 1) (.int 1) ++ List.replicate (6 - (i + 1)) (.int 0)) ∧ xfr h h3 [o, st, sa, pk, lv]) ⟨⟨(by rw [xup_ne (xne eo epk (by decide))]; exact eo), (by rw [xup_ne (xne est epk (by decide))]; exact est), (by rw [xup_ne (xne esa epk (by decide))]; exact esa), (by rw [xup_self, set_rep]), (by rw [xup_ne (xne elv epk (by decide))]; exact elv), (by rw [xup_ne (xne ena epk (by decide))]; exact ena), (by rw [xup_ne (xne eca epk (by decide))]; exact eca)⟩, hf4.up (Or.inl (by simp))⟩ (fun h5 ⟨hL5, hf5⟩ => ?_)
      clear hL4 hf4 eo est esa epk elv ena eca
      obtain ⟨eo, est, esa, epk, elv, ena, eca⟩ := id hL5
      refine x_aload_n d_Choices_layOut_160 rfl rfl ?_
      refine x_get xf_Choices_29_Choices (Or.inl eo) rfl d_Choices_layOut_161 ?_
      refine x_iload d_Choices_layOut_164 rfl ?_
      refine x_lconst (v := 0) d_Choices_layOut_166 (by decide) ?_
      refine x_last (k := k_achl) rfl elv (nI_pos (by omega)) (at6 _) d_Choices_layOut_167 ?_
      refine x_any (R := fun h3 => chL h3 o v st sa pk lv na ca 1 (List.replicate (i + 1) (.int 1) ++ List.replicate (6 - (i + 1)) (.int 0)) ∧ xfr h h3 [o, st, sa, pk, lv]) ⟨⟨(by rw [xup_ne (xne eo elv (by decide))]; exact eo), (by rw [xup_ne (xne est elv (by decide))]; exact est), (by rw [xup_ne (xne esa elv (by decide))]; exact esa), (by rw [xup_ne (xne epk elv (by decide))]; exact epk), (by rw [xup_self, set_rep]), (by rw [xup_ne (xne ena elv (by decide))]; exact ena), (by rw [xup_ne (xne eca elv (by decide))]; exact eca)⟩, hf5.up (Or.inl (by simp))⟩ (fun h6 ⟨hL6, hf6⟩ => ?_)
      clear hL5 hf5 eo est esa epk elv ena eca
      obtain ⟨eo, est, esa, epk, elv, ena, eca⟩ := id hL6
      refine x_aload_n d_Choices_layOut_168 rfl rfl ?_
      refine x_aload_n d_Choices_layOut_169 rfl rfl ?_
      refine x_get xf_Choices_32_Choices (Or.inl eo) rfl d_Choices_layOut_170 ?_
      refine x_aload_n d_Choices_layOut_173 rfl rfl ?_
      refine x_get xf_Choices_23_Choices (Or.inl eo) rfl d_Choices_layOut_174 ?_
      refine x_iload d_Choices_layOut_177 rfl ?_
      refine x_iald (k := k_asamples) rfl (Or.inl esa) (nI_pos (by omega)) sat2 d_Choices_layOut_179 ?_
      refine x_imul d_Choices_layOut_180 ?_
      refine x_sipush (v := 20001) d_Choices_layOut_181 (by decide) ?_
      refine x_mmin xw_348 xw_216 xw_10 xw_217 (Nat.le_of_ble_eq_true rfl) d_Choices_layOut_184 ?_
      refine x_top (w := .int 1) (by decide) ?_
      refine x_put xf_Choices_32_Choices xp_Choices_6 rfl rfl eo rfl rfl d_Choices_layOut_187 ?_
      refine x_any (R := fun h3 => chL h3 o v st sa pk lv na ca 1 (List.replicate (i + 1) (.int 1) ++ List.replicate (6 - (i + 1)) (.int 0)) ∧ xfr h h3 [o, st, sa, pk, lv]) ⟨⟨xup_self, (by rw [xup_ne (xne est eo (by decide))]; exact est), (by rw [xup_ne (xne esa eo (by decide))]; exact esa), (by rw [xup_ne (xne epk eo (by decide))]; exact epk), (by rw [xup_ne (xne elv eo (by decide))]; exact elv), (by rw [xup_ne (xne ena eo (by decide))]; exact ena), (by rw [xup_ne (xne eca eo (by decide))]; exact eca)⟩, hf6.up (Or.inl (by simp))⟩ (fun h7 ⟨hL7, hf7⟩ => ?_)
      refine x_iinc (v := nI (i + 1)) (L' := [_, _, _, _, _, _]) d_Choices_layOut_190 rfl (by exact xw_iinc1) rfl rfl ?_
      refine x_goto (tgt := 13) d_Choices_layOut_193 (by decide) ?_
      exact ih (i + 1) h7 _ (by omega) hL7 hf7
  refine x_aload_n d_Choices_layOut_0 rfl rfl ?_
  refine x_iconst (v := 0) d_Choices_layOut_1 (by decide) ?_
  refine x_put xf_Choices_15_Choices xp_Choices_1 rfl rfl eo rfl rfl d_Choices_layOut_2 ?_
  refine x_aload_n d_Choices_layOut_5 rfl rfl ?_
  refine x_iconst (v := 1) d_Choices_layOut_6 (by decide) ?_
  refine x_put xf_Choices_32_Choices xp_Choices_6 rfl rfl xup_self rfl rfl d_Choices_layOut_7 ?_
  have f1 : ∀ z w, xfr h (xup (xup h o z) o w) [o, st, sa, pk, lv] := fun z w => (xfr.rf.up (Or.inl (by simp))).up (Or.inl (by simp))
  refine x_any (R := fun h3 => chL h3 o v st sa pk lv na ca 1 (List.replicate 0 (.int 1) ++ List.replicate (6 - 0) (.int 0)) ∧ xfr h h3 [o, st, sa, pk, lv]) ⟨⟨xup_self, (by rw [xup_ne (xne est eo (by decide)), xup_ne (xne est eo (by decide))]; exact est), (by rw [xup_ne (xne esa eo (by decide)), xup_ne (xne esa eo (by decide))]; exact esa), (by rw [xup_ne (xne epk eo (by decide)), xup_ne (xne epk eo (by decide))]; exact epk), (by rw [xup_ne (xne elv eo (by decide)), xup_ne (xne elv eo (by decide))]; exact elv), (by rw [xup_ne (xne hna eo (by decide)), xup_ne (xne hna eo (by decide))]; exact hna), (by rw [xup_ne (xne hca eo (by decide)), xup_ne (xne hca eo (by decide))]; exact hca)⟩, f1 _ _⟩ (fun h3 ⟨hL3, hf3⟩ => ?_)
  refine x_iconst (v := 0) d_Choices_layOut_10 (by decide) ?_
  refine x_istore (L' := [_, _, _, _, _, _]) d_Choices_layOut_11 rfl rfl ?_
  exact outer 6 0 h3 _ (by omega) hL3 hf3
theorem c_truths0 {o ca : Nat} (hca : h ca = some (k_aCondition, List.replicate 8 .null)) : XM l G d M_Choices_truths [.ref o, .ref ca, .int 0] h c n (xSame (.int 0) h c n) := by
  refine XM.of (by decide +kernel) (Nat.le_of_ble_eq_true rfl) ?_
  have lp : ∀ (k j : Nat), j + k = 8 → XW l G M_Choices_truths d 5 [some (.ref o), some (.ref ca), some (.int 0), some (.int 0), some (.int (nI j))] [] h c n (xSame (.int 0) h c n) := by
    intro k
    induction k with
    | zero =>
      intro j hj
      obtain rfl : j = 8 := by omega
      refine x_iload d_Choices_truths_5 rfl ?_
      refine x_aload_n d_Choices_truths_7 rfl rfl ?_
      refine x_alen (k := k_aCondition) rfl (Or.inl hca) (v := nI 8) rfl d_Choices_truths_8 ?_
      refine x_icmp_ge (tgt := 59) d_Choices_truths_9 (by decide) (fun _ => ?_) (fun hn => absurd (nI_le (a := 8) (by omega) (by omega)) hn)
      refine x_iload_n d_Choices_truths_59 rfl ?_
      refine x_iret d_Choices_truths_60 rfl ?_
      exact ⟨rfl, rfl, rfl, rfl⟩
    | succ k ih =>
      intro j hj
      refine x_iload d_Choices_truths_5 rfl ?_
      refine x_aload_n d_Choices_truths_7 rfl rfl ?_
      refine x_alen (k := k_aCondition) rfl (Or.inl hca) (v := nI 8) rfl d_Choices_truths_8 ?_
      refine x_icmp_ge (tgt := 59) d_Choices_truths_9 (by decide) (fun ht => absurd ht (nI_ge (b := 8) (by omega) (by omega))) (fun _ => ?_)
      refine x_iload_n d_Choices_truths_12 rfl ?_
      refine x_iload d_Choices_truths_13 rfl ?_
      refine x_ishr d_Choices_truths_15 ?_
      refine x_iconst (v := 1) d_Choices_truths_16 (by decide) ?_
      refine x_iand d_Choices_truths_17 ?_
      refine x_iconst (v := 1) d_Choices_truths_18 (by decide) ?_
      refine x_st (st' := [.int 1, .int 0]) (by rw [sh_at (by omega)]) ?_
      refine x_icmp_ne (tgt := 53) d_Choices_truths_19 (by decide) (fun _ => ?_) (fun hn => absurd hn (by decide))
      refine x_iinc (v := nI (j + 1)) (L' := [_, _, _, _, _]) d_Choices_truths_53 rfl (by exact xw_iinc1) rfl rfl ?_
      refine x_goto (tgt := 5) d_Choices_truths_56 (by decide) ?_
      exact ih (j + 1) (by omega)
  refine x_iconst (v := 0) d_Choices_truths_0 (by decide) ?_
  refine x_istore_n (L' := [_, _, _, _, _]) d_Choices_truths_1 rfl rfl ?_
  refine x_iconst (v := 0) d_Choices_truths_2 (by decide) ?_
  refine x_istore (L' := [_, _, _, _, _]) d_Choices_truths_3 rfl rfl ?_
  exact lp 8 0 (by omega)
end P1B
