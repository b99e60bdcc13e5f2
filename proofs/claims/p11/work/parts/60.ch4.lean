section
abbrev y_Choices_levelOfPick : MethodName := ⟨"MarkerText$Choices", "levelOfPick", "(I)J"⟩
abbrev M_Choices_levelOfPick : XMt := (y_Choices_levelOfPick, prog_2_method_7_code, 4, (some .long))
theorem d_Choices_levelOfPick_0 : decode M_Choices_levelOfPick.2.1 0 = .ok (.aload_n 0, 1) := by decide +kernel
theorem d_Choices_levelOfPick_1 : decode M_Choices_levelOfPick.2.1 1 = .ok (.getfield 26, 3) := by decide +kernel
theorem d_Choices_levelOfPick_4 : decode M_Choices_levelOfPick.2.1 4 = .ok (.iload_n 1, 1) := by decide +kernel
theorem d_Choices_levelOfPick_5 : decode M_Choices_levelOfPick.2.1 5 = .ok (.iaload, 1) := by decide +kernel
theorem d_Choices_levelOfPick_6 : decode M_Choices_levelOfPick.2.1 6 = .ok (.istore_n 2, 1) := by decide +kernel
theorem d_Choices_levelOfPick_7 : decode M_Choices_levelOfPick.2.1 7 = .ok (.aload_n 0, 1) := by decide +kernel
theorem d_Choices_levelOfPick_8 : decode M_Choices_levelOfPick.2.1 8 = .ok (.getfield 19, 3) := by decide +kernel
theorem d_Choices_levelOfPick_11 : decode M_Choices_levelOfPick.2.1 11 = .ok (.iload_n 1, 1) := by decide +kernel
theorem d_Choices_levelOfPick_12 : decode M_Choices_levelOfPick.2.1 12 = .ok (.iaload, 1) := by decide +kernel
theorem d_Choices_levelOfPick_13 : decode M_Choices_levelOfPick.2.1 13 = .ok (.iload_n 2, 1) := by decide +kernel
theorem d_Choices_levelOfPick_14 : decode M_Choices_levelOfPick.2.1 14 = .ok (.iconst 2, 1) := by decide +kernel
theorem d_Choices_levelOfPick_15 : decode M_Choices_levelOfPick.2.1 15 = .ok (.idiv, 1) := by decide +kernel
theorem d_Choices_levelOfPick_16 : decode M_Choices_levelOfPick.2.1 16 = .ok (.iconst 1, 1) := by decide +kernel
theorem d_Choices_levelOfPick_17 : decode M_Choices_levelOfPick.2.1 17 = .ok (.isub, 1) := by decide +kernel
theorem d_Choices_levelOfPick_18 : decode M_Choices_levelOfPick.2.1 18 = .ok (.iconst 0, 1) := by decide +kernel
theorem d_Choices_levelOfPick_19 : decode M_Choices_levelOfPick.2.1 19 = .ok (.invokestatic 93, 3) := by decide +kernel
theorem xw_362 : (Jvm.Cond.methodLink "MarkerText$Choices" (93 : Nat) ({ cls := "java/lang/Math", name := "max", desc := "(II)I" } : Jvm.MethodName)) ∈ xT := xT_at 362 (by decide +kernel) (by decide +kernel)
theorem d_Choices_levelOfPick_22 : decode M_Choices_levelOfPick.2.1 22 = .ok (.iadd, 1) := by decide +kernel
theorem d_Choices_levelOfPick_23 : decode M_Choices_levelOfPick.2.1 23 = .ok (.istore_n 3, 1) := by decide +kernel
theorem d_Choices_levelOfPick_24 : decode M_Choices_levelOfPick.2.1 24 = .ok (.iload_n 2, 1) := by decide +kernel
theorem d_Choices_levelOfPick_25 : decode M_Choices_levelOfPick.2.1 25 = .ok (.ifCond .le 11, 3) := by decide +kernel
theorem d_Choices_levelOfPick_36 : decode M_Choices_levelOfPick.2.1 36 = .ok (.lconst 0, 1) := by decide +kernel
theorem d_Choices_levelOfPick_37 : decode M_Choices_levelOfPick.2.1 37 = .ok (.lreturn, 1) := by decide +kernel
theorem d_Choices_levelOfPick_28 : decode M_Choices_levelOfPick.2.1 28 = .ok (.iload_n 3, 1) := by decide +kernel
theorem d_Choices_levelOfPick_29 : decode M_Choices_levelOfPick.2.1 29 = .ok (.aload_n 0, 1) := by decide +kernel
theorem d_Choices_levelOfPick_30 : decode M_Choices_levelOfPick.2.1 30 = .ok (.getfield 15, 3) := by decide +kernel
theorem d_Choices_levelOfPick_33 : decode M_Choices_levelOfPick.2.1 33 = .ok (.if_icmp .lt 5, 3) := by decide +kernel
theorem d_Choices_levelOfPick_38 : decode M_Choices_levelOfPick.2.1 38 = .ok (.iload_n 2, 1) := by decide +kernel
theorem d_Choices_levelOfPick_39 : decode M_Choices_levelOfPick.2.1 39 = .ok (.iconst 1, 1) := by decide +kernel
theorem d_Choices_levelOfPick_40 : decode M_Choices_levelOfPick.2.1 40 = .ok (.if_icmp .ne 14, 3) := by decide +kernel
theorem d_Choices_levelOfPick_43 : decode M_Choices_levelOfPick.2.1 43 = .ok (.aload_n 0, 1) := by decide +kernel
theorem d_Choices_levelOfPick_44 : decode M_Choices_levelOfPick.2.1 44 = .ok (.getfield 11, 3) := by decide +kernel
theorem d_Choices_levelOfPick_47 : decode M_Choices_levelOfPick.2.1 47 = .ok (.iload_n 3, 1) := by decide +kernel
theorem d_Choices_levelOfPick_48 : decode M_Choices_levelOfPick.2.1 48 = .ok (.laload, 1) := by decide +kernel
theorem d_Choices_levelOfPick_49 : decode M_Choices_levelOfPick.2.1 49 = .ok (.lconst 1, 1) := by decide +kernel
theorem d_Choices_levelOfPick_50 : decode M_Choices_levelOfPick.2.1 50 = .ok (.lsub, 1) := by decide +kernel
theorem d_Choices_levelOfPick_51 : decode M_Choices_levelOfPick.2.1 51 = .ok (.goto 14, 3) := by decide +kernel
theorem d_Choices_levelOfPick_65 : decode M_Choices_levelOfPick.2.1 65 = .ok (.lreturn, 1) := by decide +kernel
theorem d_Choices_levelOfPick_54 : decode M_Choices_levelOfPick.2.1 54 = .ok (.aload_n 0, 1) := by decide +kernel
theorem d_Choices_levelOfPick_55 : decode M_Choices_levelOfPick.2.1 55 = .ok (.getfield 11, 3) := by decide +kernel
theorem d_Choices_levelOfPick_58 : decode M_Choices_levelOfPick.2.1 58 = .ok (.iload_n 3, 1) := by decide +kernel
theorem d_Choices_levelOfPick_59 : decode M_Choices_levelOfPick.2.1 59 = .ok (.laload, 1) := by decide +kernel
theorem d_Choices_levelOfPick_60 : decode M_Choices_levelOfPick.2.1 60 = .ok (.iload_n 2, 1) := by decide +kernel
theorem d_Choices_levelOfPick_61 : decode M_Choices_levelOfPick.2.1 61 = .ok (.iconst 2, 1) := by decide +kernel
theorem d_Choices_levelOfPick_62 : decode M_Choices_levelOfPick.2.1 62 = .ok (.irem, 1) := by decide +kernel
theorem d_Choices_levelOfPick_63 : decode M_Choices_levelOfPick.2.1 63 = .ok (.i2l, 1) := by decide +kernel
theorem d_Choices_levelOfPick_64 : decode M_Choices_levelOfPick.2.1 64 = .ok (.ladd, 1) := by decide +kernel
end
section CH4
variable {l : Launch} {G : XG} {h : XH} {c n d : Nat}
theorem half_max {pk : Nat} (hp : pk < 2 ^ 31) : (if nI (pk / 2) - 1 < 0 then 0 else nI (pk / 2) - 1) = nI (pk / 2 - 1) := by
  by_cases hz : pk / 2 = 0
  · rw [hz]
    decide
  · have e : nI (pk / 2) - 1 = nI (pk / 2 - 1) := by rw [show (1 : Int32) = nI 1 from rfl, pk_sub (by omega)]
    rw [e, if_neg (nI_pos (by omega))]
/-- the level of a SAMPLE of a name whose VALUES begin at a place -/
def lop (vs : List Nat) (us st pk : Nat) : Nat := if pk = 0 ∨ us ≤ st + (pk / 2 - 1) then 0 else if pk = 1 then vs.getD (st + (pk / 2 - 1)) 0 - 1 else vs.getD (st + (pk / 2 - 1)) 0 + pk % 2
theorem lvv_at {vs : List Nat} {i : Nat} (hi : i < vs.length) : (vs.map (fun v => Value.long (lN v)))[i]? = some (.long (lN (vs.getD i 0))) := by
  rw [List.getElem?_map, List.getElem?_eq_getElem hi, List.getD_eq_getElem?_getD, List.getElem?_eq_getElem hi]
  rfl
theorem iv_at {us : List Nat} {i : Nat} (hi : i < us.length) : (xiv us)[i]? = some (.int (nI (us.getD i 0))) := by
  rw [xiv_at hi, List.getD_eq_getElem?_getD, List.getElem?_eq_getElem hi]
  rfl
theorem c_levelOfPick (hd : 1 ≤ d) {o us co j : Nat} {vs st sa pk lv : List Nat} (hc : isCh h o vs us st sa pk lv co) (hl : vs.length = 356) (hu : us ≤ 356) (hs : st.length = 6) (hp : pk.length = 6) (hj : j < 6) (hs2 : st.getD j 0 ≤ 356) (hp2 : pk.getD j 0 ≤ 20001) (hv1 : ∀ i, i < us → 1 ≤ vs.getD i 0) : XM l G d M_Choices_levelOfPick [.ref o, .int (nI j)] h c n (xSame (.long (lN (lop vs us (st.getD j 0) (pk.getD j 0)))) h c n) := by
  obtain ⟨d, rfl⟩ : ∃ q, d = q + 1 := ⟨d - 1, by omega⟩
  obtain ⟨cv, cs, ca, cp, cl, e0, e1, e2, e3, e4, e5⟩ := id hc
  refine XM.of (by decide +kernel) (Nat.le_of_ble_eq_true rfl) ?_
  refine x_aload_n d_Choices_levelOfPick_0 rfl rfl ?_
  refine x_get xf_Choices_26_Choices (Or.inl e0) rfl d_Choices_levelOfPick_1 ?_
  refine x_iload_n d_Choices_levelOfPick_4 rfl ?_
  refine x_iald (k := k_apicks) rfl (Or.inl e4) (nI_pos (by omega)) (by rw [nI_clamp (by omega)]; exact iv_at (by omega)) d_Choices_levelOfPick_5 ?_
  refine x_istore_n (L' := [_, _, _, _]) d_Choices_levelOfPick_6 rfl rfl ?_
  refine x_aload_n d_Choices_levelOfPick_7 rfl rfl ?_
  refine x_get xf_Choices_19_Choices (Or.inl e0) rfl d_Choices_levelOfPick_8 ?_
  refine x_iload_n d_Choices_levelOfPick_11 rfl ?_
  refine x_iald (k := k_astarts) rfl (Or.inl e2) (nI_pos (by omega)) (by rw [nI_clamp (by omega)]; exact iv_at (by omega)) d_Choices_levelOfPick_12 ?_
  refine x_iload_n d_Choices_levelOfPick_13 rfl ?_
  refine x_iconst (v := 2) d_Choices_levelOfPick_14 (by decide) ?_
  refine x_idiv d_Choices_levelOfPick_15 (by decide) ?_
  refine x_top (w := .int (nI (pk.getD j 0 / 2))) (by rw [show (2 : Int32) = nI 2 from rfl, pk_div (by omega) (by omega) (by omega)]) ?_
  refine x_iconst (v := 1) d_Choices_levelOfPick_16 (by decide) ?_
  refine x_isub d_Choices_levelOfPick_17 ?_
  refine x_iconst (v := 0) d_Choices_levelOfPick_18 (by decide) ?_
  refine x_mmax xw_362 xw_198 xw_10 xw_199 (Nat.le_of_ble_eq_true rfl) d_Choices_levelOfPick_19 ?_
  refine x_top (w := .int (nI (pk.getD j 0 / 2 - 1))) (by rw [half_max (by omega)]) ?_
  refine x_iadd d_Choices_levelOfPick_22 ?_
  refine x_top (w := .int (nI (st.getD j 0 + (pk.getD j 0 / 2 - 1)))) (by rw [nI_add]) ?_
  unfold lop
  by_cases h0 : pk.getD j 0 = 0
  · rw [if_pos (Or.inl h0)]
    refine x_istore_n (L' := [_, _, _, _]) d_Choices_levelOfPick_23 rfl rfl ?_
    refine x_iload_n d_Choices_levelOfPick_24 rfl ?_
    refine x_if_le (tgt := 36) d_Choices_levelOfPick_25 (by decide) (fun _ => ?_) (fun hn => absurd (by rw [h0]; decide) hn)
    refine x_lconst (v := 0) d_Choices_levelOfPick_36 (by decide) ?_
    refine x_lret d_Choices_levelOfPick_37 rfl ?_
    exact ⟨rfl, rfl, rfl, rfl⟩
  · by_cases h2 : us ≤ st.getD j 0 + (pk.getD j 0 / 2 - 1)
    · rw [if_pos (Or.inr h2)]
      refine x_istore_n (L' := [_, _, _, _]) d_Choices_levelOfPick_23 rfl rfl ?_
      refine x_iload_n d_Choices_levelOfPick_24 rfl ?_
      refine x_if_le (tgt := 36) d_Choices_levelOfPick_25 (by decide) (fun ht => absurd ht (nI_nle (by omega) (by omega))) (fun _ => ?_)
      refine x_iload_n d_Choices_levelOfPick_28 rfl ?_
      refine x_aload_n d_Choices_levelOfPick_29 rfl rfl ?_
      refine x_get xf_Choices_15_Choices (Or.inl e0) rfl d_Choices_levelOfPick_30 ?_
      refine x_icmp_lt (tgt := 38) d_Choices_levelOfPick_33 (by decide) (fun ht => absurd ht (nI_nlt h2 (by omega))) (fun _ => ?_)
      refine x_lconst (v := 0) d_Choices_levelOfPick_36 (by decide) ?_
      refine x_lret d_Choices_levelOfPick_37 rfl ?_
      exact ⟨rfl, rfl, rfl, rfl⟩
    · rw [if_neg (fun z => z.elim h0 h2)]
      have hv := hv1 (st.getD j 0 + (pk.getD j 0 / 2 - 1)) (by omega)
      by_cases h3 : pk.getD j 0 = 1
      · rw [if_pos h3]
        refine x_istore_n (L' := [_, _, _, _]) d_Choices_levelOfPick_23 rfl rfl ?_
        refine x_iload_n d_Choices_levelOfPick_24 rfl ?_
        refine x_if_le (tgt := 36) d_Choices_levelOfPick_25 (by decide) (fun ht => absurd ht (nI_nle (by omega) (by omega))) (fun _ => ?_)
        refine x_iload_n d_Choices_levelOfPick_28 rfl ?_
        refine x_aload_n d_Choices_levelOfPick_29 rfl rfl ?_
        refine x_get xf_Choices_15_Choices (Or.inl e0) rfl d_Choices_levelOfPick_30 ?_
        refine x_icmp_lt (tgt := 38) d_Choices_levelOfPick_33 (by decide) (fun _ => ?_) (fun hn => absurd (nI_lt (by omega) (by omega)) hn)
        refine x_iload_n d_Choices_levelOfPick_38 rfl ?_
        refine x_iconst (v := 1) d_Choices_levelOfPick_39 (by decide) ?_
        refine x_icmp_ne (tgt := 54) d_Choices_levelOfPick_40 (by decide) (fun ht => absurd (by rw [h3]; rfl) ht) (fun _ => ?_)
        refine x_aload_n d_Choices_levelOfPick_43 rfl rfl ?_
        refine x_get xf_Choices_11_Choices (Or.inl e0) rfl d_Choices_levelOfPick_44 ?_
        refine x_iload_n d_Choices_levelOfPick_47 rfl ?_
        refine x_lald (k := k_achv) rfl (Or.inl e1) (nI_pos (by omega)) (by rw [nI_clamp (by omega)]; exact lvv_at (by omega)) d_Choices_levelOfPick_48 ?_
        refine x_lconst (v := 1) d_Choices_levelOfPick_49 (by decide) ?_
        refine x_lsub d_Choices_levelOfPick_50 ?_
        refine x_top (w := .long (lN (vs.getD (st.getD j 0 + (pk.getD j 0 / 2 - 1)) 0 - 1))) (by rw [show (1 : Int64) = lN 1 from rfl, lN_sub hv]) ?_
        refine x_goto (tgt := 65) d_Choices_levelOfPick_51 (by decide) ?_
        refine x_lret d_Choices_levelOfPick_65 rfl ?_
        exact ⟨rfl, rfl, rfl, rfl⟩
      · rw [if_neg h3]
        refine x_istore_n (L' := [_, _, _, _]) d_Choices_levelOfPick_23 rfl rfl ?_
        refine x_iload_n d_Choices_levelOfPick_24 rfl ?_
        refine x_if_le (tgt := 36) d_Choices_levelOfPick_25 (by decide) (fun ht => absurd ht (nI_nle (by omega) (by omega))) (fun _ => ?_)
        refine x_iload_n d_Choices_levelOfPick_28 rfl ?_
        refine x_aload_n d_Choices_levelOfPick_29 rfl rfl ?_
        refine x_get xf_Choices_15_Choices (Or.inl e0) rfl d_Choices_levelOfPick_30 ?_
        refine x_icmp_lt (tgt := 38) d_Choices_levelOfPick_33 (by decide) (fun _ => ?_) (fun hn => absurd (nI_lt (by omega) (by omega)) hn)
        refine x_iload_n d_Choices_levelOfPick_38 rfl ?_
        refine x_iconst (v := 1) d_Choices_levelOfPick_39 (by decide) ?_
        refine x_icmp_ne (tgt := 54) d_Choices_levelOfPick_40 (by decide) (fun _ => ?_) (fun hn => absurd hn (fun z => h3 ((nI_eq (b := 1) (by omega) (by omega)).mp z)))
        refine x_aload_n d_Choices_levelOfPick_54 rfl rfl ?_
        refine x_get xf_Choices_11_Choices (Or.inl e0) rfl d_Choices_levelOfPick_55 ?_
        refine x_iload_n d_Choices_levelOfPick_58 rfl ?_
        refine x_lald (k := k_achv) rfl (Or.inl e1) (nI_pos (by omega)) (by rw [nI_clamp (by omega)]; exact lvv_at (by omega)) d_Choices_levelOfPick_59 ?_
        refine x_iload_n d_Choices_levelOfPick_60 rfl ?_
        refine x_iconst (v := 2) d_Choices_levelOfPick_61 (by decide) ?_
        refine x_irem d_Choices_levelOfPick_62 (by decide) ?_
        refine x_top (w := .int (nI (pk.getD j 0 % 2))) (by rw [show (2 : Int32) = nI 2 from rfl, pk_rem (by omega) (by omega) (by omega)]) ?_
        refine x_i2l d_Choices_levelOfPick_63 ?_
        refine x_ladd d_Choices_levelOfPick_64 ?_
        refine x_top (w := .long (lN (vs.getD (st.getD j 0 + (pk.getD j 0 / 2 - 1)) 0 + pk.getD j 0 % 2))) (by rw [nI_l (by omega), lN_add]) ?_
        refine x_lret d_Choices_levelOfPick_65 rfl ?_
        exact ⟨rfl, rfl, rfl, rfl⟩
end CH4
