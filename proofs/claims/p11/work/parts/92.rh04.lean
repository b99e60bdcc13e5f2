section

end
section RH4
variable {l : Launch} {G : XG} {h : XH} {c n d : Nat} {o : Nat} {rf : Nat → Nat} {S : MS}
/-- where a fault is set -/
theorem flt {a v w : Int} (h : (w < 0 ∧ a = v) ∨ (0 ≤ w ∧ a = w)) (hw : w = -1) : a = v := by omega
theorem r_expectX {t : List Nat} {Ns : List NmT} {p k : Nat} (hd : 1 ≤ d) (hk : 0 < k ∧ k < 128) (hc : cx t Ns S) (h27 : S.1 27 = p) (hp : p ≤ t.length) (hw : S.1 29 = -1) : RM l G d M_Mo_expect [.ref o, .int (zI (k : Nat))] o rf S (fun v S' => v = none ∧ rSm S S' [27, 29] [] [] ∧ ((chr t (skp t p) = k ∧ S'.1 29 = -1 ∧ S'.1 27 = (skp t p + 1 : Nat)) ∨ (chr t (skp t p) ≠ k ∧ S'.1 29 = (skp t p : Nat) ∧ S'.1 27 = (skp t p : Nat)))) := by
  obtain ⟨d, rfl⟩ : ∃ q, d = q + 1 := ⟨d - 1, by omega⟩
  intro H0 c n hR
  have hsk := skp_le hp
  have hl := hc.2.1.2
  have hb := nw_b (p := skp t p) hc.2.1.1
  have hiff := nw_eq (p := skp t p) (ch := k) hc.2.1.1 hk.1
  have hc1 : cx t Ns (sp S 27 (skp t p : Nat)) := hc.sm (js := [27]) (is := []) (ls := []) (rSm.r0.sp (by decide)) (by decide) (by decide)
  refine XM.of (by decide +kernel) (Nat.le_of_ble_eq_true rfl) ?_
  have hX : xonly H0 H0 RKs := xonly.rf
  refine x_aload_n d_Mo_expect_0 rfl rfl ?_
  refine x_callV (As := []) (k := k_MarkerTextModel) rfl xcv_Mo_225_Mo (Or.inl hR.1) (RM.ap hR (r_skipX hc h27 hp)) rfl rfl (Nat.le_of_ble_eq_true rfl) d_Mo_expect_1 ?_
  rintro v1 h cq nq ⟨S1, hR, hX1, rfl, rfl, rfl, rfl⟩
  replace hX := hX.tr hX1
  refine x_aload_n d_Mo_expect_4 rfl rfl ?_
  refine x_callV (As := []) (k := k_MarkerTextModel) rfl xcv_Mo_228_Mo (Or.inl hR.1) (RM.ap hR (r_nowX hc1 rfl)) rfl rfl (Nat.le_of_ble_eq_true rfl) d_Mo_expect_5 ?_
  rintro v5 h cq nq ⟨S5, hR, hX5, rfl, rfl, hE5, rfl⟩
  replace hE5 := Eq.symm hE5
  subst hE5
  replace hX := hX.tr hX5
  refine x_iload_n d_Mo_expect_8 rfl ?_
  refine z_icmp_ne (tgt := 25) d_Mo_expect_9 (by decide) (by omega) (by omega) (fun hc9 => ?_) (fun hc9 => ?_)
  · refine x_aload_n d_Mo_expect_25 rfl rfl ?_
    refine x_aload_n d_Mo_expect_26 rfl rfl ?_
    refine x_get xf_Mo_193_Mo (Or.inl hR.1) (v := .int (zI ((skp t p : Nat) : Int))) rfl d_Mo_expect_27 ?_
    have hb27 : inR ((skp t p : Nat) : Int) := hR.2.2.2 27
    refine x_callV (As := [_]) (k := k_MarkerTextModel) rfl xcv_Mo_218_Mo (Or.inl hR.1) (RM.ap hR (r_fault (by omega))) rfl rfl (Nat.le_of_ble_eq_true rfl) d_Mo_expect_30 ?_
    rintro v30 h cq nq ⟨S30, hR, hX30, rfl, rfl, a30, rfl, rfl, ha30⟩
    replace hX := hX.tr hX30
    skip
    refine x_vret d_Mo_expect_33 rfl ?_
    first | exact ⟨_, hR, hX, rfl, rfl, rfl, (rSm.r0.sp (j := 27) (by decide)).sp (j := 29) (by decide), Or.inr ⟨fun z => by have := hiff.mpr z; omega, by show a30 = _; exact flt ha30 hw, rfl⟩⟩ | exact ⟨_, hR, hX, rfl, rfl, rfl, (rSm.r0.sp (j := 27) (by decide)).sp (j := 27) (by decide), Or.inl ⟨hiff.mp (by omega), hw, by show ((skp t p : Nat) : Int) + 1 = ((skp t p + 1 : Nat) : Int); omega⟩⟩
  · refine x_aload_n d_Mo_expect_12 rfl rfl ?_
    refine x_dup d_Mo_expect_13 rfl ?_
    refine x_get xf_Mo_193_Mo (Or.inl hR.1) (v := .int (zI ((skp t p : Nat) : Int))) rfl d_Mo_expect_14 ?_
    have hb14 : inR ((skp t p : Nat) : Int) := hR.2.2.2 27
    refine x_iconst (v := zI 1) d_Mo_expect_17 (by decide) ?_
    refine z_iadd d_Mo_expect_18 ?_
    refine r_put xf_Mo_193_Mo xp_Mo_27 hR hX (by omega) rfl rfl d_Mo_expect_19 ?_
    intro h hR hX
    refine x_goto (tgt := 33) d_Mo_expect_22 (by decide) ?_
    skip
    refine x_vret d_Mo_expect_33 rfl ?_
    first | exact ⟨_, hR, hX, rfl, rfl, rfl, (rSm.r0.sp (j := 27) (by decide)).sp (j := 29) (by decide), Or.inr ⟨fun z => by have := hiff.mpr z; omega, by show a30 = _; exact flt ha30 hw, rfl⟩⟩ | exact ⟨_, hR, hX, rfl, rfl, rfl, (rSm.r0.sp (j := 27) (by decide)).sp (j := 27) (by decide), Or.inl ⟨hiff.mp (by omega), hw, by show ((skp t p : Nat) : Int) + 1 = ((skp t p + 1 : Nat) : Int); omega⟩⟩
/-- how operator() ends, in full -/
def oqX (t : List Nat) (p : Nat) (S : MS) : Option Value → MS → Prop := fun v S' => ∃ r : Int, v = some (.int (zI r)) ∧ (0 ≤ r ∧ r ≤ 5) ∧ rSm S S' [27, 29] [] [] ∧ (S.1 27 + 1 ≤ S'.1 27 ∧ S'.1 27 ≤ S.1 2 + 1) ∧ (((opr t p).2.1 = none ∧ S'.1 29 = ((opr t p).1 : Nat)) ∨ ((opr t p).2.1 = some (acR r) ∧ S'.1 29 = -1 ∧ S'.1 27 = ((opr t p).1 : Nat) ∧ S'.1 27 ≤ S.1 2 ∧ 32 :: ((opr t p).2.2 ++ [32]) = sgL r))
theorem opr_x {t : List Nat} {p : Nat} (h : ¬ (chr t p = 61 ∨ chr t p = 33 ∨ chr t p = 60 ∨ chr t p = 62)) : opr t p = (p, none, []) := by
  unfold opr
  rw [if_neg h]
theorem opr_2 {t : List Nat} {p : Nat} (h : chr t p = 61 ∨ chr t p = 33 ∨ chr t p = 60 ∨ chr t p = 62) (h2 : chr t (p + 1) = 61) : opr t p = (p + 2, some (if chr t p = 61 then 2 else if chr t p = 33 then 13 else if chr t p = 60 then 3 else 6), [chr t p, 61]) := by
  unfold opr
  rw [if_pos h, if_pos h2]
theorem opr_1 {t : List Nat} {p : Nat} (h : chr t p = 61 ∨ chr t p = 33 ∨ chr t p = 60 ∨ chr t p = 62) (h2 : ¬ chr t (p + 1) = 61) : opr t p = (p + 1, (if chr t p = 61 then none else if chr t p = 33 then none else if chr t p = 60 then some 1 else some 4), [chr t p]) := by
  unfold opr
  rw [if_pos h, if_neg h2]
theorem r_operatorX {t : List Nat} {Ns : List NmT} {p : Nat} (hd : 1 ≤ d) (hc : cx t Ns S) (h27 : S.1 27 = p) (hp : p ≤ t.length) (hw : S.1 29 = -1) : RM l G d M_Mo_operator [.ref o] o rf S (oqX t p S) := by
  obtain ⟨d, rfl⟩ : ∃ q, d = q + 1 := ⟨d - 1, by omega⟩
  intro H0 c n hR
  have hl := hc.2.1.2
  have hs := hc.1.1
  have hb1 := nw_b (p := p) hc.2.1.1
  have hb2 := nw_b (p := p + 1) hc.2.1.1
  have e61 := nw_eq (p := p) (ch := 61) hc.2.1.1 (by decide)
  have e33 := nw_eq (p := p) (ch := 33) hc.2.1.1 (by decide)
  have e60 := nw_eq (p := p) (ch := 60) hc.2.1.1 (by decide)
  have e62 := nw_eq (p := p) (ch := 62) hc.2.1.1 (by decide)
  have f61 := nw_eq (p := p + 1) (ch := 61) hc.2.1.1 (by decide)
  have hin : chr t p ≠ 0 → p < t.length := fun z => Nat.lt_of_not_le (fun q => z (chr_out q))
  have hin2 : chr t (p + 1) ≠ 0 → p + 1 < t.length := fun z => Nat.lt_of_not_le (fun q => z (chr_out q))
  generalize hN1 : nw t p = n1 at *
  generalize hN2 : nw t (p + 1) = n2 at *
  have hc1 : cx t Ns (sp S 27 (S.1 27 + 1)) := hc.sm (js := [27]) (is := []) (ls := []) (rSm.r0.sp (by decide)) (by decide) (by decide)
  have hnw1 : RM l G d M_Mo_now [.ref o] o rf S (fun w S' => S' = S ∧ w = some (.int (zI n1))) := by rw [← hN1]; exact r_nowX hc h27
  have hnw2 : RM l G d M_Mo_now [.ref o] o rf (sp S 27 (S.1 27 + 1)) (fun w S' => S' = sp S 27 (S.1 27 + 1) ∧ w = some (.int (zI n2))) := by
    rw [← hN2]
    exact r_nowX hc1 (by show S.1 27 + 1 = ((p + 1 : Nat) : Int); omega)
  refine XM.of (by decide +kernel) (Nat.le_of_ble_eq_true rfl) ?_
  have hX : xonly H0 H0 RKs := xonly.rf
  have hbd : ∀ (S' : MS) (r : Int), rSm S S' [27, 29] [] [] → (0 ≤ r ∧ r ≤ 5) → (S.1 27 + 1 ≤ S'.1 27 ∧ S'.1 27 ≤ S.1 2 + 1) → (((opr t p).2.1 = none ∧ S'.1 29 = ((opr t p).1 : Nat)) ∨ ((opr t p).2.1 = some (acR r) ∧ S'.1 29 = -1 ∧ S'.1 27 = ((opr t p).1 : Nat) ∧ S'.1 27 ≤ S.1 2 ∧ 32 :: ((opr t p).2.2 ++ [32]) = sgL r)) → oqX t p S (some (.int (zI r))) S' := fun S' r a1 a2 a3 a4 => ⟨r, rfl, a2, a1, a3, a4⟩
  have j30 : ∀ (q : Int), ((q = 1 ∧ chr t (p + 1) = 61) ∨ (q = 0 ∧ ¬ chr t (p + 1) = 61)) → RX l G M_Mo_operator (d + 1) 30 [some (.ref o), some (.int (zI n1)), some (.int (zI q))] [] H0 o rf c n (sp S 27 (S.1 27 + 1)) (oqX t p S) := by
    intro q hq h hR hX
    have hqb : q = 0 ∨ q = 1 := by omega
    by_cases k60 : chr t p = 60
    · have e1 : n1 = 60 := e60.mpr k60
      rcases hq with ⟨rfl, h2⟩ | ⟨rfl, h2⟩
      · have ho := opr_2 (Or.inr (Or.inr (Or.inl k60))) h2
        rw [k60] at ho
        have := hin2 (by omega)
        subst e1
        refine x_iload_n d_Mo_operator_30 rfl ?_
        refine x_bipush (v := zI 60) d_Mo_operator_31 (by decide) ?_
        refine z_icmp_eq (tgt := 42) d_Mo_operator_33 (by decide) (by omega) (by omega) (fun _ => ?_) (fun hq => by omega)
        refine x_aload_n d_Mo_operator_42 rfl rfl ?_
        refine x_dup d_Mo_operator_43 rfl ?_
        refine x_get xf_Mo_193_Mo (Or.inl hR.1) (v := .int (zI (S.1 27 + 1))) rfl d_Mo_operator_44 ?_
        have hb44 : inR (S.1 27 + 1) := hR.2.2.2 27
        refine x_iload_n d_Mo_operator_47 rfl ?_
        refine z_if_eq (tgt := 55) d_Mo_operator_48 (by decide) (by omega) (fun hq => by omega) (fun _ => ?_)
        refine x_iconst (v := zI 1) d_Mo_operator_51 (by decide) ?_
        refine x_goto (tgt := 56) d_Mo_operator_52 (by decide) ?_
        refine z_iadd d_Mo_operator_56 ?_
        refine r_put xf_Mo_193_Mo xp_Mo_27 hR hX (by omega) rfl rfl d_Mo_operator_57 ?_
        intro h hR hX
        refine x_iload_n d_Mo_operator_60 rfl ?_
        refine x_bipush (v := zI 60) d_Mo_operator_61 (by decide) ?_
        refine z_icmp_ne (tgt := 70) d_Mo_operator_63 (by decide) (by omega) (by omega) (fun hq => by omega) (fun _ => ?_)
        refine x_iconst (v := zI 2) d_Mo_operator_66 (by decide) ?_
        refine x_goto (tgt := 71) d_Mo_operator_67 (by decide) ?_
        refine x_iload_n d_Mo_operator_71 rfl ?_
        refine z_if_eq (tgt := 79) d_Mo_operator_72 (by decide) (by omega) (fun hq => by omega) (fun _ => ?_)
        refine x_iconst (v := zI 1) d_Mo_operator_75 (by decide) ?_
        refine x_goto (tgt := 80) d_Mo_operator_76 (by decide) ?_
        refine z_iadd d_Mo_operator_80 ?_
        refine x_iret d_Mo_operator_81 rfl ?_
        exact ⟨_, hR, hX, rfl, rfl, hbd _ _ ((rSm.r0.sp (j := 27) (by decide)).sp (j := 27) (by decide)) (by omega) (by show S.1 27 + 1 ≤ S.1 27 + 1 + 1 ∧ S.1 27 + 1 + 1 ≤ S.1 2 + 1; omega) (Or.inr ⟨by rw [ho]; rfl, hw, by rw [ho]; show S.1 27 + 1 + 1 = ((p + 2 : Nat) : Int); omega, by show S.1 27 + 1 + 1 ≤ S.1 2; omega, by rw [ho]; rfl⟩)⟩
      · have ho := opr_1 (Or.inr (Or.inr (Or.inl k60))) h2
        rw [k60] at ho
        have := hin (by omega)
        subst e1
        refine x_iload_n d_Mo_operator_30 rfl ?_
        refine x_bipush (v := zI 60) d_Mo_operator_31 (by decide) ?_
        refine z_icmp_eq (tgt := 42) d_Mo_operator_33 (by decide) (by omega) (by omega) (fun _ => ?_) (fun hq => by omega)
        refine x_aload_n d_Mo_operator_42 rfl rfl ?_
        refine x_dup d_Mo_operator_43 rfl ?_
        refine x_get xf_Mo_193_Mo (Or.inl hR.1) (v := .int (zI (S.1 27 + 1))) rfl d_Mo_operator_44 ?_
        have hb44 : inR (S.1 27 + 1) := hR.2.2.2 27
        refine x_iload_n d_Mo_operator_47 rfl ?_
        refine z_if_eq (tgt := 55) d_Mo_operator_48 (by decide) (by omega) (fun _ => ?_) (fun hq => by omega)
        refine x_iconst (v := zI 0) d_Mo_operator_55 (by decide) ?_
        refine z_iadd d_Mo_operator_56 ?_
        refine r_put xf_Mo_193_Mo xp_Mo_27 hR hX (by omega) rfl rfl d_Mo_operator_57 ?_
        intro h hR hX
        refine x_iload_n d_Mo_operator_60 rfl ?_
        refine x_bipush (v := zI 60) d_Mo_operator_61 (by decide) ?_
        refine z_icmp_ne (tgt := 70) d_Mo_operator_63 (by decide) (by omega) (by omega) (fun hq => by omega) (fun _ => ?_)
        refine x_iconst (v := zI 2) d_Mo_operator_66 (by decide) ?_
        refine x_goto (tgt := 71) d_Mo_operator_67 (by decide) ?_
        refine x_iload_n d_Mo_operator_71 rfl ?_
        refine z_if_eq (tgt := 79) d_Mo_operator_72 (by decide) (by omega) (fun _ => ?_) (fun hq => by omega)
        refine x_iconst (v := zI 0) d_Mo_operator_79 (by decide) ?_
        refine z_iadd d_Mo_operator_80 ?_
        refine x_iret d_Mo_operator_81 rfl ?_
        exact ⟨_, hR, hX, rfl, rfl, hbd _ _ ((rSm.r0.sp (j := 27) (by decide)).sp (j := 27) (by decide)) (by omega) (by show S.1 27 + 1 ≤ S.1 27 + 1 + 0 ∧ S.1 27 + 1 + 0 ≤ S.1 2 + 1; omega) (Or.inr ⟨by rw [ho]; rfl, hw, by rw [ho]; show S.1 27 + 1 + 0 = ((p + 1 : Nat) : Int); omega, by show S.1 27 + 1 + 0 ≤ S.1 2; omega, by rw [ho]; rfl⟩)⟩
    · by_cases k62 : chr t p = 62
      · have e1 : n1 = 62 := e62.mpr k62
        rcases hq with ⟨rfl, h2⟩ | ⟨rfl, h2⟩
        · have ho := opr_2 (Or.inr (Or.inr (Or.inr k62))) h2
          rw [k62] at ho
          have := hin2 (by omega)
          subst e1
          refine x_iload_n d_Mo_operator_30 rfl ?_
          refine x_bipush (v := zI 60) d_Mo_operator_31 (by decide) ?_
          refine z_icmp_eq (tgt := 42) d_Mo_operator_33 (by decide) (by omega) (by omega) (fun hq => by omega) (fun _ => ?_)
          refine x_iload_n d_Mo_operator_36 rfl ?_
          refine x_bipush (v := zI 62) d_Mo_operator_37 (by decide) ?_
          refine z_icmp_ne (tgt := 82) d_Mo_operator_39 (by decide) (by omega) (by omega) (fun hq => by omega) (fun _ => ?_)
          refine x_aload_n d_Mo_operator_42 rfl rfl ?_
          refine x_dup d_Mo_operator_43 rfl ?_
          refine x_get xf_Mo_193_Mo (Or.inl hR.1) (v := .int (zI (S.1 27 + 1))) rfl d_Mo_operator_44 ?_
          have hb44 : inR (S.1 27 + 1) := hR.2.2.2 27
          refine x_iload_n d_Mo_operator_47 rfl ?_
          refine z_if_eq (tgt := 55) d_Mo_operator_48 (by decide) (by omega) (fun hq => by omega) (fun _ => ?_)
          refine x_iconst (v := zI 1) d_Mo_operator_51 (by decide) ?_
          refine x_goto (tgt := 56) d_Mo_operator_52 (by decide) ?_
          refine z_iadd d_Mo_operator_56 ?_
          refine r_put xf_Mo_193_Mo xp_Mo_27 hR hX (by omega) rfl rfl d_Mo_operator_57 ?_
          intro h hR hX
          refine x_iload_n d_Mo_operator_60 rfl ?_
          refine x_bipush (v := zI 60) d_Mo_operator_61 (by decide) ?_
          refine z_icmp_ne (tgt := 70) d_Mo_operator_63 (by decide) (by omega) (by omega) (fun _ => ?_) (fun hq => by omega)
          refine x_iconst (v := zI 4) d_Mo_operator_70 (by decide) ?_
          refine x_iload_n d_Mo_operator_71 rfl ?_
          refine z_if_eq (tgt := 79) d_Mo_operator_72 (by decide) (by omega) (fun hq => by omega) (fun _ => ?_)
          refine x_iconst (v := zI 1) d_Mo_operator_75 (by decide) ?_
          refine x_goto (tgt := 80) d_Mo_operator_76 (by decide) ?_
          refine z_iadd d_Mo_operator_80 ?_
          refine x_iret d_Mo_operator_81 rfl ?_
          exact ⟨_, hR, hX, rfl, rfl, hbd _ _ ((rSm.r0.sp (j := 27) (by decide)).sp (j := 27) (by decide)) (by omega) (by show S.1 27 + 1 ≤ S.1 27 + 1 + 1 ∧ S.1 27 + 1 + 1 ≤ S.1 2 + 1; omega) (Or.inr ⟨by rw [ho]; rfl, hw, by rw [ho]; show S.1 27 + 1 + 1 = ((p + 2 : Nat) : Int); omega, by show S.1 27 + 1 + 1 ≤ S.1 2; omega, by rw [ho]; rfl⟩)⟩
        · have ho := opr_1 (Or.inr (Or.inr (Or.inr k62))) h2
          rw [k62] at ho
          have := hin (by omega)
          subst e1
          refine x_iload_n d_Mo_operator_30 rfl ?_
          refine x_bipush (v := zI 60) d_Mo_operator_31 (by decide) ?_
          refine z_icmp_eq (tgt := 42) d_Mo_operator_33 (by decide) (by omega) (by omega) (fun hq => by omega) (fun _ => ?_)
          refine x_iload_n d_Mo_operator_36 rfl ?_
          refine x_bipush (v := zI 62) d_Mo_operator_37 (by decide) ?_
          refine z_icmp_ne (tgt := 82) d_Mo_operator_39 (by decide) (by omega) (by omega) (fun hq => by omega) (fun _ => ?_)
          refine x_aload_n d_Mo_operator_42 rfl rfl ?_
          refine x_dup d_Mo_operator_43 rfl ?_
          refine x_get xf_Mo_193_Mo (Or.inl hR.1) (v := .int (zI (S.1 27 + 1))) rfl d_Mo_operator_44 ?_
          have hb44 : inR (S.1 27 + 1) := hR.2.2.2 27
          refine x_iload_n d_Mo_operator_47 rfl ?_
          refine z_if_eq (tgt := 55) d_Mo_operator_48 (by decide) (by omega) (fun _ => ?_) (fun hq => by omega)
          refine x_iconst (v := zI 0) d_Mo_operator_55 (by decide) ?_
          refine z_iadd d_Mo_operator_56 ?_
          refine r_put xf_Mo_193_Mo xp_Mo_27 hR hX (by omega) rfl rfl d_Mo_operator_57 ?_
          intro h hR hX
          refine x_iload_n d_Mo_operator_60 rfl ?_
          refine x_bipush (v := zI 60) d_Mo_operator_61 (by decide) ?_
          refine z_icmp_ne (tgt := 70) d_Mo_operator_63 (by decide) (by omega) (by omega) (fun _ => ?_) (fun hq => by omega)
          refine x_iconst (v := zI 4) d_Mo_operator_70 (by decide) ?_
          refine x_iload_n d_Mo_operator_71 rfl ?_
          refine z_if_eq (tgt := 79) d_Mo_operator_72 (by decide) (by omega) (fun _ => ?_) (fun hq => by omega)
          refine x_iconst (v := zI 0) d_Mo_operator_79 (by decide) ?_
          refine z_iadd d_Mo_operator_80 ?_
          refine x_iret d_Mo_operator_81 rfl ?_
          exact ⟨_, hR, hX, rfl, rfl, hbd _ _ ((rSm.r0.sp (j := 27) (by decide)).sp (j := 27) (by decide)) (by omega) (by show S.1 27 + 1 ≤ S.1 27 + 1 + 0 ∧ S.1 27 + 1 + 0 ≤ S.1 2 + 1; omega) (Or.inr ⟨by rw [ho]; rfl, hw, by rw [ho]; show S.1 27 + 1 + 0 = ((p + 1 : Nat) : Int); omega, by show S.1 27 + 1 + 0 ≤ S.1 2; omega, by rw [ho]; rfl⟩)⟩
      · by_cases kx : chr t p = 61 ∨ chr t p = 33
        · have hk4 : chr t p = 61 ∨ chr t p = 33 ∨ chr t p = 60 ∨ chr t p = 62 := by omega
          have := hin (by omega)
          rcases hq with ⟨rfl, h2⟩ | ⟨rfl, h2⟩
          · have ho := opr_2 hk4 h2
            have := hin2 (by omega)
            rcases kx with k1 | k1
            · have e1 : n1 = 61 := e61.mpr k1
              rw [k1] at ho
              subst e1
              refine x_iload_n d_Mo_operator_30 rfl ?_
              refine x_bipush (v := zI 60) d_Mo_operator_31 (by decide) ?_
              refine z_icmp_eq (tgt := 42) d_Mo_operator_33 (by decide) (by omega) (by omega) (fun hq => by omega) (fun _ => ?_)
              refine x_iload_n d_Mo_operator_36 rfl ?_
              refine x_bipush (v := zI 62) d_Mo_operator_37 (by decide) ?_
              refine z_icmp_ne (tgt := 82) d_Mo_operator_39 (by decide) (by omega) (by omega) (fun _ => ?_) (fun hq => by omega)
              refine x_iload_n d_Mo_operator_82 rfl ?_
              refine x_bipush (v := zI 61) d_Mo_operator_83 (by decide) ?_
              refine z_icmp_eq (tgt := 106) d_Mo_operator_85 (by decide) (by omega) (by omega) (fun _ => ?_) (fun hq => by omega)
              refine x_iload_n d_Mo_operator_106 rfl ?_
              refine z_if_ne (tgt := 138) d_Mo_operator_107 (by decide) (by omega) (fun _ => ?_) (fun hq => by omega)
              refine x_aload_n d_Mo_operator_138 rfl rfl ?_
              refine x_dup d_Mo_operator_139 rfl ?_
              refine x_get xf_Mo_193_Mo (Or.inl hR.1) (v := .int (zI (S.1 27 + 1))) rfl d_Mo_operator_140 ?_
              have hb140 : inR (S.1 27 + 1) := hR.2.2.2 27
              refine x_iconst (v := zI 1) d_Mo_operator_143 (by decide) ?_
              refine z_iadd d_Mo_operator_144 ?_
              refine r_put xf_Mo_193_Mo xp_Mo_27 hR hX (by omega) rfl rfl d_Mo_operator_145 ?_
              intro h hR hX
              refine x_iload_n d_Mo_operator_148 rfl ?_
              refine x_bipush (v := zI 61) d_Mo_operator_149 (by decide) ?_
              refine z_icmp_ne (tgt := 158) d_Mo_operator_151 (by decide) (by omega) (by omega) (fun hq => by omega) (fun _ => ?_)
              refine x_iconst (v := zI 0) d_Mo_operator_154 (by decide) ?_
              refine x_goto (tgt := 159) d_Mo_operator_155 (by decide) ?_
              refine x_iret d_Mo_operator_159 rfl ?_
              exact ⟨_, hR, hX, rfl, rfl, hbd _ _ ((rSm.r0.sp (j := 27) (by decide)).sp (j := 27) (by decide)) (by omega) (by show S.1 27 + 1 ≤ S.1 27 + 1 + 1 ∧ S.1 27 + 1 + 1 ≤ S.1 2 + 1; omega) (Or.inr ⟨by rw [ho]; rfl, hw, by rw [ho]; show S.1 27 + 1 + 1 = ((p + 2 : Nat) : Int); omega, by show S.1 27 + 1 + 1 ≤ S.1 2; omega, by rw [ho]; rfl⟩)⟩
            · have e1 : n1 = 33 := e33.mpr k1
              rw [k1] at ho
              subst e1
              refine x_iload_n d_Mo_operator_30 rfl ?_
              refine x_bipush (v := zI 60) d_Mo_operator_31 (by decide) ?_
              refine z_icmp_eq (tgt := 42) d_Mo_operator_33 (by decide) (by omega) (by omega) (fun hq => by omega) (fun _ => ?_)
              refine x_iload_n d_Mo_operator_36 rfl ?_
              refine x_bipush (v := zI 62) d_Mo_operator_37 (by decide) ?_
              refine z_icmp_ne (tgt := 82) d_Mo_operator_39 (by decide) (by omega) (by omega) (fun _ => ?_) (fun hq => by omega)
              refine x_iload_n d_Mo_operator_82 rfl ?_
              refine x_bipush (v := zI 61) d_Mo_operator_83 (by decide) ?_
              refine z_icmp_eq (tgt := 106) d_Mo_operator_85 (by decide) (by omega) (by omega) (fun hq => by omega) (fun _ => ?_)
              refine x_iload_n d_Mo_operator_88 rfl ?_
              refine x_bipush (v := zI 33) d_Mo_operator_89 (by decide) ?_
              refine z_icmp_eq (tgt := 106) d_Mo_operator_91 (by decide) (by omega) (by omega) (fun _ => ?_) (fun hq => by omega)
              refine x_iload_n d_Mo_operator_106 rfl ?_
              refine z_if_ne (tgt := 138) d_Mo_operator_107 (by decide) (by omega) (fun _ => ?_) (fun hq => by omega)
              refine x_aload_n d_Mo_operator_138 rfl rfl ?_
              refine x_dup d_Mo_operator_139 rfl ?_
              refine x_get xf_Mo_193_Mo (Or.inl hR.1) (v := .int (zI (S.1 27 + 1))) rfl d_Mo_operator_140 ?_
              have hb140 : inR (S.1 27 + 1) := hR.2.2.2 27
              refine x_iconst (v := zI 1) d_Mo_operator_143 (by decide) ?_
              refine z_iadd d_Mo_operator_144 ?_
              refine r_put xf_Mo_193_Mo xp_Mo_27 hR hX (by omega) rfl rfl d_Mo_operator_145 ?_
              intro h hR hX
              refine x_iload_n d_Mo_operator_148 rfl ?_
              refine x_bipush (v := zI 61) d_Mo_operator_149 (by decide) ?_
              refine z_icmp_ne (tgt := 158) d_Mo_operator_151 (by decide) (by omega) (by omega) (fun _ => ?_) (fun hq => by omega)
              refine x_iconst (v := zI 1) d_Mo_operator_158 (by decide) ?_
              refine x_iret d_Mo_operator_159 rfl ?_
              exact ⟨_, hR, hX, rfl, rfl, hbd _ _ ((rSm.r0.sp (j := 27) (by decide)).sp (j := 27) (by decide)) (by omega) (by show S.1 27 + 1 ≤ S.1 27 + 1 + 1 ∧ S.1 27 + 1 + 1 ≤ S.1 2 + 1; omega) (Or.inr ⟨by rw [ho]; rfl, hw, by rw [ho]; show S.1 27 + 1 + 1 = ((p + 2 : Nat) : Int); omega, by show S.1 27 + 1 + 1 ≤ S.1 2; omega, by rw [ho]; rfl⟩)⟩
          · have ho := opr_1 hk4 h2
            have hno : (opr t p).2.1 = none ∧ (opr t p).1 = p + 1 := by
              rw [ho]
              rcases kx with k1 | k1
              · exact ⟨if_pos k1, rfl⟩
              · exact ⟨by show (if chr t p = 61 then none else if chr t p = 33 then none else _) = none; rw [if_neg (by omega), if_pos k1], rfl⟩
            refine x_iload_n d_Mo_operator_30 rfl ?_
            refine x_bipush (v := zI 60) d_Mo_operator_31 (by decide) ?_
            refine z_icmp_eq (tgt := 42) d_Mo_operator_33 (by decide) (by omega) (by omega) (fun hq => by omega) (fun _ => ?_)
            refine x_iload_n d_Mo_operator_36 rfl ?_
            refine x_bipush (v := zI 62) d_Mo_operator_37 (by decide) ?_
            refine z_icmp_ne (tgt := 82) d_Mo_operator_39 (by decide) (by omega) (by omega) (fun _ => ?_) (fun hq => by omega)
            refine x_iload_n d_Mo_operator_82 rfl ?_
            refine x_bipush (v := zI 61) d_Mo_operator_83 (by decide) ?_
            refine z_icmp_eq (tgt := 106) d_Mo_operator_85 (by decide) (by omega) (by omega) (fun hc85 => ?_) (fun hc85 => ?_)
            · refine x_iload_n d_Mo_operator_106 rfl ?_
              refine z_if_ne (tgt := 138) d_Mo_operator_107 (by decide) (by omega) (fun hq => by omega) (fun _ => ?_)
              refine x_aload_n d_Mo_operator_110 rfl rfl ?_
              refine x_aload_n d_Mo_operator_111 rfl rfl ?_
              refine x_get xf_Mo_193_Mo (Or.inl hR.1) (v := .int (zI (S.1 27 + 1))) rfl d_Mo_operator_112 ?_
              have hb112 : inR (S.1 27 + 1) := hR.2.2.2 27
              refine x_aload_n d_Mo_operator_115 rfl rfl ?_
              refine x_get xf_Mo_124_Mo (Or.inl hR.1) (v := .int (zI (S.1 2))) rfl d_Mo_operator_116 ?_
              have hb116 : inR (S.1 2) := hR.2.2.2 2
              refine z_icmp_ge (tgt := 129) d_Mo_operator_119 (by decide) (by omega) (by omega) (fun hc119 => ?_) (fun hc119 => ?_)
              · refine x_aload_n d_Mo_operator_129 rfl rfl ?_
                refine x_get xf_Mo_124_Mo (Or.inl hR.1) (v := .int (zI (S.1 2))) rfl d_Mo_operator_130 ?_
                have hb130 : inR (S.1 2) := hR.2.2.2 2
                refine x_callV (As := [_]) (k := k_MarkerTextModel) rfl xcv_Mo_218_Mo (Or.inl hR.1) (RM.ap hR (r_fault (by omega))) rfl rfl (Nat.le_of_ble_eq_true rfl) d_Mo_operator_133 ?_
                rintro v133 h cq nq ⟨S133, hR, hX133, rfl, rfl, a133, rfl, rfl, ha133⟩
                replace hX := hX.tr hX133
                refine x_iconst (v := zI 0) d_Mo_operator_136 (by decide) ?_
                refine x_iret d_Mo_operator_137 rfl ?_
                first | (exfalso; omega) | exact ⟨_, hR, hX, rfl, rfl, hbd _ _ ((rSm.r0.sp (j := 27) (by decide)).sp (j := 29) (by decide)) (by omega) (by show S.1 27 + 1 ≤ S.1 27 + 1 ∧ S.1 27 + 1 ≤ S.1 2 + 1; omega) (Or.inl ⟨hno.1, by rw [hno.2]; show a133 = _; replace ha133 := flt ha133 hw; omega⟩)⟩
              · refine x_aload_n d_Mo_operator_122 rfl rfl ?_
                refine x_get xf_Mo_193_Mo (Or.inl hR.1) (v := .int (zI (S.1 27 + 1))) rfl d_Mo_operator_123 ?_
                have hb123 : inR (S.1 27 + 1) := hR.2.2.2 27
                refine x_goto (tgt := 133) d_Mo_operator_126 (by decide) ?_
                refine x_callV (As := [_]) (k := k_MarkerTextModel) rfl xcv_Mo_218_Mo (Or.inl hR.1) (RM.ap hR (r_fault (by omega))) rfl rfl (Nat.le_of_ble_eq_true rfl) d_Mo_operator_133 ?_
                rintro v133 h cq nq ⟨S133, hR, hX133, rfl, rfl, a133, rfl, rfl, ha133⟩
                replace hX := hX.tr hX133
                refine x_iconst (v := zI 0) d_Mo_operator_136 (by decide) ?_
                refine x_iret d_Mo_operator_137 rfl ?_
                first | (exfalso; omega) | exact ⟨_, hR, hX, rfl, rfl, hbd _ _ ((rSm.r0.sp (j := 27) (by decide)).sp (j := 29) (by decide)) (by omega) (by show S.1 27 + 1 ≤ S.1 27 + 1 ∧ S.1 27 + 1 ≤ S.1 2 + 1; omega) (Or.inl ⟨hno.1, by rw [hno.2]; show a133 = _; replace ha133 := flt ha133 hw; omega⟩)⟩
            · refine x_iload_n d_Mo_operator_88 rfl ?_
              refine x_bipush (v := zI 33) d_Mo_operator_89 (by decide) ?_
              refine z_icmp_eq (tgt := 106) d_Mo_operator_91 (by decide) (by omega) (by omega) (fun hc91 => ?_) (fun hc91 => ?_)
              · refine x_iload_n d_Mo_operator_106 rfl ?_
                refine z_if_ne (tgt := 138) d_Mo_operator_107 (by decide) (by omega) (fun hq => by omega) (fun _ => ?_)
                refine x_aload_n d_Mo_operator_110 rfl rfl ?_
                refine x_aload_n d_Mo_operator_111 rfl rfl ?_
                refine x_get xf_Mo_193_Mo (Or.inl hR.1) (v := .int (zI (S.1 27 + 1))) rfl d_Mo_operator_112 ?_
                have hb112 : inR (S.1 27 + 1) := hR.2.2.2 27
                refine x_aload_n d_Mo_operator_115 rfl rfl ?_
                refine x_get xf_Mo_124_Mo (Or.inl hR.1) (v := .int (zI (S.1 2))) rfl d_Mo_operator_116 ?_
                have hb116 : inR (S.1 2) := hR.2.2.2 2
                refine z_icmp_ge (tgt := 129) d_Mo_operator_119 (by decide) (by omega) (by omega) (fun hc119 => ?_) (fun hc119 => ?_)
                · refine x_aload_n d_Mo_operator_129 rfl rfl ?_
                  refine x_get xf_Mo_124_Mo (Or.inl hR.1) (v := .int (zI (S.1 2))) rfl d_Mo_operator_130 ?_
                  have hb130 : inR (S.1 2) := hR.2.2.2 2
                  refine x_callV (As := [_]) (k := k_MarkerTextModel) rfl xcv_Mo_218_Mo (Or.inl hR.1) (RM.ap hR (r_fault (by omega))) rfl rfl (Nat.le_of_ble_eq_true rfl) d_Mo_operator_133 ?_
                  rintro v133 h cq nq ⟨S133, hR, hX133, rfl, rfl, a133, rfl, rfl, ha133⟩
                  replace hX := hX.tr hX133
                  refine x_iconst (v := zI 0) d_Mo_operator_136 (by decide) ?_
                  refine x_iret d_Mo_operator_137 rfl ?_
                  first | (exfalso; omega) | exact ⟨_, hR, hX, rfl, rfl, hbd _ _ ((rSm.r0.sp (j := 27) (by decide)).sp (j := 29) (by decide)) (by omega) (by show S.1 27 + 1 ≤ S.1 27 + 1 ∧ S.1 27 + 1 ≤ S.1 2 + 1; omega) (Or.inl ⟨hno.1, by rw [hno.2]; show a133 = _; replace ha133 := flt ha133 hw; omega⟩)⟩
                · refine x_aload_n d_Mo_operator_122 rfl rfl ?_
                  refine x_get xf_Mo_193_Mo (Or.inl hR.1) (v := .int (zI (S.1 27 + 1))) rfl d_Mo_operator_123 ?_
                  have hb123 : inR (S.1 27 + 1) := hR.2.2.2 27
                  refine x_goto (tgt := 133) d_Mo_operator_126 (by decide) ?_
                  refine x_callV (As := [_]) (k := k_MarkerTextModel) rfl xcv_Mo_218_Mo (Or.inl hR.1) (RM.ap hR (r_fault (by omega))) rfl rfl (Nat.le_of_ble_eq_true rfl) d_Mo_operator_133 ?_
                  rintro v133 h cq nq ⟨S133, hR, hX133, rfl, rfl, a133, rfl, rfl, ha133⟩
                  replace hX := hX.tr hX133
                  refine x_iconst (v := zI 0) d_Mo_operator_136 (by decide) ?_
                  refine x_iret d_Mo_operator_137 rfl ?_
                  first | (exfalso; omega) | exact ⟨_, hR, hX, rfl, rfl, hbd _ _ ((rSm.r0.sp (j := 27) (by decide)).sp (j := 29) (by decide)) (by omega) (by show S.1 27 + 1 ≤ S.1 27 + 1 ∧ S.1 27 + 1 ≤ S.1 2 + 1; omega) (Or.inl ⟨hno.1, by rw [hno.2]; show a133 = _; replace ha133 := flt ha133 hw; omega⟩)⟩
              · refine x_aload_n d_Mo_operator_94 rfl rfl ?_
                refine x_aload_n d_Mo_operator_95 rfl rfl ?_
                refine x_get xf_Mo_193_Mo (Or.inl hR.1) (v := .int (zI (S.1 27 + 1))) rfl d_Mo_operator_96 ?_
                have hb96 : inR (S.1 27 + 1) := hR.2.2.2 27
                refine x_iconst (v := zI 1) d_Mo_operator_99 (by decide) ?_
                refine z_isub d_Mo_operator_100 ?_
                refine x_callV (As := [_]) (k := k_MarkerTextModel) rfl xcv_Mo_218_Mo (Or.inl hR.1) (RM.ap hR (r_fault (by omega))) rfl rfl (Nat.le_of_ble_eq_true rfl) d_Mo_operator_101 ?_
                rintro v101 h cq nq ⟨S101, hR, hX101, rfl, rfl, a101, rfl, rfl, ha101⟩
                replace hX := hX.tr hX101
                refine x_iconst (v := zI 0) d_Mo_operator_104 (by decide) ?_
                refine x_iret d_Mo_operator_105 rfl ?_
                first | (exfalso; omega) | exact ⟨_, hR, hX, rfl, rfl, hbd _ _ ((rSm.r0.sp (j := 27) (by decide)).sp (j := 29) (by decide)) (by omega) (by show S.1 27 + 1 ≤ S.1 27 + 1 ∧ S.1 27 + 1 ≤ S.1 2 + 1; omega) (Or.inl ⟨hno.1, by rw [hno.2]; show a133 = _; replace ha133 := flt ha133 hw; omega⟩)⟩
        · have ho := opr_x (t := t) (p := p) (by omega)
          have hno : (opr t p).2.1 = none ∧ (opr t p).1 = p := by rw [ho]; exact ⟨rfl, rfl⟩
          refine x_iload_n d_Mo_operator_30 rfl ?_
          refine x_bipush (v := zI 60) d_Mo_operator_31 (by decide) ?_
          refine z_icmp_eq (tgt := 42) d_Mo_operator_33 (by decide) (by omega) (by omega) (fun hq => by omega) (fun _ => ?_)
          refine x_iload_n d_Mo_operator_36 rfl ?_
          refine x_bipush (v := zI 62) d_Mo_operator_37 (by decide) ?_
          refine z_icmp_ne (tgt := 82) d_Mo_operator_39 (by decide) (by omega) (by omega) (fun _ => ?_) (fun hq => by omega)
          refine x_iload_n d_Mo_operator_82 rfl ?_
          refine x_bipush (v := zI 61) d_Mo_operator_83 (by decide) ?_
          refine z_icmp_eq (tgt := 106) d_Mo_operator_85 (by decide) (by omega) (by omega) (fun hq => by omega) (fun _ => ?_)
          refine x_iload_n d_Mo_operator_88 rfl ?_
          refine x_bipush (v := zI 33) d_Mo_operator_89 (by decide) ?_
          refine z_icmp_eq (tgt := 106) d_Mo_operator_91 (by decide) (by omega) (by omega) (fun hq => by omega) (fun _ => ?_)
          refine x_aload_n d_Mo_operator_94 rfl rfl ?_
          refine x_aload_n d_Mo_operator_95 rfl rfl ?_
          refine x_get xf_Mo_193_Mo (Or.inl hR.1) (v := .int (zI (S.1 27 + 1))) rfl d_Mo_operator_96 ?_
          have hb96 : inR (S.1 27 + 1) := hR.2.2.2 27
          refine x_iconst (v := zI 1) d_Mo_operator_99 (by decide) ?_
          refine z_isub d_Mo_operator_100 ?_
          refine x_callV (As := [_]) (k := k_MarkerTextModel) rfl xcv_Mo_218_Mo (Or.inl hR.1) (RM.ap hR (r_fault (by omega))) rfl rfl (Nat.le_of_ble_eq_true rfl) d_Mo_operator_101 ?_
          rintro v101 h cq nq ⟨S101, hR, hX101, rfl, rfl, a101, rfl, rfl, ha101⟩
          replace hX := hX.tr hX101
          refine x_iconst (v := zI 0) d_Mo_operator_104 (by decide) ?_
          refine x_iret d_Mo_operator_105 rfl ?_
          first | (exfalso; omega) | exact ⟨_, hR, hX, rfl, rfl, hbd _ _ ((rSm.r0.sp (j := 27) (by decide)).sp (j := 29) (by decide)) (by omega) (by show S.1 27 + 1 ≤ S.1 27 + 1 ∧ S.1 27 + 1 ≤ S.1 2 + 1; omega) (Or.inl ⟨hno.1, by rw [hno.2]; show a101 = _; replace ha101 := flt ha101 hw; omega⟩)⟩
  refine x_aload_n d_Mo_operator_0 rfl rfl ?_
  refine x_callV (As := []) (k := k_MarkerTextModel) rfl xcv_Mo_228_Mo (Or.inl hR.1) (RM.ap hR hnw1) rfl rfl (Nat.le_of_ble_eq_true rfl) d_Mo_operator_1 ?_
  rintro v1 h cq nq ⟨S1, hR, hX1, rfl, rfl, hE1, rfl⟩
  replace hE1 := Eq.symm hE1
  subst hE1
  replace hX := hX.tr hX1
  refine x_istore_n (L' := [_, _, _]) d_Mo_operator_4 rfl rfl ?_
  refine x_aload_n d_Mo_operator_5 rfl rfl ?_
  refine x_dup d_Mo_operator_6 rfl ?_
  refine x_get xf_Mo_193_Mo (Or.inl hR.1) (v := .int (zI (S.1 27))) rfl d_Mo_operator_7 ?_
  have hb7 : inR (S.1 27) := hR.2.2.2 27
  refine x_iconst (v := zI 1) d_Mo_operator_10 (by decide) ?_
  refine z_iadd d_Mo_operator_11 ?_
  refine r_put xf_Mo_193_Mo xp_Mo_27 hR hX (by omega) rfl rfl d_Mo_operator_12 ?_
  intro h hR hX
  refine x_aload_n d_Mo_operator_15 rfl rfl ?_
  refine x_callV (As := []) (k := k_MarkerTextModel) rfl xcv_Mo_228_Mo (Or.inl hR.1) (RM.ap hR hnw2) rfl rfl (Nat.le_of_ble_eq_true rfl) d_Mo_operator_16 ?_
  rintro v16 h cq nq ⟨S16, hR, hX16, rfl, rfl, hE16, rfl⟩
  replace hE16 := Eq.symm hE16
  subst hE16
  replace hX := hX.tr hX16
  refine x_bipush (v := zI 61) d_Mo_operator_19 (by decide) ?_
  refine z_icmp_ne (tgt := 28) d_Mo_operator_21 (by decide) (by omega) (by omega) (fun hc21 => ?_) (fun hc21 => ?_)
  · refine x_iconst (v := zI 0) d_Mo_operator_28 (by decide) ?_
    refine x_istore_n (L' := [_, _, _]) d_Mo_operator_29 rfl rfl ?_
    exact j30 _ (by omega) _ hR hX
  · refine x_iconst (v := zI 1) d_Mo_operator_24 (by decide) ?_
    refine x_goto (tgt := 29) d_Mo_operator_25 (by decide) ?_
    refine x_istore_n (L' := [_, _, _]) d_Mo_operator_29 rfl rfl ?_
    exact j30 _ (by omega) _ hR hX
end RH4
