section
abbrev y_Mo_advance : MethodName := ⟨"MarkerTextModel", "advance", "()Z"⟩
abbrev M_Mo_advance : XMt := (y_Mo_advance, prog_13_method_48_code, 2, (some .boolean))
theorem d_Mo_advance_7 : decode M_Mo_advance.2.1 7 = .ok (.iload_n 1, 1) := by decide +kernel
theorem d_Mo_advance_8 : decode M_Mo_advance.2.1 8 = .ok (.ifCond .lt 32, 3) := by decide +kernel
theorem d_Mo_advance_40 : decode M_Mo_advance.2.1 40 = .ok (.iload_n 1, 1) := by decide +kernel
theorem d_Mo_advance_41 : decode M_Mo_advance.2.1 41 = .ok (.ifCond .lt 13, 3) := by decide +kernel
theorem d_Mo_advance_54 : decode M_Mo_advance.2.1 54 = .ok (.iload_n 1, 1) := by decide +kernel
theorem d_Mo_advance_55 : decode M_Mo_advance.2.1 55 = .ok (.ifCond .lt 7, 3) := by decide +kernel
theorem d_Mo_advance_62 : decode M_Mo_advance.2.1 62 = .ok (.iconst 0, 1) := by decide +kernel
theorem d_Mo_advance_63 : decode M_Mo_advance.2.1 63 = .ok (.ireturn, 1) := by decide +kernel
theorem d_Mo_advance_11 : decode M_Mo_advance.2.1 11 = .ok (.aload_n 0, 1) := by decide +kernel
theorem d_Mo_advance_12 : decode M_Mo_advance.2.1 12 = .ok (.getfield 100, 3) := by decide +kernel
theorem d_Mo_advance_15 : decode M_Mo_advance.2.1 15 = .ok (.iload_n 1, 1) := by decide +kernel
theorem d_Mo_advance_16 : decode M_Mo_advance.2.1 16 = .ok (.iaload, 1) := by decide +kernel
theorem d_Mo_advance_17 : decode M_Mo_advance.2.1 17 = .ok (.aload_n 0, 1) := by decide +kernel
theorem d_Mo_advance_18 : decode M_Mo_advance.2.1 18 = .ok (.iload_n 1, 1) := by decide +kernel
theorem d_Mo_advance_19 : decode M_Mo_advance.2.1 19 = .ok (.invokevirtual 296, 3) := by decide +kernel
theorem d_Mo_advance_22 : decode M_Mo_advance.2.1 22 = .ok (.iconst 1, 1) := by decide +kernel
theorem d_Mo_advance_23 : decode M_Mo_advance.2.1 23 = .ok (.isub, 1) := by decide +kernel
theorem d_Mo_advance_24 : decode M_Mo_advance.2.1 24 = .ok (.if_icmp .ne 16, 3) := by decide +kernel
theorem d_Mo_advance_44 : decode M_Mo_advance.2.1 44 = .ok (.aload_n 0, 1) := by decide +kernel
theorem d_Mo_advance_45 : decode M_Mo_advance.2.1 45 = .ok (.getfield 100, 3) := by decide +kernel
theorem d_Mo_advance_48 : decode M_Mo_advance.2.1 48 = .ok (.iload_n 1, 1) := by decide +kernel
theorem d_Mo_advance_49 : decode M_Mo_advance.2.1 49 = .ok (.dup2, 1) := by decide +kernel
theorem d_Mo_advance_50 : decode M_Mo_advance.2.1 50 = .ok (.iaload, 1) := by decide +kernel
theorem d_Mo_advance_51 : decode M_Mo_advance.2.1 51 = .ok (.iconst 1, 1) := by decide +kernel
theorem d_Mo_advance_52 : decode M_Mo_advance.2.1 52 = .ok (.iadd, 1) := by decide +kernel
theorem d_Mo_advance_53 : decode M_Mo_advance.2.1 53 = .ok (.iastore, 1) := by decide +kernel
theorem d_Mo_advance_58 : decode M_Mo_advance.2.1 58 = .ok (.iconst 1, 1) := by decide +kernel
theorem d_Mo_advance_59 : decode M_Mo_advance.2.1 59 = .ok (.goto 4, 3) := by decide +kernel
theorem d_Mo_advance_27 : decode M_Mo_advance.2.1 27 = .ok (.aload_n 0, 1) := by decide +kernel
theorem d_Mo_advance_28 : decode M_Mo_advance.2.1 28 = .ok (.getfield 100, 3) := by decide +kernel
theorem d_Mo_advance_31 : decode M_Mo_advance.2.1 31 = .ok (.iload_n 1, 1) := by decide +kernel
theorem d_Mo_advance_32 : decode M_Mo_advance.2.1 32 = .ok (.iconst 0, 1) := by decide +kernel
theorem d_Mo_advance_33 : decode M_Mo_advance.2.1 33 = .ok (.iastore, 1) := by decide +kernel
theorem d_Mo_advance_34 : decode M_Mo_advance.2.1 34 = .ok (.iinc 1 (-1), 3) := by decide +kernel
theorem d_Mo_advance_37 : decode M_Mo_advance.2.1 37 = .ok (.goto (-30), 3) := by decide +kernel
theorem d_Mo_advance_0 : decode M_Mo_advance.2.1 0 = .ok (.aload_n 0, 1) := by decide +kernel
theorem d_Mo_advance_1 : decode M_Mo_advance.2.1 1 = .ok (.getfield 147, 3) := by decide +kernel
theorem d_Mo_advance_4 : decode M_Mo_advance.2.1 4 = .ok (.iconst 1, 1) := by decide +kernel
theorem d_Mo_advance_5 : decode M_Mo_advance.2.1 5 = .ok (.isub, 1) := by decide +kernel
theorem d_Mo_advance_6 : decode M_Mo_advance.2.1 6 = .ok (.istore_n 1, 1) := by decide +kernel
abbrev y_Mo_truth : MethodName := ⟨"MarkerTextModel", "truth", "(I)I"⟩
abbrev M_Mo_truth : XMt := (y_Mo_truth, prog_13_method_49_code, 5, (some .int))
theorem d_Mo_truth_4 : decode M_Mo_truth.2.1 4 = .ok (.iload_n 3, 1) := by decide +kernel
theorem d_Mo_truth_5 : decode M_Mo_truth.2.1 5 = .ok (.aload_n 0, 1) := by decide +kernel
theorem d_Mo_truth_6 : decode M_Mo_truth.2.1 6 = .ok (.getfield 268, 3) := by decide +kernel
theorem d_Mo_truth_9 : decode M_Mo_truth.2.1 9 = .ok (.if_icmp .ge 49, 3) := by decide +kernel
theorem d_Mo_truth_58 : decode M_Mo_truth.2.1 58 = .ok (.iload_n 2, 1) := by decide +kernel
theorem d_Mo_truth_59 : decode M_Mo_truth.2.1 59 = .ok (.ireturn, 1) := by decide +kernel
theorem d_Mo_truth_35 : decode M_Mo_truth.2.1 35 = .ok (.istore 4, 2) := by decide +kernel
theorem d_Mo_truth_37 : decode M_Mo_truth.2.1 37 = .ok (.iload_n 2, 1) := by decide +kernel
theorem d_Mo_truth_38 : decode M_Mo_truth.2.1 38 = .ok (.iload 4, 2) := by decide +kernel
theorem d_Mo_truth_40 : decode M_Mo_truth.2.1 40 = .ok (.ifCond .eq 9, 3) := by decide +kernel
theorem d_Mo_truth_49 : decode M_Mo_truth.2.1 49 = .ok (.iconst 0, 1) := by decide +kernel
theorem d_Mo_truth_50 : decode M_Mo_truth.2.1 50 = .ok (.ior, 1) := by decide +kernel
theorem d_Mo_truth_51 : decode M_Mo_truth.2.1 51 = .ok (.istore_n 2, 1) := by decide +kernel
theorem d_Mo_truth_52 : decode M_Mo_truth.2.1 52 = .ok (.iinc 3 1, 3) := by decide +kernel
theorem d_Mo_truth_55 : decode M_Mo_truth.2.1 55 = .ok (.goto (-51), 3) := by decide +kernel
theorem d_Mo_truth_43 : decode M_Mo_truth.2.1 43 = .ok (.iconst 1, 1) := by decide +kernel
theorem d_Mo_truth_44 : decode M_Mo_truth.2.1 44 = .ok (.iload_n 3, 1) := by decide +kernel
theorem d_Mo_truth_45 : decode M_Mo_truth.2.1 45 = .ok (.ishl, 1) := by decide +kernel
theorem d_Mo_truth_46 : decode M_Mo_truth.2.1 46 = .ok (.goto 4, 3) := by decide +kernel
theorem d_Mo_truth_12 : decode M_Mo_truth.2.1 12 = .ok (.iload_n 1, 1) := by decide +kernel
theorem d_Mo_truth_13 : decode M_Mo_truth.2.1 13 = .ok (.iload_n 3, 1) := by decide +kernel
theorem d_Mo_truth_14 : decode M_Mo_truth.2.1 14 = .ok (.ishr, 1) := by decide +kernel
theorem d_Mo_truth_15 : decode M_Mo_truth.2.1 15 = .ok (.iconst 1, 1) := by decide +kernel
theorem d_Mo_truth_16 : decode M_Mo_truth.2.1 16 = .ok (.iand, 1) := by decide +kernel
theorem d_Mo_truth_17 : decode M_Mo_truth.2.1 17 = .ok (.iconst 1, 1) := by decide +kernel
theorem d_Mo_truth_18 : decode M_Mo_truth.2.1 18 = .ok (.if_icmp .ne 16, 3) := by decide +kernel
theorem d_Mo_truth_34 : decode M_Mo_truth.2.1 34 = .ok (.iconst 0, 1) := by decide +kernel
theorem d_Mo_truth_21 : decode M_Mo_truth.2.1 21 = .ok (.aload_n 0, 1) := by decide +kernel
theorem d_Mo_truth_22 : decode M_Mo_truth.2.1 22 = .ok (.iload_n 3, 1) := by decide +kernel
theorem d_Mo_truth_23 : decode M_Mo_truth.2.1 23 = .ok (.iconst 1, 1) := by decide +kernel
theorem d_Mo_truth_24 : decode M_Mo_truth.2.1 24 = .ok (.invokevirtual 284, 3) := by decide +kernel
theorem d_Mo_truth_27 : decode M_Mo_truth.2.1 27 = .ok (.ifCond .eq 7, 3) := by decide +kernel
theorem d_Mo_truth_30 : decode M_Mo_truth.2.1 30 = .ok (.iconst 1, 1) := by decide +kernel
theorem d_Mo_truth_31 : decode M_Mo_truth.2.1 31 = .ok (.goto 4, 3) := by decide +kernel
theorem d_Mo_truth_0 : decode M_Mo_truth.2.1 0 = .ok (.iconst 0, 1) := by decide +kernel
theorem d_Mo_truth_1 : decode M_Mo_truth.2.1 1 = .ok (.istore_n 2, 1) := by decide +kernel
theorem d_Mo_truth_2 : decode M_Mo_truth.2.1 2 = .ok (.iconst 0, 1) := by decide +kernel
theorem d_Mo_truth_3 : decode M_Mo_truth.2.1 3 = .ok (.istore_n 3, 1) := by decide +kernel
end
section RF18
variable {l : Launch} {G : XG} {h : XH} {c n d : Nat} {o : Nat} {rf : Nat → Nat} {S : MS}
/-- the CHOICE is one -/
def chOk (S : MS) : Prop := ∀ q : Int, 0 ≤ q → q < S.1 3 → 0 ≤ gd (S.2.1 40) q ∧ gd (S.2.1 40) q ≤ smI S q - 1
/-- how many come behind it -/
def remS (S : MS) : Nat := rmn (fun i => (smI S i).toNat) (fun i => (gd (S.2.1 40) i).toNat) (S.1 3).toNat 0
abbrev avQ (S : MS) : Option Value → MS → Prop := fun v S' => ∃ r : Int, v = some (.int (zI r)) ∧ (r = 0 ∨ r = 1) ∧ rSm S S' [] [40] [] ∧ chOk S' ∧ (r = 1 → remS S' + 1 = remS S)
theorem smI_40 {S1 : MS} {js : List Nat} {ls : List Nat} (h : rSm S S1 js [40] ls) (q : Int) : smI S1 q = smI S q := by
  unfold smI
  rw [h.2.1 38 (by decide), h.2.1 39 (by decide)]
theorem r_advance (hd : 1 ≤ d) (hn : 0 ≤ S.1 3 ∧ S.1 3 ≤ 6) (hm : mnB S 326) (hC : chOk S) : RM l G d M_Mo_advance [.ref o] o rf S (avQ S) := by
  obtain ⟨d, rfl⟩ : ∃ q, d = q + 1 := ⟨d - 1, by omega⟩
  intro H0 c n hR
  refine XM.of (by decide +kernel) (Nat.le_of_ble_eq_true rfl) ?_
  have hX : xonly H0 H0 RKs := xonly.rf
  have hsb : ∀ q : Int, 0 ≤ q → q < 6 → 1 ≤ smI S q ∧ smI S q ≤ 654 := fun q h0 h6 => by have := smI_b hm h0 h6; omega
  have lp : ∀ (K : Nat) (S1 : MS) (i : Int), -1 ≤ i → i < S.1 3 → rSm S S1 [] [40] [] → (∀ q : Int, 0 ≤ q → q ≤ i → gd (S1.2.1 40) q = gd (S.2.1 40) q) → (∀ q : Int, i < q → q < S.1 3 → gd (S1.2.1 40) q = 0 ∧ gd (S.2.1 40) q = smI S q - 1) → i + 1 ≤ K → RX l G M_Mo_advance (d + 1) 7 [some (.ref o), some (.int (zI i))] [] H0 o rf c n S1 (avQ S) := by
    intro K
    induction K with
    | zero =>
      intro S1 i h0 h1 hsm hlo hhi hK h hR hX
      have e3 := hsm.1 3 (by decide)
      refine x_iload_n d_Mo_advance_7 rfl ?_
      refine z_if_lt (tgt := 40) d_Mo_advance_8 (by decide) (by omega) (fun _ => ?_) (fun hq => by omega)
      refine x_iload_n d_Mo_advance_40 rfl ?_
      refine z_if_lt (tgt := 54) d_Mo_advance_41 (by decide) (by omega) (fun _ => ?_) (fun hq => by omega)
      refine x_iload_n d_Mo_advance_54 rfl ?_
      refine z_if_lt (tgt := 62) d_Mo_advance_55 (by decide) (by omega) (fun _ => ?_) (fun hq => by omega)
      refine x_iconst (v := zI 0) d_Mo_advance_62 (by decide) ?_
      refine x_zret d_Mo_advance_63 rfl (z_nb (by omega)) ?_
      exact ⟨_, hR, hX, rfl, rfl, 0, rfl, Or.inl rfl, hsm, fun q q0 q1 => by rw [e3] at q1; have := hhi q (by omega) q1; have := hsb q q0 (by omega); rw [smI_40 hsm]; omega, fun z => by omega⟩
    | succ K ih =>
      intro S1 i h0 h1 hsm hlo hhi hK h hR hX
      have e3 := hsm.1 3 (by decide)
      have l40 : _ = 6 := hR.len 40 (by decide)
      by_cases hneg : i < 0
      · refine x_iload_n d_Mo_advance_7 rfl ?_
        refine z_if_lt (tgt := 40) d_Mo_advance_8 (by decide) (by omega) (fun _ => ?_) (fun hq => by omega)
        refine x_iload_n d_Mo_advance_40 rfl ?_
        refine z_if_lt (tgt := 54) d_Mo_advance_41 (by decide) (by omega) (fun _ => ?_) (fun hq => by omega)
        refine x_iload_n d_Mo_advance_54 rfl ?_
        refine z_if_lt (tgt := 62) d_Mo_advance_55 (by decide) (by omega) (fun _ => ?_) (fun hq => by omega)
        refine x_iconst (v := zI 0) d_Mo_advance_62 (by decide) ?_
        refine x_zret d_Mo_advance_63 rfl (z_nb (by omega)) ?_
        exact ⟨_, hR, hX, rfl, rfl, 0, rfl, Or.inl rfl, hsm, fun q q0 q1 => by rw [e3] at q1; have := hhi q (by omega) q1; have := hsb q q0 (by omega); rw [smI_40 hsm]; omega, fun z => by omega⟩
      · have hm1 : mnB S1 328 := fun q q0 q6 => by
          have := hm q q0 q6
          rw [hsm.2.1 38 (by decide)]
          omega
        have es := smI_40 hsm i
        have hs1 := hsb i (by omega) (by omega)
        have hci := hC i (by omega) h1
        have hli := hlo i (by omega) (Int.le_refl _)
        refine x_iload_n d_Mo_advance_7 rfl ?_
        refine z_if_lt (tgt := 40) d_Mo_advance_8 (by decide) (by omega) (fun hq => by omega) (fun _ => ?_)
        refine x_aload_n d_Mo_advance_11 rfl rfl ?_
        refine x_get xf_Mo_100_Mo (Or.inl hR.1) (v := .ref (rf 40)) rfl d_Mo_advance_12 ?_
        refine x_iload_n d_Mo_advance_15 rfl ?_
        refine r_iald (i := 40) (us := (S1.2.1 40)) rfl (by decide) hR rfl (by omega) (by show i < 6; omega) d_Mo_advance_16 (fun hr16 => ?_)
        refine x_aload_n d_Mo_advance_17 rfl rfl ?_
        refine x_iload_n d_Mo_advance_18 rfl ?_
        refine x_callV (As := [_]) (k := k_MarkerTextModel) rfl xcv_Mo_296_Mo (Or.inl hR.1) (RM.ap hR (r_samples (by omega) (by omega) hm1)) rfl rfl (Nat.le_of_ble_eq_true rfl) d_Mo_advance_19 ?_
        rintro v19 h cq nq ⟨S19, hR, hX19, rfl, rfl, hE19, rfl⟩
        replace hE19 := Eq.symm hE19
        subst hE19
        replace hX := hX.tr hX19
        refine x_iconst (v := zI 1) d_Mo_advance_22 (by decide) ?_
        refine z_isub d_Mo_advance_23 ?_
        refine z_icmp_ne (tgt := 40) d_Mo_advance_24 (by decide) (by omega) (by omega) (fun hc24 => ?_) (fun hc24 => ?_)
        · refine x_iload_n d_Mo_advance_40 rfl ?_
          refine z_if_lt (tgt := 54) d_Mo_advance_41 (by decide) (by omega) (fun hq => by omega) (fun _ => ?_)
          refine x_aload_n d_Mo_advance_44 rfl rfl ?_
          refine x_get xf_Mo_100_Mo (Or.inl hR.1) (v := .ref (rf 40)) rfl d_Mo_advance_45 ?_
          refine x_iload_n d_Mo_advance_48 rfl ?_
          refine x_dup2_11 d_Mo_advance_49 rfl rfl ?_
          refine r_iald (i := 40) (us := (S1.2.1 40)) rfl (by decide) hR rfl (by omega) (by show i < 6; omega) d_Mo_advance_50 (fun hr50 => ?_)
          refine x_iconst (v := zI 1) d_Mo_advance_51 (by decide) ?_
          refine z_iadd d_Mo_advance_52 ?_
          refine r_iast (i := 40) (us := (S1.2.1 40)) ⟨rfl, rfl⟩ (by decide) hR hX rfl (by omega) (by show i < 6; omega) (by omega) d_Mo_advance_53 ?_
          intro h hR hX
          refine x_iload_n d_Mo_advance_54 rfl ?_
          refine z_if_lt (tgt := 62) d_Mo_advance_55 (by decide) (by omega) (fun hq => by omega) (fun _ => ?_)
          refine x_iconst (v := zI 1) d_Mo_advance_58 (by decide) ?_
          refine x_goto (tgt := 63) d_Mo_advance_59 (by decide) ?_
          refine x_zret d_Mo_advance_63 rfl (z_nb (by omega)) ?_
          have hg : ∀ q : Int, 0 ≤ q → gd (se (S1.2.1 40) i (gd (S1.2.1 40) i + 1)) q = if q = i then gd (S1.2.1 40) i + 1 else gd (S1.2.1 40) q := fun q q0 => gd_se_of l40 (by omega) (by omega) q0
          have hsm2 : rSm S (sa S1 40 (se (S1.2.1 40) i (gd (S1.2.1 40) i + 1))) [] [40] [] := hsm.sa (by decide)
          refine ⟨_, hR, hX, rfl, rfl, 1, rfl, Or.inr rfl, hsm2, fun q q0 q1 => ?_, fun _ => ?_⟩
          · rw [smI_40 hsm2]
            show 0 ≤ gd (se (S1.2.1 40) i (gd (S1.2.1 40) i + 1)) q ∧ gd (se (S1.2.1 40) i (gd (S1.2.1 40) i + 1)) q ≤ _
            rw [hg q q0]
            replace q1 : q < S1.1 3 := q1
            by_cases hq : q = i
            · rw [if_pos hq, hq]; omega
            · rw [if_neg hq]
              by_cases hq2 : q < i
              · rw [hlo q q0 (by omega)]; exact hC q q0 (by omega)
              · have := hhi q (by omega) (by omega); have := hsb q q0 (by omega); omega
          · have key := rmn_adv (s := fun j => (smI S j).toNat) (c := fun j => (gd (S.2.1 40) j).toNat) (c' := fun j => (gd (se (S1.2.1 40) i (gd (S1.2.1 40) i + 1)) j).toNat) (n := i.toNat) (S.1 3).toNat 0 (by omega) (by omega) (fun j _ j1 => by show (gd (se (S1.2.1 40) i (gd (S1.2.1 40) i + 1)) (j : Int)).toNat = _; rw [hg j (by omega), if_neg (by omega), hlo j (by omega) (by omega)]) (by show (gd (se (S1.2.1 40) i (gd (S1.2.1 40) i + 1)) (i.toNat : Int)).toNat = (gd (S.2.1 40) (i.toNat : Int)).toNat + 1; rw [hg _ (by omega), if_pos (by omega), show ((i.toNat : Nat) : Int) = i by omega]; omega) (by show (gd (S.2.1 40) (i.toNat : Int)).toNat + 1 ≤ (smI S (i.toNat : Int)).toNat - 1; rw [show ((i.toNat : Nat) : Int) = i by omega]; omega) (fun j j0 j1 => by have a1 := hhi j (by omega) (by omega); have a2 := hsb j (by omega) (by omega); refine ⟨?_, ?_, ?_⟩ <;> first | (show (gd (se (S1.2.1 40) i (gd (S1.2.1 40) i + 1)) (j : Int)).toNat = 0; rw [hg j (by omega), if_neg (by omega)]; omega) | (show (gd (S.2.1 40) (j : Int)).toNat = (smI S (j : Int)).toNat - 1; omega) | (show 1 ≤ (smI S (j : Int)).toNat; omega))
            have e1 : remS (sa S1 40 (se (S1.2.1 40) i (gd (S1.2.1 40) i + 1))) = rmn (fun j => (smI S j).toNat) (fun j => (gd (se (S1.2.1 40) i (gd (S1.2.1 40) i + 1)) j).toNat) (S.1 3).toNat 0 := by
              show rmn (fun j => (smI (sa S1 40 (se (S1.2.1 40) i (gd (S1.2.1 40) i + 1))) j).toNat) (fun j => (gd (se (S1.2.1 40) i (gd (S1.2.1 40) i + 1)) j).toNat) (S1.1 3).toNat 0 = _
              rw [e3]
              exact (rmn_congr _ _ (fun j _ _ => ⟨by show (smI _ _).toNat = _; rw [smI_40 hsm2], rfl⟩)).1
            rw [e1]
            exact key
        · refine x_aload_n d_Mo_advance_27 rfl rfl ?_
          refine x_get xf_Mo_100_Mo (Or.inl hR.1) (v := .ref (rf 40)) rfl d_Mo_advance_28 ?_
          refine x_iload_n d_Mo_advance_31 rfl ?_
          refine x_iconst (v := zI 0) d_Mo_advance_32 (by decide) ?_
          refine r_iast (i := 40) (us := (S1.2.1 40)) ⟨rfl, rfl⟩ (by decide) hR hX rfl (by omega) (by show i < 6; omega) (by omega) d_Mo_advance_33 ?_
          intro h hR hX
          refine x_iinc (v := zI (i + (-1))) (L' := [_, _]) d_Mo_advance_34 rfl (zI_add _ _) rfl rfl ?_
          refine x_goto (tgt := 7) d_Mo_advance_37 (by decide) ?_
          refine ih _ (i + -1) (by omega) (by omega) (hsm.sa (by decide)) (fun q q0 q1 => ?_) (fun q q0 q1 => ?_) (by omega) _ hR hX
          · show gd (se (S1.2.1 40) i 0) q = _
            rw [gd_se_of l40 (by omega) (by omega) q0, if_neg (by omega)]
            exact hlo q q0 (by omega)
          · show gd (se (S1.2.1 40) i 0) q = 0 ∧ _
            rw [gd_se_of l40 (by omega) (by omega) (by omega)]
            by_cases hq : q = i
            · rw [if_pos hq, hq]; omega
            · rw [if_neg hq]; exact hhi q (by omega) q1
  refine x_aload_n d_Mo_advance_0 rfl rfl ?_
  refine x_get xf_Mo_147_Mo (Or.inl hR.1) (v := .int (zI (S.1 3))) rfl d_Mo_advance_1 ?_
  have hb1 : inR (S.1 3) := hR.2.2.2 3
  refine x_iconst (v := zI 1) d_Mo_advance_4 (by decide) ?_
  refine z_isub d_Mo_advance_5 ?_
  refine x_istore_n (L' := [_, _]) d_Mo_advance_6 rfl rfl ?_
  exact lp 6 S _ (by omega) (by omega) rSm.r0 (fun q q0 q1 => rfl) (fun q q0 q1 => by omega) (by omega) _ hR hX
theorem nI_ti {k : Nat} (hk : k < 2 ^ 31) : (nI k).toInt = k := by
  have h1 := nI_clamp hk
  have h2 : (nI k).toInt.toNat = k := h1
  have h3 : ¬ nI k < 0 := nI_pos hk
  rw [Int32.lt_iff_toInt_lt] at h3
  have e0 : (0 : Int32).toInt = 0 := by decide
  omega
theorem zI_nI {k : Nat} (hk : k < 2 ^ 31) : zI (k : Int) = nI k := by rw [← nI_ti hk, zI_of]
theorem or_b {b k : Int} (hb : 0 ≤ b ∧ b < 256) (hk : 0 ≤ k ∧ k < 8) : 0 ≤ (zI b ||| zI ((zI 1 <<< (zI k &&& 31)).toInt)).toInt ∧ (zI b ||| zI ((zI 1 <<< (zI k &&& 31)).toInt)).toInt < 256 := by
  obtain ⟨x, rfl⟩ : ∃ x : Nat, b = x := ⟨b.toNat, by omega⟩
  obtain ⟨y, rfl⟩ : ∃ y : Nat, k = y := ⟨k.toNat, by omega⟩
  rw [zI_of, zI_nI (by omega), zI_nI (by omega), show zI 1 = (1 : Int32) by decide]
  obtain ⟨e1, e2⟩ := bit_or0 x (by omega) y (by omega)
  rw [e1, nI_ti (by omega)]
  omega
theorem or_0 {b : Int} (hb : inR b) : (zI b ||| zI 0).toInt = b := by
  rw [show zI 0 = (0 : Int32) by decide, Int32.or_zero, zI_ti hb]
abbrev trQ (S : MS) : Option Value → MS → Prop := fun v S' => ∃ (us : List Int) (r : Int), S' = sa S 41 us ∧ v = some (.int (zI r)) ∧ 0 ≤ r ∧ r < 256
theorem r_truth {w : Int} (hd : 3 ≤ d) (hw : inR w) (hC : csOk S) : RM l G d M_Mo_truth [.ref o, .int (zI w)] o rf S (trQ S) := by
  obtain ⟨d, rfl⟩ : ∃ q, d = q + 1 := ⟨d - 1, by omega⟩
  intro H0 c n hR
  refine XM.of (by decide +kernel) (Nat.le_of_ble_eq_true rfl) ?_
  have hX : xonly H0 H0 RKs := xonly.rf
  obtain ⟨k1, k2, k3⟩ := id hC
  have lp : ∀ (K : Nat) (us : List Int) (b q : Int) (w4 : Option Value), 0 ≤ b → b < 256 → 0 ≤ q → q ≤ S.1 11 → S.1 11 - q ≤ K → RX l G M_Mo_truth (d + 1) 4 [some (.ref o), some (.int (zI w)), some (.int (zI b)), some (.int (zI q)), w4] [] H0 o rf c n (sa S 41 us) (trQ S) := by
    intro K
    induction K with
    | zero =>
      intro us b q w4 b0 b1 h0 h1 hK h hR hX
      refine x_iload_n d_Mo_truth_4 rfl ?_
      refine x_aload_n d_Mo_truth_5 rfl rfl ?_
      refine x_get xf_Mo_268_Mo (Or.inl hR.1) (v := .int (zI (S.1 11))) rfl d_Mo_truth_6 ?_
      have hb6 : inR (S.1 11) := hR.2.2.2 11
      refine z_icmp_ge (tgt := 58) d_Mo_truth_9 (by decide) (by omega) (by omega) (fun _ => ?_) (fun hq => by omega)
      refine x_iload_n d_Mo_truth_58 rfl ?_
      refine x_iret d_Mo_truth_59 rfl ?_
      exact ⟨_, hR, hX, rfl, rfl, us, b, rfl, rfl, b0, b1⟩
    | succ K ih =>
      intro us b q w4 b0 b1 h0 h1 hK h hR hX
      have j35 : ∀ (us : List Int) (z : Int), (z = 0 ∨ z = 1) → q < S.1 11 → RX l G M_Mo_truth (d + 1) 35 [some (.ref o), some (.int (zI w)), some (.int (zI b)), some (.int (zI q)), w4] [.int (zI z)] H0 o rf c n (sa S 41 us) (trQ S) := by
        intro us z hz hq h hR hX
        have ho := or_b (b := b) (k := q) (by omega) (by omega)
        have ho0 := or_0 (b := b) (by omega)
        refine x_istore (L' := [_, _, _, _, _]) d_Mo_truth_35 rfl rfl ?_
        refine x_iload_n d_Mo_truth_37 rfl ?_
        refine x_iload d_Mo_truth_38 rfl ?_
        refine z_if_eq (tgt := 49) d_Mo_truth_40 (by decide) (by omega) (fun hc40 => ?_) (fun hc40 => ?_)
        · refine x_iconst (v := zI 0) d_Mo_truth_49 (by decide) ?_
          refine x_ior d_Mo_truth_50 (x_zi ?_)
          have hr50 := inR_ti (zI b ||| zI 0)
          refine x_istore_n (L' := [_, _, _, _, _]) d_Mo_truth_51 rfl rfl ?_
          refine x_iinc (v := zI (q + 1)) (L' := [_, _, _, _, _]) d_Mo_truth_52 rfl (zI_add _ _) rfl rfl ?_
          refine x_goto (tgt := 4) d_Mo_truth_55 (by decide) ?_
          exact ih us _ (q + 1) _ (by omega) (by omega) (by omega) (by omega) (by omega) _ hR hX
        · refine x_iconst (v := zI 1) d_Mo_truth_43 (by decide) ?_
          refine x_iload_n d_Mo_truth_44 rfl ?_
          refine x_ishl d_Mo_truth_45 (x_zi ?_)
          have hr45 := inR_ti (zI 1 <<< (zI q &&& 31))
          refine x_goto (tgt := 50) d_Mo_truth_46 (by decide) ?_
          refine x_ior d_Mo_truth_50 (x_zi ?_)
          have hr50 := inR_ti (zI b ||| zI ((zI 1 <<< (zI q &&& 31)).toInt))
          refine x_istore_n (L' := [_, _, _, _, _]) d_Mo_truth_51 rfl rfl ?_
          refine x_iinc (v := zI (q + 1)) (L' := [_, _, _, _, _]) d_Mo_truth_52 rfl (zI_add _ _) rfl rfl ?_
          refine x_goto (tgt := 4) d_Mo_truth_55 (by decide) ?_
          exact ih us _ (q + 1) _ (by omega) (by omega) (by omega) (by omega) (by omega) _ hR hX
      refine x_iload_n d_Mo_truth_4 rfl ?_
      refine x_aload_n d_Mo_truth_5 rfl rfl ?_
      refine x_get xf_Mo_268_Mo (Or.inl hR.1) (v := .int (zI (S.1 11))) rfl d_Mo_truth_6 ?_
      have hb6 : inR (S.1 11) := hR.2.2.2 11
      refine z_icmp_ge (tgt := 58) d_Mo_truth_9 (by decide) (by omega) (by omega) (fun hc9 => ?_) (fun hc9 => ?_)
      · refine x_iload_n d_Mo_truth_58 rfl ?_
        refine x_iret d_Mo_truth_59 rfl ?_
        exact ⟨_, hR, hX, rfl, rfl, us, b, rfl, rfl, b0, b1⟩
      · refine x_iload_n d_Mo_truth_12 rfl ?_
        refine x_iload_n d_Mo_truth_13 rfl ?_
        refine x_ishr d_Mo_truth_14 (x_zi ?_)
        have hr14 := inR_ti (zI w >>> (zI q &&& 31))
        refine x_iconst (v := zI 1) d_Mo_truth_15 (by decide) ?_
        refine x_iand d_Mo_truth_16 (x_zi ?_)
        have hr16 := inR_ti (zI ((zI w >>> (zI q &&& 31)).toInt) &&& zI 1)
        refine x_iconst (v := zI 1) d_Mo_truth_17 (by decide) ?_
        refine z_icmp_ne (tgt := 34) d_Mo_truth_18 (by decide) (by omega) (by omega) (fun hc18 => ?_) (fun hc18 => ?_)
        · refine x_iconst (v := zI 0) d_Mo_truth_34 (by decide) ?_
          first | exact j35 us24 _ (by omega) (by omega) _ (by rw [sa_sa] at hR; exact hR) hX | exact j35 us _ (by omega) (by omega) _ hR hX
        · refine x_aload_n d_Mo_truth_21 rfl rfl ?_
          refine x_iload_n d_Mo_truth_22 rfl ?_
          refine x_iconst (v := zI 1) d_Mo_truth_23 (by decide) ?_
          refine x_callV (As := [_, _]) (k := k_MarkerTextModel) rfl xcv_Mo_284_Mo (Or.inl hR.1) (RM.ap hR (r_isHeld (S := sa S 41 us) (by omega) (Or.inr rfl) (by omega) ((k3 q h0 (by omega)).agr (agr.sm ((rSm.r0 (js := []) (is := [41]) (ls := [])).sa (by decide)) (by decide))))) rfl rfl (Nat.le_of_ble_eq_true rfl) d_Mo_truth_24 ?_
          rintro v24 h cq nq ⟨S24, hR, hX24, rfl, rfl, us24, rfl, r24, rfl, hr24⟩
          replace hX := hX.tr hX24
          refine z_if_eq (tgt := 34) d_Mo_truth_27 (by decide) (by omega) (fun hc27 => ?_) (fun hc27 => ?_)
          · refine x_iconst (v := zI 0) d_Mo_truth_34 (by decide) ?_
            first | exact j35 us24 _ (by omega) (by omega) _ (by rw [sa_sa] at hR; exact hR) hX | exact j35 us _ (by omega) (by omega) _ hR hX
          · refine x_iconst (v := zI 1) d_Mo_truth_30 (by decide) ?_
            refine x_goto (tgt := 35) d_Mo_truth_31 (by decide) ?_
            first | exact j35 us24 _ (by omega) (by omega) _ (by rw [sa_sa] at hR; exact hR) hX | exact j35 us _ (by omega) (by omega) _ hR hX
  refine x_iconst (v := zI 0) d_Mo_truth_0 (by decide) ?_
  refine x_istore_n (L' := [_, _, _, _, _]) d_Mo_truth_1 rfl rfl ?_
  refine x_iconst (v := zI 0) d_Mo_truth_2 (by decide) ?_
  refine x_istore_n (L' := [_, _, _, _, _]) d_Mo_truth_3 rfl rfl ?_
  exact lp 8 _ 0 0 _ (by omega) (by omega) (by omega) k1 (by omega) _ (by rw [sa_id (i := 41)]; exact hR) hX
end RF18
