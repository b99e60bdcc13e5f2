section

end
section RI7
variable {l : Launch} {G : XG} {h : XH} {c n d : Nat} {o : Nat} {rf : Nat → Nat} {S : MS}
/-- the picks, in the reference -/
def pkR (pk : List Nat) (S : MS) : Prop := pk.length = 6 ∧ ∀ j : Nat, j < 6 → gd (S.2.1 40) j = ((pk.getD j 0 : Nat) : Int)
theorem set_same {pk : List Nat} {j : Nat} (hj : j < pk.length) (h : pk.getD j 0 = 0) : pk.set j 0 = pk := by
  refine List.ext_getElem (by simp) (fun i h1 h2 => ?_)
  rw [List.getElem_set]
  split
  · rename_i e
    subst e
    rw [List.getD_eq_getElem?_getD, List.getElem?_eq_getElem hj] at h
    exact h.symm
  · rfl
theorem advP_skip {am pk : List Nat} {N : Nat} (hp : pk.length = 6) : ∀ k, N + k ≤ 6 → (∀ j, N ≤ j → j < 6 → am.getD j 0 = 1 ∧ pk.getD j 0 = 0) → advP am (N + k) pk = advP am N pk := by
  intro k
  induction k with
  | zero => intro _ _; rfl
  | succ k ih =>
    intro hk hz
    obtain ⟨a, b⟩ := hz (N + k) (by omega) (by omega)
    show (if am.getD (N + k) 0 ≤ pk.getD (N + k) 0 + 1 then advP am (N + k) (pk.set (N + k) 0) else pk.set (N + k) (pk.getD (N + k) 0 + 1)) = _
    rw [if_pos (by omega), set_same (by omega) b]
    exact ih (by omega) hz
/-- how advance() ends, in full -/
abbrev avX (S : MS) (am pk : List Nat) : Option Value → MS → Prop := fun v S' => ∃ r : Int, v = some (.int (zI r)) ∧ (r = 0 ∨ r = 1) ∧ rSm S S' [] [40] [] ∧ chOk S' ∧ (r = 1 → remS S' + 1 = remS S) ∧ (r = 0 → remS S = 0) ∧ pkR (advP am 6 pk) S'
theorem r_advanceX {am pk : List Nat} (hd : 1 ≤ d) (hn : 0 ≤ S.1 3 ∧ S.1 3 ≤ 6) (hm : mnB S 326) (hC : chOk S) (hP : pkR pk S) (ham : ∀ j : Nat, j < 6 → smI S j = ((am.getD j 0 : Nat) : Int)) (hz : ∀ j : Nat, (S.1 3).toNat ≤ j → j < 6 → am.getD j 0 = 1 ∧ pk.getD j 0 = 0) : RM l G d M_Mo_advance [.ref o] o rf S (avX S am pk) := by
  refine RM.wx (fun hlen => ?_)
  -- what the class makes of it
  have l40 : (S.2.1 40).length = 6 := hlen.1 40 (by decide)
  have hsb : ∀ q : Int, 0 ≤ q → q < 6 → 1 ≤ smI S q ∧ smI S q ≤ 654 := fun q h0 h6 => by have := smI_b hm h0 h6; omega
  have h6 := advP_skip (am := am) (N := (S.1 3).toNat) hP.1 (6 - (S.1 3).toNat) (by omega) hz
  rw [show (S.1 3).toNat + (6 - (S.1 3).toNat) = 6 by omega] at h6
  obtain ⟨d, rfl⟩ : ∃ q, d = q + 1 := ⟨d - 1, by omega⟩
  intro H0 c n hR
  refine XM.of (by decide +kernel) (Nat.le_of_ble_eq_true rfl) ?_
  have hX : xonly H0 H0 RKs := xonly.rf
  have lp : ∀ (K k : Nat) (S1 : MS) (i : Int) (pk1 : List Nat), i + 1 = (k : Nat) → i < S.1 3 → rSm S S1 [] [40] [] → pkR pk1 S1 → advP am k pk1 = advP am 6 pk → (∀ q : Int, 0 ≤ q → q ≤ i → gd (S1.2.1 40) q = gd (S.2.1 40) q) → (∀ q : Int, i < q → q < S.1 3 → gd (S1.2.1 40) q = 0 ∧ gd (S.2.1 40) q = smI S q - 1) → k ≤ K → RX l G M_Mo_advance (d + 1) 7 [some (.ref o), some (.int (zI i))] [] H0 o rf c n S1 (avX S am pk) := by
    have out : ∀ (S1 : MS) (i : Int) (pk1 : List Nat), i + 1 = 0 → rSm S S1 [] [40] [] → pkR pk1 S1 → advP am 0 pk1 = advP am 6 pk → (∀ q : Int, i < q → q < S.1 3 → gd (S1.2.1 40) q = 0 ∧ gd (S.2.1 40) q = smI S q - 1) → avX S am pk (some (.int (zI 0))) S1 := by
      intro S1 i pk1 hi hsm hp1 he hhi
      have e3 := hsm.1 3 (by decide)
      refine ⟨0, rfl, Or.inl rfl, hsm, fun q q0 q1 => ?_, (fun z => by omega), fun _ => ?_, by rw [← he]; exact hp1⟩
      · rw [e3] at q1
        have := hhi q (by omega) q1
        have := hsb q q0 (by omega)
        rw [smI_40 hsm]
        omega
      · refine rmn_f _ _ (fun j _ j1 => ?_)
        have a1 := hhi (j : Nat) (by omega) (by omega)
        have a2 := hsb (j : Nat) (by omega) (by omega)
        show (gd (S.2.1 40) (j : Int)).toNat = (smI S (j : Int)).toNat - 1
        omega
    intro K
    induction K with
    | zero =>
      intro k S1 i pk1 hk h1 hsm hp1 he hlo hhi hK h hR hX
      obtain rfl : k = 0 := by omega
      refine x_iload_n d_Mo_advance_7 rfl ?_
      refine z_if_lt (tgt := 40) d_Mo_advance_8 (by decide) (by omega) (fun _ => ?_) (fun hq => by omega)
      refine x_iload_n d_Mo_advance_40 rfl ?_
      refine z_if_lt (tgt := 54) d_Mo_advance_41 (by decide) (by omega) (fun _ => ?_) (fun hq => by omega)
      refine x_iload_n d_Mo_advance_54 rfl ?_
      refine z_if_lt (tgt := 62) d_Mo_advance_55 (by decide) (by omega) (fun _ => ?_) (fun hq => by omega)
      refine x_iconst (v := zI 0) d_Mo_advance_62 (by decide) ?_
      refine x_zret d_Mo_advance_63 rfl (z_nb (by omega)) ?_
      exact ⟨_, hR, hX, rfl, rfl, out S1 i pk1 (by omega) hsm hp1 he hhi⟩
    | succ K ih =>
      intro k S1 i pk1 hk h1 hsm hp1 he hlo hhi hK h hR hX
      have e3 := hsm.1 3 (by decide)
      have l40' : (S1.2.1 40).length = 6 := hR.len 40 (by decide)
      by_cases hneg : i < 0
      · obtain rfl : k = 0 := by omega
        refine x_iload_n d_Mo_advance_7 rfl ?_
        refine z_if_lt (tgt := 40) d_Mo_advance_8 (by decide) (by omega) (fun _ => ?_) (fun hq => by omega)
        refine x_iload_n d_Mo_advance_40 rfl ?_
        refine z_if_lt (tgt := 54) d_Mo_advance_41 (by decide) (by omega) (fun _ => ?_) (fun hq => by omega)
        refine x_iload_n d_Mo_advance_54 rfl ?_
        refine z_if_lt (tgt := 62) d_Mo_advance_55 (by decide) (by omega) (fun _ => ?_) (fun hq => by omega)
        refine x_iconst (v := zI 0) d_Mo_advance_62 (by decide) ?_
        refine x_zret d_Mo_advance_63 rfl (z_nb (by omega)) ?_
        exact ⟨_, hR, hX, rfl, rfl, out S1 i pk1 (by omega) hsm hp1 he hhi⟩
      · have hm1 : mnB S1 328 := fun q q0 q6 => by
          have := hm q q0 q6
          rw [hsm.2.1 38 (by decide)]
          omega
        obtain ⟨m, rfl⟩ : ∃ m, k = m + 1 := ⟨k - 1, by omega⟩
        have him : i = (m : Nat) := by omega
        have es := smI_40 hsm i
        have hs1 := hsb i (by omega) (by omega)
        have hci := hC i (by omega) h1
        have hli := hlo i (by omega) (Int.le_refl _)
        have hsm' := ham m (by omega)
        rw [← him] at hsm'
        have hpm := hp1.2 m (by omega)
        rw [← him] at hpm
        have he : (if am.getD m 0 ≤ pk1.getD m 0 + 1 then advP am m (pk1.set m 0) else pk1.set m (pk1.getD m 0 + 1)) = advP am 6 pk := he
        have hset : ∀ (z : Nat) (S2 : MS), S2.2.1 40 = se (S1.2.1 40) i ((z : Nat) : Int) → pkR (pk1.set m z) S2 := by
          intro z S2 e
          refine ⟨by rw [List.length_set]; exact hp1.1, fun j hj => ?_⟩
          rw [e, gd_se_of l40' (by omega) (by omega) (by omega), getD_set (by rw [hp1.1]; omega)]
          by_cases ej : j = m
          · rw [if_pos ej, if_pos (by omega)]
          · rw [if_neg ej, if_neg (by omega)]
            exact hp1.2 j hj
        refine x_iload_n d_Mo_advance_7 rfl ?_
        refine z_if_lt (tgt := 40) d_Mo_advance_8 (by decide) (by omega) (fun hq => by omega) (fun _ => ?_)
        refine x_aload_n d_Mo_advance_11 rfl rfl ?_
        refine x_get xf_Mo_100_Mo (Or.inl hR.1) (v := .ref (rf 40)) rfl d_Mo_advance_12 ?_
        refine x_iload_n d_Mo_advance_15 rfl ?_
        refine r_iald (i := 40) (us := (S1.2.1 40)) rfl (by decide) hR rfl (by omega) (by show i < 6; omega) d_Mo_advance_16 (fun hr16 => ?_)
        refine x_aload_n d_Mo_advance_17 rfl rfl ?_
        refine x_iload_n d_Mo_advance_18 rfl ?_
        refine x_callV (As := [_]) (k := k_MarkerTextModel) rfl xcv_Mo_296_Mo (Or.inl hR.1) (RM.ap hR (r_samples (by omega) (by omega) hm1)) rfl rfl (Nat.le_of_ble_eq_true rfl) d_Mo_advance_19 ?_
        rintro v19 h cq nq ⟨S19, hR, hX19, rfl, rfl, hE19, rfl⟩
        replace hE19 := Eq.symm hE19
        subst hE19
        replace hX := hX.tr hX19
        refine x_iconst (v := zI 1) d_Mo_advance_22 (by decide) ?_
        refine z_isub d_Mo_advance_23 ?_
        refine z_icmp_ne (tgt := 40) d_Mo_advance_24 (by decide) (by omega) (by omega) (fun hc24 => ?_) (fun hc24 => ?_)
        · refine x_iload_n d_Mo_advance_40 rfl ?_
          refine z_if_lt (tgt := 54) d_Mo_advance_41 (by decide) (by omega) (fun hq => by omega) (fun _ => ?_)
          refine x_aload_n d_Mo_advance_44 rfl rfl ?_
          refine x_get xf_Mo_100_Mo (Or.inl hR.1) (v := .ref (rf 40)) rfl d_Mo_advance_45 ?_
          refine x_iload_n d_Mo_advance_48 rfl ?_
          refine x_dup2_11 d_Mo_advance_49 rfl rfl ?_
          refine r_iald (i := 40) (us := (S1.2.1 40)) rfl (by decide) hR rfl (by omega) (by show i < 6; omega) d_Mo_advance_50 (fun hr50 => ?_)
          refine x_iconst (v := zI 1) d_Mo_advance_51 (by decide) ?_
          refine z_iadd d_Mo_advance_52 ?_
          refine r_iast (i := 40) (us := (S1.2.1 40)) ⟨rfl, rfl⟩ (by decide) hR hX rfl (by omega) (by show i < 6; omega) (by omega) d_Mo_advance_53 ?_
          intro h hR hX
          refine x_iload_n d_Mo_advance_54 rfl ?_
          refine z_if_lt (tgt := 62) d_Mo_advance_55 (by decide) (by omega) (fun hq => by omega) (fun _ => ?_)
          refine x_iconst (v := zI 1) d_Mo_advance_58 (by decide) ?_
          refine x_goto (tgt := 63) d_Mo_advance_59 (by decide) ?_
          refine x_zret d_Mo_advance_63 rfl (z_nb (by omega)) ?_
          have hg : ∀ q : Int, 0 ≤ q → gd (se (S1.2.1 40) i (gd (S1.2.1 40) i + 1)) q = if q = i then gd (S1.2.1 40) i + 1 else gd (S1.2.1 40) q := fun q q0 => gd_se_of l40' (by omega) (by omega) q0
          have hsm2 : rSm S (sa S1 40 (se (S1.2.1 40) i (gd (S1.2.1 40) i + 1))) [] [40] [] := hsm.sa (by decide)
          rw [if_neg (by omega)] at he
          refine ⟨_, hR, hX, rfl, rfl, 1, rfl, Or.inr rfl, hsm2, fun q q0 q1 => ?_, fun _ => ?_, (fun z => by omega), by rw [← he]; exact hset _ _ (by show se (S1.2.1 40) i (gd (S1.2.1 40) i + 1) = _; rw [hpm]; rfl)⟩
          · rw [smI_40 hsm2]
            show 0 ≤ gd (se (S1.2.1 40) i (gd (S1.2.1 40) i + 1)) q ∧ gd (se (S1.2.1 40) i (gd (S1.2.1 40) i + 1)) q ≤ _
            rw [hg q q0]
            replace q1 : q < S1.1 3 := q1
            by_cases hq : q = i
            · rw [if_pos hq, hq]; omega
            · rw [if_neg hq]
              by_cases hq2 : q < i
              · rw [hlo q q0 (by omega)]; exact hC q q0 (by omega)
              · have := hhi q (by omega) (by omega); have := hsb q q0 (by omega); omega
          · have key := rmn_adv (s := fun j => (smI S j).toNat) (c := fun j => (gd (S.2.1 40) j).toNat) (c' := fun j => (gd (se (S1.2.1 40) i (gd (S1.2.1 40) i + 1)) j).toNat) (n := i.toNat) (S.1 3).toNat 0 (by omega) (by omega) (fun j _ j1 => by show (gd (se (S1.2.1 40) i (gd (S1.2.1 40) i + 1)) (j : Int)).toNat = _; rw [hg j (by omega), if_neg (by omega), hlo j (by omega) (by omega)]) (by show (gd (se (S1.2.1 40) i (gd (S1.2.1 40) i + 1)) (i.toNat : Int)).toNat = (gd (S.2.1 40) (i.toNat : Int)).toNat + 1; rw [hg _ (by omega), if_pos (by omega), show ((i.toNat : Nat) : Int) = i by omega]; omega) (by show (gd (S.2.1 40) (i.toNat : Int)).toNat + 1 ≤ (smI S (i.toNat : Int)).toNat - 1; rw [show ((i.toNat : Nat) : Int) = i by omega]; omega) (fun j j0 j1 => by have a1 := hhi j (by omega) (by omega); have a2 := hsb j (by omega) (by omega); refine ⟨?_, ?_, ?_⟩ <;> first | (show (gd (se (S1.2.1 40) i (gd (S1.2.1 40) i + 1)) (j : Int)).toNat = 0; rw [hg j (by omega), if_neg (by omega)]; omega) | (show (gd (S.2.1 40) (j : Int)).toNat = (smI S (j : Int)).toNat - 1; omega) | (show 1 ≤ (smI S (j : Int)).toNat; omega))
            have e1 : remS (sa S1 40 (se (S1.2.1 40) i (gd (S1.2.1 40) i + 1))) = rmn (fun j => (smI S j).toNat) (fun j => (gd (se (S1.2.1 40) i (gd (S1.2.1 40) i + 1)) j).toNat) (S.1 3).toNat 0 := by
              show rmn (fun j => (smI (sa S1 40 (se (S1.2.1 40) i (gd (S1.2.1 40) i + 1))) j).toNat) (fun j => (gd (se (S1.2.1 40) i (gd (S1.2.1 40) i + 1)) j).toNat) (S1.1 3).toNat 0 = _
              rw [e3]
              exact (rmn_congr _ _ (fun j _ _ => ⟨by show (smI _ _).toNat = _; rw [smI_40 hsm2], rfl⟩)).1
            rw [e1]
            exact key
        · refine x_aload_n d_Mo_advance_27 rfl rfl ?_
          refine x_get xf_Mo_100_Mo (Or.inl hR.1) (v := .ref (rf 40)) rfl d_Mo_advance_28 ?_
          refine x_iload_n d_Mo_advance_31 rfl ?_
          refine x_iconst (v := zI 0) d_Mo_advance_32 (by decide) ?_
          refine r_iast (i := 40) (us := (S1.2.1 40)) ⟨rfl, rfl⟩ (by decide) hR hX rfl (by omega) (by show i < 6; omega) (by omega) d_Mo_advance_33 ?_
          intro h hR hX
          refine x_iinc (v := zI (i + (-1))) (L' := [_, _]) d_Mo_advance_34 rfl (zI_add _ _) rfl rfl ?_
          refine x_goto (tgt := 7) d_Mo_advance_37 (by decide) ?_
          rw [if_pos (by omega)] at he
          refine ih m _ (i + -1) (pk1.set m 0) (by omega) (by omega) (hsm.sa (by decide)) (hset 0 _ rfl) he (fun q q0 q1 => ?_) (fun q q0 q1 => ?_) (by omega) _ hR hX
          · show gd (se (S1.2.1 40) i 0) q = _
            rw [gd_se_of l40' (by omega) (by omega) q0, if_neg (by omega)]
            exact hlo q q0 (by omega)
          · show gd (se (S1.2.1 40) i 0) q = 0 ∧ _
            rw [gd_se_of l40' (by omega) (by omega) (by omega)]
            by_cases hq : q = i
            · rw [if_pos hq, hq]; omega
            · rw [if_neg hq]; exact hhi q (by omega) q1
  refine x_aload_n d_Mo_advance_0 rfl rfl ?_
  refine x_get xf_Mo_147_Mo (Or.inl hR.1) (v := .int (zI (S.1 3))) rfl d_Mo_advance_1 ?_
  have hb1 : inR (S.1 3) := hR.2.2.2 3
  refine x_iconst (v := zI 1) d_Mo_advance_4 (by decide) ?_
  refine z_isub d_Mo_advance_5 ?_
  refine x_istore_n (L' := [_, _]) d_Mo_advance_6 rfl rfl ?_
  exact lp 6 (S.1 3).toNat S _ pk (by omega) (by omega) rSm.r0 hP h6.symm (fun q q0 q1 => rfl) (fun q q0 q1 => by omega) (by omega) _ hR hX
/-- what a CHOICE makes of the tests of a condition -/
theorem evC_1 {lv : Nat → Nat} {pk : List Nat} {Ws : Nat → List Nat} {Ns : List NmT} {s : Int} {dn : Int → Den} {tx : Int → Option TsT} (hsl : slR Ns S s dn tx) (hN : nmR Ns S) (h6 : Ns.length ≤ 6) (hP : pkR pk S) (hpl : plR Ns Ws S s (S.2.1 25) (40 * s + gd (S.2.1 21) s) 0) (hWs : ∀ j : Nat, j < 6 → srt (Ws j) ∧ evn (Ws j) ∧ (Ws j).length ≤ 326 ∧ pk.getD j 0 < smN (Ws j) ∧ lv j = lvS (Ws j) (pk.getD j 0)) : evC 1 S lv s tx := by
  intro q x h1 h2 hx
  rcases hsl.2.2.1 q h1 h2 with ⟨a, -⟩ | ⟨y, a, b⟩
  · rw [hx] at a; cases a
  · rw [hx] at a
    cases a
    obtain ⟨nm, b1, b2, b3, b4⟩ := b.its
    have hil := (List.getElem?_eq_some_iff.mp b1).1
    have hkd : nm.2.1 < 2 := (hN.2 _ nm b1).2.2.2.2.2
    obtain ⟨w1, w2, w3, w4, w5⟩ := hWs x.1 (by omega)
    have hg := hP.2 x.1 (by omega)
    have hsb : smN (Ws x.1) ≤ 654 := by
      unfold smN
      split <;> omega
    have hne : 1 ≤ pk.getD x.1 0 → 0 < (Ws x.1).length := fun z => by
      by_cases e : Ws x.1 = []
      · rw [e, show smN [] = 1 from rfl] at w4
        omega
      · exact List.length_pos_iff.mpr e
    refine ⟨Or.inr ⟨rfl, ?_⟩, fun j hj hl => Or.inr ⟨rfl, ?_⟩⟩
    · by_cases e : pk.getD x.1 0 = 0
      · exact Or.inl ⟨by rw [hg, e]; rfl, by rw [w5, e]; rfl⟩
      · exact Or.inr ⟨by omega, by omega, by rw [w5]; exact (lvS_ord w1 w2 (by omega) w4 (hne (by omega))).1⟩
    · have h0 : 1 ≤ pk.getD x.1 0 := by
        by_cases e : pk.getD x.1 0 = 0
        · exact absurd (by rw [w5, e]; rfl) hl
        · omega
      obtain ⟨i, i1, i2, i3⟩ := hpl q j x.1 nm h1 (Or.inl h2) (by omega) b2 b1
      have hV : (Ws x.1).getD i 0 = x.2.2.1.getD j 0 := ((i2.ord hkd (b4 j hj)).2).mpr rfl
      obtain ⟨o1, o2, o3⟩ := lvS_ord w1 w2 h0 w4 i1
      rw [w5, ← hV, i3, hg]
      exact ⟨by omega, by rw [o2]; omega, by rw [o3]; omega⟩
end RI7
