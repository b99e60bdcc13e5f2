section

end
section RH9
variable {l : Launch} {G : XG} {h : XH} {c n d : Nat} {o : Nat} {rf : Nat → Nat} {S : MS}
/-- something is wrong at a place -/
abbrev wrg (S S' : MS) (a : Nat) : Prop := S'.1 29 = (a : Nat) ∧ 0 ≤ S'.1 27 ∧ S'.1 27 ≤ S.1 2 + 1
theorem e_tru : xtx 20 = [116, 114, 117, 101] := by decide
theorem e_fls : xtx 21 = [102, 97, 108, 115, 101] := by decide
theorem nof_nil {Ns : List NmT} (hD : nmD Ns) : nof Ns [] = none := by
  unfold nof
  rw [List.findIdx?_eq_none_iff]
  intro x hx
  have := (hD.2 x hx).2
  simpa using this
theorem chr_wrd {t : List Nat} {p : Nat} (h : wrd t p ≠ []) : isLt (chr t p) := by
  have h0 : 0 < (wrd t p).length := by
    cases hq : wrd t p with
    | nil => exact absurd hq h
    | cons a r => simp
  have := wrd_get h0
  have hm0 : (wrd t p).getD 0 0 ∈ wrd t p := by
    rw [List.getD_eq_getElem?_getD, List.getElem?_eq_getElem h0]
    exact List.getElem_mem h0
  have h1 := wrd_lt _ hm0
  rw [this] at h1
  exact h1
/-- how readFirst() ends, in full -/
def rfX (t : List Nat) (Ns : List NmT) (S : MS) (P : List Int) (Ds : List Den) (p tc : Nat) (ts : List TsT) : Option Value → MS → Prop := fun v S' => v = none ∧ fX S S' ∧ ((chr t p = 40 ∧ ((S.1 33 = 12 ∧ wrg S S' p) ∨ (S.1 33 < 12 ∧ rdX t Ns S' (4 :: P) Ds (p + 1) tc ts))) ∨ (chr t p ≠ 40 ∧ wrd t p = [110, 111, 116] ∧ ((S.1 33 = 12 ∧ wrg S S' p) ∨ (S.1 33 < 12 ∧ rdX t Ns S' (1 :: P) Ds (p + 3) tc ts))) ∨ (chr t p ≠ 40 ∧ wrd t p ≠ [110, 111, 116] ∧ ((∃ st', rLf t Ns (p, tc, ts) = (st', none) ∧ wrg S S' st'.1) ∨ ∃ st' D, rLf t Ns (p, tc, ts) = (st', some D) ∧ st'.2.1 = tc + 1 ∧ rdX t Ns S' (cmpl P (D :: Ds)).1 (cmpl P (D :: Ds)).2 st'.1 st'.2.1 st'.2.2)))
set_option maxHeartbeats 2000000 in
theorem r_readFirstX (hd : 6 ≤ d) {t : List Nat} {Ns : List NmT} {P : List Int} {Ds : List Den} {p tc : Nat} {ts : List TsT} (hX0 : rdX t Ns S P Ds p tc ts) (h33 : S.1 33 ≤ 12) : RM l G d M_Mo_readFirst [.ref o] o rf S (rfX t Ns S P Ds p tc ts) := by
  obtain ⟨d, rfl⟩ : ∃ q, d = q + 1 := ⟨d - 1, by omega⟩
  intro H0 c n hR
  refine XM.of (by decide +kernel) (Nat.le_of_ble_eq_true rfl) ?_
  have hX : xonly H0 H0 RKs := xonly.rf
  obtain ⟨hc, ⟨h27, hp⟩, h29, R, w, dn, tx, hS, hsl, hDs, htc, hts⟩ := id hX0
  have hs2 := hc.1.1
  have hl := hc.2.1.2
  have hok := hc.2.1.1
  have h6 := hc.2.2.1.2
  have hD := hc.2.2.2.1
  obtain ⟨s1, s2, s3, s4, ⟨s5, s6, s7⟩, ⟨s8, s9⟩, ⟨s10, s11, s12⟩, ⟨s13, s13b⟩, s14, s15, s16, s17⟩ := id hS
  obtain ⟨p1, p2, p3, p4, p5, p6, p7, p8, p9, p10⟩ := id s14
  have hvn : vnN S = 64 * S.1 28 + gd (S.2.1 26) (S.1 28) := rfl
  have n40 := nw_eq (p := p) (ch := 40) hok (by decide)
  have nb := nw_b (p := p) hok
  have hwe := wrd_end hp
  have hwl := wrd_lt (t := t) (p := p)
  have c1 := cnt_nn 1 P
  have c2 := cnt_nn 2 P
  have c3 := cnt_nn 3 P
  have hfl : ∀ a : Int, a = (p : Nat) → wrg S (sp S 29 a) p ∧ fX S (sp S 29 a) := fun a ha => ⟨⟨ha, by show 0 ≤ S.1 27; omega, by show S.1 27 ≤ S.1 2 + 1; omega⟩, fX.sm ((rSm.r0 (js := [29]) (is := []) (ls := [])).sp (by decide)) (by decide) (by decide) (by decide) (by decide) (by decide) (by decide)⟩
  by_cases h40 : chr t p = 40
  · have hlt : p < t.length := Nat.lt_of_not_le (fun z => by rw [chr_out z] at h40; omega)
    have e40 : nw t p = 40 := n40.mpr h40
    refine x_aload_n d_Mo_readFirst_0 rfl rfl ?_
    refine x_callV (As := []) (k := k_MarkerTextModel) rfl xcv_Mo_228_Mo (Or.inl hR.1) (RM.ap hR (r_nowX hc h27)) rfl rfl (Nat.le_of_ble_eq_true rfl) d_Mo_readFirst_1 ?_
    rintro v1 h cq nq ⟨S1, hR, hX1, rfl, rfl, hE1, rfl⟩
    replace hE1 := Eq.symm hE1
    subst hE1
    replace hX := hX.tr hX1
    refine x_bipush (v := zI 40) d_Mo_readFirst_4 (by decide) ?_
    refine z_icmp_ne (tgt := 16) d_Mo_readFirst_6 (by decide) (by omega) (by omega) (fun hq => by omega) (fun _ => ?_)
    refine x_aload_n d_Mo_readFirst_9 rfl rfl ?_
    refine x_iconst (v := zI 4) d_Mo_readFirst_10 (by decide) ?_
    refine x_iconst (v := zI 1) d_Mo_readFirst_11 (by decide) ?_
    refine x_callV (As := [_, _]) (k := k_MarkerTextModel) rfl xcv_Mo_254_Mo (Or.inl hR.1) (RM.ap hR (r_openX (e := 1) (by omega) hX0 (Or.inl ⟨rfl, rfl⟩) (by omega) h33)) rfl rfl (Nat.le_of_ble_eq_true rfl) d_Mo_readFirst_12 ?_
    rintro v12 h cq nq ⟨S12, hR, hX12, rfl, rfl, rfl, hf12, ht12, hor12⟩
    replace hX := hX.tr hX12
    refine x_vret d_Mo_readFirst_15 rfl ?_
    refine ⟨_, hR, hX, rfl, rfl, rfl, hf12, Or.inl ⟨h40, ?_⟩⟩
    rcases hor12 with ⟨q1, q2, q3⟩ | ⟨q1, q2⟩
    · exact Or.inl ⟨q1, q2, by omega, by omega⟩
    · exact Or.inr ⟨q1, q2⟩
  · have e40 : ¬ nw t p = 40 := fun z => h40 (n40.mp z)
    by_cases hnil : wrd t p = []
    · -- no word
      have hl0 : (wrd t p).length = 0 := by rw [hnil]; rfl
      have hnn : wrd t p ≠ [110, 111, 116] := by rw [hnil]; exact fun z => by cases z
      have hrl : rLf t Ns (p, tc, ts) = ((p, tc, ts), none) := by
        unfold rLf
        split
        · rfl
        · rw [if_neg]
          · show (match nof Ns (wrd t p) with | none => _ | some i => _) = _
            rw [hnil, nof_nil hD]
          · show ¬ (wrd t p = _ ∨ wrd t p = _)
            rw [hnil, e_tru, e_fls]
            rintro (z | z) <;> cases z
      refine x_aload_n d_Mo_readFirst_0 rfl rfl ?_
      refine x_callV (As := []) (k := k_MarkerTextModel) rfl xcv_Mo_228_Mo (Or.inl hR.1) (RM.ap hR (r_nowX hc h27)) rfl rfl (Nat.le_of_ble_eq_true rfl) d_Mo_readFirst_1 ?_
      rintro v1 h cq nq ⟨S1, hR, hX1, rfl, rfl, hE1, rfl⟩
      replace hE1 := Eq.symm hE1
      subst hE1
      replace hX := hX.tr hX1
      refine x_bipush (v := zI 40) d_Mo_readFirst_4 (by decide) ?_
      refine z_icmp_ne (tgt := 16) d_Mo_readFirst_6 (by decide) (by omega) (by omega) (fun _ => ?_) (fun hq => by omega)
      refine x_aload_n d_Mo_readFirst_16 rfl rfl ?_
      refine x_aload_n d_Mo_readFirst_17 rfl rfl ?_
      refine x_get xf_Mo_193_Mo (Or.inl hR.1) (v := .int (zI (S.1 27))) rfl d_Mo_readFirst_18 ?_
      have hb18 : inR (S.1 27) := hR.2.2.2 27
      rw [h27]
      refine x_callV (As := [_]) (k := k_MarkerTextModel) rfl xcv_Mo_241_Mo (Or.inl hR.1) (RM.ap hR (r_lettersX (by omega) hc hp)) rfl rfl (Nat.le_of_ble_eq_true rfl) d_Mo_readFirst_21 ?_
      rintro v21 h cq nq ⟨S21, hR, hX21, rfl, rfl, hE21, rfl⟩
      replace hE21 := Eq.symm hE21
      subst hE21
      replace hX := hX.tr hX21
      refine x_istore_n (L' := [_, _, _]) d_Mo_readFirst_24 rfl rfl ?_
      refine x_iload_n d_Mo_readFirst_25 rfl ?_
      refine z_if_le (tgt := 45) d_Mo_readFirst_26 (by decide) (by omega) (fun _ => ?_) (fun hq => by omega)
      refine x_iconst (v := zI 0) d_Mo_readFirst_45 (by decide) ?_
      refine x_istore_n (L' := [_, _, _]) d_Mo_readFirst_46 rfl rfl ?_
      refine x_iload_n d_Mo_readFirst_47 rfl ?_
      refine x_iconst (v := zI 1) d_Mo_readFirst_48 (by decide) ?_
      refine z_icmp_ne (tgt := 59) d_Mo_readFirst_49 (by decide) (by omega) (by omega) (fun _ => ?_) (fun hq => by omega)
      refine x_iload_n d_Mo_readFirst_59 rfl ?_
      refine z_if_lt (tgt := 74) d_Mo_readFirst_60 (by decide) (by omega) (fun hq => by omega) (fun _ => ?_)
      refine x_iload_n d_Mo_readFirst_63 rfl ?_
      refine x_iconst (v := zI 5) d_Mo_readFirst_64 (by decide) ?_
      refine z_icmp_eq (tgt := 74) d_Mo_readFirst_65 (by decide) (by omega) (by omega) (fun hq => by omega) (fun _ => ?_)
      refine x_iload_n d_Mo_readFirst_68 rfl ?_
      refine x_bipush (v := zI 6) d_Mo_readFirst_69 (by decide) ?_
      refine z_icmp_ne (tgt := 88) d_Mo_readFirst_71 (by decide) (by omega) (by omega) (fun _ => ?_) (fun hq => by omega)
      refine x_aload_n d_Mo_readFirst_88 rfl rfl ?_
      refine x_aload_n d_Mo_readFirst_89 rfl rfl ?_
      refine x_get xf_Mo_193_Mo (Or.inl hR.1) (v := .int (zI (S.1 27))) rfl d_Mo_readFirst_90 ?_
      have hb90 : inR (S.1 27) := hR.2.2.2 27
      refine x_callV (As := [_]) (k := k_MarkerTextModel) rfl xcv_Mo_218_Mo (Or.inl hR.1) (RM.ap hR (r_fault (by omega))) rfl rfl (Nat.le_of_ble_eq_true rfl) d_Mo_readFirst_93 ?_
      rintro v93 h cq nq ⟨S93, hR, hX93, rfl, rfl, a93, rfl, rfl, ha93⟩
      replace hX := hX.tr hX93
      refine x_vret d_Mo_readFirst_96 rfl ?_
      obtain ⟨q1, q2⟩ := hfl a93 ((flt ha93 h29).trans h27)
      exact ⟨_, hR, hX, rfl, rfl, rfl, q2, Or.inr (Or.inr ⟨h40, hnn, Or.inl ⟨_, hrl, q1⟩⟩)⟩
    · have hlp : 0 < (wrd t p).length := by
        cases hq : wrd t p with
        | nil => exact absurd hq hnil
        | cons a r => simp
      obtain ⟨m3, m2, m1, m7, m5, m6, mN, mb1, mb2, mi⟩ := mng_kw hD h6 hnil
      by_cases hnot : wrd t p = [110, 111, 116]
      · have em : mng Ns (wrd t p) = 1 := m1.mpr hnot
        have hl3 : (wrd t p).length = 3 := by rw [hnot]; rfl
        refine x_aload_n d_Mo_readFirst_0 rfl rfl ?_
        refine x_callV (As := []) (k := k_MarkerTextModel) rfl xcv_Mo_228_Mo (Or.inl hR.1) (RM.ap hR (r_nowX hc h27)) rfl rfl (Nat.le_of_ble_eq_true rfl) d_Mo_readFirst_1 ?_
        rintro v1 h cq nq ⟨S1, hR, hX1, rfl, rfl, hE1, rfl⟩
        replace hE1 := Eq.symm hE1
        subst hE1
        replace hX := hX.tr hX1
        refine x_bipush (v := zI 40) d_Mo_readFirst_4 (by decide) ?_
        refine z_icmp_ne (tgt := 16) d_Mo_readFirst_6 (by decide) (by omega) (by omega) (fun _ => ?_) (fun hq => by omega)
        refine x_aload_n d_Mo_readFirst_16 rfl rfl ?_
        refine x_aload_n d_Mo_readFirst_17 rfl rfl ?_
        refine x_get xf_Mo_193_Mo (Or.inl hR.1) (v := .int (zI (S.1 27))) rfl d_Mo_readFirst_18 ?_
        have hb18 : inR (S.1 27) := hR.2.2.2 27
        rw [h27]
        refine x_callV (As := [_]) (k := k_MarkerTextModel) rfl xcv_Mo_241_Mo (Or.inl hR.1) (RM.ap hR (r_lettersX (by omega) hc hp)) rfl rfl (Nat.le_of_ble_eq_true rfl) d_Mo_readFirst_21 ?_
        rintro v21 h cq nq ⟨S21, hR, hX21, rfl, rfl, hE21, rfl⟩
        replace hE21 := Eq.symm hE21
        subst hE21
        replace hX := hX.tr hX21
        refine x_istore_n (L' := [_, _, _]) d_Mo_readFirst_24 rfl rfl ?_
        refine x_iload_n d_Mo_readFirst_25 rfl ?_
        refine z_if_le (tgt := 45) d_Mo_readFirst_26 (by decide) (by omega) (fun hq => by omega) (fun _ => ?_)
        refine x_aload_n d_Mo_readFirst_29 rfl rfl ?_
        refine x_aload_n d_Mo_readFirst_30 rfl rfl ?_
        refine x_aload_n d_Mo_readFirst_31 rfl rfl ?_
        refine x_get xf_Mo_193_Mo (Or.inl hR.1) (v := .int (zI (S.1 27))) rfl d_Mo_readFirst_32 ?_
        have hb32 : inR (S.1 27) := hR.2.2.2 27
        refine x_iload_n d_Mo_readFirst_35 rfl ?_
        rw [h27]
        refine x_callV (As := [_, _]) (k := k_MarkerTextModel) rfl xcv_Mo_154_Mo (Or.inl hR.1) (RM.ap hR (r_wordY hc hp)) rfl rfl (Nat.le_of_ble_eq_true rfl) d_Mo_readFirst_36 ?_
        rintro v36 h cq nq ⟨S36, hR, hX36, rfl, rfl, hE36, rfl⟩
        replace hE36 := Eq.symm hE36
        subst hE36
        replace hX := hX.tr hX36
        refine x_callV (As := [_]) (k := k_MarkerTextModel) rfl xcv_Mo_158_Mo (Or.inl hR.1) (RM.ap hR (r_meaningY hc hwl)) rfl rfl (Nat.le_of_ble_eq_true rfl) d_Mo_readFirst_39 ?_
        rintro v39 h cq nq ⟨S39, hR, hX39, rfl, rfl, hE39, rfl⟩
        replace hE39 := Eq.symm hE39
        subst hE39
        replace hX := hX.tr hX39
        refine x_goto (tgt := 46) d_Mo_readFirst_42 (by decide) ?_
        refine x_istore_n (L' := [_, _, _]) d_Mo_readFirst_46 rfl rfl ?_
        refine x_iload_n d_Mo_readFirst_47 rfl ?_
        refine x_iconst (v := zI 1) d_Mo_readFirst_48 (by decide) ?_
        refine z_icmp_ne (tgt := 59) d_Mo_readFirst_49 (by decide) (by omega) (by omega) (fun hq => by omega) (fun _ => ?_)
        refine x_aload_n d_Mo_readFirst_52 rfl rfl ?_
        refine x_iconst (v := zI 1) d_Mo_readFirst_53 (by decide) ?_
        refine x_iconst (v := zI 3) d_Mo_readFirst_54 (by decide) ?_
        refine x_callV (As := [_, _]) (k := k_MarkerTextModel) rfl xcv_Mo_254_Mo (Or.inl hR.1) (RM.ap hR (r_openX (e := 3) (by omega) hX0 (Or.inr ⟨rfl, rfl⟩) (by omega) h33)) rfl rfl (Nat.le_of_ble_eq_true rfl) d_Mo_readFirst_55 ?_
        rintro v55 h cq nq ⟨S55, hR, hX55, rfl, rfl, rfl, hf55, ht55, hor55⟩
        replace hX := hX.tr hX55
        refine x_vret d_Mo_readFirst_58 rfl ?_
        refine ⟨_, hR, hX, rfl, rfl, rfl, hf55, Or.inr (Or.inl ⟨h40, hnot, ?_⟩)⟩
        rcases hor55 with ⟨q1, q2, q3⟩ | ⟨q1, q2⟩
        · exact Or.inl ⟨q1, q2, by omega, by omega⟩
        · exact Or.inr ⟨q1, q2⟩
      · have em1 : ¬ mng Ns (wrd t p) = 1 := fun z => hnot (m1.mp z)
        by_cases ht40 : tc = 40
        · -- too many
          have hrl : rLf t Ns (p, tc, ts) = ((p, tc, ts), none) := by
            unfold rLf
            rw [if_pos]
            show 40 ≤ tc
            omega
          refine x_aload_n d_Mo_readFirst_0 rfl rfl ?_
          refine x_callV (As := []) (k := k_MarkerTextModel) rfl xcv_Mo_228_Mo (Or.inl hR.1) (RM.ap hR (r_nowX hc h27)) rfl rfl (Nat.le_of_ble_eq_true rfl) d_Mo_readFirst_1 ?_
          rintro v1 h cq nq ⟨S1, hR, hX1, rfl, rfl, hE1, rfl⟩
          replace hE1 := Eq.symm hE1
          subst hE1
          replace hX := hX.tr hX1
          refine x_bipush (v := zI 40) d_Mo_readFirst_4 (by decide) ?_
          refine z_icmp_ne (tgt := 16) d_Mo_readFirst_6 (by decide) (by omega) (by omega) (fun _ => ?_) (fun hq => by omega)
          refine x_aload_n d_Mo_readFirst_16 rfl rfl ?_
          refine x_aload_n d_Mo_readFirst_17 rfl rfl ?_
          refine x_get xf_Mo_193_Mo (Or.inl hR.1) (v := .int (zI (S.1 27))) rfl d_Mo_readFirst_18 ?_
          have hb18 : inR (S.1 27) := hR.2.2.2 27
          rw [h27]
          refine x_callV (As := [_]) (k := k_MarkerTextModel) rfl xcv_Mo_241_Mo (Or.inl hR.1) (RM.ap hR (r_lettersX (by omega) hc hp)) rfl rfl (Nat.le_of_ble_eq_true rfl) d_Mo_readFirst_21 ?_
          rintro v21 h cq nq ⟨S21, hR, hX21, rfl, rfl, hE21, rfl⟩
          replace hE21 := Eq.symm hE21
          subst hE21
          replace hX := hX.tr hX21
          refine x_istore_n (L' := [_, _, _]) d_Mo_readFirst_24 rfl rfl ?_
          refine x_iload_n d_Mo_readFirst_25 rfl ?_
          refine z_if_le (tgt := 45) d_Mo_readFirst_26 (by decide) (by omega) (fun hq => by omega) (fun _ => ?_)
          refine x_aload_n d_Mo_readFirst_29 rfl rfl ?_
          refine x_aload_n d_Mo_readFirst_30 rfl rfl ?_
          refine x_aload_n d_Mo_readFirst_31 rfl rfl ?_
          refine x_get xf_Mo_193_Mo (Or.inl hR.1) (v := .int (zI (S.1 27))) rfl d_Mo_readFirst_32 ?_
          have hb32 : inR (S.1 27) := hR.2.2.2 27
          refine x_iload_n d_Mo_readFirst_35 rfl ?_
          rw [h27]
          refine x_callV (As := [_, _]) (k := k_MarkerTextModel) rfl xcv_Mo_154_Mo (Or.inl hR.1) (RM.ap hR (r_wordY hc hp)) rfl rfl (Nat.le_of_ble_eq_true rfl) d_Mo_readFirst_36 ?_
          rintro v36 h cq nq ⟨S36, hR, hX36, rfl, rfl, hE36, rfl⟩
          replace hE36 := Eq.symm hE36
          subst hE36
          replace hX := hX.tr hX36
          refine x_callV (As := [_]) (k := k_MarkerTextModel) rfl xcv_Mo_158_Mo (Or.inl hR.1) (RM.ap hR (r_meaningY hc hwl)) rfl rfl (Nat.le_of_ble_eq_true rfl) d_Mo_readFirst_39 ?_
          rintro v39 h cq nq ⟨S39, hR, hX39, rfl, rfl, hE39, rfl⟩
          replace hE39 := Eq.symm hE39
          subst hE39
          replace hX := hX.tr hX39
          refine x_goto (tgt := 46) d_Mo_readFirst_42 (by decide) ?_
          refine x_istore_n (L' := [_, _, _]) d_Mo_readFirst_46 rfl rfl ?_
          refine x_iload_n d_Mo_readFirst_47 rfl ?_
          refine x_iconst (v := zI 1) d_Mo_readFirst_48 (by decide) ?_
          refine z_icmp_ne (tgt := 59) d_Mo_readFirst_49 (by decide) (by omega) (by omega) (fun _ => ?_) (fun hq => by omega)
          refine x_iload_n d_Mo_readFirst_59 rfl ?_
          refine z_if_lt (tgt := 74) d_Mo_readFirst_60 (by decide) (by omega) (fun hc60 => ?_) (fun hc60 => ?_)
          · refine x_aload_n d_Mo_readFirst_74 rfl rfl ?_
            refine x_get xf_Mo_63_Mo (Or.inl hR.1) (v := .ref (rf 21)) rfl d_Mo_readFirst_75 ?_
            refine x_aload_n d_Mo_readFirst_78 rfl rfl ?_
            refine x_get xf_Mo_196_Mo (Or.inl hR.1) (v := .int (zI (S.1 28))) rfl d_Mo_readFirst_79 ?_
            have hb79 : inR (S.1 28) := hR.2.2.2 28
            refine r_iald (i := 21) (us := (S.2.1 21)) rfl (by decide) hR rfl (by omega) (by show S.1 28 < 9; omega) d_Mo_readFirst_82 (fun hr82 => ?_)
            refine x_bipush (v := zI 40) d_Mo_readFirst_83 (by decide) ?_
            refine z_icmp_ne (tgt := 97) d_Mo_readFirst_85 (by decide) (by omega) (by omega) (fun hq => by omega) (fun _ => ?_)
            refine x_aload_n d_Mo_readFirst_88 rfl rfl ?_
            refine x_aload_n d_Mo_readFirst_89 rfl rfl ?_
            refine x_get xf_Mo_193_Mo (Or.inl hR.1) (v := .int (zI (S.1 27))) rfl d_Mo_readFirst_90 ?_
            have hb90 : inR (S.1 27) := hR.2.2.2 27
            refine x_callV (As := [_]) (k := k_MarkerTextModel) rfl xcv_Mo_218_Mo (Or.inl hR.1) (RM.ap hR (r_fault (by omega))) rfl rfl (Nat.le_of_ble_eq_true rfl) d_Mo_readFirst_93 ?_
            rintro v93 h cq nq ⟨S93, hR, hX93, rfl, rfl, a93, rfl, rfl, ha93⟩
            replace hX := hX.tr hX93
            refine x_vret d_Mo_readFirst_96 rfl ?_
            obtain ⟨q1, q2⟩ := hfl a93 ((flt ha93 h29).trans h27)
            exact ⟨_, hR, hX, rfl, rfl, rfl, q2, Or.inr (Or.inr ⟨h40, hnot, Or.inl ⟨_, hrl, q1⟩⟩)⟩
          · refine x_iload_n d_Mo_readFirst_63 rfl ?_
            refine x_iconst (v := zI 5) d_Mo_readFirst_64 (by decide) ?_
            refine z_icmp_eq (tgt := 74) d_Mo_readFirst_65 (by decide) (by omega) (by omega) (fun hc65 => ?_) (fun hc65 => ?_)
            · refine x_aload_n d_Mo_readFirst_74 rfl rfl ?_
              refine x_get xf_Mo_63_Mo (Or.inl hR.1) (v := .ref (rf 21)) rfl d_Mo_readFirst_75 ?_
              refine x_aload_n d_Mo_readFirst_78 rfl rfl ?_
              refine x_get xf_Mo_196_Mo (Or.inl hR.1) (v := .int (zI (S.1 28))) rfl d_Mo_readFirst_79 ?_
              have hb79 : inR (S.1 28) := hR.2.2.2 28
              refine r_iald (i := 21) (us := (S.2.1 21)) rfl (by decide) hR rfl (by omega) (by show S.1 28 < 9; omega) d_Mo_readFirst_82 (fun hr82 => ?_)
              refine x_bipush (v := zI 40) d_Mo_readFirst_83 (by decide) ?_
              refine z_icmp_ne (tgt := 97) d_Mo_readFirst_85 (by decide) (by omega) (by omega) (fun hq => by omega) (fun _ => ?_)
              refine x_aload_n d_Mo_readFirst_88 rfl rfl ?_
              refine x_aload_n d_Mo_readFirst_89 rfl rfl ?_
              refine x_get xf_Mo_193_Mo (Or.inl hR.1) (v := .int (zI (S.1 27))) rfl d_Mo_readFirst_90 ?_
              have hb90 : inR (S.1 27) := hR.2.2.2 27
              refine x_callV (As := [_]) (k := k_MarkerTextModel) rfl xcv_Mo_218_Mo (Or.inl hR.1) (RM.ap hR (r_fault (by omega))) rfl rfl (Nat.le_of_ble_eq_true rfl) d_Mo_readFirst_93 ?_
              rintro v93 h cq nq ⟨S93, hR, hX93, rfl, rfl, a93, rfl, rfl, ha93⟩
              replace hX := hX.tr hX93
              refine x_vret d_Mo_readFirst_96 rfl ?_
              obtain ⟨q1, q2⟩ := hfl a93 ((flt ha93 h29).trans h27)
              exact ⟨_, hR, hX, rfl, rfl, rfl, q2, Or.inr (Or.inr ⟨h40, hnot, Or.inl ⟨_, hrl, q1⟩⟩)⟩
            · refine x_iload_n d_Mo_readFirst_68 rfl ?_
              refine x_bipush (v := zI 6) d_Mo_readFirst_69 (by decide) ?_
              refine z_icmp_ne (tgt := 88) d_Mo_readFirst_71 (by decide) (by omega) (by omega) (fun hc71 => ?_) (fun hc71 => ?_)
              · refine x_aload_n d_Mo_readFirst_88 rfl rfl ?_
                refine x_aload_n d_Mo_readFirst_89 rfl rfl ?_
                refine x_get xf_Mo_193_Mo (Or.inl hR.1) (v := .int (zI (S.1 27))) rfl d_Mo_readFirst_90 ?_
                have hb90 : inR (S.1 27) := hR.2.2.2 27
                refine x_callV (As := [_]) (k := k_MarkerTextModel) rfl xcv_Mo_218_Mo (Or.inl hR.1) (RM.ap hR (r_fault (by omega))) rfl rfl (Nat.le_of_ble_eq_true rfl) d_Mo_readFirst_93 ?_
                rintro v93 h cq nq ⟨S93, hR, hX93, rfl, rfl, a93, rfl, rfl, ha93⟩
                replace hX := hX.tr hX93
                refine x_vret d_Mo_readFirst_96 rfl ?_
                obtain ⟨q1, q2⟩ := hfl a93 ((flt ha93 h29).trans h27)
                exact ⟨_, hR, hX, rfl, rfl, rfl, q2, Or.inr (Or.inr ⟨h40, hnot, Or.inl ⟨_, hrl, q1⟩⟩)⟩
              · refine x_aload_n d_Mo_readFirst_74 rfl rfl ?_
                refine x_get xf_Mo_63_Mo (Or.inl hR.1) (v := .ref (rf 21)) rfl d_Mo_readFirst_75 ?_
                refine x_aload_n d_Mo_readFirst_78 rfl rfl ?_
                refine x_get xf_Mo_196_Mo (Or.inl hR.1) (v := .int (zI (S.1 28))) rfl d_Mo_readFirst_79 ?_
                have hb79 : inR (S.1 28) := hR.2.2.2 28
                refine r_iald (i := 21) (us := (S.2.1 21)) rfl (by decide) hR rfl (by omega) (by show S.1 28 < 9; omega) d_Mo_readFirst_82 (fun hr82 => ?_)
                refine x_bipush (v := zI 40) d_Mo_readFirst_83 (by decide) ?_
                refine z_icmp_ne (tgt := 97) d_Mo_readFirst_85 (by decide) (by omega) (by omega) (fun hq => by omega) (fun _ => ?_)
                refine x_aload_n d_Mo_readFirst_88 rfl rfl ?_
                refine x_aload_n d_Mo_readFirst_89 rfl rfl ?_
                refine x_get xf_Mo_193_Mo (Or.inl hR.1) (v := .int (zI (S.1 27))) rfl d_Mo_readFirst_90 ?_
                have hb90 : inR (S.1 27) := hR.2.2.2 27
                refine x_callV (As := [_]) (k := k_MarkerTextModel) rfl xcv_Mo_218_Mo (Or.inl hR.1) (RM.ap hR (r_fault (by omega))) rfl rfl (Nat.le_of_ble_eq_true rfl) d_Mo_readFirst_93 ?_
                rintro v93 h cq nq ⟨S93, hR, hX93, rfl, rfl, a93, rfl, rfl, ha93⟩
                replace hX := hX.tr hX93
                refine x_vret d_Mo_readFirst_96 rfl ?_
                obtain ⟨q1, q2⟩ := hfl a93 ((flt ha93 h29).trans h27)
                exact ⟨_, hR, hX, rfl, rfl, rfl, q2, Or.inr (Or.inr ⟨h40, hnot, Or.inl ⟨_, hrl, q1⟩⟩)⟩
        · have htl : tc < 40 := by omega
          have hpe : ((p : Nat) : Int) + (((wrd t p).length : Nat) : Int) = ((p + (wrd t p).length : Nat) : Int) := by omega
          have hsmW : rSm S (sp S 27 (S.1 27 + (((wrd t p).length : Nat) : Int))) [27] [] [] := rSm.r0.sp (by decide)
          have hS2 : rdOk (sp S 27 (S.1 27 + (((wrd t p).length : Nat) : Int))) P R w := rd_at hS hsmW (by decide) (by decide) (by show S.1 27 ≤ S.1 27 + (((wrd t p).length : Nat) : Int); omega) (by show S.1 27 + (((wrd t p).length : Nat) : Int) ≤ S.1 2 + 1; omega)
          have hfW : fX S (sp S 27 (S.1 27 + (((wrd t p).length : Nat) : Int))) := fX.sm hsmW (by decide) (by decide) (by decide) (by decide) (by decide) (by decide)
          have hcW := hfW.cx hc
          have h27W : (sp S 27 (S.1 27 + (((wrd t p).length : Nat) : Int))).1 27 = ((p + (wrd t p).length : Nat) : Int) := by show S.1 27 + (((wrd t p).length : Nat) : Int) = _; omega
          have hslW : slR Ns (sp S 27 (S.1 27 + (((wrd t p).length : Nat) : Int))) (S.1 28) dn tx := hsl.sm hsmW (by decide) (by decide) (by decide)
          by_cases htf : wrd t p = [116, 114, 117, 101] ∨ wrd t p = [102, 97, 108, 115, 101]
          · -- true, false
            have hrl : rLf t Ns (p, tc, ts) = ((p + (wrd t p).length, tc + 1, ts), some (dCon (decide (wrd t p = [116, 114, 117, 101])))) := by
              unfold rLf
              rw [if_neg (show ¬ 40 ≤ tc by omega), if_pos (show wrd t p = _ ∨ wrd t p = _ by rw [e_tru, e_fls]; exact htf)]
              show _ = _
              rw [e_tru]
            have em : mng Ns (wrd t p) = 5 ∨ mng Ns (wrd t p) = 6 := by
              rcases htf with z | z
              · exact Or.inl (m5.mpr z)
              · exact Or.inr (m6.mpr z)
            have hl4 : 4 ≤ (wrd t p).length := by
              rcases htf with z | z <;> rw [z] <;> decide
            have fin : ∀ op : Int, ((op = 7 ∧ mng Ns (wrd t p) = 5) ∨ (op = 8 ∧ mng Ns (wrd t p) = 6)) → RM l G d M_Mo_addTest [.ref o, .int (zI (-1)), .int (zI op), .int (zI (vnN S))] o rf (sp S 27 (S.1 27 + (((wrd t p).length : Nat) : Int))) (fun v S' => v = none ∧ rfX t Ns S P Ds p tc ts none S') := by
              intro op hop
              have hy : tsL Ns (ts5 (sp S 27 (S.1 27 + (((wrd t p).length : Nat) : Int))) (-1) op (vnN S)) (S.1 28) (fun q => if q = tnN S then none else tx q) (tnN S) := by
                have hx2 : tnN S = 40 * S.1 28 + gd (S.2.1 21) (S.1 28) := rfl
                have l18 : (S.2.1 18).length = 360 := hR.len 18 (by decide)
                have l20 : (S.2.1 20).length = 360 := hR.len 20 (by decide)
                have e18 : gd ((ts5 (sp S 27 (S.1 27 + (((wrd t p).length : Nat) : Int))) (-1) op (vnN S)).2.1 18) (tnN S) = op := by
                  show gd (se (S.2.1 18) (tnN S) op) (tnN S) = op
                  rw [gd_se_of l18 (by omega) (by omega) (by omega), if_pos rfl]
                have e20 : gd ((ts5 (sp S 27 (S.1 27 + (((wrd t p).length : Nat) : Int))) (-1) op (vnN S)).2.1 20) (tnN S) = 0 := by
                  show gd (se (S.2.1 20) (tnN S) (vnN S - vnN S)) (tnN S) = 0
                  rw [gd_se_of l20 (by omega) (by omega) (by omega), if_pos rfl]
                  omega
                exact Or.inl ⟨if_pos rfl, by rw [e18]; omega, e20⟩
              refine (r_addTestX (S := sp S 27 (S.1 27 + (((wrd t p).length : Nat) : Int))) (f := vnN S) (p := p + (wrd t p).length) (tc := tc) (dn := dn) (tx := tx) (y := none) (D := dCon (decide (op = 7))) (by omega) hcW ⟨h27W, hwe⟩ h29 hS2 hslW htc (by show gd (S.2.1 21) (S.1 28) < 40; omega) (by omega) (by decide) (fun z => by omega) ⟨by show 64 * S.1 28 ≤ vnN S; omega, Int.le_refl _⟩ (fun _ => rfl) (by show sm (gd (S.2.1 20)) (40 * S.1 28) (gd (S.2.1 21) (S.1 28)).toNat ≤ vnN S - 64 * S.1 28; omega) (fun q' h1 h2 => (p8 q' h1 h2).2.2.2.2.2.2) (by show 2 * (gd (S.2.1 15) (S.1 28) + 1 + cnt 1 P + cnt 2 P + cnt 3 P) ≤ S.1 27 + (((wrd t p).length : Nat) : Int); omega) (by rw [show tsU (sp S 27 (S.1 27 + (((wrd t p).length : Nat) : Int))) op (vnN S) = 5 from if_pos (by omega)]; show 2 * (wsm w R + 5 + 7 * cnt 1 P + 10 * cnt 2 P + 7 * cnt 3 P) ≤ 7 * (S.1 27 + (((wrd t p).length : Nat) : Int)); omega) hy (Or.inl ⟨rfl, rfl⟩)).mono ?_
              rintro v S' ⟨rfl, q1, q2⟩
              refine ⟨rfl, rfl, hfW.tr q2, Or.inr (Or.inr ⟨h40, hnot, Or.inr ⟨_, _, hrl, rfl, ?_⟩⟩)⟩
              have ed : decide (op = 7) = decide (wrd t p = [116, 114, 117, 101]) := by
                apply decide_eq_decide.mpr
                rw [← m5]
                omega
              rw [hDs, ← ed, hts]
              have : tsF (S.1 28) tx tc ++ (none : Option TsT).toList = tsF (S.1 28) tx tc := by simp
              rw [← this]
              exact q1
            refine x_aload_n d_Mo_readFirst_0 rfl rfl ?_
            refine x_callV (As := []) (k := k_MarkerTextModel) rfl xcv_Mo_228_Mo (Or.inl hR.1) (RM.ap hR (r_nowX hc h27)) rfl rfl (Nat.le_of_ble_eq_true rfl) d_Mo_readFirst_1 ?_
            rintro v1 h cq nq ⟨S1, hR, hX1, rfl, rfl, hE1, rfl⟩
            replace hE1 := Eq.symm hE1
            subst hE1
            replace hX := hX.tr hX1
            refine x_bipush (v := zI 40) d_Mo_readFirst_4 (by decide) ?_
            refine z_icmp_ne (tgt := 16) d_Mo_readFirst_6 (by decide) (by omega) (by omega) (fun _ => ?_) (fun hq => by omega)
            refine x_aload_n d_Mo_readFirst_16 rfl rfl ?_
            refine x_aload_n d_Mo_readFirst_17 rfl rfl ?_
            refine x_get xf_Mo_193_Mo (Or.inl hR.1) (v := .int (zI (S.1 27))) rfl d_Mo_readFirst_18 ?_
            have hb18 : inR (S.1 27) := hR.2.2.2 27
            rw [h27]
            refine x_callV (As := [_]) (k := k_MarkerTextModel) rfl xcv_Mo_241_Mo (Or.inl hR.1) (RM.ap hR (r_lettersX (by omega) hc hp)) rfl rfl (Nat.le_of_ble_eq_true rfl) d_Mo_readFirst_21 ?_
            rintro v21 h cq nq ⟨S21, hR, hX21, rfl, rfl, hE21, rfl⟩
            replace hE21 := Eq.symm hE21
            subst hE21
            replace hX := hX.tr hX21
            refine x_istore_n (L' := [_, _, _]) d_Mo_readFirst_24 rfl rfl ?_
            refine x_iload_n d_Mo_readFirst_25 rfl ?_
            refine z_if_le (tgt := 45) d_Mo_readFirst_26 (by decide) (by omega) (fun hq => by omega) (fun _ => ?_)
            refine x_aload_n d_Mo_readFirst_29 rfl rfl ?_
            refine x_aload_n d_Mo_readFirst_30 rfl rfl ?_
            refine x_aload_n d_Mo_readFirst_31 rfl rfl ?_
            refine x_get xf_Mo_193_Mo (Or.inl hR.1) (v := .int (zI (S.1 27))) rfl d_Mo_readFirst_32 ?_
            have hb32 : inR (S.1 27) := hR.2.2.2 27
            refine x_iload_n d_Mo_readFirst_35 rfl ?_
            rw [h27]
            refine x_callV (As := [_, _]) (k := k_MarkerTextModel) rfl xcv_Mo_154_Mo (Or.inl hR.1) (RM.ap hR (r_wordY hc hp)) rfl rfl (Nat.le_of_ble_eq_true rfl) d_Mo_readFirst_36 ?_
            rintro v36 h cq nq ⟨S36, hR, hX36, rfl, rfl, hE36, rfl⟩
            replace hE36 := Eq.symm hE36
            subst hE36
            replace hX := hX.tr hX36
            refine x_callV (As := [_]) (k := k_MarkerTextModel) rfl xcv_Mo_158_Mo (Or.inl hR.1) (RM.ap hR (r_meaningY hc hwl)) rfl rfl (Nat.le_of_ble_eq_true rfl) d_Mo_readFirst_39 ?_
            rintro v39 h cq nq ⟨S39, hR, hX39, rfl, rfl, hE39, rfl⟩
            replace hE39 := Eq.symm hE39
            subst hE39
            replace hX := hX.tr hX39
            refine x_goto (tgt := 46) d_Mo_readFirst_42 (by decide) ?_
            refine x_istore_n (L' := [_, _, _]) d_Mo_readFirst_46 rfl rfl ?_
            refine x_iload_n d_Mo_readFirst_47 rfl ?_
            refine x_iconst (v := zI 1) d_Mo_readFirst_48 (by decide) ?_
            refine z_icmp_ne (tgt := 59) d_Mo_readFirst_49 (by decide) (by omega) (by omega) (fun _ => ?_) (fun hq => by omega)
            refine x_iload_n d_Mo_readFirst_59 rfl ?_
            refine z_if_lt (tgt := 74) d_Mo_readFirst_60 (by decide) (by omega) (fun hq => by omega) (fun _ => ?_)
            refine x_iload_n d_Mo_readFirst_63 rfl ?_
            refine x_iconst (v := zI 5) d_Mo_readFirst_64 (by decide) ?_
            refine z_icmp_eq (tgt := 74) d_Mo_readFirst_65 (by decide) (by omega) (by omega) (fun hc65 => ?_) (fun hc65 => ?_)
            · refine x_aload_n d_Mo_readFirst_74 rfl rfl ?_
              refine x_get xf_Mo_63_Mo (Or.inl hR.1) (v := .ref (rf 21)) rfl d_Mo_readFirst_75 ?_
              refine x_aload_n d_Mo_readFirst_78 rfl rfl ?_
              refine x_get xf_Mo_196_Mo (Or.inl hR.1) (v := .int (zI (S.1 28))) rfl d_Mo_readFirst_79 ?_
              have hb79 : inR (S.1 28) := hR.2.2.2 28
              refine r_iald (i := 21) (us := (S.2.1 21)) rfl (by decide) hR rfl (by omega) (by show S.1 28 < 9; omega) d_Mo_readFirst_82 (fun hr82 => ?_)
              refine x_bipush (v := zI 40) d_Mo_readFirst_83 (by decide) ?_
              refine z_icmp_ne (tgt := 97) d_Mo_readFirst_85 (by decide) (by omega) (by omega) (fun _ => ?_) (fun hq => by omega)
              refine x_aload_n d_Mo_readFirst_97 rfl rfl ?_
              refine x_dup d_Mo_readFirst_98 rfl ?_
              refine x_get xf_Mo_193_Mo (Or.inl hR.1) (v := .int (zI (S.1 27))) rfl d_Mo_readFirst_99 ?_
              have hb99 : inR (S.1 27) := hR.2.2.2 27
              refine x_iload_n d_Mo_readFirst_102 rfl ?_
              refine z_iadd d_Mo_readFirst_103 ?_
              refine r_put xf_Mo_193_Mo xp_Mo_27 hR hX (by omega) rfl rfl d_Mo_readFirst_104 ?_
              intro h hR hX
              refine x_iload_n d_Mo_readFirst_107 rfl ?_
              refine z_if_ge (tgt := 122) d_Mo_readFirst_108 (by decide) (by omega) (fun _ => ?_) (fun hq => by omega)
              refine x_aload_n d_Mo_readFirst_122 rfl rfl ?_
              refine x_iconst (v := zI (-1)) d_Mo_readFirst_123 (by decide) ?_
              refine x_iload_n d_Mo_readFirst_124 rfl ?_
              refine x_iconst (v := zI 5) d_Mo_readFirst_125 (by decide) ?_
              refine z_icmp_ne (tgt := 134) d_Mo_readFirst_126 (by decide) (by omega) (by omega) (fun hc126 => ?_) (fun hc126 => ?_)
              · refine x_bipush (v := zI 8) d_Mo_readFirst_134 (by decide) ?_
                refine x_bipush (v := zI 64) d_Mo_readFirst_136 (by decide) ?_
                refine x_aload_n d_Mo_readFirst_138 rfl rfl ?_
                refine x_get xf_Mo_196_Mo (Or.inl hR.1) (v := .int (zI (S.1 28))) rfl d_Mo_readFirst_139 ?_
                have hb139 : inR (S.1 28) := hR.2.2.2 28
                refine z_imul d_Mo_readFirst_142 ?_
                refine x_aload_n d_Mo_readFirst_143 rfl rfl ?_
                refine x_get xf_Mo_78_Mo (Or.inl hR.1) (v := .ref (rf 26)) rfl d_Mo_readFirst_144 ?_
                refine x_aload_n d_Mo_readFirst_147 rfl rfl ?_
                refine x_get xf_Mo_196_Mo (Or.inl hR.1) (v := .int (zI (S.1 28))) rfl d_Mo_readFirst_148 ?_
                have hb148 : inR (S.1 28) := hR.2.2.2 28
                refine r_iald (i := 26) (us := (S.2.1 26)) rfl (by decide) hR rfl (by omega) (by show S.1 28 < 9; omega) d_Mo_readFirst_151 (fun hr151 => ?_)
                refine z_iadd d_Mo_readFirst_152 ?_
                refine x_callV (As := [_, _, _]) (k := k_MarkerTextModel) rfl xcv_Mo_250_Mo (Or.inl hR.1) (RM.ap hR (fin _ (by omega))) rfl rfl (Nat.le_of_ble_eq_true rfl) d_Mo_readFirst_153 ?_
                rintro v153 h cq nq ⟨S153, hR, hX153, rfl, rfl, rfl, hq153⟩
                replace hX := hX.tr hX153
                refine x_vret d_Mo_readFirst_156 rfl ?_
                exact ⟨_, hR, hX, rfl, rfl, hq153⟩
              · refine x_bipush (v := zI 7) d_Mo_readFirst_129 (by decide) ?_
                refine x_goto (tgt := 136) d_Mo_readFirst_131 (by decide) ?_
                refine x_bipush (v := zI 64) d_Mo_readFirst_136 (by decide) ?_
                refine x_aload_n d_Mo_readFirst_138 rfl rfl ?_
                refine x_get xf_Mo_196_Mo (Or.inl hR.1) (v := .int (zI (S.1 28))) rfl d_Mo_readFirst_139 ?_
                have hb139 : inR (S.1 28) := hR.2.2.2 28
                refine z_imul d_Mo_readFirst_142 ?_
                refine x_aload_n d_Mo_readFirst_143 rfl rfl ?_
                refine x_get xf_Mo_78_Mo (Or.inl hR.1) (v := .ref (rf 26)) rfl d_Mo_readFirst_144 ?_
                refine x_aload_n d_Mo_readFirst_147 rfl rfl ?_
                refine x_get xf_Mo_196_Mo (Or.inl hR.1) (v := .int (zI (S.1 28))) rfl d_Mo_readFirst_148 ?_
                have hb148 : inR (S.1 28) := hR.2.2.2 28
                refine r_iald (i := 26) (us := (S.2.1 26)) rfl (by decide) hR rfl (by omega) (by show S.1 28 < 9; omega) d_Mo_readFirst_151 (fun hr151 => ?_)
                refine z_iadd d_Mo_readFirst_152 ?_
                refine x_callV (As := [_, _, _]) (k := k_MarkerTextModel) rfl xcv_Mo_250_Mo (Or.inl hR.1) (RM.ap hR (fin _ (by omega))) rfl rfl (Nat.le_of_ble_eq_true rfl) d_Mo_readFirst_153 ?_
                rintro v153 h cq nq ⟨S153, hR, hX153, rfl, rfl, rfl, hq153⟩
                replace hX := hX.tr hX153
                refine x_vret d_Mo_readFirst_156 rfl ?_
                exact ⟨_, hR, hX, rfl, rfl, hq153⟩
            · refine x_iload_n d_Mo_readFirst_68 rfl ?_
              refine x_bipush (v := zI 6) d_Mo_readFirst_69 (by decide) ?_
              refine z_icmp_ne (tgt := 88) d_Mo_readFirst_71 (by decide) (by omega) (by omega) (fun hc71 => ?_) (fun hc71 => ?_)
              · refine x_aload_n d_Mo_readFirst_88 rfl rfl ?_
                refine x_aload_n d_Mo_readFirst_89 rfl rfl ?_
                refine x_get xf_Mo_193_Mo (Or.inl hR.1) (v := .int (zI (S.1 27))) rfl d_Mo_readFirst_90 ?_
                have hb90 : inR (S.1 27) := hR.2.2.2 27
                refine x_callV (As := [_]) (k := k_MarkerTextModel) rfl xcv_Mo_218_Mo (Or.inl hR.1) (RM.ap hR (r_fault (by omega))) rfl rfl (Nat.le_of_ble_eq_true rfl) d_Mo_readFirst_93 ?_
                rintro v93 h cq nq ⟨S93, hR, hX93, rfl, rfl, a93, rfl, rfl, ha93⟩
                replace hX := hX.tr hX93
                refine x_vret d_Mo_readFirst_96 rfl ?_
                exfalso; omega
              · refine x_aload_n d_Mo_readFirst_74 rfl rfl ?_
                refine x_get xf_Mo_63_Mo (Or.inl hR.1) (v := .ref (rf 21)) rfl d_Mo_readFirst_75 ?_
                refine x_aload_n d_Mo_readFirst_78 rfl rfl ?_
                refine x_get xf_Mo_196_Mo (Or.inl hR.1) (v := .int (zI (S.1 28))) rfl d_Mo_readFirst_79 ?_
                have hb79 : inR (S.1 28) := hR.2.2.2 28
                refine r_iald (i := 21) (us := (S.2.1 21)) rfl (by decide) hR rfl (by omega) (by show S.1 28 < 9; omega) d_Mo_readFirst_82 (fun hr82 => ?_)
                refine x_bipush (v := zI 40) d_Mo_readFirst_83 (by decide) ?_
                refine z_icmp_ne (tgt := 97) d_Mo_readFirst_85 (by decide) (by omega) (by omega) (fun _ => ?_) (fun hq => by omega)
                refine x_aload_n d_Mo_readFirst_97 rfl rfl ?_
                refine x_dup d_Mo_readFirst_98 rfl ?_
                refine x_get xf_Mo_193_Mo (Or.inl hR.1) (v := .int (zI (S.1 27))) rfl d_Mo_readFirst_99 ?_
                have hb99 : inR (S.1 27) := hR.2.2.2 27
                refine x_iload_n d_Mo_readFirst_102 rfl ?_
                refine z_iadd d_Mo_readFirst_103 ?_
                refine r_put xf_Mo_193_Mo xp_Mo_27 hR hX (by omega) rfl rfl d_Mo_readFirst_104 ?_
                intro h hR hX
                refine x_iload_n d_Mo_readFirst_107 rfl ?_
                refine z_if_ge (tgt := 122) d_Mo_readFirst_108 (by decide) (by omega) (fun _ => ?_) (fun hq => by omega)
                refine x_aload_n d_Mo_readFirst_122 rfl rfl ?_
                refine x_iconst (v := zI (-1)) d_Mo_readFirst_123 (by decide) ?_
                refine x_iload_n d_Mo_readFirst_124 rfl ?_
                refine x_iconst (v := zI 5) d_Mo_readFirst_125 (by decide) ?_
                refine z_icmp_ne (tgt := 134) d_Mo_readFirst_126 (by decide) (by omega) (by omega) (fun hc126 => ?_) (fun hc126 => ?_)
                · refine x_bipush (v := zI 8) d_Mo_readFirst_134 (by decide) ?_
                  refine x_bipush (v := zI 64) d_Mo_readFirst_136 (by decide) ?_
                  refine x_aload_n d_Mo_readFirst_138 rfl rfl ?_
                  refine x_get xf_Mo_196_Mo (Or.inl hR.1) (v := .int (zI (S.1 28))) rfl d_Mo_readFirst_139 ?_
                  have hb139 : inR (S.1 28) := hR.2.2.2 28
                  refine z_imul d_Mo_readFirst_142 ?_
                  refine x_aload_n d_Mo_readFirst_143 rfl rfl ?_
                  refine x_get xf_Mo_78_Mo (Or.inl hR.1) (v := .ref (rf 26)) rfl d_Mo_readFirst_144 ?_
                  refine x_aload_n d_Mo_readFirst_147 rfl rfl ?_
                  refine x_get xf_Mo_196_Mo (Or.inl hR.1) (v := .int (zI (S.1 28))) rfl d_Mo_readFirst_148 ?_
                  have hb148 : inR (S.1 28) := hR.2.2.2 28
                  refine r_iald (i := 26) (us := (S.2.1 26)) rfl (by decide) hR rfl (by omega) (by show S.1 28 < 9; omega) d_Mo_readFirst_151 (fun hr151 => ?_)
                  refine z_iadd d_Mo_readFirst_152 ?_
                  refine x_callV (As := [_, _, _]) (k := k_MarkerTextModel) rfl xcv_Mo_250_Mo (Or.inl hR.1) (RM.ap hR (fin _ (by omega))) rfl rfl (Nat.le_of_ble_eq_true rfl) d_Mo_readFirst_153 ?_
                  rintro v153 h cq nq ⟨S153, hR, hX153, rfl, rfl, rfl, hq153⟩
                  replace hX := hX.tr hX153
                  refine x_vret d_Mo_readFirst_156 rfl ?_
                  exact ⟨_, hR, hX, rfl, rfl, hq153⟩
                · refine x_bipush (v := zI 7) d_Mo_readFirst_129 (by decide) ?_
                  refine x_goto (tgt := 136) d_Mo_readFirst_131 (by decide) ?_
                  refine x_bipush (v := zI 64) d_Mo_readFirst_136 (by decide) ?_
                  refine x_aload_n d_Mo_readFirst_138 rfl rfl ?_
                  refine x_get xf_Mo_196_Mo (Or.inl hR.1) (v := .int (zI (S.1 28))) rfl d_Mo_readFirst_139 ?_
                  have hb139 : inR (S.1 28) := hR.2.2.2 28
                  refine z_imul d_Mo_readFirst_142 ?_
                  refine x_aload_n d_Mo_readFirst_143 rfl rfl ?_
                  refine x_get xf_Mo_78_Mo (Or.inl hR.1) (v := .ref (rf 26)) rfl d_Mo_readFirst_144 ?_
                  refine x_aload_n d_Mo_readFirst_147 rfl rfl ?_
                  refine x_get xf_Mo_196_Mo (Or.inl hR.1) (v := .int (zI (S.1 28))) rfl d_Mo_readFirst_148 ?_
                  have hb148 : inR (S.1 28) := hR.2.2.2 28
                  refine r_iald (i := 26) (us := (S.2.1 26)) rfl (by decide) hR rfl (by omega) (by show S.1 28 < 9; omega) d_Mo_readFirst_151 (fun hr151 => ?_)
                  refine z_iadd d_Mo_readFirst_152 ?_
                  refine x_callV (As := [_, _, _]) (k := k_MarkerTextModel) rfl xcv_Mo_250_Mo (Or.inl hR.1) (RM.ap hR (fin _ (by omega))) rfl rfl (Nat.le_of_ble_eq_true rfl) d_Mo_readFirst_153 ?_
                  rintro v153 h cq nq ⟨S153, hR, hX153, rfl, rfl, rfl, hq153⟩
                  replace hX := hX.tr hX153
                  refine x_vret d_Mo_readFirst_156 rfl ?_
                  exact ⟨_, hR, hX, rfl, rfl, hq153⟩
          · cases hno : nof Ns (wrd t p) with
            | none =>
              have hrl : rLf t Ns (p, tc, ts) = ((p, tc, ts), none) := by
                unfold rLf
                rw [if_neg (show ¬ 40 ≤ tc by omega), if_neg (show ¬ (wrd t p = _ ∨ wrd t p = _) by rw [e_tru, e_fls]; exact htf)]
                show (match nof Ns (wrd t p) with | none => _ | some i => _) = _
                rw [hno]
              have em5 : ¬ mng Ns (wrd t p) = 5 := fun z => htf (Or.inl (m5.mp z))
              have em6 : ¬ mng Ns (wrd t p) = 6 := fun z => htf (Or.inr (m6.mp z))
              have emn : ¬ mng Ns (wrd t p) < 0 := fun z => by have := mN.mp z; rw [hno] at this; cases this
              refine x_aload_n d_Mo_readFirst_0 rfl rfl ?_
              refine x_callV (As := []) (k := k_MarkerTextModel) rfl xcv_Mo_228_Mo (Or.inl hR.1) (RM.ap hR (r_nowX hc h27)) rfl rfl (Nat.le_of_ble_eq_true rfl) d_Mo_readFirst_1 ?_
              rintro v1 h cq nq ⟨S1, hR, hX1, rfl, rfl, hE1, rfl⟩
              replace hE1 := Eq.symm hE1
              subst hE1
              replace hX := hX.tr hX1
              refine x_bipush (v := zI 40) d_Mo_readFirst_4 (by decide) ?_
              refine z_icmp_ne (tgt := 16) d_Mo_readFirst_6 (by decide) (by omega) (by omega) (fun _ => ?_) (fun hq => by omega)
              refine x_aload_n d_Mo_readFirst_16 rfl rfl ?_
              refine x_aload_n d_Mo_readFirst_17 rfl rfl ?_
              refine x_get xf_Mo_193_Mo (Or.inl hR.1) (v := .int (zI (S.1 27))) rfl d_Mo_readFirst_18 ?_
              have hb18 : inR (S.1 27) := hR.2.2.2 27
              rw [h27]
              refine x_callV (As := [_]) (k := k_MarkerTextModel) rfl xcv_Mo_241_Mo (Or.inl hR.1) (RM.ap hR (r_lettersX (by omega) hc hp)) rfl rfl (Nat.le_of_ble_eq_true rfl) d_Mo_readFirst_21 ?_
              rintro v21 h cq nq ⟨S21, hR, hX21, rfl, rfl, hE21, rfl⟩
              replace hE21 := Eq.symm hE21
              subst hE21
              replace hX := hX.tr hX21
              refine x_istore_n (L' := [_, _, _]) d_Mo_readFirst_24 rfl rfl ?_
              refine x_iload_n d_Mo_readFirst_25 rfl ?_
              refine z_if_le (tgt := 45) d_Mo_readFirst_26 (by decide) (by omega) (fun hq => by omega) (fun _ => ?_)
              refine x_aload_n d_Mo_readFirst_29 rfl rfl ?_
              refine x_aload_n d_Mo_readFirst_30 rfl rfl ?_
              refine x_aload_n d_Mo_readFirst_31 rfl rfl ?_
              refine x_get xf_Mo_193_Mo (Or.inl hR.1) (v := .int (zI (S.1 27))) rfl d_Mo_readFirst_32 ?_
              have hb32 : inR (S.1 27) := hR.2.2.2 27
              refine x_iload_n d_Mo_readFirst_35 rfl ?_
              rw [h27]
              refine x_callV (As := [_, _]) (k := k_MarkerTextModel) rfl xcv_Mo_154_Mo (Or.inl hR.1) (RM.ap hR (r_wordY hc hp)) rfl rfl (Nat.le_of_ble_eq_true rfl) d_Mo_readFirst_36 ?_
              rintro v36 h cq nq ⟨S36, hR, hX36, rfl, rfl, hE36, rfl⟩
              replace hE36 := Eq.symm hE36
              subst hE36
              replace hX := hX.tr hX36
              refine x_callV (As := [_]) (k := k_MarkerTextModel) rfl xcv_Mo_158_Mo (Or.inl hR.1) (RM.ap hR (r_meaningY hc hwl)) rfl rfl (Nat.le_of_ble_eq_true rfl) d_Mo_readFirst_39 ?_
              rintro v39 h cq nq ⟨S39, hR, hX39, rfl, rfl, hE39, rfl⟩
              replace hE39 := Eq.symm hE39
              subst hE39
              replace hX := hX.tr hX39
              refine x_goto (tgt := 46) d_Mo_readFirst_42 (by decide) ?_
              refine x_istore_n (L' := [_, _, _]) d_Mo_readFirst_46 rfl rfl ?_
              refine x_iload_n d_Mo_readFirst_47 rfl ?_
              refine x_iconst (v := zI 1) d_Mo_readFirst_48 (by decide) ?_
              refine z_icmp_ne (tgt := 59) d_Mo_readFirst_49 (by decide) (by omega) (by omega) (fun _ => ?_) (fun hq => by omega)
              refine x_iload_n d_Mo_readFirst_59 rfl ?_
              refine z_if_lt (tgt := 74) d_Mo_readFirst_60 (by decide) (by omega) (fun hq => by omega) (fun _ => ?_)
              refine x_iload_n d_Mo_readFirst_63 rfl ?_
              refine x_iconst (v := zI 5) d_Mo_readFirst_64 (by decide) ?_
              refine z_icmp_eq (tgt := 74) d_Mo_readFirst_65 (by decide) (by omega) (by omega) (fun hq => by omega) (fun _ => ?_)
              refine x_iload_n d_Mo_readFirst_68 rfl ?_
              refine x_bipush (v := zI 6) d_Mo_readFirst_69 (by decide) ?_
              refine z_icmp_ne (tgt := 88) d_Mo_readFirst_71 (by decide) (by omega) (by omega) (fun _ => ?_) (fun hq => by omega)
              refine x_aload_n d_Mo_readFirst_88 rfl rfl ?_
              refine x_aload_n d_Mo_readFirst_89 rfl rfl ?_
              refine x_get xf_Mo_193_Mo (Or.inl hR.1) (v := .int (zI (S.1 27))) rfl d_Mo_readFirst_90 ?_
              have hb90 : inR (S.1 27) := hR.2.2.2 27
              refine x_callV (As := [_]) (k := k_MarkerTextModel) rfl xcv_Mo_218_Mo (Or.inl hR.1) (RM.ap hR (r_fault (by omega))) rfl rfl (Nat.le_of_ble_eq_true rfl) d_Mo_readFirst_93 ?_
              rintro v93 h cq nq ⟨S93, hR, hX93, rfl, rfl, a93, rfl, rfl, ha93⟩
              replace hX := hX.tr hX93
              refine x_vret d_Mo_readFirst_96 rfl ?_
              obtain ⟨q1, q2⟩ := hfl a93 ((flt ha93 h29).trans h27)
              exact ⟨_, hR, hX, rfl, rfl, rfl, q2, Or.inr (Or.inr ⟨h40, hnot, Or.inl ⟨_, hrl, q1⟩⟩)⟩
            | some i =>
              obtain ⟨i1, i2, i3⟩ := nof_some hno
              have emi := mi i hno
              have hrl : rLf t Ns (p, tc, ts) = (((rcm t i (Ns.getD i ([], 0, [])).1 (Ns.getD i ([], 0, [])).2.1 (p + (wrd t p).length)).1, tc + 1, ts ++ (rcm t i (Ns.getD i ([], 0, [])).1 (Ns.getD i ([], 0, [])).2.1 (p + (wrd t p).length)).2.toList), (rcm t i (Ns.getD i ([], 0, [])).1 (Ns.getD i ([], 0, [])).2.1 (p + (wrd t p).length)).2.map dTst) := by
                unfold rLf
                rw [if_neg (show ¬ 40 ≤ tc by omega), if_neg (show ¬ (wrd t p = _ ∨ wrd t p = _) by rw [e_tru, e_fls]; exact htf)]
                show (match nof Ns (wrd t p) with | none => _ | some i => _) = _
                rw [hno]
              have hrt := r_readTestX (l := l) (G := G) (o := o) (rf := rf) (d := d) (S := sp S 27 (S.1 27 + (((wrd t p).length : Nat) : Int))) (nm := mng Ns (wrd t p) + 100) (a0 := S.1 27) (i := i) (p := p + (wrd t p).length) (tc := tc) (dn := dn) (tx := tx) (by omega) hcW i2 (by omega) h27W hwe h29 hS2 hslW htc (by show gd (S.2.1 21) (S.1 28) < 40; omega) s15 s16 s17 (by show S.1 27 + 1 ≤ S.1 27 + (((wrd t p).length : Nat) : Int); omega)
              refine x_aload_n d_Mo_readFirst_0 rfl rfl ?_
              refine x_callV (As := []) (k := k_MarkerTextModel) rfl xcv_Mo_228_Mo (Or.inl hR.1) (RM.ap hR (r_nowX hc h27)) rfl rfl (Nat.le_of_ble_eq_true rfl) d_Mo_readFirst_1 ?_
              rintro v1 h cq nq ⟨S1, hR, hX1, rfl, rfl, hE1, rfl⟩
              replace hE1 := Eq.symm hE1
              subst hE1
              replace hX := hX.tr hX1
              refine x_bipush (v := zI 40) d_Mo_readFirst_4 (by decide) ?_
              refine z_icmp_ne (tgt := 16) d_Mo_readFirst_6 (by decide) (by omega) (by omega) (fun _ => ?_) (fun hq => by omega)
              refine x_aload_n d_Mo_readFirst_16 rfl rfl ?_
              refine x_aload_n d_Mo_readFirst_17 rfl rfl ?_
              refine x_get xf_Mo_193_Mo (Or.inl hR.1) (v := .int (zI (S.1 27))) rfl d_Mo_readFirst_18 ?_
              have hb18 : inR (S.1 27) := hR.2.2.2 27
              rw [h27]
              refine x_callV (As := [_]) (k := k_MarkerTextModel) rfl xcv_Mo_241_Mo (Or.inl hR.1) (RM.ap hR (r_lettersX (by omega) hc hp)) rfl rfl (Nat.le_of_ble_eq_true rfl) d_Mo_readFirst_21 ?_
              rintro v21 h cq nq ⟨S21, hR, hX21, rfl, rfl, hE21, rfl⟩
              replace hE21 := Eq.symm hE21
              subst hE21
              replace hX := hX.tr hX21
              refine x_istore_n (L' := [_, _, _]) d_Mo_readFirst_24 rfl rfl ?_
              refine x_iload_n d_Mo_readFirst_25 rfl ?_
              refine z_if_le (tgt := 45) d_Mo_readFirst_26 (by decide) (by omega) (fun hq => by omega) (fun _ => ?_)
              refine x_aload_n d_Mo_readFirst_29 rfl rfl ?_
              refine x_aload_n d_Mo_readFirst_30 rfl rfl ?_
              refine x_aload_n d_Mo_readFirst_31 rfl rfl ?_
              refine x_get xf_Mo_193_Mo (Or.inl hR.1) (v := .int (zI (S.1 27))) rfl d_Mo_readFirst_32 ?_
              have hb32 : inR (S.1 27) := hR.2.2.2 27
              refine x_iload_n d_Mo_readFirst_35 rfl ?_
              rw [h27]
              refine x_callV (As := [_, _]) (k := k_MarkerTextModel) rfl xcv_Mo_154_Mo (Or.inl hR.1) (RM.ap hR (r_wordY hc hp)) rfl rfl (Nat.le_of_ble_eq_true rfl) d_Mo_readFirst_36 ?_
              rintro v36 h cq nq ⟨S36, hR, hX36, rfl, rfl, hE36, rfl⟩
              replace hE36 := Eq.symm hE36
              subst hE36
              replace hX := hX.tr hX36
              refine x_callV (As := [_]) (k := k_MarkerTextModel) rfl xcv_Mo_158_Mo (Or.inl hR.1) (RM.ap hR (r_meaningY hc hwl)) rfl rfl (Nat.le_of_ble_eq_true rfl) d_Mo_readFirst_39 ?_
              rintro v39 h cq nq ⟨S39, hR, hX39, rfl, rfl, hE39, rfl⟩
              replace hE39 := Eq.symm hE39
              subst hE39
              replace hX := hX.tr hX39
              refine x_goto (tgt := 46) d_Mo_readFirst_42 (by decide) ?_
              refine x_istore_n (L' := [_, _, _]) d_Mo_readFirst_46 rfl rfl ?_
              refine x_iload_n d_Mo_readFirst_47 rfl ?_
              refine x_iconst (v := zI 1) d_Mo_readFirst_48 (by decide) ?_
              refine z_icmp_ne (tgt := 59) d_Mo_readFirst_49 (by decide) (by omega) (by omega) (fun _ => ?_) (fun hq => by omega)
              refine x_iload_n d_Mo_readFirst_59 rfl ?_
              refine z_if_lt (tgt := 74) d_Mo_readFirst_60 (by decide) (by omega) (fun _ => ?_) (fun hq => by omega)
              refine x_aload_n d_Mo_readFirst_74 rfl rfl ?_
              refine x_get xf_Mo_63_Mo (Or.inl hR.1) (v := .ref (rf 21)) rfl d_Mo_readFirst_75 ?_
              refine x_aload_n d_Mo_readFirst_78 rfl rfl ?_
              refine x_get xf_Mo_196_Mo (Or.inl hR.1) (v := .int (zI (S.1 28))) rfl d_Mo_readFirst_79 ?_
              have hb79 : inR (S.1 28) := hR.2.2.2 28
              refine r_iald (i := 21) (us := (S.2.1 21)) rfl (by decide) hR rfl (by omega) (by show S.1 28 < 9; omega) d_Mo_readFirst_82 (fun hr82 => ?_)
              refine x_bipush (v := zI 40) d_Mo_readFirst_83 (by decide) ?_
              refine z_icmp_ne (tgt := 97) d_Mo_readFirst_85 (by decide) (by omega) (by omega) (fun _ => ?_) (fun hq => by omega)
              refine x_aload_n d_Mo_readFirst_97 rfl rfl ?_
              refine x_dup d_Mo_readFirst_98 rfl ?_
              refine x_get xf_Mo_193_Mo (Or.inl hR.1) (v := .int (zI (S.1 27))) rfl d_Mo_readFirst_99 ?_
              have hb99 : inR (S.1 27) := hR.2.2.2 27
              refine x_iload_n d_Mo_readFirst_102 rfl ?_
              refine z_iadd d_Mo_readFirst_103 ?_
              refine r_put xf_Mo_193_Mo xp_Mo_27 hR hX (by omega) rfl rfl d_Mo_readFirst_104 ?_
              intro h hR hX
              refine x_iload_n d_Mo_readFirst_107 rfl ?_
              refine z_if_ge (tgt := 122) d_Mo_readFirst_108 (by decide) (by omega) (fun hq => by omega) (fun _ => ?_)
              refine x_aload_n d_Mo_readFirst_111 rfl rfl ?_
              refine x_iload_n d_Mo_readFirst_112 rfl ?_
              refine x_bipush (v := zI 100) d_Mo_readFirst_113 (by decide) ?_
              refine z_iadd d_Mo_readFirst_115 ?_
              refine x_callV (As := [_]) (k := k_MarkerTextModel) rfl xcv_Mo_258_Mo (Or.inl hR.1) (RM.ap hR hrt) rfl rfl (Nat.le_of_ble_eq_true rfl) d_Mo_readFirst_116 ?_
              rintro v116 h cq nq ⟨S116, hR, hX116, rfl, rfl, rfl, hf116, hor116⟩
              replace hX := hX.tr hX116
              refine x_goto (tgt := 156) d_Mo_readFirst_119 (by decide) ?_
              refine x_vret d_Mo_readFirst_156 rfl ?_
              refine ⟨_, hR, hX, rfl, rfl, rfl, hfW.tr hf116, Or.inr (Or.inr ⟨h40, hnot, ?_⟩)⟩
              rcases hor116 with ⟨q1, q2, q3, q4⟩ | ⟨y, q1, q2⟩
              · rw [q1] at hrl
                exact Or.inl ⟨_, hrl, q2, q3, q4⟩
              · rw [q1] at hrl
                refine Or.inr ⟨_, _, hrl, rfl, ?_⟩
                rw [hDs, hts]
                exact q2
end RH9
