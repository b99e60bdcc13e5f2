section

end
section RH10
variable {l : Launch} {G : XG} {h : XH} {c n d : Nat} {o : Nat} {rf : Nat → Nat} {S : MS}
theorem apD_len {k : Int} {P : List Int} {Ds : List Den} (hk : k = 2 ∨ k = 3) (hl : lnk (k :: P) Ds 1) : 2 ≤ Ds.length ∧ lnk P (apD k Ds) 1 := by
  have c2 := cnt_nn 2 P
  have c3 := cnt_nn 3 P
  have e : (Ds.length : Int) = cnt 2 P + cnt 3 P + 2 := by
    simp only [lnk, cnt] at hl
    rcases hk with rfl | rfl <;> simp at hl <;> omega
  match Ds, e with
  | [], e => simp at e; omega
  | [a], e => simp at e; omega
  | b :: a :: r, e =>
    refine ⟨by simp, ?_⟩
    have : apD k (b :: a :: r) = dJoin (if k = 2 then 2 else 1) a b :: r := by
      show (if k = 1 then _ else _) = _
      rw [if_neg (by omega)]
    rw [this]
    simp only [lnk, List.length_cons] at *
    omega
theorem rdX.pop {t : List Nat} {Ns : List NmT} {P : List Int} {Ds : List Den} {p tc : Nat} {ts : List TsT} (hX : rdX t Ns S (4 :: P) Ds p tc ts) (hlt : p < t.length) : rdX t Ns (sp (sp (sp S 32 (S.1 32 - 1)) 33 (S.1 33 - 1)) 27 (S.1 27 + 1)) P Ds (p + 1) tc ts ∧ fX S (sp (sp (sp S 32 (S.1 32 - 1)) 33 (S.1 33 - 1)) 27 (S.1 27 + 1)) := by
  obtain ⟨hc, ⟨h27, hp⟩, h29, R, w, dn, tx, hS, hsl, hDs, htc, hts⟩ := hX
  have hs2 := hc.1.1
  have hsm : rSm S (sp (sp (sp S 32 (S.1 32 - 1)) 33 (S.1 33 - 1)) 27 (S.1 27 + 1)) [27, 32, 33] [] [] := ((rSm.r0.sp (by decide)).sp (by decide)).sp (by decide)
  exact ⟨⟨hc.sm hsm (by decide) (by decide), ⟨by show S.1 27 + 1 = ((p + 1 : Nat) : Int); omega, by omega⟩, h29, R, w, dn, tx, rd_pop hS hsm (by decide) (by decide) rfl rfl (by show S.1 27 ≤ S.1 27 + 1; omega) (by show S.1 27 + 1 ≤ S.1 2 + 1; omega), hsl.sm hsm (by decide) (by decide) (by decide), hDs, htc, hts⟩, fX.sm hsm (by decide) (by decide) (by decide) (by decide) (by decide) (by decide)⟩
theorem rdX.psh {t : List Nat} {Ns : List NmT} {P : List Int} {Ds : List Den} {p tc e : Nat} {ts : List TsT} {m : Int} (l31 : (S.2.1 31).length = 80) (hX : rdX t Ns S P Ds p tc ts) (hm : (m = 2 ∧ e = 3) ∨ (m = 3 ∧ e = 2)) (hlk : lnk P Ds 1) (hle : p + e ≤ t.length) : rdX t Ns (sp (sp (sa S 31 (se (S.2.1 31) (S.1 32) m)) 32 (S.1 32 + 1)) 27 (S.1 27 + (e : Nat))) (m :: P) Ds (p + e) tc ts ∧ fX S (sp (sp (sa S 31 (se (S.2.1 31) (S.1 32) m)) 32 (S.1 32 + 1)) 27 (S.1 27 + (e : Nat))) := by
  obtain ⟨hc, ⟨h27, hp⟩, h29, R, w, dn, tx, hS, hsl, hDs, htc, hts⟩ := hX
  have hs2 := hc.1.1
  have hsm : rSm S (sp (sp (sa S 31 (se (S.2.1 31) (S.1 32) m)) 32 (S.1 32 + 1)) 27 (S.1 27 + (e : Nat))) [27, 32] [31] [] := ((rSm.r0.sa (by decide)).sp (by decide)).sp (by decide)
  have h35 := hS.2.2.2.2.2.2.1.1
  have h33 := hS.2.2.2.2.2.1.2
  have hRl : (R.length : Int) = cnt 2 P + cnt 3 P + 1 := by
    have := hlk
    rw [hDs] at this
    simpa [lnk] using this
  exact ⟨⟨hc.sm hsm (by decide) (by decide), ⟨by show S.1 27 + ((e : Nat) : Int) = ((p + e : Nat) : Int); omega, hle⟩, h29, R, w, dn, tx, rd_push (k := m) (e := (e : Int)) hS (by omega) l31 hsm (by decide) (by decide) rfl (by omega) rfl rfl (by rw [if_neg (by omega)]; show S.1 33 = S.1 33 + 0; omega) (by show S.1 33 ≤ 13; omega), hsl.sm hsm (by decide) (by decide) (by decide), hDs, htc, hts⟩, fX.sm hsm (by decide) (by decide) (by decide) (by decide) (by decide) (by decide)⟩
/-- how readNext() ends, in full -/
def rnX (t : List Nat) (Ns : List NmT) (S : MS) (P : List Int) (Ds : List Den) (p tc : Nat) (ts : List TsT) : Option Value → MS → Prop := fun v S' => ∃ r : Int, v = some (.int (zI r)) ∧ fX S S' ∧ ((chr t p = 41 ∧ r = 0 ∧ ((∃ P2, (stp [2, 3] P Ds).1 = 4 :: P2 ∧ rdX t Ns S' (cmpl P2 (stp [2, 3] P Ds).2).1 (cmpl P2 (stp [2, 3] P Ds).2).2 (p + 1) tc ts) ∨ ((∀ P2, (stp [2, 3] P Ds).1 ≠ 4 :: P2) ∧ wrg S S' p))) ∨ (wrd t p = [97, 110, 100] ∧ r = 1 ∧ rdX t Ns S' (2 :: (stp [2] P Ds).1) (stp [2] P Ds).2 (p + 3) tc ts) ∨ (wrd t p = [111, 114] ∧ r = 1 ∧ rdX t Ns S' (3 :: (stp [2, 3] P Ds).1) (stp [2, 3] P Ds).2 (p + 2) tc ts) ∨ (chr t p ≠ 41 ∧ wrd t p ≠ [97, 110, 100] ∧ wrd t p ≠ [111, 114] ∧ r = 0 ∧ wrg S S' p))
set_option maxHeartbeats 2000000 in
theorem r_readNextX (hd : 6 ≤ d) {t : List Nat} {Ns : List NmT} {P : List Int} {Ds : List Den} {p tc : Nat} {ts : List TsT} (hX0 : rdX t Ns S P Ds p tc ts) (hlk : lnk P Ds 1) (hlt : p < t.length) : RM l G d M_Mo_readNext [.ref o] o rf S (rnX t Ns S P Ds p tc ts) := by
  obtain ⟨d, rfl⟩ : ∃ q, d = q + 1 := ⟨d - 1, by omega⟩
  intro H0 c n hR
  refine XM.of (by decide +kernel) (Nat.le_of_ble_eq_true rfl) ?_
  have hX : xonly H0 H0 RKs := xonly.rf
  have hc := hX0.1
  have h27 := hX0.2.1.1
  have h29 := hX0.2.2.1
  have hs2 := hc.1.1
  have hl := hc.2.1.2
  have hok := hc.2.1.1
  have h6 := hc.2.2.1.2
  have hD := hc.2.2.2.1
  have n41 := nw_eq (p := p) (ch := 41) hok (by decide)
  have nb := nw_b (p := p) hok
  have hp : p ≤ t.length := by omega
  have hwe := wrd_end hp
  have hwl := wrd_lt (t := t) (p := p)
  have hfl : ∀ (S1 : MS) (a : Int), fX S S1 → S1.1 27 = (p : Nat) → a = (p : Nat) → wrg S (sp S1 29 a) p ∧ fX S (sp S1 29 a) := fun S1 a hf h1 ha => ⟨⟨ha, by show 0 ≤ S1.1 27; omega, by show S1.1 27 ≤ S.1 2 + 1; omega⟩, hf.tr (fX.sm ((rSm.r0 (js := [29]) (is := []) (ls := [])).sp (by decide)) (by decide) (by decide) (by decide) (by decide) (by decide) (by decide))⟩
  -- a closing bracket
  have bd9 : chr t p = 41 → ∀ (S1 : MS) (P1 : List Int) (Ds1 : List Den), rdX t Ns S1 P1 Ds1 p tc ts → fX S S1 → lnk P1 Ds1 1 → stp [2, 3] P1 Ds1 = stp [2, 3] P Ds → (∀ (S2 : MS) (P2 : List Int) (Ds2 : List Den), P2.length < P1.length → rdX t Ns S2 P2 Ds2 p tc ts → fX S S2 → lnk P2 Ds2 1 → stp [2, 3] P2 Ds2 = stp [2, 3] P Ds → RX l G M_Mo_readNext (d + 1) 9 [some (.ref o), none, none] [] H0 o rf c n S2 (rnX t Ns S P Ds p tc ts)) → RX l G M_Mo_readNext (d + 1) 9 [some (.ref o), none, none] [] H0 o rf c n S1 (rnX t Ns S P Ds p tc ts) := by
    intro h41 S1 P1 Ds1 hX1 hf1 hk1 hst1 nx
    obtain ⟨y1, y2, y3⟩ := hX1.pl
    by_cases htop : ∃ k P', (k = 2 ∨ k = 3) ∧ P1 = k :: P'
    · obtain ⟨k, P', hk, rfl⟩ := htop
      obtain ⟨g1, g2⟩ := apD_len hk hk1
      have hst2 : stp [2, 3] P' (apD k Ds1) = stp [2, 3] P Ds := by
        rw [← hst1, stp_in (by rcases hk with rfl | rfl <;> decide)]
      intro h hR hX
      have hap := r_applyX (l := l) (G := G) (o := o) (rf := rf) (d := d) (by omega) hX1 (Or.inr ⟨hk, g1⟩)
      refine x_aload_n d_Mo_readNext_9 rfl rfl ?_
      refine x_iconst (v := zI 2) d_Mo_readNext_10 (by decide) ?_
      refine x_callV (As := [_]) (k := k_MarkerTextModel) rfl xcv_Mo_212_Mo (Or.inl hR.1) (RM.ap hR (r_isOnTop (by decide) y1 y2 (by omega))) rfl rfl (Nat.le_of_ble_eq_true rfl) d_Mo_readNext_11 ?_
      rintro v11 h cq nq ⟨S11, hR, hX11, rfl, rfl, hE11, r11, rfl, hr11⟩
      replace hE11 := Eq.symm hE11
      subst hE11
      replace hX := hX.tr hX11
      have hb11 : r11 = 0 ∨ r11 = 1 := by rcases hr11 with ⟨z, -⟩ | ⟨z, -⟩ <;> omega
      refine z_if_ne (tgt := 25) d_Mo_readNext_14 (by decide) (by omega) (fun hc14 => ?_) (fun hc14 => ?_)
      · refine x_aload_n d_Mo_readNext_25 rfl rfl ?_
        refine x_callV (As := []) (k := k_MarkerTextModel) rfl xcv_Mo_215_Mo (Or.inl hR.1) (RM.ap hR hap) rfl rfl (Nat.le_of_ble_eq_true rfl) d_Mo_readNext_26 ?_
        rintro v26 h cq nq ⟨S26, hR, hX26, rfl, rfl, rfl, hD26, hf26, hs26⟩
        replace hX := hX.tr hX26
        refine x_goto (tgt := 9) d_Mo_readNext_29 (by decide) ?_
        exact nx _ P' (apD k Ds1) (by simp) hD26 (hf1.tr hf26) g2 hst2 _ hR hX
      · refine x_aload_n d_Mo_readNext_17 rfl rfl ?_
        refine x_iconst (v := zI 3) d_Mo_readNext_18 (by decide) ?_
        refine x_callV (As := [_]) (k := k_MarkerTextModel) rfl xcv_Mo_212_Mo (Or.inl hR.1) (RM.ap hR (r_isOnTop (by decide) y1 y2 (by omega))) rfl rfl (Nat.le_of_ble_eq_true rfl) d_Mo_readNext_19 ?_
        rintro v19 h cq nq ⟨S19, hR, hX19, rfl, rfl, hE19, r19, rfl, hr19⟩
        replace hE19 := Eq.symm hE19
        subst hE19
        replace hX := hX.tr hX19
        have hb19 : r19 = 0 ∨ r19 = 1 := by rcases hr19 with ⟨z, -⟩ | ⟨z, -⟩ <;> omega
        refine z_if_eq (tgt := 32) d_Mo_readNext_22 (by decide) (by omega) (fun hc22 => ?_) (fun hc22 => ?_)
        · have q1 := onF hr11 hc14 P'
          have q2 := onF hr19 hc22 P'
          exfalso
          rcases hk with rfl | rfl
          · exact q1 rfl
          · exact q2 rfl
        · refine x_aload_n d_Mo_readNext_25 rfl rfl ?_
          refine x_callV (As := []) (k := k_MarkerTextModel) rfl xcv_Mo_215_Mo (Or.inl hR.1) (RM.ap hR hap) rfl rfl (Nat.le_of_ble_eq_true rfl) d_Mo_readNext_26 ?_
          rintro v26 h cq nq ⟨S26, hR, hX26, rfl, rfl, rfl, hD26, hf26, hs26⟩
          replace hX := hX.tr hX26
          refine x_goto (tgt := 9) d_Mo_readNext_29 (by decide) ?_
          exact nx _ P' (apD k Ds1) (by simp) hD26 (hf1.tr hf26) g2 hst2 _ hR hX
    · have hno : ∀ k Q, P1 = k :: Q → k ∉ [(2 : Int), 3] := fun k Q e hm => htop ⟨k, Q, by simpa using hm, e⟩
      have hst2 : stp [2, 3] P Ds = (P1, Ds1) := by rw [← hst1]; exact stp_no hno
      have t1 := hX1.2.1.1
      have t2 := hX1.2.2.1
      intro h hR hX
      by_cases h4 : ∃ P2, P1 = 4 :: P2
      · obtain ⟨P2, rfl⟩ := h4
        obtain ⟨hXp, hfp⟩ := hX1.pop hlt
        have hop := hX1.op
        have k1 := cnt_nn 1 (4 :: P2)
        have k4 := cnt_nn 4 (4 :: P2)
        have hin := hR.2.2.2 33
        have hD1 : 1 ≤ Ds1.length := by have c2 := cnt_nn 2 (4 :: P2); have c3 := cnt_nn 3 (4 :: P2); have := hk1; simp only [lnk] at this; omega
        refine x_aload_n d_Mo_readNext_9 rfl rfl ?_
        refine x_iconst (v := zI 2) d_Mo_readNext_10 (by decide) ?_
        refine x_callV (As := [_]) (k := k_MarkerTextModel) rfl xcv_Mo_212_Mo (Or.inl hR.1) (RM.ap hR (r_isOnTop (by decide) y1 y2 (by omega))) rfl rfl (Nat.le_of_ble_eq_true rfl) d_Mo_readNext_11 ?_
        rintro v11 h cq nq ⟨S11, hR, hX11, rfl, rfl, hE11, r11, rfl, hr11⟩
        replace hE11 := Eq.symm hE11
        subst hE11
        replace hX := hX.tr hX11
        have hr11 : r11 = 0 := hr11.elim (fun q => q.2.elim (fun P' e => absurd e (by intro z; cases z))) (fun q => q.1)
        refine z_if_ne (tgt := 25) d_Mo_readNext_14 (by decide) (by omega) (fun hq => by omega) (fun _ => ?_)
        refine x_aload_n d_Mo_readNext_17 rfl rfl ?_
        refine x_iconst (v := zI 3) d_Mo_readNext_18 (by decide) ?_
        refine x_callV (As := [_]) (k := k_MarkerTextModel) rfl xcv_Mo_212_Mo (Or.inl hR.1) (RM.ap hR (r_isOnTop (by decide) y1 y2 (by omega))) rfl rfl (Nat.le_of_ble_eq_true rfl) d_Mo_readNext_19 ?_
        rintro v19 h cq nq ⟨S19, hR, hX19, rfl, rfl, hE19, r19, rfl, hr19⟩
        replace hE19 := Eq.symm hE19
        subst hE19
        replace hX := hX.tr hX19
        have hr19 : r19 = 0 := hr19.elim (fun q => q.2.elim (fun P' e => absurd e (by intro z; cases z))) (fun q => q.1)
        refine z_if_eq (tgt := 32) d_Mo_readNext_22 (by decide) (by omega) (fun _ => ?_) (fun hq => by omega)
        refine x_aload_n d_Mo_readNext_32 rfl rfl ?_
        refine x_iconst (v := zI 4) d_Mo_readNext_33 (by decide) ?_
        refine x_callV (As := [_]) (k := k_MarkerTextModel) rfl xcv_Mo_212_Mo (Or.inl hR.1) (RM.ap hR (r_isOnTop (by decide) y1 y2 (by omega))) rfl rfl (Nat.le_of_ble_eq_true rfl) d_Mo_readNext_34 ?_
        rintro v34 h cq nq ⟨S34, hR, hX34, rfl, rfl, hE34, r34, rfl, hr34⟩
        replace hE34 := Eq.symm hE34
        subst hE34
        replace hX := hX.tr hX34
        have hr34 : r34 = 1 := hr34.elim (fun q => q.1) (fun q => absurd ⟨P2, rfl⟩ q.2)
        refine z_if_ne (tgt := 50) d_Mo_readNext_37 (by decide) (by omega) (fun _ => ?_) (fun hq => by omega)
        refine x_aload_n d_Mo_readNext_50 rfl rfl ?_
        refine x_dup d_Mo_readNext_51 rfl ?_
        refine x_get xf_Mo_199_Mo (Or.inl hR.1) (v := .int (zI (S1.1 32))) rfl d_Mo_readNext_52 ?_
        have hb52 : inR (S1.1 32) := hR.2.2.2 32
        refine x_iconst (v := zI 1) d_Mo_readNext_55 (by decide) ?_
        refine z_isub d_Mo_readNext_56 ?_
        refine r_put xf_Mo_199_Mo xp_Mo_32 hR hX (by omega) rfl rfl d_Mo_readNext_57 ?_
        intro h hR hX
        refine x_aload_n d_Mo_readNext_60 rfl rfl ?_
        refine x_dup d_Mo_readNext_61 rfl ?_
        refine x_get xf_Mo_202_Mo (Or.inl hR.1) (v := .int (zI (S1.1 33))) rfl d_Mo_readNext_62 ?_
        have hb62 : inR (S1.1 33) := hR.2.2.2 33
        refine x_iconst (v := zI 1) d_Mo_readNext_65 (by decide) ?_
        refine z_isub d_Mo_readNext_66 ?_
        refine r_put xf_Mo_202_Mo xp_Mo_33 hR hX (by omega) rfl rfl d_Mo_readNext_67 ?_
        intro h hR hX
        refine x_aload_n d_Mo_readNext_70 rfl rfl ?_
        refine x_dup d_Mo_readNext_71 rfl ?_
        refine x_get xf_Mo_193_Mo (Or.inl hR.1) (v := .int (zI (S1.1 27))) rfl d_Mo_readNext_72 ?_
        have hb72 : inR (S1.1 27) := hR.2.2.2 27
        refine x_iconst (v := zI 1) d_Mo_readNext_75 (by decide) ?_
        refine z_iadd d_Mo_readNext_76 ?_
        refine r_put xf_Mo_193_Mo xp_Mo_27 hR hX (by omega) rfl rfl d_Mo_readNext_77 ?_
        intro h hR hX
        refine x_aload_n d_Mo_readNext_80 rfl rfl ?_
        refine x_callV (As := []) (k := k_MarkerTextModel) rfl xcv_Mo_238_Mo (Or.inl hR.1) (RM.ap hR (r_completeX (S := sp (sp (sp S1 32 (S1.1 32 - 1)) 33 (S1.1 33 - 1)) 27 (S1.1 27 + 1)) (by omega) hXp hD1)) rfl rfl (Nat.le_of_ble_eq_true rfl) d_Mo_readNext_81 ?_
        rintro v81 h cq nq ⟨S81, hR, hX81, rfl, rfl, rfl, hD81, hf81, hs81⟩
        replace hX := hX.tr hX81
        refine x_iconst (v := zI 0) d_Mo_readNext_84 (by decide) ?_
        refine x_zret d_Mo_readNext_85 rfl (z_nb (by omega)) ?_
        exact ⟨_, hR, hX, rfl, rfl, 0, rfl, (hf1.tr hfp).tr hf81, Or.inl ⟨h41, rfl, Or.inl ⟨P2, by rw [hst2], by rw [hst2]; exact hD81⟩⟩⟩
      · refine x_aload_n d_Mo_readNext_9 rfl rfl ?_
        refine x_iconst (v := zI 2) d_Mo_readNext_10 (by decide) ?_
        refine x_callV (As := [_]) (k := k_MarkerTextModel) rfl xcv_Mo_212_Mo (Or.inl hR.1) (RM.ap hR (r_isOnTop (by decide) y1 y2 (by omega))) rfl rfl (Nat.le_of_ble_eq_true rfl) d_Mo_readNext_11 ?_
        rintro v11 h cq nq ⟨S11, hR, hX11, rfl, rfl, hE11, r11, rfl, hr11⟩
        replace hE11 := Eq.symm hE11
        subst hE11
        replace hX := hX.tr hX11
        have hr11 : r11 = 0 := hr11.elim (fun q => q.2.elim (fun P' e => absurd ⟨2, P', Or.inl rfl, e⟩ htop)) (fun q => q.1)
        refine z_if_ne (tgt := 25) d_Mo_readNext_14 (by decide) (by omega) (fun hq => by omega) (fun _ => ?_)
        refine x_aload_n d_Mo_readNext_17 rfl rfl ?_
        refine x_iconst (v := zI 3) d_Mo_readNext_18 (by decide) ?_
        refine x_callV (As := [_]) (k := k_MarkerTextModel) rfl xcv_Mo_212_Mo (Or.inl hR.1) (RM.ap hR (r_isOnTop (by decide) y1 y2 (by omega))) rfl rfl (Nat.le_of_ble_eq_true rfl) d_Mo_readNext_19 ?_
        rintro v19 h cq nq ⟨S19, hR, hX19, rfl, rfl, hE19, r19, rfl, hr19⟩
        replace hE19 := Eq.symm hE19
        subst hE19
        replace hX := hX.tr hX19
        have hr19 : r19 = 0 := hr19.elim (fun q => q.2.elim (fun P' e => absurd ⟨3, P', Or.inr rfl, e⟩ htop)) (fun q => q.1)
        refine z_if_eq (tgt := 32) d_Mo_readNext_22 (by decide) (by omega) (fun _ => ?_) (fun hq => by omega)
        refine x_aload_n d_Mo_readNext_32 rfl rfl ?_
        refine x_iconst (v := zI 4) d_Mo_readNext_33 (by decide) ?_
        refine x_callV (As := [_]) (k := k_MarkerTextModel) rfl xcv_Mo_212_Mo (Or.inl hR.1) (RM.ap hR (r_isOnTop (by decide) y1 y2 (by omega))) rfl rfl (Nat.le_of_ble_eq_true rfl) d_Mo_readNext_34 ?_
        rintro v34 h cq nq ⟨S34, hR, hX34, rfl, rfl, hE34, r34, rfl, hr34⟩
        replace hE34 := Eq.symm hE34
        subst hE34
        replace hX := hX.tr hX34
        have hr34 : r34 = 0 := hr34.elim (fun q => absurd q.2 h4) (fun q => q.1)
        refine z_if_ne (tgt := 50) d_Mo_readNext_37 (by decide) (by omega) (fun hq => by omega) (fun _ => ?_)
        refine x_aload_n d_Mo_readNext_40 rfl rfl ?_
        refine x_aload_n d_Mo_readNext_41 rfl rfl ?_
        refine x_get xf_Mo_193_Mo (Or.inl hR.1) (v := .int (zI (S1.1 27))) rfl d_Mo_readNext_42 ?_
        have hb42 : inR (S1.1 27) := hR.2.2.2 27
        refine x_callV (As := [_]) (k := k_MarkerTextModel) rfl xcv_Mo_218_Mo (Or.inl hR.1) (RM.ap hR (r_fault (by omega))) rfl rfl (Nat.le_of_ble_eq_true rfl) d_Mo_readNext_45 ?_
        rintro v45 h cq nq ⟨S45, hR, hX45, rfl, rfl, a45, rfl, rfl, ha45⟩
        replace hX := hX.tr hX45
        refine x_iconst (v := zI 0) d_Mo_readNext_48 (by decide) ?_
        refine x_zret d_Mo_readNext_49 rfl (z_nb (by omega)) ?_
        obtain ⟨q1, q2⟩ := hfl S1 a45 hf1 t1 ((flt ha45 t2).trans t1)
        exact ⟨_, hR, hX, rfl, rfl, 0, rfl, q2, Or.inl ⟨h41, rfl, Or.inr ⟨fun P2 e => h4 ⟨P2, by rw [hst2] at e; exact e⟩, q1⟩⟩⟩
  have lp9 : chr t p = 41 → ∀ (K : Nat) (S1 : MS) (P1 : List Int) (Ds1 : List Den), P1.length ≤ K → rdX t Ns S1 P1 Ds1 p tc ts → fX S S1 → lnk P1 Ds1 1 → stp [2, 3] P1 Ds1 = stp [2, 3] P Ds → RX l G M_Mo_readNext (d + 1) 9 [some (.ref o), none, none] [] H0 o rf c n S1 (rnX t Ns S P Ds p tc ts) := by
    intro h41 K
    induction K with
    | zero => intro S1 P1 Ds1 hK a1 a2 a3 a4; exact bd9 h41 S1 P1 Ds1 a1 a2 a3 a4 (fun S2 P2 Ds2 hl => by omega)
    | succ K ih => intro S1 P1 Ds1 hK a1 a2 a3 a4; exact bd9 h41 S1 P1 Ds1 a1 a2 a3 a4 (fun S2 P2 Ds2 hl b1 b2 b3 b4 => ih S2 P2 Ds2 (by omega) b1 b2 b3 b4)
  -- and, or
  have bd137 : ∀ (r m : Int) (e : Nat) (KK : List Int), r = (e : Nat) → ((m = 2 ∧ e = 3 ∧ KK = [2] ∧ wrd t p = [97, 110, 100]) ∨ (m = 3 ∧ e = 2 ∧ KK = [2, 3] ∧ wrd t p = [111, 114])) → p + e ≤ t.length → ∀ (S1 : MS) (P1 : List Int) (Ds1 : List Den), rdX t Ns S1 P1 Ds1 p tc ts → fX S S1 → lnk P1 Ds1 1 → stp KK P1 Ds1 = stp KK P Ds → (∀ (S2 : MS) (P2 : List Int) (Ds2 : List Den), P2.length < P1.length → rdX t Ns S2 P2 Ds2 p tc ts → fX S S2 → lnk P2 Ds2 1 → stp KK P2 Ds2 = stp KK P Ds → RX l G M_Mo_readNext (d + 1) 137 [some (.ref o), some (.int (zI r)), some (.int (zI m))] [] H0 o rf c n S2 (rnX t Ns S P Ds p tc ts)) → RX l G M_Mo_readNext (d + 1) 137 [some (.ref o), some (.int (zI r)), some (.int (zI m))] [] H0 o rf c n S1 (rnX t Ns S P Ds p tc ts) := by
    intro r m e KK hre hm hpe S1 P1 Ds1 hX1 hf1 hk1 hst1 nx
    obtain ⟨y1, y2, y3⟩ := hX1.pl
    have h2K : (2 : Int) ∈ KK := by rcases hm with ⟨-, -, rfl, -⟩ | ⟨-, -, rfl, -⟩ <;> decide
    have h3K : (3 : Int) ∈ KK ↔ m = 3 := by
      rcases hm with ⟨rfl, -, rfl, -⟩ | ⟨rfl, -, rfl, -⟩ <;> decide
    have hKs : ∀ k : Int, k ∈ KK → k = 2 ∨ k = 3 := by rcases hm with ⟨-, -, rfl, -⟩ | ⟨-, -, rfl, -⟩ <;> simp
    have hm23 : m = 2 ∨ m = 3 := by omega
    by_cases htop : ∃ k P', k ∈ KK ∧ P1 = k :: P'
    · obtain ⟨k, P', hkK, rfl⟩ := htop
      have hk := hKs k hkK
      obtain ⟨g1, g2⟩ := apD_len hk hk1
      have hst2 : stp KK P' (apD k Ds1) = stp KK P Ds := by rw [← hst1, stp_in hkK]
      intro h hR hX
      have hap := r_applyX (l := l) (G := G) (o := o) (rf := rf) (d := d) (by omega) hX1 (Or.inr ⟨hk, g1⟩)
      refine x_aload_n d_Mo_readNext_137 rfl rfl ?_
      refine x_iconst (v := zI 2) d_Mo_readNext_138 (by decide) ?_
      refine x_callV (As := [_]) (k := k_MarkerTextModel) rfl xcv_Mo_212_Mo (Or.inl hR.1) (RM.ap hR (r_isOnTop (by decide) y1 y2 (by omega))) rfl rfl (Nat.le_of_ble_eq_true rfl) d_Mo_readNext_139 ?_
      rintro v139 h cq nq ⟨S139, hR, hX139, rfl, rfl, hE139, r139, rfl, hr139⟩
      replace hE139 := Eq.symm hE139
      subst hE139
      replace hX := hX.tr hX139
      have hb139 : r139 = 0 ∨ r139 = 1 := by rcases hr139 with ⟨z, -⟩ | ⟨z, -⟩ <;> omega
      refine z_if_ne (tgt := 158) d_Mo_readNext_142 (by decide) (by omega) (fun hc142 => ?_) (fun hc142 => ?_)
      · refine x_aload_n d_Mo_readNext_158 rfl rfl ?_
        refine x_callV (As := []) (k := k_MarkerTextModel) rfl xcv_Mo_215_Mo (Or.inl hR.1) (RM.ap hR hap) rfl rfl (Nat.le_of_ble_eq_true rfl) d_Mo_readNext_159 ?_
        rintro v159 h cq nq ⟨S159, hR, hX159, rfl, rfl, rfl, hD159, hf159, hs159⟩
        replace hX := hX.tr hX159
        refine x_goto (tgt := 137) d_Mo_readNext_162 (by decide) ?_
        exact nx _ P' (apD k Ds1) (by simp) hD159 (hf1.tr hf159) g2 hst2 _ hR hX
      · refine x_iload_n d_Mo_readNext_145 rfl ?_
        refine x_iconst (v := zI 3) d_Mo_readNext_146 (by decide) ?_
        refine z_icmp_ne (tgt := 165) d_Mo_readNext_147 (by decide) (by omega) (by omega) (fun hc147 => ?_) (fun hc147 => ?_)
        · exfalso
          rcases hk with rfl | rfl
          · exact onF hr139 (by omega) P' rfl
          · have := h3K.mp hkK
            first | omega | exact onF hr152 (by omega) P' rfl
        · refine x_aload_n d_Mo_readNext_150 rfl rfl ?_
          refine x_iconst (v := zI 3) d_Mo_readNext_151 (by decide) ?_
          refine x_callV (As := [_]) (k := k_MarkerTextModel) rfl xcv_Mo_212_Mo (Or.inl hR.1) (RM.ap hR (r_isOnTop (by decide) y1 y2 (by omega))) rfl rfl (Nat.le_of_ble_eq_true rfl) d_Mo_readNext_152 ?_
          rintro v152 h cq nq ⟨S152, hR, hX152, rfl, rfl, hE152, r152, rfl, hr152⟩
          replace hE152 := Eq.symm hE152
          subst hE152
          replace hX := hX.tr hX152
          have hb152 : r152 = 0 ∨ r152 = 1 := by rcases hr152 with ⟨z, -⟩ | ⟨z, -⟩ <;> omega
          refine z_if_eq (tgt := 165) d_Mo_readNext_155 (by decide) (by omega) (fun hc155 => ?_) (fun hc155 => ?_)
          · exfalso
            rcases hk with rfl | rfl
            · exact onF hr139 (by omega) P' rfl
            · have := h3K.mp hkK
              first | omega | exact onF hr152 (by omega) P' rfl
          · refine x_aload_n d_Mo_readNext_158 rfl rfl ?_
            refine x_callV (As := []) (k := k_MarkerTextModel) rfl xcv_Mo_215_Mo (Or.inl hR.1) (RM.ap hR hap) rfl rfl (Nat.le_of_ble_eq_true rfl) d_Mo_readNext_159 ?_
            rintro v159 h cq nq ⟨S159, hR, hX159, rfl, rfl, rfl, hD159, hf159, hs159⟩
            replace hX := hX.tr hX159
            refine x_goto (tgt := 137) d_Mo_readNext_162 (by decide) ?_
            exact nx _ P' (apD k Ds1) (by simp) hD159 (hf1.tr hf159) g2 hst2 _ hR hX
    · have hno : ∀ k Q, P1 = k :: Q → k ∉ KK := fun k Q ee hmm => htop ⟨k, Q, hmm, ee⟩
      have hst2 : stp KK P Ds = (P1, Ds1) := by rw [← hst1]; exact stp_no hno
      intro h hR hX
      have l31 : (S1.2.1 31).length = 80 := hR.len 31 (by decide)
      have t1 := hX1.2.1.1
      obtain ⟨hXq, hfq⟩ := hX1.psh (e := e) (m := m) l31 (by omega) hk1 hpe
      have fin : rnX t Ns S P Ds p tc ts (some (.int (zI 1))) (sp (sp (sa S1 31 (se (S1.2.1 31) (S1.1 32) m)) 32 (S1.1 32 + 1)) 27 (S1.1 27 + r)) := by
        rw [hre]
        refine ⟨1, rfl, hf1.tr hfq, ?_⟩
        rcases hm with ⟨rfl, rfl, rfl, hw⟩ | ⟨rfl, rfl, rfl, hw⟩
        · exact Or.inr (Or.inl ⟨hw, rfl, by rw [hst2]; exact hXq⟩)
        · exact Or.inr (Or.inr (Or.inl ⟨hw, rfl, by rw [hst2]; exact hXq⟩))
      have n139 : ∀ r139 : Int, ((r139 = 1 ∧ ∃ P', P1 = 2 :: P') ∨ (r139 = 0 ∧ ¬ ∃ P', P1 = 2 :: P')) → r139 = 0 := fun r139 hq => hq.elim (fun q => q.2.elim (fun P' ee => absurd ⟨2, P', h2K, ee⟩ htop)) (fun q => q.1)
      have n152 : m = 3 → ∀ r152 : Int, ((r152 = 1 ∧ ∃ P', P1 = 3 :: P') ∨ (r152 = 0 ∧ ¬ ∃ P', P1 = 3 :: P')) → r152 = 0 := fun hm3 r152 hq => hq.elim (fun q => q.2.elim (fun P' ee => absurd ⟨3, P', h3K.mpr hm3, ee⟩ htop)) (fun q => q.1)
      refine x_aload_n d_Mo_readNext_137 rfl rfl ?_
      refine x_iconst (v := zI 2) d_Mo_readNext_138 (by decide) ?_
      refine x_callV (As := [_]) (k := k_MarkerTextModel) rfl xcv_Mo_212_Mo (Or.inl hR.1) (RM.ap hR (r_isOnTop (by decide) y1 y2 (by omega))) rfl rfl (Nat.le_of_ble_eq_true rfl) d_Mo_readNext_139 ?_
      rintro v139 h cq nq ⟨S139, hR, hX139, rfl, rfl, hE139, r139, rfl, hr139⟩
      replace hE139 := Eq.symm hE139
      subst hE139
      replace hX := hX.tr hX139
      have hb139 := n139 _ hr139
      refine z_if_ne (tgt := 158) d_Mo_readNext_142 (by decide) (by omega) (fun hq => by omega) (fun _ => ?_)
      refine x_iload_n d_Mo_readNext_145 rfl ?_
      refine x_iconst (v := zI 3) d_Mo_readNext_146 (by decide) ?_
      refine z_icmp_ne (tgt := 165) d_Mo_readNext_147 (by decide) (by omega) (by omega) (fun hc147 => ?_) (fun hc147 => ?_)
      · refine x_aload_n d_Mo_readNext_165 rfl rfl ?_
        refine x_iload_n d_Mo_readNext_166 rfl ?_
        refine x_callV (As := [_]) (k := k_MarkerTextModel) rfl xcv_Mo_222_Mo (Or.inl hR.1) (RM.ap hR (r_push (by omega) (by omega))) rfl rfl (Nat.le_of_ble_eq_true rfl) d_Mo_readNext_167 ?_
        rintro v167 h cq nq ⟨S167, hR, hX167, rfl, rfl, rfl, rfl⟩
        replace hX := hX.tr hX167
        refine x_aload_n d_Mo_readNext_170 rfl rfl ?_
        refine x_dup d_Mo_readNext_171 rfl ?_
        refine x_get xf_Mo_193_Mo (Or.inl hR.1) (v := .int (zI (S1.1 27))) rfl d_Mo_readNext_172 ?_
        have hb172 : inR (S1.1 27) := hR.2.2.2 27
        refine x_iload_n d_Mo_readNext_175 rfl ?_
        refine z_iadd d_Mo_readNext_176 ?_
        refine r_put xf_Mo_193_Mo xp_Mo_27 hR hX (by omega) rfl rfl d_Mo_readNext_177 ?_
        intro h hR hX
        refine x_iconst (v := zI 1) d_Mo_readNext_180 (by decide) ?_
        refine x_zret d_Mo_readNext_181 rfl (z_nb (by omega)) ?_
        exact ⟨_, hR, hX, rfl, rfl, fin⟩
      · refine x_aload_n d_Mo_readNext_150 rfl rfl ?_
        refine x_iconst (v := zI 3) d_Mo_readNext_151 (by decide) ?_
        refine x_callV (As := [_]) (k := k_MarkerTextModel) rfl xcv_Mo_212_Mo (Or.inl hR.1) (RM.ap hR (r_isOnTop (by decide) y1 y2 (by omega))) rfl rfl (Nat.le_of_ble_eq_true rfl) d_Mo_readNext_152 ?_
        rintro v152 h cq nq ⟨S152, hR, hX152, rfl, rfl, hE152, r152, rfl, hr152⟩
        replace hE152 := Eq.symm hE152
        subst hE152
        replace hX := hX.tr hX152
        have hb152 := n152 (by omega) _ hr152
        refine z_if_eq (tgt := 165) d_Mo_readNext_155 (by decide) (by omega) (fun _ => ?_) (fun hq => by omega)
        refine x_aload_n d_Mo_readNext_165 rfl rfl ?_
        refine x_iload_n d_Mo_readNext_166 rfl ?_
        refine x_callV (As := [_]) (k := k_MarkerTextModel) rfl xcv_Mo_222_Mo (Or.inl hR.1) (RM.ap hR (r_push (by omega) (by omega))) rfl rfl (Nat.le_of_ble_eq_true rfl) d_Mo_readNext_167 ?_
        rintro v167 h cq nq ⟨S167, hR, hX167, rfl, rfl, rfl, rfl⟩
        replace hX := hX.tr hX167
        refine x_aload_n d_Mo_readNext_170 rfl rfl ?_
        refine x_dup d_Mo_readNext_171 rfl ?_
        refine x_get xf_Mo_193_Mo (Or.inl hR.1) (v := .int (zI (S1.1 27))) rfl d_Mo_readNext_172 ?_
        have hb172 : inR (S1.1 27) := hR.2.2.2 27
        refine x_iload_n d_Mo_readNext_175 rfl ?_
        refine z_iadd d_Mo_readNext_176 ?_
        refine r_put xf_Mo_193_Mo xp_Mo_27 hR hX (by omega) rfl rfl d_Mo_readNext_177 ?_
        intro h hR hX
        refine x_iconst (v := zI 1) d_Mo_readNext_180 (by decide) ?_
        refine x_zret d_Mo_readNext_181 rfl (z_nb (by omega)) ?_
        exact ⟨_, hR, hX, rfl, rfl, fin⟩
  have lp137 : ∀ (r m : Int) (e : Nat) (KK : List Int), r = (e : Nat) → ((m = 2 ∧ e = 3 ∧ KK = [2] ∧ wrd t p = [97, 110, 100]) ∨ (m = 3 ∧ e = 2 ∧ KK = [2, 3] ∧ wrd t p = [111, 114])) → p + e ≤ t.length → ∀ (K : Nat) (S1 : MS) (P1 : List Int) (Ds1 : List Den), P1.length ≤ K → rdX t Ns S1 P1 Ds1 p tc ts → fX S S1 → lnk P1 Ds1 1 → stp KK P1 Ds1 = stp KK P Ds → RX l G M_Mo_readNext (d + 1) 137 [some (.ref o), some (.int (zI r)), some (.int (zI m))] [] H0 o rf c n S1 (rnX t Ns S P Ds p tc ts) := by
    intro r m e KK hre hm hpe K
    induction K with
    | zero => intro S1 P1 Ds1 hK a1 a2 a3 a4; exact bd137 r m e KK hre hm hpe S1 P1 Ds1 a1 a2 a3 a4 (fun S2 P2 Ds2 hl => by omega)
    | succ K ih => intro S1 P1 Ds1 hK a1 a2 a3 a4; exact bd137 r m e KK hre hm hpe S1 P1 Ds1 a1 a2 a3 a4 (fun S2 P2 Ds2 hl b1 b2 b3 b4 => ih S2 P2 Ds2 (by omega) b1 b2 b3 b4)
  by_cases h41 : chr t p = 41
  · have e41 : nw t p = 41 := n41.mpr h41
    refine x_aload_n d_Mo_readNext_0 rfl rfl ?_
    refine x_callV (As := []) (k := k_MarkerTextModel) rfl xcv_Mo_228_Mo (Or.inl hR.1) (RM.ap hR (r_nowX hc h27)) rfl rfl (Nat.le_of_ble_eq_true rfl) d_Mo_readNext_1 ?_
    rintro v1 h cq nq ⟨S1, hR, hX1, rfl, rfl, hE1, rfl⟩
    replace hE1 := Eq.symm hE1
    subst hE1
    replace hX := hX.tr hX1
    refine x_bipush (v := zI 41) d_Mo_readNext_4 (by decide) ?_
    refine z_icmp_ne (tgt := 86) d_Mo_readNext_6 (by decide) (by omega) (by omega) (fun hq => by omega) (fun _ => ?_)
    exact lp9 h41 P.length S P Ds (Nat.le_refl _) hX0 fX.r0 hlk rfl _ hR hX
  · have e41 : ¬ nw t p = 41 := fun z => h41 (n41.mp z)
    by_cases hnil : wrd t p = []
    · have hl0 : (wrd t p).length = 0 := by rw [hnil]; rfl
      have w1 : wrd t p ≠ [97, 110, 100] := by rw [hnil]; exact fun z => by cases z
      have w2 : wrd t p ≠ [111, 114] := by rw [hnil]; exact fun z => by cases z
      refine x_aload_n d_Mo_readNext_0 rfl rfl ?_
      refine x_callV (As := []) (k := k_MarkerTextModel) rfl xcv_Mo_228_Mo (Or.inl hR.1) (RM.ap hR (r_nowX hc h27)) rfl rfl (Nat.le_of_ble_eq_true rfl) d_Mo_readNext_1 ?_
      rintro v1 h cq nq ⟨S1, hR, hX1, rfl, rfl, hE1, rfl⟩
      replace hE1 := Eq.symm hE1
      subst hE1
      replace hX := hX.tr hX1
      refine x_bipush (v := zI 41) d_Mo_readNext_4 (by decide) ?_
      refine z_icmp_ne (tgt := 86) d_Mo_readNext_6 (by decide) (by omega) (by omega) (fun _ => ?_) (fun hq => by omega)
      refine x_aload_n d_Mo_readNext_86 rfl rfl ?_
      refine x_aload_n d_Mo_readNext_87 rfl rfl ?_
      refine x_get xf_Mo_193_Mo (Or.inl hR.1) (v := .int (zI (S.1 27))) rfl d_Mo_readNext_88 ?_
      have hb88 : inR (S.1 27) := hR.2.2.2 27
      rw [h27]
      refine x_callV (As := [_]) (k := k_MarkerTextModel) rfl xcv_Mo_241_Mo (Or.inl hR.1) (RM.ap hR (r_lettersX (by omega) hc hp)) rfl rfl (Nat.le_of_ble_eq_true rfl) d_Mo_readNext_91 ?_
      rintro v91 h cq nq ⟨S91, hR, hX91, rfl, rfl, hE91, rfl⟩
      replace hE91 := Eq.symm hE91
      subst hE91
      replace hX := hX.tr hX91
      refine x_istore_n (L' := [_, _, _]) d_Mo_readNext_94 rfl rfl ?_
      refine x_iload_n d_Mo_readNext_95 rfl ?_
      refine z_if_le (tgt := 115) d_Mo_readNext_96 (by decide) (by omega) (fun _ => ?_) (fun hq => by omega)
      refine x_iconst (v := zI 0) d_Mo_readNext_115 (by decide) ?_
      refine x_istore_n (L' := [_, _, _]) d_Mo_readNext_116 rfl rfl ?_
      refine x_iload_n d_Mo_readNext_117 rfl ?_
      refine x_iconst (v := zI 2) d_Mo_readNext_118 (by decide) ?_
      refine z_icmp_eq (tgt := 137) d_Mo_readNext_119 (by decide) (by omega) (by omega) (fun hq => by omega) (fun _ => ?_)
      refine x_iload_n d_Mo_readNext_122 rfl ?_
      refine x_iconst (v := zI 3) d_Mo_readNext_123 (by decide) ?_
      refine z_icmp_eq (tgt := 137) d_Mo_readNext_124 (by decide) (by omega) (by omega) (fun hq => by omega) (fun _ => ?_)
      refine x_aload_n d_Mo_readNext_127 rfl rfl ?_
      refine x_aload_n d_Mo_readNext_128 rfl rfl ?_
      refine x_get xf_Mo_193_Mo (Or.inl hR.1) (v := .int (zI (S.1 27))) rfl d_Mo_readNext_129 ?_
      have hb129 : inR (S.1 27) := hR.2.2.2 27
      refine x_callV (As := [_]) (k := k_MarkerTextModel) rfl xcv_Mo_218_Mo (Or.inl hR.1) (RM.ap hR (r_fault (by omega))) rfl rfl (Nat.le_of_ble_eq_true rfl) d_Mo_readNext_132 ?_
      rintro v132 h cq nq ⟨S132, hR, hX132, rfl, rfl, a132, rfl, rfl, ha132⟩
      replace hX := hX.tr hX132
      refine x_iconst (v := zI 0) d_Mo_readNext_135 (by decide) ?_
      refine x_zret d_Mo_readNext_136 rfl (z_nb (by omega)) ?_
      obtain ⟨q1, q2⟩ := hfl S a132 fX.r0 h27 ((flt ha132 h29).trans h27)
      exact ⟨_, hR, hX, rfl, rfl, 0, rfl, q2, Or.inr (Or.inr (Or.inr ⟨h41, w1, w2, rfl, q1⟩))⟩
    · have hlp : 0 < (wrd t p).length := by
        cases hq : wrd t p with
        | nil => exact absurd hq hnil
        | cons a r => simp
      obtain ⟨m3, m2, m1, m7, m5, m6, mN, mb1, mb2, mi⟩ := mng_kw hD h6 hnil
      by_cases hand : wrd t p = [97, 110, 100]
      · have em : mng Ns (wrd t p) = 2 := m2.mpr hand
        have hl3 : (wrd t p).length = 3 := by rw [hand]; rfl
        refine x_aload_n d_Mo_readNext_0 rfl rfl ?_
        refine x_callV (As := []) (k := k_MarkerTextModel) rfl xcv_Mo_228_Mo (Or.inl hR.1) (RM.ap hR (r_nowX hc h27)) rfl rfl (Nat.le_of_ble_eq_true rfl) d_Mo_readNext_1 ?_
        rintro v1 h cq nq ⟨S1, hR, hX1, rfl, rfl, hE1, rfl⟩
        replace hE1 := Eq.symm hE1
        subst hE1
        replace hX := hX.tr hX1
        refine x_bipush (v := zI 41) d_Mo_readNext_4 (by decide) ?_
        refine z_icmp_ne (tgt := 86) d_Mo_readNext_6 (by decide) (by omega) (by omega) (fun _ => ?_) (fun hq => by omega)
        refine x_aload_n d_Mo_readNext_86 rfl rfl ?_
        refine x_aload_n d_Mo_readNext_87 rfl rfl ?_
        refine x_get xf_Mo_193_Mo (Or.inl hR.1) (v := .int (zI (S.1 27))) rfl d_Mo_readNext_88 ?_
        have hb88 : inR (S.1 27) := hR.2.2.2 27
        rw [h27]
        refine x_callV (As := [_]) (k := k_MarkerTextModel) rfl xcv_Mo_241_Mo (Or.inl hR.1) (RM.ap hR (r_lettersX (by omega) hc hp)) rfl rfl (Nat.le_of_ble_eq_true rfl) d_Mo_readNext_91 ?_
        rintro v91 h cq nq ⟨S91, hR, hX91, rfl, rfl, hE91, rfl⟩
        replace hE91 := Eq.symm hE91
        subst hE91
        replace hX := hX.tr hX91
        refine x_istore_n (L' := [_, _, _]) d_Mo_readNext_94 rfl rfl ?_
        refine x_iload_n d_Mo_readNext_95 rfl ?_
        refine z_if_le (tgt := 115) d_Mo_readNext_96 (by decide) (by omega) (fun hq => by omega) (fun _ => ?_)
        refine x_aload_n d_Mo_readNext_99 rfl rfl ?_
        refine x_aload_n d_Mo_readNext_100 rfl rfl ?_
        refine x_aload_n d_Mo_readNext_101 rfl rfl ?_
        refine x_get xf_Mo_193_Mo (Or.inl hR.1) (v := .int (zI (S.1 27))) rfl d_Mo_readNext_102 ?_
        have hb102 : inR (S.1 27) := hR.2.2.2 27
        refine x_iload_n d_Mo_readNext_105 rfl ?_
        rw [h27]
        refine x_callV (As := [_, _]) (k := k_MarkerTextModel) rfl xcv_Mo_154_Mo (Or.inl hR.1) (RM.ap hR (r_wordY hc hp)) rfl rfl (Nat.le_of_ble_eq_true rfl) d_Mo_readNext_106 ?_
        rintro v106 h cq nq ⟨S106, hR, hX106, rfl, rfl, hE106, rfl⟩
        replace hE106 := Eq.symm hE106
        subst hE106
        replace hX := hX.tr hX106
        refine x_callV (As := [_]) (k := k_MarkerTextModel) rfl xcv_Mo_158_Mo (Or.inl hR.1) (RM.ap hR (r_meaningY hc hwl)) rfl rfl (Nat.le_of_ble_eq_true rfl) d_Mo_readNext_109 ?_
        rintro v109 h cq nq ⟨S109, hR, hX109, rfl, rfl, hE109, rfl⟩
        replace hE109 := Eq.symm hE109
        subst hE109
        replace hX := hX.tr hX109
        refine x_goto (tgt := 116) d_Mo_readNext_112 (by decide) ?_
        refine x_istore_n (L' := [_, _, _]) d_Mo_readNext_116 rfl rfl ?_
        refine x_iload_n d_Mo_readNext_117 rfl ?_
        refine x_iconst (v := zI 2) d_Mo_readNext_118 (by decide) ?_
        refine z_icmp_eq (tgt := 137) d_Mo_readNext_119 (by decide) (by omega) (by omega) (fun _ => ?_) (fun hq => by omega)
        exact lp137 _ _ 3 [2] (by omega) (Or.inl ⟨em, rfl, rfl, hand⟩) (by omega) P.length S P Ds (Nat.le_refl _) hX0 fX.r0 hlk rfl _ hR hX
      · have em2 : ¬ mng Ns (wrd t p) = 2 := fun z => hand (m2.mp z)
        by_cases hor : wrd t p = [111, 114]
        · have em : mng Ns (wrd t p) = 3 := m3.mpr hor
          have hl3 : (wrd t p).length = 2 := by rw [hor]; rfl
          refine x_aload_n d_Mo_readNext_0 rfl rfl ?_
          refine x_callV (As := []) (k := k_MarkerTextModel) rfl xcv_Mo_228_Mo (Or.inl hR.1) (RM.ap hR (r_nowX hc h27)) rfl rfl (Nat.le_of_ble_eq_true rfl) d_Mo_readNext_1 ?_
          rintro v1 h cq nq ⟨S1, hR, hX1, rfl, rfl, hE1, rfl⟩
          replace hE1 := Eq.symm hE1
          subst hE1
          replace hX := hX.tr hX1
          refine x_bipush (v := zI 41) d_Mo_readNext_4 (by decide) ?_
          refine z_icmp_ne (tgt := 86) d_Mo_readNext_6 (by decide) (by omega) (by omega) (fun _ => ?_) (fun hq => by omega)
          refine x_aload_n d_Mo_readNext_86 rfl rfl ?_
          refine x_aload_n d_Mo_readNext_87 rfl rfl ?_
          refine x_get xf_Mo_193_Mo (Or.inl hR.1) (v := .int (zI (S.1 27))) rfl d_Mo_readNext_88 ?_
          have hb88 : inR (S.1 27) := hR.2.2.2 27
          rw [h27]
          refine x_callV (As := [_]) (k := k_MarkerTextModel) rfl xcv_Mo_241_Mo (Or.inl hR.1) (RM.ap hR (r_lettersX (by omega) hc hp)) rfl rfl (Nat.le_of_ble_eq_true rfl) d_Mo_readNext_91 ?_
          rintro v91 h cq nq ⟨S91, hR, hX91, rfl, rfl, hE91, rfl⟩
          replace hE91 := Eq.symm hE91
          subst hE91
          replace hX := hX.tr hX91
          refine x_istore_n (L' := [_, _, _]) d_Mo_readNext_94 rfl rfl ?_
          refine x_iload_n d_Mo_readNext_95 rfl ?_
          refine z_if_le (tgt := 115) d_Mo_readNext_96 (by decide) (by omega) (fun hq => by omega) (fun _ => ?_)
          refine x_aload_n d_Mo_readNext_99 rfl rfl ?_
          refine x_aload_n d_Mo_readNext_100 rfl rfl ?_
          refine x_aload_n d_Mo_readNext_101 rfl rfl ?_
          refine x_get xf_Mo_193_Mo (Or.inl hR.1) (v := .int (zI (S.1 27))) rfl d_Mo_readNext_102 ?_
          have hb102 : inR (S.1 27) := hR.2.2.2 27
          refine x_iload_n d_Mo_readNext_105 rfl ?_
          rw [h27]
          refine x_callV (As := [_, _]) (k := k_MarkerTextModel) rfl xcv_Mo_154_Mo (Or.inl hR.1) (RM.ap hR (r_wordY hc hp)) rfl rfl (Nat.le_of_ble_eq_true rfl) d_Mo_readNext_106 ?_
          rintro v106 h cq nq ⟨S106, hR, hX106, rfl, rfl, hE106, rfl⟩
          replace hE106 := Eq.symm hE106
          subst hE106
          replace hX := hX.tr hX106
          refine x_callV (As := [_]) (k := k_MarkerTextModel) rfl xcv_Mo_158_Mo (Or.inl hR.1) (RM.ap hR (r_meaningY hc hwl)) rfl rfl (Nat.le_of_ble_eq_true rfl) d_Mo_readNext_109 ?_
          rintro v109 h cq nq ⟨S109, hR, hX109, rfl, rfl, hE109, rfl⟩
          replace hE109 := Eq.symm hE109
          subst hE109
          replace hX := hX.tr hX109
          refine x_goto (tgt := 116) d_Mo_readNext_112 (by decide) ?_
          refine x_istore_n (L' := [_, _, _]) d_Mo_readNext_116 rfl rfl ?_
          refine x_iload_n d_Mo_readNext_117 rfl ?_
          refine x_iconst (v := zI 2) d_Mo_readNext_118 (by decide) ?_
          refine z_icmp_eq (tgt := 137) d_Mo_readNext_119 (by decide) (by omega) (by omega) (fun hq => by omega) (fun _ => ?_)
          refine x_iload_n d_Mo_readNext_122 rfl ?_
          refine x_iconst (v := zI 3) d_Mo_readNext_123 (by decide) ?_
          refine z_icmp_eq (tgt := 137) d_Mo_readNext_124 (by decide) (by omega) (by omega) (fun _ => ?_) (fun hq => by omega)
          exact lp137 _ _ 2 [2, 3] (by omega) (Or.inr ⟨em, rfl, rfl, hor⟩) (by omega) P.length S P Ds (Nat.le_refl _) hX0 fX.r0 hlk rfl _ hR hX
        · have em3 : ¬ mng Ns (wrd t p) = 3 := fun z => hor (m3.mp z)
          refine x_aload_n d_Mo_readNext_0 rfl rfl ?_
          refine x_callV (As := []) (k := k_MarkerTextModel) rfl xcv_Mo_228_Mo (Or.inl hR.1) (RM.ap hR (r_nowX hc h27)) rfl rfl (Nat.le_of_ble_eq_true rfl) d_Mo_readNext_1 ?_
          rintro v1 h cq nq ⟨S1, hR, hX1, rfl, rfl, hE1, rfl⟩
          replace hE1 := Eq.symm hE1
          subst hE1
          replace hX := hX.tr hX1
          refine x_bipush (v := zI 41) d_Mo_readNext_4 (by decide) ?_
          refine z_icmp_ne (tgt := 86) d_Mo_readNext_6 (by decide) (by omega) (by omega) (fun _ => ?_) (fun hq => by omega)
          refine x_aload_n d_Mo_readNext_86 rfl rfl ?_
          refine x_aload_n d_Mo_readNext_87 rfl rfl ?_
          refine x_get xf_Mo_193_Mo (Or.inl hR.1) (v := .int (zI (S.1 27))) rfl d_Mo_readNext_88 ?_
          have hb88 : inR (S.1 27) := hR.2.2.2 27
          rw [h27]
          refine x_callV (As := [_]) (k := k_MarkerTextModel) rfl xcv_Mo_241_Mo (Or.inl hR.1) (RM.ap hR (r_lettersX (by omega) hc hp)) rfl rfl (Nat.le_of_ble_eq_true rfl) d_Mo_readNext_91 ?_
          rintro v91 h cq nq ⟨S91, hR, hX91, rfl, rfl, hE91, rfl⟩
          replace hE91 := Eq.symm hE91
          subst hE91
          replace hX := hX.tr hX91
          refine x_istore_n (L' := [_, _, _]) d_Mo_readNext_94 rfl rfl ?_
          refine x_iload_n d_Mo_readNext_95 rfl ?_
          refine z_if_le (tgt := 115) d_Mo_readNext_96 (by decide) (by omega) (fun hq => by omega) (fun _ => ?_)
          refine x_aload_n d_Mo_readNext_99 rfl rfl ?_
          refine x_aload_n d_Mo_readNext_100 rfl rfl ?_
          refine x_aload_n d_Mo_readNext_101 rfl rfl ?_
          refine x_get xf_Mo_193_Mo (Or.inl hR.1) (v := .int (zI (S.1 27))) rfl d_Mo_readNext_102 ?_
          have hb102 : inR (S.1 27) := hR.2.2.2 27
          refine x_iload_n d_Mo_readNext_105 rfl ?_
          rw [h27]
          refine x_callV (As := [_, _]) (k := k_MarkerTextModel) rfl xcv_Mo_154_Mo (Or.inl hR.1) (RM.ap hR (r_wordY hc hp)) rfl rfl (Nat.le_of_ble_eq_true rfl) d_Mo_readNext_106 ?_
          rintro v106 h cq nq ⟨S106, hR, hX106, rfl, rfl, hE106, rfl⟩
          replace hE106 := Eq.symm hE106
          subst hE106
          replace hX := hX.tr hX106
          refine x_callV (As := [_]) (k := k_MarkerTextModel) rfl xcv_Mo_158_Mo (Or.inl hR.1) (RM.ap hR (r_meaningY hc hwl)) rfl rfl (Nat.le_of_ble_eq_true rfl) d_Mo_readNext_109 ?_
          rintro v109 h cq nq ⟨S109, hR, hX109, rfl, rfl, hE109, rfl⟩
          replace hE109 := Eq.symm hE109
          subst hE109
          replace hX := hX.tr hX109
          refine x_goto (tgt := 116) d_Mo_readNext_112 (by decide) ?_
          refine x_istore_n (L' := [_, _, _]) d_Mo_readNext_116 rfl rfl ?_
          refine x_iload_n d_Mo_readNext_117 rfl ?_
          refine x_iconst (v := zI 2) d_Mo_readNext_118 (by decide) ?_
          refine z_icmp_eq (tgt := 137) d_Mo_readNext_119 (by decide) (by omega) (by omega) (fun hq => by omega) (fun _ => ?_)
          refine x_iload_n d_Mo_readNext_122 rfl ?_
          refine x_iconst (v := zI 3) d_Mo_readNext_123 (by decide) ?_
          refine z_icmp_eq (tgt := 137) d_Mo_readNext_124 (by decide) (by omega) (by omega) (fun hq => by omega) (fun _ => ?_)
          refine x_aload_n d_Mo_readNext_127 rfl rfl ?_
          refine x_aload_n d_Mo_readNext_128 rfl rfl ?_
          refine x_get xf_Mo_193_Mo (Or.inl hR.1) (v := .int (zI (S.1 27))) rfl d_Mo_readNext_129 ?_
          have hb129 : inR (S.1 27) := hR.2.2.2 27
          refine x_callV (As := [_]) (k := k_MarkerTextModel) rfl xcv_Mo_218_Mo (Or.inl hR.1) (RM.ap hR (r_fault (by omega))) rfl rfl (Nat.le_of_ble_eq_true rfl) d_Mo_readNext_132 ?_
          rintro v132 h cq nq ⟨S132, hR, hX132, rfl, rfl, a132, rfl, rfl, ha132⟩
          replace hX := hX.tr hX132
          refine x_iconst (v := zI 0) d_Mo_readNext_135 (by decide) ?_
          refine x_zret d_Mo_readNext_136 rfl (z_nb (by omega)) ?_
          obtain ⟨q1, q2⟩ := hfl S a132 fX.r0 h27 ((flt ha132 h29).trans h27)
          exact ⟨_, hR, hX, rfl, rfl, 0, rfl, q2, Or.inr (Or.inr (Or.inr ⟨h41, hand, hor, rfl, q1⟩))⟩
end RH10
