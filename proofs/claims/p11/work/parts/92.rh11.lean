section

end
section RH11
variable {l : Launch} {G : XG} {h : XH} {c n d : Nat} {o : Nat} {rf : Nat → Nat} {S : MS}
/-- how read() ends, in full -/
def reX (t : List Nat) (Ns : List NmT) (S : MS) : Option Value → MS → Prop := fun v S' => v = none ∧ fX S S' ∧ ((∃ a, rW t Ns = (a, none) ∧ S'.1 29 = (a : Nat)) ∨ ∃ a D ts p tc, rW t Ns = (a, some (D, ts)) ∧ rdX t Ns S' [] [D] p tc ts)
theorem rdX.skip {t : List Nat} {Ns : List NmT} {P : List Int} {Ds : List Den} {p tc : Nat} {ts : List TsT} (hX : rdX t Ns S P Ds p tc ts) : rdX t Ns (sp S 27 (skp t p : Nat)) P Ds (skp t p) tc ts ∧ fX S (sp S 27 (skp t p : Nat)) := by
  obtain ⟨hc, ⟨h27, hp⟩, h29, R, w, dn, tx, hS, hsl, hDs, htc, hts⟩ := hX
  have hs2 := hc.1.1
  have h1 := skp_le hp
  have h2 : p ≤ skp t p := scn_ge
  have hsm : rSm S (sp S 27 (skp t p : Nat)) [27] [] [] := rSm.r0.sp (by decide)
  exact ⟨⟨hc.sm hsm (by decide) (by decide), ⟨rfl, h1⟩, h29, R, w, dn, tx, rd_at hS hsm (by decide) (by decide) (by show S.1 27 ≤ ((skp t p : Nat) : Int); omega) (by show ((skp t p : Nat) : Int) ≤ S.1 2 + 1; omega), hsl.sm hsm (by decide) (by decide) (by decide), hDs, htc, hts⟩, fX.sm hsm (by decide) (by decide) (by decide) (by decide) (by decide) (by decide)⟩
theorem rdX_0 {t : List Nat} {Ns : List NmT} (hc : cx t Ns S) (hs : 0 ≤ S.1 28 ∧ S.1 28 ≤ 8) (l15 : (S.2.1 15).length = 9) (l21 : (S.2.1 21).length = 9) (l26 : (S.2.1 26).length = 9) : rdX t Ns (rd0 S) [] [] 0 0 [] ∧ fX S (rd0 S) := by
  have hz := hc.sz
  have hn := hc.2.2.2.2
  have hsm : rSm S (rd0 S) rtJ [15, 21, 26] [] := (((((((rSm.r0.sp (by decide)).sp (by decide)).sp (by decide)).sp (by decide)).sp (by decide)).sa (by decide)).sa (by decide)).sa (by decide)
  have hI := RI_0 hz hn hs l15 l21 l26
  have g15 : gd ((rd0 S).2.1 15) (S.1 28) = 0 := by
    show gd (se (S.2.1 15) (S.1 28) 0) (S.1 28) = 0
    rw [gd_se_of l15 (by omega) (by omega) (by omega), if_pos rfl]
  have g21 : gd ((rd0 S).2.1 21) (S.1 28) = 0 := by
    show gd (se (S.2.1 21) (S.1 28) 0) (S.1 28) = 0
    rw [gd_se_of l21 (by omega) (by omega) (by omega), if_pos rfl]
  have g26 : gd ((rd0 S).2.1 26) (S.1 28) = 0 := by
    show gd (se (S.2.1 26) (S.1 28) 0) (S.1 28) = 0
    rw [gd_se_of l26 (by omega) (by omega) (by omega), if_pos rfl]
  have hok : rdOk (rd0 S) [] [] (fun _ => 1) := by
    have e28 : (rd0 S).1 28 = S.1 28 := rfl
    have e27 : (rd0 S).1 27 = 0 := rfl
    have e32 : (rd0 S).1 32 = 0 := rfl
    have e33 : (rd0 S).1 33 = 0 := rfl
    have e35 : (rd0 S).1 35 = 0 := rfl
    unfold rdOk
    rw [e28, e27, e32, e33, e35, g15, g21, g26]
    exact ⟨hz, hn, hs, ⟨by omega, by show 0 ≤ S.1 2 + 1; have := hz.1; omega⟩, ⟨rfl, trivial, fun x hx => (by cases hx)⟩, ⟨rfl, by decide⟩, ⟨rfl, trivial, fun x hx => (by cases hx)⟩, ⟨by decide, by decide⟩, ⟨by decide, by decide, by decide, by decide, by decide, by decide, fun m h1 h2 => (by omega), fun m h1 h2 => (by omega), fun m h1 h2 => (by omega), by show (0 : Int) ≤ 0; decide⟩, by decide, by decide, by decide⟩
  have g15' : gd ((rd0 S).2.1 15) ((rd0 S).1 28) = 0 := g15
  have g21' : gd ((rd0 S).2.1 21) ((rd0 S).1 28) = 0 := g21
  have g26' : gd ((rd0 S).2.1 26) ((rd0 S).1 28) = 0 := g26
  refine ⟨⟨hc.sm hsm (by decide) (by decide), ⟨rfl, Nat.zero_le _⟩, rfl, [], fun _ => 1, fun _ => dCon true, fun _ => none, hok, ⟨⟨hs, by rw [g15']; decide, by rw [g21']; decide, by rw [g26']; decide⟩, fun m h1 h2 => ?_, fun q h1 h2 => ?_, fun q q' h1 h3 h2 => ?_⟩, rfl, g21, rfl⟩, ⟨hI.1, aOX.of hI.2.1 hsm (by decide) (by decide)⟩⟩
  · rw [g15'] at h2
    replace h1 : 128 * S.1 28 ≤ m := h1
    replace h2 : m < 128 * S.1 28 + 0 := h2
    omega
  · rw [g21'] at h2
    replace h1 : 40 * S.1 28 ≤ q := h1
    replace h2 : q < 40 * S.1 28 + 0 := h2
    omega
  · rw [g21'] at h2
    replace h1 : 40 * S.1 28 ≤ q := h1
    replace h2 : q' < 40 * S.1 28 + 0 := h2
    omega
set_option maxHeartbeats 2000000 in
theorem r_readX (hd : 7 ≤ d) {t : List Nat} {Ns : List NmT} (hc : cx t Ns S) (hs : 0 ≤ S.1 28 ∧ S.1 28 ≤ 8) : RM l G d M_Mo_read [.ref o] o rf S (reX t Ns S) := by
  obtain ⟨d, rfl⟩ : ∃ q, d = q + 1 := ⟨d - 1, by omega⟩
  intro H0 c n hR
  refine XM.of (by decide +kernel) (Nat.le_of_ble_eq_true rfl) ?_
  have hX : xonly H0 H0 RKs := xonly.rf
  have l15 : (S.2.1 15).length = 9 := hR.len 15 (by decide)
  have l21 : (S.2.1 21).length = 9 := hR.len 21 (by decide)
  have l26 : (S.2.1 26).length = 9 := hR.len 26 (by decide)
  have hs2 := hc.1.1
  have hl := hc.2.1.2
  have f2 : ∀ S1, fX S S1 → S1.1 2 = S.1 2 := fun S1 hf => hf.1.1 2 (by decide)
  -- where something is wrong
  have w61 : ∀ (S1 : MS) (fi : Int) (w2 : Option Value) (a : Nat), rW t Ns = (a, none) → (fi = 0 ∨ fi = 1) → fX S S1 → wrg S S1 a → RX l G M_Mo_read (d + 1) 61 [some (.ref o), some (.int (zI fi)), w2] [] H0 o rf c n S1 (reX t Ns S) := by
    intro S1 fi w2 a hr hfi hf hw h hR hX
    obtain ⟨q1, q2, q3⟩ := hw
    have hz2 := f2 S1 hf
    refine x_aload_n d_Mo_read_61 rfl rfl ?_
    refine x_get xf_Mo_190_Mo (Or.inl hR.1) (v := .int (zI (S1.1 29))) rfl d_Mo_read_62 ?_
    have hb62 : inR (S1.1 29) := hR.2.2.2 29
    refine z_if_ge (tgt := 135) d_Mo_read_65 (by decide) (by omega) (fun _ => ?_) (fun hq => by omega)
    refine x_aload_n d_Mo_read_135 rfl rfl ?_
    refine x_get xf_Mo_190_Mo (Or.inl hR.1) (v := .int (zI (S1.1 29))) rfl d_Mo_read_136 ?_
    have hb136 : inR (S1.1 29) := hR.2.2.2 29
    refine z_if_ge (tgt := 165) d_Mo_read_139 (by decide) (by omega) (fun _ => ?_) (fun hq => by omega)
    refine x_aload_n d_Mo_read_165 rfl rfl ?_
    refine x_get xf_Mo_199_Mo (Or.inl hR.1) (v := .int (zI (S1.1 32))) rfl d_Mo_read_166 ?_
    have hb166 : inR (S1.1 32) := hR.2.2.2 32
    refine z_if_le (tgt := 180) d_Mo_read_169 (by decide) (by omega) (fun hc169 => ?_) (fun hc169 => ?_)
    · skip
      refine x_vret d_Mo_read_180 rfl ?_
      first | exact ⟨_, hR, hX, rfl, rfl, rfl, hf.tr (fX.sm ((rSm.r0 (js := [29]) (is := []) (ls := [])).sp (j := 29) (z := a177) (by decide)) (by decide) (by decide) (by decide) (by decide) (by decide) (by decide)), Or.inl ⟨a, hr, by show a177 = _; omega⟩⟩ | exact ⟨_, hR, hX, rfl, rfl, rfl, hf, Or.inl ⟨a, hr, q1⟩⟩
    · refine x_aload_n d_Mo_read_172 rfl rfl ?_
      refine x_aload_n d_Mo_read_173 rfl rfl ?_
      refine x_get xf_Mo_124_Mo (Or.inl hR.1) (v := .int (zI (S1.1 2))) rfl d_Mo_read_174 ?_
      have hb174 : inR (S1.1 2) := hR.2.2.2 2
      refine x_callV (As := [_]) (k := k_MarkerTextModel) rfl xcv_Mo_218_Mo (Or.inl hR.1) (RM.ap hR (r_fault (by omega))) rfl rfl (Nat.le_of_ble_eq_true rfl) d_Mo_read_177 ?_
      rintro v177 h cq nq ⟨S177, hR, hX177, rfl, rfl, a177, rfl, rfl, ha177⟩
      replace hX := hX.tr hX177
      skip
      refine x_vret d_Mo_read_180 rfl ?_
      first | exact ⟨_, hR, hX, rfl, rfl, rfl, hf.tr (fX.sm ((rSm.r0 (js := [29]) (is := []) (ls := [])).sp (j := 29) (z := a177) (by decide)) (by decide) (by decide) (by decide) (by decide) (by decide) (by decide)), Or.inl ⟨a, hr, by show a177 = _; omega⟩⟩ | exact ⟨_, hR, hX, rfl, rfl, rfl, hf, Or.inl ⟨a, hr, q1⟩⟩
  have w128 : ∀ (S4 : MS) (fi : Int) (w2 : Option Value) (a : Nat), rW t Ns = (a, none) → (fi = 0 ∨ fi = 1) → fX S S4 → wrg S S4 a → RX l G M_Mo_read (d + 1) 128 [some (.ref o), some (.int (zI fi)), w2] [] H0 o rf c n S4 (reX t Ns S) := by
    intro S4 fi w2 a hr hfi hf hw h hR hX
    obtain ⟨q1, q2, q3⟩ := hw
    have hz4 : szOk S4 := (hf.cx hc).sz
    have hz2 := f2 S4 hf
    refine x_aload_n d_Mo_read_128 rfl rfl ?_
    refine x_callV (As := []) (k := k_MarkerTextModel) rfl xcv_Mo_225_Mo (Or.inl hR.1) (RM.ap hR (r_skip q2 hz4)) rfl rfl (Nat.le_of_ble_eq_true rfl) d_Mo_read_129 ?_
    rintro v129 h cq nq ⟨S129, hR, hX129, rfl, rfl, a129, rfl, rfl, ha129, hb129, hc129⟩
    replace hX := hX.tr hX129
    refine x_goto (tgt := 61) d_Mo_read_132 (by decide) ?_
    exact w61 (sp S4 27 a129) fi w2 a hr hfi (hf.tr (fX.sm ((rSm.r0 (js := [27]) (is := []) (ls := [])).sp (j := 27) (z := a129) (by decide)) (by decide) (by decide) (by decide) (by decide) (by decide) (by decide))) ⟨q1, by show 0 ≤ a129; omega, by show a129 ≤ S.1 2 + 1; omega⟩ _ hR hX
  -- a state from which it goes on
  have Gd0 : ∃ Gd : Int → List Int → List Den → Nat → Nat → List TsT → Prop, ∀ fi P Ds p tc ts, Gd fi P Ds p tc ts ↔ ∀ (S1 : MS) (w2 : Option Value), fX S S1 → rdX t Ns S1 P Ds (skp t p) tc ts → RX l G M_Mo_read (d + 1) 61 [some (.ref o), some (.int (zI fi)), w2] [] H0 o rf c n S1 (reX t Ns S) := ⟨_, fun _ _ _ _ _ _ => Iff.rfl⟩
  obtain ⟨Gd, hGd⟩ := Gd0
  have g128 : ∀ (S4 : MS) (fi : Int) (w2 : Option Value) (P : List Int) (Ds : List Den) (p tc : Nat) (ts : List TsT), fX S S4 → rdX t Ns S4 P Ds p tc ts → Gd fi P Ds p tc ts → RX l G M_Mo_read (d + 1) 128 [some (.ref o), some (.int (zI fi)), w2] [] H0 o rf c n S4 (reX t Ns S) := by
    intro S4 fi w2 P Ds p tc ts hf hX4 hg h hR hX
    obtain ⟨hX5, hf5⟩ := hX4.skip
    refine x_aload_n d_Mo_read_128 rfl rfl ?_
    refine x_callV (As := []) (k := k_MarkerTextModel) rfl xcv_Mo_225_Mo (Or.inl hR.1) (RM.ap hR (r_skipX hX4.1 hX4.2.1.1 hX4.2.1.2)) rfl rfl (Nat.le_of_ble_eq_true rfl) d_Mo_read_129 ?_
    rintro v129 h cq nq ⟨S129, hR, hX129, rfl, rfl, rfl, rfl⟩
    replace hX := hX.tr hX129
    refine x_goto (tgt := 61) d_Mo_read_132 (by decide) ?_
    exact (hGd fi P Ds p tc ts).mp hg _ w2 (hf.tr hf5) hX5 _ hR hX
  -- a TEST must come
  have st1 : ∀ (S1 : MS) (w2 : Option Value) (P : List Int) (Ds : List Den) (p tc : Nat) (ts : List TsT), fX S S1 → rdX t Ns S1 P Ds p tc ts → S1.1 33 ≤ 12 → (∀ (S' : MS) (fi : Int) (w2' : Option Value), rfX t Ns S1 P Ds p tc ts none S' → ((fi = 1 ∧ gd (S'.2.1 21) (S'.1 28) = (tc : Nat)) ∨ (fi = 0 ∧ ¬ gd (S'.2.1 21) (S'.1 28) = (tc : Nat))) → RX l G M_Mo_read (d + 1) 128 [some (.ref o), some (.int (zI fi)), w2'] [] H0 o rf c n S' (reX t Ns S)) → RX l G M_Mo_read (d + 1) 61 [some (.ref o), some (.int (zI 1)), w2] [] H0 o rf c n S1 (reX t Ns S) := by
    intro S1 w2 P Ds p tc ts hf hX1 h33 nx h hR hX
    obtain ⟨⟨a28, b28⟩, ht21⟩ := hX1.s28
    have hw1 := hX1.2.2.1
    refine x_aload_n d_Mo_read_61 rfl rfl ?_
    refine x_get xf_Mo_190_Mo (Or.inl hR.1) (v := .int (zI (S1.1 29))) rfl d_Mo_read_62 ?_
    have hb62 : inR (S1.1 29) := hR.2.2.2 29
    refine z_if_ge (tgt := 135) d_Mo_read_65 (by decide) (by omega) (fun hq => by omega) (fun _ => ?_)
    refine x_iload_n d_Mo_read_68 rfl ?_
    refine z_if_ne (tgt := 83) d_Mo_read_69 (by decide) (by omega) (fun _ => ?_) (fun hq => by omega)
    refine x_iload_n d_Mo_read_83 rfl ?_
    refine z_if_eq (tgt := 123) d_Mo_read_84 (by decide) (by omega) (fun hq => by omega) (fun _ => ?_)
    refine x_aload_n d_Mo_read_87 rfl rfl ?_
    refine x_get xf_Mo_63_Mo (Or.inl hR.1) (v := .ref (rf 21)) rfl d_Mo_read_88 ?_
    refine x_aload_n d_Mo_read_91 rfl rfl ?_
    refine x_get xf_Mo_196_Mo (Or.inl hR.1) (v := .int (zI (S1.1 28))) rfl d_Mo_read_92 ?_
    have hb92 : inR (S1.1 28) := hR.2.2.2 28
    refine r_iald (i := 21) (us := (S1.2.1 21)) rfl (by decide) hR rfl (by omega) (by show S1.1 28 < 9; omega) d_Mo_read_95 (fun hr95 => ?_)
    refine x_istore_n (L' := [_, _, _]) d_Mo_read_96 rfl rfl ?_
    refine x_aload_n d_Mo_read_97 rfl rfl ?_
    refine x_callV (As := []) (k := k_MarkerTextModel) rfl xcv_Mo_261_Mo (Or.inl hR.1) (RM.ap hR (r_readFirstX (by omega) hX1 h33)) rfl rfl (Nat.le_of_ble_eq_true rfl) d_Mo_read_98 ?_
    rintro v98 h cq nq ⟨S98, hR, hX98, rfl, rfl, rfl, hq98⟩
    replace hX := hX.tr hX98
    refine x_aload_n d_Mo_read_101 rfl rfl ?_
    refine x_get xf_Mo_63_Mo (Or.inl hR.1) (v := .ref (rf 21)) rfl d_Mo_read_102 ?_
    refine x_aload_n d_Mo_read_105 rfl rfl ?_
    refine x_get xf_Mo_196_Mo (Or.inl hR.1) (v := .int (zI (S98.1 28))) rfl d_Mo_read_106 ?_
    have hb106 : inR (S98.1 28) := hR.2.2.2 28
    have f28b : S98.1 28 = S1.1 28 := hq98.1.1.1 28 (by decide)
    refine r_iald (i := 21) (us := (S98.2.1 21)) rfl (by decide) hR rfl (by omega) (by show S98.1 28 < 9; omega) d_Mo_read_109 (fun hr109 => ?_)
    refine x_iload_n d_Mo_read_110 rfl ?_
    refine z_icmp_ne (tgt := 118) d_Mo_read_111 (by decide) (by omega) (by omega) (fun hc111 => ?_) (fun hc111 => ?_)
    · refine x_iconst (v := zI 0) d_Mo_read_118 (by decide) ?_
      refine x_istore_n (L' := [_, _, _]) d_Mo_read_119 rfl rfl ?_
      refine x_goto (tgt := 128) d_Mo_read_120 (by decide) ?_
      first | exact nx S98 1 _ ⟨rfl, hq98⟩ (Or.inl ⟨rfl, by omega⟩) _ hR hX | exact nx S98 0 _ ⟨rfl, hq98⟩ (Or.inr ⟨rfl, by omega⟩) _ hR hX
    · refine x_iconst (v := zI 1) d_Mo_read_114 (by decide) ?_
      refine x_goto (tgt := 119) d_Mo_read_115 (by decide) ?_
      refine x_istore_n (L' := [_, _, _]) d_Mo_read_119 rfl rfl ?_
      refine x_goto (tgt := 128) d_Mo_read_120 (by decide) ?_
      first | exact nx S98 1 _ ⟨rfl, hq98⟩ (Or.inl ⟨rfl, by omega⟩) _ hR hX | exact nx S98 0 _ ⟨rfl, hq98⟩ (Or.inr ⟨rfl, by omega⟩) _ hR hX
  -- something else must come
  have st0 : ∀ (S1 : MS) (w2 : Option Value) (P : List Int) (Ds : List Den) (p tc : Nat) (ts : List TsT), fX S S1 → rdX t Ns S1 P Ds p tc ts → lnk P Ds 1 → p < t.length → (∀ (S' : MS) (r : Int), rnX t Ns S1 P Ds p tc ts (some (.int (zI r))) S' → RX l G M_Mo_read (d + 1) 128 [some (.ref o), some (.int (zI r)), w2] [] H0 o rf c n S' (reX t Ns S)) → RX l G M_Mo_read (d + 1) 61 [some (.ref o), some (.int (zI 0)), w2] [] H0 o rf c n S1 (reX t Ns S) := by
    intro S1 w2 P Ds p tc ts hf hX1 hlk hlt nx h hR hX
    have hw1 := hX1.2.2.1
    have h271 := hX1.2.1.1
    have hz2 := f2 S1 hf
    refine x_aload_n d_Mo_read_61 rfl rfl ?_
    refine x_get xf_Mo_190_Mo (Or.inl hR.1) (v := .int (zI (S1.1 29))) rfl d_Mo_read_62 ?_
    have hb62 : inR (S1.1 29) := hR.2.2.2 29
    refine z_if_ge (tgt := 135) d_Mo_read_65 (by decide) (by omega) (fun hq => by omega) (fun _ => ?_)
    refine x_iload_n d_Mo_read_68 rfl ?_
    refine z_if_ne (tgt := 83) d_Mo_read_69 (by decide) (by omega) (fun hq => by omega) (fun _ => ?_)
    refine x_aload_n d_Mo_read_72 rfl rfl ?_
    refine x_get xf_Mo_193_Mo (Or.inl hR.1) (v := .int (zI (S1.1 27))) rfl d_Mo_read_73 ?_
    have hb73 : inR (S1.1 27) := hR.2.2.2 27
    refine x_aload_n d_Mo_read_76 rfl rfl ?_
    refine x_get xf_Mo_124_Mo (Or.inl hR.1) (v := .int (zI (S1.1 2))) rfl d_Mo_read_77 ?_
    have hb77 : inR (S1.1 2) := hR.2.2.2 2
    refine z_icmp_ge (tgt := 135) d_Mo_read_80 (by decide) (by omega) (by omega) (fun hq => by omega) (fun _ => ?_)
    refine x_iload_n d_Mo_read_83 rfl ?_
    refine z_if_eq (tgt := 123) d_Mo_read_84 (by decide) (by omega) (fun _ => ?_) (fun hq => by omega)
    refine x_aload_n d_Mo_read_123 rfl rfl ?_
    refine x_callV (As := []) (k := k_MarkerTextModel) rfl xcv_Mo_264_Mo (Or.inl hR.1) (RM.ap hR (r_readNextX (by omega) hX1 hlk hlt)) rfl rfl (Nat.le_of_ble_eq_true rfl) d_Mo_read_124 ?_
    rintro v124 h cq nq ⟨S124, hR, hX124, rfl, rfl, r124, rfl, hq124⟩
    replace hX := hX.tr hX124
    have hq' : rnX t Ns S1 P Ds p tc ts (some (.int (zI r124))) S124 := ⟨r124, rfl, hq124⟩
    refine x_istore_n (L' := [_, _, _]) d_Mo_read_127 rfl rfl ?_
    exact nx S124 r124 hq' _ hR hX
  -- the end of the text
  have en0 : ∀ (w2 : Option Value) (P : List Int) (Ds : List Den) (p tc : Nat) (ts : List TsT), (((stp [2, 3] P Ds).1 ≠ [] ∧ rW t Ns = (t.length, none)) ∨ ((stp [2, 3] P Ds).1 = [] ∧ ∃ a D, (stp [2, 3] P Ds).2 = [D] ∧ rW t Ns = (a, some (D, ts)))) → ∀ (K : Nat) (S1 : MS) (P1 : List Int) (Ds1 : List Den), P1.length ≤ K → fX S S1 → rdX t Ns S1 P1 Ds1 p tc ts → lnk P1 Ds1 1 → stp [2, 3] P1 Ds1 = stp [2, 3] P Ds → RX l G M_Mo_read (d + 1) 135 [some (.ref o), some (.int (zI 0)), w2] [] H0 o rf c n S1 (reX t Ns S) := by
    intro w2 P Ds p tc ts hfin
    have bd : ∀ (S1 : MS) (P1 : List Int) (Ds1 : List Den), fX S S1 → rdX t Ns S1 P1 Ds1 p tc ts → lnk P1 Ds1 1 → stp [2, 3] P1 Ds1 = stp [2, 3] P Ds → (∀ (S2 : MS) (P2 : List Int) (Ds2 : List Den), P2.length < P1.length → fX S S2 → rdX t Ns S2 P2 Ds2 p tc ts → lnk P2 Ds2 1 → stp [2, 3] P2 Ds2 = stp [2, 3] P Ds → RX l G M_Mo_read (d + 1) 135 [some (.ref o), some (.int (zI 0)), w2] [] H0 o rf c n S2 (reX t Ns S)) → RX l G M_Mo_read (d + 1) 135 [some (.ref o), some (.int (zI 0)), w2] [] H0 o rf c n S1 (reX t Ns S) := by
      intro S1 P1 Ds1 hf1 hX1 hk1 hst1 nx
      obtain ⟨y1, y2, y3⟩ := hX1.pl
      have t2 := hX1.2.2.1
      have hz2 := f2 S1 hf1
      by_cases htop : ∃ k P', (k = 2 ∨ k = 3) ∧ P1 = k :: P'
      · obtain ⟨k, P', hk, rfl⟩ := htop
        obtain ⟨g1, g2⟩ := apD_len hk hk1
        have hst2 : stp [2, 3] P' (apD k Ds1) = stp [2, 3] P Ds := by
          rw [← hst1, stp_in (by rcases hk with rfl | rfl <;> decide)]
        intro h hR hX
        have hap := r_applyX (l := l) (G := G) (o := o) (rf := rf) (d := d) (by omega) hX1 (Or.inr ⟨hk, g1⟩)
        refine x_aload_n d_Mo_read_135 rfl rfl ?_
        refine x_get xf_Mo_190_Mo (Or.inl hR.1) (v := .int (zI (S1.1 29))) rfl d_Mo_read_136 ?_
        have hb136 : inR (S1.1 29) := hR.2.2.2 29
        refine z_if_ge (tgt := 165) d_Mo_read_139 (by decide) (by omega) (fun hq => by omega) (fun _ => ?_)
        refine x_aload_n d_Mo_read_142 rfl rfl ?_
        refine x_iconst (v := zI 2) d_Mo_read_143 (by decide) ?_
        refine x_callV (As := [_]) (k := k_MarkerTextModel) rfl xcv_Mo_212_Mo (Or.inl hR.1) (RM.ap hR (r_isOnTop (by decide) y1 y2 (by omega))) rfl rfl (Nat.le_of_ble_eq_true rfl) d_Mo_read_144 ?_
        rintro v144 h cq nq ⟨S144, hR, hX144, rfl, rfl, hE144, r144, rfl, hr144⟩
        replace hE144 := Eq.symm hE144
        subst hE144
        replace hX := hX.tr hX144
        have hb144 : r144 = 0 ∨ r144 = 1 := by rcases hr144 with ⟨z, -⟩ | ⟨z, -⟩ <;> omega
        refine z_if_ne (tgt := 158) d_Mo_read_147 (by decide) (by omega) (fun hc147 => ?_) (fun hc147 => ?_)
        · refine x_aload_n d_Mo_read_158 rfl rfl ?_
          refine x_callV (As := []) (k := k_MarkerTextModel) rfl xcv_Mo_215_Mo (Or.inl hR.1) (RM.ap hR hap) rfl rfl (Nat.le_of_ble_eq_true rfl) d_Mo_read_159 ?_
          rintro v159 h cq nq ⟨S159, hR, hX159, rfl, rfl, rfl, hD159, hf159, hs159⟩
          replace hX := hX.tr hX159
          refine x_goto (tgt := 135) d_Mo_read_162 (by decide) ?_
          exact nx _ P' (apD k Ds1) (by simp) (hf1.tr hf159) hD159 g2 hst2 _ hR hX
        · refine x_aload_n d_Mo_read_150 rfl rfl ?_
          refine x_iconst (v := zI 3) d_Mo_read_151 (by decide) ?_
          refine x_callV (As := [_]) (k := k_MarkerTextModel) rfl xcv_Mo_212_Mo (Or.inl hR.1) (RM.ap hR (r_isOnTop (by decide) y1 y2 (by omega))) rfl rfl (Nat.le_of_ble_eq_true rfl) d_Mo_read_152 ?_
          rintro v152 h cq nq ⟨S152, hR, hX152, rfl, rfl, hE152, r152, rfl, hr152⟩
          replace hE152 := Eq.symm hE152
          subst hE152
          replace hX := hX.tr hX152
          have hb152 : r152 = 0 ∨ r152 = 1 := by rcases hr152 with ⟨z, -⟩ | ⟨z, -⟩ <;> omega
          refine z_if_eq (tgt := 165) d_Mo_read_155 (by decide) (by omega) (fun hc155 => ?_) (fun hc155 => ?_)
          · exfalso
            rcases hk with rfl | rfl
            · exact onF hr144 hc147 P' rfl
            · exact onF hr152 hc155 P' rfl
          · refine x_aload_n d_Mo_read_158 rfl rfl ?_
            refine x_callV (As := []) (k := k_MarkerTextModel) rfl xcv_Mo_215_Mo (Or.inl hR.1) (RM.ap hR hap) rfl rfl (Nat.le_of_ble_eq_true rfl) d_Mo_read_159 ?_
            rintro v159 h cq nq ⟨S159, hR, hX159, rfl, rfl, rfl, hD159, hf159, hs159⟩
            replace hX := hX.tr hX159
            refine x_goto (tgt := 135) d_Mo_read_162 (by decide) ?_
            exact nx _ P' (apD k Ds1) (by simp) (hf1.tr hf159) hD159 g2 hst2 _ hR hX
      · have hno : ∀ k Q, P1 = k :: Q → k ∉ [(2 : Int), 3] := fun k Q e hm => htop ⟨k, Q, by simpa using hm, e⟩
        have hst2 : stp [2, 3] P Ds = (P1, Ds1) := by rw [← hst1]; exact stp_no hno
        rw [hst2] at hfin
        intro h hR hX
        rcases hfin with ⟨q1, q2⟩ | ⟨q1, a, D, q2, q3⟩
        · have hpl : 0 < P1.length := by
            cases P1 with
            | nil => exact absurd rfl q1
            | cons a r => simp
          refine x_aload_n d_Mo_read_135 rfl rfl ?_
          refine x_get xf_Mo_190_Mo (Or.inl hR.1) (v := .int (zI (S1.1 29))) rfl d_Mo_read_136 ?_
          have hb136 : inR (S1.1 29) := hR.2.2.2 29
          refine z_if_ge (tgt := 165) d_Mo_read_139 (by decide) (by omega) (fun hq => by omega) (fun _ => ?_)
          refine x_aload_n d_Mo_read_142 rfl rfl ?_
          refine x_iconst (v := zI 2) d_Mo_read_143 (by decide) ?_
          refine x_callV (As := [_]) (k := k_MarkerTextModel) rfl xcv_Mo_212_Mo (Or.inl hR.1) (RM.ap hR (r_isOnTop (by decide) y1 y2 (by omega))) rfl rfl (Nat.le_of_ble_eq_true rfl) d_Mo_read_144 ?_
          rintro v144 h cq nq ⟨S144, hR, hX144, rfl, rfl, hE144, r144, rfl, hr144⟩
          replace hE144 := Eq.symm hE144
          subst hE144
          replace hX := hX.tr hX144
          have hr144 : r144 = 0 := hr144.elim (fun q => q.2.elim (fun P' e => absurd ⟨2, P', Or.inl rfl, e⟩ htop)) (fun q => q.1)
          refine z_if_ne (tgt := 158) d_Mo_read_147 (by decide) (by omega) (fun hq => by omega) (fun _ => ?_)
          refine x_aload_n d_Mo_read_150 rfl rfl ?_
          refine x_iconst (v := zI 3) d_Mo_read_151 (by decide) ?_
          refine x_callV (As := [_]) (k := k_MarkerTextModel) rfl xcv_Mo_212_Mo (Or.inl hR.1) (RM.ap hR (r_isOnTop (by decide) y1 y2 (by omega))) rfl rfl (Nat.le_of_ble_eq_true rfl) d_Mo_read_152 ?_
          rintro v152 h cq nq ⟨S152, hR, hX152, rfl, rfl, hE152, r152, rfl, hr152⟩
          replace hE152 := Eq.symm hE152
          subst hE152
          replace hX := hX.tr hX152
          have hr152 : r152 = 0 := hr152.elim (fun q => q.2.elim (fun P' e => absurd ⟨3, P', Or.inr rfl, e⟩ htop)) (fun q => q.1)
          refine z_if_eq (tgt := 165) d_Mo_read_155 (by decide) (by omega) (fun _ => ?_) (fun hq => by omega)
          refine x_aload_n d_Mo_read_165 rfl rfl ?_
          refine x_get xf_Mo_199_Mo (Or.inl hR.1) (v := .int (zI (S1.1 32))) rfl d_Mo_read_166 ?_
          have hb166 : inR (S1.1 32) := hR.2.2.2 32
          refine z_if_le (tgt := 180) d_Mo_read_169 (by decide) (by omega) (fun hq => by omega) (fun _ => ?_)
          refine x_aload_n d_Mo_read_172 rfl rfl ?_
          refine x_aload_n d_Mo_read_173 rfl rfl ?_
          refine x_get xf_Mo_124_Mo (Or.inl hR.1) (v := .int (zI (S1.1 2))) rfl d_Mo_read_174 ?_
          have hb174 : inR (S1.1 2) := hR.2.2.2 2
          refine x_callV (As := [_]) (k := k_MarkerTextModel) rfl xcv_Mo_218_Mo (Or.inl hR.1) (RM.ap hR (r_fault (by omega))) rfl rfl (Nat.le_of_ble_eq_true rfl) d_Mo_read_177 ?_
          rintro v177 h cq nq ⟨S177, hR, hX177, rfl, rfl, a177, rfl, rfl, ha177⟩
          replace hX := hX.tr hX177
          refine x_vret d_Mo_read_180 rfl ?_
          exact ⟨_, hR, hX, rfl, rfl, rfl, hf1.tr (fX.sm ((rSm.r0 (js := [29]) (is := []) (ls := [])).sp (j := 29) (z := a177) (by decide)) (by decide) (by decide) (by decide) (by decide) (by decide) (by decide)), Or.inl ⟨t.length, q2, by show a177 = _; have := flt ha177 t2; omega⟩⟩
        · replace q1 : P1 = [] := q1
          replace q2 : Ds1 = [D] := q2
          subst q1 q2
          refine x_aload_n d_Mo_read_135 rfl rfl ?_
          refine x_get xf_Mo_190_Mo (Or.inl hR.1) (v := .int (zI (S1.1 29))) rfl d_Mo_read_136 ?_
          have hb136 : inR (S1.1 29) := hR.2.2.2 29
          refine z_if_ge (tgt := 165) d_Mo_read_139 (by decide) (by omega) (fun hq => by omega) (fun _ => ?_)
          refine x_aload_n d_Mo_read_142 rfl rfl ?_
          refine x_iconst (v := zI 2) d_Mo_read_143 (by decide) ?_
          refine x_callV (As := [_]) (k := k_MarkerTextModel) rfl xcv_Mo_212_Mo (Or.inl hR.1) (RM.ap hR (r_isOnTop (by decide) y1 y2 (by omega))) rfl rfl (Nat.le_of_ble_eq_true rfl) d_Mo_read_144 ?_
          rintro v144 h cq nq ⟨S144, hR, hX144, rfl, rfl, hE144, r144, rfl, hr144⟩
          replace hE144 := Eq.symm hE144
          subst hE144
          replace hX := hX.tr hX144
          have hr144 : r144 = 0 := hr144.elim (fun q => q.2.elim (fun P' e => absurd ⟨2, P', Or.inl rfl, e⟩ htop)) (fun q => q.1)
          refine z_if_ne (tgt := 158) d_Mo_read_147 (by decide) (by omega) (fun hq => by omega) (fun _ => ?_)
          refine x_aload_n d_Mo_read_150 rfl rfl ?_
          refine x_iconst (v := zI 3) d_Mo_read_151 (by decide) ?_
          refine x_callV (As := [_]) (k := k_MarkerTextModel) rfl xcv_Mo_212_Mo (Or.inl hR.1) (RM.ap hR (r_isOnTop (by decide) y1 y2 (by omega))) rfl rfl (Nat.le_of_ble_eq_true rfl) d_Mo_read_152 ?_
          rintro v152 h cq nq ⟨S152, hR, hX152, rfl, rfl, hE152, r152, rfl, hr152⟩
          replace hE152 := Eq.symm hE152
          subst hE152
          replace hX := hX.tr hX152
          have hr152 : r152 = 0 := hr152.elim (fun q => q.2.elim (fun P' e => absurd ⟨3, P', Or.inr rfl, e⟩ htop)) (fun q => q.1)
          refine z_if_eq (tgt := 165) d_Mo_read_155 (by decide) (by omega) (fun _ => ?_) (fun hq => by omega)
          refine x_aload_n d_Mo_read_165 rfl rfl ?_
          refine x_get xf_Mo_199_Mo (Or.inl hR.1) (v := .int (zI (S1.1 32))) rfl d_Mo_read_166 ?_
          have hb166 : inR (S1.1 32) := hR.2.2.2 32
          have hy0 : S1.1 32 = 0 := y1
          refine z_if_le (tgt := 180) d_Mo_read_169 (by decide) (by omega) (fun _ => ?_) (fun hq => by omega)
          refine x_vret d_Mo_read_180 rfl ?_
          exact ⟨_, hR, hX, rfl, rfl, rfl, hf1, Or.inr ⟨a, D, ts, p, tc, q3, hX1⟩⟩
    intro K
    induction K with
    | zero => intro S1 P1 Ds1 hK a1 a2 a3 a4; exact bd S1 P1 Ds1 a1 a2 a3 a4 (fun S2 P2 Ds2 hl => by omega)
    | succ K ih => intro S1 P1 Ds1 hK a1 a2 a3 a4; exact bd S1 P1 Ds1 a1 a2 a3 a4 (fun S2 P2 Ds2 hl b1 b2 b3 b4 => ih S2 P2 Ds2 (by omega) b1 b2 b3 b4)
  have en61 : ∀ (S1 : MS) (w2 : Option Value) (P : List Int) (Ds : List Den) (p tc : Nat) (ts : List TsT), fX S S1 → rdX t Ns S1 P Ds p tc ts → lnk P Ds 1 → p = t.length → (((stp [2, 3] P Ds).1 ≠ [] ∧ rW t Ns = (t.length, none)) ∨ ((stp [2, 3] P Ds).1 = [] ∧ ∃ a D, (stp [2, 3] P Ds).2 = [D] ∧ rW t Ns = (a, some (D, ts)))) → RX l G M_Mo_read (d + 1) 61 [some (.ref o), some (.int (zI 0)), w2] [] H0 o rf c n S1 (reX t Ns S) := by
    intro S1 w2 P Ds p tc ts hf hX1 hlk hpe hfin h hR hX
    have hw1 := hX1.2.2.1
    have h271 := hX1.2.1.1
    have hz2 := f2 S1 hf
    refine x_aload_n d_Mo_read_61 rfl rfl ?_
    refine x_get xf_Mo_190_Mo (Or.inl hR.1) (v := .int (zI (S1.1 29))) rfl d_Mo_read_62 ?_
    have hb62 : inR (S1.1 29) := hR.2.2.2 29
    refine z_if_ge (tgt := 135) d_Mo_read_65 (by decide) (by omega) (fun hq => by omega) (fun _ => ?_)
    refine x_iload_n d_Mo_read_68 rfl ?_
    refine z_if_ne (tgt := 83) d_Mo_read_69 (by decide) (by omega) (fun hq => by omega) (fun _ => ?_)
    refine x_aload_n d_Mo_read_72 rfl rfl ?_
    refine x_get xf_Mo_193_Mo (Or.inl hR.1) (v := .int (zI (S1.1 27))) rfl d_Mo_read_73 ?_
    have hb73 : inR (S1.1 27) := hR.2.2.2 27
    refine x_aload_n d_Mo_read_76 rfl rfl ?_
    refine x_get xf_Mo_124_Mo (Or.inl hR.1) (v := .int (zI (S1.1 2))) rfl d_Mo_read_77 ?_
    have hb77 : inR (S1.1 2) := hR.2.2.2 2
    refine z_icmp_ge (tgt := 135) d_Mo_read_80 (by decide) (by omega) (by omega) (fun _ => ?_) (fun hq => by omega)
    exact en0 w2 P Ds p tc ts hfin P.length S1 P Ds (Nat.le_refl _) hf hX1 hlk rfl _ hR hX
  have ns28 : ∀ (S1 S' : MS) (P : List Int) (Ds : List Den) (p tc : Nat) (ts : List TsT), rdX t Ns S' P Ds p tc ts → gd (S'.2.1 21) (S'.1 28) = (tc : Nat) := fun S1 S' P Ds p tc ts hq => hq.s28.2
  have rules : rRul t Ns Gd (fun a => rW t Ns = (a, none)) (fun Ds _ ts => ∃ a D, Ds = [D] ∧ rW t Ns = (a, some (D, ts))) := by
    refine ⟨?_, ?_, ?_, ?_, ?_, ?_, ?_, ?_, ?_⟩
    · intro fi P Ds p tc ts hp hg
      rw [hGd] at hg ⊢
      rw [skp_idem hp] at hg
      exact hg
    · intro P Ds p tc ts hp h40
      refine ⟨fun h12 hr => ?_, fun h12 hg => ?_⟩
      · rw [hGd]
        intro S1 w2 hf hX1
        have ho := hX1.op
        refine st1 S1 w2 P Ds (skp t p) tc ts hf hX1 (by omega) (fun S' fi w2' hq hfi => ?_)
        obtain ⟨-, hf', hor⟩ := hq
        rcases hor with ⟨-, ⟨-, hw⟩ | ⟨hno, -⟩⟩ | ⟨hno, -⟩ | ⟨hno, -⟩
        · exact w128 S' fi w2' _ hr (by omega) (hf.tr hf') (by rw [wrg, f2 S1 hf] at hw; exact hw)
        · omega
        · exact absurd h40 hno
        · exact absurd h40 hno
      · rw [hGd]
        intro S1 w2 hf hX1
        have ho := hX1.op
        refine st1 S1 w2 P Ds (skp t p) tc ts hf hX1 (by omega) (fun S' fi w2' hq hfi => ?_)
        obtain ⟨-, hf', hor⟩ := hq
        rcases hor with ⟨-, ⟨hno, -⟩ | ⟨-, hX'⟩⟩ | ⟨hno, -⟩ | ⟨hno, -⟩
        · omega
        · have h21 := hX'.s28.2
          obtain rfl : fi = 1 := by omega
          exact g128 S' 1 w2' _ _ _ _ _ (hf.tr hf') hX' hg
        · exact absurd h40 hno
        · exact absurd h40 hno
    · intro P Ds p tc ts hp hnot
      have hne : wrd t (skp t p) ≠ [] := by rw [hnot]; simp
      have hch := chr_wrd hne
      refine ⟨fun h12 hr => ?_, fun h12 hg => ?_⟩
      · rw [hGd]
        intro S1 w2 hf hX1
        have ho := hX1.op
        refine st1 S1 w2 P Ds (skp t p) tc ts hf hX1 (by omega) (fun S' fi w2' hq hfi => ?_)
        obtain ⟨-, hf', hor⟩ := hq
        rcases hor with ⟨hno, -⟩ | ⟨-, -, ⟨-, hw⟩ | ⟨hno, -⟩⟩ | ⟨-, hno, -⟩
        · omega
        · exact w128 S' fi w2' _ hr (by omega) (hf.tr hf') (by rw [wrg, f2 S1 hf] at hw; exact hw)
        · omega
        · exact absurd hnot hno
      · rw [hGd]
        intro S1 w2 hf hX1
        have ho := hX1.op
        refine st1 S1 w2 P Ds (skp t p) tc ts hf hX1 (by omega) (fun S' fi w2' hq hfi => ?_)
        obtain ⟨-, hf', hor⟩ := hq
        rcases hor with ⟨hno, -⟩ | ⟨-, -, ⟨hno, -⟩ | ⟨-, hX'⟩⟩ | ⟨-, hno, -⟩
        · omega
        · omega
        · have h21 := hX'.s28.2
          obtain rfl : fi = 1 := by omega
          exact g128 S' 1 w2' _ _ _ _ _ (hf.tr hf') hX' hg
        · exact absurd hnot hno
    · intro P Ds p tc ts st' hp h40 hnot h12
      refine ⟨fun hrl hr => ?_, fun D hrl hg => ?_⟩
      · rw [hGd]
        intro S1 w2 hf hX1
        have ho := hX1.op
        refine st1 S1 w2 P Ds (skp t p) tc ts hf hX1 (by omega) (fun S' fi w2' hq hfi => ?_)
        obtain ⟨-, hf', hor⟩ := hq
        rcases hor with ⟨hno, -⟩ | ⟨-, hno, -⟩ | ⟨-, -, ⟨st2, e2, hw⟩ | ⟨st2, D2, e2, -⟩⟩
        · exact absurd hno h40
        · exact absurd hno hnot
        · rw [hrl] at e2
          cases e2
          exact w128 S' fi w2' _ hr (by omega) (hf.tr hf') (by rw [wrg, f2 S1 hf] at hw; exact hw)
        · rw [hrl] at e2
          cases e2
      · rw [hGd]
        intro S1 w2 hf hX1
        have ho := hX1.op
        refine st1 S1 w2 P Ds (skp t p) tc ts hf hX1 (by omega) (fun S' fi w2' hq hfi => ?_)
        obtain ⟨-, hf', hor⟩ := hq
        rcases hor with ⟨hno, -⟩ | ⟨-, hno, -⟩ | ⟨-, -, ⟨st2, e2, hw⟩ | ⟨st2, D2, e2, e3, hX'⟩⟩
        · exact absurd hno h40
        · exact absurd hno hnot
        · rw [hrl] at e2
          cases e2
        · rw [hrl] at e2
          cases e2
          have h21 := hX'.s28.2
          obtain rfl : fi = 0 := by omega
          exact g128 S' 0 w2' _ _ _ _ _ (hf.tr hf') hX' hg
    · intro P Ds p tc ts hp hlk h41
      have hlt : skp t p < t.length := Nat.lt_of_not_le (fun z => by rw [chr_out z] at h41; omega)
      have hnw : wrd t (skp t p) = [] := by
        by_cases hz : wrd t (skp t p) = []
        · exact hz
        · have := chr_wrd hz
          omega
      refine ⟨fun P2 e2 hg => ?_, fun hno hr => ?_⟩
      · rw [hGd]
        intro S1 w2 hf hX1
        refine st0 S1 w2 P Ds (skp t p) tc ts hf hX1 hlk hlt (fun S' r hq => ?_)
        obtain ⟨r', er, hf', hor⟩ := hq
        rcases hor with ⟨-, e0, ⟨P3, e3, hX'⟩ | ⟨hno, -⟩⟩ | ⟨hw, -⟩ | ⟨hw, -⟩ | ⟨hno, -⟩
        · have erz : zI r = zI 0 := by rw [e0] at er; exact Value.int.inj (Option.some.inj er)
          rw [e2] at e3
          cases e3
          rw [erz]
          exact g128 S' 0 w2 _ _ _ _ _ (hf.tr hf') hX' hg
        · exact absurd e2 (hno P2)
        · rw [hnw] at hw; cases hw
        · rw [hnw] at hw; cases hw
        · exact absurd h41 hno
      · rw [hGd]
        intro S1 w2 hf hX1
        refine st0 S1 w2 P Ds (skp t p) tc ts hf hX1 hlk hlt (fun S' r hq => ?_)
        obtain ⟨r', er, hf', hor⟩ := hq
        rcases hor with ⟨-, e0, ⟨P3, e3, -⟩ | ⟨-, hwr⟩⟩ | ⟨hw, -⟩ | ⟨hw, -⟩ | ⟨hno2, -⟩
        · exact absurd e3 (hno P3)
        · have erz : zI r = zI 0 := by rw [e0] at er; exact Value.int.inj (Option.some.inj er)
          rw [erz]
          exact w128 S' 0 w2 _ hr (Or.inl rfl) (hf.tr hf') (by rw [wrg, f2 S1 hf] at hwr; exact hwr)
        · rw [hnw] at hw; cases hw
        · rw [hnw] at hw; cases hw
        · exact absurd h41 hno2
    · intro P Ds p tc ts hp hlk hand hg
      have hne : wrd t (skp t p) ≠ [] := by rw [hand]; simp
      have hch := chr_wrd hne
      have hlt : skp t p < t.length := Nat.lt_of_not_le (fun z => by rw [chr_out z] at hch; omega)
      rw [hGd]
      intro S1 w2 hf hX1
      refine st0 S1 w2 P Ds (skp t p) tc ts hf hX1 hlk hlt (fun S' r hq => ?_)
      obtain ⟨r', er, hf', hor⟩ := hq
      rcases hor with ⟨h41, -⟩ | ⟨-, e1, hX'⟩ | ⟨hw, -⟩ | ⟨-, hno, -⟩
      · omega
      · have erz : zI r = zI 1 := by rw [e1] at er; exact Value.int.inj (Option.some.inj er)
        rw [erz]
        exact g128 S' 1 w2 _ _ _ _ _ (hf.tr hf') hX' hg
      · rw [hand] at hw; cases hw
      · exact absurd hand hno
    · intro P Ds p tc ts hp hlk hor0 hg
      have hne : wrd t (skp t p) ≠ [] := by rw [hor0]; simp
      have hch := chr_wrd hne
      have hlt : skp t p < t.length := Nat.lt_of_not_le (fun z => by rw [chr_out z] at hch; omega)
      rw [hGd]
      intro S1 w2 hf hX1
      refine st0 S1 w2 P Ds (skp t p) tc ts hf hX1 hlk hlt (fun S' r hq => ?_)
      obtain ⟨r', er, hf', hor⟩ := hq
      rcases hor with ⟨h41, -⟩ | ⟨hw, -⟩ | ⟨-, e1, hX'⟩ | ⟨-, -, hno, -⟩
      · omega
      · rw [hor0] at hw; cases hw
      · have erz : zI r = zI 1 := by rw [e1] at er; exact Value.int.inj (Option.some.inj er)
        rw [erz]
        exact g128 S' 1 w2 _ _ _ _ _ (hf.tr hf') hX' hg
      · exact absurd hor0 hno
    · intro P Ds p tc ts hlk hlt h41 hand hor0 hr
      rw [hGd]
      intro S1 w2 hf hX1
      refine st0 S1 w2 P Ds (skp t p) tc ts hf hX1 hlk hlt (fun S' r hq => ?_)
      obtain ⟨r', er, hf', hor⟩ := hq
      rcases hor with ⟨hno, -⟩ | ⟨hw, -⟩ | ⟨hw, -⟩ | ⟨-, -, -, e0, hwr⟩
      · exact absurd hno h41
      · exact absurd hw hand
      · exact absurd hw hor0
      · have erz : zI r = zI 0 := by rw [e0] at er; exact Value.int.inj (Option.some.inj er)
        rw [erz]
        exact w128 S' 0 w2 _ hr (Or.inl rfl) (hf.tr hf') (by rw [wrg, f2 S1 hf] at hwr; exact hwr)
    · intro P Ds p tc ts hlk hpe
      refine ⟨fun hne hr => ?_, fun hem hfin => ?_⟩
      · rw [hGd]
        intro S1 w2 hf hX1
        exact en61 S1 w2 P Ds (skp t p) tc ts hf hX1 hlk hpe (Or.inl ⟨hne, hr⟩)
      · rw [hGd]
        intro S1 w2 hf hX1
        exact en61 S1 w2 P Ds (skp t p) tc ts hf hX1 hlk hpe (Or.inr ⟨hem, hfin⟩)
  have hall := (hGd _ _ _ _ _ _).mp (sim_all rules hl (fun a h => h) (fun a D ts tc h => ⟨a, D, rfl, h⟩))
  obtain ⟨hX0, hf0⟩ := rdX_0 hc hs l15 l21 l26
  obtain ⟨hX1, hf1⟩ := hX0.skip
  refine x_aload_n d_Mo_read_0 rfl rfl ?_
  refine x_iconst (v := zI 0) d_Mo_read_1 (by decide) ?_
  refine r_put xf_Mo_193_Mo xp_Mo_27 hR hX (by omega) rfl rfl d_Mo_read_2 ?_
  intro h hR hX
  refine x_aload_n d_Mo_read_5 rfl rfl ?_
  refine x_iconst (v := zI (-1)) d_Mo_read_6 (by decide) ?_
  refine r_put xf_Mo_190_Mo xp_Mo_29 hR hX (by omega) rfl rfl d_Mo_read_7 ?_
  intro h hR hX
  refine x_aload_n d_Mo_read_10 rfl rfl ?_
  refine x_iconst (v := zI 0) d_Mo_read_11 (by decide) ?_
  refine r_put xf_Mo_199_Mo xp_Mo_32 hR hX (by omega) rfl rfl d_Mo_read_12 ?_
  intro h hR hX
  refine x_aload_n d_Mo_read_15 rfl rfl ?_
  refine x_iconst (v := zI 0) d_Mo_read_16 (by decide) ?_
  refine r_put xf_Mo_202_Mo xp_Mo_33 hR hX (by omega) rfl rfl d_Mo_read_17 ?_
  intro h hR hX
  refine x_aload_n d_Mo_read_20 rfl rfl ?_
  refine x_iconst (v := zI 0) d_Mo_read_21 (by decide) ?_
  refine r_put xf_Mo_205_Mo xp_Mo_35 hR hX (by omega) rfl rfl d_Mo_read_22 ?_
  intro h hR hX
  refine x_aload_n d_Mo_read_25 rfl rfl ?_
  refine x_get xf_Mo_45_Mo (Or.inl hR.1) (v := .ref (rf 15)) rfl d_Mo_read_26 ?_
  refine x_aload_n d_Mo_read_29 rfl rfl ?_
  refine x_get xf_Mo_196_Mo (Or.inl hR.1) (v := .int (zI (S.1 28))) rfl d_Mo_read_30 ?_
  have hb30 : inR (S.1 28) := hR.2.2.2 28
  refine x_iconst (v := zI 0) d_Mo_read_33 (by decide) ?_
  refine r_iast (i := 15) (us := (S.2.1 15)) ⟨rfl, rfl⟩ (by decide) hR hX rfl (by omega) (by show S.1 28 < 9; omega) (by omega) d_Mo_read_34 ?_
  intro h hR hX
  refine x_aload_n d_Mo_read_35 rfl rfl ?_
  refine x_get xf_Mo_63_Mo (Or.inl hR.1) (v := .ref (rf 21)) rfl d_Mo_read_36 ?_
  refine x_aload_n d_Mo_read_39 rfl rfl ?_
  refine x_get xf_Mo_196_Mo (Or.inl hR.1) (v := .int (zI (S.1 28))) rfl d_Mo_read_40 ?_
  have hb40 : inR (S.1 28) := hR.2.2.2 28
  refine x_iconst (v := zI 0) d_Mo_read_43 (by decide) ?_
  refine r_iast (i := 21) (us := (S.2.1 21)) ⟨rfl, rfl⟩ (by decide) hR hX rfl (by omega) (by show S.1 28 < 9; omega) (by omega) d_Mo_read_44 ?_
  intro h hR hX
  refine x_aload_n d_Mo_read_45 rfl rfl ?_
  refine x_get xf_Mo_78_Mo (Or.inl hR.1) (v := .ref (rf 26)) rfl d_Mo_read_46 ?_
  refine x_aload_n d_Mo_read_49 rfl rfl ?_
  refine x_get xf_Mo_196_Mo (Or.inl hR.1) (v := .int (zI (S.1 28))) rfl d_Mo_read_50 ?_
  have hb50 : inR (S.1 28) := hR.2.2.2 28
  refine x_iconst (v := zI 0) d_Mo_read_53 (by decide) ?_
  refine r_iast (i := 26) (us := (S.2.1 26)) ⟨rfl, rfl⟩ (by decide) hR hX rfl (by omega) (by show S.1 28 < 9; omega) (by omega) d_Mo_read_54 ?_
  intro h hR hX
  refine x_iconst (v := zI 1) d_Mo_read_55 (by decide) ?_
  refine x_istore_n (L' := [_, _, _]) d_Mo_read_56 rfl rfl ?_
  refine x_aload_n d_Mo_read_57 rfl rfl ?_
  refine x_callV (As := []) (k := k_MarkerTextModel) rfl xcv_Mo_225_Mo (Or.inl hR.1) (RM.ap hR (r_skipX (S := rd0 S) hX0.1 hX0.2.1.1 hX0.2.1.2)) rfl rfl (Nat.le_of_ble_eq_true rfl) d_Mo_read_58 ?_
  rintro v58 h cq nq ⟨S58, hR, hX58, rfl, rfl, rfl, rfl⟩
  replace hX := hX.tr hX58
  exact hall _ _ (hf0.tr hf1) hX1 _ hR hX
end RH11
