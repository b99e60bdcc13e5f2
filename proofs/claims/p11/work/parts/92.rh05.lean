section

end
section RH5
variable {l : Launch} {G : XG} {h : XH} {c n d : Nat} {o : Nat} {rf : Nat → Nat} {S : MS}
theorem vrun_len : ∀ (u : List Nat) {s s' : Nat × Nat × Nat × Nat}, s.2.2.1 ≤ 3 → s.2.2.2 ≤ 3 → vrun u s = some s' → u.length + 4 * s.2.2.2 + s.2.2.1 ≤ 4 * s'.2.2.2 + s'.2.2.1 ∧ s'.2.2.1 ≤ 3 ∧ s'.2.2.2 ≤ 3 := by
  intro u
  induction u with
  | nil =>
    intro s s' h1 h2 h
    cases h
    exact ⟨by simp, h1, h2⟩
  | cons ch u ih =>
    intro s s' h1 h2 h
    cases hv : vst s ch with
    | none => rw [vrun_none hv] at h; cases h
    | some s1 =>
      rw [vrun_some hv] at h
      unfold vst at hv
      split at hv
      · rename_i hA
        cases hv
        have := ih (by show (0 : Nat) ≤ 3; omega) (by show s.2.2.2 + 1 ≤ 3; omega) h
        obtain ⟨g1, g2, g3⟩ := this
        replace g1 : u.length + 4 * (s.2.2.2 + 1) + 0 ≤ 4 * s'.2.2.2 + s'.2.2.1 := g1
        refine ⟨?_, g2, g3⟩
        rw [List.length_cons]
        omega
      · split at hv
        · rename_i hB
          cases hv
          have := ih (s := (s.1, s.2.1 * 10 + (ch - 48), s.2.2.1 + 1, s.2.2.2)) (by show s.2.2.1 + 1 ≤ 3; omega) h2 h
          obtain ⟨g1, g2, g3⟩ := this
          replace g1 : u.length + 4 * s.2.2.2 + (s.2.2.1 + 1) ≤ 4 * s'.2.2.2 + s'.2.2.1 := g1
          refine ⟨?_, g2, g3⟩
          rw [List.length_cons]
          omega
        · cases hv
theorem klv_len {kd : Nat} {u : List Nat} (h : klv kd u ≠ 0) : 1 ≤ u.length ∧ u.length ≤ 11 := by
  have hne : u ≠ [] := fun z => h (by rw [z]; exact klv_nil)
  have h1 : 1 ≤ u.length := by
    cases u with
    | nil => exact absurd rfl hne
    | cons a u => simp
  refine ⟨h1, ?_⟩
  unfold klv at h
  split at h
  · unfold vsl at h
    cases hv : vrun u (0, 0, 0, 1) with
    | none => rw [hv] at h; exact absurd rfl h
    | some s =>
      obtain ⟨g1, g2, g3⟩ := vrun_len u (s := (0, 0, 0, 1)) (by show (0 : Nat) ≤ 3; omega) (by show (1 : Nat) ≤ 3; omega) hv
      replace g1 : u.length + 4 * 1 + 0 ≤ 4 * s.2.2.2 + s.2.2.1 := g1
      omega
  · unfold txl at h
    split at h
    · rename_i g
      omega
    · exact absurd rfl h
/-- a VALUE with its ' -/
theorem val_txt {t : List Nat} {a e : Nat} (hae : a < e) (he : e < t.length) (h1 : chr t a = 39) (h2 : chr t e = 39) : (t.drop a).take (e + 1 - a) = 39 :: ((t.drop (a + 1)).take (e - (a + 1)) ++ [39]) := by
  have e1 : t.drop a = 39 :: t.drop (a + 1) := by
    rw [List.drop_eq_getElem_cons (by omega : a < t.length), ← chr_in (by omega : a < t.length), h1]
  rw [e1, show e + 1 - a = (e - (a + 1) + 1) + 1 by omega, List.take_succ_cons]
  congr 1
  rw [List.take_succ_eq_append_getElem (by rw [List.length_drop]; omega), List.getElem_drop]
  congr 1
  have : t[a + 1 + (e - (a + 1))]'(by omega) = t[e] := by congr 1; omega
  rw [this, ← chr_in he, h2]
/-- how readValue() ends, in full -/
def rvX (t : List Nat) (kd p : Nat) (S : MS) : Option Value → MS → Prop := fun v S' => v = none ∧ rSm S S' [27, 29] [23, 24, 26] [22] ∧ (0 ≤ S'.1 27 ∧ S'.1 27 ≤ S.1 2) ∧ (((rvl t kd p).2.1 = 0 ∧ S'.1 29 = ((rvl t kd p).1 : Nat) ∧ rSm S S' [27, 29] [] []) ∨ ((rvl t kd p).2.1 ≠ 0 ∧ S'.1 29 = -1 ∧ S'.1 27 = ((rvl t kd p).1 : Nat) ∧ ∃ u, okV kd u ∧ 1 ≤ u.length ∧ (rvl t kd p).2.1 = klv kd u ∧ (rvl t kd p).2.2 = 39 :: (u ++ [39]) ∧ S.1 27 + u.length + 2 ≤ S'.1 27 ∧ S'.2.1 24 = se (S.2.1 24) (vnN S) u.length ∧ S'.2.1 26 = se (S.2.1 26) (S.1 28) (gd (S.2.1 26) (S.1 28) + 1) ∧ S'.2.2.1 22 = sle (S.2.2.1 22) (vnN S) (zL (kyR kd u)) ∧ ∀ e : Int, 0 ≤ e → e < 6336 → gd (S'.2.1 23) e = if 11 * vnN S ≤ e ∧ e < 11 * vnN S + u.length then ((u.getD (e - 11 * vnN S).toNat 0 : Nat) : Int) else gd (S.2.1 23) e))
set_option maxHeartbeats 1000000 in
theorem r_readValueX {t : List Nat} {Ns : List NmT} {nm : Int} {i p : Nat} {x : NmT} (hd : 3 ≤ d) (hc : cx t Ns S) (hx : Ns[i]? = some x) (hni : nm = (i : Nat)) (h27 : S.1 27 = p) (hp : p ≤ t.length) (hw : S.1 29 = -1) (hs : 0 ≤ S.1 28 ∧ S.1 28 ≤ 8) (hV : 0 ≤ gd (S.2.1 26) (S.1 28) ∧ gd (S.2.1 26) (S.1 28) ≤ 40) : RM l G d M_Mo_readValue [.ref o, .int (zI nm)] o rf S (rvX t x.2.1 p S) := by
  obtain ⟨d, rfl⟩ : ∃ q, d = q + 1 := ⟨d - 1, by omega⟩
  intro H0 c n hR
  obtain ⟨⟨hs2, hat⟩, ⟨hok, hl⟩, ⟨hN, h6⟩, hD, hn⟩ := id hc
  obtain ⟨x1, x2, x3, x4, x5, x6⟩ := hN.2 i x hx
  have hil := (List.getElem?_eq_some_iff.mp hx).1
  have hsk := skp_le hp
  have hsg : p ≤ skp t p := scn_ge
  have hvn : vnN S = 64 * S.1 28 + gd (S.2.1 26) (S.1 28) := rfl
  have l23 : (S.2.1 23).length = 6336 := hR.len 23 (by decide)
  have hnw := nw_eq (p := skp t p) (ch := 39) hok (by decide)
  have hnb := nw_b (p := skp t p) hok
  have hcA : ∀ a : Int, cx t Ns (sp S 27 a) := fun a => hc.sm (js := [27]) (is := []) (ls := []) (rSm.r0.sp (by decide)) (by decide) (by decide)
  refine XM.of (by decide +kernel) (Nat.le_of_ble_eq_true rfl) ?_
  have hX : xonly H0 H0 RKs := xonly.rf
  by_cases h39 : chr t (skp t p) = 39
  · have hkl : skp t p < t.length := Nat.lt_of_not_le (fun z => by rw [chr_out z] at h39; omega)
    have hse := scn_le (q := qV) (show skp t p + 1 ≤ t.length by omega)
    have hsg2 : skp t p + 1 ≤ scn qV t (skp t p + 1) := scn_ge
    generalize hA : skp t p = A at *
    generalize hE : scn qV t (A + 1) = E at *
    generalize hU : (t.drop (A + 1)).take (E - (A + 1)) = u at *
    have hul : u.length = E - (A + 1) := by rw [← hU, List.length_take, List.length_drop]; omega
    have hug : ∀ j : Nat, j < u.length → gd (S.2.1 1) ((A : Int) + 1 + j) = ((u.getD j 0 : Nat) : Int) := by
      intro j hj
      have := hat (A + 1 + j) (by omega)
      rw [show ((A + 1 + j : Nat) : Int) = (A : Int) + 1 + j by omega] at this
      rw [this, ← hU, List.getD_eq_getElem?_getD, List.getD_eq_getElem?_getD, List.getElem?_take, if_pos (by omega), List.getElem?_drop]
    have hrv : rvl t x.2.1 p = if t.length ≤ E then (t.length, 0, []) else if klv x.2.1 u = 0 then (A, 0, []) else (E + 1, klv x.2.1 u, (t.drop A).take (E + 1 - A)) := by
      unfold rvl
      rw [hA, if_pos h39, hE, hU]
    have hIV : RM l G d M_Mo_isValue [.ref o, .int (zI ((A : Nat) + 1)), .int (zI (E : Nat)), .int (zI (gd (S.2.1 6) nm))] o rf (sp S 27 (A : Nat)) (ivX (sp S 27 (A : Nat)) x.2.1 u) := by
      have := r_isValueX (l := l) (G := G) (o := o) (rf := rf) (d := d) (S := sp S 27 (A : Nat)) (t := t) (a := (A : Int) + 1) (b := (E : Int)) (kd := x.2.1) (by omega) x6 hat hok (by omega) (by omega) (by omega) hl
      have ec : cut t ((A : Int) + 1) (E : Int) = u := by
        show (t.drop ((A : Int) + 1).toNat).take ((E : Int) - ((A : Int) + 1)).toNat = u
        rw [show ((A : Int) + 1).toNat = A + 1 by omega, show ((E : Int) - ((A : Int) + 1)).toNat = E - (A + 1) by omega, hU]
      rw [ec, ← x2] at this
      rw [hni]
      exact this
    have l2 : E < t.length → klv x.2.1 u ≠ 0 → ∀ (X : Int64), X = zL (kyR x.2.1 u) → ∀ (k : Nat) (us : List Int) (j : Int), us.length = 6336 → (∀ e : Int, 0 ≤ e → e < 6336 → gd us e = if 11 * vnN S ≤ e ∧ e < 11 * vnN S + j then ((u.getD (e - 11 * vnN S).toNat 0 : Nat) : Int) else gd (S.2.1 23) e) → 0 ≤ j → j ≤ u.length → u.length - j ≤ k → RX l G M_Mo_readValue (d + 1) 140 [some (.ref o), some (.int (zI nm)), some (.int (zI ((A : Int) + 1))), some (.int (zI (E : Nat))), some (.int (zI (vnN S))), some (.int (zI j))] [] H0 o rf c n (sa (sa (sl (sk (sp S 27 (A : Nat)) X) 22 (sle (S.2.2.1 22) (vnN S) X)) 24 (se (S.2.1 24) (vnN S) ((E : Int) - ((A : Int) + 1)))) 23 us) (rvX t x.2.1 p S) := by
      intro hEl hk0 X hXe k
      have hul2 := klv_len hk0
      have h39E : chr t E = 39 := by
        by_cases hz : chr t E = 39
        · exact hz
        · exfalso
          have a1 : scn qV t E = scn qV t (E + 1) := scn_yes hEl (decide_eq_true hz)
          have a2 : scn qV t E = E := by rw [← hE]; exact scn_idem (t.length - (A + 1)) (A + 1) (by omega)
          have a3 : E + 1 ≤ scn qV t (E + 1) := scn_ge
          omega
      have hfin : ∀ (us : List Int), (∀ e : Int, 0 ≤ e → e < 6336 → gd us e = if 11 * vnN S ≤ e ∧ e < 11 * vnN S + u.length then ((u.getD (e - 11 * vnN S).toNat 0 : Nat) : Int) else gd (S.2.1 23) e) → rvX t x.2.1 p S none (sp (sa (sa (sa (sl (sk (sp S 27 (A : Nat)) X) 22 (sle (S.2.2.1 22) (vnN S) X)) 24 (se (S.2.1 24) (vnN S) ((E : Int) - ((A : Int) + 1)))) 23 us) 26 (se (S.2.1 26) (S.1 28) (gd (S.2.1 26) (S.1 28) + 1))) 27 ((E : Int) + 1)) := by
        intro us hus
        refine ⟨rfl, (((((rSm.r0.sp (j := 27) (by decide)).sl (i := 22) (by decide)).sa (i := 24) (by decide)).sa (i := 23) (by decide)).sa (i := 26) (by decide)).sp (j := 27) (by decide), by show 0 ≤ (E : Int) + 1 ∧ (E : Int) + 1 ≤ S.1 2; omega, Or.inr ?_⟩
        rw [hrv, if_neg (by omega), if_neg hk0]
        refine ⟨hk0, hw, by show (E : Int) + 1 = ((E + 1 : Nat) : Int); omega, u, ⟨fun ch hch => ?_, hk0, hul2.2⟩, hul2.1, rfl, ?_, by show S.1 27 + u.length + 2 ≤ (E : Int) + 1; omega, ?_, rfl, by rw [← hXe]; rfl, hus⟩
        · rw [← hU] at hch
          exact hok ch (List.mem_of_mem_drop (List.mem_of_mem_take hch))
        · rw [← hU]
          exact val_txt (by omega) hEl h39 h39E
        · show se (S.2.1 24) (vnN S) ((E : Int) - ((A : Int) + 1)) = se (S.2.1 24) (vnN S) u.length
          rw [show (E : Int) - ((A : Int) + 1) = u.length by omega]
      induction k with
      | zero =>
        intro us j hl1 hus hj0 hj1 hk h hR hX
        obtain rfl : j = u.length := by omega
        refine x_iload d_Mo_readValue_140 rfl ?_
        refine x_iload_n d_Mo_readValue_142 rfl ?_
        refine x_iload_n d_Mo_readValue_143 rfl ?_
        refine z_isub d_Mo_readValue_144 ?_
        refine z_icmp_ge (tgt := 176) d_Mo_readValue_145 (by decide) (by omega) (by omega) (fun _ => ?_) (fun hq => by omega)
        refine x_aload_n d_Mo_readValue_176 rfl rfl ?_
        refine x_get xf_Mo_78_Mo (Or.inl hR.1) (v := .ref (rf 26)) rfl d_Mo_readValue_177 ?_
        refine x_aload_n d_Mo_readValue_180 rfl rfl ?_
        refine x_get xf_Mo_196_Mo (Or.inl hR.1) (v := .int (zI (S.1 28))) rfl d_Mo_readValue_181 ?_
        have hb181 : inR (S.1 28) := hR.2.2.2 28
        refine x_dup2_11 d_Mo_readValue_184 rfl rfl ?_
        refine r_iald (i := 26) (us := (S.2.1 26)) rfl (by decide) hR rfl (by omega) (by show S.1 28 < 9; omega) d_Mo_readValue_185 (fun hr185 => ?_)
        refine x_iconst (v := zI 1) d_Mo_readValue_186 (by decide) ?_
        refine z_iadd d_Mo_readValue_187 ?_
        refine r_iast (i := 26) (us := (S.2.1 26)) ⟨rfl, rfl⟩ (by decide) hR hX rfl (by omega) (by show S.1 28 < 9; omega) (by omega) d_Mo_readValue_188 ?_
        intro h hR hX
        refine x_aload_n d_Mo_readValue_189 rfl rfl ?_
        refine x_iload_n d_Mo_readValue_190 rfl ?_
        refine x_iconst (v := zI 1) d_Mo_readValue_191 (by decide) ?_
        refine z_iadd d_Mo_readValue_192 ?_
        refine r_put xf_Mo_193_Mo xp_Mo_27 hR hX (by omega) rfl rfl d_Mo_readValue_193 ?_
        intro h hR hX
        refine x_vret d_Mo_readValue_196 rfl ?_
        exact ⟨_, hR, hX, rfl, rfl, hfin us hus⟩
      | succ k ih =>
        intro us j hl1 hus hj0 hj1 hk h hR hX
        by_cases hje : j = u.length
        · subst hje
          refine x_iload d_Mo_readValue_140 rfl ?_
          refine x_iload_n d_Mo_readValue_142 rfl ?_
          refine x_iload_n d_Mo_readValue_143 rfl ?_
          refine z_isub d_Mo_readValue_144 ?_
          refine z_icmp_ge (tgt := 176) d_Mo_readValue_145 (by decide) (by omega) (by omega) (fun _ => ?_) (fun hq => by omega)
          refine x_aload_n d_Mo_readValue_176 rfl rfl ?_
          refine x_get xf_Mo_78_Mo (Or.inl hR.1) (v := .ref (rf 26)) rfl d_Mo_readValue_177 ?_
          refine x_aload_n d_Mo_readValue_180 rfl rfl ?_
          refine x_get xf_Mo_196_Mo (Or.inl hR.1) (v := .int (zI (S.1 28))) rfl d_Mo_readValue_181 ?_
          have hb181 : inR (S.1 28) := hR.2.2.2 28
          refine x_dup2_11 d_Mo_readValue_184 rfl rfl ?_
          refine r_iald (i := 26) (us := (S.2.1 26)) rfl (by decide) hR rfl (by omega) (by show S.1 28 < 9; omega) d_Mo_readValue_185 (fun hr185 => ?_)
          refine x_iconst (v := zI 1) d_Mo_readValue_186 (by decide) ?_
          refine z_iadd d_Mo_readValue_187 ?_
          refine r_iast (i := 26) (us := (S.2.1 26)) ⟨rfl, rfl⟩ (by decide) hR hX rfl (by omega) (by show S.1 28 < 9; omega) (by omega) d_Mo_readValue_188 ?_
          intro h hR hX
          refine x_aload_n d_Mo_readValue_189 rfl rfl ?_
          refine x_iload_n d_Mo_readValue_190 rfl ?_
          refine x_iconst (v := zI 1) d_Mo_readValue_191 (by decide) ?_
          refine z_iadd d_Mo_readValue_192 ?_
          refine r_put xf_Mo_193_Mo xp_Mo_27 hR hX (by omega) rfl rfl d_Mo_readValue_193 ?_
          intro h hR hX
          refine x_vret d_Mo_readValue_196 rfl ?_
          exact ⟨_, hR, hX, rfl, rfl, hfin us hus⟩
        · have hgj := hug j.toNat (by omega)
          rw [show ((j.toNat : Nat) : Int) = j by omega] at hgj
          have hus' : ∀ e : Int, 0 ≤ e → e < 6336 → gd (se us (11 * vnN S + j) (gd (S.2.1 1) ((A : Int) + 1 + j))) e = if 11 * vnN S ≤ e ∧ e < 11 * vnN S + (j + 1) then ((u.getD (e - 11 * vnN S).toNat 0 : Nat) : Int) else gd (S.2.1 23) e := by
            intro e he0 he1
            rw [gd_se_of hl1 (by omega) (by omega) he0]
            by_cases e1 : e = 11 * vnN S + j
            · rw [if_pos e1, if_pos (by omega), hgj, show (e - 11 * vnN S).toNat = j.toNat by omega]
            · rw [if_neg e1, hus e he0 he1]
              by_cases e2 : 11 * vnN S ≤ e ∧ e < 11 * vnN S + j
              · rw [if_pos e2, if_pos (by omega)]
              · rw [if_neg e2, if_neg (by omega)]
          refine x_iload d_Mo_readValue_140 rfl ?_
          refine x_iload_n d_Mo_readValue_142 rfl ?_
          refine x_iload_n d_Mo_readValue_143 rfl ?_
          refine z_isub d_Mo_readValue_144 ?_
          refine z_icmp_ge (tgt := 176) d_Mo_readValue_145 (by decide) (by omega) (by omega) (fun hq => by omega) (fun _ => ?_)
          refine x_aload_n d_Mo_readValue_148 rfl rfl ?_
          refine x_get xf_Mo_69_Mo (Or.inl hR.1) (v := .ref (rf 23)) rfl d_Mo_readValue_149 ?_
          refine x_bipush (v := zI 11) d_Mo_readValue_152 (by decide) ?_
          refine x_iload d_Mo_readValue_154 rfl ?_
          refine z_imul d_Mo_readValue_156 ?_
          refine x_iload d_Mo_readValue_157 rfl ?_
          refine z_iadd d_Mo_readValue_159 ?_
          refine x_aload_n d_Mo_readValue_160 rfl rfl ?_
          refine x_get xf_Mo_7_Mo (Or.inl hR.1) (v := .ref (rf 1)) rfl d_Mo_readValue_161 ?_
          refine x_iload_n d_Mo_readValue_164 rfl ?_
          refine x_iload d_Mo_readValue_165 rfl ?_
          refine z_iadd d_Mo_readValue_167 ?_
          refine r_iald (i := 1) (us := (S.2.1 1)) rfl (by decide) hR rfl (by omega) (by show (A : Int) + 1 + j < 160; omega) d_Mo_readValue_168 (fun hr168 => ?_)
          refine r_iast (i := 23) (us := us) ⟨rfl, rfl⟩ (by decide) hR hX rfl (by omega) (by show 11 * vnN S + j < 6336; omega) (by omega) d_Mo_readValue_169 ?_
          intro h hR hX
          refine x_iinc (v := zI (j + 1)) (L' := [_, _, _, _, _, _]) d_Mo_readValue_170 rfl (zI_add _ _) rfl rfl ?_
          refine x_goto (tgt := 140) d_Mo_readValue_173 (by decide) ?_
          exact ih _ (j + 1) (by rw [se_len]; exact hl1) hus' (by omega) (by omega) (by omega) _ (by rw [sa_sa] at hR; exact hR) hX
    have j56 : RX l G M_Mo_readValue (d + 1) 56 [some (.ref o), some (.int (zI nm)), some (.int (zI ((A : Int) + 1))), some (.int (zI (E : Nat))), none, none] [] H0 o rf c n (sp S 27 (A : Nat)) (rvX t x.2.1 p S) := by
      intro h hR hX
      by_cases hEl : t.length ≤ E
      · refine x_iload_n d_Mo_readValue_56 rfl ?_
        refine x_aload_n d_Mo_readValue_57 rfl rfl ?_
        refine x_get xf_Mo_124_Mo (Or.inl hR.1) (v := .int (zI (S.1 2))) rfl d_Mo_readValue_58 ?_
        have hb58 : inR (S.1 2) := hR.2.2.2 2
        refine z_icmp_ne (tgt := 73) d_Mo_readValue_61 (by decide) (by omega) (by omega) (fun hq => by omega) (fun _ => ?_)
        refine x_aload_n d_Mo_readValue_64 rfl rfl ?_
        refine x_aload_n d_Mo_readValue_65 rfl rfl ?_
        refine x_get xf_Mo_124_Mo (Or.inl hR.1) (v := .int (zI (S.1 2))) rfl d_Mo_readValue_66 ?_
        have hb66 : inR (S.1 2) := hR.2.2.2 2
        refine x_callV (As := [_]) (k := k_MarkerTextModel) rfl xcv_Mo_218_Mo (Or.inl hR.1) (RM.ap hR (r_fault (by omega))) rfl rfl (Nat.le_of_ble_eq_true rfl) d_Mo_readValue_69 ?_
        rintro v69 h cq nq ⟨S69, hR, hX69, rfl, rfl, a69, rfl, rfl, ha69⟩
        replace hX := hX.tr hX69
        refine x_vret d_Mo_readValue_72 rfl ?_
        exact ⟨_, hR, hX, rfl, rfl, rfl, (rSm.r0.sp (j := 27) (by decide)).sp (j := 29) (by decide), by show 0 ≤ (A : Int) ∧ (A : Int) ≤ S.1 2; omega, Or.inl ⟨by rw [hrv, if_pos hEl], by rw [hrv, if_pos hEl]; show a69 = _; replace ha69 := flt ha69 hw; exact ha69.trans hs2, (rSm.r0.sp (j := 27) (by decide)).sp (j := 29) (by decide)⟩⟩
      · refine x_iload_n d_Mo_readValue_56 rfl ?_
        refine x_aload_n d_Mo_readValue_57 rfl rfl ?_
        refine x_get xf_Mo_124_Mo (Or.inl hR.1) (v := .int (zI (S.1 2))) rfl d_Mo_readValue_58 ?_
        have hb58 : inR (S.1 2) := hR.2.2.2 2
        refine z_icmp_ne (tgt := 73) d_Mo_readValue_61 (by decide) (by omega) (by omega) (fun _ => ?_) (fun hq => by omega)
        refine x_aload_n d_Mo_readValue_73 rfl rfl ?_
        refine x_iload_n d_Mo_readValue_74 rfl ?_
        refine x_iload_n d_Mo_readValue_75 rfl ?_
        refine x_aload_n d_Mo_readValue_76 rfl rfl ?_
        refine x_get xf_Mo_19_Mo (Or.inl hR.1) (v := .ref (rf 6)) rfl d_Mo_readValue_77 ?_
        refine x_iload_n d_Mo_readValue_80 rfl ?_
        refine r_iald (i := 6) (us := (S.2.1 6)) rfl (by decide) hR rfl (by omega) (by show nm < 6; omega) d_Mo_readValue_81 (fun hr81 => ?_)
        refine x_callV (As := [_, _, _]) (k := k_MarkerTextModel) rfl xcv_Mo_187_Mo (Or.inl hR.1) (RM.ap hR hIV) rfl rfl (Nat.le_of_ble_eq_true rfl) d_Mo_readValue_82 ?_
        rintro v82 h cq nq ⟨S82, hR, hX82, rfl, rfl, x82, r82, rfl, rfl, hr82⟩
        replace hX := hX.tr hX82
        refine z_if_ne (tgt := 97) d_Mo_readValue_85 (by decide) (by omega) (fun hc85 => ?_) (fun hc85 => ?_)
        · refine x_bipush (v := zI 64) d_Mo_readValue_97 (by decide) ?_
          refine x_aload_n d_Mo_readValue_99 rfl rfl ?_
          refine x_get xf_Mo_196_Mo (Or.inl hR.1) (v := .int (zI (S.1 28))) rfl d_Mo_readValue_100 ?_
          have hb100 : inR (S.1 28) := hR.2.2.2 28
          refine z_imul d_Mo_readValue_103 ?_
          refine x_aload_n d_Mo_readValue_104 rfl rfl ?_
          refine x_get xf_Mo_78_Mo (Or.inl hR.1) (v := .ref (rf 26)) rfl d_Mo_readValue_105 ?_
          refine x_aload_n d_Mo_readValue_108 rfl rfl ?_
          refine x_get xf_Mo_196_Mo (Or.inl hR.1) (v := .int (zI (S.1 28))) rfl d_Mo_readValue_109 ?_
          have hb109 : inR (S.1 28) := hR.2.2.2 28
          refine r_iald (i := 26) (us := (S.2.1 26)) rfl (by decide) hR rfl (by omega) (by show S.1 28 < 9; omega) d_Mo_readValue_112 (fun hr112 => ?_)
          refine z_iadd d_Mo_readValue_113 ?_
          refine x_istore (L' := [_, _, _, _, _, _]) d_Mo_readValue_114 rfl rfl ?_
          refine x_aload_n d_Mo_readValue_116 rfl rfl ?_
          refine x_get xf_Mo_66_Mo (Or.inl hR.1) (v := .ref (rf 22)) rfl d_Mo_readValue_117 ?_
          refine x_iload d_Mo_readValue_120 rfl ?_
          refine x_aload_n d_Mo_readValue_122 rfl rfl ?_
          refine x_get xf_Mo_173_Mo (Or.inl hR.1) (v := .long x82) rfl d_Mo_readValue_123 ?_
          refine r_last (i := 22) (us := (S.2.2.1 22)) rfl (by decide) hR hX rfl (by omega) (by show 64 * S.1 28 + gd (S.2.1 26) (S.1 28) < 576; omega) d_Mo_readValue_126 ?_
          intro h hR hX
          refine x_aload_n d_Mo_readValue_127 rfl rfl ?_
          refine x_get xf_Mo_72_Mo (Or.inl hR.1) (v := .ref (rf 24)) rfl d_Mo_readValue_128 ?_
          refine x_iload d_Mo_readValue_131 rfl ?_
          refine x_iload_n d_Mo_readValue_133 rfl ?_
          refine x_iload_n d_Mo_readValue_134 rfl ?_
          refine z_isub d_Mo_readValue_135 ?_
          refine r_iast (i := 24) (us := (S.2.1 24)) ⟨rfl, rfl⟩ (by decide) hR hX rfl (by omega) (by show 64 * S.1 28 + gd (S.2.1 26) (S.1 28) < 576; omega) (by omega) d_Mo_readValue_136 ?_
          intro h hR hX
          refine x_iconst (v := zI 0) d_Mo_readValue_137 (by decide) ?_
          refine x_istore (L' := [_, _, _, _, _, _]) d_Mo_readValue_138 rfl rfl ?_
          obtain ⟨q1, q2⟩ : klv x.2.1 u ≠ 0 ∧ x82 = zL (kyR x.2.1 u) := by rcases hr82 with ⟨-, q⟩ | ⟨q, -⟩; exact q; omega
          exact l2 (by omega) q1 _ q2 11 (S.2.1 23) 0 l23 (fun e _ _ => by rw [if_neg (by omega)]) (by omega) (by omega) (by have := klv_len q1; omega) _ (Eq.mpr (congrArg (isR _ o rf) (sa_id (i := 23))) hR) hX
        · refine x_aload_n d_Mo_readValue_88 rfl rfl ?_
          refine x_aload_n d_Mo_readValue_89 rfl rfl ?_
          refine x_get xf_Mo_193_Mo (Or.inl hR.1) (v := .int (zI ((A : Nat) : Int))) rfl d_Mo_readValue_90 ?_
          have hb90 : inR ((A : Nat) : Int) := hR.2.2.2 27
          refine x_callV (As := [_]) (k := k_MarkerTextModel) rfl xcv_Mo_218_Mo (Or.inl hR.1) (RM.ap hR (r_fault (by omega))) rfl rfl (Nat.le_of_ble_eq_true rfl) d_Mo_readValue_93 ?_
          rintro v93 h cq nq ⟨S93, hR, hX93, rfl, rfl, a93, rfl, rfl, ha93⟩
          replace hX := hX.tr hX93
          refine x_vret d_Mo_readValue_96 rfl ?_
          have hk0 : klv x.2.1 u = 0 := by rcases hr82 with ⟨q, -⟩ | ⟨-, q⟩; omega; exact q
          exact ⟨_, hR, hX, rfl, rfl, rfl, (rSm.r0.sp (j := 27) (by decide)).sp (j := 29) (by decide), by show 0 ≤ (A : Int) ∧ (A : Int) ≤ S.1 2; omega, Or.inl ⟨by rw [hrv, if_neg hEl, if_pos hk0], by rw [hrv, if_neg hEl, if_pos hk0]; show a93 = _; exact flt ha93 hw, (rSm.r0.sp (j := 27) (by decide)).sp (j := 29) (by decide)⟩⟩
    have l1 : ∀ (k q : Nat) (b : Int), b = q → A + 1 ≤ q → q ≤ t.length → scn qV t q = E → t.length - q ≤ k → RX l G M_Mo_readValue (d + 1) 31 [some (.ref o), some (.int (zI nm)), some (.int (zI ((A : Int) + 1))), some (.int (zI b)), none, none] [] H0 o rf c n (sp S 27 (A : Nat)) (rvX t x.2.1 p S) := by
      intro k
      induction k with
      | zero =>
        intro q b hb hq1 hq2 hqe hk h hR hX
        have hf : scn qV t q = q := scn_no (fun z => by omega)
        obtain rfl : b = (E : Nat) := by omega
        refine x_iload_n d_Mo_readValue_31 rfl ?_
        refine x_aload_n d_Mo_readValue_32 rfl rfl ?_
        refine x_get xf_Mo_124_Mo (Or.inl hR.1) (v := .int (zI (S.1 2))) rfl d_Mo_readValue_33 ?_
        have hb33 : inR (S.1 2) := hR.2.2.2 2
        refine z_icmp_ge (tgt := 56) d_Mo_readValue_36 (by decide) (by omega) (by omega) (fun _ => ?_) (fun hq => by omega)
        exact j56 _ hR hX
      | succ k ih =>
        intro q b hb hq1 hq2 hqe hk h hR hX
        by_cases hql : q < t.length
        · have hatq := hc.at hb hql
          by_cases hz : chr t q = 39
          · have hf : scn qV t q = q := scn_no (fun _ => decide_eq_false (fun y => y hz))
            obtain rfl : b = (E : Nat) := by omega
            refine x_iload_n d_Mo_readValue_31 rfl ?_
            refine x_aload_n d_Mo_readValue_32 rfl rfl ?_
            refine x_get xf_Mo_124_Mo (Or.inl hR.1) (v := .int (zI (S.1 2))) rfl d_Mo_readValue_33 ?_
            have hb33 : inR (S.1 2) := hR.2.2.2 2
            refine z_icmp_ge (tgt := 56) d_Mo_readValue_36 (by decide) (by omega) (by omega) (fun hq => by omega) (fun _ => ?_)
            refine x_aload_n d_Mo_readValue_39 rfl rfl ?_
            refine x_get xf_Mo_7_Mo (Or.inl hR.1) (v := .ref (rf 1)) rfl d_Mo_readValue_40 ?_
            refine x_iload_n d_Mo_readValue_43 rfl ?_
            refine r_iald (i := 1) (us := (S.2.1 1)) rfl (by decide) hR rfl (by omega) (by show ((E : Nat) : Int) < 160; omega) d_Mo_readValue_44 (fun hr44 => ?_)
            refine x_bipush (v := zI 39) d_Mo_readValue_45 (by decide) ?_
            refine z_icmp_eq (tgt := 56) d_Mo_readValue_47 (by decide) (by omega) (by omega) (fun _ => ?_) (fun hq => by omega)
            exact j56 _ hR hX
          · have hf : scn qV t q = scn qV t (q + 1) := scn_yes hql (decide_eq_true hz)
            refine x_iload_n d_Mo_readValue_31 rfl ?_
            refine x_aload_n d_Mo_readValue_32 rfl rfl ?_
            refine x_get xf_Mo_124_Mo (Or.inl hR.1) (v := .int (zI (S.1 2))) rfl d_Mo_readValue_33 ?_
            have hb33 : inR (S.1 2) := hR.2.2.2 2
            refine z_icmp_ge (tgt := 56) d_Mo_readValue_36 (by decide) (by omega) (by omega) (fun hq => by omega) (fun _ => ?_)
            refine x_aload_n d_Mo_readValue_39 rfl rfl ?_
            refine x_get xf_Mo_7_Mo (Or.inl hR.1) (v := .ref (rf 1)) rfl d_Mo_readValue_40 ?_
            refine x_iload_n d_Mo_readValue_43 rfl ?_
            refine r_iald (i := 1) (us := (S.2.1 1)) rfl (by decide) hR rfl (by omega) (by show b < 160; omega) d_Mo_readValue_44 (fun hr44 => ?_)
            refine x_bipush (v := zI 39) d_Mo_readValue_45 (by decide) ?_
            refine z_icmp_eq (tgt := 56) d_Mo_readValue_47 (by decide) (by omega) (by omega) (fun hq => by omega) (fun _ => ?_)
            refine x_iinc (v := zI (b + 1)) (L' := [_, _, _, _, _, _]) d_Mo_readValue_50 rfl (zI_add _ _) rfl rfl ?_
            refine x_goto (tgt := 31) d_Mo_readValue_53 (by decide) ?_
            exact ih (q + 1) (b + 1) (by omega) (by omega) (by omega) (by rw [← hf]; exact hqe) (by omega) _ hR hX
        · have hf : scn qV t q = q := scn_no (fun z => absurd z hql)
          obtain rfl : b = (E : Nat) := by omega
          refine x_iload_n d_Mo_readValue_31 rfl ?_
          refine x_aload_n d_Mo_readValue_32 rfl rfl ?_
          refine x_get xf_Mo_124_Mo (Or.inl hR.1) (v := .int (zI (S.1 2))) rfl d_Mo_readValue_33 ?_
          have hb33 : inR (S.1 2) := hR.2.2.2 2
          refine z_icmp_ge (tgt := 56) d_Mo_readValue_36 (by decide) (by omega) (by omega) (fun _ => ?_) (fun hq => by omega)
          exact j56 _ hR hX
    have hskA : RM l G d M_Mo_skip [.ref o] o rf S (fun w S' => S' = sp S 27 (A : Nat) ∧ w = none) := by rw [← hA]; exact r_skipX hc h27 hp
    refine x_aload_n d_Mo_readValue_0 rfl rfl ?_
    refine x_callV (As := []) (k := k_MarkerTextModel) rfl xcv_Mo_225_Mo (Or.inl hR.1) (RM.ap hR hskA) rfl rfl (Nat.le_of_ble_eq_true rfl) d_Mo_readValue_1 ?_
    rintro v1 h cq nq ⟨S1, hR, hX1, rfl, rfl, rfl, rfl⟩
    replace hX := hX.tr hX1
    refine x_aload_n d_Mo_readValue_4 rfl rfl ?_
    refine x_callV (As := []) (k := k_MarkerTextModel) rfl xcv_Mo_228_Mo (Or.inl hR.1) (RM.ap hR (r_nowX (hcA _) rfl)) rfl rfl (Nat.le_of_ble_eq_true rfl) d_Mo_readValue_5 ?_
    rintro v5 h cq nq ⟨S5, hR, hX5, rfl, rfl, hE5, rfl⟩
    replace hE5 := Eq.symm hE5
    subst hE5
    replace hX := hX.tr hX5
    refine x_bipush (v := zI 39) d_Mo_readValue_8 (by decide) ?_
    refine z_icmp_eq (tgt := 22) d_Mo_readValue_10 (by decide) (by omega) (by omega) (fun _ => ?_) (fun hq => by omega)
    refine x_aload_n d_Mo_readValue_22 rfl rfl ?_
    refine x_get xf_Mo_193_Mo (Or.inl hR.1) (v := .int (zI ((A : Nat) : Int))) rfl d_Mo_readValue_23 ?_
    have hb23 : inR ((A : Nat) : Int) := hR.2.2.2 27
    refine x_iconst (v := zI 1) d_Mo_readValue_26 (by decide) ?_
    refine z_iadd d_Mo_readValue_27 ?_
    refine x_istore_n (L' := [_, _, _, _, _, _]) d_Mo_readValue_28 rfl rfl ?_
    refine x_iload_n d_Mo_readValue_29 rfl ?_
    refine x_istore_n (L' := [_, _, _, _, _, _]) d_Mo_readValue_30 rfl rfl ?_
    exact l1 160 (A + 1) _ (by omega) (by omega) (by omega) hE (by omega) _ hR hX
  · have hrv : rvl t x.2.1 p = (skp t p, 0, []) := by
      unfold rvl
      rw [if_neg h39]
    refine x_aload_n d_Mo_readValue_0 rfl rfl ?_
    refine x_callV (As := []) (k := k_MarkerTextModel) rfl xcv_Mo_225_Mo (Or.inl hR.1) (RM.ap hR (r_skipX hc h27 hp)) rfl rfl (Nat.le_of_ble_eq_true rfl) d_Mo_readValue_1 ?_
    rintro v1 h cq nq ⟨S1, hR, hX1, rfl, rfl, rfl, rfl⟩
    replace hX := hX.tr hX1
    refine x_aload_n d_Mo_readValue_4 rfl rfl ?_
    refine x_callV (As := []) (k := k_MarkerTextModel) rfl xcv_Mo_228_Mo (Or.inl hR.1) (RM.ap hR (r_nowX (hcA _) rfl)) rfl rfl (Nat.le_of_ble_eq_true rfl) d_Mo_readValue_5 ?_
    rintro v5 h cq nq ⟨S5, hR, hX5, rfl, rfl, hE5, rfl⟩
    replace hE5 := Eq.symm hE5
    subst hE5
    replace hX := hX.tr hX5
    refine x_bipush (v := zI 39) d_Mo_readValue_8 (by decide) ?_
    have h39' : ¬ nw t (skp t p) = 39 := fun z => h39 (hnw.mp z)
    refine z_icmp_eq (tgt := 22) d_Mo_readValue_10 (by decide) (by omega) (by omega) (fun hq => by omega) (fun _ => ?_)
    refine x_aload_n d_Mo_readValue_13 rfl rfl ?_
    refine x_aload_n d_Mo_readValue_14 rfl rfl ?_
    refine x_get xf_Mo_193_Mo (Or.inl hR.1) (v := .int (zI ((skp t p : Nat) : Int))) rfl d_Mo_readValue_15 ?_
    have hb15 : inR ((skp t p : Nat) : Int) := hR.2.2.2 27
    refine x_callV (As := [_]) (k := k_MarkerTextModel) rfl xcv_Mo_218_Mo (Or.inl hR.1) (RM.ap hR (r_fault (by omega))) rfl rfl (Nat.le_of_ble_eq_true rfl) d_Mo_readValue_18 ?_
    rintro v18 h cq nq ⟨S18, hR, hX18, rfl, rfl, a18, rfl, rfl, ha18⟩
    replace hX := hX.tr hX18
    refine x_vret d_Mo_readValue_21 rfl ?_
    exact ⟨_, hR, hX, rfl, rfl, rfl, (rSm.r0.sp (j := 27) (by decide)).sp (j := 29) (by decide), by show 0 ≤ ((skp t p : Nat) : Int) ∧ ((skp t p : Nat) : Int) ≤ S.1 2; omega, Or.inl ⟨by rw [hrv], by rw [hrv]; show a18 = _; exact flt ha18 hw, (rSm.r0.sp (j := 27) (by decide)).sp (j := 29) (by decide)⟩⟩
end RH5
