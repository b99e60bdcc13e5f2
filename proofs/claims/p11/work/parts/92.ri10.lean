section

end
section RI10
variable {l : Launch} {G : XG} {h : XH} {c n d : Nat} {o : Nat} {rf : Nat → Nat} {S : MS}
/-- the classes of both are alike -/
def ptZ (nc : Nat) (p : PtT) (z : Int) (us vs : List Int) : Prop := z = ((p.1 : Nat) : Int) ∧ ∀ k : Nat, k < p.1 → gd us ((k : Nat) : Int) = ((p.2.1.getD k 0 : Nat) : Int) ∧ gd vs ((k : Nat) : Int) = ((p.2.2.1.getD k 0 : Nat) : Int) ∧ ∀ j, nc ≤ j → (p.2.1.getD k 0).testBit j = false
/-- each truth's class -/
def ptC (p : PtT) : Prop := ∀ b k : Nat, b < 256 → (p.2.2.2.2.1.getD b 0 = k + 1 ↔ k < p.1 ∧ p.2.1.getD k 0 = b)
theorem ptC.no {p : PtT} {b : Nat} (hc : ptC p) (hb : b < 256) (hne : ∀ k, k < p.1 → p.2.1.getD k 0 ≠ b) : p.2.2.2.2.1.getD b 0 = 0 := by
  cases hz : p.2.2.2.2.1.getD b 0 with
  | zero => rfl
  | succ k =>
    have := (hc b k hb).mp hz
    exact absurd this.2 (hne k this.1)
theorem ptC.z {a1 a2 a3 a4 : List Nat} : ptC (0, a1, a2, a3, List.replicate 256 0, a4) := fun b k _ => by
  refine ⟨fun e => ?_, fun e => absurd e.1 (Nat.not_lt_zero _)⟩
  have e : (List.replicate 256 0 : List Nat).getD b 0 = k + 1 := e
  have e0 : (List.replicate 256 0 : List Nat).getD b 0 = 0 := by
    rw [List.getD_eq_getElem?_getD, List.getElem?_replicate]
    split <;> rfl
  omega
theorem ptZ.cl {nc : Nat} {p : PtT} {z : Int} {us vs : List Int} (hA : ptZ nc p z us vs) (hP : okP p) (hc : ptC p) : clB us z := by
  obtain ⟨e, ha⟩ := hA
  have hb : ∀ k : Nat, p.2.1.getD k 0 < 256 := fun k => getD_le (P := fun v => v < 256) hP.2.2.2.2.2.2.1 (by decide) k
  refine ⟨fun i h0 h1 => ?_, fun i j h0 h1 h2 he => ?_⟩
  · obtain ⟨k, rfl⟩ : ∃ k : Nat, i = k := ⟨i.toNat, by omega⟩
    have a1 := (ha k (by omega)).1
    have := hb k
    omega
  · obtain ⟨a, rfl⟩ : ∃ k : Nat, i = k := ⟨i.toNat, by omega⟩
    obtain ⟨b, rfl⟩ : ∃ k : Nat, j = k := ⟨j.toNat, by omega⟩
    have a1 := (ha a (by omega)).1
    have b1 := (ha b (by omega)).1
    have e1 := (hc (p.2.1.getD a 0) a (hb a)).mpr ⟨by omega, rfl⟩
    have e2 := (hc (p.2.1.getD a 0) b (hb a)).mpr ⟨by omega, by omega⟩
    omega
theorem cin1_new {p : PtT} {b ch : Nat} (hc : ptC p) (hb : b < 256) (h1 : p.1 < 256) (hne : ∀ k, k < p.1 → p.2.1.getD k 0 ≠ b) : cin1 p b ch = (p.1 + 1, p.2.1.set p.1 b, p.2.2.1.set p.1 0, p.2.2.2.1.set p.1 ch, p.2.2.2.2.1.set b (p.1 + 1), p.2.2.2.2.2) := if_pos ⟨hc.no hb hne, h1⟩
theorem cin_2 {p : PtT} {b ch k : Nat} (hk : (cin1 p b ch).2.2.2.2.1.getD b 0 = k + 1) : cin p b ch = cin2 (cin1 p b ch) k := by
  have h3 : cin p b ch = if 1 ≤ (cin1 p b ch).2.2.2.2.1.getD b 0 then cin2 (cin1 p b ch) ((cin1 p b ch).2.2.2.2.1.getD b 0 - 1) else cin1 p b ch := rfl
  rw [h3, hk]
  exact if_pos (Nat.le_add_left 1 k)
theorem cin_old {p : PtT} {b ch k : Nat} (hc : ptC p) (hb : b < 256) (hk : k < p.1) (he : p.2.1.getD k 0 = b) : cin p b ch = cin2 p k := by
  have h1 := (hc b k hb).mpr ⟨hk, he⟩
  have h2 : cin1 p b ch = p := if_neg (fun z => by have := z.1; omega)
  have h3 := cin_2 (p := p) (b := b) (ch := ch) (k := k) (by rw [h2]; exact h1)
  rw [h2] at h3
  exact h3
theorem ptC.new {p : PtT} {b : Nat} {a2 a3 a4 : List Nat} (hP : okP p) (hc : ptC p) (hb : b < 256) (h1 : p.1 < 256) (hne : ∀ k, k < p.1 → p.2.1.getD k 0 ≠ b) : ptC (p.1 + 1, p.2.1.set p.1 b, a2, a3, p.2.2.2.2.1.set b (p.1 + 1), a4) := fun c k hcb => by
  show (p.2.2.2.2.1.set b (p.1 + 1)).getD c 0 = k + 1 ↔ k < p.1 + 1 ∧ (p.2.1.set p.1 b).getD k 0 = c
  have l1 := hP.2.1
  have l2 := hP.2.2.2.2.1
  have hq := hc c k hcb
  rw [getD_set (by omega), getD_set (by omega)]
  by_cases e1 : c = b
  · subst e1
    rw [if_pos rfl]
    by_cases e2 : k = p.1
    · rw [if_pos e2]
      exact ⟨fun _ => ⟨by omega, rfl⟩, fun _ => by omega⟩
    · rw [if_neg e2]
      exact ⟨fun z => by omega, fun z => absurd z.2 (hne k (by omega))⟩
  · rw [if_neg e1]
    by_cases e2 : k = p.1
    · rw [if_pos e2]
      exact ⟨fun z => by have := (hq.mp z).1; omega, fun z => absurd z.2.symm e1⟩
    · rw [if_neg e2]
      exact ⟨fun z => ⟨by have := (hq.mp z).1; omega, (hq.mp z).2⟩, fun z => hq.mpr ⟨by have := z.1; omega, z.2⟩⟩
theorem ptZ.new {nc : Nat} {p : PtT} {z : Int} {us vs : List Int} {b : Nat} {a3 a4 a5 : List Nat} (hA : ptZ nc p z us vs) (hP : okP p) (l1 : us.length = 256) (l2 : vs.length = 256) (h1 : p.1 < 256) (hb : ∀ j, nc ≤ j → b.testBit j = false) : ptZ nc (p.1 + 1, p.2.1.set p.1 b, p.2.2.1.set p.1 0, a3, a4, a5) (z + 1) (se us z ((b : Nat) : Int)) (se vs z 0) := by
  obtain ⟨e, ha⟩ := hA
  have m1 := hP.2.1
  have m2 := hP.2.2.1
  refine ⟨by show z + 1 = ((p.1 + 1 : Nat) : Int); omega, fun k hk => ?_⟩
  have hk : k < p.1 + 1 := hk
  show gd (se us z ((b : Nat) : Int)) ((k : Nat) : Int) = (((p.2.1.set p.1 b).getD k 0 : Nat) : Int) ∧ gd (se vs z 0) ((k : Nat) : Int) = (((p.2.2.1.set p.1 0).getD k 0 : Nat) : Int) ∧ ∀ j, nc ≤ j → ((p.2.1.set p.1 b).getD k 0).testBit j = false
  rw [gd_se_of l1 (by omega) (by omega) (by omega), gd_se_of l2 (by omega) (by omega) (by omega), getD_set (by omega), getD_set (by omega)]
  by_cases e2 : k = p.1
  · rw [if_pos e2, if_pos e2, if_pos (show ((k : Nat) : Int) = z by omega), if_pos (show ((k : Nat) : Int) = z by omega)]
    exact ⟨rfl, rfl, hb⟩
  · rw [if_neg e2, if_neg e2, if_neg (show ¬ ((k : Nat) : Int) = z by omega), if_neg (show ¬ ((k : Nat) : Int) = z by omega)]
    exact ha k (by omega)
theorem ptZ.cnt {nc : Nat} {p : PtT} {z : Int} {us vs : List Int} {k : Nat} (hA : ptZ nc p z us vs) (hP : okP p) (l2 : vs.length = 256) (hk : k < p.1) : ptZ nc (cin2 p k) z us (se vs ((k : Nat) : Int) (gd vs ((k : Nat) : Int) + 1)) := by
  obtain ⟨e, ha⟩ := hA
  have m1 := hP.1
  have m2 := hP.2.2.1
  refine ⟨e, fun q hq => ?_⟩
  have hq : q < p.1 := hq
  obtain ⟨b1, b2, b3⟩ := ha q hq
  refine ⟨b1, ?_, b3⟩
  show gd (se vs ((k : Nat) : Int) (gd vs ((k : Nat) : Int) + 1)) ((q : Nat) : Int) = (((p.2.2.1.set k (p.2.2.1.getD k 0 + 1)).getD q 0 : Nat) : Int)
  rw [gd_se_of l2 (by omega) (by omega) (by omega), getD_set (by omega)]
  by_cases e2 : q = k
  · have hgk := (ha k hk).2.1
    rw [if_pos e2, if_pos (show ((q : Nat) : Int) = ((k : Nat) : Int) by omega)]
    omega
  · rw [if_neg e2, if_neg (show ¬ ((q : Nat) : Int) = ((k : Nat) : Int) by omega)]
    exact b2
theorem trs_hi {Cs : List CnT} {w : Nat} {lv : Nat → Nat} : ∀ n j, Cs.length ≤ j → (trs Cs w lv n).testBit j = false := by
  intro n
  induction n with
  | zero => intro j _; exact Nat.zero_testBit j
  | succ n ih =>
    intro j hj
    have hst : trs Cs w lv (n + 1) = if trB Cs w lv n then trs Cs w lv n ||| 2 ^ n else trs Cs w lv n := rfl
    rw [hst]
    by_cases hb : trB Cs w lv n = true
    · have hn : n < Cs.length := Decidable.byContradiction (fun z => by
        have e : trB Cs w lv n = false := by
          unfold trB
          rw [List.getElem?_eq_none (by omega)]
          exact Bool.and_false _
        rw [e] at hb
        cases hb)
      rw [if_pos hb, Nat.testBit_or, ih j hj, Nat.testBit_two_pow_of_ne (by omega)]
      first | done | rfl
    · rw [if_neg hb]
      exact ih j hj
theorem msk_r {w : Int} {nc : Nat} (hn : nc ≤ 8) : (zI w &&& zI ((zI ((zI 1 <<< (zI ((nc : Nat) : Int) &&& 31)).toInt - 1)).toInt)).toInt = ((stN (zI w) nc : Nat) : Int) := by
  have hl := stN_lt (w := zI w) hn
  rw [zI_of, ← zI_sub, zI_of, zI_nI (k := nc) (by omega), show zI 1 = (1 : Int32) by decide, (msk_at nc hn).1, stN_eq (zI w) rfl, nI_ti (by omega)]
theorem hasK_z {p : PtT} {k : Int} (hk : inR k) : hasK p (zI k) = decide (0 ≤ k ∧ k < p.1) := by
  unfold hasK
  rw [decide_eq_decide, z0, zI_lt hk zR0, zI_clamp hk]
  omega
/-- while classes() goes by -/
def caI (Ns : List NmT) (Cs : List CnT) (w : Nat) (S : MS) (pk : List Nat) (i : Nat) (p : PtT) (S1 : MS) : Prop := rSm S S1 caJ caA [37] ∧ (0 ≤ S1.1 44 ∧ S1.1 44 ≤ 6) ∧ okP p ∧ (∀ k, k < p.1 → p.2.2.1.getD k 0 ≤ i) ∧ ptC p ∧ ptZ Cs.length p (S1.1 42) (S1.2.1 45) (S1.2.1 46) ∧ chI Ns Cs w pk S1
/-- how classes() ends, in full -/
abbrev caX (S : MS) (nc : Nat) (x : Int32) (Z : PtT) : Option Value → MS → Prop := fun v S' => v = some (.int x) ∧ rSm S S' caJ caA [37] ∧ clOk S' ∧ okP Z ∧ ptZ nc Z (S'.1 42) (S'.2.1 45) (S'.2.1 46)
theorem r_classesX {w : Int} {Ns : List NmT} {Cs : List CnT} {il : Option Nat} {r : LyT} {Pt : PtT} (hd : 5 ≤ d) (hw : inR w) (hn : nmOk S) (hC : csOk S) (hK4 : clOk S) (hN : nmR Ns S) (h6 : Ns.length ≤ 6) (hK : knR Ns S) (hQ : cqR Ns Cs il S) (hPt : okP Pt) (hAt : ptZ Cs.length Pt (S.1 42) (S.2.1 45) (S.2.1 46)) (hr : lyW Ns Cs (stN (zI w) Cs.length) 6 r) : RM l G d M_Mo_classes [.ref o, .int (zI w)] o rf S (caX S Cs.length (if r.2.2.2 ≤ 20000 then nI (clP Cs (stN (zI w) Cs.length) r Pt).1 else -1) (clP Cs (stN (zI w) Cs.length) r Pt)) := by
  obtain ⟨d, rfl⟩ : ∃ q, d = q + 1 := ⟨d - 1, by omega⟩
  intro H0 c n hR
  refine XM.of (by decide +kernel) (Nat.le_of_ble_eq_true rfl) ?_
  have hX : xonly H0 H0 RKs := xonly.rf
  obtain ⟨n1, n2, -⟩ := id hn
  obtain ⟨k1, k2, k3⟩ := id hC
  have c1 := hQ.1
  have h8 : Cs.length ≤ 8 := by omega
  have hW := stN_lt (w := zI w) h8
  have hmk := msk_r (w := w) h8
  rw [← c1] at hmk
  generalize stN (zI w) Cs.length = W at *
  have hrc := hr.2.2.2.2
  have hts := hQ.its
  have hpd : pdN Ns Cs W 6 = pdN Ns Cs W Ns.length := by
    have := pdN_out (Ns := Ns) (Cs := Cs) (w := W) (N := Ns.length) (fun D hD t ht => (hts D hD t ht).1) (6 - Ns.length)
    rw [show Ns.length + (6 - Ns.length) = 6 by omega] at this
    exact this
  have ex : ∀ (Z : PtT) (S1 : MS) (w4 w5 w6 : Option Value), rSm S S1 caJ caA [37] → clOk S1 → okP Z → ptZ Cs.length Z (S1.1 42) (S1.2.1 45) (S1.2.1 46) → RX l G M_Mo_classes (d + 1) 46 [some (.ref o), some (.int (zI w)), some (.int (zI ((W : Nat) : Int))), some (.int (zI 0)), w4, w5, w6] [] H0 o rf c n S1 (caX S Cs.length (nI Z.1) Z) := by
    intro Z S1 w4 w5 w6 hsm hk hP hA h hR hX
    have hP1 := hP.1
    have hv : zI (S1.1 42) = nI Z.1 := by rw [hA.1, zI_nI (by omega)]
    rw [← hv]
    refine x_iload_n d_Mo_classes_46 rfl ?_
    refine z_if_eq (tgt := 178) d_Mo_classes_47 (by decide) (by omega) (fun _ => ?_) (fun hq => by omega)
    refine x_aload_n d_Mo_classes_178 rfl rfl ?_
    refine x_get xf_Mo_314_Mo (Or.inl hR.1) (v := .int (zI (S1.1 42))) rfl d_Mo_classes_179 ?_
    have hb179 : inR (S1.1 42) := hR.2.2.2 42
    refine x_iret d_Mo_classes_182 rfl ?_
    exact ⟨_, hR, hX, rfl, rfl, rfl, hsm, hk, hP, hA⟩
  -- one CHOICE
  have bd : ∀ (Z : PtT) (S1 : MS) (pk : List Nat) (i T : Nat) (p : PtT) (w4 w5 w6 : Option Value), T = trs Cs W (lvF r.1.1 r.1.2 r.2.1 pk) 8 → caI Ns Cs W S pk i p S1 → i < 20000 → (∀ (S2 : MS) (w4 w5 w6 : Option Value), caI Ns Cs W S (advP r.2.2.1 6 pk) (i + 1) (cin p T i) S2 → remS S2 + 1 = remS S1 → RX l G M_Mo_classes (d + 1) 46 [some (.ref o), some (.int (zI w)), some (.int (zI ((W : Nat) : Int))), some (.int (zI 1)), w4, w5, w6] [] H0 o rf c n S2 (caX S Cs.length (nI Z.1) Z)) → (remS S1 = 0 → cin p T i = Z) → RX l G M_Mo_classes (d + 1) 46 [some (.ref o), some (.int (zI w)), some (.int (zI ((W : Nat) : Int))), some (.int (zI 1)), w4, w5, w6] [] H0 o rf c n S1 (caX S Cs.length (nI Z.1) Z) := by
    intro Z S1 pk i T p w4 w5 w6 hT hcI hi nx hZ
    obtain ⟨hsm, h44, hP, hs, hcl, hA, hI⟩ := hcI
    have htl : T < 256 := by rw [hT]; exact trs_lt 8 (by omega)
    have htb : ∀ j, Cs.length ≤ j → T.testBit j = false := fun j hj => by rw [hT]; exact trs_hi 8 j hj
    obtain ⟨hP', hs'⟩ := cin_ok (ch := i) hP hs htl hi hi
    have hone := r_oneX (l := l) (G := G) (o := o) (rf := rf) (d := d) (by omega) hW (hC.sm hsm (by decide) (by decide)) (hN.sm hsm (by decide) (by decide)) h6 (hK.kp hsm (by decide) (by decide)) (hQ.sm hsm (by decide) (by decide) (by decide) (by decide)) hr hI
    rw [← hT] at hone
    have hB := hA.cl hP hcl
    have hle := hB.le
    have h42 := hA.1
    -- it is counted
    have j159 : ∀ (S4 : MS) (p4 : PtT) (z : Int) (k : Nat) (w6 : Option Value), z = ((k : Nat) : Int) → rSm S S4 caJ caA [37] → (0 ≤ S4.1 44 ∧ S4.1 44 ≤ 6) → chI Ns Cs W pk S4 → ptZ Cs.length p4 (S4.1 42) (S4.2.1 45) (S4.2.1 46) → okP p4 → k < p4.1 → cin2 p4 k = cin p T i → ptC p4 → remS S4 = remS S1 → RX l G M_Mo_classes (d + 1) 159 [some (.ref o), some (.int (zI w)), some (.int (zI ((W : Nat) : Int))), some (.int (zI 1)), some (.int (zI ((T : Nat) : Int))), some (.int (zI z)), w6] [] H0 o rf c n S4 (caX S Cs.length (nI Z.1) Z) := by
      intro S4 p4 z k w6 hz hsm4 h444 hI4 hA4 hP4 hk hcin hC4 hrem h hR hX
      have hk256 := hP4.1
      have l46 : (S4.2.1 46).length = 256 := hR.len 46 (by decide)
      have hgd : gd (S4.2.1 46) z = ((p4.2.2.1.getD k 0 : Nat) : Int) := by rw [hz]; exact (hA4.2 k hk).2.1
      have hgb := getD_le (P := fun v => v ≤ 20000) hP4.2.2.2.2.2.2.2.1 (Nat.zero_le _) k
      have hti : (zI (gd (S4.2.1 46) z + 1)).toInt = gd (S4.2.1 46) z + 1 := zI_ti ⟨by omega, by omega⟩
      have hA6 : ptZ Cs.length (cin p T i) (S4.1 42) (S4.2.1 45) (se (S4.2.1 46) z (zI (gd (S4.2.1 46) z + 1)).toInt) := by
        rw [hti, ← hcin, hz]
        exact hA4.cnt hP4 l46 hk
      have hC7 : ptC (cin p T i) := by rw [← hcin]; exact hC4
      refine x_aload_n d_Mo_classes_159 rfl rfl ?_
      refine x_get xf_Mo_109_Mo (Or.inl hR.1) (v := .ref (rf 46)) rfl d_Mo_classes_160 ?_
      refine x_iload d_Mo_classes_163 rfl ?_
      refine x_dup2_11 d_Mo_classes_165 rfl rfl ?_
      refine r_iald (i := 46) (us := (S4.2.1 46)) rfl (by decide) hR rfl (by omega) (by show z < 256; omega) d_Mo_classes_166 (fun hr166 => ?_)
      refine x_iconst (v := zI 1) d_Mo_classes_167 (by decide) ?_
      refine z_iadd d_Mo_classes_168 (x_zi ?_)
      have hr168 := inR_ti (zI ((gd (S4.2.1 46) z) + 1))
      refine r_iast (i := 46) (us := (S4.2.1 46)) ⟨rfl, rfl⟩ (by decide) hR hX rfl (by omega) (by show z < 256; omega) (by omega) d_Mo_classes_169 ?_
      intro h hR hX
      refine x_aload_n d_Mo_classes_170 rfl rfl ?_
      refine x_callV (As := []) (k := k_MarkerTextModel) rfl xcv_Mo_308_Mo (Or.inl hR.1) (RM.ap hR (r_nextX (S := sa S4 46 (se (S4.2.1 46) z (zI (gd (S4.2.1 46) z + 1)).toInt)) (by omega) (hN.sm (hsm4.sa (i := 46) (by decide)) (by decide) (by decide)) h6 hr (by exact hI4))) rfl rfl (Nat.le_of_ble_eq_true rfl) d_Mo_classes_171 ?_
      rintro v171 h cq nq ⟨S171, hR, hX171, rfl, rfl, r171, rfl, hr171, hsm171, hI171, hr1, hr0⟩
      replace hX := hX.tr hX171
      refine x_istore_n (L' := [_, _, _, _, _, _, _]) d_Mo_classes_174 rfl rfl ?_
      refine x_goto (tgt := 46) d_Mo_classes_175 (by decide) ?_
      have hz7 : remS (sa S4 46 (se (S4.2.1 46) z (zI (gd (S4.2.1 46) z + 1)).toInt)) = remS S4 := rfl
      have hsm7 := (hsm4.sa (i := 46) (us := se (S4.2.1 46) z (zI (gd (S4.2.1 46) z + 1)).toInt) (by decide)).tr (hsm171.mono (by decide) (by decide) (by decide))
      have f42 : S171.1 42 = S4.1 42 := hsm171.1 42 (by decide)
      have f44 : S171.1 44 = S4.1 44 := hsm171.1 44 (by decide)
      have f45 : S171.2.1 45 = S4.2.1 45 := hsm171.2.1 45 (by decide)
      have f46 : S171.2.1 46 = se (S4.2.1 46) z (zI (gd (S4.2.1 46) z + 1)).toInt := hsm171.2.1 46 (by decide)
      rw [← f42, ← f45, ← f46] at hA6
      have g42 := hA6.1
      have gP := hP'.1
      rcases hr171 with rfl | rfl
      · have hZ1 := hZ (by have := hr0 rfl; omega)
        subst hZ1
        exact ex _ S171 _ _ _ hsm7 ⟨by omega, by omega, by omega, by omega⟩ hP' hA6 _ hR hX
      · exact nx S171 _ _ _ ⟨hsm7, ⟨by omega, by omega⟩, hP', hs', hC7, hA6, hI171⟩ (by have := hr1 rfl; omega) _ hR hX
    -- a new class
    have j116 : ∀ (S4 : MS) (p4 : PtT) (z : Int) (k : Nat), z = ((k : Nat) : Int) → rSm S S4 caJ caA [37] → (0 ≤ S4.1 44 ∧ S4.1 44 ≤ 6) → chI Ns Cs W pk S4 → S4.1 42 = z → ptZ Cs.length p4 (z + 1) (S4.2.1 45) (S4.2.1 46) → okP p4 → k < p4.1 → cin2 p4 k = cin p T i → ptC p4 → remS S4 = remS S1 → ∀ (K : Nat) (us : List Int) (q : Int), 0 ≤ q → q ≤ 6 → 6 - q ≤ K → RX l G M_Mo_classes (d + 1) 116 [some (.ref o), some (.int (zI w)), some (.int (zI ((W : Nat) : Int))), some (.int (zI 1)), some (.int (zI ((T : Nat) : Int))), some (.int (zI z)), some (.int (zI q))] [] H0 o rf c n (sa S4 47 us) (caX S Cs.length (nI Z.1) Z) := by
      intro S4 p4 z k hz hsm4 h444 hI4 h424 hA4 hP4 hk hcin hC4 hrem K
      have hk256 := hP4.1
      induction K with
      | zero =>
        intro us q hq0 hq6 hK1 h hR hX
        refine x_iload d_Mo_classes_116 rfl ?_
        refine x_bipush (v := zI 6) d_Mo_classes_118 (by decide) ?_
        refine z_icmp_ge (tgt := 149) d_Mo_classes_120 (by decide) (by omega) (by omega) (fun _ => ?_) (fun hq => by omega)
        refine x_aload_n d_Mo_classes_149 rfl rfl ?_
        refine x_dup d_Mo_classes_150 rfl ?_
        refine x_get xf_Mo_314_Mo (Or.inl hR.1) (v := .int (zI (S4.1 42))) rfl d_Mo_classes_151 ?_
        have hb151 : inR (S4.1 42) := hR.2.2.2 42
        refine x_iconst (v := zI 1) d_Mo_classes_154 (by decide) ?_
        refine z_iadd d_Mo_classes_155 ?_
        refine r_put xf_Mo_314_Mo xp_Mo_42 hR hX (by omega) rfl rfl d_Mo_classes_156 ?_
        intro h hR hX
        exact j159 (sp (sa S4 47 us) 42 (S4.1 42 + 1)) p4 z k _ hz ((hsm4.sa (by decide)).sp (by decide)) h444 (by exact hI4) (by show ptZ Cs.length p4 (S4.1 42 + 1) (S4.2.1 45) (S4.2.1 46); rw [h424]; exact hA4) hP4 hk hcin hC4 hrem _ hR hX
      | succ K ih =>
        intro us q hq0 hq6 hK1 h hR hX
        refine x_iload d_Mo_classes_116 rfl ?_
        refine x_bipush (v := zI 6) d_Mo_classes_118 (by decide) ?_
        refine z_icmp_ge (tgt := 149) d_Mo_classes_120 (by decide) (by omega) (by omega) (fun hc120 => ?_) (fun hc120 => ?_)
        · refine x_aload_n d_Mo_classes_149 rfl rfl ?_
          refine x_dup d_Mo_classes_150 rfl ?_
          refine x_get xf_Mo_314_Mo (Or.inl hR.1) (v := .int (zI (S4.1 42))) rfl d_Mo_classes_151 ?_
          have hb151 : inR (S4.1 42) := hR.2.2.2 42
          refine x_iconst (v := zI 1) d_Mo_classes_154 (by decide) ?_
          refine z_iadd d_Mo_classes_155 ?_
          refine r_put xf_Mo_314_Mo xp_Mo_42 hR hX (by omega) rfl rfl d_Mo_classes_156 ?_
          intro h hR hX
          exact j159 (sp (sa S4 47 us) 42 (S4.1 42 + 1)) p4 z k _ hz ((hsm4.sa (by decide)).sp (by decide)) h444 (by exact hI4) (by show ptZ Cs.length p4 (S4.1 42 + 1) (S4.2.1 45) (S4.2.1 46); rw [h424]; exact hA4) hP4 hk hcin hC4 hrem _ hR hX
        · refine x_aload_n d_Mo_classes_123 rfl rfl ?_
          refine x_get xf_Mo_112_Mo (Or.inl hR.1) (v := .ref (rf 47)) rfl d_Mo_classes_124 ?_
          refine x_bipush (v := zI 6) d_Mo_classes_127 (by decide) ?_
          refine x_iload d_Mo_classes_129 rfl ?_
          refine z_imul d_Mo_classes_131 ?_
          refine x_iload d_Mo_classes_132 rfl ?_
          refine z_iadd d_Mo_classes_134 ?_
          refine x_aload_n d_Mo_classes_135 rfl rfl ?_
          refine x_get xf_Mo_100_Mo (Or.inl hR.1) (v := .ref (rf 40)) rfl d_Mo_classes_136 ?_
          refine x_iload d_Mo_classes_139 rfl ?_
          refine r_iald (i := 40) (us := (S4.2.1 40)) rfl (by decide) hR rfl (by omega) (by show q < 6; omega) d_Mo_classes_141 (fun hr141 => ?_)
          refine r_iast (i := 47) (us := us) ⟨rfl, rfl⟩ (by decide) hR hX rfl (by omega) (by show 6 * z + q < 1536; omega) (by omega) d_Mo_classes_142 ?_
          intro h hR hX
          refine x_iinc (v := zI (q + 1)) (L' := [_, _, _, _, _, _, _]) d_Mo_classes_143 rfl (zI_add _ _) rfl rfl ?_
          refine x_goto (tgt := 116) d_Mo_classes_146 (by decide) ?_
          exact ih _ (q + 1) (by omega) (by omega) (by omega) _ (by rw [sa_sa] at hR; exact hR) hX
    -- which class
    have j87 : ∀ (us : List Int) (z : Int) (w6 : Option Value), 0 ≤ z → z ≤ S1.1 42 → (∀ q : Int, 0 ≤ q → q < z → gd (S1.2.1 45) q ≠ ((T : Nat) : Int)) → (z = S1.1 42 ∨ gd (S1.2.1 45) z = ((T : Nat) : Int)) → RX l G M_Mo_classes (d + 1) 87 [some (.ref o), some (.int (zI w)), some (.int (zI ((W : Nat) : Int))), some (.int (zI 1)), some (.int (zI ((T : Nat) : Int))), some (.int (zI z)), w6] [] H0 o rf c n (sa S1 41 us) (caX S Cs.length (nI Z.1) Z) := by
      intro us z w6 hz0 hz1 hne hor h hR hX
      have l45 : (S1.2.1 45).length = 256 := hR.len 45 (by decide)
      have l46 : (S1.2.1 46).length = 256 := hR.len 46 (by decide)
      by_cases hz : z = S1.1 42
      · have hne' : ∀ k : Nat, k < p.1 → p.2.1.getD k 0 ≠ T := fun k hk e => hne ((k : Nat) : Int) (by omega) (by omega) (by rw [(hA.2 k hk).1, e])
        have hlt := hB.lt (b := ((T : Nat) : Int)) l45 (by omega) ⟨by omega, by omega⟩ (by rw [← hz]; exact hne)
        have hp1 : p.1 < 256 := by omega
        have e1 := cin1_new (ch := i) hcl htl hp1 hne'
        have hP4 := (cin1_ok (ch := i) hP hs htl hi).1
        have hC4 : ptC (cin1 p T i) := by rw [e1]; exact ptC.new hP hcl htl hp1 hne'
        have hcin := cin_2 (p := p) (b := T) (ch := i) (k := p.1) ((hC4 T p.1 htl).mpr (by
          rw [e1]
          refine ⟨Nat.lt_succ_self _, ?_⟩
          show (p.2.1.set p.1 T).getD p.1 0 = T
          have := hP.2.1
          rw [getD_set (by omega), if_pos rfl]))
        have hk4 : p.1 < (cin1 p T i).1 := by rw [e1]; exact Nat.lt_succ_self _
        have hA4 : ptZ Cs.length (cin1 p T i) (z + 1) (se (S1.2.1 45) z ((T : Nat) : Int)) (se (S1.2.1 46) z 0) := by
          rw [e1]
          refine ptZ.new ?_ hP l45 l46 hp1 htb
          rw [hz]
          exact hA
        generalize cin1 p T i = p4 at *
        refine x_iload d_Mo_classes_87 rfl ?_
        refine x_aload_n d_Mo_classes_89 rfl rfl ?_
        refine x_get xf_Mo_314_Mo (Or.inl hR.1) (v := .int (zI (S1.1 42))) rfl d_Mo_classes_90 ?_
        have hb90 : inR (S1.1 42) := hR.2.2.2 42
        refine z_icmp_ne (tgt := 159) d_Mo_classes_93 (by decide) (by omega) (by omega) (fun hq => by omega) (fun _ => ?_)
        refine x_aload_n d_Mo_classes_96 rfl rfl ?_
        refine x_get xf_Mo_106_Mo (Or.inl hR.1) (v := .ref (rf 45)) rfl d_Mo_classes_97 ?_
        refine x_iload d_Mo_classes_100 rfl ?_
        refine x_iload d_Mo_classes_102 rfl ?_
        refine r_iast (i := 45) (us := (S1.2.1 45)) ⟨rfl, rfl⟩ (by decide) hR hX rfl (by omega) (by show z < 256; omega) (by omega) d_Mo_classes_104 ?_
        intro h hR hX
        refine x_aload_n d_Mo_classes_105 rfl rfl ?_
        refine x_get xf_Mo_109_Mo (Or.inl hR.1) (v := .ref (rf 46)) rfl d_Mo_classes_106 ?_
        refine x_iload d_Mo_classes_109 rfl ?_
        refine x_iconst (v := zI 0) d_Mo_classes_111 (by decide) ?_
        refine r_iast (i := 46) (us := (S1.2.1 46)) ⟨rfl, rfl⟩ (by decide) hR hX rfl (by omega) (by show z < 256; omega) (by omega) d_Mo_classes_112 ?_
        intro h hR hX
        refine x_iconst (v := zI 0) d_Mo_classes_113 (by decide) ?_
        refine x_istore (L' := [_, _, _, _, _, _, _]) d_Mo_classes_114 rfl rfl ?_
        exact j116 (sa (sa (sa S1 41 us) 45 (se (S1.2.1 45) z ((T : Nat) : Int))) 46 (se (S1.2.1 46) z 0)) p4 z p.1 (by omega) (((hsm.sa (by decide)).sa (by decide)).sa (by decide)) h44 (by exact hI) hz.symm (by exact hA4) hP4 hk4 hcin.symm hC4 rfl 6 _ 0 (by omega) (by omega) (by omega) _ (by rw [sa_id (i := 47)]; exact hR) hX
      · have hgz := hor.resolve_left hz
        obtain ⟨k, rfl⟩ : ∃ k : Nat, z = k := ⟨z.toNat, by omega⟩
        have hk : k < p.1 := by omega
        have hkb : p.2.1.getD k 0 = T := by have := (hA.2 k hk).1; omega
        refine x_iload d_Mo_classes_87 rfl ?_
        refine x_aload_n d_Mo_classes_89 rfl rfl ?_
        refine x_get xf_Mo_314_Mo (Or.inl hR.1) (v := .int (zI (S1.1 42))) rfl d_Mo_classes_90 ?_
        have hb90 : inR (S1.1 42) := hR.2.2.2 42
        refine z_icmp_ne (tgt := 159) d_Mo_classes_93 (by decide) (by omega) (by omega) (fun _ => ?_) (fun hq => by omega)
        exact j159 (sa S1 41 us) p _ k _ rfl (hsm.sa (by decide)) h44 (by exact hI) (by exact hA) hP hk (cin_old hcl htl hk hkb).symm hcl rfl _ hR hX
    have l60 : ∀ (us : List Int) (w6 : Option Value) (K : Nat) (z : Int), 0 ≤ z → z ≤ S1.1 42 → (∀ q : Int, 0 ≤ q → q < z → gd (S1.2.1 45) q ≠ ((T : Nat) : Int)) → S1.1 42 - z ≤ K → RX l G M_Mo_classes (d + 1) 60 [some (.ref o), some (.int (zI w)), some (.int (zI ((W : Nat) : Int))), some (.int (zI 1)), some (.int (zI ((T : Nat) : Int))), some (.int (zI z)), w6] [] H0 o rf c n (sa S1 41 us) (caX S Cs.length (nI Z.1) Z) := by
      intro us w6 K
      induction K with
      | zero =>
        intro z hz0 hz1 hne hK1 h hR hX
        refine x_iload d_Mo_classes_60 rfl ?_
        refine x_aload_n d_Mo_classes_62 rfl rfl ?_
        refine x_get xf_Mo_314_Mo (Or.inl hR.1) (v := .int (zI (S1.1 42))) rfl d_Mo_classes_63 ?_
        have hb63 : inR (S1.1 42) := hR.2.2.2 42
        refine z_icmp_ge (tgt := 87) d_Mo_classes_66 (by decide) (by omega) (by omega) (fun _ => ?_) (fun hq => by omega)
        exact j87 us z _ hz0 hz1 hne (Or.inl (by omega)) _ hR hX
      | succ K ih =>
        intro z hz0 hz1 hne hK1 h hR hX
        refine x_iload d_Mo_classes_60 rfl ?_
        refine x_aload_n d_Mo_classes_62 rfl rfl ?_
        refine x_get xf_Mo_314_Mo (Or.inl hR.1) (v := .int (zI (S1.1 42))) rfl d_Mo_classes_63 ?_
        have hb63 : inR (S1.1 42) := hR.2.2.2 42
        refine z_icmp_ge (tgt := 87) d_Mo_classes_66 (by decide) (by omega) (by omega) (fun hc66 => ?_) (fun hc66 => ?_)
        · first | exact j87 us z _ hz0 hz1 hne (Or.inl (by omega)) _ hR hX | exact j87 us z _ hz0 hz1 hne (Or.inr hc78) _ hR hX
        · refine x_aload_n d_Mo_classes_69 rfl rfl ?_
          refine x_get xf_Mo_106_Mo (Or.inl hR.1) (v := .ref (rf 45)) rfl d_Mo_classes_70 ?_
          refine x_iload d_Mo_classes_73 rfl ?_
          refine r_iald (i := 45) (us := (S1.2.1 45)) rfl (by decide) hR rfl (by omega) (by show z < 256; omega) d_Mo_classes_75 (fun hr75 => ?_)
          refine x_iload d_Mo_classes_76 rfl ?_
          refine z_icmp_eq (tgt := 87) d_Mo_classes_78 (by decide) (by omega) (by omega) (fun hc78 => ?_) (fun hc78 => ?_)
          · first | exact j87 us z _ hz0 hz1 hne (Or.inl (by omega)) _ hR hX | exact j87 us z _ hz0 hz1 hne (Or.inr hc78) _ hR hX
          · refine x_iinc (v := zI (z + 1)) (L' := [_, _, _, _, _, _, _]) d_Mo_classes_81 rfl (zI_add _ _) rfl rfl ?_
            refine x_goto (tgt := 60) d_Mo_classes_84 (by decide) ?_
            exact ih (z + 1) (by omega) (by omega) (fun q q0 q1 => if hq : q = z then by rw [hq]; exact hc78 else hne q q0 (by omega)) (by omega) _ hR hX
    intro h hR hX
    refine x_iload_n d_Mo_classes_46 rfl ?_
    refine z_if_eq (tgt := 178) d_Mo_classes_47 (by decide) (by omega) (fun hq => by omega) (fun _ => ?_)
    refine x_aload_n d_Mo_classes_50 rfl rfl ?_
    refine x_iload_n d_Mo_classes_51 rfl ?_
    refine x_callV (As := [_]) (k := k_MarkerTextModel) rfl xcv_Mo_305_Mo (Or.inl hR.1) (RM.ap hR hone) rfl rfl (Nat.le_of_ble_eq_true rfl) d_Mo_classes_52 ?_
    rintro v52 h cq nq ⟨S52, hR, hX52, rfl, rfl, us52, rfl, rfl⟩
    replace hX := hX.tr hX52
    refine x_istore (L' := [_, _, _, _, _, _, _]) d_Mo_classes_55 rfl rfl ?_
    refine x_iconst (v := zI 0) d_Mo_classes_57 (by decide) ?_
    refine x_istore (L' := [_, _, _, _, _, _, _]) d_Mo_classes_58 rfl rfl ?_
    exact l60 us52 _ 256 0 (by omega) (by omega) (fun q q0 q1 => by omega) (by omega) _ hR hX
  have lp : ∀ (Z : PtT) (K : Nat) (S1 : MS) (pk : List Nat) (i : Nat) (p : PtT) (w4 w5 w6 : Option Value), caI Ns Cs W S pk i p S1 → remS S1 ≤ K → i + remS S1 < 20000 → ptL Cs W r (remS S1 + 1) i pk p = Z → RX l G M_Mo_classes (d + 1) 46 [some (.ref o), some (.int (zI w)), some (.int (zI ((W : Nat) : Int))), some (.int (zI 1)), w4, w5, w6] [] H0 o rf c n S1 (caX S Cs.length (nI Z.1) Z) := by
    intro Z K
    induction K with
    | zero =>
      intro S1 pk i p w4 w5 w6 hcI hK1 hi hZ
      refine bd Z S1 pk i _ p w4 w5 w6 rfl hcI (by omega) (fun S2 _ _ _ _ hr2 => by omega) (fun h0 => ?_)
      rw [h0] at hZ
      exact hZ
    | succ K ih =>
      intro S1 pk i p w4 w5 w6 hcI hK1 hi hZ
      refine bd Z S1 pk i _ p w4 w5 w6 rfl hcI (by omega) (fun S2 v4 v5 v6 hc2 hr2 => ih S2 _ _ _ v4 v5 v6 hc2 (by omega) (by omega) ?_) (fun h0 => ?_)
      · rw [hr2]
        exact hZ
      · rw [h0] at hZ
        exact hZ
  have hpr := r_prepareX (l := l) (G := G) (o := o) (rf := rf) (d := d) (S := sp S 0 0) (w := W) (by omega) hW hn hC hN h6 hK hQ
  obtain ⟨P1, P2, P3, P4, P5, P6, P7, P8, P9, P10, P11⟩ := id hPt
  by_cases hp : pdN Ns Cs W 6 ≤ 20000
  · have hdt : bZ (decide (pdN Ns Cs W 6 ≤ 20000)) = 1 := by rw [decide_eq_true hp]; rfl
    have hr4 : r.2.2.2 = pdN Ns Cs W 6 := by rw [hrc, Nat.min_eq_left (by omega)]
    have hcP : clP Cs W r Pt = ptL Cs W r r.2.2.2 0 (List.replicate 6 0) (0, Pt.2.1, Pt.2.2.1, Pt.2.2.2.1, List.replicate 256 0, r.2.2.1) := if_pos (by omega)
    rw [if_pos (show r.2.2.2 ≤ 20000 by omega)]
    generalize clP Cs W r Pt = Z at *
    refine x_aload_n d_Mo_classes_0 rfl rfl ?_
    refine x_iconst (v := zI 0) d_Mo_classes_1 (by decide) ?_
    refine r_put xf_Mo_121_Mo xp_Mo_0 hR hX (by omega) rfl rfl d_Mo_classes_2 ?_
    intro h hR hX
    refine x_iload_n d_Mo_classes_5 rfl ?_
    refine x_iconst (v := zI 1) d_Mo_classes_6 (by decide) ?_
    refine x_aload_n d_Mo_classes_7 rfl rfl ?_
    refine x_get xf_Mo_268_Mo (Or.inl hR.1) (v := .int (zI (S.1 11))) rfl d_Mo_classes_8 ?_
    have hb8 : inR (S.1 11) := hR.2.2.2 11
    refine x_ishl d_Mo_classes_11 (x_zi ?_)
    have hr11 := inR_ti (zI 1 <<< (zI (S.1 11) &&& 31))
    refine x_iconst (v := zI 1) d_Mo_classes_12 (by decide) ?_
    refine z_isub d_Mo_classes_13 (x_zi ?_)
    have hr13 := inR_ti (zI ((zI 1 <<< (zI (S.1 11) &&& 31)).toInt - 1))
    refine x_iand d_Mo_classes_14 (x_zi ?_)
    have hr14 := inR_ti (zI w &&& zI ((zI ((zI 1 <<< (zI (S.1 11) &&& 31)).toInt - 1)).toInt))
    rw [hmk]
    refine x_istore_n (L' := [_, _, _, _, _, _, _]) d_Mo_classes_15 rfl rfl ?_
    refine x_aload_n d_Mo_classes_16 rfl rfl ?_
    refine x_iload_n d_Mo_classes_17 rfl ?_
    refine x_callV (As := [_]) (k := k_MarkerTextModel) rfl xcv_Mo_302_Mo (Or.inl hR.1) (RM.ap hR hpr) rfl rfl (Nat.le_of_ble_eq_true rfl) d_Mo_classes_18 ?_
    rintro v18 h cq nq ⟨S18, hR, hX18, rfl, rfl, rfl, hsm18, hm18, hz18, hW18, hp18⟩
    replace hX := hX.tr hX18
    rw [hdt]
    refine z_if_ne (tgt := 26) d_Mo_classes_21 (by decide) (by omega) (fun _ => ?_) (fun hq => by omega)
    refine x_aload_n d_Mo_classes_26 rfl rfl ?_
    refine x_iconst (v := zI 0) d_Mo_classes_27 (by decide) ?_
    refine r_put xf_Mo_314_Mo xp_Mo_42 hR hX (by omega) rfl rfl d_Mo_classes_28 ?_
    intro h hR hX
    refine x_aload_n d_Mo_classes_31 rfl rfl ?_
    refine x_iload_n d_Mo_classes_32 rfl ?_
    refine r_put xf_Mo_317_Mo xp_Mo_43 hR hX (by omega) rfl rfl d_Mo_classes_33 ?_
    intro h hR hX
    refine x_aload_n d_Mo_classes_36 rfl rfl ?_
    refine x_aload_n d_Mo_classes_37 rfl rfl ?_
    refine x_get xf_Mo_147_Mo (Or.inl hR.1) (v := .int (zI (S18.1 3))) rfl d_Mo_classes_38 ?_
    have hb38 : inR (S18.1 3) := hR.2.2.2 3
    refine r_put xf_Mo_320_Mo xp_Mo_44 hR hX (by omega) rfl rfl d_Mo_classes_41 ?_
    intro h hR hX
    refine x_iconst (v := zI 1) d_Mo_classes_44 (by decide) ?_
    refine x_istore_n (L' := [_, _, _, _, _, _, _]) d_Mo_classes_45 rfl rfl ?_
    have f3 : S18.1 3 = S.1 3 := hsm18.1 3 (by decide)
    have hrm := rem_0 (S := sp S 0 0) hN h6 hsm18 hz18 hW18
    have hch := chI_0 (S := sp S 0 0) (w := W) hN h6 hn hsm18 hm18 hz18 hW18 hp18
    have hsv : ∀ v ∈ r.2.2.1, v ≤ 20001 := fun v hv => by
      obtain ⟨j, hj, e⟩ := List.getElem_of_mem hv
      have hj6 : j < 6 := by have := hr.2.2.1; omega
      have h1 := (hr.2.2.2.1 j hj6).2
      rw [List.getD_eq_getElem?_getD, List.getElem?_eq_getElem hj, e] at h1
      have h1 : v = smN (row Ns Cs W j) := h1
      have h2 := hm18 ((j : Nat) : Int) (by omega) (by omega)
      rw [hW18.len hj6] at h2
      unfold smN at h1
      split at h1 <;> omega
    have hP0 : okP (0, Pt.2.1, Pt.2.2.1, Pt.2.2.2.1, List.replicate 256 0, r.2.2.1) := ⟨by show 0 ≤ 256; decide, P2, P3, P4, List.length_replicate, hr.2.2.1, P7, P8, P9, (fun v hv => by rw [List.eq_of_mem_replicate hv]; exact Nat.le_refl _), hsv⟩
    have hsm9 := ((((rSm.r0 (js := caJ) (is := caA) (ls := [37])).sp (j := 0) (z := 0) (by decide)).tr (hsm18.mono (by decide) (by decide) (by decide))).sp (j := 42) (z := 0) (by decide)).sp (j := 43) (z := ((W : Nat) : Int)) (by decide)
    refine lp Z (remS S18) (sp (sp (sp S18 42 0) 43 ((W : Nat) : Int)) 44 (S18.1 3)) (List.replicate 6 0) 0 (0, Pt.2.1, Pt.2.2.1, Pt.2.2.2.1, List.replicate 256 0, r.2.2.1) _ _ _ ⟨hsm9.sp (by decide), ⟨by show 0 ≤ S18.1 3; omega, by show S18.1 3 ≤ 6; omega⟩, hP0, fun k hk => absurd hk (Nat.not_lt_zero _), ptC.z, ⟨rfl, fun k hk => absurd hk (Nat.not_lt_zero _)⟩, by exact hch⟩ (Nat.le_refl _) (by show 0 + remS S18 < 20000; omega) ?_ _ hR hX
    show ptL Cs W r (remS S18 + 1) 0 (List.replicate 6 0) (0, Pt.2.1, Pt.2.2.1, Pt.2.2.2.1, List.replicate 256 0, r.2.2.1) = Z
    rw [hrm, ← hpd, ← hr4]
    exact hcP.symm
  · have hdt : bZ (decide (pdN Ns Cs W 6 ≤ 20000)) = 0 := by rw [decide_eq_false hp]; rfl
    have hcP : clP Cs W r Pt = Pt := if_neg (by omega)
    rw [if_neg (show ¬ r.2.2.2 ≤ 20000 by omega), hcP]
    refine x_aload_n d_Mo_classes_0 rfl rfl ?_
    refine x_iconst (v := zI 0) d_Mo_classes_1 (by decide) ?_
    refine r_put xf_Mo_121_Mo xp_Mo_0 hR hX (by omega) rfl rfl d_Mo_classes_2 ?_
    intro h hR hX
    refine x_iload_n d_Mo_classes_5 rfl ?_
    refine x_iconst (v := zI 1) d_Mo_classes_6 (by decide) ?_
    refine x_aload_n d_Mo_classes_7 rfl rfl ?_
    refine x_get xf_Mo_268_Mo (Or.inl hR.1) (v := .int (zI (S.1 11))) rfl d_Mo_classes_8 ?_
    have hb8 : inR (S.1 11) := hR.2.2.2 11
    refine x_ishl d_Mo_classes_11 (x_zi ?_)
    have hr11 := inR_ti (zI 1 <<< (zI (S.1 11) &&& 31))
    refine x_iconst (v := zI 1) d_Mo_classes_12 (by decide) ?_
    refine z_isub d_Mo_classes_13 (x_zi ?_)
    have hr13 := inR_ti (zI ((zI 1 <<< (zI (S.1 11) &&& 31)).toInt - 1))
    refine x_iand d_Mo_classes_14 (x_zi ?_)
    have hr14 := inR_ti (zI w &&& zI ((zI ((zI 1 <<< (zI (S.1 11) &&& 31)).toInt - 1)).toInt))
    rw [hmk]
    refine x_istore_n (L' := [_, _, _, _, _, _, _]) d_Mo_classes_15 rfl rfl ?_
    refine x_aload_n d_Mo_classes_16 rfl rfl ?_
    refine x_iload_n d_Mo_classes_17 rfl ?_
    refine x_callV (As := [_]) (k := k_MarkerTextModel) rfl xcv_Mo_302_Mo (Or.inl hR.1) (RM.ap hR hpr) rfl rfl (Nat.le_of_ble_eq_true rfl) d_Mo_classes_18 ?_
    rintro v18 h cq nq ⟨S18, hR, hX18, rfl, rfl, rfl, hsm18, hm18, hz18, hW18, hp18⟩
    replace hX := hX.tr hX18
    rw [hdt]
    refine z_if_ne (tgt := 26) d_Mo_classes_21 (by decide) (by omega) (fun hq => by omega) (fun _ => ?_)
    refine x_iconst (v := zI (-1)) d_Mo_classes_24 (by decide) ?_
    refine x_iret d_Mo_classes_25 rfl ?_
    refine ⟨_, hR, hX, rfl, rfl, rfl, (rSm.r0.sp (by decide)).tr (hsm18.mono (by decide) (by decide) (by decide)), ?_, hPt, ?_⟩
    · have f42 : S18.1 42 = S.1 42 := hsm18.1 42 (by decide)
      have f44 : S18.1 44 = S.1 44 := hsm18.1 44 (by decide)
      unfold clOk
      rw [f42, f44]
      exact hK4
    · rw [hsm18.1 42 (by decide), hsm18.2.1 45 (by decide), hsm18.2.1 46 (by decide)]
      exact hAt
theorem r_manyX {k : Int} {nc : Nat} {Pt : PtT} (hd : 1 ≤ d) (hk : inR k) (hP : okP Pt) (hA : ptZ nc Pt (S.1 42) (S.2.1 45) (S.2.1 46)) : RM l G d M_Mo_many [.ref o, .int (zI k)] o rf S (fun v S' => v = some (.int (oI (mny Pt (zI k)))) ∧ S' = sp S 0 0) := by
  obtain ⟨d, rfl⟩ : ∃ q, d = q + 1 := ⟨d - 1, by omega⟩
  intro H0 c n hR
  refine XM.of (by decide +kernel) (Nat.le_of_ble_eq_true rfl) ?_
  have hX : xonly H0 H0 RKs := xonly.rf
  have a1 := hA.1
  have a2 := hP.1
  by_cases hz : 0 ≤ k ∧ k < Pt.1
  · have hv : oI (mny Pt (zI k)) = zI (gd (S.2.1 46) k) := by
      obtain ⟨j, rfl⟩ : ∃ j : Nat, k = j := ⟨k.toNat, by omega⟩
      have hj : j < Pt.1 := by omega
      have hl : j < Pt.2.2.1.length := by have := hP.2.2.1; omega
      have he := (hA.2 j hj).2.1
      have hg : Pt.2.2.1.getD j 0 = Pt.2.2.1[j] := by rw [List.getD_eq_getElem?_getD, List.getElem?_eq_getElem hl]; rfl
      have hb := hP.2.2.2.2.2.2.2.1 _ (List.getElem_mem hl)
      unfold mny
      rw [he, hg, hasK_z hk, decide_eq_true hz, zI_clamp hk, Int.toNat_natCast, List.getElem?_eq_getElem hl, if_pos rfl, zI_nI (k := Pt.2.2.1[j]) (by omega)]
      first | done | rfl
    rw [hv]
    refine x_aload_n d_Mo_many_0 rfl rfl ?_
    refine x_iconst (v := zI 0) d_Mo_many_1 (by decide) ?_
    refine r_put xf_Mo_121_Mo xp_Mo_0 hR hX (by omega) rfl rfl d_Mo_many_2 ?_
    intro h hR hX
    refine x_iload_n d_Mo_many_5 rfl ?_
    refine x_iconst (v := zI 0) d_Mo_many_6 (by decide) ?_
    refine x_aload_n d_Mo_many_7 rfl rfl ?_
    refine x_get xf_Mo_314_Mo (Or.inl hR.1) (v := .int (zI (S.1 42))) rfl d_Mo_many_8 ?_
    have hb8 : inR (S.1 42) := hR.2.2.2 42
    refine x_iconst (v := zI 1) d_Mo_many_11 (by decide) ?_
    refine z_isub d_Mo_many_12 ?_
    refine x_callS (As := [_, _, _]) xcs_Mo_150 (r_in hk (by decide) (by omega)) rfl rfl (Nat.le_of_ble_eq_true rfl) d_Mo_many_13 ?_
    rintro v13 h cq nq ⟨rfl, rfl, rfl, r13, rfl, hr13⟩
    replace hr13 : (r13 = 1 ∧ (0 ≤ k ∧ k ≤ S.1 42 - 1)) ∨ (r13 = 0 ∧ ¬ (0 ≤ k ∧ k ≤ S.1 42 - 1)) := hr13
    refine z_if_eq (tgt := 28) d_Mo_many_16 (by decide) (by omega) (fun hq => by omega) (fun _ => ?_)
    refine x_aload_n d_Mo_many_19 rfl rfl ?_
    refine x_get xf_Mo_109_Mo (Or.inl hR.1) (v := .ref (rf 46)) rfl d_Mo_many_20 ?_
    refine x_iload_n d_Mo_many_23 rfl ?_
    refine r_iald (i := 46) (us := (S.2.1 46)) rfl (by decide) hR rfl (by omega) (by show k < 256; omega) d_Mo_many_24 (fun hr24 => ?_)
    refine x_goto (tgt := 29) d_Mo_many_25 (by decide) ?_
    refine x_iret d_Mo_many_29 rfl ?_
    exact ⟨_, hR, hX, rfl, rfl, rfl, rfl⟩
  · have hv : oI (mny Pt (zI k)) = zI (-1) := by
      unfold mny
      rw [hasK_z hk, decide_eq_false hz]
      first | done | rfl
    rw [hv]
    refine x_aload_n d_Mo_many_0 rfl rfl ?_
    refine x_iconst (v := zI 0) d_Mo_many_1 (by decide) ?_
    refine r_put xf_Mo_121_Mo xp_Mo_0 hR hX (by omega) rfl rfl d_Mo_many_2 ?_
    intro h hR hX
    refine x_iload_n d_Mo_many_5 rfl ?_
    refine x_iconst (v := zI 0) d_Mo_many_6 (by decide) ?_
    refine x_aload_n d_Mo_many_7 rfl rfl ?_
    refine x_get xf_Mo_314_Mo (Or.inl hR.1) (v := .int (zI (S.1 42))) rfl d_Mo_many_8 ?_
    have hb8 : inR (S.1 42) := hR.2.2.2 42
    refine x_iconst (v := zI 1) d_Mo_many_11 (by decide) ?_
    refine z_isub d_Mo_many_12 ?_
    refine x_callS (As := [_, _, _]) xcs_Mo_150 (r_in hk (by decide) (by omega)) rfl rfl (Nat.le_of_ble_eq_true rfl) d_Mo_many_13 ?_
    rintro v13 h cq nq ⟨rfl, rfl, rfl, r13, rfl, hr13⟩
    replace hr13 : (r13 = 1 ∧ (0 ≤ k ∧ k ≤ S.1 42 - 1)) ∨ (r13 = 0 ∧ ¬ (0 ≤ k ∧ k ≤ S.1 42 - 1)) := hr13
    refine z_if_eq (tgt := 28) d_Mo_many_16 (by decide) (by omega) (fun _ => ?_) (fun hq => by omega)
    refine x_iconst (v := zI (-1)) d_Mo_many_28 (by decide) ?_
    refine x_iret d_Mo_many_29 rfl ?_
    exact ⟨_, hR, hX, rfl, rfl, rfl, rfl⟩
theorem r_inClassX {k q : Int} {Cs : List CnT} {Pt : PtT} (hd : 1 ≤ d) (hk : inR k) (hq : inR q) (h8 : Cs.length ≤ 8) (hP : okP Pt) (hA : ptZ Cs.length Pt (S.1 42) (S.2.1 45) (S.2.1 46)) : RM l G d M_Mo_inClass [.ref o, .int (zI k), .int (zI q)] o rf S (fun v S' => v = some (.int (bI (inC Cs Pt (zI k) (zI q)))) ∧ S' = sp S 0 0) := by
  obtain ⟨d, rfl⟩ : ∃ q, d = q + 1 := ⟨d - 1, by omega⟩
  intro H0 c n hR
  refine XM.of (by decide +kernel) (Nat.le_of_ble_eq_true rfl) ?_
  have hX : xonly H0 H0 RKs := xonly.rf
  have a1 := hA.1
  have a2 := hP.1
  by_cases hz : (0 ≤ k ∧ k < Pt.1) ∧ (0 ≤ q ∧ q < 8)
  · obtain ⟨i, rfl⟩ : ∃ j : Nat, k = j := ⟨k.toNat, by omega⟩
    obtain ⟨j, rfl⟩ : ∃ j : Nat, q = j := ⟨q.toNat, by omega⟩
    have hi : i < Pt.1 := by omega
    obtain ⟨b1, b2, b3⟩ := hA.2 i hi
    have hb : Pt.2.1.getD i 0 < 256 := getD_le (P := fun v => v < 256) hP.2.2.2.2.2.2.1 (by decide) i
    have htb := bit_tb (Pt.2.1.getD i 0) hb j (by omega)
    rw [← b1] at htb
    have hin : inC Cs Pt (zI ((i : Nat) : Int)) (zI ((j : Nat) : Int)) = (Pt.2.1.getD i 0).testBit j := by
      unfold inC
      rw [hasK_z hk, decide_eq_true hz.1, zI_clamp hk, zI_clamp hq, Int.toNat_natCast, Int.toNat_natCast]
      by_cases hjc : j < Cs.length
      · rw [iAt_some hq ⟨by omega, by omega⟩]
        first | done | rfl
      · rw [b3 j (by omega)]
        exact Bool.and_false _
    rw [hin]
    by_cases hbit : bitC (gd (S.2.1 45) ((i : Nat) : Int)) ((j : Nat) : Int)
    · rw [htb.mp hbit]
      refine x_aload_n d_Mo_inClass_0 rfl rfl ?_
      refine x_iconst (v := zI 0) d_Mo_inClass_1 (by decide) ?_
      refine r_put xf_Mo_121_Mo xp_Mo_0 hR hX (by omega) rfl rfl d_Mo_inClass_2 ?_
      intro h hR hX
      refine x_iload_n d_Mo_inClass_5 rfl ?_
      refine x_iconst (v := zI 0) d_Mo_inClass_6 (by decide) ?_
      refine x_aload_n d_Mo_inClass_7 rfl rfl ?_
      refine x_get xf_Mo_314_Mo (Or.inl hR.1) (v := .int (zI (S.1 42))) rfl d_Mo_inClass_8 ?_
      have hb8 : inR (S.1 42) := hR.2.2.2 42
      refine x_iconst (v := zI 1) d_Mo_inClass_11 (by decide) ?_
      refine z_isub d_Mo_inClass_12 ?_
      refine x_callS (As := [_, _, _]) xcs_Mo_150 (r_in hk (by decide) (by omega)) rfl rfl (Nat.le_of_ble_eq_true rfl) d_Mo_inClass_13 ?_
      rintro v13 h cq nq ⟨rfl, rfl, rfl, r13, rfl, hr13⟩
      replace hr13 : (r13 = 1 ∧ (0 ≤ ((i : Nat) : Int) ∧ ((i : Nat) : Int) ≤ S.1 42 - 1)) ∨ (r13 = 0 ∧ ¬ (0 ≤ ((i : Nat) : Int) ∧ ((i : Nat) : Int) ≤ S.1 42 - 1)) := hr13
      refine z_if_eq (tgt := 47) d_Mo_inClass_16 (by decide) (by omega) (fun hq => by omega) (fun _ => ?_)
      refine x_iload_n d_Mo_inClass_19 rfl ?_
      refine x_iconst (v := zI 0) d_Mo_inClass_20 (by decide) ?_
      refine x_bipush (v := zI 7) d_Mo_inClass_21 (by decide) ?_
      refine x_callS (As := [_, _, _]) xcs_Mo_150 (r_in hq (by decide) (by decide)) rfl rfl (Nat.le_of_ble_eq_true rfl) d_Mo_inClass_23 ?_
      rintro v23 h cq nq ⟨rfl, rfl, rfl, r23, rfl, hr23⟩
      replace hr23 : (r23 = 1 ∧ (0 ≤ ((j : Nat) : Int) ∧ ((j : Nat) : Int) ≤ 7)) ∨ (r23 = 0 ∧ ¬ (0 ≤ ((j : Nat) : Int) ∧ ((j : Nat) : Int) ≤ 7)) := hr23
      refine z_if_eq (tgt := 47) d_Mo_inClass_26 (by decide) (by omega) (fun hq => by omega) (fun _ => ?_)
      refine x_aload_n d_Mo_inClass_29 rfl rfl ?_
      refine x_get xf_Mo_106_Mo (Or.inl hR.1) (v := .ref (rf 45)) rfl d_Mo_inClass_30 ?_
      refine x_iload_n d_Mo_inClass_33 rfl ?_
      refine r_iald (i := 45) (us := (S.2.1 45)) rfl (by decide) hR rfl (by omega) (by show ((i : Nat) : Int) < 256; omega) d_Mo_inClass_34 (fun hr34 => ?_)
      refine x_iload_n d_Mo_inClass_35 rfl ?_
      refine x_ishr d_Mo_inClass_36 (x_zi ?_)
      have hr36 := inR_ti (zI (gd (S.2.1 45) ((i : Nat) : Int)) >>> (zI ((j : Nat) : Int) &&& 31))
      refine x_iconst (v := zI 1) d_Mo_inClass_37 (by decide) ?_
      refine x_iand d_Mo_inClass_38 (x_zi ?_)
      have hr38 := inR_ti (zI ((zI (gd (S.2.1 45) ((i : Nat) : Int)) >>> (zI ((j : Nat) : Int) &&& 31)).toInt) &&& zI 1)
      refine x_iconst (v := zI 1) d_Mo_inClass_39 (by decide) ?_
      refine z_icmp_ne (tgt := 47) d_Mo_inClass_40 (by decide) (by omega) (by omega) (fun hq => absurd hbit hq) (fun _ => ?_)
      refine x_iconst (v := zI 1) d_Mo_inClass_43 (by decide) ?_
      refine x_goto (tgt := 48) d_Mo_inClass_44 (by decide) ?_
      refine x_zret d_Mo_inClass_48 rfl (z_nb (by omega)) ?_
      exact ⟨_, hR, hX, rfl, rfl, rfl, rfl⟩
    · rw [show (Pt.2.1.getD i 0).testBit j = false by
        cases e : (Pt.2.1.getD i 0).testBit j with
        | false => rfl
        | true => exact absurd (htb.mpr e) hbit]
      refine x_aload_n d_Mo_inClass_0 rfl rfl ?_
      refine x_iconst (v := zI 0) d_Mo_inClass_1 (by decide) ?_
      refine r_put xf_Mo_121_Mo xp_Mo_0 hR hX (by omega) rfl rfl d_Mo_inClass_2 ?_
      intro h hR hX
      refine x_iload_n d_Mo_inClass_5 rfl ?_
      refine x_iconst (v := zI 0) d_Mo_inClass_6 (by decide) ?_
      refine x_aload_n d_Mo_inClass_7 rfl rfl ?_
      refine x_get xf_Mo_314_Mo (Or.inl hR.1) (v := .int (zI (S.1 42))) rfl d_Mo_inClass_8 ?_
      have hb8 : inR (S.1 42) := hR.2.2.2 42
      refine x_iconst (v := zI 1) d_Mo_inClass_11 (by decide) ?_
      refine z_isub d_Mo_inClass_12 ?_
      refine x_callS (As := [_, _, _]) xcs_Mo_150 (r_in hk (by decide) (by omega)) rfl rfl (Nat.le_of_ble_eq_true rfl) d_Mo_inClass_13 ?_
      rintro v13 h cq nq ⟨rfl, rfl, rfl, r13, rfl, hr13⟩
      replace hr13 : (r13 = 1 ∧ (0 ≤ ((i : Nat) : Int) ∧ ((i : Nat) : Int) ≤ S.1 42 - 1)) ∨ (r13 = 0 ∧ ¬ (0 ≤ ((i : Nat) : Int) ∧ ((i : Nat) : Int) ≤ S.1 42 - 1)) := hr13
      refine z_if_eq (tgt := 47) d_Mo_inClass_16 (by decide) (by omega) (fun hq => by omega) (fun _ => ?_)
      refine x_iload_n d_Mo_inClass_19 rfl ?_
      refine x_iconst (v := zI 0) d_Mo_inClass_20 (by decide) ?_
      refine x_bipush (v := zI 7) d_Mo_inClass_21 (by decide) ?_
      refine x_callS (As := [_, _, _]) xcs_Mo_150 (r_in hq (by decide) (by decide)) rfl rfl (Nat.le_of_ble_eq_true rfl) d_Mo_inClass_23 ?_
      rintro v23 h cq nq ⟨rfl, rfl, rfl, r23, rfl, hr23⟩
      replace hr23 : (r23 = 1 ∧ (0 ≤ ((j : Nat) : Int) ∧ ((j : Nat) : Int) ≤ 7)) ∨ (r23 = 0 ∧ ¬ (0 ≤ ((j : Nat) : Int) ∧ ((j : Nat) : Int) ≤ 7)) := hr23
      refine z_if_eq (tgt := 47) d_Mo_inClass_26 (by decide) (by omega) (fun hq => by omega) (fun _ => ?_)
      refine x_aload_n d_Mo_inClass_29 rfl rfl ?_
      refine x_get xf_Mo_106_Mo (Or.inl hR.1) (v := .ref (rf 45)) rfl d_Mo_inClass_30 ?_
      refine x_iload_n d_Mo_inClass_33 rfl ?_
      refine r_iald (i := 45) (us := (S.2.1 45)) rfl (by decide) hR rfl (by omega) (by show ((i : Nat) : Int) < 256; omega) d_Mo_inClass_34 (fun hr34 => ?_)
      refine x_iload_n d_Mo_inClass_35 rfl ?_
      refine x_ishr d_Mo_inClass_36 (x_zi ?_)
      have hr36 := inR_ti (zI (gd (S.2.1 45) ((i : Nat) : Int)) >>> (zI ((j : Nat) : Int) &&& 31))
      refine x_iconst (v := zI 1) d_Mo_inClass_37 (by decide) ?_
      refine x_iand d_Mo_inClass_38 (x_zi ?_)
      have hr38 := inR_ti (zI ((zI (gd (S.2.1 45) ((i : Nat) : Int)) >>> (zI ((j : Nat) : Int) &&& 31)).toInt) &&& zI 1)
      refine x_iconst (v := zI 1) d_Mo_inClass_39 (by decide) ?_
      refine z_icmp_ne (tgt := 47) d_Mo_inClass_40 (by decide) (by omega) (by omega) (fun _ => ?_) (fun hq => absurd hq hbit)
      refine x_iconst (v := zI 0) d_Mo_inClass_47 (by decide) ?_
      refine x_zret d_Mo_inClass_48 rfl (z_nb (by omega)) ?_
      exact ⟨_, hR, hX, rfl, rfl, rfl, rfl⟩
  · have hin : inC Cs Pt (zI k) (zI q) = false := by
      unfold inC
      rw [hasK_z hk]
      by_cases h1 : 0 ≤ k ∧ k < Pt.1
      · rw [iAt_none hq (by omega), Bool.and_false]
        first | done | rfl
      · rw [decide_eq_false h1]
        first | done | rfl
    rw [hin]
    refine x_aload_n d_Mo_inClass_0 rfl rfl ?_
    refine x_iconst (v := zI 0) d_Mo_inClass_1 (by decide) ?_
    refine r_put xf_Mo_121_Mo xp_Mo_0 hR hX (by omega) rfl rfl d_Mo_inClass_2 ?_
    intro h hR hX
    refine x_iload_n d_Mo_inClass_5 rfl ?_
    refine x_iconst (v := zI 0) d_Mo_inClass_6 (by decide) ?_
    refine x_aload_n d_Mo_inClass_7 rfl rfl ?_
    refine x_get xf_Mo_314_Mo (Or.inl hR.1) (v := .int (zI (S.1 42))) rfl d_Mo_inClass_8 ?_
    have hb8 : inR (S.1 42) := hR.2.2.2 42
    refine x_iconst (v := zI 1) d_Mo_inClass_11 (by decide) ?_
    refine z_isub d_Mo_inClass_12 ?_
    refine x_callS (As := [_, _, _]) xcs_Mo_150 (r_in hk (by decide) (by omega)) rfl rfl (Nat.le_of_ble_eq_true rfl) d_Mo_inClass_13 ?_
    rintro v13 h cq nq ⟨rfl, rfl, rfl, r13, rfl, hr13⟩
    replace hr13 : (r13 = 1 ∧ (0 ≤ k ∧ k ≤ S.1 42 - 1)) ∨ (r13 = 0 ∧ ¬ (0 ≤ k ∧ k ≤ S.1 42 - 1)) := hr13
    refine z_if_eq (tgt := 47) d_Mo_inClass_16 (by decide) (by omega) (fun hc16 => ?_) (fun hc16 => ?_)
    · refine x_iconst (v := zI 0) d_Mo_inClass_47 (by decide) ?_
      refine x_zret d_Mo_inClass_48 rfl (z_nb (by omega)) ?_
      exact ⟨_, hR, hX, rfl, rfl, rfl, rfl⟩
    · refine x_iload_n d_Mo_inClass_19 rfl ?_
      refine x_iconst (v := zI 0) d_Mo_inClass_20 (by decide) ?_
      refine x_bipush (v := zI 7) d_Mo_inClass_21 (by decide) ?_
      refine x_callS (As := [_, _, _]) xcs_Mo_150 (r_in hq (by decide) (by decide)) rfl rfl (Nat.le_of_ble_eq_true rfl) d_Mo_inClass_23 ?_
      rintro v23 h cq nq ⟨rfl, rfl, rfl, r23, rfl, hr23⟩
      replace hr23 : (r23 = 1 ∧ (0 ≤ q ∧ q ≤ 7)) ∨ (r23 = 0 ∧ ¬ (0 ≤ q ∧ q ≤ 7)) := hr23
      refine z_if_eq (tgt := 47) d_Mo_inClass_26 (by decide) (by omega) (fun _ => ?_) (fun hq => by omega)
      refine x_iconst (v := zI 0) d_Mo_inClass_47 (by decide) ?_
      refine x_zret d_Mo_inClass_48 rfl (z_nb (by omega)) ?_
      exact ⟨_, hR, hX, rfl, rfl, rfl, rfl⟩
end RI10
