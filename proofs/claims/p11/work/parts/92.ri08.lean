section

end
section RI8
variable {l : Launch} {G : XG} {h : XH} {c n d : Nat} {o : Nat} {rf : Nat → Nat} {S : MS}
theorem trs_top {Cs : List CnT} {w : Nat} {lv : Nat → Nat} : ∀ k, trs Cs w lv (Cs.length + k) = trs Cs w lv Cs.length := by
  intro k
  induction k with
  | zero => rfl
  | succ k ih =>
    show (if trB Cs w lv (Cs.length + k) then trs Cs w lv (Cs.length + k) ||| 2 ^ (Cs.length + k) else trs Cs w lv (Cs.length + k)) = _
    have e : trB Cs w lv (Cs.length + k) = false := by
      unfold trB
      rw [List.getElem?_eq_none (by omega)]
      exact Bool.and_false _
    rw [e]
    exact ih
theorem or_bX {b k : Nat} (hb : b < 256) (hk : k < 8) : (zI ((b : Nat) : Int) ||| zI ((zI 1 <<< (zI ((k : Nat) : Int) &&& 31)).toInt)).toInt = ((b ||| 2 ^ k : Nat) : Int) := by
  rw [zI_of, zI_nI (by omega), zI_nI (by omega), show zI 1 = (1 : Int32) by decide]
  obtain ⟨e1, e2⟩ := bit_or0 b hb k hk
  rw [e1, nI_ti (by omega)]
theorem r_truthX {w : Nat} {lv : Nat → Nat} {Ns : List NmT} {Cs : List CnT} {il : Option Nat} (hd : 3 ≤ d) (hw : w < 256) (hC : csOk S) (hQ : cqR Ns Cs il S) (h6 : Ns.length ≤ 6) (hE : ∀ (i : Nat) (us : List Int) (dn : Int → Den) (tx : Int → Option TsT), i < Cs.length → w.testBit i = true → slR Ns (sa S 41 us) (i : Nat) dn tx → evC 1 (sa S 41 us) lv (i : Nat) tx) : RM l G d M_Mo_truth [.ref o, .int (zI ((w : Nat) : Int))] o rf S (fun v S' => ∃ us : List Int, S' = sa S 41 us ∧ v = some (.int (zI ((trs Cs w lv 8 : Nat) : Int)))) := by
  obtain ⟨d, rfl⟩ : ∃ q, d = q + 1 := ⟨d - 1, by omega⟩
  intro H0 c n hR
  refine XM.of (by decide +kernel) (Nat.le_of_ble_eq_true rfl) ?_
  have hX : xonly H0 H0 RKs := xonly.rf
  obtain ⟨k1, k2, k3⟩ := id hC
  obtain ⟨c1, c2, c3, c4⟩ := id hQ
  have h8 : trs Cs w lv 8 = trs Cs w lv Cs.length := by
    have := trs_top (Cs := Cs) (w := w) (lv := lv) (8 - Cs.length)
    rw [show Cs.length + (8 - Cs.length) = 8 by omega] at this
    exact this
  have lp : ∀ (K i : Nat) (us : List Int) (b q : Int) (w4 : Option Value), q = (i : Nat) → i ≤ Cs.length → b = ((trs Cs w lv i : Nat) : Int) → Cs.length - i ≤ K → RX l G M_Mo_truth (d + 1) 4 [some (.ref o), some (.int (zI ((w : Nat) : Int))), some (.int (zI b)), some (.int (zI q)), w4] [] H0 o rf c n (sa S 41 us) (fun v S' => ∃ us : List Int, S' = sa S 41 us ∧ v = some (.int (zI ((trs Cs w lv 8 : Nat) : Int)))) := by
    intro K
    induction K with
    | zero =>
      intro i us b q w4 hq hi hb hK h hR hX
      have htb := trs_lt (Cs := Cs) (S := w) (lv := lv) i (by omega)
      obtain rfl : i = Cs.length := by omega
      refine x_iload_n d_Mo_truth_4 rfl ?_
      refine x_aload_n d_Mo_truth_5 rfl rfl ?_
      refine x_get xf_Mo_268_Mo (Or.inl hR.1) (v := .int (zI (S.1 11))) rfl d_Mo_truth_6 ?_
      have hb6 : inR (S.1 11) := hR.2.2.2 11
      refine z_icmp_ge (tgt := 58) d_Mo_truth_9 (by decide) (by omega) (by omega) (fun _ => ?_) (fun hq => by omega)
      refine x_iload_n d_Mo_truth_58 rfl ?_
      refine x_iret d_Mo_truth_59 rfl ?_
      exact ⟨_, hR, hX, rfl, rfl, us, rfl, by rw [h8, hb]⟩
    | succ K ih =>
      intro i us b q w4 hq hi hb hK h hR hX
      have htb := trs_lt (Cs := Cs) (S := w) (lv := lv) i (by omega)
      by_cases hend : i = Cs.length
      · subst hend
        refine x_iload_n d_Mo_truth_4 rfl ?_
        refine x_aload_n d_Mo_truth_5 rfl rfl ?_
        refine x_get xf_Mo_268_Mo (Or.inl hR.1) (v := .int (zI (S.1 11))) rfl d_Mo_truth_6 ?_
        have hb6 : inR (S.1 11) := hR.2.2.2 11
        refine z_icmp_ge (tgt := 58) d_Mo_truth_9 (by decide) (by omega) (by omega) (fun _ => ?_) (fun hq => by omega)
        refine x_iload_n d_Mo_truth_58 rfl ?_
        refine x_iret d_Mo_truth_59 rfl ?_
        exact ⟨_, hR, hX, rfl, rfl, us, rfl, by rw [h8, hb]⟩
      · have hil : i < Cs.length := by omega
        have hst : trs Cs w lv (i + 1) = if trB Cs w lv i then trs Cs w lv i ||| 2 ^ i else trs Cs w lv i := rfl
        have j35 : ∀ (us : List Int) (z : Int), z = bZ (trB Cs w lv i) → RX l G M_Mo_truth (d + 1) 35 [some (.ref o), some (.int (zI ((w : Nat) : Int))), some (.int (zI b)), some (.int (zI q)), w4] [.int (zI z)] H0 o rf c n (sa S 41 us) (fun v S' => ∃ us : List Int, S' = sa S 41 us ∧ v = some (.int (zI ((trs Cs w lv 8 : Nat) : Int)))) := by
          intro us z hz h hR hX
          have ho0 := or_0 (b := b) (by omega)
          cases htr : trB Cs w lv i with
          | true =>
            rw [htr] at hz hst
            have hz : z = 1 := hz
            have hst : trs Cs w lv (i + 1) = trs Cs w lv i ||| 2 ^ i := hst
            have ho : (zI b ||| zI ((zI 1 <<< (zI q &&& 31)).toInt)).toInt = ((trs Cs w lv (i + 1) : Nat) : Int) := by
              rw [hst, hb, hq]
              exact or_bX htb (by omega)
            refine x_istore (L' := [_, _, _, _, _]) d_Mo_truth_35 rfl rfl ?_
            refine x_iload_n d_Mo_truth_37 rfl ?_
            refine x_iload d_Mo_truth_38 rfl ?_
            refine z_if_eq (tgt := 49) d_Mo_truth_40 (by decide) (by omega) (fun hq => by omega) (fun _ => ?_)
            refine x_iconst (v := zI 1) d_Mo_truth_43 (by decide) ?_
            refine x_iload_n d_Mo_truth_44 rfl ?_
            refine x_ishl d_Mo_truth_45 (x_zi ?_)
            have hr45 := inR_ti (zI 1 <<< (zI q &&& 31))
            refine x_goto (tgt := 50) d_Mo_truth_46 (by decide) ?_
            refine x_ior d_Mo_truth_50 (x_zi ?_)
            have hr50 := inR_ti (zI b ||| zI ((zI 1 <<< (zI q &&& 31)).toInt))
            refine x_istore_n (L' := [_, _, _, _, _]) d_Mo_truth_51 rfl rfl ?_
            refine x_iinc (v := zI (q + 1)) (L' := [_, _, _, _, _]) d_Mo_truth_52 rfl (zI_add _ _) rfl rfl ?_
            refine x_goto (tgt := 4) d_Mo_truth_55 (by decide) ?_
            exact ih (i + 1) us _ (q + 1) _ (by omega) (by omega) ho (by omega) _ hR hX
          | false =>
            rw [htr] at hz hst
            have hz : z = 0 := hz
            have hst : trs Cs w lv (i + 1) = trs Cs w lv i := hst
            refine x_istore (L' := [_, _, _, _, _]) d_Mo_truth_35 rfl rfl ?_
            refine x_iload_n d_Mo_truth_37 rfl ?_
            refine x_iload d_Mo_truth_38 rfl ?_
            refine z_if_eq (tgt := 49) d_Mo_truth_40 (by decide) (by omega) (fun _ => ?_) (fun hq => by omega)
            refine x_iconst (v := zI 0) d_Mo_truth_49 (by decide) ?_
            refine x_ior d_Mo_truth_50 (x_zi ?_)
            have hr50 := inR_ti (zI b ||| zI 0)
            refine x_istore_n (L' := [_, _, _, _, _]) d_Mo_truth_51 rfl rfl ?_
            refine x_iinc (v := zI (q + 1)) (L' := [_, _, _, _, _]) d_Mo_truth_52 rfl (zI_add _ _) rfl rfl ?_
            refine x_goto (tgt := 4) d_Mo_truth_55 (by decide) ?_
            exact ih (i + 1) us _ (q + 1) _ (by omega) (by omega) (by rw [ho0, hst]; exact hb) (by omega) _ hR hX
        have hsm : rSm S (sa S 41 us) [] [41] [] := rSm.r0.sa (by decide)
        obtain ⟨dn, tx, hsl, hDn, -, -⟩ := (hQ.sm hsm (by decide) (by decide) (by decide) (by decide)).2.2.2 i _ (List.getElem?_eq_getElem hil)
        by_cases hbt : w.testBit i = true
        · have hbc : bitC ((w : Nat) : Int) q := by rw [hq]; exact (bit_tb w hw i (by omega)).mpr hbt
          have htr : trB Cs w lv i = (Cs[i].1.2.1 lv) := by
            unfold trB
            rw [hbt, List.getElem?_eq_getElem hil]
            exact Bool.true_and _
          have hih := r_isHeldX (l := l) (G := G) (o := o) (rf := rf) (d := d) (S := sa S 41 us) (s := (i : Nat)) (b := 1) (lv := lv) (by omega) (Or.inr rfl) (by omega) ((k3 (i : Nat) (by omega) (by omega)).agr (agr.sm hsm (by decide))) hsl h6 (hE i us dn tx hil hbt hsl)
          rw [← hDn, ← hq, ← htr] at hih
          have hbz := bZ_b (trB Cs w lv i)
          refine x_iload_n d_Mo_truth_4 rfl ?_
          refine x_aload_n d_Mo_truth_5 rfl rfl ?_
          refine x_get xf_Mo_268_Mo (Or.inl hR.1) (v := .int (zI (S.1 11))) rfl d_Mo_truth_6 ?_
          have hb6 : inR (S.1 11) := hR.2.2.2 11
          refine z_icmp_ge (tgt := 58) d_Mo_truth_9 (by decide) (by omega) (by omega) (fun hq => by omega) (fun _ => ?_)
          refine x_iload_n d_Mo_truth_12 rfl ?_
          refine x_iload_n d_Mo_truth_13 rfl ?_
          refine x_ishr d_Mo_truth_14 (x_zi ?_)
          have hr14 := inR_ti (zI ((w : Nat) : Int) >>> (zI q &&& 31))
          refine x_iconst (v := zI 1) d_Mo_truth_15 (by decide) ?_
          refine x_iand d_Mo_truth_16 (x_zi ?_)
          have hr16 := inR_ti (zI ((zI ((w : Nat) : Int) >>> (zI q &&& 31)).toInt) &&& zI 1)
          refine x_iconst (v := zI 1) d_Mo_truth_17 (by decide) ?_
          refine z_icmp_ne (tgt := 34) d_Mo_truth_18 (by decide) (by omega) (by omega) (fun hc18 => ?_) (fun hc18 => ?_)
          · refine x_iconst (v := zI 0) d_Mo_truth_34 (by decide) ?_
            first | exact absurd hbc hc18 | exact j35 us24 _ (by omega) _ (by rw [sa_sa] at hR; exact hR) hX
          · refine x_aload_n d_Mo_truth_21 rfl rfl ?_
            refine x_iload_n d_Mo_truth_22 rfl ?_
            refine x_iconst (v := zI 1) d_Mo_truth_23 (by decide) ?_
            refine x_callV (As := [_, _]) (k := k_MarkerTextModel) rfl xcv_Mo_284_Mo (Or.inl hR.1) (RM.ap hR hih) rfl rfl (Nat.le_of_ble_eq_true rfl) d_Mo_truth_24 ?_
            rintro v24 h cq nq ⟨S24, hR, hX24, rfl, rfl, us24, rfl, rfl⟩
            replace hX := hX.tr hX24
            refine z_if_eq (tgt := 34) d_Mo_truth_27 (by decide) (by omega) (fun hc27 => ?_) (fun hc27 => ?_)
            · refine x_iconst (v := zI 0) d_Mo_truth_34 (by decide) ?_
              first | exact absurd hbc hc18 | exact j35 us24 _ (by omega) _ (by rw [sa_sa] at hR; exact hR) hX
            · refine x_iconst (v := zI 1) d_Mo_truth_30 (by decide) ?_
              refine x_goto (tgt := 35) d_Mo_truth_31 (by decide) ?_
              first | exact absurd hbc hc18 | exact j35 us24 _ (by omega) _ (by rw [sa_sa] at hR; exact hR) hX
        · have hbc : ¬ bitC ((w : Nat) : Int) q := by rw [hq]; exact fun z => hbt ((bit_tb w hw i (by omega)).mp z)
          have htr : trB Cs w lv i = false := by
            unfold trB
            rw [show w.testBit i = false by simpa using hbt]
            exact Bool.false_and _
          refine x_iload_n d_Mo_truth_4 rfl ?_
          refine x_aload_n d_Mo_truth_5 rfl rfl ?_
          refine x_get xf_Mo_268_Mo (Or.inl hR.1) (v := .int (zI (S.1 11))) rfl d_Mo_truth_6 ?_
          have hb6 : inR (S.1 11) := hR.2.2.2 11
          refine z_icmp_ge (tgt := 58) d_Mo_truth_9 (by decide) (by omega) (by omega) (fun hq => by omega) (fun _ => ?_)
          refine x_iload_n d_Mo_truth_12 rfl ?_
          refine x_iload_n d_Mo_truth_13 rfl ?_
          refine x_ishr d_Mo_truth_14 (x_zi ?_)
          have hr14 := inR_ti (zI ((w : Nat) : Int) >>> (zI q &&& 31))
          refine x_iconst (v := zI 1) d_Mo_truth_15 (by decide) ?_
          refine x_iand d_Mo_truth_16 (x_zi ?_)
          have hr16 := inR_ti (zI ((zI ((w : Nat) : Int) >>> (zI q &&& 31)).toInt) &&& zI 1)
          refine x_iconst (v := zI 1) d_Mo_truth_17 (by decide) ?_
          refine z_icmp_ne (tgt := 34) d_Mo_truth_18 (by decide) (by omega) (by omega) (fun _ => ?_) (fun hq => absurd hq hbc)
          refine x_iconst (v := zI 0) d_Mo_truth_34 (by decide) ?_
          exact j35 us 0 (by rw [htr]; rfl) _ hR hX
  refine x_iconst (v := zI 0) d_Mo_truth_0 (by decide) ?_
  refine x_istore_n (L' := [_, _, _, _, _]) d_Mo_truth_1 rfl rfl ?_
  refine x_iconst (v := zI 0) d_Mo_truth_2 (by decide) ?_
  refine x_istore_n (L' := [_, _, _, _, _]) d_Mo_truth_3 rfl rfl ?_
  exact lp Cs.length 0 _ 0 0 _ rfl (Nat.zero_le _) rfl (by omega) _ (by rw [sa_id (i := 41)]; exact hR) hX
theorem and_nn {x y : Nat} (hx : x < 256) (hy : y < 256) : (zI ((x : Nat) : Int) &&& zI ((y : Nat) : Int)).toInt = ((x &&& y : Nat) : Int) := by
  rw [zI_nI (by omega), zI_nI (by omega)]
  have e : nI x &&& nI y = nI (x &&& y) := by
    apply Int32.toBitVec_inj.mp
    rw [Int32.toBitVec_and]
    show BitVec.ofNat 32 x &&& BitVec.ofNat 32 y = BitVec.ofNat 32 (x &&& y)
    rw [BitVec.ofNat_and]
  have hl : x &&& y ≤ x := Nat.and_le_left
  rw [e, nI_ti (by omega)]
/-- while the CHOICES go by -/
def chI (Ns : List NmT) (Cs : List CnT) (w : Nat) (pk : List Nat) (S1 : MS) : Prop := mnB S1 326 ∧ chOk S1 ∧ pkR pk S1 ∧ rwR Ns (row Ns Cs w) S1 ∧ (∀ j : Nat, (S1.1 3).toNat ≤ j → j < 6 → pk.getD j 0 = 0) ∧ ∀ i : Nat, i < Cs.length → w.testBit i = true → plR Ns (row Ns Cs w) S1 i (S1.2.1 25) (40 * (i : Int) + gd (S1.2.1 21) i) 0
theorem advP_hi {am : List Nat} {j : Nat} : ∀ (N : Nat) (pk : List Nat), pk.length = 6 → N ≤ j → N ≤ 6 → (advP am N pk).getD j 0 = pk.getD j 0 ∧ (advP am N pk).length = 6 := by
  intro N
  induction N with
  | zero => intro pk hp _ _; exact ⟨rfl, hp⟩
  | succ N ih =>
    intro pk hp hj h6
    show (if am.getD N 0 ≤ pk.getD N 0 + 1 then advP am N (pk.set N 0) else pk.set N (pk.getD N 0 + 1)).getD j 0 = _ ∧ (if am.getD N 0 ≤ pk.getD N 0 + 1 then advP am N (pk.set N 0) else pk.set N (pk.getD N 0 + 1)).length = 6
    by_cases hc : am.getD N 0 ≤ pk.getD N 0 + 1
    · rw [if_pos hc]
      obtain ⟨a, b⟩ := ih (pk.set N 0) (by rw [List.length_set]; exact hp) (by omega) (by omega)
      rw [a, getD_set (by omega), if_neg (by omega)]
      exact ⟨rfl, b⟩
    · rw [if_neg hc, getD_set (by omega), if_neg (by omega), List.length_set]
      exact ⟨rfl, hp⟩
theorem smI_row {Ns : List NmT} {Ws : Nat → List Nat} {j : Nat} (hj : j < 6) (hW : rwR Ns Ws S) : smI S (j : Nat) = ((smN (Ws j) : Nat) : Int) := by
  unfold smI smN
  rw [(hW j hj).1, hW.len hj]
  by_cases e : Ws j = []
  · rw [if_pos e, if_pos e, if_pos rfl]
    rfl
  · rw [if_neg e, if_neg e, if_neg (by decide)]
    omega
theorem cqR.its {Ns : List NmT} {Cs : List CnT} {il : Option Nat} (hQ : cqR Ns Cs il S) : ∀ D ∈ Cs, ∀ t ∈ D.2, t.1 < Ns.length ∧ evn t.2.2.1 := fun D hD => by
  obtain ⟨i, hi, e⟩ := List.getElem_of_mem hD
  have := (hQ.2.2.2 i D (by rw [List.getElem?_eq_getElem hi, e])).its
  exact this
theorem knR.kp {S' : MS} {Ns : List NmT} {js is ls : List Nat} (hK : knR Ns S) (h : rSm S S' js is ls) (hi : 7 ∉ is) (hl : 8 ∉ ls) : knR Ns S' := by
  unfold knR
  rw [h.2.1 7 hi, h.2.2 8 hl]
  exact hK
theorem knR.ev {Ns : List NmT} (hK : knR Ns S) : ∀ x ∈ Ns, evn x.2.2 ∧ x.2.2.length ≤ 6 := fun x hx => by
  obtain ⟨i, hi, e⟩ := List.getElem_of_mem hx
  obtain ⟨q1, q2, q3⟩ := hK.1 i x (by rw [List.getElem?_eq_getElem hi, e])
  refine ⟨fun v hv => ?_, q2⟩
  obtain ⟨k, hk, e⟩ := List.getElem_of_mem hv
  have := (q3 k hk).ev
  rw [List.getD_eq_getElem?_getD, List.getElem?_eq_getElem hk] at this
  rw [← e]
  exact this
/-- one CHOICE -/
theorem r_oneX {w : Nat} {pk : List Nat} {Ns : List NmT} {Cs : List CnT} {il : Option Nat} {r : LyT} (hd : 3 ≤ d) (hw : w < 256) (hC : csOk S) (hN : nmR Ns S) (h6 : Ns.length ≤ 6) (hK : knR Ns S) (hQ : cqR Ns Cs il S) (hr : lyW Ns Cs w 6 r) (hI : chI Ns Cs w pk S) : RM l G d M_Mo_truth [.ref o, .int (zI ((w : Nat) : Int))] o rf S (fun v S' => ∃ us : List Int, S' = sa S 41 us ∧ v = some (.int (zI ((trs Cs w (lvF r.1.1 r.1.2 r.2.1 pk) 8 : Nat) : Int)))) := by
  obtain ⟨i1, i2, i3, i4, i5, i6⟩ := hI
  have hts := hQ.its
  have hkn := hK.ev
  have hrow : ∀ j, srt (row Ns Cs w j) ∧ evn (row Ns Cs w j) := fun j => rKn_ok (fun x hx => (hkn x hx).1) (rC_ok (fun D hD t ht => (hts D hD t ht).2) 8)
  have hpk : ∀ j : Nat, j < 6 → pk.getD j 0 < smN (row Ns Cs w j) := fun j hj => by
    have h1 := smN_1 (W := row Ns Cs w j)
    by_cases e : j < (S.1 3).toNat
    · have a := i2 (j : Nat) (by omega) (by omega)
      rw [smI_row hj i4, i3.2 j hj] at a
      omega
    · rw [i5 j (by omega) hj]
      omega
  refine r_truthX hd hw hC hQ h6 (fun i us dn tx hi hbt hsl => evC_1 hsl (hN.sm (js := []) (is := [41]) (ls := []) (rSm.r0.sa (by decide)) (by decide) (by decide)) h6 i3 (i6 i hi hbt) (fun j hj => ⟨(hrow j).1, (hrow j).2, ?_, hpk j hj, lvF_row hr hj (hpk j hj)⟩))
  have := i1 (j : Nat) (by omega) (by omega)
  rw [i4.len hj] at this
  omega
/-- the next one -/
theorem r_nextX {w : Nat} {pk : List Nat} {Ns : List NmT} {Cs : List CnT} {r : LyT} (hd : 1 ≤ d) (hN : nmR Ns S) (h6 : Ns.length ≤ 6) (hr : lyW Ns Cs w 6 r) (hI : chI Ns Cs w pk S) : RM l G d M_Mo_advance [.ref o] o rf S (fun v S' => ∃ q : Int, v = some (.int (zI q)) ∧ (q = 0 ∨ q = 1) ∧ rSm S S' [] [40] [] ∧ chI Ns Cs w (advP r.2.2.1 6 pk) S' ∧ (q = 1 → remS S' + 1 = remS S) ∧ (q = 0 → remS S = 0)) := by
  obtain ⟨i1, i2, i3, i4, i5, i6⟩ := hI
  have hnl := hN.1
  have hz : ∀ j : Nat, (S.1 3).toNat ≤ j → j < 6 → r.2.2.1.getD j 0 = 1 ∧ pk.getD j 0 = 0 := fun j h1 h2 => by
    refine ⟨?_, i5 j h1 h2⟩
    rw [(hr.2.2.2.1 j h2).2, ((i4 j h2).2.2 (by omega)).1]
    rfl
  refine (r_advanceX (am := r.2.2.1) hd (by omega) i1 i2 i3 (fun j hj => by rw [smI_row hj i4, (hr.2.2.2.1 j hj).2]) hz).mono ?_
  rintro v S' ⟨q, rfl, hq, hsm, hc, h1, h0, hp⟩
  refine ⟨q, rfl, hq, hsm, ⟨fun a a0 a6 => by rw [hsm.2.1 38 (by decide)]; exact i1 a a0 a6, hc, hp, i4.sm hsm (by decide) (by decide) (by decide), fun j hj1 hj2 => ?_, fun i hi hb => ?_⟩, h1, h0⟩
  · rw [hsm.1 3 (by decide)] at hj1
    have hs := advP_skip (am := r.2.2.1) (N := (S.1 3).toNat) i3.1 (6 - (S.1 3).toNat) (by omega) hz
    rw [show (S.1 3).toNat + (6 - (S.1 3).toNat) = 6 by omega] at hs
    rw [hs, (advP_hi (S.1 3).toNat pk i3.1 hj1 (by omega)).1]
    exact i5 j hj1 hj2
  · have := i6 i hi hb
    unfold plR at this ⊢
    rw [hsm.2.1 20 (by decide), hsm.2.1 17 (by decide), hsm.2.1 19 (by decide), hsm.2.2 22 (by decide), hsm.2.1 25 (by decide), hsm.2.1 21 (by decide)]
    exact this
/-- the first one -/
theorem chI_0 {w : Nat} {Ns : List NmT} {Cs : List CnT} {S' : MS} (hN : nmR Ns S) (h6 : Ns.length ≤ 6) (hn : nmOk S) (hq : rSm S S' [] [25, 38, 39, 40] [37]) (hm : mnB S' 326) (hz : chz S') (hW : rwR Ns (row Ns Cs w) S') (hp : ∀ i : Nat, i < Cs.length → w.testBit i = true → plR Ns (row Ns Cs w) S' i (S'.2.1 25) (40 * (i : Int) + gd (S'.2.1 21) i) 0) : chI Ns Cs w (List.replicate 6 0) S' := by
  have e3 := hq.1 3 (by decide)
  have hg : ∀ j, (List.replicate 6 0 : List Nat).getD j 0 = 0 := fun j => by
    rw [List.getD_eq_getElem?_getD, List.getElem?_replicate]
    split <;> rfl
  exact ⟨hm, chOk.of_z hm (by rw [e3]; exact hn.2.1) hz, ⟨rfl, fun j hj => by rw [hz (j : Nat) (by omega) (by omega), hg j]; rfl⟩, hW, fun j _ _ => hg j, hp⟩
/-- how many CHOICES come behind the first one -/
theorem rem_0 {w : Nat} {Ns : List NmT} {Cs : List CnT} {S' : MS} (hN : nmR Ns S) (h6 : Ns.length ≤ 6) (hq : rSm S S' [] [25, 38, 39, 40] [37]) (hz : chz S') (hW : rwR Ns (row Ns Cs w) S') : remS S' + 1 = pdN Ns Cs w Ns.length := by
  have e3 : (S'.1 3).toNat = Ns.length := by rw [hq.1 3 (by decide), hN.1]; exact Int.toNat_natCast _
  have key : ∀ (k j : Nat), j + k ≤ 6 → pdN Ns Cs w j * pd (fun i => (smI S' (i : Nat)).toNat) k j = pdN Ns Cs w (j + k) := by
    intro k
    induction k with
    | zero => intro j _; exact Nat.mul_one _
    | succ k ih =>
      intro j hj
      have e : (smI S' (j : Nat)).toNat = smN (row Ns Cs w j) := by rw [smI_row (by omega) hW]; exact Int.toNat_natCast _
      show pdN Ns Cs w j * ((smI S' (j : Nat)).toNat * pd (fun i => (smI S' (i : Nat)).toNat) k (j + 1)) = _
      rw [e, ← Nat.mul_assoc]
      have := ih (j + 1) (by omega)
      rw [show j + 1 + k = j + (k + 1) by omega] at this
      exact this
  have h1 := rmn_0 (s := fun i => (smI S' (i : Nat)).toNat) (c := fun i => (gd (S'.2.1 40) (i : Nat)).toNat) (S'.1 3).toNat 0 (fun i _ hi => ⟨by show (gd (S'.2.1 40) (i : Int)).toNat = 0; rw [hz (i : Nat) (by omega) (by omega)]; rfl, by show 1 ≤ (smI S' (i : Int)).toNat; rw [smI_row (by omega) hW, Int.toNat_natCast]; exact smN_1⟩)
  have h2 := key Ns.length 0 (by omega)
  rw [Nat.zero_add] at h2
  show rmn _ _ _ _ + 1 = _
  rw [h1, e3, ← h2]
  exact (Nat.one_mul _).symm
/-- how some() ends, in full -/
theorem r_someX {w a b : Nat} {Ns : List NmT} {Cs : List CnT} {il : Option Nat} {r : LyT} (hd : 4 ≤ d) (hw : w < 256) (ha : a < 256) (hb : b < 256) (hn : nmOk S) (hC : csOk S) (hN : nmR Ns S) (h6 : Ns.length ≤ 6) (hK : knR Ns S) (hQ : cqR Ns Cs il S) (hr : lyW Ns Cs w 6 r) : RM l G d M_Mo_some [.ref o, .int (zI ((w : Nat) : Int)), .int (zI ((a : Nat) : Int)), .int (zI ((b : Nat) : Int))] o rf S (fun v S' => v = some (.int (fnd Cs w a b r)) ∧ rSm S S' [] soA [37]) := by
  obtain ⟨d, rfl⟩ : ∃ q, d = q + 1 := ⟨d - 1, by omega⟩
  intro H0 c n hR
  refine XM.of (by decide +kernel) (Nat.le_of_ble_eq_true rfl) ?_
  have hX : xonly H0 H0 RKs := xonly.rf
  obtain ⟨n1, n2, -⟩ := id hn
  have hrc := hr.2.2.2.2
  have hts := hQ.its
  have hpd : pdN Ns Cs w 6 = pdN Ns Cs w Ns.length := by
    have := pdN_out (Ns := Ns) (Cs := Cs) (w := w) (N := Ns.length) (fun D hD t ht => (hts D hD t ht).1) (6 - Ns.length)
    rw [show Ns.length + (6 - Ns.length) = 6 by omega] at this
    exact this
  have ex : ∀ (S1 : MS) (mo fo : Int) (w6 : Option Value), rSm S S1 [] soA [37] → (mo = 0 ∨ mo = 1) → ((fo = 1 ∧ fnd Cs w a b r = 1) ∨ (fo = 0 ∧ mo = 0 ∧ fnd Cs w a b r = 0)) → RX l G M_Mo_some (d + 1) 16 [some (.ref o), some (.int (zI ((w : Nat) : Int))), some (.int (zI ((a : Nat) : Int))), some (.int (zI ((b : Nat) : Int))), some (.int (zI mo)), some (.int (zI fo)), w6] [] H0 o rf c n S1 (fun v S' => v = some (.int (fnd Cs w a b r)) ∧ rSm S S' [] soA [37]) := by
    intro S1 mo fo w6 hsm h2 h3 h hR hX
    rcases h3 with ⟨rfl, e⟩ | ⟨rfl, rfl, e⟩
    · rw [e]
      refine x_iload d_Mo_some_16 rfl ?_
      refine z_if_eq (tgt := 64) d_Mo_some_18 (by decide) (by omega) (fun hc18 => ?_) (fun hc18 => ?_)
      · refine x_iload d_Mo_some_64 rfl ?_
        refine z_if_eq (tgt := 73) d_Mo_some_66 (by decide) (by omega) (fun hq => by omega) (fun _ => ?_)
        refine x_iconst (v := zI 1) d_Mo_some_69 (by decide) ?_
        refine x_goto (tgt := 74) d_Mo_some_70 (by decide) ?_
        refine x_iret d_Mo_some_74 rfl ?_
        exact ⟨_, hR, hX, rfl, rfl, rfl, hsm⟩
      · refine x_iload d_Mo_some_21 rfl ?_
        refine z_if_ne (tgt := 64) d_Mo_some_23 (by decide) (by omega) (fun _ => ?_) (fun hq => by omega)
        refine x_iload d_Mo_some_64 rfl ?_
        refine z_if_eq (tgt := 73) d_Mo_some_66 (by decide) (by omega) (fun hq => by omega) (fun _ => ?_)
        refine x_iconst (v := zI 1) d_Mo_some_69 (by decide) ?_
        refine x_goto (tgt := 74) d_Mo_some_70 (by decide) ?_
        refine x_iret d_Mo_some_74 rfl ?_
        exact ⟨_, hR, hX, rfl, rfl, rfl, hsm⟩
    · rw [e]
      refine x_iload d_Mo_some_16 rfl ?_
      refine z_if_eq (tgt := 64) d_Mo_some_18 (by decide) (by omega) (fun _ => ?_) (fun hq => by omega)
      refine x_iload d_Mo_some_64 rfl ?_
      refine z_if_eq (tgt := 73) d_Mo_some_66 (by decide) (by omega) (fun _ => ?_) (fun hq => by omega)
      refine x_iconst (v := zI 0) d_Mo_some_73 (by decide) ?_
      refine x_iret d_Mo_some_74 rfl ?_
      exact ⟨_, hR, hX, rfl, rfl, rfl, hsm⟩
  have lp : ∀ (K : Nat) (S1 : MS) (pk : List Nat) (w6 : Option Value), rSm S S1 [] soA [37] → chI Ns Cs w pk S1 → remS S1 ≤ K → fnd Cs w a b r = (if fdC Cs w a b r (remS S1 + 1) pk then 1 else 0) → RX l G M_Mo_some (d + 1) 16 [some (.ref o), some (.int (zI ((w : Nat) : Int))), some (.int (zI ((a : Nat) : Int))), some (.int (zI ((b : Nat) : Int))), some (.int (zI 1)), some (.int (zI 0)), w6] [] H0 o rf c n S1 (fun v S' => v = some (.int (fnd Cs w a b r)) ∧ rSm S S' [] soA [37]) := by
    intro K
    induction K with
    | zero =>
      intro S1 pk w6 hsm hI hK1 hF h hR hX
      have hone := r_oneX (l := l) (G := G) (o := o) (rf := rf) (d := d) (by omega) hw (hC.sm hsm (by decide) (by decide)) (hN.sm hsm (by decide) (by decide)) h6 (hK.kp hsm (by decide) (by decide)) (hQ.sm hsm (by decide) (by decide) (by decide) (by decide)) hr hI
      have htl := trs_lt (Cs := Cs) (S := w) (lv := lvF r.1.1 r.1.2 r.2.1 pk) 8 (by omega)
      have a1 := and_nn htl ha
      have a2 := and_nn htl hb
      rw [show remS S1 + 1 = 1 by omega] at hF
      have hF : fnd Cs w a b r = if (if trs Cs w (lvF r.1.1 r.1.2 r.2.1 pk) 8 &&& a = a ∧ trs Cs w (lvF r.1.1 r.1.2 r.2.1 pk) 8 &&& b = 0 then true else false) then 1 else 0 := hF
      generalize trs Cs w (lvF r.1.1 r.1.2 r.2.1 pk) 8 = T at *
      refine x_iload d_Mo_some_16 rfl ?_
      refine z_if_eq (tgt := 64) d_Mo_some_18 (by decide) (by omega) (fun hq => by omega) (fun _ => ?_)
      refine x_iload d_Mo_some_21 rfl ?_
      refine z_if_ne (tgt := 64) d_Mo_some_23 (by decide) (by omega) (fun hq => by omega) (fun _ => ?_)
      refine x_aload_n d_Mo_some_26 rfl rfl ?_
      refine x_iload_n d_Mo_some_27 rfl ?_
      refine x_callV (As := [_]) (k := k_MarkerTextModel) rfl xcv_Mo_305_Mo (Or.inl hR.1) (RM.ap hR hone) rfl rfl (Nat.le_of_ble_eq_true rfl) d_Mo_some_28 ?_
      rintro v28 h cq nq ⟨S28, hR, hX28, rfl, rfl, us28, rfl, rfl⟩
      replace hX := hX.tr hX28
      refine x_istore (L' := [_, _, _, _, _, _, _]) d_Mo_some_31 rfl rfl ?_
      refine x_iload d_Mo_some_33 rfl ?_
      refine x_iload_n d_Mo_some_35 rfl ?_
      refine x_iand d_Mo_some_36 (x_zi ?_)
      have hr36 := inR_ti (zI ((T : Nat) : Int) &&& zI ((a : Nat) : Int))
      refine x_iload_n d_Mo_some_37 rfl ?_
      refine z_icmp_ne (tgt := 52) d_Mo_some_38 (by decide) (by omega) (by omega) (fun hc38 => ?_) (fun hc38 => ?_)
      · refine x_iconst (v := zI 0) d_Mo_some_52 (by decide) ?_
        refine x_istore (L' := [_, _, _, _, _, _, _]) d_Mo_some_53 rfl rfl ?_
        refine x_aload_n d_Mo_some_55 rfl rfl ?_
        refine x_callV (As := []) (k := k_MarkerTextModel) rfl xcv_Mo_308_Mo (Or.inl hR.1) (RM.ap hR (r_nextX (S := sa S1 41 us28) (by omega) (hN.sm (hsm.sa (i := 41) (by decide)) (by decide) (by decide)) h6 hr (by exact hI))) rfl rfl (Nat.le_of_ble_eq_true rfl) d_Mo_some_56 ?_
        rintro v56 h cq nq ⟨S56, hR, hX56, rfl, rfl, r56, rfl, hr56, hsm56, hI56, hr1, hr0⟩
        replace hX := hX.tr hX56
        refine x_istore (L' := [_, _, _, _, _, _, _]) d_Mo_some_59 rfl rfl ?_
        refine x_goto (tgt := 16) d_Mo_some_61 (by decide) ?_
        have hsm7 := (hsm.sa (i := 41) (us := us28) (by decide)).tr (hsm56.mono (by decide) (by decide) (by decide))
        have hz : remS (sa S1 41 us28) = remS S1 := rfl
        have h0 : r56 = 0 := by rcases hr56 with q | q; exact q; have := hr1 q; omega
        first | exact ex _ _ _ _ hsm7 hr56 (Or.inl ⟨rfl, by rw [hF, if_pos (show T &&& a = a ∧ T &&& b = 0 from ⟨by omega, by omega⟩)]; rfl⟩) _ hR hX | exact ex _ _ _ _ hsm7 hr56 (Or.inr ⟨rfl, h0, by rw [hF, if_neg (show ¬ (T &&& a = a ∧ T &&& b = 0) from fun z => by have := z.1; have := z.2; omega)]; rfl⟩) _ hR hX
      · refine x_iload d_Mo_some_41 rfl ?_
        refine x_iload_n d_Mo_some_43 rfl ?_
        refine x_iand d_Mo_some_44 (x_zi ?_)
        have hr44 := inR_ti (zI ((T : Nat) : Int) &&& zI ((b : Nat) : Int))
        refine z_if_ne (tgt := 52) d_Mo_some_45 (by decide) (by omega) (fun hc45 => ?_) (fun hc45 => ?_)
        · refine x_iconst (v := zI 0) d_Mo_some_52 (by decide) ?_
          refine x_istore (L' := [_, _, _, _, _, _, _]) d_Mo_some_53 rfl rfl ?_
          refine x_aload_n d_Mo_some_55 rfl rfl ?_
          refine x_callV (As := []) (k := k_MarkerTextModel) rfl xcv_Mo_308_Mo (Or.inl hR.1) (RM.ap hR (r_nextX (S := sa S1 41 us28) (by omega) (hN.sm (hsm.sa (i := 41) (by decide)) (by decide) (by decide)) h6 hr (by exact hI))) rfl rfl (Nat.le_of_ble_eq_true rfl) d_Mo_some_56 ?_
          rintro v56 h cq nq ⟨S56, hR, hX56, rfl, rfl, r56, rfl, hr56, hsm56, hI56, hr1, hr0⟩
          replace hX := hX.tr hX56
          refine x_istore (L' := [_, _, _, _, _, _, _]) d_Mo_some_59 rfl rfl ?_
          refine x_goto (tgt := 16) d_Mo_some_61 (by decide) ?_
          have hsm7 := (hsm.sa (i := 41) (us := us28) (by decide)).tr (hsm56.mono (by decide) (by decide) (by decide))
          have hz : remS (sa S1 41 us28) = remS S1 := rfl
          have h0 : r56 = 0 := by rcases hr56 with q | q; exact q; have := hr1 q; omega
          first | exact ex _ _ _ _ hsm7 hr56 (Or.inl ⟨rfl, by rw [hF, if_pos (show T &&& a = a ∧ T &&& b = 0 from ⟨by omega, by omega⟩)]; rfl⟩) _ hR hX | exact ex _ _ _ _ hsm7 hr56 (Or.inr ⟨rfl, h0, by rw [hF, if_neg (show ¬ (T &&& a = a ∧ T &&& b = 0) from fun z => by have := z.1; have := z.2; omega)]; rfl⟩) _ hR hX
        · refine x_iconst (v := zI 1) d_Mo_some_48 (by decide) ?_
          refine x_goto (tgt := 53) d_Mo_some_49 (by decide) ?_
          refine x_istore (L' := [_, _, _, _, _, _, _]) d_Mo_some_53 rfl rfl ?_
          refine x_aload_n d_Mo_some_55 rfl rfl ?_
          refine x_callV (As := []) (k := k_MarkerTextModel) rfl xcv_Mo_308_Mo (Or.inl hR.1) (RM.ap hR (r_nextX (S := sa S1 41 us28) (by omega) (hN.sm (hsm.sa (i := 41) (by decide)) (by decide) (by decide)) h6 hr (by exact hI))) rfl rfl (Nat.le_of_ble_eq_true rfl) d_Mo_some_56 ?_
          rintro v56 h cq nq ⟨S56, hR, hX56, rfl, rfl, r56, rfl, hr56, hsm56, hI56, hr1, hr0⟩
          replace hX := hX.tr hX56
          refine x_istore (L' := [_, _, _, _, _, _, _]) d_Mo_some_59 rfl rfl ?_
          refine x_goto (tgt := 16) d_Mo_some_61 (by decide) ?_
          have hsm7 := (hsm.sa (i := 41) (us := us28) (by decide)).tr (hsm56.mono (by decide) (by decide) (by decide))
          have hz : remS (sa S1 41 us28) = remS S1 := rfl
          have h0 : r56 = 0 := by rcases hr56 with q | q; exact q; have := hr1 q; omega
          first | exact ex _ _ _ _ hsm7 hr56 (Or.inl ⟨rfl, by rw [hF, if_pos (show T &&& a = a ∧ T &&& b = 0 from ⟨by omega, by omega⟩)]; rfl⟩) _ hR hX | exact ex _ _ _ _ hsm7 hr56 (Or.inr ⟨rfl, h0, by rw [hF, if_neg (show ¬ (T &&& a = a ∧ T &&& b = 0) from fun z => by have := z.1; have := z.2; omega)]; rfl⟩) _ hR hX
    | succ K ih =>
      intro S1 pk w6 hsm hI hK1 hF h hR hX
      have hone := r_oneX (l := l) (G := G) (o := o) (rf := rf) (d := d) (by omega) hw (hC.sm hsm (by decide) (by decide)) (hN.sm hsm (by decide) (by decide)) h6 (hK.kp hsm (by decide) (by decide)) (hQ.sm hsm (by decide) (by decide) (by decide) (by decide)) hr hI
      have htl := trs_lt (Cs := Cs) (S := w) (lv := lvF r.1.1 r.1.2 r.2.1 pk) 8 (by omega)
      have a1 := and_nn htl ha
      have a2 := and_nn htl hb
      have hF : fnd Cs w a b r = if (if trs Cs w (lvF r.1.1 r.1.2 r.2.1 pk) 8 &&& a = a ∧ trs Cs w (lvF r.1.1 r.1.2 r.2.1 pk) 8 &&& b = 0 then true else fdC Cs w a b r (remS S1) (advP r.2.2.1 6 pk)) then 1 else 0 := hF
      generalize trs Cs w (lvF r.1.1 r.1.2 r.2.1 pk) 8 = T at *
      have go : ∀ (S2 : MS) (r56 : Int) (w6 : Option Value), ¬ (T &&& a = a ∧ T &&& b = 0) → rSm S S2 [] soA [37] → (r56 = 0 ∨ r56 = 1) → chI Ns Cs w (advP r.2.2.1 6 pk) S2 → (r56 = 1 → remS S2 + 1 = remS S1) → (r56 = 0 → remS S1 = 0) → RX l G M_Mo_some (d + 1) 16 [some (.ref o), some (.int (zI ((w : Nat) : Int))), some (.int (zI ((a : Nat) : Int))), some (.int (zI ((b : Nat) : Int))), some (.int (zI r56)), some (.int (zI 0)), w6] [] H0 o rf c n S2 (fun v S' => v = some (.int (fnd Cs w a b r)) ∧ rSm S S' [] soA [37]) := by
        intro S2 r56 w6 hno hsm2 hr56 hI2 hr1 hr0
        rw [if_neg hno] at hF
        rcases hr56 with rfl | rfl
        · rw [hr0 rfl] at hF
          exact ex S2 0 0 w6 hsm2 (Or.inl rfl) (Or.inr ⟨rfl, rfl, hF⟩)
        · rw [← hr1 rfl] at hF
          exact ih S2 _ w6 hsm2 hI2 (by have := hr1 rfl; omega) hF
      refine x_iload d_Mo_some_16 rfl ?_
      refine z_if_eq (tgt := 64) d_Mo_some_18 (by decide) (by omega) (fun hq => by omega) (fun _ => ?_)
      refine x_iload d_Mo_some_21 rfl ?_
      refine z_if_ne (tgt := 64) d_Mo_some_23 (by decide) (by omega) (fun hq => by omega) (fun _ => ?_)
      refine x_aload_n d_Mo_some_26 rfl rfl ?_
      refine x_iload_n d_Mo_some_27 rfl ?_
      refine x_callV (As := [_]) (k := k_MarkerTextModel) rfl xcv_Mo_305_Mo (Or.inl hR.1) (RM.ap hR hone) rfl rfl (Nat.le_of_ble_eq_true rfl) d_Mo_some_28 ?_
      rintro v28 h cq nq ⟨S28, hR, hX28, rfl, rfl, us28, rfl, rfl⟩
      replace hX := hX.tr hX28
      refine x_istore (L' := [_, _, _, _, _, _, _]) d_Mo_some_31 rfl rfl ?_
      refine x_iload d_Mo_some_33 rfl ?_
      refine x_iload_n d_Mo_some_35 rfl ?_
      refine x_iand d_Mo_some_36 (x_zi ?_)
      have hr36 := inR_ti (zI ((T : Nat) : Int) &&& zI ((a : Nat) : Int))
      refine x_iload_n d_Mo_some_37 rfl ?_
      refine z_icmp_ne (tgt := 52) d_Mo_some_38 (by decide) (by omega) (by omega) (fun hc38 => ?_) (fun hc38 => ?_)
      · refine x_iconst (v := zI 0) d_Mo_some_52 (by decide) ?_
        refine x_istore (L' := [_, _, _, _, _, _, _]) d_Mo_some_53 rfl rfl ?_
        refine x_aload_n d_Mo_some_55 rfl rfl ?_
        refine x_callV (As := []) (k := k_MarkerTextModel) rfl xcv_Mo_308_Mo (Or.inl hR.1) (RM.ap hR (r_nextX (S := sa S1 41 us28) (by omega) (hN.sm (hsm.sa (i := 41) (by decide)) (by decide) (by decide)) h6 hr (by exact hI))) rfl rfl (Nat.le_of_ble_eq_true rfl) d_Mo_some_56 ?_
        rintro v56 h cq nq ⟨S56, hR, hX56, rfl, rfl, r56, rfl, hr56, hsm56, hI56, hr1, hr0⟩
        replace hX := hX.tr hX56
        refine x_istore (L' := [_, _, _, _, _, _, _]) d_Mo_some_59 rfl rfl ?_
        refine x_goto (tgt := 16) d_Mo_some_61 (by decide) ?_
        have hsm7 := (hsm.sa (i := 41) (us := us28) (by decide)).tr (hsm56.mono (by decide) (by decide) (by decide))
        first | exact ex _ _ _ _ hsm7 hr56 (Or.inl ⟨rfl, by rw [hF, if_pos (show T &&& a = a ∧ T &&& b = 0 from ⟨by omega, by omega⟩)]; rfl⟩) _ hR hX | exact go _ _ _ (fun z => by have := z.1; have := z.2; omega) hsm7 hr56 hI56 hr1 hr0 _ hR hX
      · refine x_iload d_Mo_some_41 rfl ?_
        refine x_iload_n d_Mo_some_43 rfl ?_
        refine x_iand d_Mo_some_44 (x_zi ?_)
        have hr44 := inR_ti (zI ((T : Nat) : Int) &&& zI ((b : Nat) : Int))
        refine z_if_ne (tgt := 52) d_Mo_some_45 (by decide) (by omega) (fun hc45 => ?_) (fun hc45 => ?_)
        · refine x_iconst (v := zI 0) d_Mo_some_52 (by decide) ?_
          refine x_istore (L' := [_, _, _, _, _, _, _]) d_Mo_some_53 rfl rfl ?_
          refine x_aload_n d_Mo_some_55 rfl rfl ?_
          refine x_callV (As := []) (k := k_MarkerTextModel) rfl xcv_Mo_308_Mo (Or.inl hR.1) (RM.ap hR (r_nextX (S := sa S1 41 us28) (by omega) (hN.sm (hsm.sa (i := 41) (by decide)) (by decide) (by decide)) h6 hr (by exact hI))) rfl rfl (Nat.le_of_ble_eq_true rfl) d_Mo_some_56 ?_
          rintro v56 h cq nq ⟨S56, hR, hX56, rfl, rfl, r56, rfl, hr56, hsm56, hI56, hr1, hr0⟩
          replace hX := hX.tr hX56
          refine x_istore (L' := [_, _, _, _, _, _, _]) d_Mo_some_59 rfl rfl ?_
          refine x_goto (tgt := 16) d_Mo_some_61 (by decide) ?_
          have hsm7 := (hsm.sa (i := 41) (us := us28) (by decide)).tr (hsm56.mono (by decide) (by decide) (by decide))
          first | exact ex _ _ _ _ hsm7 hr56 (Or.inl ⟨rfl, by rw [hF, if_pos (show T &&& a = a ∧ T &&& b = 0 from ⟨by omega, by omega⟩)]; rfl⟩) _ hR hX | exact go _ _ _ (fun z => by have := z.1; have := z.2; omega) hsm7 hr56 hI56 hr1 hr0 _ hR hX
        · refine x_iconst (v := zI 1) d_Mo_some_48 (by decide) ?_
          refine x_goto (tgt := 53) d_Mo_some_49 (by decide) ?_
          refine x_istore (L' := [_, _, _, _, _, _, _]) d_Mo_some_53 rfl rfl ?_
          refine x_aload_n d_Mo_some_55 rfl rfl ?_
          refine x_callV (As := []) (k := k_MarkerTextModel) rfl xcv_Mo_308_Mo (Or.inl hR.1) (RM.ap hR (r_nextX (S := sa S1 41 us28) (by omega) (hN.sm (hsm.sa (i := 41) (by decide)) (by decide) (by decide)) h6 hr (by exact hI))) rfl rfl (Nat.le_of_ble_eq_true rfl) d_Mo_some_56 ?_
          rintro v56 h cq nq ⟨S56, hR, hX56, rfl, rfl, r56, rfl, hr56, hsm56, hI56, hr1, hr0⟩
          replace hX := hX.tr hX56
          refine x_istore (L' := [_, _, _, _, _, _, _]) d_Mo_some_59 rfl rfl ?_
          refine x_goto (tgt := 16) d_Mo_some_61 (by decide) ?_
          have hsm7 := (hsm.sa (i := 41) (us := us28) (by decide)).tr (hsm56.mono (by decide) (by decide) (by decide))
          first | exact ex _ _ _ _ hsm7 hr56 (Or.inl ⟨rfl, by rw [hF, if_pos (show T &&& a = a ∧ T &&& b = 0 from ⟨by omega, by omega⟩)]; rfl⟩) _ hR hX | exact go _ _ _ (fun z => by have := z.1; have := z.2; omega) hsm7 hr56 hI56 hr1 hr0 _ hR hX
  have hpr := r_prepareX (l := l) (G := G) (o := o) (rf := rf) (d := d) (by omega) hw hn hC hN h6 hK hQ
  by_cases hp : pdN Ns Cs w 6 ≤ 20000
  · have hdt : bZ (decide (pdN Ns Cs w 6 ≤ 20000)) = 1 := by rw [decide_eq_true hp]; rfl
    refine x_aload_n d_Mo_some_0 rfl rfl ?_
    refine x_iload_n d_Mo_some_1 rfl ?_
    refine x_callV (As := [_]) (k := k_MarkerTextModel) rfl xcv_Mo_302_Mo (Or.inl hR.1) (RM.ap hR hpr) rfl rfl (Nat.le_of_ble_eq_true rfl) d_Mo_some_2 ?_
    rintro v2 h cq nq ⟨S2, hR, hX2, rfl, rfl, rfl, hsm2, hm2, hz2, hW2, hp2⟩
    replace hX := hX.tr hX2
    rw [hdt]
    refine z_if_ne (tgt := 10) d_Mo_some_5 (by decide) (by omega) (fun _ => ?_) (fun hq => by omega)
    refine x_iconst (v := zI 1) d_Mo_some_10 (by decide) ?_
    refine x_istore (L' := [_, _, _, _, _, _, _]) d_Mo_some_11 rfl rfl ?_
    refine x_iconst (v := zI 0) d_Mo_some_13 (by decide) ?_
    refine x_istore (L' := [_, _, _, _, _, _, _]) d_Mo_some_14 rfl rfl ?_
    refine lp (remS S2) S2 _ _ (hsm2.mono (by decide) (by decide) (by decide)) (chI_0 hN h6 hn hsm2 hm2 hz2 hW2 hp2) (Nat.le_refl _) ?_ _ hR hX
    rw [rem_0 hN h6 hsm2 hz2 hW2]
    unfold fnd
    rw [hrc, ← hpd, Nat.min_eq_left (by omega), if_pos hp]
  · have hdt : bZ (decide (pdN Ns Cs w 6 ≤ 20000)) = 0 := by rw [decide_eq_false hp]; rfl
    refine x_aload_n d_Mo_some_0 rfl rfl ?_
    refine x_iload_n d_Mo_some_1 rfl ?_
    refine x_callV (As := [_]) (k := k_MarkerTextModel) rfl xcv_Mo_302_Mo (Or.inl hR.1) (RM.ap hR hpr) rfl rfl (Nat.le_of_ble_eq_true rfl) d_Mo_some_2 ?_
    rintro v2 h cq nq ⟨S2, hR, hX2, rfl, rfl, rfl, hsm2, hm2, hz2, hW2, hp2⟩
    replace hX := hX.tr hX2
    rw [hdt]
    refine z_if_ne (tgt := 10) d_Mo_some_5 (by decide) (by omega) (fun hq => by omega) (fun _ => ?_)
    refine x_iconst (v := zI (-1)) d_Mo_some_8 (by decide) ?_
    refine x_iret d_Mo_some_9 rfl ?_
    refine ⟨_, hR, hX, rfl, rfl, ?_, hsm2.mono (by decide) (by decide) (by decide)⟩
    unfold fnd
    rw [hrc, if_neg (by omega)]
    rfl
end RI8
