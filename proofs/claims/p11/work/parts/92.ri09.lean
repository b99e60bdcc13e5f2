section

end
section RI9
variable {l : Launch} {G : XG} {h : XH} {c n d : Nat} {o : Nat} {rf : Nat → Nat} {S : MS}
/-- how many VALUES tests hold -/
def tot : List TsT → Nat
  | [] => 0
  | t :: ts => t.2.2.1.length + tot ts
theorem tot_app {us : List TsT} : ∀ ts : List TsT, tot (ts ++ us) = tot ts + tot us := by
  intro ts
  induction ts with
  | nil => show tot us = 0 + tot us; omega
  | cons t ts ih =>
    show t.2.2.1.length + tot (ts ++ us) = t.2.2.1.length + tot ts + tot us
    omega
theorem cnT_tot : ∀ ts : List TsT, cnT 0 ts + cnT 1 ts + cnT 2 ts + cnT 3 ts + cnT 4 ts + cnT 5 ts ≤ tot ts := by
  intro ts
  induction ts with
  | nil => exact Nat.le_refl _
  | cons t ts ih =>
    have key : (if t.1 = 0 then t.2.2.1.length else 0) + (if t.1 = 1 then t.2.2.1.length else 0) + (if t.1 = 2 then t.2.2.1.length else 0) + (if t.1 = 3 then t.2.2.1.length else 0) + (if t.1 = 4 then t.2.2.1.length else 0) + (if t.1 = 5 then t.2.2.1.length else 0) ≤ t.2.2.1.length := by
      generalize t.2.2.1.length = m
      generalize t.1 = k
      by_cases h0 : k = 0
      · subst h0; simp
      by_cases h1 : k = 1
      · subst h1; simp
      by_cases h2 : k = 2
      · subst h2; simp
      by_cases h3 : k = 3
      · subst h3; simp
      by_cases h4 : k = 4
      · subst h4; simp
      by_cases h5 : k = 5
      · subst h5; simp
      rw [if_neg h0, if_neg h1, if_neg h2, if_neg h3, if_neg h4, if_neg h5]
      omega
    show ((if t.1 = 0 then t.2.2.1.length else 0) + cnT 0 ts) + ((if t.1 = 1 then t.2.2.1.length else 0) + cnT 1 ts) + ((if t.1 = 2 then t.2.2.1.length else 0) + cnT 2 ts) + ((if t.1 = 3 then t.2.2.1.length else 0) + cnT 3 ts) + ((if t.1 = 4 then t.2.2.1.length else 0) + cnT 4 ts) + ((if t.1 = 5 then t.2.2.1.length else 0) + cnT 5 ts) ≤ t.2.2.1.length + tot ts
    omega
theorem cnC_tot {Cs : List CnT} {w : Nat} (hv : ∀ D ∈ Cs, tot D.2 ≤ 40) : ∀ i, cnC Cs w 0 i + cnC Cs w 1 i + cnC Cs w 2 i + cnC Cs w 3 i + cnC Cs w 4 i + cnC Cs w 5 i ≤ 40 * i := by
  intro i
  induction i with
  | zero => exact Nat.le_refl _
  | succ i ih =>
    have st : ∀ j, cnC Cs w j (i + 1) = if w.testBit i then (match Cs[i]? with
      | some D => cnC Cs w j i + cnT j D.2
      | none => cnC Cs w j i) else cnC Cs w j i := fun _ => rfl
    rw [st, st, st, st, st, st]
    by_cases hb : w.testBit i = true
    · simp only [if_pos hb]
      cases hD : Cs[i]? with
      | none => show cnC Cs w 0 i + cnC Cs w 1 i + cnC Cs w 2 i + cnC Cs w 3 i + cnC Cs w 4 i + cnC Cs w 5 i ≤ 40 * (i + 1); omega
      | some D =>
        have h1 := cnT_tot D.2
        have h2 := hv D (List.mem_of_getElem? hD)
        show (cnC Cs w 0 i + cnT 0 D.2) + (cnC Cs w 1 i + cnT 1 D.2) + (cnC Cs w 2 i + cnT 2 D.2) + (cnC Cs w 3 i + cnT 3 D.2) + (cnC Cs w 4 i + cnT 4 D.2) + (cnC Cs w 5 i + cnT 5 D.2) ≤ 40 * (i + 1)
        omega
    · simp only [if_neg hb]
      omega
theorem cnS_b {Cs : List CnT} {w : Nat} (hv : ∀ D ∈ Cs, tot D.2 ≤ 40) : cnS Cs w 6 ≤ 356 := by
  have := cnC_tot (w := w) hv 8
  show 0 + (cnC Cs w 0 8 + 6) + (cnC Cs w 1 8 + 6) + (cnC Cs w 2 8 + 6) + (cnC Cs w 3 8 + 6) + (cnC Cs w 4 8 + 6) + (cnC Cs w 5 8 + 6) ≤ 356
  omega
theorem cdR.tt {Ns : List NmT} {c : Int} {D : Den} {ts : List TsT} (h : cdR Ns S c D ts) (hC : cdOk S c) : tot ts ≤ 40 := by
  obtain ⟨dn, tx, hsl, -, -, rfl⟩ := h
  obtain ⟨w, ⟨p1, p2, p3, p4, p5, p6, p7, p8, p9, p10⟩, -⟩ := hC
  have key : ∀ m : Nat, (m : Int) ≤ gd (S.2.1 21) c → ((tot (tsF c tx m) : Nat) : Int) = sm (gd (S.2.1 20)) (40 * c) m := by
    intro m
    induction m with
    | zero => intro _; rfl
    | succ m ih =>
      intro hm
      have e := ih (by omega)
      rw [tsF_1, tot_app]
      show _ = sm (gd (S.2.1 20)) (40 * c) m + gd (S.2.1 20) (40 * c + (m : Nat))
      rcases hsl.2.2.1 (40 * c + (m : Nat)) (by omega) (by omega) with ⟨a1, -, a3⟩ | ⟨x, a1, a2⟩
      · rw [a1, a3]
        show ((tot (tsF c tx m) + 0 : Nat) : Int) = _
        omega
      · obtain ⟨nm, b1, b2, b3, b4⟩ := a2.its
        rw [a1, b3]
        show ((tot (tsF c tx m) + (x.2.2.1.length + 0) : Nat) : Int) = _
        omega
  have := key (gd (S.2.1 21) c).toNat (by omega)
  omega
theorem cqR.tt {Ns : List NmT} {Cs : List CnT} {il : Option Nat} (hQ : cqR Ns Cs il S) (hC : csOk S) : ∀ D ∈ Cs, tot D.2 ≤ 40 := fun D hD => by
  obtain ⟨i, hi, e⟩ := List.getElem_of_mem hD
  have h1 := hQ.1
  exact (hQ.2.2.2 i D (by rw [List.getElem?_eq_getElem hi, e])).tt (hC.2.2 (i : Nat) (by omega) (by omega))
theorem sh_n {j : Nat} (hj : j < 8) : (zI 1 <<< (zI ((j : Nat) : Int) &&& 31)).toInt = ((2 ^ j : Nat) : Int) := by
  obtain ⟨b1, b2⟩ := bit_1 j hj
  rw [zI_nI (by omega), show zI 1 = (1 : Int32) by decide, b1, nI_ti (by omega)]
theorem or_nn {x y : Nat} (hx : x < 256) (hy : y < 256) : (zI ((x : Nat) : Int) ||| zI ((y : Nat) : Int)).toInt = ((x ||| y : Nat) : Int) := by
  have := or_256 hx hy
  rw [zI_nI (by omega), zI_nI (by omega), nI_or, nI_ti (by omega)]
theorem fnd_b {Cs : List CnT} {w a b : Nat} {r : LyT} : (∃ F : Int, fnd Cs w a b r = zI F ∧ (F = -1 ∨ F = 0 ∨ F = 1)) := by
  unfold fnd
  split
  · split
    · exact ⟨1, by decide, by omega⟩
    · exact ⟨0, by decide, by omega⟩
  · exact ⟨-1, by decide, by omega⟩
theorem iAt_none {k : Int} {Cs : List CnT} (hk : inR k) (h : ¬ (0 ≤ k ∧ k < Cs.length)) : (iAt (zI k) Cs).isSome = false := by
  rw [iAt_z hk]
  by_cases h0 : k < 0
  · rw [if_pos h0]; rfl
  · rw [if_neg h0, List.getElem?_eq_none (by omega)]; rfl
theorem iAt_some {k : Int} {Cs : List CnT} (hk : inR k) (h : 0 ≤ k ∧ k < Cs.length) : (iAt (zI k) Cs).isSome = true := by
  rw [iAt_z hk, if_neg (by omega), List.getElem?_eq_getElem (by omega)]
  rfl
theorem r_everX {k : Int} {Ns : List NmT} {Cs : List CnT} {il : Option Nat} {r : LyT} (hd : 5 ≤ d) (hk : inR k) (hn : nmOk S) (hC : csOk S) (hN : nmR Ns S) (h6 : Ns.length ≤ 6) (hK : knR Ns S) (hQ : cqR Ns Cs il S) (hr : lyW Ns Cs (2 ^ (zI k).toNatClampNeg) 6 r) : RM l G d M_Mo_ever [.ref o, .int (zI k)] o rf S (fun v S' => v = some (.int (if (iAt (zI k) Cs).isSome then fnd Cs (2 ^ (zI k).toNatClampNeg) (2 ^ (zI k).toNatClampNeg) 0 r else -1)) ∧ rSm S S' [0] soA [37]) := by
  obtain ⟨d, rfl⟩ : ∃ q, d = q + 1 := ⟨d - 1, by omega⟩
  intro H0 c n hR
  refine XM.of (by decide +kernel) (Nat.le_of_ble_eq_true rfl) ?_
  have hX : xonly H0 H0 RKs := xonly.rf
  obtain ⟨k1, k2, k3⟩ := id hC
  have c1 := hQ.1
  rw [zI_clamp hk] at hr ⊢
  by_cases hkc : 0 ≤ k ∧ k < Cs.length
  · rw [iAt_some hk hkc]
    obtain ⟨j, rfl⟩ : ∃ j : Nat, k = j := ⟨k.toNat, by omega⟩
    rw [Int.toNat_natCast] at hr ⊢
    have hb := (bit_1 j (by omega)).2
    have hs := sh_n (j := j) (by omega)
    have hso := r_someX (l := l) (G := G) (o := o) (rf := rf) (d := d) (S := sp S 0 0) (w := 2 ^ j) (a := 2 ^ j) (b := 0) (by omega) hb hb (by decide) hn hC hN h6 hK hQ hr
    obtain ⟨F, hF, hF3⟩ := fnd_b (Cs := Cs) (w := 2 ^ j) (a := 2 ^ j) (b := 0) (r := r)
    rw [hF] at hso
    simp only [if_true]
    rw [hF]
    refine x_aload_n d_Mo_ever_0 rfl rfl ?_
    refine x_iconst (v := zI 0) d_Mo_ever_1 (by decide) ?_
    refine r_put xf_Mo_121_Mo xp_Mo_0 hR hX (by omega) rfl rfl d_Mo_ever_2 ?_
    intro h hR hX
    refine x_aload_n d_Mo_ever_5 rfl rfl ?_
    refine x_iload_n d_Mo_ever_6 rfl ?_
    refine x_callV (As := [_]) (k := k_MarkerTextModel) rfl xcv_Mo_281_Mo (Or.inl hR.1) (RM.ap hR (r_isCondition (by omega) hk (by exact k1))) rfl rfl (Nat.le_of_ble_eq_true rfl) d_Mo_ever_7 ?_
    rintro v7 h cq nq ⟨S7, hR, hX7, rfl, rfl, hE7, r7, rfl, hr7⟩
    replace hE7 := Eq.symm hE7
    subst hE7
    replace hX := hX.tr hX7
    replace hr7 : (r7 = 1 ∧ (0 ≤ (j : Int) ∧ (j : Int) ≤ S.1 11 - 1)) ∨ (r7 = 0 ∧ ¬ (0 ≤ (j : Int) ∧ (j : Int) ≤ S.1 11 - 1)) := hr7
    refine z_if_eq (tgt := 27) d_Mo_ever_10 (by decide) (by omega) (fun hq => by omega) (fun _ => ?_)
    refine x_aload_n d_Mo_ever_13 rfl rfl ?_
    refine x_iconst (v := zI 1) d_Mo_ever_14 (by decide) ?_
    refine x_iload_n d_Mo_ever_15 rfl ?_
    refine x_ishl d_Mo_ever_16 (x_zi ?_)
    have hr16 := inR_ti (zI 1 <<< (zI ((j : Nat) : Int) &&& 31))
    refine x_iconst (v := zI 1) d_Mo_ever_17 (by decide) ?_
    refine x_iload_n d_Mo_ever_18 rfl ?_
    refine x_ishl d_Mo_ever_19 (x_zi ?_)
    have hr19 := inR_ti (zI 1 <<< (zI ((j : Nat) : Int) &&& 31))
    refine x_iconst (v := zI 0) d_Mo_ever_20 (by decide) ?_
    rw [hs]
    refine x_callV (As := [_, _, _]) (k := k_MarkerTextModel) rfl xcv_Mo_311_Mo (Or.inl hR.1) (RM.ap hR hso) rfl rfl (Nat.le_of_ble_eq_true rfl) d_Mo_ever_21 ?_
    rintro v21 h cq nq ⟨S21, hR, hX21, rfl, rfl, rfl, hsm21⟩
    replace hX := hX.tr hX21
    refine x_goto (tgt := 28) d_Mo_ever_24 (by decide) ?_
    refine x_iret d_Mo_ever_28 rfl ?_
    exact ⟨_, hR, hX, rfl, rfl, rfl, (rSm.r0.sp (by decide)).tr (hsm21.mono (by decide) (by decide) (by decide))⟩
  · rw [iAt_none hk hkc]
    refine x_aload_n d_Mo_ever_0 rfl rfl ?_
    refine x_iconst (v := zI 0) d_Mo_ever_1 (by decide) ?_
    refine r_put xf_Mo_121_Mo xp_Mo_0 hR hX (by omega) rfl rfl d_Mo_ever_2 ?_
    intro h hR hX
    refine x_aload_n d_Mo_ever_5 rfl rfl ?_
    refine x_iload_n d_Mo_ever_6 rfl ?_
    refine x_callV (As := [_]) (k := k_MarkerTextModel) rfl xcv_Mo_281_Mo (Or.inl hR.1) (RM.ap hR (r_isCondition (by omega) hk (by exact k1))) rfl rfl (Nat.le_of_ble_eq_true rfl) d_Mo_ever_7 ?_
    rintro v7 h cq nq ⟨S7, hR, hX7, rfl, rfl, hE7, r7, rfl, hr7⟩
    replace hE7 := Eq.symm hE7
    subst hE7
    replace hX := hX.tr hX7
    replace hr7 : (r7 = 1 ∧ (0 ≤ k ∧ k ≤ S.1 11 - 1)) ∨ (r7 = 0 ∧ ¬ (0 ≤ k ∧ k ≤ S.1 11 - 1)) := hr7
    refine z_if_eq (tgt := 27) d_Mo_ever_10 (by decide) (by omega) (fun _ => ?_) (fun hq => by omega)
    refine x_iconst (v := zI (-1)) d_Mo_ever_27 (by decide) ?_
    refine x_iret d_Mo_ever_28 rfl ?_
    exact ⟨_, hR, hX, rfl, rfl, rfl, rSm.r0.sp (by decide)⟩
theorem r_impliesX {k q : Int} {Ns : List NmT} {Cs : List CnT} {il : Option Nat} {r : LyT} (hd : 5 ≤ d) (hk : inR k) (hq : inR q) (hn : nmOk S) (hC : csOk S) (hN : nmR Ns S) (h6 : Ns.length ≤ 6) (hK : knR Ns S) (hQ : cqR Ns Cs il S) (hr : lyW Ns Cs (2 ^ (zI k).toNatClampNeg ||| 2 ^ (zI q).toNatClampNeg) 6 r) : RM l G d M_Mo_implies [.ref o, .int (zI k), .int (zI q)] o rf S (fun v S' => v = some (.int (if (iAt (zI k) Cs).isSome ∧ (iAt (zI q) Cs).isSome then (if fnd Cs (2 ^ (zI k).toNatClampNeg ||| 2 ^ (zI q).toNatClampNeg) (2 ^ (zI k).toNatClampNeg) (2 ^ (zI q).toNatClampNeg) r = -1 then -1 else 1 - fnd Cs (2 ^ (zI k).toNatClampNeg ||| 2 ^ (zI q).toNatClampNeg) (2 ^ (zI k).toNatClampNeg) (2 ^ (zI q).toNatClampNeg) r) else -1)) ∧ rSm S S' [0] soA [37]) := by
  obtain ⟨d, rfl⟩ : ∃ q, d = q + 1 := ⟨d - 1, by omega⟩
  intro H0 c n hR
  refine XM.of (by decide +kernel) (Nat.le_of_ble_eq_true rfl) ?_
  have hX : xonly H0 H0 RKs := xonly.rf
  obtain ⟨k1, k2, k3⟩ := id hC
  have c1 := hQ.1
  rw [zI_clamp hk, zI_clamp hq] at hr ⊢
  by_cases hkc : (0 ≤ k ∧ k < Cs.length) ∧ (0 ≤ q ∧ q < Cs.length)
  · rw [if_pos ⟨iAt_some hk hkc.1, iAt_some hq hkc.2⟩]
    obtain ⟨i, rfl⟩ : ∃ i : Nat, k = i := ⟨k.toNat, by omega⟩
    obtain ⟨j, rfl⟩ : ∃ j : Nat, q = j := ⟨q.toNat, by omega⟩
    rw [Int.toNat_natCast, Int.toNat_natCast] at hr ⊢
    have hb1 := (bit_1 i (by omega)).2
    have hb2 := (bit_1 j (by omega)).2
    have hb3 := or_256 hb1 hb2
    have hs1 := sh_n (j := i) (by omega)
    have hs2 := sh_n (j := j) (by omega)
    have hor := or_nn hb1 hb2
    have hso := r_someX (l := l) (G := G) (o := o) (rf := rf) (d := d) (S := sp S 0 0) (w := 2 ^ i ||| 2 ^ j) (a := 2 ^ i) (b := 2 ^ j) (by omega) hb3 hb1 hb2 hn hC hN h6 hK hQ hr
    obtain ⟨F, hF, hF3⟩ := fnd_b (Cs := Cs) (w := 2 ^ i ||| 2 ^ j) (a := 2 ^ i) (b := 2 ^ j) (r := r)
    rw [hF] at hso ⊢
    have hfin : (if zI F = -1 then (-1 : Int32) else 1 - zI F) = zI (if F < 0 then -1 else 1 - F) := by
      rcases hF3 with rfl | rfl | rfl <;> decide
    rw [hfin]
    refine x_aload_n d_Mo_implies_0 rfl rfl ?_
    refine x_iconst (v := zI 0) d_Mo_implies_1 (by decide) ?_
    refine r_put xf_Mo_121_Mo xp_Mo_0 hR hX (by omega) rfl rfl d_Mo_implies_2 ?_
    intro h hR hX
    refine x_aload_n d_Mo_implies_5 rfl rfl ?_
    refine x_iload_n d_Mo_implies_6 rfl ?_
    refine x_callV (As := [_]) (k := k_MarkerTextModel) rfl xcv_Mo_281_Mo (Or.inl hR.1) (RM.ap hR (r_isCondition (by omega) hk (by exact k1))) rfl rfl (Nat.le_of_ble_eq_true rfl) d_Mo_implies_7 ?_
    rintro v7 h cq nq ⟨S7, hR, hX7, rfl, rfl, hE7, r7, rfl, hr7⟩
    replace hE7 := Eq.symm hE7
    subst hE7
    replace hX := hX.tr hX7
    replace hr7 : (r7 = 1 ∧ (0 ≤ (i : Int) ∧ (i : Int) ≤ S.1 11 - 1)) ∨ (r7 = 0 ∧ ¬ (0 ≤ (i : Int) ∧ (i : Int) ≤ S.1 11 - 1)) := hr7
    refine z_if_eq (tgt := 21) d_Mo_implies_10 (by decide) (by omega) (fun hq => by omega) (fun _ => ?_)
    refine x_aload_n d_Mo_implies_13 rfl rfl ?_
    refine x_iload_n d_Mo_implies_14 rfl ?_
    refine x_callV (As := [_]) (k := k_MarkerTextModel) rfl xcv_Mo_281_Mo (Or.inl hR.1) (RM.ap hR (r_isCondition (by omega) hq (by exact k1))) rfl rfl (Nat.le_of_ble_eq_true rfl) d_Mo_implies_15 ?_
    rintro v15 h cq nq ⟨S15, hR, hX15, rfl, rfl, hE15, r15, rfl, hr15⟩
    replace hE15 := Eq.symm hE15
    subst hE15
    replace hX := hX.tr hX15
    replace hr15 : (r15 = 1 ∧ (0 ≤ (j : Int) ∧ (j : Int) ≤ S.1 11 - 1)) ∨ (r15 = 0 ∧ ¬ (0 ≤ (j : Int) ∧ (j : Int) ≤ S.1 11 - 1)) := hr15
    refine z_if_ne (tgt := 23) d_Mo_implies_18 (by decide) (by omega) (fun _ => ?_) (fun hq => by omega)
    refine x_aload_n d_Mo_implies_23 rfl rfl ?_
    refine x_iconst (v := zI 1) d_Mo_implies_24 (by decide) ?_
    refine x_iload_n d_Mo_implies_25 rfl ?_
    refine x_ishl d_Mo_implies_26 (x_zi ?_)
    have hr26 := inR_ti (zI 1 <<< (zI ((i : Nat) : Int) &&& 31))
    refine x_iconst (v := zI 1) d_Mo_implies_27 (by decide) ?_
    refine x_iload_n d_Mo_implies_28 rfl ?_
    refine x_ishl d_Mo_implies_29 (x_zi ?_)
    have hr29 := inR_ti (zI 1 <<< (zI ((j : Nat) : Int) &&& 31))
    refine x_ior d_Mo_implies_30 (x_zi ?_)
    have hr30 := inR_ti (zI ((zI 1 <<< (zI ((i : Nat) : Int) &&& 31)).toInt) ||| zI ((zI 1 <<< (zI ((j : Nat) : Int) &&& 31)).toInt))
    refine x_iconst (v := zI 1) d_Mo_implies_31 (by decide) ?_
    refine x_iload_n d_Mo_implies_32 rfl ?_
    refine x_ishl d_Mo_implies_33 (x_zi ?_)
    have hr33 := inR_ti (zI 1 <<< (zI ((i : Nat) : Int) &&& 31))
    refine x_iconst (v := zI 1) d_Mo_implies_34 (by decide) ?_
    refine x_iload_n d_Mo_implies_35 rfl ?_
    refine x_ishl d_Mo_implies_36 (x_zi ?_)
    have hr36 := inR_ti (zI 1 <<< (zI ((j : Nat) : Int) &&& 31))
    rw [hs1, hs2, hor]
    refine x_callV (As := [_, _, _]) (k := k_MarkerTextModel) rfl xcv_Mo_311_Mo (Or.inl hR.1) (RM.ap hR hso) rfl rfl (Nat.le_of_ble_eq_true rfl) d_Mo_implies_37 ?_
    rintro v37 h cq nq ⟨S37, hR, hX37, rfl, rfl, rfl, hsm37⟩
    replace hX := hX.tr hX37
    refine x_istore_n (L' := [_, _, _, _]) d_Mo_implies_40 rfl rfl ?_
    refine x_iload_n d_Mo_implies_41 rfl ?_
    refine z_if_ge (tgt := 49) d_Mo_implies_42 (by decide) (by omega) (fun hc42 => ?_) (fun hc42 => ?_)
    · refine x_iconst (v := zI 1) d_Mo_implies_49 (by decide) ?_
      refine x_iload_n d_Mo_implies_50 rfl ?_
      refine z_isub d_Mo_implies_51 ?_
      refine x_iret d_Mo_implies_52 rfl ?_
      first | exact ⟨_, hR, hX, rfl, rfl, by rw [if_pos (by omega)], (rSm.r0.sp (by decide)).tr (hsm37.mono (by decide) (by decide) (by decide))⟩ | exact ⟨_, hR, hX, rfl, rfl, by rw [if_neg (by omega)], (rSm.r0.sp (by decide)).tr (hsm37.mono (by decide) (by decide) (by decide))⟩
    · refine x_iconst (v := zI (-1)) d_Mo_implies_45 (by decide) ?_
      refine x_goto (tgt := 52) d_Mo_implies_46 (by decide) ?_
      refine x_iret d_Mo_implies_52 rfl ?_
      first | exact ⟨_, hR, hX, rfl, rfl, by rw [if_pos (by omega)], (rSm.r0.sp (by decide)).tr (hsm37.mono (by decide) (by decide) (by decide))⟩ | exact ⟨_, hR, hX, rfl, rfl, by rw [if_neg (by omega)], (rSm.r0.sp (by decide)).tr (hsm37.mono (by decide) (by decide) (by decide))⟩
  · rw [if_neg (fun z => hkc ⟨Decidable.byContradiction (fun y => by rw [iAt_none hk y] at z; cases z.1), Decidable.byContradiction (fun y => by rw [iAt_none hq y] at z; cases z.2)⟩)]
    refine x_aload_n d_Mo_implies_0 rfl rfl ?_
    refine x_iconst (v := zI 0) d_Mo_implies_1 (by decide) ?_
    refine r_put xf_Mo_121_Mo xp_Mo_0 hR hX (by omega) rfl rfl d_Mo_implies_2 ?_
    intro h hR hX
    refine x_aload_n d_Mo_implies_5 rfl rfl ?_
    refine x_iload_n d_Mo_implies_6 rfl ?_
    refine x_callV (As := [_]) (k := k_MarkerTextModel) rfl xcv_Mo_281_Mo (Or.inl hR.1) (RM.ap hR (r_isCondition (by omega) hk (by exact k1))) rfl rfl (Nat.le_of_ble_eq_true rfl) d_Mo_implies_7 ?_
    rintro v7 h cq nq ⟨S7, hR, hX7, rfl, rfl, hE7, r7, rfl, hr7⟩
    replace hE7 := Eq.symm hE7
    subst hE7
    replace hX := hX.tr hX7
    replace hr7 : (r7 = 1 ∧ (0 ≤ k ∧ k ≤ S.1 11 - 1)) ∨ (r7 = 0 ∧ ¬ (0 ≤ k ∧ k ≤ S.1 11 - 1)) := hr7
    refine z_if_eq (tgt := 21) d_Mo_implies_10 (by decide) (by omega) (fun hc10 => ?_) (fun hc10 => ?_)
    · refine x_iconst (v := zI (-1)) d_Mo_implies_21 (by decide) ?_
      refine x_iret d_Mo_implies_22 rfl ?_
      exact ⟨_, hR, hX, rfl, rfl, rfl, rSm.r0.sp (by decide)⟩
    · refine x_aload_n d_Mo_implies_13 rfl rfl ?_
      refine x_iload_n d_Mo_implies_14 rfl ?_
      refine x_callV (As := [_]) (k := k_MarkerTextModel) rfl xcv_Mo_281_Mo (Or.inl hR.1) (RM.ap hR (r_isCondition (by omega) hq (by exact k1))) rfl rfl (Nat.le_of_ble_eq_true rfl) d_Mo_implies_15 ?_
      rintro v15 h cq nq ⟨S15, hR, hX15, rfl, rfl, hE15, r15, rfl, hr15⟩
      replace hE15 := Eq.symm hE15
      subst hE15
      replace hX := hX.tr hX15
      replace hr15 : (r15 = 1 ∧ (0 ≤ q ∧ q ≤ S.1 11 - 1)) ∨ (r15 = 0 ∧ ¬ (0 ≤ q ∧ q ≤ S.1 11 - 1)) := hr15
      refine z_if_ne (tgt := 23) d_Mo_implies_18 (by decide) (by omega) (fun hq => by omega) (fun _ => ?_)
      refine x_iconst (v := zI (-1)) d_Mo_implies_21 (by decide) ?_
      refine x_iret d_Mo_implies_22 rfl ?_
      exact ⟨_, hR, hX, rfl, rfl, rfl, rSm.r0.sp (by decide)⟩
theorem r_apartX {k q : Int} {Ns : List NmT} {Cs : List CnT} {il : Option Nat} {r : LyT} (hd : 5 ≤ d) (hk : inR k) (hq : inR q) (hn : nmOk S) (hC : csOk S) (hN : nmR Ns S) (h6 : Ns.length ≤ 6) (hK : knR Ns S) (hQ : cqR Ns Cs il S) (hr : lyW Ns Cs (2 ^ (zI k).toNatClampNeg ||| 2 ^ (zI q).toNatClampNeg) 6 r) : RM l G d M_Mo_apart [.ref o, .int (zI k), .int (zI q)] o rf S (fun v S' => v = some (.int (if (iAt (zI k) Cs).isSome ∧ (iAt (zI q) Cs).isSome then (if fnd Cs (2 ^ (zI k).toNatClampNeg ||| 2 ^ (zI q).toNatClampNeg) (2 ^ (zI k).toNatClampNeg ||| 2 ^ (zI q).toNatClampNeg) (0) r = -1 then -1 else 1 - fnd Cs (2 ^ (zI k).toNatClampNeg ||| 2 ^ (zI q).toNatClampNeg) (2 ^ (zI k).toNatClampNeg ||| 2 ^ (zI q).toNatClampNeg) (0) r) else -1)) ∧ rSm S S' [0] soA [37]) := by
  obtain ⟨d, rfl⟩ : ∃ q, d = q + 1 := ⟨d - 1, by omega⟩
  intro H0 c n hR
  refine XM.of (by decide +kernel) (Nat.le_of_ble_eq_true rfl) ?_
  have hX : xonly H0 H0 RKs := xonly.rf
  obtain ⟨k1, k2, k3⟩ := id hC
  have c1 := hQ.1
  rw [zI_clamp hk, zI_clamp hq] at hr ⊢
  by_cases hkc : (0 ≤ k ∧ k < Cs.length) ∧ (0 ≤ q ∧ q < Cs.length)
  · rw [if_pos ⟨iAt_some hk hkc.1, iAt_some hq hkc.2⟩]
    obtain ⟨i, rfl⟩ : ∃ i : Nat, k = i := ⟨k.toNat, by omega⟩
    obtain ⟨j, rfl⟩ : ∃ j : Nat, q = j := ⟨q.toNat, by omega⟩
    rw [Int.toNat_natCast, Int.toNat_natCast] at hr ⊢
    have hb1 := (bit_1 i (by omega)).2
    have hb2 := (bit_1 j (by omega)).2
    have hb3 := or_256 hb1 hb2
    have hs1 := sh_n (j := i) (by omega)
    have hs2 := sh_n (j := j) (by omega)
    have hor := or_nn hb1 hb2
    have hso := r_someX (l := l) (G := G) (o := o) (rf := rf) (d := d) (S := sp S 0 0) (w := 2 ^ i ||| 2 ^ j) (a := 2 ^ i ||| 2 ^ j) (b := 0) (by omega) hb3 hb3 (by decide) hn hC hN h6 hK hQ hr
    obtain ⟨F, hF, hF3⟩ := fnd_b (Cs := Cs) (w := 2 ^ i ||| 2 ^ j) (a := 2 ^ i ||| 2 ^ j) (b := 0) (r := r)
    rw [hF] at hso ⊢
    have hfin : (if zI F = -1 then (-1 : Int32) else 1 - zI F) = zI (if F < 0 then -1 else 1 - F) := by
      rcases hF3 with rfl | rfl | rfl <;> decide
    rw [hfin]
    refine x_aload_n d_Mo_apart_0 rfl rfl ?_
    refine x_iconst (v := zI 0) d_Mo_apart_1 (by decide) ?_
    refine r_put xf_Mo_121_Mo xp_Mo_0 hR hX (by omega) rfl rfl d_Mo_apart_2 ?_
    intro h hR hX
    refine x_aload_n d_Mo_apart_5 rfl rfl ?_
    refine x_iload_n d_Mo_apart_6 rfl ?_
    refine x_callV (As := [_]) (k := k_MarkerTextModel) rfl xcv_Mo_281_Mo (Or.inl hR.1) (RM.ap hR (r_isCondition (by omega) hk (by exact k1))) rfl rfl (Nat.le_of_ble_eq_true rfl) d_Mo_apart_7 ?_
    rintro v7 h cq nq ⟨S7, hR, hX7, rfl, rfl, hE7, r7, rfl, hr7⟩
    replace hE7 := Eq.symm hE7
    subst hE7
    replace hX := hX.tr hX7
    replace hr7 : (r7 = 1 ∧ (0 ≤ (i : Int) ∧ (i : Int) ≤ S.1 11 - 1)) ∨ (r7 = 0 ∧ ¬ (0 ≤ (i : Int) ∧ (i : Int) ≤ S.1 11 - 1)) := hr7
    refine z_if_eq (tgt := 21) d_Mo_apart_10 (by decide) (by omega) (fun hq => by omega) (fun _ => ?_)
    refine x_aload_n d_Mo_apart_13 rfl rfl ?_
    refine x_iload_n d_Mo_apart_14 rfl ?_
    refine x_callV (As := [_]) (k := k_MarkerTextModel) rfl xcv_Mo_281_Mo (Or.inl hR.1) (RM.ap hR (r_isCondition (by omega) hq (by exact k1))) rfl rfl (Nat.le_of_ble_eq_true rfl) d_Mo_apart_15 ?_
    rintro v15 h cq nq ⟨S15, hR, hX15, rfl, rfl, hE15, r15, rfl, hr15⟩
    replace hE15 := Eq.symm hE15
    subst hE15
    replace hX := hX.tr hX15
    replace hr15 : (r15 = 1 ∧ (0 ≤ (j : Int) ∧ (j : Int) ≤ S.1 11 - 1)) ∨ (r15 = 0 ∧ ¬ (0 ≤ (j : Int) ∧ (j : Int) ≤ S.1 11 - 1)) := hr15
    refine z_if_ne (tgt := 23) d_Mo_apart_18 (by decide) (by omega) (fun _ => ?_) (fun hq => by omega)
    refine x_aload_n d_Mo_apart_23 rfl rfl ?_
    refine x_iconst (v := zI 1) d_Mo_apart_24 (by decide) ?_
    refine x_iload_n d_Mo_apart_25 rfl ?_
    refine x_ishl d_Mo_apart_26 (x_zi ?_)
    have hr26 := inR_ti (zI 1 <<< (zI ((i : Nat) : Int) &&& 31))
    refine x_iconst (v := zI 1) d_Mo_apart_27 (by decide) ?_
    refine x_iload_n d_Mo_apart_28 rfl ?_
    refine x_ishl d_Mo_apart_29 (x_zi ?_)
    have hr29 := inR_ti (zI 1 <<< (zI ((j : Nat) : Int) &&& 31))
    refine x_ior d_Mo_apart_30 (x_zi ?_)
    have hr30 := inR_ti (zI ((zI 1 <<< (zI ((i : Nat) : Int) &&& 31)).toInt) ||| zI ((zI 1 <<< (zI ((j : Nat) : Int) &&& 31)).toInt))
    refine x_iconst (v := zI 1) d_Mo_apart_31 (by decide) ?_
    refine x_iload_n d_Mo_apart_32 rfl ?_
    refine x_ishl d_Mo_apart_33 (x_zi ?_)
    have hr33 := inR_ti (zI 1 <<< (zI ((i : Nat) : Int) &&& 31))
    refine x_iconst (v := zI 1) d_Mo_apart_34 (by decide) ?_
    refine x_iload_n d_Mo_apart_35 rfl ?_
    refine x_ishl d_Mo_apart_36 (x_zi ?_)
    have hr36 := inR_ti (zI 1 <<< (zI ((j : Nat) : Int) &&& 31))
    refine x_ior d_Mo_apart_37 (x_zi ?_)
    have hr37 := inR_ti (zI ((zI 1 <<< (zI ((i : Nat) : Int) &&& 31)).toInt) ||| zI ((zI 1 <<< (zI ((j : Nat) : Int) &&& 31)).toInt))
    refine x_iconst (v := zI 0) d_Mo_apart_38 (by decide) ?_
    rw [hs1, hs2, hor]
    refine x_callV (As := [_, _, _]) (k := k_MarkerTextModel) rfl xcv_Mo_311_Mo (Or.inl hR.1) (RM.ap hR hso) rfl rfl (Nat.le_of_ble_eq_true rfl) d_Mo_apart_39 ?_
    rintro v39 h cq nq ⟨S39, hR, hX39, rfl, rfl, rfl, hsm39⟩
    replace hX := hX.tr hX39
    refine x_istore_n (L' := [_, _, _, _]) d_Mo_apart_42 rfl rfl ?_
    refine x_iload_n d_Mo_apart_43 rfl ?_
    refine z_if_ge (tgt := 51) d_Mo_apart_44 (by decide) (by omega) (fun hc44 => ?_) (fun hc44 => ?_)
    · refine x_iconst (v := zI 1) d_Mo_apart_51 (by decide) ?_
      refine x_iload_n d_Mo_apart_52 rfl ?_
      refine z_isub d_Mo_apart_53 ?_
      refine x_iret d_Mo_apart_54 rfl ?_
      first | exact ⟨_, hR, hX, rfl, rfl, by rw [if_pos (by omega)], (rSm.r0.sp (by decide)).tr (hsm39.mono (by decide) (by decide) (by decide))⟩ | exact ⟨_, hR, hX, rfl, rfl, by rw [if_neg (by omega)], (rSm.r0.sp (by decide)).tr (hsm39.mono (by decide) (by decide) (by decide))⟩
    · refine x_iconst (v := zI (-1)) d_Mo_apart_47 (by decide) ?_
      refine x_goto (tgt := 54) d_Mo_apart_48 (by decide) ?_
      refine x_iret d_Mo_apart_54 rfl ?_
      first | exact ⟨_, hR, hX, rfl, rfl, by rw [if_pos (by omega)], (rSm.r0.sp (by decide)).tr (hsm39.mono (by decide) (by decide) (by decide))⟩ | exact ⟨_, hR, hX, rfl, rfl, by rw [if_neg (by omega)], (rSm.r0.sp (by decide)).tr (hsm39.mono (by decide) (by decide) (by decide))⟩
  · rw [if_neg (fun z => hkc ⟨Decidable.byContradiction (fun y => by rw [iAt_none hk y] at z; cases z.1), Decidable.byContradiction (fun y => by rw [iAt_none hq y] at z; cases z.2)⟩)]
    refine x_aload_n d_Mo_apart_0 rfl rfl ?_
    refine x_iconst (v := zI 0) d_Mo_apart_1 (by decide) ?_
    refine r_put xf_Mo_121_Mo xp_Mo_0 hR hX (by omega) rfl rfl d_Mo_apart_2 ?_
    intro h hR hX
    refine x_aload_n d_Mo_apart_5 rfl rfl ?_
    refine x_iload_n d_Mo_apart_6 rfl ?_
    refine x_callV (As := [_]) (k := k_MarkerTextModel) rfl xcv_Mo_281_Mo (Or.inl hR.1) (RM.ap hR (r_isCondition (by omega) hk (by exact k1))) rfl rfl (Nat.le_of_ble_eq_true rfl) d_Mo_apart_7 ?_
    rintro v7 h cq nq ⟨S7, hR, hX7, rfl, rfl, hE7, r7, rfl, hr7⟩
    replace hE7 := Eq.symm hE7
    subst hE7
    replace hX := hX.tr hX7
    replace hr7 : (r7 = 1 ∧ (0 ≤ k ∧ k ≤ S.1 11 - 1)) ∨ (r7 = 0 ∧ ¬ (0 ≤ k ∧ k ≤ S.1 11 - 1)) := hr7
    refine z_if_eq (tgt := 21) d_Mo_apart_10 (by decide) (by omega) (fun hc10 => ?_) (fun hc10 => ?_)
    · refine x_iconst (v := zI (-1)) d_Mo_apart_21 (by decide) ?_
      refine x_iret d_Mo_apart_22 rfl ?_
      exact ⟨_, hR, hX, rfl, rfl, rfl, rSm.r0.sp (by decide)⟩
    · refine x_aload_n d_Mo_apart_13 rfl rfl ?_
      refine x_iload_n d_Mo_apart_14 rfl ?_
      refine x_callV (As := [_]) (k := k_MarkerTextModel) rfl xcv_Mo_281_Mo (Or.inl hR.1) (RM.ap hR (r_isCondition (by omega) hq (by exact k1))) rfl rfl (Nat.le_of_ble_eq_true rfl) d_Mo_apart_15 ?_
      rintro v15 h cq nq ⟨S15, hR, hX15, rfl, rfl, hE15, r15, rfl, hr15⟩
      replace hE15 := Eq.symm hE15
      subst hE15
      replace hX := hX.tr hX15
      replace hr15 : (r15 = 1 ∧ (0 ≤ q ∧ q ≤ S.1 11 - 1)) ∨ (r15 = 0 ∧ ¬ (0 ≤ q ∧ q ≤ S.1 11 - 1)) := hr15
      refine z_if_ne (tgt := 23) d_Mo_apart_18 (by decide) (by omega) (fun hq => by omega) (fun _ => ?_)
      refine x_iconst (v := zI (-1)) d_Mo_apart_21 (by decide) ?_
      refine x_iret d_Mo_apart_22 rfl ?_
      exact ⟨_, hR, hX, rfl, rfl, rfl, rSm.r0.sp (by decide)⟩
end RI9
