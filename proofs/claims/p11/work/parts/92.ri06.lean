section

end
section RI6
variable {l : Launch} {G : XG} {h : XH} {c n d : Nat} {o : Nat} {rf : Nat → Nat} {S : MS}
theorem klv_ev {kd : Nat} {u : List Nat} (h : klv kd u ≠ 0) : klv kd u % 2 = 0 ∧ 2 ≤ klv kd u := by
  unfold klv at h ⊢
  split
  · rename_i e
    rw [if_pos e] at h
    rcases vsl_even u with z | z <;> omega
  · rename_i e
    rw [if_neg e] at h
    unfold txl at h ⊢
    split
    · omega
    · rename_i z
      rw [if_neg z] at h
      exact absurd rfl h
theorem lk.ev {kd v : Nat} {z : Int64} (h : lk kd v z) : v % 2 = 0 ∧ 2 ≤ v := by
  obtain ⟨u, -, rfl, h2, -⟩ := h
  exact klv_ev h2
theorem tsF_mem {s : Int} {tx : Int → Option TsT} {tc : Nat} {t : TsT} (h : t ∈ tsF s tx tc) : ∃ i : Nat, i < tc ∧ tx (40 * s + (i : Nat)) = some t := by
  unfold tsF at h
  obtain ⟨i, h1, h2⟩ := List.mem_filterMap.mp h
  exact ⟨i, List.mem_range.mp h1, h2⟩
theorem mem_tsF {s q : Int} {tx : Int → Option TsT} {tc : Nat} {t : TsT} (h1 : 40 * s ≤ q) (h2 : q < 40 * s + (tc : Nat)) (h : tx q = some t) : t ∈ tsF s tx tc := by
  unfold tsF
  refine List.mem_filterMap.mpr ⟨(q - 40 * s).toNat, List.mem_range.mpr (by omega), ?_⟩
  rw [show 40 * s + (((q - 40 * s).toNat : Nat) : Int) = q by omega]
  exact h
/-- what the tests of a condition are -/
theorem cdR.its {Ns : List NmT} {c : Int} {D : Den} {ts : List TsT} (h : cdR Ns S c D ts) : ∀ t ∈ ts, t.1 < Ns.length ∧ evn t.2.2.1 := by
  obtain ⟨dn, tx, hsl, -, -, rfl⟩ := h
  intro t ht
  obtain ⟨i, h1, h2⟩ := tsF_mem ht
  have hT := hsl.1.2.2.1
  rcases hsl.2.2.1 (40 * c + (i : Nat)) (by omega) (by omega) with ⟨a, -⟩ | ⟨x, a, b⟩
  · rw [h2] at a; cases a
  · rw [h2] at a
    cases a
    obtain ⟨nm, b1, b2, b3, b4⟩ := b.its
    refine ⟨(List.getElem?_eq_some_iff.mp b1).1, fun v hv => ?_⟩
    obtain ⟨k, hk, e⟩ := List.getElem_of_mem hv
    have := (b4 k hk).ev
    rw [List.getD_eq_getElem?_getD, List.getElem?_eq_getElem hk] at this
    rw [← e]
    exact this
theorem insT_no {j : Nat} {ts : List TsT} : ∀ {W : List Nat}, (∀ t ∈ ts, t.1 ≠ j) → insT j ts W = W := by
  induction ts with
  | nil => intro W _; rfl
  | cons t ts ih =>
    intro W h
    rw [insT_cons, if_neg (h t List.mem_cons_self)]
    exact ih (fun u hu => h u (List.mem_cons_of_mem _ hu))
theorem rC_out {Cs : List CnT} {w j N : Nat} (hv : ∀ D ∈ Cs, ∀ t ∈ D.2, t.1 < N) (hj : N ≤ j) : ∀ i, rC Cs w j i = [] := by
  intro i
  induction i with
  | zero => rfl
  | succ i ih =>
    unfold rC
    split
    · split
      · rename_i D hD
        rw [ih]
        exact insT_no (fun t ht => by have := hv D (List.mem_of_getElem? hD) t ht; omega)
      · exact ih
    · exact ih
theorem rC_top {Cs : List CnT} {w j : Nat} : ∀ k, rC Cs w j (Cs.length + k) = rC Cs w j Cs.length := by
  intro k
  induction k with
  | zero => rfl
  | succ k ih =>
    show (if w.testBit (Cs.length + k) then (match Cs[Cs.length + k]? with
      | some D => insT j D.2 (rC Cs w j (Cs.length + k))
      | none => rC Cs w j (Cs.length + k)) else rC Cs w j (Cs.length + k)) = _
    rw [List.getElem?_eq_none (by omega), ih]
    split <;> rfl
theorem rC_8 {Cs : List CnT} {w j : Nat} (h : Cs.length ≤ 8) : rC Cs w j 8 = rC Cs w j Cs.length := by
  have := rC_top (Cs := Cs) (w := w) (j := j) (8 - Cs.length)
  rw [show Cs.length + (8 - Cs.length) = 8 by omega] at this
  exact this
theorem rC_mono {Cs : List CnT} {w j x : Nat} : ∀ i k, x ∈ rC Cs w j i → x ∈ rC Cs w j (i + k) := by
  intro i k
  induction k with
  | zero => exact id
  | succ k ih =>
    intro hx
    have hx := ih hx
    show x ∈ (if w.testBit (i + k) then (match Cs[i + k]? with
      | some D => insT j D.2 (rC Cs w j (i + k))
      | none => rC Cs w j (i + k)) else rC Cs w j (i + k))
    split
    · split
      · exact insT_mem (Or.inl hx)
      · exact hx
    · exact hx
theorem rC_mem {Cs : List CnT} {w i x : Nat} {D : CnT} {t : TsT} (hi : i < 8) (hb : w.testBit i = true) (hD : Cs[i]? = some D) (ht : t ∈ D.2) (hx : x ∈ t.2.2.1) : x ∈ rC Cs w t.1 8 := by
  have h1 : x ∈ rC Cs w t.1 (i + 1) := by
    show x ∈ (if w.testBit i then (match Cs[i]? with
      | some D => insT t.1 D.2 (rC Cs w t.1 i)
      | none => rC Cs w t.1 i) else rC Cs w t.1 i)
    rw [if_pos hb, hD]
    exact insT_mem (Or.inr ⟨t, ht, rfl, hx⟩)
  have := rC_mono (i + 1) (8 - (i + 1)) h1
  rw [show i + 1 + (8 - (i + 1)) = 8 by omega] at this
  exact this
theorem rKn_mem {Ns : List NmT} {j x : Nat} {W : List Nat} (hx : x ∈ W) : x ∈ rKn Ns j W := by
  unfold rKn
  split
  · exact hx
  · split
    · exact insL_mem (Or.inr hx)
    · exact hx
theorem pdN_out {Ns : List NmT} {Cs : List CnT} {w N : Nat} (hv : ∀ D ∈ Cs, ∀ t ∈ D.2, t.1 < N) : ∀ k, pdN Ns Cs w (N + k) = pdN Ns Cs w N := by
  intro k
  induction k with
  | zero => rfl
  | succ k ih =>
    show pdN Ns Cs w (N + k) * smN (row Ns Cs w (N + k)) = _
    have e : row Ns Cs w (N + k) = [] := by
      show rKn Ns (N + k) (rC Cs w (N + k) 8) = []
      rw [rC_out hv (by omega)]
      exact if_pos rfl
    rw [e, ih]
    exact Nat.mul_one _
theorem plR.keep {Ns : List NmT} {Ws : Nat → List Nat} {s T : Int} {us us' : List Int} (h : plR Ns Ws S s us T 0) (he : ∀ v : Int, 64 * s ≤ v → v < 64 * s + 64 → gd us' v = gd us v) (hb : ∀ q : Int, 40 * s ≤ q → q < T → 64 * s ≤ gd (S.2.1 19) q ∧ gd (S.2.1 19) q + gd (S.2.1 20) q ≤ 64 * s + 64) : plR Ns Ws S s us' T 0 := by
  intro q j nm x h1 h2 h3 h4 h5
  obtain ⟨i, a1, a2, a3⟩ := h q j nm x h1 h2 h3 h4 h5
  have := hb q h1 (by omega)
  exact ⟨i, a1, a2, by rw [he _ (by omega) (by omega)]; exact a3⟩
theorem lg_20 {P : Int} (h : 0 ≤ P ∧ P < 2 ^ 62) : (lg_cmp (zL P) 20000).toInt ≤ 0 ↔ P ≤ 20000 := by
  have e : (20000 : Int64) = zL 20000 := by decide
  rw [e]
  have h1 := lg_lt (x := zL P) (y := zL 20000)
  rw [zL_lt (by omega) (by omega)] at h1
  have h2 : (lg_cmp (zL P) (zL 20000)).toInt = 0 ↔ P = 20000 := ⟨fun z => (zL_inj (by omega) (by omega)).mp (lgz z), fun z => lgz' (by rw [z])⟩
  omega
/-- how prepare() ends, in full -/
abbrev prX (Ns : List NmT) (Cs : List CnT) (w : Nat) (S : MS) : Option Value → MS → Prop := fun v S' => v = some (.int (zI (bZ (decide (pdN Ns Cs w 6 ≤ 20000))))) ∧ rSm S S' [] [25, 38, 39, 40] [37] ∧ mnB S' 326 ∧ chz S' ∧ rwR Ns (row Ns Cs w) S' ∧ ∀ i : Nat, i < Cs.length → w.testBit i = true → plR Ns (row Ns Cs w) S' i (S'.2.1 25) (40 * (i : Int) + gd (S'.2.1 21) i) 0
set_option maxHeartbeats 2000000 in
theorem r_prepareX {Ns : List NmT} {Cs : List CnT} {il : Option Nat} {w : Nat} (hd : 2 ≤ d) (hw : w < 256) (hn : nmOk S) (hC : csOk S) (hN : nmR Ns S) (h6 : Ns.length ≤ 6) (hK : knR Ns S) (hQ : cqR Ns Cs il S) : RM l G d M_Mo_prepare [.ref o, .int (zI ((w : Nat) : Int))] o rf S (prX Ns Cs w S) := by
  obtain ⟨d, rfl⟩ : ∃ q, d = q + 1 := ⟨d - 1, by omega⟩
  intro H0 c n hR
  refine XM.of (by decide +kernel) (Nat.le_of_ble_eq_true rfl) ?_
  have hX : xonly H0 H0 RKs := xonly.rf
  obtain ⟨n1, n2, n3, n4⟩ := id hn
  obtain ⟨k1, k2, k3⟩ := id hC
  obtain ⟨c1, c2, c3, c4⟩ := id hQ
  have hnl := hN.1
  have hts : ∀ D ∈ Cs, ∀ t ∈ D.2, t.1 < Ns.length ∧ evn t.2.2.1 := fun D hD => by
    obtain ⟨i, hi, e⟩ := List.getElem_of_mem hD
    have := (c4 i D (by rw [List.getElem?_eq_getElem hi, e])).its
    exact this
  have hbit : ∀ i : Nat, i < 8 → (bitC ((w : Nat) : Int) (i : Nat) ↔ w.testBit i = true) := fun i hi => bit_tb w hw i hi
  have hpd : pdN Ns Cs w 6 = pdN Ns Cs w Ns.length := by
    have := pdN_out (Ns := Ns) (Cs := Cs) (w := w) (N := Ns.length) (fun D hD t ht => (hts D hD t ht).1) (6 - Ns.length)
    rw [show Ns.length + (6 - Ns.length) = 6 by omega] at this
    exact this
  have hcp := cpd_pd (Ns := Ns) (Cs := Cs) (w := w) Ns.length
  -- the places
  have l4 : ∀ (x : Int64) (w5 : Option Value) (S3 : MS), x = zL (cpd Ns Cs w Ns.length) → cpd Ns Cs w Ns.length < 2 ^ 31 → rSm S S3 [] [38, 39, 40] [37] → mnB S3 326 → chz S3 → rwR Ns (row Ns Cs w) S3 → ∀ (K i : Nat) (us : List Int) (q : Int), q = (i : Nat) → i ≤ Cs.length → (∀ a : Nat, a < i → w.testBit a = true → plR Ns (row Ns Cs w) S3 a us (40 * (a : Int) + gd (S3.2.1 21) a) 0) → Cs.length - i ≤ K → RX l G M_Mo_prepare (d + 1) 160 [some (.ref o), some (.int (zI ((w : Nat) : Int))), some (.long x), none, some (.int (zI q)), w5] [] H0 o rf c n (sa S3 25 us) (prX Ns Cs w S) := by
    intro x w5 S3 hx hxb hsm hm hz hW
    have e11 := hsm.1 11 (by decide)
    have hlg := lg_20 (P := ((cpd Ns Cs w Ns.length : Nat) : Int)) (by omega)
    rw [← hx] at hlg
    have fin : ∀ (us : List Int), rSm S (sa S3 25 us) [] [25, 38, 39, 40] [37] := fun us => (hsm.mono (by decide) (by decide) (by decide)).sa (by decide)
    have ends : ∀ (us : List Int) (i : Nat) (v : Int), i = Cs.length → (∀ a : Nat, a < i → w.testBit a = true → plR Ns (row Ns Cs w) S3 a us (40 * (a : Int) + gd (S3.2.1 21) a) 0) → ((v = 0 ∧ ¬ (lg_cmp x 20000).toInt ≤ 0) ∨ (v = 1 ∧ (lg_cmp x 20000).toInt ≤ 0)) → prX Ns Cs w S (some (.int (zI v))) (sa S3 25 us) := by
      intro us i v hi hpl hv
      subst hi
      refine ⟨?_, fin us, hm, hz, hW.sm (js := []) (is := [25]) (ls := []) (rSm.r0.sa (by decide)) (by decide) (by decide) (by decide), hpl⟩
      rw [hpd]
      rcases hv with ⟨rfl, q⟩ | ⟨rfl, q⟩
      · rw [decide_eq_false (fun z => q (hlg.mpr (by have := hcp.1.mpr z; omega)))]
        rfl
      · rw [decide_eq_true (hcp.1.mp (by have := hlg.mp q; omega))]
        rfl
    intro K
    induction K with
    | zero =>
      intro i us q hq hi hpl hK2 h hR hX
      refine x_iload d_Mo_prepare_160 rfl ?_
      refine x_aload_n d_Mo_prepare_162 rfl rfl ?_
      refine x_get xf_Mo_268_Mo (Or.inl hR.1) (v := .int (zI (S3.1 11))) rfl d_Mo_prepare_163 ?_
      have hb163 : inR (S3.1 11) := hR.2.2.2 11
      refine z_icmp_ge (tgt := 191) d_Mo_prepare_166 (by decide) (by omega) (by omega) (fun _ => ?_) (fun hq => by omega)
      refine x_lload_n d_Mo_prepare_191 rfl ?_
      refine x_ldc2 (v := 20000) xw_1514 d_Mo_prepare_192 ?_
      refine x_lcmp d_Mo_prepare_195 (x_zi ?_)
      have hr195 := inR_ti (lg_cmp x 20000)
      refine z_if_gt (tgt := 203) d_Mo_prepare_196 (by decide) (by omega) (fun hc196 => ?_) (fun hc196 => ?_)
      · refine x_iconst (v := zI 0) d_Mo_prepare_203 (by decide) ?_
        refine x_zret d_Mo_prepare_204 rfl (z_nb (by omega)) ?_
        first | exact ⟨_, hR, hX, rfl, rfl, ends us i 0 (by omega) hpl (Or.inl ⟨rfl, by omega⟩)⟩ | exact ⟨_, hR, hX, rfl, rfl, ends us i 1 (by omega) hpl (Or.inr ⟨rfl, by omega⟩)⟩
      · refine x_iconst (v := zI 1) d_Mo_prepare_199 (by decide) ?_
        refine x_goto (tgt := 204) d_Mo_prepare_200 (by decide) ?_
        refine x_zret d_Mo_prepare_204 rfl (z_nb (by omega)) ?_
        first | exact ⟨_, hR, hX, rfl, rfl, ends us i 0 (by omega) hpl (Or.inl ⟨rfl, by omega⟩)⟩ | exact ⟨_, hR, hX, rfl, rfl, ends us i 1 (by omega) hpl (Or.inr ⟨rfl, by omega⟩)⟩
    | succ K ih =>
      intro i us q hq hi hpl hK2 h hR hX
      by_cases hend : i = Cs.length
      · refine x_iload d_Mo_prepare_160 rfl ?_
        refine x_aload_n d_Mo_prepare_162 rfl rfl ?_
        refine x_get xf_Mo_268_Mo (Or.inl hR.1) (v := .int (zI (S3.1 11))) rfl d_Mo_prepare_163 ?_
        have hb163 : inR (S3.1 11) := hR.2.2.2 11
        refine z_icmp_ge (tgt := 191) d_Mo_prepare_166 (by decide) (by omega) (by omega) (fun _ => ?_) (fun hq => by omega)
        refine x_lload_n d_Mo_prepare_191 rfl ?_
        refine x_ldc2 (v := 20000) xw_1514 d_Mo_prepare_192 ?_
        refine x_lcmp d_Mo_prepare_195 (x_zi ?_)
        have hr195 := inR_ti (lg_cmp x 20000)
        refine z_if_gt (tgt := 203) d_Mo_prepare_196 (by decide) (by omega) (fun hc196 => ?_) (fun hc196 => ?_)
        · refine x_iconst (v := zI 0) d_Mo_prepare_203 (by decide) ?_
          refine x_zret d_Mo_prepare_204 rfl (z_nb (by omega)) ?_
          first | exact ⟨_, hR, hX, rfl, rfl, ends us i 0 hend hpl (Or.inl ⟨rfl, by omega⟩)⟩ | exact ⟨_, hR, hX, rfl, rfl, ends us i 1 hend hpl (Or.inr ⟨rfl, by omega⟩)⟩
        · refine x_iconst (v := zI 1) d_Mo_prepare_199 (by decide) ?_
          refine x_goto (tgt := 204) d_Mo_prepare_200 (by decide) ?_
          refine x_zret d_Mo_prepare_204 rfl (z_nb (by omega)) ?_
          first | exact ⟨_, hR, hX, rfl, rfl, ends us i 0 hend hpl (Or.inl ⟨rfl, by omega⟩)⟩ | exact ⟨_, hR, hX, rfl, rfl, ends us i 1 hend hpl (Or.inr ⟨rfl, by omega⟩)⟩
      · have hil : i < Cs.length := by omega
        have hcd : cdOk (sa S3 25 us) q := (k3 q (by omega) (by omega)).agr (agr.sm (fin us) (by decide))
        have hqs := hQ.sm (fin us) (by decide) (by decide) (by decide) (by decide)
        obtain ⟨dn, tx, hsl, -, -, htsF⟩ := hqs.2.2.2 i _ (List.getElem?_eq_getElem hil)
        rw [← hq] at hsl htsF
        have hT := hsl.1.2.2.1
        have hlo : w.testBit i = true → RM l G d M_Mo_locate [.ref o, .int (zI q)] o rf (sa S3 25 us) (loX Ns (row Ns Cs w) (sa S3 25 us) q) := fun hb => r_locateX (by omega) hcd (by exact fun a h0 h6 => by have := hm a h0 h6; exact ⟨this.1, by have := this.2; show gd (S3.2.1 38) a ≤ 328; omega⟩) hsl (hN.sm (fin us) (by decide) (by decide)) h6 (hW.sm (js := []) (is := [25]) (ls := []) (rSm.r0.sa (by decide)) (by decide) (by decide) (by decide)) (fun e y h1 h2 h3 v hv => rKn_mem (rC_mem (by omega) hb (List.getElem?_eq_getElem hil) (by rw [htsF]; exact mem_tsF h1 (by omega) h3) hv))
        have nxt : ∀ us' : List Int, w.testBit i = true → plR Ns (row Ns Cs w) (sa S3 25 us) q us' (40 * q + gd ((sa S3 25 us).2.1 21) q) 0 → (∀ v : Int, (v < 64 * q ∨ 64 * q + 64 ≤ v) → 0 ≤ v → gd us' v = gd us v) → ∀ a : Nat, a < i + 1 → w.testBit a = true → plR Ns (row Ns Cs w) S3 a us' (40 * (a : Int) + gd (S3.2.1 21) a) 0 := by
          intro us' hb hp hu a ha hba
          by_cases e : a = i
          · rw [e, ← hq]
            exact hp
          · have hca := k3 (a : Nat) (by omega) (by omega)
            obtain ⟨w', ⟨p1, p2, p3, p4, p5, p6, p7, p8, p9, p10⟩, -⟩ := hca.agr (agr.sm hsm (by decide))
            exact (hpl a (by omega) hba).keep (fun v h1 h2 => hu v (by omega) (by omega)) (fun e h1 h2 => by obtain ⟨t1, t2, t3, t4, t5, t6, t7⟩ := p8 e h1 h2; omega)
        by_cases hb : w.testBit i = true
        · have hbc : bitC ((w : Nat) : Int) q := by rw [hq]; exact (hbit i (by omega)).mpr hb
          refine x_iload d_Mo_prepare_160 rfl ?_
          refine x_aload_n d_Mo_prepare_162 rfl rfl ?_
          refine x_get xf_Mo_268_Mo (Or.inl hR.1) (v := .int (zI (S3.1 11))) rfl d_Mo_prepare_163 ?_
          have hb163 : inR (S3.1 11) := hR.2.2.2 11
          refine z_icmp_ge (tgt := 191) d_Mo_prepare_166 (by decide) (by omega) (by omega) (fun hq => by omega) (fun _ => ?_)
          refine x_iload_n d_Mo_prepare_169 rfl ?_
          refine x_iload d_Mo_prepare_170 rfl ?_
          refine x_ishr d_Mo_prepare_172 (x_zi ?_)
          have hr172 := inR_ti (zI ((w : Nat) : Int) >>> (zI q &&& 31))
          refine x_iconst (v := zI 1) d_Mo_prepare_173 (by decide) ?_
          refine x_iand d_Mo_prepare_174 (x_zi ?_)
          have hr174 := inR_ti (zI ((zI ((w : Nat) : Int) >>> (zI q &&& 31)).toInt) &&& zI 1)
          refine x_iconst (v := zI 1) d_Mo_prepare_175 (by decide) ?_
          refine z_icmp_ne (tgt := 185) d_Mo_prepare_176 (by decide) (by omega) (by omega) (fun hc176 => ?_) (fun hc176 => ?_)
          · refine x_iinc (v := zI (q + 1)) (L' := [_, _, _, _, _, _]) d_Mo_prepare_185 rfl (zI_add _ _) rfl rfl ?_
            refine x_goto (tgt := 160) d_Mo_prepare_188 (by decide) ?_
            first | exact ih (i + 1) us182 (q + 1) (by omega) (by omega) (nxt us182 hb hp182 hu182) (by omega) _ (by rw [sa_sa] at hR; exact hR) hX | exact absurd hbc hc176
          · refine x_aload_n d_Mo_prepare_179 rfl rfl ?_
            refine x_iload d_Mo_prepare_180 rfl ?_
            refine x_callV (As := [_]) (k := k_MarkerTextModel) rfl xcv_Mo_299_Mo (Or.inl hR.1) (RM.ap hR (hlo hb)) rfl rfl (Nat.le_of_ble_eq_true rfl) d_Mo_prepare_182 ?_
            rintro v182 h cq nq ⟨S182, hR, hX182, rfl, rfl, us182, rfl, rfl, hp182, hu182⟩
            replace hX := hX.tr hX182
            refine x_iinc (v := zI (q + 1)) (L' := [_, _, _, _, _, _]) d_Mo_prepare_185 rfl (zI_add _ _) rfl rfl ?_
            refine x_goto (tgt := 160) d_Mo_prepare_188 (by decide) ?_
            first | exact ih (i + 1) us182 (q + 1) (by omega) (by omega) (nxt us182 hb hp182 hu182) (by omega) _ (by rw [sa_sa] at hR; exact hR) hX | exact absurd hbc hc176
        · have hbc : ¬ bitC ((w : Nat) : Int) q := by rw [hq]; exact fun z => hb ((hbit i (by omega)).mp z)
          refine x_iload d_Mo_prepare_160 rfl ?_
          refine x_aload_n d_Mo_prepare_162 rfl rfl ?_
          refine x_get xf_Mo_268_Mo (Or.inl hR.1) (v := .int (zI (S3.1 11))) rfl d_Mo_prepare_163 ?_
          have hb163 : inR (S3.1 11) := hR.2.2.2 11
          refine z_icmp_ge (tgt := 191) d_Mo_prepare_166 (by decide) (by omega) (by omega) (fun hq => by omega) (fun _ => ?_)
          refine x_iload_n d_Mo_prepare_169 rfl ?_
          refine x_iload d_Mo_prepare_170 rfl ?_
          refine x_ishr d_Mo_prepare_172 (x_zi ?_)
          have hr172 := inR_ti (zI ((w : Nat) : Int) >>> (zI q &&& 31))
          refine x_iconst (v := zI 1) d_Mo_prepare_173 (by decide) ?_
          refine x_iand d_Mo_prepare_174 (x_zi ?_)
          have hr174 := inR_ti (zI ((zI ((w : Nat) : Int) >>> (zI q &&& 31)).toInt) &&& zI 1)
          refine x_iconst (v := zI 1) d_Mo_prepare_175 (by decide) ?_
          refine z_icmp_ne (tgt := 185) d_Mo_prepare_176 (by decide) (by omega) (by omega) (fun _ => ?_) (fun hq => absurd hq hbc)
          refine x_iinc (v := zI (q + 1)) (L' := [_, _, _, _, _, _]) d_Mo_prepare_185 rfl (zI_add _ _) rfl rfl ?_
          refine x_goto (tgt := 160) d_Mo_prepare_188 (by decide) ?_
          exact ih (i + 1) us (q + 1) (by omega) (by omega) (fun a ha hba => hpl a (by by_cases e : a = i; (rw [e] at hba; exact absurd hba hb); omega) hba) (by omega) _ hR hX
  -- the known VALUES
  have hsmI : ∀ (S4 : MS) (Ws : Nat → List Nat) (j : Nat), j < 6 → rwR Ns Ws S4 → smI S4 (j : Nat) = (smN (Ws j) : Nat) := by
    intro S4 Ws j hj hW
    unfold smI smN
    rw [(hW j hj).1, hW.len hj]
    by_cases e : Ws j = []
    · rw [if_pos e, if_pos e, if_pos rfl]
      rfl
    · rw [if_neg e, if_neg e, if_neg (by decide)]
      omega
  have hrow0 : ∀ j : Nat, Ns.length ≤ j → rC Cs w j 8 = [] ∧ row Ns Cs w j = [] := fun j hj => by
    have e := rC_out (Cs := Cs) (w := w) (fun D hD t ht => (hts D hD t ht).1) hj 8
    refine ⟨e, ?_⟩
    show rKn Ns j (rC Cs w j 8) = []
    rw [e]
    exact if_pos rfl
  have l3 : ∀ (K i : Nat) (S3 : MS) (x : Int64) (q : Int) (w5 : Option Value), q = (i : Nat) → i ≤ Ns.length → x = zL (cpd Ns Cs w i) → cpd Ns Cs w i ≤ 20000 * 654 → rSm S S3 [] [38, 39, 40] [37] → (∀ a : Int, 0 ≤ a → a < 6 → 0 ≤ gd (S3.2.1 38) a ∧ gd (S3.2.1 38) a ≤ 320 + (if a < q then 6 else 0)) → chz S3 → rwR Ns (fun j => if j < i then row Ns Cs w j else rC Cs w j 8) S3 → Ns.length - i ≤ K → RX l G M_Mo_prepare (d + 1) 70 [some (.ref o), some (.int (zI ((w : Nat) : Int))), some (.long x), none, some (.int (zI q)), w5] [] H0 o rf c n S3 (prX Ns Cs w S) := by
    have go : ∀ (S3 : MS) (q : Int), (∀ a : Int, 0 ≤ a → a < 6 → 0 ≤ gd (S3.2.1 38) a ∧ gd (S3.2.1 38) a ≤ 320 + (if a < q then 6 else 0)) → mnB S3 326 := fun S3 q hb a h0 h6 => by
      have := hb a h0 h6
      split at this <;> omega
    have out : ∀ (i : Nat) (S3 : MS) (x : Int64) (q : Int) (w5 : Option Value), i = Ns.length → x = zL (cpd Ns Cs w i) → cpd Ns Cs w i ≤ 20000 * 654 → rSm S S3 [] [38, 39, 40] [37] → mnB S3 326 → chz S3 → rwR Ns (fun j => if j < i then row Ns Cs w j else rC Cs w j 8) S3 → RX l G M_Mo_prepare (d + 1) 160 [some (.ref o), some (.int (zI ((w : Nat) : Int))), some (.long x), none, some (.int (zI 0)), w5] [] H0 o rf c n (sa S3 25 (S3.2.1 25)) (prX Ns Cs w S) := by
      intro i S3 x q w5 hi hx hxb hsm hm hz hW
      subst hi
      exact l4 x w5 S3 hx (by omega) hsm hm hz (hW.cong (fun j hj => by
        by_cases e : j < Ns.length
        · rw [if_pos e]
        · rw [if_neg e, (hrow0 j (by omega)).1, (hrow0 j (by omega)).2])) Cs.length 0 _ 0 rfl (Nat.zero_le _) (fun a ha => absurd ha (Nat.not_lt_zero _)) (by omega)
    intro K
    induction K with
    | zero =>
      intro i S3 x q w5 hq hi hx hxb hsm hb hz hW hK2 h hR hX
      have e3 := hsm.1 3 (by decide)
      refine x_iload d_Mo_prepare_70 rfl ?_
      refine x_aload_n d_Mo_prepare_72 rfl rfl ?_
      refine x_get xf_Mo_147_Mo (Or.inl hR.1) (v := .int (zI (S3.1 3))) rfl d_Mo_prepare_73 ?_
      have hb73 : inR (S3.1 3) := hR.2.2.2 3
      refine z_icmp_ge (tgt := 157) d_Mo_prepare_76 (by decide) (by omega) (by omega) (fun _ => ?_) (fun hq => by omega)
      refine x_iconst (v := zI 0) d_Mo_prepare_157 (by decide) ?_
      refine x_istore (L' := [_, _, _, _, _, _]) d_Mo_prepare_158 rfl rfl ?_
      exact out i S3 x q w5 (by omega) hx hxb hsm (go S3 q hb) hz hW _ (by rw [sa_id (i := 25)]; exact hR) hX
    | succ K ih =>
      intro i S3 x q w5 hq hi hx hxb hsm hb hz hW hK2 h hR hX
      have e3 := hsm.1 3 (by decide)
      by_cases hend : i = Ns.length
      · refine x_iload d_Mo_prepare_70 rfl ?_
        refine x_aload_n d_Mo_prepare_72 rfl rfl ?_
        refine x_get xf_Mo_147_Mo (Or.inl hR.1) (v := .int (zI (S3.1 3))) rfl d_Mo_prepare_73 ?_
        have hb73 : inR (S3.1 3) := hR.2.2.2 3
        refine z_icmp_ge (tgt := 157) d_Mo_prepare_76 (by decide) (by omega) (by omega) (fun _ => ?_) (fun hq => by omega)
        refine x_iconst (v := zI 0) d_Mo_prepare_157 (by decide) ?_
        refine x_istore (L' := [_, _, _, _, _, _]) d_Mo_prepare_158 rfl rfl ?_
        exact out i S3 x q w5 hend hx hxb hsm (go S3 q hb) hz hW _ (by rw [sa_id (i := 25)]; exact hR) hX
      · have hil : i < Ns.length := by omega
        obtain ⟨y, hy⟩ : ∃ y, Ns[i]? = some y := ⟨_, List.getElem?_eq_getElem hil⟩
        obtain ⟨q1, q2, q3⟩ := hK.1 i y hy
        have hkd : y.2.1 < 2 := (hN.2 i y hy).2.2.2.2.2
        have hrowi : row Ns Cs w i = if rC Cs w i 8 = [] then rC Cs w i 8 else insL y.2.2 (rC Cs w i 8) := by
          show rKn Ns i (rC Cs w i 8) = _
          unfold rKn
          rw [hy]
        have j129 : ∀ (S4 : MS) (v5 : Int), rSm S S4 [] [38, 39, 40] [37] → (∀ a : Int, 0 ≤ a → a < 6 → 0 ≤ gd (S4.2.1 38) a ∧ gd (S4.2.1 38) a ≤ 320 + (if a < q + 1 then 6 else 0)) → chz S4 → rwR Ns (fun j => if j < i + 1 then row Ns Cs w j else rC Cs w j 8) S4 → RX l G M_Mo_prepare (d + 1) 129 [some (.ref o), some (.int (zI ((w : Nat) : Int))), some (.long x), none, some (.int (zI q)), some (.int (zI v5))] [] H0 o rf c n S4 (prX Ns Cs w S) := by
          intro S4 v5 hsm4 hb4 hz4 hW4 h hR hX
          have hm4' := go S4 (q + 1) hb4
          have hm4 : mnB S4 328 := fun a h0 h6 => by
            have := hm4' a h0 h6
            omega
          have hsI := hsmI S4 _ i (by omega) hW4
          simp only [if_pos (show i < i + 1 by omega)] at hsI
          rw [← hq] at hsI
          have hsb := smI_b hm4' (q := q) (by omega) (by omega)
          have hlg := lg_20 (P := ((cpd Ns Cs w i : Nat) : Int)) (by omega)
          rw [← hx] at hlg
          have hA : (lg_cmp x 20000).toInt ≤ 0 → x * (zI (smI S4 q)).toInt64 = zL (cpd Ns Cs w (i + 1)) ∧ cpd Ns Cs w (i + 1) ≤ 20000 * 654 := by
            intro z
            have hle := hlg.mp z
            have e : cpd Ns Cs w (i + 1) = cpd Ns Cs w i * smN (row Ns Cs w i) := if_neg (by omega)
            rw [e, hx, zI_l (by omega), ← Int64.ofInt_mul, hsI]
            refine ⟨by rw [Int.natCast_mul], ?_⟩
            exact Nat.mul_le_mul (by omega) (by omega)
          have hB : ¬ (lg_cmp x 20000).toInt ≤ 0 → x = zL (cpd Ns Cs w (i + 1)) ∧ cpd Ns Cs w (i + 1) ≤ 20000 * 654 := by
            intro z
            have e : cpd Ns Cs w (i + 1) = cpd Ns Cs w i := if_pos (by have := fun t => z (hlg.mpr t); omega)
            rw [e]
            exact ⟨hx, hxb⟩
          refine x_lload_n d_Mo_prepare_129 rfl ?_
          refine x_ldc2 (v := 20000) xw_1514 d_Mo_prepare_130 ?_
          refine x_lcmp d_Mo_prepare_133 (x_zi ?_)
          have hr133 := inR_ti (lg_cmp x 20000)
          refine z_if_le (tgt := 141) d_Mo_prepare_134 (by decide) (by omega) (fun hc134 => ?_) (fun hc134 => ?_)
          · refine x_lload_n d_Mo_prepare_141 rfl ?_
            refine x_aload_n d_Mo_prepare_142 rfl rfl ?_
            refine x_iload d_Mo_prepare_143 rfl ?_
            refine x_callV (As := [_]) (k := k_MarkerTextModel) rfl xcv_Mo_296_Mo (Or.inl hR.1) (RM.ap hR (r_samples (by omega) (by omega) hm4)) rfl rfl (Nat.le_of_ble_eq_true rfl) d_Mo_prepare_145 ?_
            rintro v145 h cq nq ⟨S145, hR, hX145, rfl, rfl, hE145, rfl⟩
            replace hE145 := Eq.symm hE145
            subst hE145
            replace hX := hX.tr hX145
            refine x_i2l d_Mo_prepare_148 ?_
            refine x_lmul d_Mo_prepare_149 ?_
            refine x_lstore_n (L' := [_, _, _, _, _, _]) d_Mo_prepare_150 rfl rfl ?_
            refine x_iinc (v := zI (q + 1)) (L' := [_, _, _, _, _, _]) d_Mo_prepare_151 rfl (zI_add _ _) rfl rfl ?_
            refine x_goto (tgt := 70) d_Mo_prepare_154 (by decide) ?_
            first | exact ih (i + 1) S4 _ (q + 1) _ (by omega) (by omega) (hA (by omega)).1 (hA (by omega)).2 hsm4 hb4 hz4 hW4 (by omega) _ hR hX | exact ih (i + 1) S4 _ (q + 1) _ (by omega) (by omega) (hB (by omega)).1 (hB (by omega)).2 hsm4 hb4 hz4 hW4 (by omega) _ hR hX
          · refine x_lload_n d_Mo_prepare_137 rfl ?_
            refine x_goto (tgt := 150) d_Mo_prepare_138 (by decide) ?_
            refine x_lstore_n (L' := [_, _, _, _, _, _]) d_Mo_prepare_150 rfl rfl ?_
            refine x_iinc (v := zI (q + 1)) (L' := [_, _, _, _, _, _]) d_Mo_prepare_151 rfl (zI_add _ _) rfl rfl ?_
            refine x_goto (tgt := 70) d_Mo_prepare_154 (by decide) ?_
            first | exact ih (i + 1) S4 _ (q + 1) _ (by omega) (by omega) (hA (by omega)).1 (hA (by omega)).2 hsm4 hb4 hz4 hW4 (by omega) _ hR hX | exact ih (i + 1) S4 _ (q + 1) _ (by omega) (by omega) (hB (by omega)).1 (hB (by omega)).2 hsm4 hb4 hz4 hW4 (by omega) _ hR hX
        have l82 : ∀ (K2 k : Nat) (S4 : MS) (kz : Int), kz = (k : Nat) → k ≤ y.2.2.length → (rC Cs w i 8 = [] → k = 0) → rSm S S4 [] [38, 39, 40] [37] → (∀ a : Int, 0 ≤ a → a < 6 → 0 ≤ gd (S4.2.1 38) a ∧ gd (S4.2.1 38) a ≤ 320 + (if a < q then 6 else if a = q then kz else 0)) → chz S4 → rwR Ns (fun j => if j = i then insL (y.2.2.take k) (rC Cs w i 8) else if j < i then row Ns Cs w j else rC Cs w j 8) S4 → y.2.2.length - k ≤ K2 → RX l G M_Mo_prepare (d + 1) 82 [some (.ref o), some (.int (zI ((w : Nat) : Int))), some (.long x), none, some (.int (zI q)), some (.int (zI kz))] [] H0 o rf c n S4 (prX Ns Cs w S) := by
          have ex : ∀ (S4 : MS) (k : Int), k ≤ 6 → (∀ a : Int, 0 ≤ a → a < 6 → 0 ≤ gd (S4.2.1 38) a ∧ gd (S4.2.1 38) a ≤ 320 + (if a < q then 6 else if a = q then k else 0)) → ∀ a : Int, 0 ≤ a → a < 6 → 0 ≤ gd (S4.2.1 38) a ∧ gd (S4.2.1 38) a ≤ 320 + (if a < q + 1 then 6 else 0) := fun S4 k hk hb a h0 h6 => by
            have := hb a h0 h6
            by_cases ha : a < q
            · rw [if_pos ha] at this
              rw [if_pos (by omega)]
              exact this
            · rw [if_neg ha] at this
              by_cases ha2 : a = q
              · rw [if_pos ha2] at this
                rw [if_pos (by omega)]
                omega
              · rw [if_neg ha2] at this
                rw [if_neg (by omega)]
                exact this
          have lst : ∀ (S4 : MS) (k : Nat), (k = y.2.2.length ∨ rC Cs w i 8 = []) → (rC Cs w i 8 = [] → k = 0) → rwR Ns (fun j => if j = i then insL (y.2.2.take k) (rC Cs w i 8) else if j < i then row Ns Cs w j else rC Cs w j 8) S4 → rwR Ns (fun j => if j < i + 1 then row Ns Cs w j else rC Cs w j 8) S4 := by
            intro S4 k h1 h2 hW4
            refine hW4.cong (fun j hj => ?_)
            by_cases e : j = i
            · rw [if_pos e, if_pos (by omega), e, hrowi]
              by_cases z : rC Cs w i 8 = []
              · rw [if_pos z, h2 z]
                rfl
              · rw [if_neg z, h1.resolve_right z, List.take_length]
            · rw [if_neg e]
              by_cases e2 : j < i
              · rw [if_pos e2, if_pos (by omega)]
              · rw [if_neg e2, if_neg (by omega)]
          intro K2
          induction K2 with
          | zero =>
            intro k S4 kz hkz hk hk0 hsm4 hb4 hz4 hW4 hK3 h hR hX
            have e7 := hsm4.2.1 7 (by decide)
            have q1' := q1
            rw [← hq] at q1'
            refine x_iload d_Mo_prepare_82 rfl ?_
            refine x_aload_n d_Mo_prepare_84 rfl rfl ?_
            refine x_get xf_Mo_22_Mo (Or.inl hR.1) (v := .ref (rf 7)) rfl d_Mo_prepare_85 ?_
            refine x_iload d_Mo_prepare_88 rfl ?_
            refine r_iald (i := 7) (us := (S4.2.1 7)) rfl (by decide) hR rfl (by omega) (by show q < 6; omega) d_Mo_prepare_90 (fun hr90 => ?_)
            rw [e7, q1']
            refine z_icmp_ge (tgt := 129) d_Mo_prepare_91 (by decide) (by omega) (by omega) (fun _ => ?_) (fun hq => by omega)
            exact j129 S4 kz hsm4 (ex S4 kz (by omega) hb4) hz4 (lst S4 k (Or.inl (by omega)) hk0 hW4) _ hR hX
          | succ K2 ih2 =>
            intro k S4 kz hkz hk hk0 hsm4 hb4 hz4 hW4 hK3 h hR hX
            have e7 := hsm4.2.1 7 (by decide)
            have e8 := hsm4.2.2 8 (by decide)
            have e39 := (hW4 i (by omega)).1
            simp only [if_true] at e39
            rw [← hq] at e39 q1
            by_cases hke : k = y.2.2.length
            · refine x_iload d_Mo_prepare_82 rfl ?_
              refine x_aload_n d_Mo_prepare_84 rfl rfl ?_
              refine x_get xf_Mo_22_Mo (Or.inl hR.1) (v := .ref (rf 7)) rfl d_Mo_prepare_85 ?_
              refine x_iload d_Mo_prepare_88 rfl ?_
              refine r_iald (i := 7) (us := (S4.2.1 7)) rfl (by decide) hR rfl (by omega) (by show q < 6; omega) d_Mo_prepare_90 (fun hr90 => ?_)
              rw [e7, q1]
              refine z_icmp_ge (tgt := 129) d_Mo_prepare_91 (by decide) (by omega) (by omega) (fun _ => ?_) (fun hq => by omega)
              exact j129 S4 kz hsm4 (ex S4 kz (by omega) hb4) hz4 (lst S4 k (Or.inl hke) hk0 hW4) _ hR hX
            · by_cases hnil : rC Cs w i 8 = []
              · have e0 : gd (S4.2.1 39) q = 0 := by
                  rw [e39, hk0 hnil, hnil]
                  rfl
                refine x_iload d_Mo_prepare_82 rfl ?_
                refine x_aload_n d_Mo_prepare_84 rfl rfl ?_
                refine x_get xf_Mo_22_Mo (Or.inl hR.1) (v := .ref (rf 7)) rfl d_Mo_prepare_85 ?_
                refine x_iload d_Mo_prepare_88 rfl ?_
                refine r_iald (i := 7) (us := (S4.2.1 7)) rfl (by decide) hR rfl (by omega) (by show q < 6; omega) d_Mo_prepare_90 (fun hr90 => ?_)
                rw [e7, q1]
                refine z_icmp_ge (tgt := 129) d_Mo_prepare_91 (by decide) (by omega) (by omega) (fun hq => by omega) (fun _ => ?_)
                refine x_aload_n d_Mo_prepare_94 rfl rfl ?_
                refine x_get xf_Mo_97_Mo (Or.inl hR.1) (v := .ref (rf 39)) rfl d_Mo_prepare_95 ?_
                refine x_iload d_Mo_prepare_98 rfl ?_
                refine r_zald (i := 39) (us := (S4.2.1 39)) ⟨rfl, rfl⟩ (by decide) hR rfl (by omega) (by show q < 6; omega) d_Mo_prepare_100 (fun hr100 => ?_)
                rw [e0]
                refine z_if_eq (tgt := 129) d_Mo_prepare_101 (by decide) (by omega) (fun _ => ?_) (fun hq => by omega)
                exact j129 S4 kz hsm4 (ex S4 kz (by omega) hb4) hz4 (lst S4 k (Or.inr hnil) hk0 hW4) _ hR hX
              · have hne : insL (y.2.2.take k) (rC Cs w i 8) ≠ [] := fun z => by
                  have := (insL_b (ws := y.2.2.take k) (W := rC Cs w i 8)).1
                  rw [z] at this
                  exact hnil (List.length_eq_zero_iff.mp (by simpa using this))
                have e0 : gd (S4.2.1 39) q = 1 := by rw [e39, if_neg hne]
                have hm4 : mnB S4 328 := fun a h0 h6 => by
                  have := go S4 (q + 1) (ex S4 kz (by omega) hb4) a h0 h6
                  omega
                have hkl : k < y.2.2.length := by omega
                have hlk := q3 k hkl
                rw [← hq, ← hkz] at hlk
                have hrow : rowR S4 q y.2.1 (insL (y.2.2.take k) (rC Cs w i 8)) := by
                  have := (hW4 i (by omega)).2.1 y hy
                  simp only [if_true] at this
                  rw [hq]
                  exact this
                have htk : y.2.2.take (k + 1) = y.2.2.take k ++ [y.2.2.getD k 0] := by
                  rw [List.take_succ_eq_append_getElem hkl, List.getD_eq_getElem?_getD, List.getElem?_eq_getElem hkl]
                  rfl
                have nxt : ∀ S5 : MS, srX S4 q y.2.1 (ins (y.2.2.getD k 0) (insL (y.2.2.take k) (rC Cs w i 8))) none S5 → rSm S S5 [] [38, 39, 40] [37] ∧ (∀ a : Int, 0 ≤ a → a < 6 → 0 ≤ gd (S5.2.1 38) a ∧ gd (S5.2.1 38) a ≤ 320 + (if a < q then 6 else if a = q then kz + 1 else 0)) ∧ chz S5 ∧ rwR Ns (fun j => if j = i then insL (y.2.2.take (k + 1)) (rC Cs w i 8) else if j < i then row Ns Cs w j else rC Cs w j 8) S5 := by
                  intro S5 hs5
                  have hput := hW4.put (v := y.2.2.getD k 0) (S1 := S4) hy h6 hm4 rSm.r0 (fun j hj => by
                    by_cases e : j = i
                    · rw [if_pos e, e, ← hq]; exact e0
                    · rw [if_neg e]) (by simp only [if_true]; rw [← hq]; exact hs5)
                  obtain ⟨-, s1, s2, s3⟩ := hs5
                  refine ⟨hsm4.tr (s1.mono (by decide) (by decide) (by decide)), fun a h0 h6 => ?_, fun a h0 h6 => by rw [s1.2.1 40 (by decide)]; exact hz4 a h0 h6, hput.cong (fun j hj => ?_)⟩
                  · have b1 := hb4 a h0 h6
                    by_cases ha : a = q
                    · subst ha
                      have hib := ins_b (v := y.2.2.getD k 0) (W := insL (y.2.2.take k) (rC Cs w i 8))
                      have f1 := s2.1
                      have f2 := hrow.1
                      rw [if_neg (by omega), if_pos rfl] at b1 ⊢
                      omega
                    · rw [(s3 a h0 h6 ha).1]
                      rw [if_neg ha] at b1 ⊢
                      exact b1
                  · rw [htk, insL_snoc]
                    by_cases e : j = i
                    · rw [if_pos e, if_pos e, if_pos rfl]
                    · rw [if_neg e, if_neg e, if_neg e]
                refine x_iload d_Mo_prepare_82 rfl ?_
                refine x_aload_n d_Mo_prepare_84 rfl rfl ?_
                refine x_get xf_Mo_22_Mo (Or.inl hR.1) (v := .ref (rf 7)) rfl d_Mo_prepare_85 ?_
                refine x_iload d_Mo_prepare_88 rfl ?_
                refine r_iald (i := 7) (us := (S4.2.1 7)) rfl (by decide) hR rfl (by omega) (by show q < 6; omega) d_Mo_prepare_90 (fun hr90 => ?_)
                rw [e7, q1]
                refine z_icmp_ge (tgt := 129) d_Mo_prepare_91 (by decide) (by omega) (by omega) (fun hq => by omega) (fun _ => ?_)
                refine x_aload_n d_Mo_prepare_94 rfl rfl ?_
                refine x_get xf_Mo_97_Mo (Or.inl hR.1) (v := .ref (rf 39)) rfl d_Mo_prepare_95 ?_
                refine x_iload d_Mo_prepare_98 rfl ?_
                refine r_zald (i := 39) (us := (S4.2.1 39)) ⟨rfl, rfl⟩ (by decide) hR rfl (by omega) (by show q < 6; omega) d_Mo_prepare_100 (fun hr100 => ?_)
                rw [e0]
                refine z_if_eq (tgt := 129) d_Mo_prepare_101 (by decide) (by omega) (fun hq => by omega) (fun _ => ?_)
                refine x_aload_n d_Mo_prepare_104 rfl rfl ?_
                refine x_iload d_Mo_prepare_105 rfl ?_
                refine x_aload_n d_Mo_prepare_107 rfl rfl ?_
                refine x_get xf_Mo_25_Mo (Or.inl hR.1) (v := .ref (rf 8)) rfl d_Mo_prepare_108 ?_
                refine x_bipush (v := zI 6) d_Mo_prepare_111 (by decide) ?_
                refine x_iload d_Mo_prepare_113 rfl ?_
                refine z_imul d_Mo_prepare_115 ?_
                refine x_iload d_Mo_prepare_116 rfl ?_
                refine z_iadd d_Mo_prepare_118 ?_
                refine r_lald (i := 8) (us := (S4.2.2.1 8)) rfl (by decide) hR rfl (by omega) (by show 6 * q + kz < 36; omega) d_Mo_prepare_119 ?_
                rw [e8]
                refine x_callV (As := [_, _]) (k := k_MarkerTextModel) rfl xcv_Mo_287_Mo (Or.inl hR.1) (RM.ap hR (r_sortX (by omega) hm4 hkd hrow hlk)) rfl rfl (Nat.le_of_ble_eq_true rfl) d_Mo_prepare_120 ?_
                rintro v120 h cq nq ⟨S120, hR, hX120, rfl, rfl, rfl, hs120⟩
                replace hX := hX.tr hX120
                refine x_iinc (v := zI (kz + 1)) (L' := [_, _, _, _, _, _]) d_Mo_prepare_123 rfl (zI_add _ _) rfl rfl ?_
                refine x_goto (tgt := 82) d_Mo_prepare_126 (by decide) ?_
                obtain ⟨z1, z2, z3, z4⟩ := nxt S120 ⟨rfl, hs120⟩
                exact ih2 (k + 1) S120 (kz + 1) (by omega) (by omega) (fun z => absurd z hnil) z1 z2 z3 z4 (by omega) _ hR hX
        refine x_iload d_Mo_prepare_70 rfl ?_
        refine x_aload_n d_Mo_prepare_72 rfl rfl ?_
        refine x_get xf_Mo_147_Mo (Or.inl hR.1) (v := .int (zI (S3.1 3))) rfl d_Mo_prepare_73 ?_
        have hb73 : inR (S3.1 3) := hR.2.2.2 3
        refine z_icmp_ge (tgt := 157) d_Mo_prepare_76 (by decide) (by omega) (by omega) (fun hq => by omega) (fun _ => ?_)
        refine x_iconst (v := zI 0) d_Mo_prepare_79 (by decide) ?_
        refine x_istore (L' := [_, _, _, _, _, _]) d_Mo_prepare_80 rfl rfl ?_
        exact l82 y.2.2.length 0 S3 0 rfl (Nat.zero_le _) (fun _ => rfl) hsm (fun a h0 h6 => by
          have := hb a h0 h6
          by_cases ha : a < q
          · rw [if_pos ha] at this ⊢
            exact this
          · rw [if_neg ha] at this ⊢
            split <;> exact this) hz (hW.cong (fun j hj => by
          by_cases e : j = i
          · rw [if_pos e, if_neg (by omega), e]
            rfl
          · rw [if_neg e])) (by omega) _ hR hX
  -- the tests
  have l2 : ∀ (K i : Nat) (S2 : MS) (q : Int) (w3 w4 w5 : Option Value), q = (i : Nat) → i ≤ Cs.length → rSm S S2 [] [38, 39, 40] [37] → mnB S2 (40 * q) → chz S2 → rwR Ns (fun j => rC Cs w j i) S2 → Cs.length - i ≤ K → RX l G M_Mo_prepare (d + 1) 37 [some (.ref o), some (.int (zI ((w : Nat) : Int))), some (.int (zI q)), w3, w4, w5] [] H0 o rf c n S2 (prX Ns Cs w S) := by
    have out : ∀ (S2 : MS) (i : Nat) (q : Int) (w5 : Option Value), rSm S S2 [] [38, 39, 40] [37] → mnB S2 (40 * q) → chz S2 → rwR Ns (fun j => rC Cs w j i) S2 → q = (i : Nat) → i = Cs.length → RX l G M_Mo_prepare (d + 1) 70 [some (.ref o), some (.int (zI ((w : Nat) : Int))), some (.long 1), none, some (.int (zI 0)), w5] [] H0 o rf c n S2 (prX Ns Cs w S) := fun S2 i q w5 hsm hm hz hW hq he => l3 Ns.length 0 S2 1 0 w5 rfl (Nat.zero_le _) rfl (by show 1 ≤ 20000 * 654; decide) hsm (fun a h0 h6 => by
      have := hm a h0 h6
      rw [if_neg (by omega)]
      omega) hz (hW.cong (fun j hj => by rw [if_neg (Nat.not_lt_zero _), rC_8 c2, he])) (by omega)
    intro K
    induction K with
    | zero =>
      intro i S2 q w3 w4 w5 hq hi hsm hm hz hW hK2 h hR hX
      have e11 := hsm.1 11 (by decide)
      refine x_iload_n d_Mo_prepare_37 rfl ?_
      refine x_aload_n d_Mo_prepare_38 rfl rfl ?_
      refine x_get xf_Mo_268_Mo (Or.inl hR.1) (v := .int (zI (S2.1 11))) rfl d_Mo_prepare_39 ?_
      have hb39 : inR (S2.1 11) := hR.2.2.2 11
      refine z_icmp_ge (tgt := 65) d_Mo_prepare_42 (by decide) (by omega) (by omega) (fun _ => ?_) (fun hq => by omega)
      refine x_lconst (v := 1) d_Mo_prepare_65 (by decide) ?_
      refine x_lstore_n (L' := [_, _, _, _, _, _]) d_Mo_prepare_66 rfl rfl ?_
      refine x_iconst (v := zI 0) d_Mo_prepare_67 (by decide) ?_
      refine x_istore (L' := [_, _, _, _, _, _]) d_Mo_prepare_68 rfl rfl ?_
      exact out S2 i q w5 hsm hm hz hW hq (by omega) _ hR hX
    | succ K ih =>
      intro i S2 q w3 w4 w5 hq hi hsm hm hz hW hK2 h hR hX
      have e11 := hsm.1 11 (by decide)
      by_cases hend : i = Cs.length
      · refine x_iload_n d_Mo_prepare_37 rfl ?_
        refine x_aload_n d_Mo_prepare_38 rfl rfl ?_
        refine x_get xf_Mo_268_Mo (Or.inl hR.1) (v := .int (zI (S2.1 11))) rfl d_Mo_prepare_39 ?_
        have hb39 : inR (S2.1 11) := hR.2.2.2 11
        refine z_icmp_ge (tgt := 65) d_Mo_prepare_42 (by decide) (by omega) (by omega) (fun _ => ?_) (fun hq => by omega)
        refine x_lconst (v := 1) d_Mo_prepare_65 (by decide) ?_
        refine x_lstore_n (L' := [_, _, _, _, _, _]) d_Mo_prepare_66 rfl rfl ?_
        refine x_iconst (v := zI 0) d_Mo_prepare_67 (by decide) ?_
        refine x_istore (L' := [_, _, _, _, _, _]) d_Mo_prepare_68 rfl rfl ?_
        exact out S2 i q w5 hsm hm hz hW hq hend _ hR hX
      · have hil : i < Cs.length := by omega
        have hqs := hQ.sm hsm (by decide) (by decide) (by decide) (by decide)
        obtain ⟨dn, tx, hsl, -, -, htsF⟩ := hqs.2.2.2 i _ (List.getElem?_eq_getElem hil)
        rw [← hq] at hsl htsF
        have hT := hsl.1.2.2.1
        have hga := r_gatherX (l := l) (G := G) (o := o) (rf := rf) (d := d) (S := S2) (s := q) (tc := (gd (S2.2.1 21) q).toNat) (by omega) (by omega) ((k3 q (by omega) (by omega)).agr (agr.sm hsm (by decide))) (fun a h0 h6 => by have := hm a h0 h6; omega) (hN.sm hsm (by decide) (by decide)) h6 hsl (by omega) hW
        rw [← htsF] at hga
        by_cases hb : w.testBit i = true
        · have hbc : bitC ((w : Nat) : Int) q := by rw [hq]; exact (hbit i (by omega)).mpr hb
          have hst : ∀ j : Nat, rC Cs w j (i + 1) = insT j Cs[i].2 (rC Cs w j i) := fun j => by
            show (if w.testBit i then (match Cs[i]? with
              | some D => insT j D.2 (rC Cs w j i)
              | none => rC Cs w j i) else rC Cs w j i) = _
            rw [if_pos hb, List.getElem?_eq_getElem hil]
          refine x_iload_n d_Mo_prepare_37 rfl ?_
          refine x_aload_n d_Mo_prepare_38 rfl rfl ?_
          refine x_get xf_Mo_268_Mo (Or.inl hR.1) (v := .int (zI (S2.1 11))) rfl d_Mo_prepare_39 ?_
          have hb39 : inR (S2.1 11) := hR.2.2.2 11
          refine z_icmp_ge (tgt := 65) d_Mo_prepare_42 (by decide) (by omega) (by omega) (fun hq => by omega) (fun _ => ?_)
          refine x_iload_n d_Mo_prepare_45 rfl ?_
          refine x_iload_n d_Mo_prepare_46 rfl ?_
          refine x_ishr d_Mo_prepare_47 (x_zi ?_)
          have hr47 := inR_ti (zI ((w : Nat) : Int) >>> (zI q &&& 31))
          refine x_iconst (v := zI 1) d_Mo_prepare_48 (by decide) ?_
          refine x_iand d_Mo_prepare_49 (x_zi ?_)
          have hr49 := inR_ti (zI ((zI ((w : Nat) : Int) >>> (zI q &&& 31)).toInt) &&& zI 1)
          refine x_iconst (v := zI 1) d_Mo_prepare_50 (by decide) ?_
          refine z_icmp_ne (tgt := 59) d_Mo_prepare_51 (by decide) (by omega) (by omega) (fun hc51 => ?_) (fun hc51 => ?_)
          · refine x_iinc (v := zI (q + 1)) (L' := [_, _, _, _, _, _]) d_Mo_prepare_59 rfl (zI_add _ _) rfl rfl ?_
            refine x_goto (tgt := 37) d_Mo_prepare_62 (by decide) ?_
            first | exact ih (i + 1) S56 (q + 1) _ _ _ (by omega) (by omega) (hsm.tr (hsm56.mono (by decide) (by decide) (by decide))) (fun a h0 h6 => by have b1 := hm a h0 h6; have b2 := hb56 a h0 h6; omega) (fun a h0 h6 => by rw [hsm56.2.1 40 (by decide)]; exact hz a h0 h6) (hW56.cong (fun j _ => hst j)) (by omega) _ hR hX | exact absurd hbc hc51
          · refine x_aload_n d_Mo_prepare_54 rfl rfl ?_
            refine x_iload_n d_Mo_prepare_55 rfl ?_
            refine x_callV (As := [_]) (k := k_MarkerTextModel) rfl xcv_Mo_291_Mo (Or.inl hR.1) (RM.ap hR hga) rfl rfl (Nat.le_of_ble_eq_true rfl) d_Mo_prepare_56 ?_
            rintro v56 h cq nq ⟨S56, hR, hX56, rfl, rfl, rfl, hsm56, hb56, hW56⟩
            replace hX := hX.tr hX56
            refine x_iinc (v := zI (q + 1)) (L' := [_, _, _, _, _, _]) d_Mo_prepare_59 rfl (zI_add _ _) rfl rfl ?_
            refine x_goto (tgt := 37) d_Mo_prepare_62 (by decide) ?_
            first | exact ih (i + 1) S56 (q + 1) _ _ _ (by omega) (by omega) (hsm.tr (hsm56.mono (by decide) (by decide) (by decide))) (fun a h0 h6 => by have b1 := hm a h0 h6; have b2 := hb56 a h0 h6; omega) (fun a h0 h6 => by rw [hsm56.2.1 40 (by decide)]; exact hz a h0 h6) (hW56.cong (fun j _ => hst j)) (by omega) _ hR hX | exact absurd hbc hc51
        · have hbc : ¬ bitC ((w : Nat) : Int) q := by rw [hq]; exact fun z => hb ((hbit i (by omega)).mp z)
          have hst : ∀ j : Nat, rC Cs w j (i + 1) = rC Cs w j i := fun j => if_neg hb
          refine x_iload_n d_Mo_prepare_37 rfl ?_
          refine x_aload_n d_Mo_prepare_38 rfl rfl ?_
          refine x_get xf_Mo_268_Mo (Or.inl hR.1) (v := .int (zI (S2.1 11))) rfl d_Mo_prepare_39 ?_
          have hb39 : inR (S2.1 11) := hR.2.2.2 11
          refine z_icmp_ge (tgt := 65) d_Mo_prepare_42 (by decide) (by omega) (by omega) (fun hq => by omega) (fun _ => ?_)
          refine x_iload_n d_Mo_prepare_45 rfl ?_
          refine x_iload_n d_Mo_prepare_46 rfl ?_
          refine x_ishr d_Mo_prepare_47 (x_zi ?_)
          have hr47 := inR_ti (zI ((w : Nat) : Int) >>> (zI q &&& 31))
          refine x_iconst (v := zI 1) d_Mo_prepare_48 (by decide) ?_
          refine x_iand d_Mo_prepare_49 (x_zi ?_)
          have hr49 := inR_ti (zI ((zI ((w : Nat) : Int) >>> (zI q &&& 31)).toInt) &&& zI 1)
          refine x_iconst (v := zI 1) d_Mo_prepare_50 (by decide) ?_
          refine z_icmp_ne (tgt := 59) d_Mo_prepare_51 (by decide) (by omega) (by omega) (fun _ => ?_) (fun hq => absurd hq hbc)
          refine x_iinc (v := zI (q + 1)) (L' := [_, _, _, _, _, _]) d_Mo_prepare_59 rfl (zI_add _ _) rfl rfl ?_
          refine x_goto (tgt := 37) d_Mo_prepare_62 (by decide) ?_
          exact ih (i + 1) S2 (q + 1) _ _ _ (by omega) (by omega) hsm (fun a h0 h6 => by have b1 := hm a h0 h6; omega) hz (hW.cong (fun j _ => hst j)) (by omega) _ hR hX
  -- nothing yet
  have l1 : ∀ (K : Nat) (S1 : MS) (q : Int) (w3 w4 w5 : Option Value), rSm S S1 [] [38, 39, 40] [37] → (∀ a : Int, 0 ≤ a → a < q → gd (S1.2.1 38) a = 0 ∧ gd (S1.2.1 39) a = 0 ∧ gd (S1.2.1 40) a = 0) → 0 ≤ q → q ≤ 6 → 6 - q ≤ K → RX l G M_Mo_prepare (d + 1) 2 [some (.ref o), some (.int (zI ((w : Nat) : Int))), some (.int (zI q)), w3, w4, w5] [] H0 o rf c n S1 (prX Ns Cs w S) := by
    have out : ∀ (S1 : MS) (w3 w4 w5 : Option Value), rSm S S1 [] [38, 39, 40] [37] → (∀ a : Int, 0 ≤ a → a < 6 → gd (S1.2.1 38) a = 0 ∧ gd (S1.2.1 39) a = 0 ∧ gd (S1.2.1 40) a = 0) → RX l G M_Mo_prepare (d + 1) 37 [some (.ref o), some (.int (zI ((w : Nat) : Int))), some (.int (zI 0)), w3, w4, w5] [] H0 o rf c n S1 (prX Ns Cs w S) := fun S1 w3 w4 w5 hsm hz => l2 Cs.length 0 S1 0 _ _ _ rfl (Nat.zero_le _) hsm (fun a q0 q6 => by have := hz a q0 q6; omega) (fun a q0 q6 => (hz a q0 q6).2.2) (fun j hj => by
      have hq := hz (j : Nat) (by omega) (by omega)
      refine ⟨hq.2.1, fun y hy => ⟨hq.1, fun i hi => absurd hi (Nat.not_lt_zero _)⟩, fun _ => ⟨rfl, hq.1⟩⟩) (by omega)
    intro K
    induction K with
    | zero =>
      intro S1 q w3 w4 w5 hsm hz h0 h6 hK h hR hX
      refine x_iload_n d_Mo_prepare_2 rfl ?_
      refine x_bipush (v := zI 6) d_Mo_prepare_3 (by decide) ?_
      refine z_icmp_ge (tgt := 35) d_Mo_prepare_5 (by decide) (by omega) (by omega) (fun _ => ?_) (fun hq => by omega)
      refine x_iconst (v := zI 0) d_Mo_prepare_35 (by decide) ?_
      refine x_istore_n (L' := [_, _, _, _, _, _]) d_Mo_prepare_36 rfl rfl ?_
      exact out S1 _ _ _ hsm (fun a q0 q6 => hz a q0 (by omega)) _ hR hX
    | succ K ih =>
      intro S1 q w3 w4 w5 hsm hz h0 h6 hK h hR hX
      have l38 : (S1.2.1 38).length = 6 := hR.len 38 (by decide)
      have l39 : (S1.2.1 39).length = 6 := hR.len 39 (by decide)
      have l40 : (S1.2.1 40).length = 6 := hR.len 40 (by decide)
      refine x_iload_n d_Mo_prepare_2 rfl ?_
      refine x_bipush (v := zI 6) d_Mo_prepare_3 (by decide) ?_
      refine z_icmp_ge (tgt := 35) d_Mo_prepare_5 (by decide) (by omega) (by omega) (fun hc5 => ?_) (fun hc5 => ?_)
      · refine x_iconst (v := zI 0) d_Mo_prepare_35 (by decide) ?_
        refine x_istore_n (L' := [_, _, _, _, _, _]) d_Mo_prepare_36 rfl rfl ?_
        exact out S1 _ _ _ hsm (fun a q0 q6 => hz a q0 (by omega)) _ hR hX
      · refine x_aload_n d_Mo_prepare_8 rfl rfl ?_
        refine x_get xf_Mo_94_Mo (Or.inl hR.1) (v := .ref (rf 38)) rfl d_Mo_prepare_9 ?_
        refine x_iload_n d_Mo_prepare_12 rfl ?_
        refine x_iconst (v := zI 0) d_Mo_prepare_13 (by decide) ?_
        refine r_iast (i := 38) (us := (S1.2.1 38)) ⟨rfl, rfl⟩ (by decide) hR hX rfl (by omega) (by show q < 6; omega) (by omega) d_Mo_prepare_14 ?_
        intro h hR hX
        refine x_aload_n d_Mo_prepare_15 rfl rfl ?_
        refine x_get xf_Mo_97_Mo (Or.inl hR.1) (v := .ref (rf 39)) rfl d_Mo_prepare_16 ?_
        refine x_iload_n d_Mo_prepare_19 rfl ?_
        refine x_iconst (v := zI 0) d_Mo_prepare_20 (by decide) ?_
        refine r_zast (i := 39) (us := (S1.2.1 39)) rfl (by decide) hR hX rfl (by omega) (by show q < 6; omega) (by omega) d_Mo_prepare_21 ?_
        intro h hR hX
        refine x_aload_n d_Mo_prepare_22 rfl rfl ?_
        refine x_get xf_Mo_100_Mo (Or.inl hR.1) (v := .ref (rf 40)) rfl d_Mo_prepare_23 ?_
        refine x_iload_n d_Mo_prepare_26 rfl ?_
        refine x_iconst (v := zI 0) d_Mo_prepare_27 (by decide) ?_
        refine r_iast (i := 40) (us := (S1.2.1 40)) ⟨rfl, rfl⟩ (by decide) hR hX rfl (by omega) (by show q < 6; omega) (by omega) d_Mo_prepare_28 ?_
        intro h hR hX
        refine x_iinc (v := zI (q + 1)) (L' := [_, _, _, _, _, _]) d_Mo_prepare_29 rfl (zI_add _ _) rfl rfl ?_
        refine x_goto (tgt := 2) d_Mo_prepare_32 (by decide) ?_
        exact ih _ (q + 1) _ _ _ (((hsm.sa (by decide)).sa (by decide)).sa (by decide)) (fun a q0 q6 => by
          show gd (se (S1.2.1 38) q 0) a = 0 ∧ gd (se (S1.2.1 39) q 0) a = 0 ∧ gd (se (S1.2.1 40) q 0) a = 0
          rw [gd_se_of l38 h0 (by omega) q0, gd_se_of l39 h0 (by omega) q0, gd_se_of l40 h0 (by omega) q0]
          by_cases hq : a = q
          · rw [if_pos hq, if_pos hq, if_pos hq]; exact ⟨rfl, rfl, rfl⟩
          · rw [if_neg hq, if_neg hq, if_neg hq]; exact hz a q0 (by omega)) (by omega) (by omega) (by omega) _ hR hX
  refine x_iconst (v := zI 0) d_Mo_prepare_0 (by decide) ?_
  refine x_istore_n (L' := [_, _, _, _, _, _]) d_Mo_prepare_1 rfl rfl ?_
  exact l1 6 S 0 _ _ _ rSm.r0 (fun a q0 q6 => by omega) (by omega) (by omega) (by omega) _ hR hX
end RI6
