section

end
section RI4
variable {l : Launch} {G : XG} {h : XH} {c n d : Nat} {o : Nat} {rf : Nat → Nat} {S : MS}
theorem tsF_1 {s : Int} {tx : Int → Option TsT} {tc : Nat} : tsF s tx (tc + 1) = tsF s tx tc ++ (tx (40 * s + (tc : Nat))).toList := by
  unfold tsF
  rw [List.range_succ, List.filterMap_append]
  congr 1
/-- what the VALUES of a test are, for its name's row -/
theorem tsR.its {Ns : List NmT} {s q : Int} {x : TsT} (h : tsR Ns S s q x) : ∃ nm, Ns[x.1]? = some nm ∧ gd (S.2.1 17) q = x.1 ∧ gd (S.2.1 20) q = x.2.2.1.length ∧ ∀ k : Nat, k < x.2.2.1.length → lk nm.2.1 (x.2.2.1.getD k 0) (gl (S.2.2.1 22) (gd (S.2.1 19) q + k)) := by
  obtain ⟨nm, ws, g1, g2, g3, g4, ⟨g5, g6⟩, g7, g8, g10, g11⟩ := h
  refine ⟨nm, g1, g2, by rw [g5, g7, List.length_map], fun k hk => ?_⟩
  rw [g7, List.length_map] at hk
  have hu := List.getElem?_eq_getElem hk
  obtain ⟨⟨v1, -, -⟩, w1, w2, -⟩ := g10 k _ hu
  rw [v1, g7, List.getD_eq_getElem?_getD, List.getElem?_map, hu]
  exact lk.of w1 w2
/-- how gather() ends, in full -/
abbrev gaX (Ns : List NmT) (S : MS) (Ws : Nat → List Nat) : Option Value → MS → Prop := fun v S' => v = none ∧ rSm S S' [] [38, 39] [37] ∧ (∀ q : Int, 0 ≤ q → q < 6 → gd (S.2.1 38) q ≤ gd (S'.2.1 38) q ∧ gd (S'.2.1 38) q ≤ gd (S.2.1 38) q + 40) ∧ rwR Ns Ws S'
/-- while the VALUES of a condition are gathered, in full -/
def GX (Ns : List NmT) (S S1 : MS) (s t k : Int) (Ws : Nat → List Nat) : Prop := rSm S S1 [] [38, 39] [37] ∧ (∀ q : Int, 0 ≤ q → q < 6 → gd (S.2.1 38) q ≤ gd (S1.2.1 38) q ∧ gd (S1.2.1 38) q ≤ gd (S.2.1 38) q + sm (gd (S.2.1 20)) (40 * s) (t - 40 * s).toNat + k) ∧ rwR Ns Ws S1
set_option maxHeartbeats 1000000 in
theorem r_gatherX {s : Int} {Ns : List NmT} {dn : Int → Den} {tx : Int → Option TsT} {Ws : Nat → List Nat} {tc : Nat} (hd : 1 ≤ d) (hs : 0 ≤ s ∧ s ≤ 8) (hC : cdOk S s) (hm : mnB S 280) (hN : nmR Ns S) (h6 : Ns.length ≤ 6) (hsl : slR Ns S s dn tx) (htc : gd (S.2.1 21) s = (tc : Nat)) (hW : rwR Ns Ws S) : RM l G d M_Mo_gather [.ref o, .int (zI s)] o rf S (gaX Ns S (fun j => insT j (tsF s tx tc) (Ws j))) := by
  obtain ⟨d, rfl⟩ : ∃ q, d = q + 1 := ⟨d - 1, by omega⟩
  intro H0 c n hR
  refine XM.of (by decide +kernel) (Nat.le_of_ble_eq_true rfl) ?_
  have hX : xonly H0 H0 RKs := xonly.rf
  obtain ⟨w, ⟨p1, p2, p3, p4, p5, p6, p7, p8, p9, p10⟩, -⟩ := hC
  have hmn : ∀ t : Int, 40 * s ≤ t → t < 40 * s + gd (S.2.1 21) s → 0 ≤ gd (S.2.1 20) t := fun t h1 h2 => (p8 t h1 h2).2.2.1
  have hpre : ∀ t : Int, 40 * s ≤ t → t ≤ 40 * s + gd (S.2.1 21) s → sm (gd (S.2.1 20)) (40 * s) (t - 40 * s).toNat ≤ 40 := fun t h1 h2 => by
    have := sm_mono (f := gd (S.2.1 20)) (a := 40 * s) (k := (t - 40 * s).toNat) (m := (gd (S.2.1 21) s).toNat) (by omega) (fun i h3 h4 => hmn i h3 (by omega))
    omega
  have fin : ∀ (S1 : MS) (m : Nat), m = tc → GX Ns S S1 s (40 * s + (m : Nat)) 0 (fun j => insT j (tsF s tx m) (Ws j)) → gaX Ns S (fun j => insT j (tsF s tx tc) (Ws j)) none S1 := by
    intro S1 m hmt hG
    subst hmt
    obtain ⟨g1, g2, g3⟩ := hG
    refine ⟨rfl, g1, fun q h0 h6 => ?_, g3⟩
    have := g2 q h0 h6
    have := hpre (40 * s + (m : Nat)) (by omega) (by omega)
    omega
  have lp : ∀ (K m : Nat) (S1 : MS) (t : Int) (w3 w4 : Option Value), t = 40 * s + (m : Nat) → m ≤ tc → GX Ns S S1 s t 0 (fun j => insT j (tsF s tx m) (Ws j)) → tc - m ≤ K → RX l G M_Mo_gather (d + 1) 5 [some (.ref o), some (.int (zI s)), some (.int (zI t)), w3, w4] [] H0 o rf c n S1 (gaX Ns S (fun j => insT j (tsF s tx tc) (Ws j))) := by
    intro K
    induction K with
    | zero =>
      intro m S1 t w3 w4 ht hmt hG hK h hR hX
      have e21 := hG.1.2.1 21 (by decide)
      refine x_iload_n d_Mo_gather_5 rfl ?_
      refine x_bipush (v := zI 40) d_Mo_gather_6 (by decide) ?_
      refine x_iload_n d_Mo_gather_8 rfl ?_
      refine z_imul d_Mo_gather_9 ?_
      refine x_aload_n d_Mo_gather_10 rfl rfl ?_
      refine x_get xf_Mo_63_Mo (Or.inl hR.1) (v := .ref (rf 21)) rfl d_Mo_gather_11 ?_
      refine x_iload_n d_Mo_gather_14 rfl ?_
      refine r_iald (i := 21) (us := (S1.2.1 21)) rfl (by decide) hR rfl (by omega) (by show s < 9; omega) d_Mo_gather_15 (fun hr15 => ?_)
      refine z_iadd d_Mo_gather_16 ?_
      rw [e21] at *
      refine z_icmp_ge (tgt := 79) d_Mo_gather_17 (by decide) (by omega) (by omega) (fun _ => ?_) (fun hq => by omega)
      refine x_vret d_Mo_gather_79 rfl ?_
      exact ⟨_, hR, hX, rfl, rfl, fin S1 m (by omega) (by rw [← ht]; exact hG)⟩
    | succ K ih =>
      intro m S1 t w3 w4 ht hmt hG hK h hR hX
      have e21 := hG.1.2.1 21 (by decide)
      have e17 := hG.1.2.1 17 (by decide)
      by_cases hend : m = tc
      · refine x_iload_n d_Mo_gather_5 rfl ?_
        refine x_bipush (v := zI 40) d_Mo_gather_6 (by decide) ?_
        refine x_iload_n d_Mo_gather_8 rfl ?_
        refine z_imul d_Mo_gather_9 ?_
        refine x_aload_n d_Mo_gather_10 rfl rfl ?_
        refine x_get xf_Mo_63_Mo (Or.inl hR.1) (v := .ref (rf 21)) rfl d_Mo_gather_11 ?_
        refine x_iload_n d_Mo_gather_14 rfl ?_
        refine r_iald (i := 21) (us := (S1.2.1 21)) rfl (by decide) hR rfl (by omega) (by show s < 9; omega) d_Mo_gather_15 (fun hr15 => ?_)
        refine z_iadd d_Mo_gather_16 ?_
        rw [e21] at *
        refine z_icmp_ge (tgt := 79) d_Mo_gather_17 (by decide) (by omega) (by omega) (fun _ => ?_) (fun hq => by omega)
        refine x_vret d_Mo_gather_79 rfl ?_
        exact ⟨_, hR, hX, rfl, rfl, fin S1 m hend (by rw [← ht]; exact hG)⟩
      · obtain ⟨t1, t2, t3, t4, t5, t6, t7⟩ := p8 t (by omega) (by omega)
        have hp1 := hpre (t + 1) (by omega) (by omega)
        rw [sm_nx (by omega)] at hp1
        have hnx : ∀ S2 : MS, GX Ns S S2 s t (gd (S.2.1 20) t) (fun j => insT j (tsF s tx (m + 1)) (Ws j)) → GX Ns S S2 s (t + 1) 0 (fun j => insT j (tsF s tx (m + 1)) (Ws j)) := by
          rintro S2 ⟨g1, g2, g3⟩
          refine ⟨g1, fun q h0 h6 => ?_, g3⟩
          have := g2 q h0 h6
          rw [sm_nx (by omega)]
          omega
        have hts := hsl.2.2.1 t (by omega) (by omega)
        have hF := tsF_1 (s := s) (tx := tx) (tc := m)
        rw [← ht] at hF
        rcases hts with ⟨a1, a2, a3⟩ | ⟨x, a1, a2⟩
        · -- true, false
          have e20 := hG.1.2.1 20 (by decide)
          have hF : tsF s tx (m + 1) = tsF s tx m := by rw [hF, a1]; exact List.append_nil _
          have hG' : GX Ns S S1 s (t + 1) 0 (fun j => insT j (tsF s tx (m + 1)) (Ws j)) := hnx S1 (by rw [a3, hF]; exact hG)
          refine x_iload_n d_Mo_gather_5 rfl ?_
          refine x_bipush (v := zI 40) d_Mo_gather_6 (by decide) ?_
          refine x_iload_n d_Mo_gather_8 rfl ?_
          refine z_imul d_Mo_gather_9 ?_
          refine x_aload_n d_Mo_gather_10 rfl rfl ?_
          refine x_get xf_Mo_63_Mo (Or.inl hR.1) (v := .ref (rf 21)) rfl d_Mo_gather_11 ?_
          refine x_iload_n d_Mo_gather_14 rfl ?_
          refine r_iald (i := 21) (us := (S1.2.1 21)) rfl (by decide) hR rfl (by omega) (by show s < 9; omega) d_Mo_gather_15 (fun hr15 => ?_)
          refine z_iadd d_Mo_gather_16 ?_
          rw [e21] at *
          refine z_icmp_ge (tgt := 79) d_Mo_gather_17 (by decide) (by omega) (by omega) (fun hq => by omega) (fun _ => ?_)
          refine x_aload_n d_Mo_gather_20 rfl rfl ?_
          refine x_get xf_Mo_51_Mo (Or.inl hR.1) (v := .ref (rf 17)) rfl d_Mo_gather_21 ?_
          refine x_iload_n d_Mo_gather_24 rfl ?_
          refine r_iald (i := 17) (us := (S1.2.1 17)) rfl (by decide) hR rfl (by omega) (by show t < 360; omega) d_Mo_gather_25 (fun hr25 => ?_)
          rw [e17]
          refine x_istore_n (L' := [_, _, _, _, _]) d_Mo_gather_26 rfl rfl ?_
          refine x_iconst (v := zI 0) d_Mo_gather_27 (by decide) ?_
          refine x_istore (L' := [_, _, _, _, _]) d_Mo_gather_28 rfl rfl ?_
          refine x_iload d_Mo_gather_30 rfl ?_
          refine x_aload_n d_Mo_gather_32 rfl rfl ?_
          refine x_get xf_Mo_60_Mo (Or.inl hR.1) (v := .ref (rf 20)) rfl d_Mo_gather_33 ?_
          refine x_iload_n d_Mo_gather_36 rfl ?_
          refine r_iald (i := 20) (us := (S1.2.1 20)) rfl (by decide) hR rfl (by omega) (by show t < 360; omega) d_Mo_gather_37 (fun hr37 => ?_)
          rw [e20, a3]
          refine z_icmp_ge (tgt := 73) d_Mo_gather_38 (by decide) (by omega) (by omega) (fun _ => ?_) (fun hq => by omega)
          refine x_iinc (v := zI (t + 1)) (L' := [_, _, _, _, _]) d_Mo_gather_73 rfl (zI_add _ _) rfl rfl ?_
          refine x_goto (tgt := 5) d_Mo_gather_76 (by decide) ?_
          exact ih (m + 1) S1 (t + 1) _ _ (by omega) (by omega) hG' (by omega) _ hR hX
        · obtain ⟨nm, b1, b2, b3, b4⟩ := a2.its
          have hil := (List.getElem?_eq_some_iff.mp b1).1
          have hkd : nm.2.1 < 2 := (hN.2 _ nm b1).2.2.2.2.2
          have hF : tsF s tx (m + 1) = tsF s tx m ++ [x] := by rw [hF, a1]; rfl
          have lp2 : ∀ (K2 k : Nat) (S2 : MS) (kz : Int), kz = (k : Nat) → k ≤ x.2.2.1.length → GX Ns S S2 s t kz (fun j => if j = x.1 then insL (x.2.2.1.take k) (insT x.1 (tsF s tx m) (Ws x.1)) else insT j (tsF s tx m) (Ws j)) → x.2.2.1.length - k ≤ K2 → RX l G M_Mo_gather (d + 1) 30 [some (.ref o), some (.int (zI s)), some (.int (zI t)), some (.int (zI ((x.1 : Nat) : Int))), some (.int (zI kz))] [] H0 o rf c n S2 (gaX Ns S (fun j => insT j (tsF s tx tc) (Ws j))) := by
            have out : ∀ (S2 : MS) (kz : Int), kz = (x.2.2.1.length : Nat) → GX Ns S S2 s t kz (fun j => if j = x.1 then insL (x.2.2.1.take x.2.2.1.length) (insT x.1 (tsF s tx m) (Ws x.1)) else insT j (tsF s tx m) (Ws j)) → GX Ns S S2 s (t + 1) 0 (fun j => insT j (tsF s tx (m + 1)) (Ws j)) := by
              intro S2 kz hkz hG2
              refine hnx S2 ?_
              rw [b3, ← hkz]
              refine ⟨hG2.1, hG2.2.1, hG2.2.2.cong (fun j hj => ?_)⟩
              rw [hF, insT_app, insT_1, List.take_length]
              by_cases e : j = x.1
              · rw [if_pos e, if_pos e.symm, e]
              · rw [if_neg e, if_neg (fun z => e z.symm)]
            intro K2
            induction K2 with
            | zero =>
              intro k S2 kz hkz hk hG2 hK2 h hR hX
              obtain rfl : k = x.2.2.1.length := by omega
              have e20 := hG2.1.2.1 20 (by decide)
              refine x_iload d_Mo_gather_30 rfl ?_
              refine x_aload_n d_Mo_gather_32 rfl rfl ?_
              refine x_get xf_Mo_60_Mo (Or.inl hR.1) (v := .ref (rf 20)) rfl d_Mo_gather_33 ?_
              refine x_iload_n d_Mo_gather_36 rfl ?_
              refine r_iald (i := 20) (us := (S2.2.1 20)) rfl (by decide) hR rfl (by omega) (by show t < 360; omega) d_Mo_gather_37 (fun hr37 => ?_)
              rw [e20, b3]
              refine z_icmp_ge (tgt := 73) d_Mo_gather_38 (by decide) (by omega) (by omega) (fun _ => ?_) (fun hq => by omega)
              refine x_iinc (v := zI (t + 1)) (L' := [_, _, _, _, _]) d_Mo_gather_73 rfl (zI_add _ _) rfl rfl ?_
              refine x_goto (tgt := 5) d_Mo_gather_76 (by decide) ?_
              exact ih (m + 1) S2 (t + 1) _ _ (by omega) (by omega) (out S2 kz hkz hG2) (by omega) _ hR hX
            | succ K2 ih2 =>
              intro k S2 kz hkz hk hG2 hK2 h hR hX
              have e20 := hG2.1.2.1 20 (by decide)
              have e19 := hG2.1.2.1 19 (by decide)
              have e22 := hG2.1.2.2 22 (by decide)
              by_cases hke : k = x.2.2.1.length
              · subst hke
                refine x_iload d_Mo_gather_30 rfl ?_
                refine x_aload_n d_Mo_gather_32 rfl rfl ?_
                refine x_get xf_Mo_60_Mo (Or.inl hR.1) (v := .ref (rf 20)) rfl d_Mo_gather_33 ?_
                refine x_iload_n d_Mo_gather_36 rfl ?_
                refine r_iald (i := 20) (us := (S2.2.1 20)) rfl (by decide) hR rfl (by omega) (by show t < 360; omega) d_Mo_gather_37 (fun hr37 => ?_)
                rw [e20, b3]
                refine z_icmp_ge (tgt := 73) d_Mo_gather_38 (by decide) (by omega) (by omega) (fun _ => ?_) (fun hq => by omega)
                refine x_iinc (v := zI (t + 1)) (L' := [_, _, _, _, _]) d_Mo_gather_73 rfl (zI_add _ _) rfl rfl ?_
                refine x_goto (tgt := 5) d_Mo_gather_76 (by decide) ?_
                exact ih (m + 1) S2 (t + 1) _ _ (by omega) (by omega) (out S2 kz hkz hG2) (by omega) _ hR hX
              · have hb2 : mnB S2 328 := fun q h0 h6 => by
                  have := hG2.2.1 q h0 h6
                  have := hm q h0 h6
                  omega
                have l39 : (S2.2.1 39).length = 6 := hR.len 39 (by decide)
                have hkl : k < x.2.2.1.length := by omega
                have hlk := b4 k hkl
                rw [← hkz] at hlk
                have hrow : rowR S2 ((x.1 : Nat) : Int) nm.2.1 (insL (x.2.2.1.take k) (insT x.1 (tsF s tx m) (Ws x.1))) := by
                  have := (hG2.2.2 x.1 (by omega)).2.1 nm b1
                  simp only [if_true] at this
                  exact this
                have htk : x.2.2.1.take (k + 1) = x.2.2.1.take k ++ [x.2.2.1.getD k 0] := by
                  rw [List.take_succ_eq_append_getElem hkl, List.getD_eq_getElem?_getD, List.getElem?_eq_getElem hkl]
                  rfl
                have nxt : ∀ S3 : MS, srX (sa S2 39 (se (S2.2.1 39) ((x.1 : Nat) : Int) 1)) ((x.1 : Nat) : Int) nm.2.1 (ins (x.2.2.1.getD k 0) (insL (x.2.2.1.take k) (insT x.1 (tsF s tx m) (Ws x.1)))) none S3 → GX Ns S S3 s t (kz + 1) (fun j => if j = x.1 then insL (x.2.2.1.take (k + 1)) (insT x.1 (tsF s tx m) (Ws x.1)) else insT j (tsF s tx m) (Ws j)) := by
                  intro S3 hq
                  have hput := hG2.2.2.put (v := x.2.2.1.getD k 0) (S1 := sa S2 39 (se (S2.2.1 39) ((x.1 : Nat) : Int) 1)) b1 h6 hb2 (rSm.r0.sa (by decide)) (fun j hj => by
                    show gd (se (S2.2.1 39) ((x.1 : Nat) : Int) 1) j = _
                    rw [gd_se_of l39 (by omega) (by omega) (by omega)]
                    by_cases e : j = x.1
                    · rw [if_pos e, if_pos (by omega)]
                    · rw [if_neg e, if_neg (by omega)]) (by simp only [if_true]; exact hq)
                  obtain ⟨-, q1, q2, q3⟩ := hq
                  refine ⟨(hG2.1.sa (by decide)).tr (q1.mono (by decide) (by decide) (by decide)), fun q h0 h6 => ?_, hput.cong (fun j hj => ?_)⟩
                  · have a := hG2.2.1 q h0 h6
                    by_cases e : q = ((x.1 : Nat) : Int)
                    · subst e
                      have hl2 := hrow.1
                      have hl3 := q2.1
                      have hib := ins_b (v := x.2.2.1.getD k 0) (W := insL (x.2.2.1.take k) (insT x.1 (tsF s tx m) (Ws x.1)))
                      omega
                    · have hl3 : gd (S3.2.1 38) q = gd (S2.2.1 38) q := (q3 q h0 h6 e).1
                      omega
                  · rw [htk, insL_snoc]
                    by_cases e : j = x.1
                    · rw [if_pos e, if_pos e, if_pos rfl]
                    · rw [if_neg e, if_neg e, if_neg e]
                refine x_iload d_Mo_gather_30 rfl ?_
                refine x_aload_n d_Mo_gather_32 rfl rfl ?_
                refine x_get xf_Mo_60_Mo (Or.inl hR.1) (v := .ref (rf 20)) rfl d_Mo_gather_33 ?_
                refine x_iload_n d_Mo_gather_36 rfl ?_
                refine r_iald (i := 20) (us := (S2.2.1 20)) rfl (by decide) hR rfl (by omega) (by show t < 360; omega) d_Mo_gather_37 (fun hr37 => ?_)
                rw [e20, b3]
                refine z_icmp_ge (tgt := 73) d_Mo_gather_38 (by decide) (by omega) (by omega) (fun hq => by omega) (fun _ => ?_)
                refine x_aload_n d_Mo_gather_41 rfl rfl ?_
                refine x_get xf_Mo_97_Mo (Or.inl hR.1) (v := .ref (rf 39)) rfl d_Mo_gather_42 ?_
                refine x_iload_n d_Mo_gather_45 rfl ?_
                refine x_iconst (v := zI 1) d_Mo_gather_46 (by decide) ?_
                refine r_zast (i := 39) (us := (S2.2.1 39)) rfl (by decide) hR hX rfl (by omega) (by show ((x.1 : Nat) : Int) < 6; omega) (by omega) d_Mo_gather_47 ?_
                intro h hR hX
                refine x_aload_n d_Mo_gather_48 rfl rfl ?_
                refine x_iload_n d_Mo_gather_49 rfl ?_
                refine x_aload_n d_Mo_gather_50 rfl rfl ?_
                refine x_get xf_Mo_66_Mo (Or.inl hR.1) (v := .ref (rf 22)) rfl d_Mo_gather_51 ?_
                refine x_aload_n d_Mo_gather_54 rfl rfl ?_
                refine x_get xf_Mo_57_Mo (Or.inl hR.1) (v := .ref (rf 19)) rfl d_Mo_gather_55 ?_
                refine x_iload_n d_Mo_gather_58 rfl ?_
                refine r_iald (i := 19) (us := (S2.2.1 19)) rfl (by decide) hR rfl (by omega) (by show t < 360; omega) d_Mo_gather_59 (fun hr59 => ?_)
                refine x_iload d_Mo_gather_60 rfl ?_
                refine z_iadd d_Mo_gather_62 ?_
                rw [e19] at *
                refine r_lald (i := 22) (us := (S2.2.2.1 22)) rfl (by decide) hR rfl (by omega) (by show gd (S.2.1 19) t + kz < 576; omega) d_Mo_gather_63 ?_
                rw [e22]
                refine x_callV (As := [_, _]) (k := k_MarkerTextModel) rfl xcv_Mo_287_Mo (Or.inl hR.1) (RM.ap hR (r_sortX (S := sa S2 39 (se (S2.2.1 39) ((x.1 : Nat) : Int) 1)) (by omega) (by exact hb2) hkd (by exact hrow) hlk)) rfl rfl (Nat.le_of_ble_eq_true rfl) d_Mo_gather_64 ?_
                rintro v64 h cq nq ⟨S64, hR, hX64, rfl, rfl, rfl, hq64⟩
                replace hX := hX.tr hX64
                refine x_iinc (v := zI (kz + 1)) (L' := [_, _, _, _, _]) d_Mo_gather_67 rfl (zI_add _ _) rfl rfl ?_
                refine x_goto (tgt := 30) d_Mo_gather_70 (by decide) ?_
                exact ih2 (k + 1) S64 (kz + 1) (by omega) (by omega) (nxt S64 ⟨rfl, hq64⟩) (by omega) _ hR hX
          refine x_iload_n d_Mo_gather_5 rfl ?_
          refine x_bipush (v := zI 40) d_Mo_gather_6 (by decide) ?_
          refine x_iload_n d_Mo_gather_8 rfl ?_
          refine z_imul d_Mo_gather_9 ?_
          refine x_aload_n d_Mo_gather_10 rfl rfl ?_
          refine x_get xf_Mo_63_Mo (Or.inl hR.1) (v := .ref (rf 21)) rfl d_Mo_gather_11 ?_
          refine x_iload_n d_Mo_gather_14 rfl ?_
          refine r_iald (i := 21) (us := (S1.2.1 21)) rfl (by decide) hR rfl (by omega) (by show s < 9; omega) d_Mo_gather_15 (fun hr15 => ?_)
          refine z_iadd d_Mo_gather_16 ?_
          rw [e21] at *
          refine z_icmp_ge (tgt := 79) d_Mo_gather_17 (by decide) (by omega) (by omega) (fun hq => by omega) (fun _ => ?_)
          refine x_aload_n d_Mo_gather_20 rfl rfl ?_
          refine x_get xf_Mo_51_Mo (Or.inl hR.1) (v := .ref (rf 17)) rfl d_Mo_gather_21 ?_
          refine x_iload_n d_Mo_gather_24 rfl ?_
          refine r_iald (i := 17) (us := (S1.2.1 17)) rfl (by decide) hR rfl (by omega) (by show t < 360; omega) d_Mo_gather_25 (fun hr25 => ?_)
          rw [e17, b2]
          refine x_istore_n (L' := [_, _, _, _, _]) d_Mo_gather_26 rfl rfl ?_
          refine x_iconst (v := zI 0) d_Mo_gather_27 (by decide) ?_
          refine x_istore (L' := [_, _, _, _, _]) d_Mo_gather_28 rfl rfl ?_
          exact lp2 x.2.2.1.length 0 S1 0 rfl (Nat.zero_le _) ⟨hG.1, hG.2.1, hG.2.2.cong (fun j hj => by
            by_cases e : j = x.1
            · rw [if_pos e, e]; rfl
            · rw [if_neg e])⟩ (by omega) _ hR hX
  refine x_bipush (v := zI 40) d_Mo_gather_0 (by decide) ?_
  refine x_iload_n d_Mo_gather_2 rfl ?_
  refine z_imul d_Mo_gather_3 ?_
  refine x_istore_n (L' := [_, _, _, _, _]) d_Mo_gather_4 rfl rfl ?_
  exact lp tc 0 S _ _ _ (by omega) (Nat.zero_le _) ⟨rSm.r0, fun q h0 h6 => by rw [show (40 * s - 40 * s).toNat = 0 by omega]; show _ ∧ _ ≤ _ + 0 + 0; omega, hW⟩ (by omega) _ hR hX
/-- the VALUES of a condition, where they stand in the rows -/
def plR (Ns : List NmT) (Ws : Nat → List Nat) (S : MS) (s : Int) (us : List Int) (t k : Int) : Prop := ∀ (q : Int) (j : Nat) (nm : Nat) (x : NmT), 40 * s ≤ q → (q < t ∨ (q = t ∧ (j : Int) < k)) → (j : Int) < gd (S.2.1 20) q → gd (S.2.1 17) q = (nm : Nat) → Ns[nm]? = some x → ∃ i : Nat, i < (Ws nm).length ∧ lk x.2.1 ((Ws nm).getD i 0) (gl (S.2.2.1 22) (gd (S.2.1 19) q + j)) ∧ gd us (gd (S.2.1 19) q + j) = 2 * (i : Int) + 2
end RI4
