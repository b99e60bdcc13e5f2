section

end
section RI5
variable {l : Launch} {G : XG} {h : XH} {c n d : Nat} {o : Nat} {rf : Nat → Nat} {S : MS}
theorem plR.step {Ns : List NmT} {Ws : Nat → List Nat} {s t k : Int} {us : List Int} {i : Nat} (h : plR Ns Ws S s us t k) (hl : us.length = 576) (hv : 0 ≤ gd (S.2.1 19) t + k ∧ gd (S.2.1 19) t + k < 576) (hk : 0 ≤ k) (hsep : ∀ q : Int, 40 * s ≤ q → q < t → gd (S.2.1 19) q + gd (S.2.1 20) q ≤ gd (S.2.1 19) t) (hnn : ∀ q : Int, 40 * s ≤ q → q ≤ t → 0 ≤ gd (S.2.1 19) q) (hnew : ∀ (nm : Nat) (x : NmT), gd (S.2.1 17) t = (nm : Nat) → Ns[nm]? = some x → i < (Ws nm).length ∧ lk x.2.1 ((Ws nm).getD i 0) (gl (S.2.2.1 22) (gd (S.2.1 19) t + k))) : plR Ns Ws S s (se us (gd (S.2.1 19) t + k) (2 * (i : Int) + 2)) t (k + 1) := by
  intro q j nm x h1 h2 h3 h4 h5
  have e1 : 0 ≤ gd (S.2.1 19) q := hnn q h1 (by omega)
  by_cases e : q = t ∧ (j : Int) = k
  · obtain ⟨rfl, e2⟩ := e
    obtain ⟨a1, a2⟩ := hnew nm x h4 h5
    refine ⟨i, a1, by rw [e2]; exact a2, ?_⟩
    rw [e2, gd_se_of hl hv.1 hv.2 hv.1, if_pos rfl]
  · obtain ⟨i', a1, a2, a3⟩ := h q j nm x h1 (by omega) h3 h4 h5
    refine ⟨i', a1, a2, ?_⟩
    rw [gd_se_of hl hv.1 hv.2 (by omega), if_neg ?_]
    · exact a3
    · intro z
      by_cases eq : q = t
      · subst eq
        exact e ⟨rfl, by omega⟩
      · have := hsep q h1 (by omega)
        omega
theorem plR.nx {Ns : List NmT} {Ws : Nat → List Nat} {s t k : Int} {us : List Int} (h : plR Ns Ws S s us t k) (hk : k = gd (S.2.1 20) t) : plR Ns Ws S s us (t + 1) 0 := by
  intro q j nm x h1 h2 h3 h4 h5
  refine h q j nm x h1 ?_ h3 h4 h5
  by_cases eq : q = t
  · exact Or.inr ⟨eq, by rw [hk, ← eq]; exact h3⟩
  · exact Or.inl (by omega)
/-- how locate() ends, in full -/
abbrev loX (Ns : List NmT) (Ws : Nat → List Nat) (S : MS) (s : Int) : Option Value → MS → Prop := fun v S' => ∃ us : List Int, S' = sa S 25 us ∧ v = none ∧ plR Ns Ws S s us (40 * s + gd (S.2.1 21) s) 0 ∧ ∀ v : Int, (v < 64 * s ∨ 64 * s + 64 ≤ v) → 0 ≤ v → gd us v = gd (S.2.1 25) v
theorem r_locateX {s : Int} {Ns : List NmT} {Ws : Nat → List Nat} {dn : Int → Den} {tx : Int → Option TsT} (hs : 0 ≤ s ∧ s ≤ 8) (hC : cdOk S s) (hm : mnB S 328) (hsl : slR Ns S s dn tx) (hN : nmR Ns S) (h6 : Ns.length ≤ 6) (hW : rwR Ns Ws S) (hI : ∀ (q : Int) (x : TsT), 40 * s ≤ q → q < 40 * s + gd (S.2.1 21) s → tx q = some x → ∀ v ∈ x.2.2.1, v ∈ Ws x.1) : RM l G d M_Mo_locate [.ref o, .int (zI s)] o rf S (loX Ns Ws S s) := by
  intro H0 c n hR
  refine XM.of (by decide +kernel) (Nat.le_of_ble_eq_true rfl) ?_
  have hX : xonly H0 H0 RKs := xonly.rf
  obtain ⟨w, ⟨p1, p2, p3, p4, p5, p6, p7, p8, p9, p10⟩, -⟩ := hC
  have hnn : ∀ q : Int, 40 * s ≤ q → q < 40 * s + gd (S.2.1 21) s → 64 * s ≤ gd (S.2.1 19) q ∧ gd (S.2.1 19) q + gd (S.2.1 20) q ≤ 64 * s + 40 := fun q h1 h2 => by
    obtain ⟨t1, t2, t3, t4, t5, t6, t7⟩ := p8 q h1 h2
    omega
  have lp : ∀ (K : Nat) (us : List Int) (t : Int) (w3 w4 w5 : Option Value), 40 * s ≤ t → t ≤ 40 * s + gd (S.2.1 21) s → plR Ns Ws S s us t 0 → (∀ v : Int, (v < 64 * s ∨ 64 * s + 64 ≤ v) → 0 ≤ v → gd us v = gd (S.2.1 25) v) → 40 * s + gd (S.2.1 21) s - t ≤ K → RX l G M_Mo_locate d 5 [some (.ref o), some (.int (zI s)), some (.int (zI t)), w3, w4, w5] [] H0 o rf c n (sa S 25 us) (loX Ns Ws S s) := by
    intro K
    induction K with
    | zero =>
      intro us t w3 w4 w5 ht1 ht2 hP hU hK h hR hX
      obtain rfl : t = 40 * s + gd (S.2.1 21) s := by omega
      refine x_iload_n d_Mo_locate_5 rfl ?_
      refine x_bipush (v := zI 40) d_Mo_locate_6 (by decide) ?_
      refine x_iload_n d_Mo_locate_8 rfl ?_
      refine z_imul d_Mo_locate_9 ?_
      refine x_aload_n d_Mo_locate_10 rfl rfl ?_
      refine x_get xf_Mo_63_Mo (Or.inl hR.1) (v := .ref (rf 21)) rfl d_Mo_locate_11 ?_
      refine x_iload_n d_Mo_locate_14 rfl ?_
      refine r_iald (i := 21) (us := (S.2.1 21)) rfl (by decide) hR rfl (by omega) (by show s < 9; omega) d_Mo_locate_15 (fun hr15 => ?_)
      refine z_iadd d_Mo_locate_16 ?_
      refine z_icmp_ge (tgt := 105) d_Mo_locate_17 (by decide) (by omega) (by omega) (fun _ => ?_) (fun hq => by omega)
      refine x_vret d_Mo_locate_105 rfl ?_
      exact ⟨_, hR, hX, rfl, rfl, us, rfl, rfl, hP, hU⟩
    | succ K ih =>
      intro us t w3 w4 w5 ht1 ht2 hP hU hK h hR hX
      by_cases hend : t = 40 * s + gd (S.2.1 21) s
      · subst hend
        refine x_iload_n d_Mo_locate_5 rfl ?_
        refine x_bipush (v := zI 40) d_Mo_locate_6 (by decide) ?_
        refine x_iload_n d_Mo_locate_8 rfl ?_
        refine z_imul d_Mo_locate_9 ?_
        refine x_aload_n d_Mo_locate_10 rfl rfl ?_
        refine x_get xf_Mo_63_Mo (Or.inl hR.1) (v := .ref (rf 21)) rfl d_Mo_locate_11 ?_
        refine x_iload_n d_Mo_locate_14 rfl ?_
        refine r_iald (i := 21) (us := (S.2.1 21)) rfl (by decide) hR rfl (by omega) (by show s < 9; omega) d_Mo_locate_15 (fun hr15 => ?_)
        refine z_iadd d_Mo_locate_16 ?_
        refine z_icmp_ge (tgt := 105) d_Mo_locate_17 (by decide) (by omega) (by omega) (fun _ => ?_) (fun hq => by omega)
        refine x_vret d_Mo_locate_105 rfl ?_
        exact ⟨_, hR, hX, rfl, rfl, us, rfl, rfl, hP, hU⟩
      · obtain ⟨t1, t2, t3, t4, t5, t6, t7⟩ := p8 t ht1 (by omega)
        have lp2 : ∀ (K2 : Nat) (us : List Int) (k : Int) (w4 w5 : Option Value), 0 ≤ k → k ≤ gd (S.2.1 20) t → plR Ns Ws S s us t k → (∀ v : Int, (v < 64 * s ∨ 64 * s + 64 ≤ v) → 0 ≤ v → gd us v = gd (S.2.1 25) v) → gd (S.2.1 20) t - k ≤ K2 → RX l G M_Mo_locate d 22 [some (.ref o), some (.int (zI s)), some (.int (zI t)), some (.int (zI k)), w4, w5] [] H0 o rf c n (sa S 25 us) (loX Ns Ws S s) := by
          intro K2
          induction K2 with
          | zero =>
            intro us k w4 w5 hk0 hk1 hP hU hK2 h hR hX
            refine x_iload_n d_Mo_locate_22 rfl ?_
            refine x_aload_n d_Mo_locate_23 rfl rfl ?_
            refine x_get xf_Mo_60_Mo (Or.inl hR.1) (v := .ref (rf 20)) rfl d_Mo_locate_24 ?_
            refine x_iload_n d_Mo_locate_27 rfl ?_
            refine r_iald (i := 20) (us := (S.2.1 20)) rfl (by decide) hR rfl (by omega) (by show t < 360; omega) d_Mo_locate_28 (fun hr28 => ?_)
            refine z_icmp_ge (tgt := 99) d_Mo_locate_29 (by decide) (by omega) (by omega) (fun _ => ?_) (fun hq => by omega)
            refine x_iinc (v := zI (t + 1)) (L' := [_, _, _, _, _, _]) d_Mo_locate_99 rfl (zI_add _ _) rfl rfl ?_
            refine x_goto (tgt := 5) d_Mo_locate_102 (by decide) ?_
            exact ih us (t + 1) _ _ _ (by omega) (by omega) (hP.nx (by omega)) hU (by omega) _ hR hX
          | succ K2 ih2 =>
            intro us k w4 w5 hk0 hk1 hP hU hK2 h hR hX
            by_cases hke : k = gd (S.2.1 20) t
            · refine x_iload_n d_Mo_locate_22 rfl ?_
              refine x_aload_n d_Mo_locate_23 rfl rfl ?_
              refine x_get xf_Mo_60_Mo (Or.inl hR.1) (v := .ref (rf 20)) rfl d_Mo_locate_24 ?_
              refine x_iload_n d_Mo_locate_27 rfl ?_
              refine r_iald (i := 20) (us := (S.2.1 20)) rfl (by decide) hR rfl (by omega) (by show t < 360; omega) d_Mo_locate_28 (fun hr28 => ?_)
              refine z_icmp_ge (tgt := 99) d_Mo_locate_29 (by decide) (by omega) (by omega) (fun _ => ?_) (fun hq => by omega)
              refine x_iinc (v := zI (t + 1)) (L' := [_, _, _, _, _, _]) d_Mo_locate_99 rfl (zI_add _ _) rfl rfl ?_
              refine x_goto (tgt := 5) d_Mo_locate_102 (by decide) ?_
              exact ih us (t + 1) _ _ _ (by omega) (by omega) (hP.nx hke) hU (by omega) _ hR hX
            · obtain ⟨x, a1, a2⟩ : ∃ x, tx t = some x ∧ tsR Ns S s t x := by
                rcases hsl.2.2.1 t ht1 (by omega) with ⟨-, -, a3⟩ | q
                · omega
                · exact q
              obtain ⟨nm, b1, b2, b3, b4⟩ := a2.its
              have hil := (List.getElem?_eq_some_iff.mp b1).1
              have hkd : nm.2.1 < 2 := (hN.2 _ nm b1).2.2.2.2.2
              have hkl : k.toNat < x.2.2.1.length := by omega
              have hlk := b4 k.toNat hkl
              rw [show ((k.toNat : Nat) : Int) = k by omega] at hlk
              have hmem : x.2.2.1.getD k.toNat 0 ∈ Ws x.1 := by
                refine hI t x ht1 (by omega) a1 _ ?_
                rw [List.getD_eq_getElem?_getD, List.getElem?_eq_getElem hkl]
                exact List.getElem_mem hkl
              obtain ⟨i0, hi0, hie⟩ := List.getElem_of_mem hmem
              have hrow := (hW x.1 (by omega)).2.1 nm b1
              have hmq := hm ((x.1 : Nat) : Int) (by omega) (by omega)
              have hrl := hrow.1
              have hfd : gl (S.2.2.1 37) (330 * ((x.1 : Nat) : Int) + (i0 : Nat)) = gl (S.2.2.1 22) (gd (S.2.1 19) t + k) := by
                refine (((hrow.2 i0 hi0).ord hkd hlk).2).mp ?_
                rw [List.getD_eq_getElem?_getD, List.getElem?_eq_getElem hi0]
                exact hie
              have done : ∀ (i : Nat) (iz : Int), iz = (i : Nat) → i ≤ i0 → (lg_cmp (gl (S.2.2.1 37) (330 * ((x.1 : Nat) : Int) + iz)) (gl (S.2.2.1 22) (gd (S.2.1 19) t + k))).toInt = 0 → us.length = 576 → plR Ns Ws S s (se us (gd (S.2.1 19) t + k) (2 * iz + 2)) t (k + 1) ∧ ∀ v : Int, (v < 64 * s ∨ 64 * s + 64 ≤ v) → 0 ≤ v → gd (se us (gd (S.2.1 19) t + k) (2 * iz + 2)) v = gd (S.2.1 25) v := by
                intro i iz hiz hi hz l25
                subst hiz
                refine ⟨hP.step l25 (by omega) hk0 (fun q h1 h2 => hsl.2.2.2 q t h1 h2 (by omega)) (fun q h1 h2 => by have := hnn q h1 (by omega); omega) (fun nm' y h1 h2 => ?_), fun v h1 h2 => ?_⟩
                · rw [b2] at h1
                  obtain rfl : x.1 = nm' := by omega
                  rw [b1] at h2
                  cases h2
                  refine ⟨by omega, ?_⟩
                  rw [← lgz hz]
                  exact hrow.2 i (by omega)
                · rw [gd_se_of l25 (by omega) (by omega) h2, if_neg (by omega)]
                  exact hU v h1 h2
              have lp3 : ∀ (K3 i : Nat) (iz : Int), iz = (i : Nat) → i ≤ i0 → i0 - i ≤ K3 → RX l G M_Mo_locate d 45 [some (.ref o), some (.int (zI s)), some (.int (zI t)), some (.int (zI k)), some (.int (zI (gd (S.2.1 19) t + k))), some (.int (zI iz))] [] H0 o rf c n (sa S 25 us) (loX Ns Ws S s) := by
                intro K3
                induction K3 with
                | zero =>
                  intro i iz hiz hi hK3 h hR hX
                  have l25 : us.length = 576 := hR.len 25 (by decide)
                  obtain rfl : i = i0 := by omega
                  have hz : (lg_cmp (gl (S.2.2.1 37) (330 * ((x.1 : Nat) : Int) + iz)) (gl (S.2.2.1 22) (gd (S.2.1 19) t + k))).toInt = 0 := lgz' (by rw [hiz]; exact hfd)
                  obtain ⟨d1, d2⟩ := done i iz hiz hi hz l25
                  refine x_aload_n d_Mo_locate_45 rfl rfl ?_
                  refine x_get xf_Mo_91_Mo (Or.inl hR.1) (v := .ref (rf 37)) rfl d_Mo_locate_46 ?_
                  refine x_sipush (v := zI 330) d_Mo_locate_49 (by decide) ?_
                  refine x_aload_n d_Mo_locate_52 rfl rfl ?_
                  refine x_get xf_Mo_51_Mo (Or.inl hR.1) (v := .ref (rf 17)) rfl d_Mo_locate_53 ?_
                  refine x_iload_n d_Mo_locate_56 rfl ?_
                  refine r_iald (i := 17) (us := (S.2.1 17)) rfl (by decide) hR rfl (by omega) (by show t < 360; omega) d_Mo_locate_57 (fun hr57 => ?_)
                  rw [b2]
                  refine z_imul d_Mo_locate_58 ?_
                  refine x_iload d_Mo_locate_59 rfl ?_
                  refine z_iadd d_Mo_locate_61 ?_
                  refine r_lald (i := 37) (us := (S.2.2.1 37)) rfl (by decide) hR rfl (by omega) (by show 330 * ((x.1 : Nat) : Int) + iz < 1980; omega) d_Mo_locate_62 ?_
                  refine x_aload_n d_Mo_locate_63 rfl rfl ?_
                  refine x_get xf_Mo_66_Mo (Or.inl hR.1) (v := .ref (rf 22)) rfl d_Mo_locate_64 ?_
                  refine x_iload d_Mo_locate_67 rfl ?_
                  refine r_lald (i := 22) (us := (S.2.2.1 22)) rfl (by decide) hR rfl (by omega) (by show gd (S.2.1 19) t + k < 576; omega) d_Mo_locate_69 ?_
                  refine x_lcmp d_Mo_locate_70 (x_zi ?_)
                  have hr70 := inR_ti (lg_cmp (gl (S.2.2.1 37) ((330 * (gd (S.2.1 17) t)) + iz)) (gl (S.2.2.1 22) (gd (S.2.1 19) t + k)))
                  refine z_if_eq (tgt := 80) d_Mo_locate_71 (by decide) (by omega) (fun _ => ?_) (fun hq => absurd hz hq)
                  refine x_aload_n d_Mo_locate_80 rfl rfl ?_
                  refine x_get xf_Mo_75_Mo (Or.inl hR.1) (v := .ref (rf 25)) rfl d_Mo_locate_81 ?_
                  refine x_iload d_Mo_locate_84 rfl ?_
                  refine x_iconst (v := zI 2) d_Mo_locate_86 (by decide) ?_
                  refine x_iload d_Mo_locate_87 rfl ?_
                  refine z_imul d_Mo_locate_89 ?_
                  refine x_iconst (v := zI 2) d_Mo_locate_90 (by decide) ?_
                  refine z_iadd d_Mo_locate_91 ?_
                  refine r_iast (i := 25) (us := us) ⟨rfl, rfl⟩ (by decide) hR hX rfl (by omega) (by show gd (S.2.1 19) t + k < 576; omega) (by omega) d_Mo_locate_92 ?_
                  intro h hR hX
                  refine x_iinc (v := zI (k + 1)) (L' := [_, _, _, _, _, _]) d_Mo_locate_93 rfl (zI_add _ _) rfl rfl ?_
                  refine x_goto (tgt := 22) d_Mo_locate_96 (by decide) ?_
                  exact ih2 _ (k + 1) _ _ (by omega) (by omega) d1 d2 (by omega) _ (by rw [sa_sa] at hR; exact hR) hX
                | succ K3 ih3 =>
                  intro i iz hiz hi hK3 h hR hX
                  have l25 : us.length = 576 := hR.len 25 (by decide)
                  refine x_aload_n d_Mo_locate_45 rfl rfl ?_
                  refine x_get xf_Mo_91_Mo (Or.inl hR.1) (v := .ref (rf 37)) rfl d_Mo_locate_46 ?_
                  refine x_sipush (v := zI 330) d_Mo_locate_49 (by decide) ?_
                  refine x_aload_n d_Mo_locate_52 rfl rfl ?_
                  refine x_get xf_Mo_51_Mo (Or.inl hR.1) (v := .ref (rf 17)) rfl d_Mo_locate_53 ?_
                  refine x_iload_n d_Mo_locate_56 rfl ?_
                  refine r_iald (i := 17) (us := (S.2.1 17)) rfl (by decide) hR rfl (by omega) (by show t < 360; omega) d_Mo_locate_57 (fun hr57 => ?_)
                  rw [b2]
                  refine z_imul d_Mo_locate_58 ?_
                  refine x_iload d_Mo_locate_59 rfl ?_
                  refine z_iadd d_Mo_locate_61 ?_
                  refine r_lald (i := 37) (us := (S.2.2.1 37)) rfl (by decide) hR rfl (by omega) (by show 330 * ((x.1 : Nat) : Int) + iz < 1980; omega) d_Mo_locate_62 ?_
                  refine x_aload_n d_Mo_locate_63 rfl rfl ?_
                  refine x_get xf_Mo_66_Mo (Or.inl hR.1) (v := .ref (rf 22)) rfl d_Mo_locate_64 ?_
                  refine x_iload d_Mo_locate_67 rfl ?_
                  refine r_lald (i := 22) (us := (S.2.2.1 22)) rfl (by decide) hR rfl (by omega) (by show gd (S.2.1 19) t + k < 576; omega) d_Mo_locate_69 ?_
                  refine x_lcmp d_Mo_locate_70 (x_zi ?_)
                  have hr70 := inR_ti (lg_cmp (gl (S.2.2.1 37) ((330 * (gd (S.2.1 17) t)) + iz)) (gl (S.2.2.1 22) (gd (S.2.1 19) t + k)))
                  rw [b2] at hr70
                  refine z_if_eq (tgt := 80) d_Mo_locate_71 (by decide) (by omega) (fun hc71 => ?_) (fun hc71 => ?_)
                  · refine x_aload_n d_Mo_locate_80 rfl rfl ?_
                    refine x_get xf_Mo_75_Mo (Or.inl hR.1) (v := .ref (rf 25)) rfl d_Mo_locate_81 ?_
                    refine x_iload d_Mo_locate_84 rfl ?_
                    refine x_iconst (v := zI 2) d_Mo_locate_86 (by decide) ?_
                    refine x_iload d_Mo_locate_87 rfl ?_
                    refine z_imul d_Mo_locate_89 ?_
                    refine x_iconst (v := zI 2) d_Mo_locate_90 (by decide) ?_
                    refine z_iadd d_Mo_locate_91 ?_
                    refine r_iast (i := 25) (us := us) ⟨rfl, rfl⟩ (by decide) hR hX rfl (by omega) (by show gd (S.2.1 19) t + k < 576; omega) (by omega) d_Mo_locate_92 ?_
                    intro h hR hX
                    refine x_iinc (v := zI (k + 1)) (L' := [_, _, _, _, _, _]) d_Mo_locate_93 rfl (zI_add _ _) rfl rfl ?_
                    refine x_goto (tgt := 22) d_Mo_locate_96 (by decide) ?_
                    exact ih2 _ (k + 1) _ _ (by omega) (by omega) (done i iz hiz hi hc71 l25).1 (done i iz hiz hi hc71 l25).2 (by omega) _ (by rw [sa_sa] at hR; exact hR) hX
                  · have hne : i ≠ i0 := fun e => hc71 (lgz' (by rw [hiz, e]; exact hfd))
                    refine x_iinc (v := zI (iz + 1)) (L' := [_, _, _, _, _, _]) d_Mo_locate_74 rfl (zI_add _ _) rfl rfl ?_
                    refine x_goto (tgt := 45) d_Mo_locate_77 (by decide) ?_
                    exact ih3 (i + 1) (iz + 1) (by omega) (by omega) (by omega) _ hR hX
              refine x_iload_n d_Mo_locate_22 rfl ?_
              refine x_aload_n d_Mo_locate_23 rfl rfl ?_
              refine x_get xf_Mo_60_Mo (Or.inl hR.1) (v := .ref (rf 20)) rfl d_Mo_locate_24 ?_
              refine x_iload_n d_Mo_locate_27 rfl ?_
              refine r_iald (i := 20) (us := (S.2.1 20)) rfl (by decide) hR rfl (by omega) (by show t < 360; omega) d_Mo_locate_28 (fun hr28 => ?_)
              refine z_icmp_ge (tgt := 99) d_Mo_locate_29 (by decide) (by omega) (by omega) (fun hq => by omega) (fun _ => ?_)
              refine x_aload_n d_Mo_locate_32 rfl rfl ?_
              refine x_get xf_Mo_57_Mo (Or.inl hR.1) (v := .ref (rf 19)) rfl d_Mo_locate_33 ?_
              refine x_iload_n d_Mo_locate_36 rfl ?_
              refine r_iald (i := 19) (us := (S.2.1 19)) rfl (by decide) hR rfl (by omega) (by show t < 360; omega) d_Mo_locate_37 (fun hr37 => ?_)
              refine x_iload_n d_Mo_locate_38 rfl ?_
              refine z_iadd d_Mo_locate_39 ?_
              refine x_istore (L' := [_, _, _, _, _, _]) d_Mo_locate_40 rfl rfl ?_
              refine x_iconst (v := zI 0) d_Mo_locate_42 (by decide) ?_
              refine x_istore (L' := [_, _, _, _, _, _]) d_Mo_locate_43 rfl rfl ?_
              exact lp3 i0 0 0 rfl (Nat.zero_le _) (by omega) _ hR hX
        refine x_iload_n d_Mo_locate_5 rfl ?_
        refine x_bipush (v := zI 40) d_Mo_locate_6 (by decide) ?_
        refine x_iload_n d_Mo_locate_8 rfl ?_
        refine z_imul d_Mo_locate_9 ?_
        refine x_aload_n d_Mo_locate_10 rfl rfl ?_
        refine x_get xf_Mo_63_Mo (Or.inl hR.1) (v := .ref (rf 21)) rfl d_Mo_locate_11 ?_
        refine x_iload_n d_Mo_locate_14 rfl ?_
        refine r_iald (i := 21) (us := (S.2.1 21)) rfl (by decide) hR rfl (by omega) (by show s < 9; omega) d_Mo_locate_15 (fun hr15 => ?_)
        refine z_iadd d_Mo_locate_16 ?_
        refine z_icmp_ge (tgt := 105) d_Mo_locate_17 (by decide) (by omega) (by omega) (fun hq => by omega) (fun _ => ?_)
        refine x_iconst (v := zI 0) d_Mo_locate_20 (by decide) ?_
        refine x_istore_n (L' := [_, _, _, _, _, _]) d_Mo_locate_21 rfl rfl ?_
        exact lp2 (gd (S.2.1 20) t).toNat us 0 _ _ (by omega) t3 hP hU (by omega) _ hR hX
  refine x_bipush (v := zI 40) d_Mo_locate_0 (by decide) ?_
  refine x_iload_n d_Mo_locate_2 rfl ?_
  refine z_imul d_Mo_locate_3 ?_
  refine x_istore_n (L' := [_, _, _, _, _, _]) d_Mo_locate_4 rfl rfl ?_
  exact lp 40 _ _ _ _ _ (by omega) (by omega) (fun q j nm x h1 h2 => by omega) (fun v _ _ => rfl) (by omega) _ (by rw [sa_id (i := 25)]; exact hR) hX
/-- bits -/
theorem bit_tb : ∀ a, a < 256 → ∀ b, b < 8 → (bitC ((a : Nat) : Int) ((b : Nat) : Int) ↔ Nat.testBit a b = true) := by decide +kernel
/-- while prepare() counts -/
def cpd (Ns : List NmT) (Cs : List CnT) (w : Nat) : Nat → Nat
  | 0 => 1
  | j + 1 => if 20000 < cpd Ns Cs w j then cpd Ns Cs w j else cpd Ns Cs w j * smN (row Ns Cs w j)
theorem cpd_pd {Ns : List NmT} {Cs : List CnT} {w : Nat} : ∀ j, (cpd Ns Cs w j ≤ 20000 ↔ pdN Ns Cs w j ≤ 20000) ∧ (cpd Ns Cs w j ≤ 20000 → cpd Ns Cs w j = pdN Ns Cs w j) := by
  intro j
  induction j with
  | zero => exact ⟨Iff.rfl, fun _ => rfl⟩
  | succ j ih =>
    have h1 := smN_1 (W := row Ns Cs w j)
    show ((if 20000 < cpd Ns Cs w j then cpd Ns Cs w j else cpd Ns Cs w j * smN (row Ns Cs w j)) ≤ 20000 ↔ pdN Ns Cs w j * smN (row Ns Cs w j) ≤ 20000) ∧ ((if 20000 < cpd Ns Cs w j then cpd Ns Cs w j else cpd Ns Cs w j * smN (row Ns Cs w j)) ≤ 20000 → (if 20000 < cpd Ns Cs w j then cpd Ns Cs w j else cpd Ns Cs w j * smN (row Ns Cs w j)) = pdN Ns Cs w j * smN (row Ns Cs w j))
    by_cases hc : 20000 < cpd Ns Cs w j
    · rw [if_pos hc]
      have hp : 20000 < pdN Ns Cs w j := by
        by_cases z : pdN Ns Cs w j ≤ 20000
        · have := ih.1.mpr z
          omega
        · omega
      have := Nat.le_mul_of_pos_right (pdN Ns Cs w j) h1
      exact ⟨⟨fun z => by omega, fun z => by omega⟩, fun z => by omega⟩
    · rw [if_neg hc, ih.2 (by omega)]
      exact ⟨Iff.rfl, fun _ => rfl⟩
end RI5
