section

end
section RH3
variable {l : Launch} {G : XG} {h : XH} {c n d : Nat} {o : Nat} {rf : Nat → Nat} {S : MS}
theorem RM.wx {M : XMt} {args : List Value} {Q : Option Value → MS → Prop} (h0 : ((∀ i ∈ rIA, (S.2.1 i).length = rLn i) ∧ ∀ i ∈ rLA, (S.2.2.1 i).length = rLn i) → RM l G d M args o rf S Q) : RM l G d M args o rf S Q := fun h c n hR => h0 ⟨fun i hi => hR.len i hi, fun i hi => hR.lenl i hi⟩ h c n hR
/-- how apply() ends -/
abbrev apE (S : MS) (P R' : List Int) (k a b : Int) : Option Value → MS → Prop := fun v S' => v = none ∧ (∃ w', rdOk S' P (nxN S :: R') w') ∧ rSm S S' [32, 33, 35] [12, 13, 14, 15, 34] [] ∧ agO S S' (S.1 28) ∧ S'.2.1 12 = se (S.2.1 12) (nxN S) k ∧ S'.2.1 13 = se (S.2.1 13) (nxN S) a ∧ S'.2.1 14 = se (S.2.1 14) (nxN S) b ∧ S'.2.1 15 = se (S.2.1 15) (S.1 28) (gd (S.2.1 15) (S.1 28) + 1)
theorem r_applyE (hd : 1 ≤ d) {P R R' : List Int} {w : Int → Int} {k a b : Int} (hS : rdOk S (k :: P) R w) (hk : (k = 1 ∧ a = -1 ∧ R = b :: R') ∨ ((k = 2 ∨ k = 3) ∧ R = b :: a :: R')) : RM l G d M_Mo_apply [.ref o] o rf S (apE S P R' k a b) := by
  obtain ⟨d, rfl⟩ : ∃ q, d = q + 1 := ⟨d - 1, by omega⟩
  intro H0 c n hR
  refine XM.of (by decide +kernel) (Nat.le_of_ble_eq_true rfl) ?_
  have hX : xonly H0 H0 RKs := xonly.rf
  obtain ⟨s1, s2, s3, s4, ⟨s5, s6, s7⟩, ⟨s8, s9⟩, ⟨s10, s11, s12⟩, ⟨s13, s13b⟩, s14, s15, s16, s17⟩ := id hS
  obtain ⟨p1, p2, p3, p4, p5, p6, -⟩ := id s14
  obtain ⟨z1, z2⟩ := id s1
  have l12 := hR.len 12 (by decide)
  have l13 := hR.len 13 (by decide)
  have l14 := hR.len 14 (by decide)
  have l15 := hR.len 15 (by decide)
  have l34 := hR.len 34 (by decide)
  have hpl := okPl_len s7
  have c1 := cnt_nn 1 P
  have c2 := cnt_nn 2 P
  have c3 := cnt_nn 3 P
  have c4 := cnt_nn 4 P
  have h32 : S.1 32 = (P.length : Int) + 1 := by rw [s5]; simp
  have htop : gd (S.2.1 31) (S.1 32 - 1) = k := by rw [h32, Int.add_sub_cancel]; exact s6.1
  simp only [cnt] at s8 s15 s17 hpl s13b
  have hx : nxN S = 128 * S.1 28 + gd (S.2.1 15) (S.1 28) := rfl
  have hN1 : gd (S.2.1 15) (S.1 28) < 128 := by
    rcases hk with ⟨rfl, -⟩ | ⟨rfl | rfl, -⟩ <;> simp at s15 <;> omega
  have hag : ∀ (x y z v k a b : Int) (u : List Int), agO S (sp (sa (adN (sp (sp (sp S 32 x) 33 y) 35 z) k a b) 34 u) 35 v) (S.1 28) := fun x y z v k a b u => ((agO.sm (((rSm.r0 (js := [32, 33, 35]) (is := []) (ls := [])).sp (z := x) (by decide)).sp (z := y) (by decide) |>.sp (z := z) (by decide)) (by decide)).tr (agO_adN (S := sp (sp (sp S 32 x) 33 y) 35 z) (k := k) (a := a) (b := b) l12 l13 l14 l15 s3 ⟨p1, hN1⟩)).tr (agO.sm (((rSm.r0 (js := [35]) (is := [34]) (ls := [])).sa (i := 34) (us := u) (by decide)).sp (j := 35) (z := v) (by decide)) (by decide))
  have hrs : ∀ (x y z v k a b : Int) (u : List Int), rSm S (sp (sa (adN (sp (sp (sp S 32 x) 33 y) 35 z) k a b) 34 u) 35 v) [32, 33, 35] [12, 13, 14, 15, 34] [] := fun x y z v k a b u => ((((((((rSm.r0.sp (by decide)).sp (by decide)).sp (by decide)).sa (by decide)).sa (by decide)).sa (by decide)).sa (by decide)).sa (by decide)).sp (by decide)
  rcases hk with ⟨rfl, rfl, rfl⟩ | ⟨hkk, rfl⟩
  · simp at s8 s15 s17 hpl s13b
    have h35 : S.1 35 = (R'.length : Int) + 1 := by rw [s10]; simp
    have hb : gd (S.2.1 34) (S.1 35 - 1) = b := by rw [h35, Int.add_sub_cancel]; exact s11.1
    have hbr := s12 b List.mem_cons_self
    refine x_aload_n d_Mo_apply_0 rfl rfl ?_
    refine x_dup d_Mo_apply_1 rfl ?_
    refine x_get xf_Mo_199_Mo (Or.inl hR.1) (v := .int (zI (S.1 32))) rfl d_Mo_apply_2 ?_
    have hb2 : inR (S.1 32) := hR.2.2.2 32
    refine x_iconst (v := zI 1) d_Mo_apply_5 (by decide) ?_
    refine z_isub d_Mo_apply_6 ?_
    refine r_put xf_Mo_199_Mo xp_Mo_32 hR hX (by omega) rfl rfl d_Mo_apply_7 ?_
    intro h hR hX
    refine x_aload_n d_Mo_apply_10 rfl rfl ?_
    refine x_get xf_Mo_85_Mo (Or.inl hR.1) (v := .ref (rf 31)) rfl d_Mo_apply_11 ?_
    refine x_aload_n d_Mo_apply_14 rfl rfl ?_
    refine x_get xf_Mo_199_Mo (Or.inl hR.1) (v := .int (zI ((S.1 32) - 1))) rfl d_Mo_apply_15 ?_
    have hb15 : inR ((S.1 32) - 1) := hR.2.2.2 32
    refine r_iald (i := 31) (us := (S.2.1 31)) rfl (by decide) hR rfl (by omega) (by show S.1 32 - 1 < 80; omega) d_Mo_apply_18 (fun hr18 => ?_)
    refine x_istore_n (L' := [_, _, _, _]) d_Mo_apply_19 rfl rfl ?_
    refine x_aload_n d_Mo_apply_20 rfl rfl ?_
    refine x_dup d_Mo_apply_21 rfl ?_
    refine x_get xf_Mo_202_Mo (Or.inl hR.1) (v := .int (zI (S.1 33))) rfl d_Mo_apply_22 ?_
    have hb22 : inR (S.1 33) := hR.2.2.2 33
    refine x_iload_n d_Mo_apply_25 rfl ?_
    refine x_iconst (v := zI 1) d_Mo_apply_26 (by decide) ?_
    refine z_icmp_ne (tgt := 34) d_Mo_apply_27 (by decide) (by omega) (by omega) (fun hq => by omega) (fun _ => ?_)
    refine x_iconst (v := zI 1) d_Mo_apply_30 (by decide) ?_
    refine x_goto (tgt := 35) d_Mo_apply_31 (by decide) ?_
    refine z_isub d_Mo_apply_35 ?_
    refine r_put xf_Mo_202_Mo xp_Mo_33 hR hX (by omega) rfl rfl d_Mo_apply_36 ?_
    intro h hR hX
    refine x_aload_n d_Mo_apply_39 rfl rfl ?_
    refine x_get xf_Mo_88_Mo (Or.inl hR.1) (v := .ref (rf 34)) rfl d_Mo_apply_40 ?_
    refine x_aload_n d_Mo_apply_43 rfl rfl ?_
    refine x_get xf_Mo_205_Mo (Or.inl hR.1) (v := .int (zI (S.1 35))) rfl d_Mo_apply_44 ?_
    have hb44 : inR (S.1 35) := hR.2.2.2 35
    refine x_iconst (v := zI 1) d_Mo_apply_47 (by decide) ?_
    refine z_isub d_Mo_apply_48 ?_
    refine r_iald (i := 34) (us := (S.2.1 34)) rfl (by decide) hR rfl (by omega) (by show S.1 35 - 1 < 80; omega) d_Mo_apply_49 (fun hr49 => ?_)
    refine x_istore_n (L' := [_, _, _, _]) d_Mo_apply_50 rfl rfl ?_
    refine x_iload_n d_Mo_apply_51 rfl ?_
    refine x_iconst (v := zI 1) d_Mo_apply_52 (by decide) ?_
    refine z_icmp_ne (tgt := 60) d_Mo_apply_53 (by decide) (by omega) (by omega) (fun hq => by omega) (fun _ => ?_)
    refine x_iconst (v := zI (-1)) d_Mo_apply_56 (by decide) ?_
    refine x_goto (tgt := 71) d_Mo_apply_57 (by decide) ?_
    refine x_istore_n (L' := [_, _, _, _]) d_Mo_apply_71 rfl rfl ?_
    refine x_aload_n d_Mo_apply_72 rfl rfl ?_
    refine x_dup d_Mo_apply_73 rfl ?_
    refine x_get xf_Mo_205_Mo (Or.inl hR.1) (v := .int (zI (S.1 35))) rfl d_Mo_apply_74 ?_
    have hb74 : inR (S.1 35) := hR.2.2.2 35
    refine x_iload_n d_Mo_apply_77 rfl ?_
    refine x_iconst (v := zI 1) d_Mo_apply_78 (by decide) ?_
    refine z_icmp_ne (tgt := 86) d_Mo_apply_79 (by decide) (by omega) (by omega) (fun hq => by omega) (fun _ => ?_)
    refine x_iconst (v := zI 1) d_Mo_apply_82 (by decide) ?_
    refine x_goto (tgt := 87) d_Mo_apply_83 (by decide) ?_
    refine z_isub d_Mo_apply_87 ?_
    refine r_put xf_Mo_205_Mo xp_Mo_35 hR hX (by omega) rfl rfl d_Mo_apply_88 ?_
    intro h hR hX
    refine x_aload_n d_Mo_apply_91 rfl rfl ?_
    refine x_get xf_Mo_88_Mo (Or.inl hR.1) (v := .ref (rf 34)) rfl d_Mo_apply_92 ?_
    refine x_aload_n d_Mo_apply_95 rfl rfl ?_
    refine x_get xf_Mo_205_Mo (Or.inl hR.1) (v := .int (zI ((S.1 35) - 1))) rfl d_Mo_apply_96 ?_
    have hb96 : inR ((S.1 35) - 1) := hR.2.2.2 35
    refine x_aload_n d_Mo_apply_99 rfl rfl ?_
    refine x_iload_n d_Mo_apply_100 rfl ?_
    refine x_iload_n d_Mo_apply_101 rfl ?_
    refine x_iload_n d_Mo_apply_102 rfl ?_
    refine x_callV (As := [_, _, _]) (k := k_MarkerTextModel) rfl xcv_Mo_208_Mo (Or.inl hR.1) (RM.ap hR (r_addNode (by omega) (by decide) (by omega) s3 ⟨p1, hN1⟩)) rfl rfl (Nat.le_of_ble_eq_true rfl) d_Mo_apply_103 ?_
    rintro v103 h cq nq ⟨S103, hR, hX103, rfl, rfl, rfl, rfl⟩
    replace hX := hX.tr hX103
    refine r_iast (i := 34) (us := (S.2.1 34)) ⟨rfl, rfl⟩ (by decide) hR hX rfl (by omega) (by show S.1 35 - 1 < 80; omega) (by show inR (128 * S.1 28 + gd (S.2.1 15) (S.1 28)); omega) d_Mo_apply_106 ?_
    intro h hR hX
    refine x_aload_n d_Mo_apply_107 rfl rfl ?_
    refine x_dup d_Mo_apply_108 rfl ?_
    refine x_get xf_Mo_205_Mo (Or.inl hR.1) (v := .int (zI ((S.1 35) - 1))) rfl d_Mo_apply_109 ?_
    have hb109 : inR ((S.1 35) - 1) := hR.2.2.2 35
    refine x_iconst (v := zI 1) d_Mo_apply_112 (by decide) ?_
    refine z_iadd d_Mo_apply_113 ?_
    refine r_put xf_Mo_205_Mo xp_Mo_35 hR hX (by omega) rfl rfl d_Mo_apply_114 ?_
    intro h hR hX
    refine x_vret d_Mo_apply_117 rfl ?_
    rw [htop, hb] at hR
    exact ⟨_, hR, hX, rfl, rfl, rfl, rd_apply hS (Or.inl ⟨rfl, rfl⟩) l12 l13 l14 l15 l34 (rdKeep.sm (hrs _ _ _ _ _ _ _ _) (by decide) (by decide)) rfl rfl rfl (by show S.1 35 - 1 + 1 = _; omega) (by show se (S.2.1 34) (S.1 35 - 1) (nxN S) = _; rw [h35, Int.add_sub_cancel]) rfl rfl rfl rfl, hrs _ _ _ _ _ _ _ _, hag _ _ _ _ _ _ _ _, rfl, rfl, rfl, rfl⟩
  · have h35 : S.1 35 = (R'.length : Int) + 2 := by rw [s10]; simp; omega
    have hb : gd (S.2.1 34) (S.1 35 - 1) = b := by
      have := s11.1
      rw [show S.1 35 - 1 = ((a :: R').length : Int) by simp; omega]; exact this
    have ha : gd (S.2.1 34) (S.1 35 - 2) = a := by
      have := s11.2.1
      rw [show S.1 35 - 2 = (R'.length : Int) by omega]; exact this
    have hbr := s12 b List.mem_cons_self
    have har := s12 a (List.mem_cons_of_mem _ List.mem_cons_self)
    have hk1 : k ≠ 1 := by omega
    have hc0 : cnt 1 (k :: P) + cnt 2 (k :: P) + cnt 3 (k :: P) + cnt 4 (k :: P) = (P.length : Int) + 1 := by
      have := okPl_len s7
      simp at this
      omega
    have hl80 : S.1 32 ≤ 80 := by
      rcases hkk with rfl | rfl <;> simp at s8 s15 hpl s13b <;> omega
    refine x_aload_n d_Mo_apply_0 rfl rfl ?_
    refine x_dup d_Mo_apply_1 rfl ?_
    refine x_get xf_Mo_199_Mo (Or.inl hR.1) (v := .int (zI (S.1 32))) rfl d_Mo_apply_2 ?_
    have hb2 : inR (S.1 32) := hR.2.2.2 32
    refine x_iconst (v := zI 1) d_Mo_apply_5 (by decide) ?_
    refine z_isub d_Mo_apply_6 ?_
    refine r_put xf_Mo_199_Mo xp_Mo_32 hR hX (by omega) rfl rfl d_Mo_apply_7 ?_
    intro h hR hX
    refine x_aload_n d_Mo_apply_10 rfl rfl ?_
    refine x_get xf_Mo_85_Mo (Or.inl hR.1) (v := .ref (rf 31)) rfl d_Mo_apply_11 ?_
    refine x_aload_n d_Mo_apply_14 rfl rfl ?_
    refine x_get xf_Mo_199_Mo (Or.inl hR.1) (v := .int (zI ((S.1 32) - 1))) rfl d_Mo_apply_15 ?_
    have hb15 : inR ((S.1 32) - 1) := hR.2.2.2 32
    refine r_iald (i := 31) (us := (S.2.1 31)) rfl (by decide) hR rfl (by omega) (by show S.1 32 - 1 < 80; omega) d_Mo_apply_18 (fun hr18 => ?_)
    refine x_istore_n (L' := [_, _, _, _]) d_Mo_apply_19 rfl rfl ?_
    refine x_aload_n d_Mo_apply_20 rfl rfl ?_
    refine x_dup d_Mo_apply_21 rfl ?_
    refine x_get xf_Mo_202_Mo (Or.inl hR.1) (v := .int (zI (S.1 33))) rfl d_Mo_apply_22 ?_
    have hb22 : inR (S.1 33) := hR.2.2.2 33
    refine x_iload_n d_Mo_apply_25 rfl ?_
    refine x_iconst (v := zI 1) d_Mo_apply_26 (by decide) ?_
    refine z_icmp_ne (tgt := 34) d_Mo_apply_27 (by decide) (by omega) (by omega) (fun _ => ?_) (fun hq => by omega)
    refine x_iconst (v := zI 0) d_Mo_apply_34 (by decide) ?_
    refine z_isub d_Mo_apply_35 ?_
    refine r_put xf_Mo_202_Mo xp_Mo_33 hR hX (by omega) rfl rfl d_Mo_apply_36 ?_
    intro h hR hX
    refine x_aload_n d_Mo_apply_39 rfl rfl ?_
    refine x_get xf_Mo_88_Mo (Or.inl hR.1) (v := .ref (rf 34)) rfl d_Mo_apply_40 ?_
    refine x_aload_n d_Mo_apply_43 rfl rfl ?_
    refine x_get xf_Mo_205_Mo (Or.inl hR.1) (v := .int (zI (S.1 35))) rfl d_Mo_apply_44 ?_
    have hb44 : inR (S.1 35) := hR.2.2.2 35
    refine x_iconst (v := zI 1) d_Mo_apply_47 (by decide) ?_
    refine z_isub d_Mo_apply_48 ?_
    refine r_iald (i := 34) (us := (S.2.1 34)) rfl (by decide) hR rfl (by omega) (by show S.1 35 - 1 < 80; omega) d_Mo_apply_49 (fun hr49 => ?_)
    refine x_istore_n (L' := [_, _, _, _]) d_Mo_apply_50 rfl rfl ?_
    refine x_iload_n d_Mo_apply_51 rfl ?_
    refine x_iconst (v := zI 1) d_Mo_apply_52 (by decide) ?_
    refine z_icmp_ne (tgt := 60) d_Mo_apply_53 (by decide) (by omega) (by omega) (fun _ => ?_) (fun hq => by omega)
    refine x_aload_n d_Mo_apply_60 rfl rfl ?_
    refine x_get xf_Mo_88_Mo (Or.inl hR.1) (v := .ref (rf 34)) rfl d_Mo_apply_61 ?_
    refine x_aload_n d_Mo_apply_64 rfl rfl ?_
    refine x_get xf_Mo_205_Mo (Or.inl hR.1) (v := .int (zI (S.1 35))) rfl d_Mo_apply_65 ?_
    have hb65 : inR (S.1 35) := hR.2.2.2 35
    refine x_iconst (v := zI 2) d_Mo_apply_68 (by decide) ?_
    refine z_isub d_Mo_apply_69 ?_
    refine r_iald (i := 34) (us := (S.2.1 34)) rfl (by decide) hR rfl (by omega) (by show S.1 35 - 2 < 80; omega) d_Mo_apply_70 (fun hr70 => ?_)
    refine x_istore_n (L' := [_, _, _, _]) d_Mo_apply_71 rfl rfl ?_
    refine x_aload_n d_Mo_apply_72 rfl rfl ?_
    refine x_dup d_Mo_apply_73 rfl ?_
    refine x_get xf_Mo_205_Mo (Or.inl hR.1) (v := .int (zI (S.1 35))) rfl d_Mo_apply_74 ?_
    have hb74 : inR (S.1 35) := hR.2.2.2 35
    refine x_iload_n d_Mo_apply_77 rfl ?_
    refine x_iconst (v := zI 1) d_Mo_apply_78 (by decide) ?_
    refine z_icmp_ne (tgt := 86) d_Mo_apply_79 (by decide) (by omega) (by omega) (fun _ => ?_) (fun hq => by omega)
    refine x_iconst (v := zI 2) d_Mo_apply_86 (by decide) ?_
    refine z_isub d_Mo_apply_87 ?_
    refine r_put xf_Mo_205_Mo xp_Mo_35 hR hX (by omega) rfl rfl d_Mo_apply_88 ?_
    intro h hR hX
    refine x_aload_n d_Mo_apply_91 rfl rfl ?_
    refine x_get xf_Mo_88_Mo (Or.inl hR.1) (v := .ref (rf 34)) rfl d_Mo_apply_92 ?_
    refine x_aload_n d_Mo_apply_95 rfl rfl ?_
    refine x_get xf_Mo_205_Mo (Or.inl hR.1) (v := .int (zI ((S.1 35) - 2))) rfl d_Mo_apply_96 ?_
    have hb96 : inR ((S.1 35) - 2) := hR.2.2.2 35
    refine x_aload_n d_Mo_apply_99 rfl rfl ?_
    refine x_iload_n d_Mo_apply_100 rfl ?_
    refine x_iload_n d_Mo_apply_101 rfl ?_
    refine x_iload_n d_Mo_apply_102 rfl ?_
    refine x_callV (As := [_, _, _]) (k := k_MarkerTextModel) rfl xcv_Mo_208_Mo (Or.inl hR.1) (RM.ap hR (r_addNode (by omega) (by omega) (by omega) s3 ⟨p1, hN1⟩)) rfl rfl (Nat.le_of_ble_eq_true rfl) d_Mo_apply_103 ?_
    rintro v103 h cq nq ⟨S103, hR, hX103, rfl, rfl, rfl, rfl⟩
    replace hX := hX.tr hX103
    refine r_iast (i := 34) (us := (S.2.1 34)) ⟨rfl, rfl⟩ (by decide) hR hX rfl (by omega) (by show S.1 35 - 2 < 80; omega) (by show inR (128 * S.1 28 + gd (S.2.1 15) (S.1 28)); omega) d_Mo_apply_106 ?_
    intro h hR hX
    refine x_aload_n d_Mo_apply_107 rfl rfl ?_
    refine x_dup d_Mo_apply_108 rfl ?_
    refine x_get xf_Mo_205_Mo (Or.inl hR.1) (v := .int (zI ((S.1 35) - 2))) rfl d_Mo_apply_109 ?_
    have hb109 : inR ((S.1 35) - 2) := hR.2.2.2 35
    refine x_iconst (v := zI 1) d_Mo_apply_112 (by decide) ?_
    refine z_iadd d_Mo_apply_113 ?_
    refine r_put xf_Mo_205_Mo xp_Mo_35 hR hX (by omega) rfl rfl d_Mo_apply_114 ?_
    intro h hR hX
    refine x_vret d_Mo_apply_117 rfl ?_
    rw [htop, hb, ha] at hR
    exact ⟨_, hR, hX, rfl, rfl, rfl, rd_apply hS (Or.inr ⟨hkk, rfl⟩) l12 l13 l14 l15 l34 (rdKeep.sm (hrs _ _ _ _ _ _ _ _) (by decide) (by decide)) rfl rfl (by rw [if_neg hk1]; rfl) (by show S.1 35 - 2 + 1 = _; omega) (by show se (S.2.1 34) (S.1 35 - 2) (nxN S) = _; rw [show S.1 35 - 2 = (R'.length : Int) by omega]) rfl rfl rfl rfl, hrs _ _ _ _ _ _ _ _, hag _ _ _ _ _ _ _ _, rfl, rfl, rfl, rfl⟩
/-- how open() ends -/
abbrev opE (S : MS) (P R : List Int) (w : Int → Int) (k e : Int) : Option Value → MS → Prop := fun v S' => v = none ∧ rdOk S' (k :: P) R w ∧ rSm S S' [27, 29, 32, 33] [31] [] ∧ S'.1 27 = S.1 27 + e ∧ ((S.1 33 = 12 ∧ S'.1 29 = S.1 27) ∨ (S.1 33 ≠ 12 ∧ S'.1 29 = S.1 29))
theorem r_openE (hd : 1 ≤ d) {P R : List Int} {w : Int → Int} {k e : Int} (hS : rdOk S P R w) (hk : (k = 4 ∧ e = 1) ∨ (k = 1 ∧ e = 3)) (h27 : S.1 27 + e ≤ S.1 2) (hw : S.1 29 < 0) (h33 : S.1 33 ≤ 12) : RM l G d M_Mo_open [.ref o, .int (zI k), .int (zI e)] o rf S (opE S P R w k e) := by
  obtain ⟨d, rfl⟩ : ∃ q, d = q + 1 := ⟨d - 1, by omega⟩
  intro H0 c n hR
  refine XM.of (by decide +kernel) (Nat.le_of_ble_eq_true rfl) ?_
  have hX : xonly H0 H0 RKs := xonly.rf
  obtain ⟨y1, y2, y3⟩ := hS.pl
  have l31 := hR.len 31 (by decide)
  obtain ⟨s1, s2, s3, s4, ⟨s5, s6, s7⟩, ⟨s8, s9⟩, -⟩ := id hS
  obtain ⟨z1, z2⟩ := id s1
  refine x_aload_n d_Mo_open_0 rfl rfl ?_
  refine x_get xf_Mo_202_Mo (Or.inl hR.1) (v := .int (zI (S.1 33))) rfl d_Mo_open_1 ?_
  have hb1 : inR (S.1 33) := hR.2.2.2 33
  refine x_bipush (v := zI 12) d_Mo_open_4 (by decide) ?_
  refine z_icmp_ne (tgt := 17) d_Mo_open_6 (by decide) (by omega) (by omega) (fun hc6 => ?_) (fun hc6 => ?_)
  · refine x_aload_n d_Mo_open_17 rfl rfl ?_
    refine x_dup d_Mo_open_18 rfl ?_
    refine x_get xf_Mo_202_Mo (Or.inl hR.1) (v := .int (zI (S.1 33))) rfl d_Mo_open_19 ?_
    have hb19 : inR (S.1 33) := hR.2.2.2 33
    refine x_iconst (v := zI 1) d_Mo_open_22 (by decide) ?_
    refine z_iadd d_Mo_open_23 ?_
    refine r_put xf_Mo_202_Mo xp_Mo_33 hR hX (by omega) rfl rfl d_Mo_open_24 ?_
    intro h hR hX
    refine x_aload_n d_Mo_open_27 rfl rfl ?_
    refine x_iload_n d_Mo_open_28 rfl ?_
    refine x_callV (As := [_]) (k := k_MarkerTextModel) rfl xcv_Mo_222_Mo (Or.inl hR.1) (RM.ap hR (r_push (by omega) (by show 0 ≤ S.1 32 ∧ S.1 32 < 80; omega))) rfl rfl (Nat.le_of_ble_eq_true rfl) d_Mo_open_29 ?_
    rintro v29 h cq nq ⟨S29, hR, hX29, rfl, rfl, rfl, rfl⟩
    replace hX := hX.tr hX29
    refine x_aload_n d_Mo_open_32 rfl rfl ?_
    refine x_dup d_Mo_open_33 rfl ?_
    refine x_get xf_Mo_193_Mo (Or.inl hR.1) (v := .int (zI (S.1 27))) rfl d_Mo_open_34 ?_
    have hb34 : inR (S.1 27) := hR.2.2.2 27
    refine x_iload_n d_Mo_open_37 rfl ?_
    refine z_iadd d_Mo_open_38 ?_
    refine r_put xf_Mo_193_Mo xp_Mo_27 hR hX (by omega) rfl rfl d_Mo_open_39 ?_
    intro h hR hX
    refine x_vret d_Mo_open_42 rfl ?_
    first | exact ⟨_, hR, hX, rfl, rfl, rfl, rd_push (e := e) hS (by omega) l31 (js := [27, 29, 32, 33]) (is := [31]) (ls := []) (((((rSm.r0.sp (by decide)).sp (by decide)).sa (by decide)).sp (by decide)).sp (by decide)) (by decide) (by decide) rfl (by omega) rfl rfl (by rw [if_pos (by omega)]; rfl) (by show S.1 33 + 1 ≤ 13; omega), ((((rSm.r0.sp (by decide)).sp (by decide)).sa (by decide)).sp (by decide)).sp (by decide), rfl, Or.inl ⟨by omega, by show a14 = S.1 27; omega⟩⟩ | exact ⟨_, hR, hX, rfl, rfl, rfl, rd_push (e := e) hS (by omega) l31 (js := [27, 29, 32, 33]) (is := [31]) (ls := []) ((((rSm.r0.sp (by decide)).sa (by decide)).sp (by decide)).sp (by decide)) (by decide) (by decide) rfl (by omega) rfl rfl (by rw [if_pos (by omega)]; rfl) (by show S.1 33 + 1 ≤ 13; omega), (((rSm.r0.sp (by decide)).sa (by decide)).sp (by decide)).sp (by decide), rfl, Or.inr ⟨by omega, rfl⟩⟩
  · refine x_aload_n d_Mo_open_9 rfl rfl ?_
    refine x_aload_n d_Mo_open_10 rfl rfl ?_
    refine x_get xf_Mo_193_Mo (Or.inl hR.1) (v := .int (zI (S.1 27))) rfl d_Mo_open_11 ?_
    have hb11 : inR (S.1 27) := hR.2.2.2 27
    refine x_callV (As := [_]) (k := k_MarkerTextModel) rfl xcv_Mo_218_Mo (Or.inl hR.1) (RM.ap hR (r_fault (by omega))) rfl rfl (Nat.le_of_ble_eq_true rfl) d_Mo_open_14 ?_
    rintro v14 h cq nq ⟨S14, hR, hX14, rfl, rfl, a14, rfl, rfl, ha14⟩
    replace hX := hX.tr hX14
    refine x_aload_n d_Mo_open_17 rfl rfl ?_
    refine x_dup d_Mo_open_18 rfl ?_
    refine x_get xf_Mo_202_Mo (Or.inl hR.1) (v := .int (zI (S.1 33))) rfl d_Mo_open_19 ?_
    have hb19 : inR (S.1 33) := hR.2.2.2 33
    refine x_iconst (v := zI 1) d_Mo_open_22 (by decide) ?_
    refine z_iadd d_Mo_open_23 ?_
    refine r_put xf_Mo_202_Mo xp_Mo_33 hR hX (by omega) rfl rfl d_Mo_open_24 ?_
    intro h hR hX
    refine x_aload_n d_Mo_open_27 rfl rfl ?_
    refine x_iload_n d_Mo_open_28 rfl ?_
    refine x_callV (As := [_]) (k := k_MarkerTextModel) rfl xcv_Mo_222_Mo (Or.inl hR.1) (RM.ap hR (r_push (by omega) (by show 0 ≤ S.1 32 ∧ S.1 32 < 80; omega))) rfl rfl (Nat.le_of_ble_eq_true rfl) d_Mo_open_29 ?_
    rintro v29 h cq nq ⟨S29, hR, hX29, rfl, rfl, rfl, rfl⟩
    replace hX := hX.tr hX29
    refine x_aload_n d_Mo_open_32 rfl rfl ?_
    refine x_dup d_Mo_open_33 rfl ?_
    refine x_get xf_Mo_193_Mo (Or.inl hR.1) (v := .int (zI (S.1 27))) rfl d_Mo_open_34 ?_
    have hb34 : inR (S.1 27) := hR.2.2.2 27
    refine x_iload_n d_Mo_open_37 rfl ?_
    refine z_iadd d_Mo_open_38 ?_
    refine r_put xf_Mo_193_Mo xp_Mo_27 hR hX (by omega) rfl rfl d_Mo_open_39 ?_
    intro h hR hX
    refine x_vret d_Mo_open_42 rfl ?_
    first | exact ⟨_, hR, hX, rfl, rfl, rfl, rd_push (e := e) hS (by omega) l31 (js := [27, 29, 32, 33]) (is := [31]) (ls := []) (((((rSm.r0.sp (by decide)).sp (by decide)).sa (by decide)).sp (by decide)).sp (by decide)) (by decide) (by decide) rfl (by omega) rfl rfl (by rw [if_pos (by omega)]; rfl) (by show S.1 33 + 1 ≤ 13; omega), ((((rSm.r0.sp (by decide)).sp (by decide)).sa (by decide)).sp (by decide)).sp (by decide), rfl, Or.inl ⟨by omega, by show a14 = S.1 27; omega⟩⟩ | exact ⟨_, hR, hX, rfl, rfl, rfl, rd_push (e := e) hS (by omega) l31 (js := [27, 29, 32, 33]) (is := [31]) (ls := []) ((((rSm.r0.sp (by decide)).sa (by decide)).sp (by decide)).sp (by decide)) (by decide) (by decide) rfl (by omega) rfl rfl (by rw [if_pos (by omega)]; rfl) (by show S.1 33 + 1 ≤ 13; omega), (((rSm.r0.sp (by decide)).sa (by decide)).sp (by decide)).sp (by decide), rfl, Or.inr ⟨by omega, rfl⟩⟩
/-- the tests so far -/
def tsF (s : Int) (tx : Int → Option TsT) (tc : Nat) : List TsT := (List.range tc).filterMap (fun i => tx (40 * s + (i : Nat)))
/-- while a condition is read: the signs on the pile, what is ready, the place, the tests -/
def rdX (t : List Nat) (Ns : List NmT) (S : MS) (P : List Int) (Ds : List Den) (p tc : Nat) (ts : List TsT) : Prop := cx t Ns S ∧ (S.1 27 = (p : Nat) ∧ p ≤ t.length) ∧ S.1 29 = -1 ∧ ∃ (R : List Int) (w : Int → Int) (dn : Int → Den) (tx : Int → Option TsT), rdOk S P R w ∧ slR Ns S (S.1 28) dn tx ∧ Ds = R.map dn ∧ gd (S.2.1 21) (S.1 28) = (tc : Nat) ∧ ts = tsF (S.1 28) tx tc
/-- what reading leaves as it is -/
def fX (S S' : MS) : Prop := rSm S S' rtJ (31 :: rtA) [22] ∧ aOX S S' (S.1 28)
theorem fX.r0 : fX S S := ⟨rSm.r0, aOX.rf⟩
theorem fX.tr {S' S'' : MS} (a : fX S S') (b : fX S' S'') : fX S S'' := by
  refine ⟨a.1.tr b.1, a.2.tr ?_⟩
  have := b.2
  rw [a.1.1 28 (by decide)] at this
  exact this
theorem fX.sm {S' : MS} {js is ls : List Nat} (h : rSm S S' js is ls) (h1 : ∀ j ∈ js, j ∈ rtJ) (h2 : ∀ j ∈ is, j ∈ 31 :: rtA) (h3 : ∀ j ∈ ls, j ∈ [22]) (hn : ∀ i ∈ [12, 13, 14, 15, 16, 17, 18, 19, 20, 21, 24, 26], i ∉ is) (h23 : 23 ∉ is) (h22 : 22 ∉ ls) : fX S S' := ⟨h.mono h1 h2 h3, aOX.sm h hn h23 h22⟩
theorem fX.cx {S' : MS} {t : List Nat} {Ns : List NmT} (a : fX S S') (hc : cx t Ns S) : cx t Ns S' := hc.sm a.1 (by decide) (by decide)
/-- what apply() makes of what is ready -/
def apD (k : Int) (Ds : List Den) : List Den := match Ds with
  | [] => []
  | B :: r => if k = 1 then dNot B :: r else match r with
    | [] => []
    | A :: q => dJoin (if k = 2 then 2 else 1) A B :: q
theorem map_upd {dn : Int → Den} {n : Int} {D : Den} : ∀ {R : List Int}, (∀ r ∈ R, r < n) → R.map (fun q => if q = n then D else dn q) = R.map dn := by
  intro R hR
  apply List.map_congr_left
  intro r hr
  show (if r = n then D else dn r) = dn r
  rw [if_neg (by have := hR r hr; omega)]
theorem r_applyX (hd : 1 ≤ d) {t : List Nat} {Ns : List NmT} {P : List Int} {Ds : List Den} {p tc : Nat} {ts : List TsT} {k : Int} (hX : rdX t Ns S (k :: P) Ds p tc ts) (hk : (k = 1 ∧ 1 ≤ Ds.length) ∨ ((k = 2 ∨ k = 3) ∧ 2 ≤ Ds.length)) : RM l G d M_Mo_apply [.ref o] o rf S (fun v S' => v = none ∧ rdX t Ns S' P (apD k Ds) p tc ts ∧ fX S S' ∧ rSm S S' apJ apA []) := by
  refine RM.wx (fun hlen => ?_)
  have l12 : (S.2.1 12).length = 1152 := hlen.1 12 (by decide)
  have l13 : (S.2.1 13).length = 1152 := hlen.1 13 (by decide)
  have l14 : (S.2.1 14).length = 1152 := hlen.1 14 (by decide)
  have l15 : (S.2.1 15).length = 9 := hlen.1 15 (by decide)
  obtain ⟨hc, h27, h29, R, w, dn, tx, hS, hsl, rfl, htc, hts⟩ := hX
  obtain ⟨s1, s2, s3, s4, ⟨s5, s6, s7⟩, ⟨s8, s9⟩, ⟨s10, s11, s12⟩, ⟨s13, s13b⟩, s14, s15, s16, s17⟩ := id hS
  obtain ⟨p1, p2, p3, p4, p5, p6, -⟩ := id s14
  obtain ⟨z1, z2⟩ := id s1
  have c1 := cnt_nn 1 P
  have c2 := cnt_nn 2 P
  have c3 := cnt_nn 3 P
  have hN1 : gd (S.2.1 15) (S.1 28) < 128 := by
    simp only [cnt] at s15
    rcases hk with ⟨rfl, -⟩ | ⟨rfl | rfl, -⟩ <;> simp at s15 <;> omega
  have fin : ∀ (a b : Int) (R' : List Int) (D : Den), (k = 1 ∧ R = b :: R' ∧ D = dNot (dn b)) ∨ ((k = 2 ∨ k = 3) ∧ R = b :: a :: R' ∧ D = dJoin (if k = 2 then 2 else 1) (dn a) (dn b)) → apD k (R.map dn) = D :: R'.map dn → ∀ v S', apE S P R' k a b v S' → v = none ∧ rdX t Ns S' P (apD k (R.map dn)) p tc ts ∧ fX S S' ∧ rSm S S' apJ apA [] := by
    intro a b R' D hkk hap v S' hq
    obtain ⟨q0, ⟨w', q1⟩, q2, q3, e12, e13, e14, e15⟩ := hq
    have f28 := q2.1 28 (by decide)
    have hR' : ∀ r ∈ R', r < 128 * S.1 28 + gd (S.2.1 15) (S.1 28) := fun r hr => by
      rcases hkk with ⟨-, rfl, -⟩ | ⟨-, rfl, -⟩
      · exact (s12 r (List.mem_cons_of_mem _ hr)).2
      · exact (s12 r (List.mem_cons_of_mem _ (List.mem_cons_of_mem _ hr))).2
    have hsl' := hsl.node (S' := S') (k := k) (a := a) (b := b) (D := D) hN1 l12 l13 l14 l15 e12 e13 e14 e15 (fun i hi => q2.2.1 i ((by decide : ∀ i ∈ [17, 18, 19, 20, 21, 23, 24, 26], i ∉ [12, 13, 14, 15, 34]) i hi)) (q2.2.2 22 (by decide)) (by
      rcases hkk with ⟨e1, rfl, e3⟩ | ⟨e1, rfl, e3⟩
      · exact Or.inr (Or.inl ⟨e1, s12 b List.mem_cons_self, e3⟩)
      · refine Or.inr (Or.inr ⟨?_, s12 a (List.mem_cons_of_mem _ List.mem_cons_self), s12 b List.mem_cons_self⟩)
        rcases e1 with e1 | e1
        · exact Or.inl ⟨e1, by rw [e3, if_pos e1]⟩
        · exact Or.inr ⟨e1, by rw [e3, if_neg (by omega)]⟩)
    refine ⟨q0, ⟨hc.sm q2 (by decide) (by decide), ⟨by rw [q2.1 27 (by decide)]; exact h27.1, h27.2⟩, by rw [q2.1 29 (by decide)]; exact h29, nxN S :: R', w', _, tx, q1, by rw [f28]; exact hsl', ?_, by rw [f28, q2.2.1 21 (by decide)]; exact htc, by rw [f28]; exact hts⟩, ⟨q2.mono (by decide) (by decide) (by decide), aOX.of q3 q2 (by decide) (by decide)⟩, q2⟩
    rw [hap]
    show _ = (if nxN S = 128 * S.1 28 + gd (S.2.1 15) (S.1 28) then D else dn (nxN S)) :: R'.map _
    rw [if_pos rfl, map_upd hR']
  rcases hk with ⟨rfl, hl⟩ | ⟨hkk, hl⟩
  · match R, hl with
    | b :: R', _ => exact (r_applyE (a := -1) hd hS (Or.inl ⟨rfl, rfl, rfl⟩)).mono (fun v S' hq => fin (-1) b R' _ (Or.inl ⟨rfl, rfl, rfl⟩) rfl v S' hq)
  · match R, hl with
    | b :: a :: R', _ =>
      refine (r_applyE (a := a) (b := b) hd hS (Or.inr ⟨hkk, rfl⟩)).mono (fun v S' hq => fin a b R' _ (Or.inr ⟨hkk, rfl, rfl⟩) ?_ v S' hq)
      show (if k = 1 then _ else _) = _
      rw [if_neg (by omega)]
/-- not, where its TEST is whole -/
def ngt (Ds : List Den) : List Den := match Ds with
  | [] => []
  | D :: r => dNot D :: r
/-- what complete() leaves: the signs, what is ready -/
def cmpl : List Int → List Den → List Int × List Den
  | [], Ds => ([], Ds)
  | k :: P, Ds => if k = 1 then cmpl P (ngt Ds) else (k :: P, Ds)
theorem cmpl_not {P : List Int} {D : Den} {Ds : List Den} : cmpl (1 :: P) (D :: Ds) = cmpl P (dNot D :: Ds) := if_pos rfl
theorem cmpl_no {P : List Int} {Ds : List Den} (h : ∀ P', P ≠ 1 :: P') : cmpl P Ds = (P, Ds) := by
  cases P with
  | nil => rfl
  | cons k P => exact if_neg (fun e => h P (by rw [e]))
theorem rdX.pl {t : List Nat} {Ns : List NmT} {P : List Int} {Ds : List Den} {p tc : Nat} {ts : List TsT} (hX : rdX t Ns S P Ds p tc ts) : S.1 32 = P.length ∧ stk (S.2.1 31) P ∧ (P.length : Int) ≤ 53 := by
  obtain ⟨-, -, -, R, w, dn, tx, hS, -⟩ := hX
  exact hS.pl
theorem rdX.op {t : List Nat} {Ns : List NmT} {P : List Int} {Ds : List Den} {p tc : Nat} {ts : List TsT} (hX : rdX t Ns S P Ds p tc ts) : S.1 33 = cnt 1 P + cnt 4 P := by
  obtain ⟨-, -, -, R, w, dn, tx, hS, -⟩ := hX
  exact hS.2.2.2.2.2.1.1
theorem rdX.s28 {t : List Nat} {Ns : List NmT} {P : List Int} {Ds : List Den} {p tc : Nat} {ts : List TsT} (hX : rdX t Ns S P Ds p tc ts) : (0 ≤ S.1 28 ∧ S.1 28 ≤ 8) ∧ gd (S.2.1 21) (S.1 28) = (tc : Nat) := by
  obtain ⟨-, -, -, R, w, dn, tx, hS, -, -, htc, -⟩ := hX
  exact ⟨hS.2.2.1, htc⟩
theorem r_completeX (hd : 2 ≤ d) {t : List Nat} {Ns : List NmT} {P : List Int} {Ds : List Den} {p tc : Nat} {ts : List TsT} (hX : rdX t Ns S P Ds p tc ts) (hr : 1 ≤ Ds.length) : RM l G d M_Mo_complete [.ref o] o rf S (fun v S' => v = none ∧ rdX t Ns S' (cmpl P Ds).1 (cmpl P Ds).2 p tc ts ∧ fX S S' ∧ rSm S S' apJ apA []) := by
  obtain ⟨d, rfl⟩ : ∃ q, d = q + 1 := ⟨d - 1, by omega⟩
  intro H0 c n hR
  refine XM.of (by decide +kernel) (Nat.le_of_ble_eq_true rfl) ?_
  have lp : ∀ (k : Nat) (P1 : List Int) (Ds1 : List Den) (S1 : MS), P1.length ≤ k → rdX t Ns S1 P1 Ds1 p tc ts → 1 ≤ Ds1.length → cmpl P1 Ds1 = cmpl P Ds → fX S S1 → rSm S S1 apJ apA [] → RX l G M_Mo_complete (d + 1) 0 [some (.ref o)] [] H0 o rf c n S1 (fun v S' => v = none ∧ rdX t Ns S' (cmpl P Ds).1 (cmpl P Ds).2 p tc ts ∧ fX S S' ∧ rSm S S' apJ apA []) := by
    intro k
    induction k with
    | zero =>
      intro P1 Ds1 S1 hk hS1 hr1 hcp hf hsm h hR hX
      obtain ⟨y1, y2, y3⟩ := hS1.pl
      obtain rfl : P1 = [] := List.length_eq_zero_iff.mp (by omega)
      refine x_aload_n d_Mo_complete_0 rfl rfl ?_
      refine x_iconst (v := zI 1) d_Mo_complete_1 (by decide) ?_
      refine x_callV (As := [_]) (k := k_MarkerTextModel) rfl xcv_Mo_212_Mo (Or.inl hR.1) (RM.ap hR (r_isOnTop (by decide) y1 y2 (by omega))) rfl rfl (Nat.le_of_ble_eq_true rfl) d_Mo_complete_2 ?_
      rintro v2 h cq nq ⟨S2, hR, hX2, rfl, rfl, hE2, r2, rfl, hr2⟩
      replace hE2 := Eq.symm hE2
      subst hE2
      replace hX := hX.tr hX2
      have hr2 : r2 = 0 := hr2.elim (fun ⟨_, _, z⟩ => by cases z) (fun q => q.1)
      refine z_if_eq (tgt := 15) d_Mo_complete_5 (by decide) (by omega) (fun _ => ?_) (fun hq => by omega)
      refine x_vret d_Mo_complete_15 rfl ?_
      exact ⟨_, hR, hX, rfl, rfl, rfl, by rw [← hcp]; exact hS1, hf, hsm⟩
    | succ k ih =>
      intro P1 Ds1 S1 hk hS1 hr1 hcp hf hsm h hR hX
      obtain ⟨y1, y2, y3⟩ := hS1.pl
      by_cases htop : ∃ P', P1 = 1 :: P'
      · obtain ⟨P', rfl⟩ := htop
        match Ds1, hr1 with
        | D :: Ds', _ =>
          rw [cmpl_not] at hcp
          refine x_aload_n d_Mo_complete_0 rfl rfl ?_
          refine x_iconst (v := zI 1) d_Mo_complete_1 (by decide) ?_
          refine x_callV (As := [_]) (k := k_MarkerTextModel) rfl xcv_Mo_212_Mo (Or.inl hR.1) (RM.ap hR (r_isOnTop (by decide) y1 y2 (by omega))) rfl rfl (Nat.le_of_ble_eq_true rfl) d_Mo_complete_2 ?_
          rintro v2 h cq nq ⟨S2, hR, hX2, rfl, rfl, hE2, r2, rfl, hr2⟩
          replace hE2 := Eq.symm hE2
          subst hE2
          replace hX := hX.tr hX2
          have hr2 : r2 = 1 := hr2.elim (fun q => q.1) (fun q => absurd ⟨P', rfl⟩ q.2)
          refine z_if_eq (tgt := 15) d_Mo_complete_5 (by decide) (by omega) (fun hq => by omega) (fun _ => ?_)
          refine x_aload_n d_Mo_complete_8 rfl rfl ?_
          refine x_callV (As := []) (k := k_MarkerTextModel) rfl xcv_Mo_215_Mo (Or.inl hR.1) (RM.ap hR (r_applyX (by omega) hS1 (Or.inl ⟨rfl, by simp⟩))) rfl rfl (Nat.le_of_ble_eq_true rfl) d_Mo_complete_9 ?_
          rintro v9 h cq nq ⟨S9, hR, hX9, rfl, rfl, rfl, hS9, hf9, hsm9⟩
          replace hX := hX.tr hX9
          refine x_goto (tgt := 0) d_Mo_complete_12 (by decide) ?_
          exact ih P' (dNot D :: Ds') _ (by simp at hk; omega) hS9 (by simp) hcp (hf.tr hf9) (hsm.tr hsm9) _ hR hX
      · refine x_aload_n d_Mo_complete_0 rfl rfl ?_
        refine x_iconst (v := zI 1) d_Mo_complete_1 (by decide) ?_
        refine x_callV (As := [_]) (k := k_MarkerTextModel) rfl xcv_Mo_212_Mo (Or.inl hR.1) (RM.ap hR (r_isOnTop (by decide) y1 y2 (by omega))) rfl rfl (Nat.le_of_ble_eq_true rfl) d_Mo_complete_2 ?_
        rintro v2 h cq nq ⟨S2, hR, hX2, rfl, rfl, hE2, r2, rfl, hr2⟩
        replace hE2 := Eq.symm hE2
        subst hE2
        replace hX := hX.tr hX2
        have hr2 : r2 = 0 := hr2.elim (fun q => absurd q.2 htop) (fun q => q.1)
        refine z_if_eq (tgt := 15) d_Mo_complete_5 (by decide) (by omega) (fun _ => ?_) (fun hq => by omega)
        refine x_vret d_Mo_complete_15 rfl ?_
        rw [cmpl_no (fun P' e => htop ⟨P', e⟩)] at hcp
        exact ⟨_, hR, hX, rfl, rfl, rfl, by rw [← hcp]; exact hS1, hf, hsm⟩
  exact lp P.length P Ds S (Nat.le_refl _) hX hr rfl fX.r0 rSm.r0 _ hR xonly.rf
theorem r_openX (hd : 1 ≤ d) {t : List Nat} {Ns : List NmT} {P : List Int} {Ds : List Den} {p tc e : Nat} {ts : List TsT} {k : Int} (hX : rdX t Ns S P Ds p tc ts) (hk : (k = 4 ∧ e = 1) ∨ (k = 1 ∧ e = 3)) (he : p + e ≤ t.length) (h33 : S.1 33 ≤ 12) : RM l G d M_Mo_open [.ref o, .int (zI k), .int (zI (e : Nat))] o rf S (fun v S' => v = none ∧ fX S S' ∧ gd (S'.2.1 21) (S'.1 28) = (tc : Nat) ∧ ((S.1 33 = 12 ∧ S'.1 29 = (p : Nat) ∧ S'.1 27 = (p + e : Nat)) ∨ (S.1 33 < 12 ∧ rdX t Ns S' (k :: P) Ds (p + e) tc ts))) := by
  obtain ⟨hc, h27, h29, R, w, dn, tx, hS, hsl, rfl, htc, hts⟩ := hX
  have hs := hc.1.1
  refine (r_openE (e := (e : Int)) hd hS (by omega) (by omega) (by omega) h33).mono ?_
  rintro v S' ⟨q0, q1, q2, q3, q4⟩
  have f28 := q2.1 28 (by decide)
  have htc' : gd (S'.2.1 21) (S'.1 28) = (tc : Nat) := by rw [f28, q2.2.1 21 (by decide)]; exact htc
  refine ⟨q0, fX.sm q2 (by decide) (by decide) (by decide) (by decide) (by decide) (by decide), htc', ?_⟩
  rcases q4 with ⟨a1, a2⟩ | ⟨a1, a2⟩
  · exact Or.inl ⟨a1, by rw [a2]; exact h27.1, by omega⟩
  · exact Or.inr ⟨by omega, hc.sm q2 (by decide) (by decide), ⟨by omega, he⟩, by rw [a2]; exact h29, R, w, dn, tx, q1, by rw [f28]; exact hsl.sm q2 (by decide) (by decide) (by decide), rfl, htc', by rw [f28]; exact hts⟩
end RH3
