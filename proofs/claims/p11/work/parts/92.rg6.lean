section

end
section RG6
variable {l : Launch} {G : XG} {h : XH} {c n d : Nat} {o : Nat} {rf : Nat → Nat} {S : MS}
/-- the ENVIRONMENT, in the reference -/
def gvR (Ns : List NmT) (lv : Nat → Nat) (S : MS) : Prop := ∀ i : Nat, i < 6 → (gd (S.2.1 9) i = 0 ∧ lv i = 0) ∨ (gd (S.2.1 9) i = 1 ∧ ∃ x, Ns[i]? = some x ∧ lk x.2.1 (lv i) (gl (S.2.2.1 10) i))
/-- how give() ends, in full -/
def gvX (Ns : List NmT) (t : List Nat) (k : Int) (S : MS) : Option Value → MS → Prop := fun w S' => w = none ∧ S'.1 2 = 0 ∧ match gvl Ns t (zI k) with
  | none => S'.1 0 = 1 ∧ rSm S S' [0, 2] [] []
  | some _ => S'.1 0 = 0 ∧ rSm S S' [0, 2] [9] [10] ∧ ∃ x, Ns[k.toNat]? = some x ∧ ∃ (e : Int) (z : Int64), S'.2.1 9 = se (S.2.1 9) k e ∧ S'.2.2.1 10 = sle (S.2.2.1 10) k z ∧ ((t = [] ∧ e = 0) ∨ (t ≠ [] ∧ e = 1 ∧ klv x.2.1 t ≠ 0 ∧ z = zL (kyR x.2.1 t)))
theorem gvX.no {Ns : List NmT} {t : List Nat} {k : Int} {S' : MS} (e : gvl Ns t (zI k) = none) (h2 : S'.1 2 = 0) (h0 : S'.1 0 = 1) (hs : rSm S S' [0, 2] [] []) : gvX Ns t k S none S' := by
  unfold gvX
  rw [e]
  exact ⟨rfl, h2, h0, hs⟩
theorem klv_nil {kd : Nat} : klv kd [] = 0 := by
  unfold klv
  split
  · rfl
  · rfl
set_option maxHeartbeats 1000000 in
theorem r_giveX {t : List Nat} {Ns : List NmT} {k : Int} (hd : 3 ≤ d) (hk : inR k) (hn : nmOk S) (ht : txR t S) (hc : okTx t) (hl : t.length ≤ 160) (hN : nmR Ns S) (h6 : Ns.length ≤ 6) : RM l G d M_Mo_give [.ref o, .int (zI k)] o rf S (gvX Ns t k S) := by
  obtain ⟨d, rfl⟩ : ∃ q, d = q + 1 := ⟨d - 1, by omega⟩
  intro H0 c n hR
  obtain ⟨n1, n2, n3, n4⟩ := id hn
  have hn3' : 0 ≤ (sp S 2 0).1 3 := n1
  have hs2 := ht.1
  have hs3 := hN.1
  have hb2 : inR (S.1 2) := hR.2.2.2 2
  have ht0 : t = [] ↔ S.1 2 = 0 := by
    rw [hs2]
    cases t with
    | nil => simp
    | cons a t => simp; omega
  refine XM.of (by decide +kernel) (Nat.le_of_ble_eq_true rfl) ?_
  have hX : xonly H0 H0 RKs := xonly.rf
  by_cases hkn : 0 ≤ k ∧ k < Ns.length
  · obtain ⟨x, hx⟩ : ∃ x, Ns[k.toNat]? = some x := ⟨_, List.getElem?_eq_getElem (by omega)⟩
    obtain ⟨x1, x2, x3, x4, x5, x6⟩ := hN.2 _ x hx
    have ek : ((k.toNat : Nat) : Int) = k := by omega
    rw [ek] at x2
    have hgv : gvl Ns t (zI k) = if klv x.2.1 t = 0 ∧ ¬ t = [] then none else some (klv x.2.1 t) := by
      unfold gvl
      rw [iAt_z hk, if_neg (by omega), hx]
    have hVX : RM l G d M_Mo_isValue [.ref o, .int (zI 0), .int (zI (S.1 2)), .int (zI (gd (S.2.1 6) k))] o rf (sp S 2 0) (ivX (sp S 2 0) x.2.1 t) := by
      have := r_isValueX (l := l) (G := G) (o := o) (rf := rf) (d := d) (S := sp S 2 0) (t := t) (a := 0) (b := S.1 2) (kd := x.2.1) (by omega) x6 ht.A hc (by omega) (by omega) (by omega) hl
      rw [cut_all hs2, ← x2] at this
      exact this
    have j54 : ∀ (X : Int64) (g : Int), ((g = 1 ∧ (t = [] ∨ (klv x.2.1 t ≠ 0 ∧ X = zL (kyR x.2.1 t)))) ∨ (g = 0 ∧ klv x.2.1 t = 0 ∧ ¬ t = [])) → RX l G M_Mo_give (d + 1) 54 [some (.ref o), some (.int (zI k)), some (.int (zI (S.1 2))), none] [.int (zI g)] H0 o rf c n (sk (sp S 2 0) X) (gvX Ns t k S) := by
      intro X g hg h hR hX
      have hgb : g = 0 ∨ g = 1 := by rcases hg with ⟨q, -⟩ | ⟨q, -⟩ <;> omega
      have fin : ∀ (S' : MS) (e : Int) (z : Int64), g = 1 → S'.1 2 = 0 → S'.1 0 = 0 → rSm S S' [0, 2] [9] [10] → S'.2.1 9 = se (S.2.1 9) k e → S'.2.2.1 10 = sle (S.2.2.1 10) k z → ((S.1 2 = 0 ∧ e = 0) ∨ (¬ S.1 2 = 0 ∧ e = 1 ∧ z = X)) → gvX Ns t k S none S' := by
        intro S' e z hg1 q2 q0 qs q9 q10 qe
        have hgg : t = [] ∨ (klv x.2.1 t ≠ 0 ∧ X = zL (kyR x.2.1 t)) := by
          rcases hg with ⟨-, q⟩ | ⟨q, -⟩
          · exact q
          · omega
        unfold gvX
        rw [hgv, if_neg (fun z => hgg.elim z.2 (fun y => y.1 z.1))]
        refine ⟨rfl, q2, q0, qs, x, hx, e, z, q9, q10, ?_⟩
        rcases qe with ⟨a1, a2⟩ | ⟨a1, a2, a3⟩
        · exact Or.inl ⟨ht0.mpr a1, a2⟩
        · have hne : ¬ t = [] := fun z => a1 (ht0.mp z)
          obtain ⟨b1, b2⟩ := hgg.resolve_left hne
          exact Or.inr ⟨hne, a2, b1, by rw [a3, b2]⟩
      have finA : ∀ (S' : MS), g = 0 → S'.1 2 = 0 → S'.1 0 = 1 → rSm S S' [0, 2] [] [] → gvX Ns t k S none S' := by
        intro S' hg0 q2 q0 qs
        have hno : klv x.2.1 t = 0 ∧ ¬ t = [] := by
          rcases hg with ⟨q, -⟩ | ⟨-, q⟩
          · omega
          · exact q
        exact gvX.no (by rw [hgv, if_pos hno]) q2 q0 qs
      refine x_istore_n (L' := [_, _, _, _]) d_Mo_give_54 rfl rfl ?_
      refine x_aload_n d_Mo_give_55 rfl rfl ?_
      refine x_iload_n d_Mo_give_56 rfl ?_
      refine z_if_ne (tgt := 64) d_Mo_give_57 (by decide) (by omega) (fun hc57 => ?_) (fun hc57 => ?_)
      · refine x_iconst (v := zI 0) d_Mo_give_64 (by decide) ?_
        refine x_iconst (v := zI 0) d_Mo_give_65 (by decide) ?_
        refine x_callV (As := [_, _]) (k := k_MarkerTextModel) rfl xcv_Mo_162_Mo (Or.inl hR.1) (RM.ap hR (r_fails (by decide) (by decide))) rfl rfl (Nat.le_of_ble_eq_true rfl) d_Mo_give_66 ?_
        rintro v66 h cq nq ⟨S66, hR, hX66, rfl, rfl, t66, r66, rfl, rfl, hr66⟩
        replace hX := hX.tr hX66
        refine z_if_ne (tgt := 105) d_Mo_give_69 (by decide) (by omega) (fun hc69 => ?_) (fun hc69 => ?_)
        · refine x_vret d_Mo_give_105 rfl ?_
          refine ⟨_, hR, hX, rfl, rfl, ?_⟩
          first | (exfalso; omega) | exact finA _ (by omega) rfl (by show t66 = 1; omega) ((rSm.r0.sp (j := 2) (by decide)).sp (j := 0) (by decide)) | exact fin _ _ _ (by omega) rfl (by show t66 = 0; omega) ((((rSm.r0.sp (j := 2) (by decide)).sp (j := 0) (by decide)).sa (i := 9) (by decide)).sl (i := 10) (by decide)) rfl rfl (by first | exact Or.inl ⟨by omega, rfl⟩ | exact Or.inr ⟨by omega, rfl, rfl⟩)
        · refine x_aload_n d_Mo_give_72 rfl rfl ?_
          refine x_get xf_Mo_29_Mo (Or.inl hR.1) (v := .ref (rf 9)) rfl d_Mo_give_73 ?_
          refine x_iload_n d_Mo_give_76 rfl ?_
          refine x_iload_n d_Mo_give_77 rfl ?_
          refine z_if_le (tgt := 85) d_Mo_give_78 (by decide) (by omega) (fun hc78 => ?_) (fun hc78 => ?_)
          · refine x_iconst (v := zI 0) d_Mo_give_85 (by decide) ?_
            refine r_zast (i := 9) (us := (S.2.1 9)) rfl (by decide) hR hX rfl (by omega) (by show k < 6; omega) (by omega) d_Mo_give_86 ?_
            intro h hR hX
            refine x_aload_n d_Mo_give_87 rfl rfl ?_
            refine x_get xf_Mo_33_Mo (Or.inl hR.1) (v := .ref (rf 10)) rfl d_Mo_give_88 ?_
            refine x_iload_n d_Mo_give_91 rfl ?_
            refine x_iload_n d_Mo_give_92 rfl ?_
            refine z_if_le (tgt := 103) d_Mo_give_93 (by decide) (by omega) (fun hc93 => ?_) (fun hc93 => ?_)
            · refine x_lconst (v := 0) d_Mo_give_103 (by decide) ?_
              refine r_last (i := 10) (us := (S.2.2.1 10)) rfl (by decide) hR hX rfl (by omega) (by show k < 6; omega) d_Mo_give_104 ?_
              intro h hR hX
              refine x_vret d_Mo_give_105 rfl ?_
              refine ⟨_, hR, hX, rfl, rfl, ?_⟩
              first | (exfalso; omega) | exact finA _ (by omega) rfl (by show t66 = 1; omega) ((rSm.r0.sp (j := 2) (by decide)).sp (j := 0) (by decide)) | exact fin _ _ _ (by omega) rfl (by show t66 = 0; omega) ((((rSm.r0.sp (j := 2) (by decide)).sp (j := 0) (by decide)).sa (i := 9) (by decide)).sl (i := 10) (by decide)) rfl rfl (by first | exact Or.inl ⟨by omega, rfl⟩ | exact Or.inr ⟨by omega, rfl, rfl⟩)
            · refine x_aload_n d_Mo_give_96 rfl rfl ?_
              refine x_get xf_Mo_173_Mo (Or.inl hR.1) (v := .long X) rfl d_Mo_give_97 ?_
              refine x_goto (tgt := 104) d_Mo_give_100 (by decide) ?_
              refine r_last (i := 10) (us := (S.2.2.1 10)) rfl (by decide) hR hX rfl (by omega) (by show k < 6; omega) d_Mo_give_104 ?_
              intro h hR hX
              refine x_vret d_Mo_give_105 rfl ?_
              refine ⟨_, hR, hX, rfl, rfl, ?_⟩
              first | (exfalso; omega) | exact finA _ (by omega) rfl (by show t66 = 1; omega) ((rSm.r0.sp (j := 2) (by decide)).sp (j := 0) (by decide)) | exact fin _ _ _ (by omega) rfl (by show t66 = 0; omega) ((((rSm.r0.sp (j := 2) (by decide)).sp (j := 0) (by decide)).sa (i := 9) (by decide)).sl (i := 10) (by decide)) rfl rfl (by first | exact Or.inl ⟨by omega, rfl⟩ | exact Or.inr ⟨by omega, rfl, rfl⟩)
          · refine x_iconst (v := zI 1) d_Mo_give_81 (by decide) ?_
            refine x_goto (tgt := 86) d_Mo_give_82 (by decide) ?_
            refine r_zast (i := 9) (us := (S.2.1 9)) rfl (by decide) hR hX rfl (by omega) (by show k < 6; omega) (by omega) d_Mo_give_86 ?_
            intro h hR hX
            refine x_aload_n d_Mo_give_87 rfl rfl ?_
            refine x_get xf_Mo_33_Mo (Or.inl hR.1) (v := .ref (rf 10)) rfl d_Mo_give_88 ?_
            refine x_iload_n d_Mo_give_91 rfl ?_
            refine x_iload_n d_Mo_give_92 rfl ?_
            refine z_if_le (tgt := 103) d_Mo_give_93 (by decide) (by omega) (fun hc93 => ?_) (fun hc93 => ?_)
            · refine x_lconst (v := 0) d_Mo_give_103 (by decide) ?_
              refine r_last (i := 10) (us := (S.2.2.1 10)) rfl (by decide) hR hX rfl (by omega) (by show k < 6; omega) d_Mo_give_104 ?_
              intro h hR hX
              refine x_vret d_Mo_give_105 rfl ?_
              refine ⟨_, hR, hX, rfl, rfl, ?_⟩
              first | (exfalso; omega) | exact finA _ (by omega) rfl (by show t66 = 1; omega) ((rSm.r0.sp (j := 2) (by decide)).sp (j := 0) (by decide)) | exact fin _ _ _ (by omega) rfl (by show t66 = 0; omega) ((((rSm.r0.sp (j := 2) (by decide)).sp (j := 0) (by decide)).sa (i := 9) (by decide)).sl (i := 10) (by decide)) rfl rfl (by first | exact Or.inl ⟨by omega, rfl⟩ | exact Or.inr ⟨by omega, rfl, rfl⟩)
            · refine x_aload_n d_Mo_give_96 rfl rfl ?_
              refine x_get xf_Mo_173_Mo (Or.inl hR.1) (v := .long X) rfl d_Mo_give_97 ?_
              refine x_goto (tgt := 104) d_Mo_give_100 (by decide) ?_
              refine r_last (i := 10) (us := (S.2.2.1 10)) rfl (by decide) hR hX rfl (by omega) (by show k < 6; omega) d_Mo_give_104 ?_
              intro h hR hX
              refine x_vret d_Mo_give_105 rfl ?_
              refine ⟨_, hR, hX, rfl, rfl, ?_⟩
              first | (exfalso; omega) | exact finA _ (by omega) rfl (by show t66 = 1; omega) ((rSm.r0.sp (j := 2) (by decide)).sp (j := 0) (by decide)) | exact fin _ _ _ (by omega) rfl (by show t66 = 0; omega) ((((rSm.r0.sp (j := 2) (by decide)).sp (j := 0) (by decide)).sa (i := 9) (by decide)).sl (i := 10) (by decide)) rfl rfl (by first | exact Or.inl ⟨by omega, rfl⟩ | exact Or.inr ⟨by omega, rfl, rfl⟩)
      · refine x_iconst (v := zI 1) d_Mo_give_60 (by decide) ?_
        refine x_goto (tgt := 65) d_Mo_give_61 (by decide) ?_
        refine x_iconst (v := zI 0) d_Mo_give_65 (by decide) ?_
        refine x_callV (As := [_, _]) (k := k_MarkerTextModel) rfl xcv_Mo_162_Mo (Or.inl hR.1) (RM.ap hR (r_fails (by decide) (by decide))) rfl rfl (Nat.le_of_ble_eq_true rfl) d_Mo_give_66 ?_
        rintro v66 h cq nq ⟨S66, hR, hX66, rfl, rfl, t66, r66, rfl, rfl, hr66⟩
        replace hX := hX.tr hX66
        refine z_if_ne (tgt := 105) d_Mo_give_69 (by decide) (by omega) (fun hc69 => ?_) (fun hc69 => ?_)
        · refine x_vret d_Mo_give_105 rfl ?_
          refine ⟨_, hR, hX, rfl, rfl, ?_⟩
          first | (exfalso; omega) | exact finA _ (by omega) rfl (by show t66 = 1; omega) ((rSm.r0.sp (j := 2) (by decide)).sp (j := 0) (by decide)) | exact fin _ _ _ (by omega) rfl (by show t66 = 0; omega) ((((rSm.r0.sp (j := 2) (by decide)).sp (j := 0) (by decide)).sa (i := 9) (by decide)).sl (i := 10) (by decide)) rfl rfl (by first | exact Or.inl ⟨by omega, rfl⟩ | exact Or.inr ⟨by omega, rfl, rfl⟩)
        · refine x_aload_n d_Mo_give_72 rfl rfl ?_
          refine x_get xf_Mo_29_Mo (Or.inl hR.1) (v := .ref (rf 9)) rfl d_Mo_give_73 ?_
          refine x_iload_n d_Mo_give_76 rfl ?_
          refine x_iload_n d_Mo_give_77 rfl ?_
          refine z_if_le (tgt := 85) d_Mo_give_78 (by decide) (by omega) (fun hc78 => ?_) (fun hc78 => ?_)
          · refine x_iconst (v := zI 0) d_Mo_give_85 (by decide) ?_
            refine r_zast (i := 9) (us := (S.2.1 9)) rfl (by decide) hR hX rfl (by omega) (by show k < 6; omega) (by omega) d_Mo_give_86 ?_
            intro h hR hX
            refine x_aload_n d_Mo_give_87 rfl rfl ?_
            refine x_get xf_Mo_33_Mo (Or.inl hR.1) (v := .ref (rf 10)) rfl d_Mo_give_88 ?_
            refine x_iload_n d_Mo_give_91 rfl ?_
            refine x_iload_n d_Mo_give_92 rfl ?_
            refine z_if_le (tgt := 103) d_Mo_give_93 (by decide) (by omega) (fun hc93 => ?_) (fun hc93 => ?_)
            · refine x_lconst (v := 0) d_Mo_give_103 (by decide) ?_
              refine r_last (i := 10) (us := (S.2.2.1 10)) rfl (by decide) hR hX rfl (by omega) (by show k < 6; omega) d_Mo_give_104 ?_
              intro h hR hX
              refine x_vret d_Mo_give_105 rfl ?_
              refine ⟨_, hR, hX, rfl, rfl, ?_⟩
              first | (exfalso; omega) | exact finA _ (by omega) rfl (by show t66 = 1; omega) ((rSm.r0.sp (j := 2) (by decide)).sp (j := 0) (by decide)) | exact fin _ _ _ (by omega) rfl (by show t66 = 0; omega) ((((rSm.r0.sp (j := 2) (by decide)).sp (j := 0) (by decide)).sa (i := 9) (by decide)).sl (i := 10) (by decide)) rfl rfl (by first | exact Or.inl ⟨by omega, rfl⟩ | exact Or.inr ⟨by omega, rfl, rfl⟩)
            · refine x_aload_n d_Mo_give_96 rfl rfl ?_
              refine x_get xf_Mo_173_Mo (Or.inl hR.1) (v := .long X) rfl d_Mo_give_97 ?_
              refine x_goto (tgt := 104) d_Mo_give_100 (by decide) ?_
              refine r_last (i := 10) (us := (S.2.2.1 10)) rfl (by decide) hR hX rfl (by omega) (by show k < 6; omega) d_Mo_give_104 ?_
              intro h hR hX
              refine x_vret d_Mo_give_105 rfl ?_
              refine ⟨_, hR, hX, rfl, rfl, ?_⟩
              first | (exfalso; omega) | exact finA _ (by omega) rfl (by show t66 = 1; omega) ((rSm.r0.sp (j := 2) (by decide)).sp (j := 0) (by decide)) | exact fin _ _ _ (by omega) rfl (by show t66 = 0; omega) ((((rSm.r0.sp (j := 2) (by decide)).sp (j := 0) (by decide)).sa (i := 9) (by decide)).sl (i := 10) (by decide)) rfl rfl (by first | exact Or.inl ⟨by omega, rfl⟩ | exact Or.inr ⟨by omega, rfl, rfl⟩)
          · refine x_iconst (v := zI 1) d_Mo_give_81 (by decide) ?_
            refine x_goto (tgt := 86) d_Mo_give_82 (by decide) ?_
            refine r_zast (i := 9) (us := (S.2.1 9)) rfl (by decide) hR hX rfl (by omega) (by show k < 6; omega) (by omega) d_Mo_give_86 ?_
            intro h hR hX
            refine x_aload_n d_Mo_give_87 rfl rfl ?_
            refine x_get xf_Mo_33_Mo (Or.inl hR.1) (v := .ref (rf 10)) rfl d_Mo_give_88 ?_
            refine x_iload_n d_Mo_give_91 rfl ?_
            refine x_iload_n d_Mo_give_92 rfl ?_
            refine z_if_le (tgt := 103) d_Mo_give_93 (by decide) (by omega) (fun hc93 => ?_) (fun hc93 => ?_)
            · refine x_lconst (v := 0) d_Mo_give_103 (by decide) ?_
              refine r_last (i := 10) (us := (S.2.2.1 10)) rfl (by decide) hR hX rfl (by omega) (by show k < 6; omega) d_Mo_give_104 ?_
              intro h hR hX
              refine x_vret d_Mo_give_105 rfl ?_
              refine ⟨_, hR, hX, rfl, rfl, ?_⟩
              first | (exfalso; omega) | exact finA _ (by omega) rfl (by show t66 = 1; omega) ((rSm.r0.sp (j := 2) (by decide)).sp (j := 0) (by decide)) | exact fin _ _ _ (by omega) rfl (by show t66 = 0; omega) ((((rSm.r0.sp (j := 2) (by decide)).sp (j := 0) (by decide)).sa (i := 9) (by decide)).sl (i := 10) (by decide)) rfl rfl (by first | exact Or.inl ⟨by omega, rfl⟩ | exact Or.inr ⟨by omega, rfl, rfl⟩)
            · refine x_aload_n d_Mo_give_96 rfl rfl ?_
              refine x_get xf_Mo_173_Mo (Or.inl hR.1) (v := .long X) rfl d_Mo_give_97 ?_
              refine x_goto (tgt := 104) d_Mo_give_100 (by decide) ?_
              refine r_last (i := 10) (us := (S.2.2.1 10)) rfl (by decide) hR hX rfl (by omega) (by show k < 6; omega) d_Mo_give_104 ?_
              intro h hR hX
              refine x_vret d_Mo_give_105 rfl ?_
              refine ⟨_, hR, hX, rfl, rfl, ?_⟩
              first | (exfalso; omega) | exact finA _ (by omega) rfl (by show t66 = 1; omega) ((rSm.r0.sp (j := 2) (by decide)).sp (j := 0) (by decide)) | exact fin _ _ _ (by omega) rfl (by show t66 = 0; omega) ((((rSm.r0.sp (j := 2) (by decide)).sp (j := 0) (by decide)).sa (i := 9) (by decide)).sl (i := 10) (by decide)) rfl rfl (by first | exact Or.inl ⟨by omega, rfl⟩ | exact Or.inr ⟨by omega, rfl, rfl⟩)
    refine x_aload_n d_Mo_give_0 rfl rfl ?_
    refine x_get xf_Mo_124_Mo (Or.inl hR.1) (v := .int (zI (S.1 2))) rfl d_Mo_give_1 ?_
    have hb1 : inR (S.1 2) := hR.2.2.2 2
    refine x_istore_n (L' := [_, _, _, _]) d_Mo_give_4 rfl rfl ?_
    refine x_aload_n d_Mo_give_5 rfl rfl ?_
    refine x_iconst (v := zI 0) d_Mo_give_6 (by decide) ?_
    refine r_put xf_Mo_124_Mo xp_Mo_2 hR hX (by omega) rfl rfl d_Mo_give_7 ?_
    intro h hR hX
    refine x_aload_n d_Mo_give_10 rfl rfl ?_
    refine x_iload_n d_Mo_give_11 rfl ?_
    refine x_callV (As := [_]) (k := k_MarkerTextModel) rfl xcv_Mo_184_Mo (Or.inl hR.1) (RM.ap hR (r_isName (by omega) hk hn3')) rfl rfl (Nat.le_of_ble_eq_true rfl) d_Mo_give_12 ?_
    rintro v12 h cq nq ⟨S12, hR, hX12, rfl, rfl, hE12, r12, rfl, hr12⟩
    replace hE12 := Eq.symm hE12
    subst hE12
    replace hX := hX.tr hX12
    replace hr12 : (r12 = 1 ∧ (0 ≤ k ∧ k ≤ S.1 3 - 1)) ∨ (r12 = 0 ∧ ¬ (0 ≤ k ∧ k ≤ S.1 3 - 1)) := hr12
    refine z_if_eq (tgt := 53) d_Mo_give_15 (by decide) (by omega) (fun hq => by omega) (fun _ => ?_)
    refine x_iload_n d_Mo_give_18 rfl ?_
    refine z_if_eq (tgt := 49) d_Mo_give_19 (by decide) (by omega) (fun hc19 => ?_) (fun hc19 => ?_)
    · refine x_iconst (v := zI 1) d_Mo_give_49 (by decide) ?_
      refine x_goto (tgt := 54) d_Mo_give_50 (by decide) ?_
      first | exact j54 S.2.2.2 1 (Or.inl ⟨rfl, Or.inl (ht0.mpr (by omega))⟩) _ hR hX | exact j54 _ _ (hr43.elim (fun ⟨q1, q2, q3⟩ => by first | (exfalso; omega) | exact Or.inl ⟨rfl, Or.inr ⟨q2, q3⟩⟩) (fun ⟨q1, q2⟩ => by first | (exfalso; omega) | exact Or.inr ⟨rfl, q2, fun z => by have := ht0.mp z; omega⟩)) _ hR hX
    · refine x_aload_n d_Mo_give_22 rfl rfl ?_
      refine x_iconst (v := zI 0) d_Mo_give_23 (by decide) ?_
      refine x_iload_n d_Mo_give_24 rfl ?_
      refine x_aload_n d_Mo_give_25 rfl rfl ?_
      refine x_get xf_Mo_19_Mo (Or.inl hR.1) (v := .ref (rf 6)) rfl d_Mo_give_26 ?_
      refine x_aload_n d_Mo_give_29 rfl rfl ?_
      refine x_iload_n d_Mo_give_30 rfl ?_
      refine x_callV (As := [_]) (k := k_MarkerTextModel) rfl xcv_Mo_184_Mo (Or.inl hR.1) (RM.ap hR (r_isName (by omega) hk hn3')) rfl rfl (Nat.le_of_ble_eq_true rfl) d_Mo_give_31 ?_
      rintro v31 h cq nq ⟨S31, hR, hX31, rfl, rfl, hE31, r31, rfl, hr31⟩
      replace hE31 := Eq.symm hE31
      subst hE31
      replace hX := hX.tr hX31
      replace hr31 : (r31 = 1 ∧ (0 ≤ k ∧ k ≤ S.1 3 - 1)) ∨ (r31 = 0 ∧ ¬ (0 ≤ k ∧ k ≤ S.1 3 - 1)) := hr31
      refine z_if_eq (tgt := 41) d_Mo_give_34 (by decide) (by omega) (fun hq => by omega) (fun _ => ?_)
      refine x_iload_n d_Mo_give_37 rfl ?_
      refine x_goto (tgt := 42) d_Mo_give_38 (by decide) ?_
      refine r_iald (i := 6) (us := (S.2.1 6)) rfl (by decide) hR rfl (by omega) (by show k < 6; omega) d_Mo_give_42 (fun hr42 => ?_)
      refine x_callV (As := [_, _, _]) (k := k_MarkerTextModel) rfl xcv_Mo_187_Mo (Or.inl hR.1) (RM.ap hR hVX) rfl rfl (Nat.le_of_ble_eq_true rfl) d_Mo_give_43 ?_
      rintro v43 h cq nq ⟨S43, hR, hX43, rfl, rfl, x43, r43, rfl, rfl, hr43⟩
      replace hX := hX.tr hX43
      refine z_if_eq (tgt := 53) d_Mo_give_46 (by decide) (by omega) (fun hc46 => ?_) (fun hc46 => ?_)
      · refine x_iconst (v := zI 0) d_Mo_give_53 (by decide) ?_
        first | exact j54 S.2.2.2 1 (Or.inl ⟨rfl, Or.inl (ht0.mpr (by omega))⟩) _ hR hX | exact j54 _ _ (hr43.elim (fun ⟨q1, q2, q3⟩ => by first | (exfalso; omega) | exact Or.inl ⟨rfl, Or.inr ⟨q2, q3⟩⟩) (fun ⟨q1, q2⟩ => by first | (exfalso; omega) | exact Or.inr ⟨rfl, q2, fun z => by have := ht0.mp z; omega⟩)) _ hR hX
      · refine x_iconst (v := zI 1) d_Mo_give_49 (by decide) ?_
        refine x_goto (tgt := 54) d_Mo_give_50 (by decide) ?_
        first | exact j54 S.2.2.2 1 (Or.inl ⟨rfl, Or.inl (ht0.mpr (by omega))⟩) _ hR hX | exact j54 _ _ (hr43.elim (fun ⟨q1, q2, q3⟩ => by first | (exfalso; omega) | exact Or.inl ⟨rfl, Or.inr ⟨q2, q3⟩⟩) (fun ⟨q1, q2⟩ => by first | (exfalso; omega) | exact Or.inr ⟨rfl, q2, fun z => by have := ht0.mp z; omega⟩)) _ hR hX
  · have hgv : gvl Ns t (zI k) = none := by
      unfold gvl
      rw [iAt_z hk]
      by_cases h0 : k < 0
      · rw [if_pos h0]
      · rw [if_neg h0, List.getElem?_eq_none (by omega)]
    refine x_aload_n d_Mo_give_0 rfl rfl ?_
    refine x_get xf_Mo_124_Mo (Or.inl hR.1) (v := .int (zI (S.1 2))) rfl d_Mo_give_1 ?_
    have hb1 : inR (S.1 2) := hR.2.2.2 2
    refine x_istore_n (L' := [_, _, _, _]) d_Mo_give_4 rfl rfl ?_
    refine x_aload_n d_Mo_give_5 rfl rfl ?_
    refine x_iconst (v := zI 0) d_Mo_give_6 (by decide) ?_
    refine r_put xf_Mo_124_Mo xp_Mo_2 hR hX (by omega) rfl rfl d_Mo_give_7 ?_
    intro h hR hX
    refine x_aload_n d_Mo_give_10 rfl rfl ?_
    refine x_iload_n d_Mo_give_11 rfl ?_
    refine x_callV (As := [_]) (k := k_MarkerTextModel) rfl xcv_Mo_184_Mo (Or.inl hR.1) (RM.ap hR (r_isName (by omega) hk hn3')) rfl rfl (Nat.le_of_ble_eq_true rfl) d_Mo_give_12 ?_
    rintro v12 h cq nq ⟨S12, hR, hX12, rfl, rfl, hE12, r12, rfl, hr12⟩
    replace hE12 := Eq.symm hE12
    subst hE12
    replace hX := hX.tr hX12
    replace hr12 : (r12 = 1 ∧ (0 ≤ k ∧ k ≤ S.1 3 - 1)) ∨ (r12 = 0 ∧ ¬ (0 ≤ k ∧ k ≤ S.1 3 - 1)) := hr12
    refine z_if_eq (tgt := 53) d_Mo_give_15 (by decide) (by omega) (fun _ => ?_) (fun hq => by omega)
    refine x_iconst (v := zI 0) d_Mo_give_53 (by decide) ?_
    refine x_istore_n (L' := [_, _, _, _]) d_Mo_give_54 rfl rfl ?_
    refine x_aload_n d_Mo_give_55 rfl rfl ?_
    refine x_iload_n d_Mo_give_56 rfl ?_
    refine z_if_ne (tgt := 64) d_Mo_give_57 (by decide) (by omega) (fun hq => by omega) (fun _ => ?_)
    refine x_iconst (v := zI 1) d_Mo_give_60 (by decide) ?_
    refine x_goto (tgt := 65) d_Mo_give_61 (by decide) ?_
    refine x_iconst (v := zI 0) d_Mo_give_65 (by decide) ?_
    refine x_callV (As := [_, _]) (k := k_MarkerTextModel) rfl xcv_Mo_162_Mo (Or.inl hR.1) (RM.ap hR (r_fails (by decide) (by decide))) rfl rfl (Nat.le_of_ble_eq_true rfl) d_Mo_give_66 ?_
    rintro v66 h cq nq ⟨S66, hR, hX66, rfl, rfl, t66, r66, rfl, rfl, hr66⟩
    replace hX := hX.tr hX66
    refine z_if_ne (tgt := 105) d_Mo_give_69 (by decide) (by omega) (fun _ => ?_) (fun hq => by omega)
    refine x_vret d_Mo_give_105 rfl ?_
    exact ⟨_, hR, hX, rfl, rfl, gvX.no hgv rfl (by show t66 = 1; omega) ((rSm.r0.sp (j := 2) (by decide)).sp (j := 0) (by decide))⟩
/-- what give() leaves of the ENVIRONMENT -/
theorem gvR.set {S' : MS} {Ns : List NmT} {lv : Nat → Nat} {t : List Nat} {k e : Int} {z : Int64} {x : NmT} (hV : gvR Ns lv S) (h0 : 0 ≤ k) (h6 : Ns.length ≤ 6) (hx : Ns[k.toNat]? = some x) (hc : okTx t) (l9 : (S.2.1 9).length = 6) (l10 : (S.2.2.1 10).length = 6) (e9 : S'.2.1 9 = se (S.2.1 9) k e) (e10 : S'.2.2.1 10 = sle (S.2.2.1 10) k z) (hz : (t = [] ∧ e = 0) ∨ (t ≠ [] ∧ e = 1 ∧ klv x.2.1 t ≠ 0 ∧ z = zL (kyR x.2.1 t))) : gvR Ns (lvSet lv k.toNat (klv x.2.1 t)) S' := by
  have hkl := (List.getElem?_eq_some_iff.mp hx).1
  intro i hi
  rw [e9, e10, gd_se_of l9 h0 (by omega) (by omega), gl_sle l10 h0 (by omega) (by omega)]
  unfold lvSet
  by_cases hik : i = k.toNat
  · simp only [if_pos (show (i : Int) = k by omega), if_pos hik]
    rcases hz with ⟨rfl, rfl⟩ | ⟨h1, rfl, h3, rfl⟩
    · exact Or.inl ⟨rfl, klv_nil⟩
    · exact Or.inr ⟨rfl, x, by rw [hik]; exact hx, lk.of hc h3⟩
  · simp only [if_neg (show ¬ (i : Int) = k by omega), if_neg hik]
    exact hV i hi
end RG6
