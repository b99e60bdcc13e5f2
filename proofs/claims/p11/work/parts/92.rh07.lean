section

end
section RH7
variable {l : Launch} {G : XG} {h : XH} {c n d : Nat} {o : Nat} {rf : Nat → Nat} {S : MS}
theorem fm_congr {α β : Type} {f g : α → Option β} : ∀ {xs : List α}, (∀ a ∈ xs, f a = g a) → xs.filterMap f = xs.filterMap g := by
  intro xs
  induction xs with
  | nil => intro _; rfl
  | cons a xs ih =>
    intro h
    rw [List.filterMap_cons, List.filterMap_cons, h a List.mem_cons_self, ih (fun b hb => h b (List.mem_cons_of_mem _ hb))]
theorem tsF_next {s : Int} {tx : Int → Option TsT} {tc : Nat} {y : Option TsT} {q0 : Int} (hq : q0 = 40 * s + (tc : Nat)) : tsF s (fun q => if q = q0 then y else tx q) (tc + 1) = tsF s tx tc ++ y.toList := by
  unfold tsF
  rw [List.range_succ, List.filterMap_append]
  congr 1
  · apply fm_congr
    intro i hi
    rw [List.mem_range] at hi
    show (if 40 * s + (i : Int) = q0 then y else tx (40 * s + i)) = _
    rw [if_neg (by omega)]
  · show [tc].filterMap (fun i => if 40 * s + ((i : Nat) : Int) = q0 then y else tx (40 * s + i)) = _
    cases y with
    | none => simp [hq]
    | some x => simp [hq]
theorem r_addTestX (hd : 3 ≤ d) {t : List Nat} {Ns : List NmT} {P R : List Int} {w : Int → Int} {dn : Int → Den} {tx : Int → Option TsT} {nm op f : Int} {p tc : Nat} {y : Option TsT} {D : Den} (hc : cx t Ns S) (h27 : S.1 27 = (p : Nat) ∧ p ≤ t.length) (h29 : S.1 29 = -1) (hS : rdOk S P R w) (hsl : slR Ns S (S.1 28) dn tx) (htc : gd (S.2.1 21) (S.1 28) = (tc : Nat)) (hT : gd (S.2.1 21) (S.1 28) < 40) (hop : 0 ≤ op ∧ op ≤ 8) (hnr : inR nm) (hnm : op ≤ 6 → 0 ≤ nm ∧ nm < 6) (hf : 64 * S.1 28 ≤ f ∧ f ≤ vnN S) (hop6 : 6 < op → f = vnN S) (hsm : sm (gd (S.2.1 20)) (40 * S.1 28) (gd (S.2.1 21) (S.1 28)).toNat ≤ f - 64 * S.1 28) (hdj : ∀ q : Int, 40 * S.1 28 ≤ q → q < 40 * S.1 28 + gd (S.2.1 21) (S.1 28) → gd (S.2.1 19) q + gd (S.2.1 20) q ≤ f) (h15 : 2 * (gd (S.2.1 15) (S.1 28) + 1 + cnt 1 P + cnt 2 P + cnt 3 P) ≤ S.1 27) (h17 : 2 * (wsm w R + tsU S op f + 7 * cnt 1 P + 10 * cnt 2 P + 7 * cnt 3 P) ≤ 7 * S.1 27) (hy : tsL Ns (ts5 S nm op f) (S.1 28) (fun q => if q = tnN S then y else tx q) (tnN S)) (hD : (y = none ∧ D = dCon (decide (op = 7))) ∨ ∃ x, y = some x ∧ D = dTst x) : RM l G d M_Mo_addTest [.ref o, .int (zI nm), .int (zI op), .int (zI f)] o rf S (fun v S' => v = none ∧ rdX t Ns S' (cmpl P (D :: R.map dn)).1 (cmpl P (D :: R.map dn)).2 p (tc + 1) (tsF (S.1 28) tx tc ++ y.toList) ∧ fX S S') := by
  obtain ⟨d, rfl⟩ : ∃ q, d = q + 1 := ⟨d - 1, by omega⟩
  intro H0 c n hR
  refine XM.of (by decide +kernel) (Nat.le_of_ble_eq_true rfl) ?_
  have hX : xonly H0 H0 RKs := xonly.rf
  obtain ⟨s1, s2, s3, s4, ⟨s5, s6, s7⟩, ⟨s8, s9⟩, ⟨s10, s11, s12⟩, ⟨s13, s13b⟩, s14, s15, s16, s17⟩ := id hS
  obtain ⟨p1, p2, p3, p4, p5, p6, -⟩ := id s14
  obtain ⟨z1, z2⟩ := id s1
  have c1 := cnt_nn 1 P
  have c2 := cnt_nn 2 P
  have c3 := cnt_nn 3 P
  have hN1 : gd (S.2.1 15) (S.1 28) < 128 := by omega
  have hx1 : nxN S = 128 * S.1 28 + gd (S.2.1 15) (S.1 28) := rfl
  have hx2 : tnN S = 40 * S.1 28 + gd (S.2.1 21) (S.1 28) := rfl
  have hx3 : vnN S = 64 * S.1 28 + gd (S.2.1 26) (S.1 28) := rfl
  have l12 : _ = 1152 := hR.len 12 (by decide)
  have l13 : _ = 1152 := hR.len 13 (by decide)
  have l14 : _ = 1152 := hR.len 14 (by decide)
  have l15 : _ = 9 := hR.len 15 (by decide)
  have l34 : _ = 80 := hR.len 34 (by decide)
  have l17 : _ = 360 := hR.len 17 (by decide)
  have l18 : _ = 360 := hR.len 18 (by decide)
  have l19 : _ = 360 := hR.len 19 (by decide)
  have l20 : _ = 360 := hR.len 20 (by decide)
  have l21 : _ = 9 := hR.len 21 (by decide)
  have hrs0 : rSm S (tsN S nm op f) [35] [12, 13, 14, 15, 17, 18, 19, 20, 21, 34] [] := ((((((((((rSm.r0.sa (by decide)).sa (by decide)).sa (by decide)).sa (by decide)).sa (by decide)).sa (by decide)).sa (by decide)).sa (by decide)).sa (by decide)).sa (by decide)).sp (by decide)
  have hrs : rSm S (tsN S nm op f) [32, 33, 35] [12, 13, 14, 15, 17, 18, 19, 20, 21, 34] [] := hrs0.mono (by decide) (by decide) (by decide)
  obtain ⟨w1, hS1⟩ : ∃ w', rdOk (tsN S nm op f) P (nxN S :: R) w' := rd_test (nm := nm) (op := op) (f := f) (U := tsU S op f) hS hT l12 l13 l14 l15 l34 l17 l18 l19 l20 l21 hrs0 (by decide) (by decide) hop hnm hf hop6 hsm rfl rfl rfl rfl rfl rfl rfl rfl rfl rfl rfl rfl h15 h17
  have hag : agO S (tsN S nm op f) (S.1 28) := fun cc h1 h2 => by
    have a17 := agr_se (S := S) (c := cc) (i := 17) (e := tnN S) (z := nm) (N := 360) l17 (by omega) (by omega) rfl h1 (Or.inr (Or.inl ⟨by decide, by omega⟩))
    have a18 := agr_se (S := sa S 17 (se (S.2.1 17) (tnN S) nm)) (c := cc) (i := 18) (e := tnN S) (z := op) (N := 360) l18 (by omega) (by omega) rfl h1 (Or.inr (Or.inl ⟨by decide, by omega⟩))
    have a19 := agr_se (S := sa (sa S 17 (se (S.2.1 17) (tnN S) nm)) 18 (se (S.2.1 18) (tnN S) op)) (c := cc) (i := 19) (e := tnN S) (z := f) (N := 360) l19 (by omega) (by omega) rfl h1 (Or.inr (Or.inl ⟨by decide, by omega⟩))
    have a20 := agr_se (S := sa (sa (sa S 17 (se (S.2.1 17) (tnN S) nm)) 18 (se (S.2.1 18) (tnN S) op)) 19 (se (S.2.1 19) (tnN S) f)) (c := cc) (i := 20) (e := tnN S) (z := vnN S - f) (N := 360) l20 (by omega) (by omega) rfl h1 (Or.inr (Or.inl ⟨by decide, by omega⟩))
    have a21 := agr_se (S := sa (sa (sa (sa S 17 (se (S.2.1 17) (tnN S) nm)) 18 (se (S.2.1 18) (tnN S) op)) 19 (se (S.2.1 19) (tnN S) f)) 20 (se (S.2.1 20) (tnN S) (vnN S - f))) (c := cc) (i := 21) (e := S.1 28) (z := gd (S.2.1 21) (S.1 28) + 1) (N := 9) l21 (by omega) (by omega) rfl h1 (Or.inr (Or.inr (Or.inr ⟨by decide, fun z => h2 z.symm⟩)))
    have aN := agO_adN (S := ts5 S nm op f) (k := 0) (a := tnN S) (b := -1) l12 l13 l14 l15 s3 ⟨p1, hN1⟩ cc h1 h2
    have aE : agr (adN (ts5 S nm op f) 0 (tnN S) (-1)) (tsN S nm op f) cc := agr.sm (((rSm.r0 (js := [35]) (is := [34]) (ls := [])).sa (i := 34) (by decide)).sp (j := 35) (by decide)) (by decide)
    exact ((((a17.tr a18).tr a19).tr a20).tr a21).tr (aN.tr aE)
  have ht1 : gd ((tsN S nm op f).2.1 21) (S.1 28) = gd (S.2.1 21) (S.1 28) + 1 := by
    show gd (se (S.2.1 21) (S.1 28) (gd (S.2.1 21) (S.1 28) + 1)) (S.1 28) = _
    rw [gd_se_of l21 (by omega) (by omega) (by omega), if_pos rfl]
  have hx2' : tnN S = 40 * S.1 28 + (tc : Nat) := by rw [hx2, htc]
  have g18 : gd ((ts5 S nm op f).2.1 18) (tnN S) = op := by
    show gd (se (S.2.1 18) (tnN S) op) (tnN S) = op
    rw [gd_se_of l18 (by omega) (by omega) (by omega), if_pos rfl]
  have sl1 : slR Ns (ts5 S nm op f) (S.1 28) dn (fun q => if q = tnN S then y else tx q) := hsl.test hT l17 l18 l19 l20 l21 rfl rfl rfl rfl rfl (fun i hi => by
    rcases List.mem_cons.mp hi with rfl | hi
    · rfl
    rcases List.mem_cons.mp hi with rfl | hi
    · rfl
    rcases List.mem_cons.mp hi with rfl | hi
    · rfl
    rcases List.mem_cons.mp hi with rfl | hi
    · rfl
    rcases List.mem_cons.mp hi with rfl | hi
    · rfl
    rcases List.mem_cons.mp hi with rfl | hi
    · rfl
    rcases List.mem_cons.mp hi with rfl | hi
    · rfl
    · cases hi) rfl hdj hy
  have ht5 : gd ((ts5 S nm op f).2.1 21) (S.1 28) = gd (S.2.1 21) (S.1 28) + 1 := ht1
  have sl2 : slR Ns (adN (ts5 S nm op f) 0 (tnN S) (-1)) (S.1 28) (fun q => if q = nxN S then D else dn q) (fun q => if q = tnN S then y else tx q) := slR.node (S := ts5 S nm op f) (k := 0) (a := tnN S) (b := -1) (D := D) sl1 hN1 l12 l13 l14 l15 rfl rfl rfl rfl (fun i hi => by
    rcases List.mem_cons.mp hi with rfl | hi
    · rfl
    rcases List.mem_cons.mp hi with rfl | hi
    · rfl
    rcases List.mem_cons.mp hi with rfl | hi
    · rfl
    rcases List.mem_cons.mp hi with rfl | hi
    · rfl
    rcases List.mem_cons.mp hi with rfl | hi
    · rfl
    rcases List.mem_cons.mp hi with rfl | hi
    · rfl
    rcases List.mem_cons.mp hi with rfl | hi
    · rfl
    rcases List.mem_cons.mp hi with rfl | hi
    · rfl
    · cases hi) rfl (Or.inl ⟨rfl, by rw [ht5]; omega, by
      rw [g18]
      simp only [if_true]
      exact hD⟩)
  have sl3 : slR Ns (tsN S nm op f) (S.1 28) (fun q => if q = nxN S then D else dn q) (fun q => if q = tnN S then y else tx q) := sl2.sm (((rSm.r0 (js := [35]) (is := [34]) (ls := [])).sa (i := 34) (by decide)).sp (j := 35) (by decide)) (by decide) (by decide) (by decide)
  have hfx : fX S (tsN S nm op f) := ⟨hrs.mono (by decide) (by decide) (by decide), aOX.of hag hrs (by decide) (by decide)⟩
  have hXN : rdX t Ns (tsN S nm op f) P (D :: R.map dn) p (tc + 1) (tsF (S.1 28) tx tc ++ y.toList) := by
    refine ⟨hfx.cx hc, h27, h29, nxN S :: R, w1, _, _, hS1, sl3, ?_, by rw [show (tsN S nm op f).1 28 = S.1 28 from rfl, ht1, htc]; rfl, (tsF_next hx2').symm⟩
    show _ = (if nxN S = nxN S then D else dn (nxN S)) :: R.map _
    rw [if_pos rfl, map_upd (fun r hr => (s12 r hr).2)]
  refine x_bipush (v := zI 40) d_Mo_addTest_0 (by decide) ?_
  refine x_aload_n d_Mo_addTest_2 rfl rfl ?_
  refine x_get xf_Mo_196_Mo (Or.inl hR.1) (v := .int (zI (S.1 28))) rfl d_Mo_addTest_3 ?_
  have hb3 : inR (S.1 28) := hR.2.2.2 28
  refine z_imul d_Mo_addTest_6 ?_
  refine x_aload_n d_Mo_addTest_7 rfl rfl ?_
  refine x_get xf_Mo_63_Mo (Or.inl hR.1) (v := .ref (rf 21)) rfl d_Mo_addTest_8 ?_
  refine x_aload_n d_Mo_addTest_11 rfl rfl ?_
  refine x_get xf_Mo_196_Mo (Or.inl hR.1) (v := .int (zI (S.1 28))) rfl d_Mo_addTest_12 ?_
  have hb12 : inR (S.1 28) := hR.2.2.2 28
  refine r_iald (i := 21) (us := (S.2.1 21)) rfl (by decide) hR rfl (by omega) (by show S.1 28 < 9; omega) d_Mo_addTest_15 (fun hr15 => ?_)
  refine z_iadd d_Mo_addTest_16 ?_
  refine x_istore (L' := [_, _, _, _, _]) d_Mo_addTest_17 rfl rfl ?_
  refine x_aload_n d_Mo_addTest_19 rfl rfl ?_
  refine x_get xf_Mo_51_Mo (Or.inl hR.1) (v := .ref (rf 17)) rfl d_Mo_addTest_20 ?_
  refine x_iload d_Mo_addTest_23 rfl ?_
  refine x_iload_n d_Mo_addTest_25 rfl ?_
  refine r_iast (i := 17) (us := (S.2.1 17)) ⟨rfl, rfl⟩ (by decide) hR hX rfl (by omega) (by show tnN S < 360; omega) (by omega) d_Mo_addTest_26 ?_
  intro h hR hX
  refine x_aload_n d_Mo_addTest_27 rfl rfl ?_
  refine x_get xf_Mo_54_Mo (Or.inl hR.1) (v := .ref (rf 18)) rfl d_Mo_addTest_28 ?_
  refine x_iload d_Mo_addTest_31 rfl ?_
  refine x_iload_n d_Mo_addTest_33 rfl ?_
  refine r_iast (i := 18) (us := (S.2.1 18)) ⟨rfl, rfl⟩ (by decide) hR hX rfl (by omega) (by show tnN S < 360; omega) (by omega) d_Mo_addTest_34 ?_
  intro h hR hX
  refine x_aload_n d_Mo_addTest_35 rfl rfl ?_
  refine x_get xf_Mo_57_Mo (Or.inl hR.1) (v := .ref (rf 19)) rfl d_Mo_addTest_36 ?_
  refine x_iload d_Mo_addTest_39 rfl ?_
  refine x_iload_n d_Mo_addTest_41 rfl ?_
  refine r_iast (i := 19) (us := (S.2.1 19)) ⟨rfl, rfl⟩ (by decide) hR hX rfl (by omega) (by show tnN S < 360; omega) (by omega) d_Mo_addTest_42 ?_
  intro h hR hX
  refine x_aload_n d_Mo_addTest_43 rfl rfl ?_
  refine x_get xf_Mo_60_Mo (Or.inl hR.1) (v := .ref (rf 20)) rfl d_Mo_addTest_44 ?_
  refine x_iload d_Mo_addTest_47 rfl ?_
  refine x_bipush (v := zI 64) d_Mo_addTest_49 (by decide) ?_
  refine x_aload_n d_Mo_addTest_51 rfl rfl ?_
  refine x_get xf_Mo_196_Mo (Or.inl hR.1) (v := .int (zI (S.1 28))) rfl d_Mo_addTest_52 ?_
  have hb52 : inR (S.1 28) := hR.2.2.2 28
  refine z_imul d_Mo_addTest_55 ?_
  refine x_aload_n d_Mo_addTest_56 rfl rfl ?_
  refine x_get xf_Mo_78_Mo (Or.inl hR.1) (v := .ref (rf 26)) rfl d_Mo_addTest_57 ?_
  refine x_aload_n d_Mo_addTest_60 rfl rfl ?_
  refine x_get xf_Mo_196_Mo (Or.inl hR.1) (v := .int (zI (S.1 28))) rfl d_Mo_addTest_61 ?_
  have hb61 : inR (S.1 28) := hR.2.2.2 28
  refine r_iald (i := 26) (us := (S.2.1 26)) rfl (by decide) hR rfl (by omega) (by show S.1 28 < 9; omega) d_Mo_addTest_64 (fun hr64 => ?_)
  refine z_iadd d_Mo_addTest_65 ?_
  refine x_iload_n d_Mo_addTest_66 rfl ?_
  refine z_isub d_Mo_addTest_67 ?_
  refine r_iast (i := 20) (us := (S.2.1 20)) ⟨rfl, rfl⟩ (by decide) hR hX rfl (by omega) (by show tnN S < 360; omega) (by omega) d_Mo_addTest_68 ?_
  intro h hR hX
  refine x_aload_n d_Mo_addTest_69 rfl rfl ?_
  refine x_get xf_Mo_63_Mo (Or.inl hR.1) (v := .ref (rf 21)) rfl d_Mo_addTest_70 ?_
  refine x_aload_n d_Mo_addTest_73 rfl rfl ?_
  refine x_get xf_Mo_196_Mo (Or.inl hR.1) (v := .int (zI (S.1 28))) rfl d_Mo_addTest_74 ?_
  have hb74 : inR (S.1 28) := hR.2.2.2 28
  refine x_dup2_11 d_Mo_addTest_77 rfl rfl ?_
  refine r_iald (i := 21) (us := (S.2.1 21)) rfl (by decide) hR rfl (by omega) (by show S.1 28 < 9; omega) d_Mo_addTest_78 (fun hr78 => ?_)
  refine x_iconst (v := zI 1) d_Mo_addTest_79 (by decide) ?_
  refine z_iadd d_Mo_addTest_80 ?_
  refine r_iast (i := 21) (us := (S.2.1 21)) ⟨rfl, rfl⟩ (by decide) hR hX rfl (by omega) (by show S.1 28 < 9; omega) (by omega) d_Mo_addTest_81 ?_
  intro h hR hX
  refine x_aload_n d_Mo_addTest_82 rfl rfl ?_
  refine x_get xf_Mo_88_Mo (Or.inl hR.1) (v := .ref (rf 34)) rfl d_Mo_addTest_83 ?_
  refine x_aload_n d_Mo_addTest_86 rfl rfl ?_
  refine x_get xf_Mo_205_Mo (Or.inl hR.1) (v := .int (zI (S.1 35))) rfl d_Mo_addTest_87 ?_
  have hb87 : inR (S.1 35) := hR.2.2.2 35
  refine x_aload_n d_Mo_addTest_90 rfl rfl ?_
  refine x_iconst (v := zI 0) d_Mo_addTest_91 (by decide) ?_
  refine x_iload d_Mo_addTest_92 rfl ?_
  refine x_iconst (v := zI (-1)) d_Mo_addTest_94 (by decide) ?_
  refine x_callV (As := [_, _, _]) (k := k_MarkerTextModel) rfl xcv_Mo_208_Mo (Or.inl hR.1) (RM.ap hR (r_addNode (by decide) (by omega) (by decide) s3 ⟨p1, hN1⟩)) rfl rfl (Nat.le_of_ble_eq_true rfl) d_Mo_addTest_95 ?_
  rintro v95 h cq nq ⟨S95, hR, hX95, rfl, rfl, rfl, rfl⟩
  replace hX := hX.tr hX95
  refine r_iast (i := 34) (us := (S.2.1 34)) ⟨rfl, rfl⟩ (by decide) hR hX rfl (by omega) (by show S.1 35 < 80; omega) (by show inR (128 * S.1 28 + gd (S.2.1 15) (S.1 28)); omega) d_Mo_addTest_98 ?_
  intro h hR hX
  refine x_aload_n d_Mo_addTest_99 rfl rfl ?_
  refine x_dup d_Mo_addTest_100 rfl ?_
  refine x_get xf_Mo_205_Mo (Or.inl hR.1) (v := .int (zI (S.1 35))) rfl d_Mo_addTest_101 ?_
  have hb101 : inR (S.1 35) := hR.2.2.2 35
  refine x_iconst (v := zI 1) d_Mo_addTest_104 (by decide) ?_
  refine z_iadd d_Mo_addTest_105 ?_
  refine r_put xf_Mo_205_Mo xp_Mo_35 hR hX (by omega) rfl rfl d_Mo_addTest_106 ?_
  intro h hR hX
  refine x_aload_n d_Mo_addTest_109 rfl rfl ?_
  refine x_callV (As := []) (k := k_MarkerTextModel) rfl xcv_Mo_238_Mo (Or.inl hR.1) (RM.ap hR (r_completeX (S := tsN S nm op f) (by omega) hXN (by simp))) rfl rfl (Nat.le_of_ble_eq_true rfl) d_Mo_addTest_110 ?_
  rintro v110 h cq nq ⟨S110, hR, hX110, rfl, rfl, rfl, hX', hf', hsm'⟩
  replace hX := hX.tr hX110
  refine x_vret d_Mo_addTest_113 rfl ?_
  exact ⟨_, hR, hX, rfl, rfl, rfl, hX', hfx.tr hf'⟩
/-- how readTest() ends, in full -/
def rtX (t : List Nat) (Ns : List NmT) (i : Nat) (x : NmT) (p tc : Nat) (ts : List TsT) (S : MS) (P : List Int) (Ds : List Den) : Option Value → MS → Prop := fun v S' => v = none ∧ fX S S' ∧ (((rcm t i x.1 x.2.1 p).2 = none ∧ S'.1 29 = ((rcm t i x.1 x.2.1 p).1 : Nat) ∧ 0 ≤ S'.1 27 ∧ S'.1 27 ≤ S.1 2 + 1) ∨ ∃ y, (rcm t i x.1 x.2.1 p).2 = some y ∧ rdX t Ns S' (cmpl P (dTst y :: Ds)).1 (cmpl P (dTst y :: Ds)).2 (rcm t i x.1 x.2.1 p).1 (tc + 1) (ts ++ [y]))
theorem e_in : xtx 22 = [105, 110] := by decide
set_option maxHeartbeats 2000000 in
theorem r_readTestX (hd : 5 ≤ d) {t : List Nat} {Ns : List NmT} {P R : List Int} {w : Int → Int} {dn : Int → Den} {tx : Int → Option TsT} {nm a0 : Int} {i p tc : Nat} {x : NmT} (hc : cx t Ns S) (hx : Ns[i]? = some x) (hni : nm = (i : Nat)) (h27 : S.1 27 = (p : Nat)) (hp : p ≤ t.length) (hw : S.1 29 = -1) (hS : rdOk S P R w) (hsl : slR Ns S (S.1 28) dn tx) (htc : gd (S.2.1 21) (S.1 28) = (tc : Nat)) (hT : gd (S.2.1 21) (S.1 28) < 40) (h15 : 2 * (gd (S.2.1 15) (S.1 28) + cnt 1 P + cnt 2 P + cnt 3 P) ≤ a0) (h4 : 4 * gd (S.2.1 26) (S.1 28) ≤ a0) (h17 : 2 * (wsm w R + 7 * cnt 1 P + 10 * cnt 2 P + 7 * cnt 3 P) ≤ 7 * a0) (ha : a0 + 1 ≤ S.1 27) : RM l G d M_Mo_readTest [.ref o, .int (zI nm)] o rf S (rtX t Ns i x p tc (tsF (S.1 28) tx tc) S P (R.map dn)) := by
  obtain ⟨d, rfl⟩ : ∃ q, d = q + 1 := ⟨d - 1, by omega⟩
  intro H0 c n hR
  have hs2 := hc.1.1
  have hl := hc.2.1.2
  have hok := hc.2.1.1
  have hil := (List.getElem?_eq_some_iff.mp hx).1
  have h6 := hc.2.2.1.2
  have hD := hc.2.2.2.1
  have hs3 := hS.2.2.1
  obtain ⟨p1, p2, p3, p4, p5, p6, p7, p8, p9, p10⟩ := id hS.2.2.2.2.2.2.2.2.1
  have hvn : vnN S = 64 * S.1 28 + gd (S.2.1 26) (S.1 28) := rfl
  have hsk := skp_le hp
  have hsg : p ≤ skp t p := scn_ge
  have c1 := cnt_nn 1 P
  have c2 := cnt_nn 2 P
  have c3 := cnt_nn 3 P
  refine XM.of (by decide +kernel) (Nat.le_of_ble_eq_true rfl) ?_
  have hX : xonly H0 H0 RKs := xonly.rf
  have l17 : (S.2.1 17).length = 360 := hR.len 17 (by decide)
  have l18 : (S.2.1 18).length = 360 := hR.len 18 (by decide)
  have l19 : (S.2.1 19).length = 360 := hR.len 19 (by decide)
  have l20 : (S.2.1 20).length = 360 := hR.len 20 (by decide)
  have l21 : (S.2.1 21).length = 9 := hR.len 21 (by decide)
  have l22 : (S.2.2.1 22).length = 576 := hR.lenl 22 (by decide)
  have l24 : (S.2.1 24).length = 576 := hR.len 24 (by decide)
  have l26 : (S.2.1 26).length = 9 := hR.len 26 (by decide)
  -- where it is wrong
  have w102 : ∀ (S1 : MS) (op n3 : Int), fX S S1 → (0 ≤ S1.1 27 ∧ S1.1 27 ≤ S.1 2 + 1) → (rcm t i x.1 x.2.1 p).2 = none → S1.1 29 = ((rcm t i x.1 x.2.1 p).1 : Nat) → RX l G M_Mo_readTest (d + 1) 102 [some (.ref o), some (.int (zI nm)), some (.int (zI (vnN S))), some (.int (zI n3)), some (.int (zI op))] [] H0 o rf c n S1 (rtX t Ns i x p tc (tsF (S.1 28) tx tc) S P (R.map dn)) := by
    intro S1 op n3 hf hb hno hwr h hR hX
    refine x_aload_n d_Mo_readTest_102 rfl rfl ?_
    refine x_get xf_Mo_190_Mo (Or.inl hR.1) (v := .int (zI (S1.1 29))) rfl d_Mo_readTest_103 ?_
    have hb103 : inR (S1.1 29) := hR.2.2.2 29
    refine z_if_ge (tgt := 117) d_Mo_readTest_106 (by decide) (by omega) (fun _ => ?_) (fun hq => by omega)
    refine x_vret d_Mo_readTest_117 rfl ?_
    exact ⟨_, hR, hX, rfl, rfl, rfl, hf, Or.inl ⟨hno, hwr, hb⟩⟩
  -- the test is added
  have g102 : ∀ (S1 : MS) (op n3 : Int) (q : Nat) (ws : List (List Nat)) (y : TsT), 0 ≤ op → op ≤ 6 → rdOk S1 P R w → slR Ns S1 (S.1 28) dn tx → rSm S S1 [27, 29] [23, 24, 26] [22] → aOX S S1 (S.1 28) → S1.1 27 = (q : Nat) → q ≤ t.length → S1.1 29 = -1 → gd (S1.2.1 26) (S.1 28) = gd (S.2.1 26) (S.1 28) + ws.length → ws ≠ [] → vsR S1 (vnN S) x.2.1 ws → (2 * (14 + wU ws) ≤ 7 * ((q : Int) - a0) ∨ (op ≠ 6 ∧ 2 * (12 + wU ws) ≤ 7 * ((q : Int) - a0))) → a0 + 2 ≤ q → y = (i, acR op, ws.map (klv x.2.1), x.1 ++ (sgL op ++ (vsT ws ++ (if op = 6 then [93] else [])))) → (rcm t i x.1 x.2.1 p).1 = q → (rcm t i x.1 x.2.1 p).2 = some y → RX l G M_Mo_readTest (d + 1) 102 [some (.ref o), some (.int (zI nm)), some (.int (zI (vnN S))), some (.int (zI n3)), some (.int (zI op))] [] H0 o rf c n S1 (rtX t Ns i x p tc (tsF (S.1 28) tx tc) S P (R.map dn)) := by
    intro S1 op n3 q ws y ho0 ho6 hS1 hsl1 hsm hag h271 hq hw1 hg26 hne hvs hor ha2 hy hr1 hr2 h hR hX
    have f28 := hsm.1 28 (by decide)
    have g15 := hsm.2.1 15 (by decide)
    have g17 := hsm.2.1 17 (by decide)
    have g18 := hsm.2.1 18 (by decide)
    have g19 := hsm.2.1 19 (by decide)
    have g20 := hsm.2.1 20 (by decide)
    have g21 := hsm.2.1 21 (by decide)
    have hvn1 : vnN S1 = vnN S + ws.length := by
      show 64 * S1.1 28 + gd (S1.2.1 26) (S1.1 28) = _
      rw [f28, hg26]
      omega
    have htn1 : tnN S1 = 40 * S.1 28 + (tc : Nat) := by
      show 40 * S1.1 28 + gd (S1.2.1 21) (S1.1 28) = _
      rw [f28, g21, htc]
    have hc1 : cx t Ns S1 := hc.sm hsm (by decide) (by decide)
    have htl : tsL Ns (ts5 S1 nm op (vnN S)) (S1.1 28) (fun q => if q = tnN S1 then some y else tx q) (tnN S1) := by
      refine Or.inr ⟨y, if_pos rfl, x, ws, ?_⟩
      have e17 : gd ((ts5 S1 nm op (vnN S)).2.1 17) (tnN S1) = nm := by
        show gd (se (S1.2.1 17) (tnN S1) nm) (tnN S1) = nm
        rw [gd_se_of (N := 360) (by rw [g17]; exact l17) (by omega) (by omega) (by omega), if_pos rfl]
      have e18 : gd ((ts5 S1 nm op (vnN S)).2.1 18) (tnN S1) = op := by
        show gd (se (S1.2.1 18) (tnN S1) op) (tnN S1) = op
        rw [gd_se_of (N := 360) (by rw [g18]; exact l18) (by omega) (by omega) (by omega), if_pos rfl]
      have e19 : gd ((ts5 S1 nm op (vnN S)).2.1 19) (tnN S1) = vnN S := by
        show gd (se (S1.2.1 19) (tnN S1) (vnN S)) (tnN S1) = vnN S
        rw [gd_se_of (N := 360) (by rw [g19]; exact l19) (by omega) (by omega) (by omega), if_pos rfl]
      have e20 : gd ((ts5 S1 nm op (vnN S)).2.1 20) (tnN S1) = ws.length := by
        show gd (se (S1.2.1 20) (tnN S1) (vnN S1 - vnN S)) (tnN S1) = ws.length
        rw [gd_se_of (N := 360) (by rw [g20]; exact l20) (by omega) (by omega) (by omega), if_pos rfl]
        omega
      have e26 : gd ((ts5 S1 nm op (vnN S)).2.1 26) (S1.1 28) = gd (S.2.1 26) (S.1 28) + ws.length := by
        show gd (S1.2.1 26) (S1.1 28) = _
        rw [f28]
        exact hg26
      rw [e17, e18, e19, e20, e26, hy]
      exact ⟨hx, hni, ⟨ho0, ho6⟩, rfl, ⟨rfl, hne⟩, rfl, by rw [f28]; omega, hvs, rfl⟩
    have hU := hvs.all
    have hcon := r_addTestX (l := l) (G := G) (o := o) (rf := rf) (d := d) (nm := nm) (op := op) (f := vnN S) (p := q) (tc := tc) (y := some y) (D := dTst y) (dn := dn) (tx := tx) (by omega) hc1 ⟨h271, hq⟩ hw1 hS1 (by rw [f28]; exact hsl1) (by rw [f28, g21]; exact htc) (by rw [f28, g21]; exact hT) ⟨ho0, by omega⟩ (by omega) (fun _ => by omega) ⟨by rw [f28]; omega, by omega⟩ (fun z => by omega) (by rw [f28, g20, g21]; omega) (fun q' h1 h2 => by rw [f28] at h1; rw [f28, g21] at h2; rw [g19, g20]; exact (p8 q' h1 h2).2.2.2.2.2.2) (by rw [f28, g15]; omega) (by
      have e : tsU S1 op (vnN S) = (if op = 6 then 14 else 12) + ((wU ws : Nat) : Int) := by
        rw [← hU]
        show (if 6 < op then 5 else (if op = 6 then 14 else 12) + sm (fun v => gd (S1.2.1 24) v + 4) (vnN S) (vnN S1 - vnN S).toNat) = _
        rw [if_neg (by omega), show (vnN S1 - vnN S).toNat = ws.length by omega]
      rw [e]
      split <;> omega) htl (Or.inr ⟨y, rfl, rfl⟩)
    rw [f28] at hcon
    refine x_aload_n d_Mo_readTest_102 rfl rfl ?_
    refine x_get xf_Mo_190_Mo (Or.inl hR.1) (v := .int (zI (S1.1 29))) rfl d_Mo_readTest_103 ?_
    have hb103 : inR (S1.1 29) := hR.2.2.2 29
    refine z_if_ge (tgt := 117) d_Mo_readTest_106 (by decide) (by omega) (fun hq => by omega) (fun _ => ?_)
    refine x_aload_n d_Mo_readTest_109 rfl rfl ?_
    refine x_iload_n d_Mo_readTest_110 rfl ?_
    refine x_iload d_Mo_readTest_111 rfl ?_
    refine x_iload_n d_Mo_readTest_113 rfl ?_
    refine x_callV (As := [_, _, _]) (k := k_MarkerTextModel) rfl xcv_Mo_250_Mo (Or.inl hR.1) (RM.ap hR hcon) rfl rfl (Nat.le_of_ble_eq_true rfl) d_Mo_readTest_114 ?_
    rintro v114 h cq nq ⟨S114, hR, hX114, rfl, rfl, rfl, hX', hf'⟩
    replace hX := hX.tr hX114
    refine x_vret d_Mo_readTest_117 rfl ?_
    exact ⟨_, hR, hX, rfl, rfl, rfl, fX.tr ⟨hsm.mono (by decide) (by decide) (by decide), hag⟩ hf', Or.inr ⟨y, hr2, by rw [hr1]; exact hX'⟩⟩
  have hcA : ∀ a : Int, cx t Ns (sp S 27 a) := fun a => hc.sm (js := [27]) (is := []) (ls := []) (rSm.r0.sp (by decide)) (by decide) (by decide)
  have hul := wrd_end hsk
  by_cases hn0 : (wrd t (skp t p)).length = 0
  · -- an operator
    have hnil : wrd t (skp t p) = [] := List.length_eq_zero_iff.mp hn0
    have hnin : ¬ wrd t (skp t p) = xtx 22 := by rw [hnil, e_in]; exact fun z => by cases z
    have hrc : rcm t i x.1 x.2.1 p = match (opr t (skp t p)).2.1 with
      | none => ((opr t (skp t p)).1, none)
      | some acc => ((rvl t x.2.1 (opr t (skp t p)).1).1, (rsg t x.2.1 (opr t (skp t p)).1).map (fun us => (i, acc, us, (((x.1 ++ [32]) ++ (opr t (skp t p)).2.2) ++ [32]) ++ (rvl t x.2.1 (opr t (skp t p)).1).2.2))) := if_neg hnin
    have jF : ∀ (S1 : MS) (op n3 : Int), oqX t (skp t p) (sp S 27 (skp t p : Nat)) (some (.int (zI op))) S1 → (opr t (skp t p)).2.1 = none → S1.1 29 = ((opr t (skp t p)).1 : Nat) → RX l G M_Mo_readTest (d + 1) 102 [some (.ref o), some (.int (zI nm)), some (.int (zI (vnN S))), some (.int (zI n3)), some (.int (zI op))] [] H0 o rf c n S1 (rtX t Ns i x p tc (tsF (S.1 28) tx tc) S P (R.map dn)) := by
      intro S1 op n3 hq hno hwr
      obtain ⟨r, -, -, hsm1, hb1, -⟩ := hq
      have hsm : rSm S S1 [27, 29] [] [] := (rSm.r0.sp (by decide)).tr hsm1
      replace hb1 : ((skp t p : Nat) : Int) + 1 ≤ S1.1 27 ∧ S1.1 27 ≤ S.1 2 + 1 := hb1
      rw [hno] at hrc
      exact w102 S1 op n3 (fX.sm hsm (by decide) (by decide) (by decide) (by decide) (by decide) (by decide)) (by omega) (by rw [hrc]) (by rw [hrc]; exact hwr)
    have jV : ∀ (S1 S2 : MS) (op n3 : Int), 0 ≤ op → op ≤ 5 → rSm (sp S 27 (skp t p : Nat)) S1 [27, 29] [] [] → ((skp t p : Nat) : Int) + 1 ≤ S1.1 27 → S1.1 27 ≤ S.1 2 → S1.1 29 = -1 → S1.1 27 = ((opr t (skp t p)).1 : Nat) → (opr t (skp t p)).2.1 = some (acR op) → 32 :: ((opr t (skp t p)).2.2 ++ [32]) = sgL op → rvX t x.2.1 (opr t (skp t p)).1 S1 none S2 → RX l G M_Mo_readTest (d + 1) 102 [some (.ref o), some (.int (zI nm)), some (.int (zI (vnN S))), some (.int (zI n3)), some (.int (zI op))] [] H0 o rf c n S2 (rtX t Ns i x p tc (tsF (S.1 28) tx tc) S P (R.map dn)) := by
      intro S1 S2 op n3 ho0 ho5 hsm1 hl1 hu1 hw1 h271 hop hsg2 hq
      have hsm : rSm S S1 [27, 29] [] [] := (rSm.r0.sp (by decide)).tr hsm1
      obtain ⟨-, hsm2, hb2, hor2⟩ := hq
      have f2 := hsm.1 2 (by decide)
      have f28 := hsm.1 28 (by decide)
      have g24 := hsm.2.1 24 (by decide)
      have g26 := hsm.2.1 26 (by decide)
      have g22 := hsm.2.2 22 (by decide)
      rw [hop] at hrc
      replace hrc : rcm t i x.1 x.2.1 p = ((rvl t x.2.1 (opr t (skp t p)).1).1, (rsg t x.2.1 (opr t (skp t p)).1).map (fun us => (i, acR op, us, (((x.1 ++ [32]) ++ (opr t (skp t p)).2.2) ++ [32]) ++ (rvl t x.2.1 (opr t (skp t p)).1).2.2))) := hrc
      have hS1 : rdOk S1 P R w := rd_at hS hsm (by decide) (by decide) (by omega) (by omega)
      have hsl1 : slR Ns S1 (S1.1 28) dn tx := by rw [f28]; exact hsl.sm hsm (by decide) (by decide) (by decide)
      have hsm3 : rSm S S2 [27, 29] [23, 24, 26] [22] := (hsm.mono (by decide) (by decide) (by decide)).tr hsm2
      have hag1 : aOX S S1 (S.1 28) := aOX.sm hsm (by decide) (by decide) (by decide)
      have hvn1 : vnN S1 = vnN S := by show 64 * S1.1 28 + gd (S1.2.1 26) (S1.1 28) = _; rw [f28, g26]
      rcases hor2 with ⟨e1, e2, e3⟩ | ⟨e1, e2, e3, u, u1, u2, u3, u4, u5, u6, u7, u8, u9⟩
      · have hrs : rsg t x.2.1 (opr t (skp t p)).1 = none := if_pos e1
        rw [hrs] at hrc
        exact w102 S2 op n3 ⟨hsm3.mono (by decide) (by decide) (by decide), hag1.tr (aOX.sm e3 (by decide) (by decide) (by decide))⟩ (by omega) (by rw [hrc]; rfl) (by rw [hrc]; exact e2)
      · have hrs : rsg t x.2.1 (opr t (skp t p)).1 = some [(rvl t x.2.1 (opr t (skp t p)).1).2.1] := if_neg e1
        rw [hrs] at hrc
        obtain ⟨v1, v2, v3, v4, v5⟩ := val_step (S := S1) (S' := S2) (f := vnN S) (ws := []) hS1 hsl1 (by rw [g22]; exact l22) (by rw [g24]; exact l24) (by rw [g26]; exact l26) (fun j y hy => by simp at hy) (by rw [f28]; omega) (by rw [hvn1]; simp) u1 hsm2 u6 u7 u8 u9 (by omega) (by omega) (by rw [f28, g26]; omega)
        rw [f28] at v2 v4 v5
        rw [g26] at v4
        have hul2 : wU ([] ++ [u]) = u.length + 4 := rfl
        refine g102 S2 op n3 (rvl t x.2.1 (opr t (skp t p)).1).1 ([] ++ [u]) (i, acR op, [u].map (klv x.2.1), x.1 ++ (sgL op ++ (vsT [u] ++ (if op = 6 then [93] else [])))) ho0 (by omega) v1 v2 hsm3 (hag1.tr v5) e3 (by omega) e2 (by rw [v4]; rfl) (by simp) v3 (Or.inr ⟨by omega, by rw [hul2]; omega⟩) (by omega) rfl (by rw [hrc]) ?_
        rw [hrc]
        show some (i, acR op, [(rvl t x.2.1 (opr t (skp t p)).1).2.1], (((x.1 ++ [32]) ++ (opr t (skp t p)).2.2) ++ [32]) ++ (rvl t x.2.1 (opr t (skp t p)).1).2.2) = _
        rw [u3, u4, ← hsg2, if_neg (by omega : ¬ op = 6)]
        simp [vsT]
    refine x_aload_n d_Mo_readTest_0 rfl rfl ?_
    refine x_callV (As := []) (k := k_MarkerTextModel) rfl xcv_Mo_225_Mo (Or.inl hR.1) (RM.ap hR (r_skipX hc h27 hp)) rfl rfl (Nat.le_of_ble_eq_true rfl) d_Mo_readTest_1 ?_
    rintro v1 h cq nq ⟨S1, hR, hX1, rfl, rfl, rfl, rfl⟩
    replace hX := hX.tr hX1
    refine x_bipush (v := zI 64) d_Mo_readTest_4 (by decide) ?_
    refine x_aload_n d_Mo_readTest_6 rfl rfl ?_
    refine x_get xf_Mo_196_Mo (Or.inl hR.1) (v := .int (zI (S.1 28))) rfl d_Mo_readTest_7 ?_
    have hb7 : inR (S.1 28) := hR.2.2.2 28
    refine z_imul d_Mo_readTest_10 ?_
    refine x_aload_n d_Mo_readTest_11 rfl rfl ?_
    refine x_get xf_Mo_78_Mo (Or.inl hR.1) (v := .ref (rf 26)) rfl d_Mo_readTest_12 ?_
    refine x_aload_n d_Mo_readTest_15 rfl rfl ?_
    refine x_get xf_Mo_196_Mo (Or.inl hR.1) (v := .int (zI (S.1 28))) rfl d_Mo_readTest_16 ?_
    have hb16 : inR (S.1 28) := hR.2.2.2 28
    refine r_iald (i := 26) (us := (S.2.1 26)) rfl (by decide) hR rfl (by omega) (by show S.1 28 < 9; omega) d_Mo_readTest_19 (fun hr19 => ?_)
    refine z_iadd d_Mo_readTest_20 ?_
    refine x_istore_n (L' := [_, _, _, _, _]) d_Mo_readTest_21 rfl rfl ?_
    refine x_aload_n d_Mo_readTest_22 rfl rfl ?_
    refine x_aload_n d_Mo_readTest_23 rfl rfl ?_
    refine x_get xf_Mo_193_Mo (Or.inl hR.1) (v := .int (zI ((skp t p : Nat) : Int))) rfl d_Mo_readTest_24 ?_
    have hb24 : inR ((skp t p : Nat) : Int) := hR.2.2.2 27
    refine x_callV (As := [_]) (k := k_MarkerTextModel) rfl xcv_Mo_241_Mo (Or.inl hR.1) (RM.ap hR (r_lettersX (by omega) (hcA _) hsk)) rfl rfl (Nat.le_of_ble_eq_true rfl) d_Mo_readTest_27 ?_
    rintro v27 h cq nq ⟨S27, hR, hX27, rfl, rfl, hE27, rfl⟩
    replace hE27 := Eq.symm hE27
    subst hE27
    replace hX := hX.tr hX27
    refine x_istore_n (L' := [_, _, _, _, _]) d_Mo_readTest_30 rfl rfl ?_
    refine x_bipush (v := zI 6) d_Mo_readTest_31 (by decide) ?_
    refine x_istore (L' := [_, _, _, _, _]) d_Mo_readTest_33 rfl rfl ?_
    refine x_iload_n d_Mo_readTest_35 rfl ?_
    refine z_if_le (tgt := 84) d_Mo_readTest_36 (by decide) (by omega) (fun _ => ?_) (fun hq => by omega)
    refine x_aload_n d_Mo_readTest_84 rfl rfl ?_
    refine x_callV (As := []) (k := k_MarkerTextModel) rfl xcv_Mo_247_Mo (Or.inl hR.1) (RM.ap hR (r_operatorX (by omega) (hcA _) rfl hsk hw)) rfl rfl (Nat.le_of_ble_eq_true rfl) d_Mo_readTest_85 ?_
    rintro v85 h cq nq ⟨S85, hR, hX85, rfl, rfl, r85, rfl, hr85, hsm85, hb85, hor85⟩
    replace hX := hX.tr hX85
    replace hb85 : ((skp t p : Nat) : Int) + 1 ≤ S85.1 27 ∧ S85.1 27 ≤ S.1 2 + 1 := hb85
    refine x_istore (L' := [_, _, _, _, _]) d_Mo_readTest_88 rfl rfl ?_
    refine x_aload_n d_Mo_readTest_90 rfl rfl ?_
    refine x_get xf_Mo_190_Mo (Or.inl hR.1) (v := .int (zI (S85.1 29))) rfl d_Mo_readTest_91 ?_
    have hb91 : inR (S85.1 29) := hR.2.2.2 29
    have hc85 : cx t Ns S85 := (hcA _).sm hsm85 (by decide) (by decide)
    have f28_ : S85.1 28 = S.1 28 := hsm85.1 28 (by decide)
    have g26_ : S85.2.1 26 = S.2.1 26 := hsm85.2.1 26 (by decide)
    have hV85 : 0 ≤ gd (S85.2.1 26) (S85.1 28) ∧ gd (S85.2.1 26) (S85.1 28) ≤ 40 := by rw [f28_, g26_]; exact ⟨p5, p6⟩
    have hop85 : (opr t (skp t p)).1 ≤ t.length := (opr_le hsk).1
    refine z_if_ge (tgt := 102) d_Mo_readTest_94 (by decide) (by omega) (fun hc94 => ?_) (fun hc94 => ?_)
    · first | exact jV _ _ _ _ hr85.1 hr85.2 hsm85 hb85.1 e4 e2 e3 e1 e5 ⟨rfl, hq99⟩ _ hR hX | (have hno := hor85.resolve_right (fun z => by have := z.2.1; omega)); exact jF _ _ _ ⟨r85, rfl, hr85, hsm85, hb85, hor85⟩ hno.1 hno.2 _ hR hX
    · obtain ⟨e1, e2, e3, e4, e5⟩ := hor85.resolve_left (fun z => by have := z.2; omega)
      refine x_aload_n d_Mo_readTest_97 rfl rfl ?_
      refine x_iload_n d_Mo_readTest_98 rfl ?_
      refine x_callV (As := [_]) (k := k_MarkerTextModel) rfl xcv_Mo_235_Mo (Or.inl hR.1) (RM.ap hR (r_readValueX (by omega) hc85 hx hni e3 hop85 e2 (by omega) hV85)) rfl rfl (Nat.le_of_ble_eq_true rfl) d_Mo_readTest_99 ?_
      rintro v99 h cq nq ⟨S99, hR, hX99, rfl, rfl, rfl, hq99⟩
      replace hX := hX.tr hX99
      first | exact jV _ _ _ _ hr85.1 hr85.2 hsm85 hb85.1 e4 e2 e3 e1 e5 ⟨rfl, hq99⟩ _ hR hX | (have hno := hor85.resolve_right (fun z => by have := z.2.1; omega)); exact jF _ _ _ ⟨r85, rfl, hr85, hsm85, hb85, hor85⟩ hno.1 hno.2 _ hR hX
  · -- a word
    have hne : wrd t (skp t p) ≠ [] := fun z => hn0 (by rw [z]; rfl)
    have hm := mng_kw hD h6 hne
    have hlt := wrd_lt (t := t) (p := skp t p)
    by_cases hin : wrd t (skp t p) = [105, 110]
    · have hl2 : (wrd t (skp t p)).length = 2 := by rw [hin]; rfl
      have hmg : mng Ns (wrd t (skp t p)) = 7 := hm.2.2.2.1.mpr hin
      have hin' : wrd t (skp t p) = xtx 22 := by rw [hin, e_in]
      have htk : tkW t p (xtx 22) = skp t p + 2 := by
        unfold tkW
        rw [if_pos hin', e_in]
        rfl
      have hrc : rcm t i x.1 x.2.1 p = ((rlist t x.2.1 (skp t p + 2)).1, (rlist t x.2.1 (skp t p + 2)).2.1.map (fun us => (i, 2, us, (((x.1 ++ [32]) ++ [105, 110]) ++ [32]) ++ (rlist t x.2.1 (skp t p + 2)).2.2))) := by
        unfold rcm
        rw [if_pos hin', htk, e_in]
      have hS2 : rdOk (sp (sp S 27 (skp t p : Nat)) 27 (((skp t p : Nat) : Int) + (((wrd t (skp t p)).length : Nat) : Int))) P R w := rd_at hS (((rSm.r0 (js := [27]) (is := []) (ls := [])).sp (by decide)).sp (by decide)) (by decide) (by decide) (by show S.1 27 ≤ ((skp t p : Nat) : Int) + (((wrd t (skp t p)).length : Nat) : Int); omega) (by show ((skp t p : Nat) : Int) + (((wrd t (skp t p)).length : Nat) : Int) ≤ S.1 2 + 1; omega)
      have hsm2 : rSm S (sp (sp S 27 (skp t p : Nat)) 27 (((skp t p : Nat) : Int) + (((wrd t (skp t p)).length : Nat) : Int))) [27] [] [] := (rSm.r0.sp (by decide)).sp (by decide)
      have hcL := r_readListX (l := l) (G := G) (o := o) (rf := rf) (d := d) (S := sp (sp S 27 (skp t p : Nat)) 27 (((skp t p : Nat) : Int) + (((wrd t (skp t p)).length : Nat) : Int))) (a0 := a0) (p := skp t p + 2) (dn := dn) (tx := tx) (by omega) (hc.sm hsm2 (by decide) (by decide)) hx hni hS2 (hsl.sm hsm2 (by decide) (by decide) (by decide)) (by show ((skp t p : Nat) : Int) + (((wrd t (skp t p)).length : Nat) : Int) = ((skp t p + 2 : Nat) : Int); omega) (by omega) hw h4 (by show a0 + 3 ≤ ((skp t p : Nat) : Int) + (((wrd t (skp t p)).length : Nat) : Int); omega)
      have jL : ∀ (S1 : MS) (n3 : Int), rlX t Ns x.2.1 (skp t p + 2) (sp (sp S 27 (skp t p : Nat)) 27 (((skp t p : Nat) : Int) + (((wrd t (skp t p)).length : Nat) : Int))) P R w dn tx a0 none S1 → RX l G M_Mo_readTest (d + 1) 102 [some (.ref o), some (.int (zI nm)), some (.int (zI (vnN S))), some (.int (zI n3)), some (.int (zI 6))] [] H0 o rf c n S1 (rtX t Ns i x p tc (tsF (S.1 28) tx tc) S P (R.map dn)) := by
        intro S1 n3 hq
        obtain ⟨-, hsm1, hag1, hb1, hor1⟩ := hq
        have hsm : rSm S S1 [27, 29] [23, 24, 26] [22] := (hsm2.mono (by decide) (by decide) (by decide)).tr hsm1
        have hag : aOX S S1 (S.1 28) := (aOX.sm hsm2 (by decide) (by decide) (by decide)).tr hag1
        replace hb1 : 0 ≤ S1.1 27 ∧ S1.1 27 ≤ S.1 2 + 1 := hb1
        rcases hor1 with ⟨e1, e2⟩ | ⟨ws, e1, e2, e3, e4, e5, e6, e7, e8, e9, e10, e11⟩
        · rw [e1] at hrc
          exact w102 S1 6 n3 ⟨hsm.mono (by decide) (by decide) (by decide), hag⟩ hb1 (by rw [hrc]; rfl) (by rw [hrc]; exact e2)
        · rw [e1] at hrc
          replace e5 : S1.1 27 ≤ S.1 2 := e5
          have hwl := wU_ge e9
          have hwp : 1 ≤ ws.length := by
            cases ws with
            | nil => exact absurd rfl e2
            | cons a r => simp
          refine g102 S1 6 n3 (rlist t x.2.1 (skp t p + 2)).1 ws (i, acR 6, ws.map (klv x.2.1), x.1 ++ (sgL 6 ++ (vsT ws ++ (if (6 : Int) = 6 then [93] else [])))) (by omega) (by omega) e6 e7 hsm hag e4 (by omega) e3 e8 e2 e9 (Or.inl (by omega)) (by omega) rfl (by rw [hrc]) ?_
          rw [hrc]
          show some (i, 2, ws.map (klv x.2.1), (((x.1 ++ [32]) ++ [105, 110]) ++ [32]) ++ (rlist t x.2.1 (skp t p + 2)).2.2) = _
          rw [e10, if_pos rfl]
          simp [sgL, acR]
      refine x_aload_n d_Mo_readTest_0 rfl rfl ?_
      refine x_callV (As := []) (k := k_MarkerTextModel) rfl xcv_Mo_225_Mo (Or.inl hR.1) (RM.ap hR (r_skipX hc h27 hp)) rfl rfl (Nat.le_of_ble_eq_true rfl) d_Mo_readTest_1 ?_
      rintro v1 h cq nq ⟨S1, hR, hX1, rfl, rfl, rfl, rfl⟩
      replace hX := hX.tr hX1
      refine x_bipush (v := zI 64) d_Mo_readTest_4 (by decide) ?_
      refine x_aload_n d_Mo_readTest_6 rfl rfl ?_
      refine x_get xf_Mo_196_Mo (Or.inl hR.1) (v := .int (zI (S.1 28))) rfl d_Mo_readTest_7 ?_
      have hb7 : inR (S.1 28) := hR.2.2.2 28
      refine z_imul d_Mo_readTest_10 ?_
      refine x_aload_n d_Mo_readTest_11 rfl rfl ?_
      refine x_get xf_Mo_78_Mo (Or.inl hR.1) (v := .ref (rf 26)) rfl d_Mo_readTest_12 ?_
      refine x_aload_n d_Mo_readTest_15 rfl rfl ?_
      refine x_get xf_Mo_196_Mo (Or.inl hR.1) (v := .int (zI (S.1 28))) rfl d_Mo_readTest_16 ?_
      have hb16 : inR (S.1 28) := hR.2.2.2 28
      refine r_iald (i := 26) (us := (S.2.1 26)) rfl (by decide) hR rfl (by omega) (by show S.1 28 < 9; omega) d_Mo_readTest_19 (fun hr19 => ?_)
      refine z_iadd d_Mo_readTest_20 ?_
      refine x_istore_n (L' := [_, _, _, _, _]) d_Mo_readTest_21 rfl rfl ?_
      refine x_aload_n d_Mo_readTest_22 rfl rfl ?_
      refine x_aload_n d_Mo_readTest_23 rfl rfl ?_
      refine x_get xf_Mo_193_Mo (Or.inl hR.1) (v := .int (zI ((skp t p : Nat) : Int))) rfl d_Mo_readTest_24 ?_
      have hb24 : inR ((skp t p : Nat) : Int) := hR.2.2.2 27
      refine x_callV (As := [_]) (k := k_MarkerTextModel) rfl xcv_Mo_241_Mo (Or.inl hR.1) (RM.ap hR (r_lettersX (by omega) (hcA _) hsk)) rfl rfl (Nat.le_of_ble_eq_true rfl) d_Mo_readTest_27 ?_
      rintro v27 h cq nq ⟨S27, hR, hX27, rfl, rfl, hE27, rfl⟩
      replace hE27 := Eq.symm hE27
      subst hE27
      replace hX := hX.tr hX27
      refine x_istore_n (L' := [_, _, _, _, _]) d_Mo_readTest_30 rfl rfl ?_
      refine x_bipush (v := zI 6) d_Mo_readTest_31 (by decide) ?_
      refine x_istore (L' := [_, _, _, _, _]) d_Mo_readTest_33 rfl rfl ?_
      refine x_iload_n d_Mo_readTest_35 rfl ?_
      refine z_if_le (tgt := 84) d_Mo_readTest_36 (by decide) (by omega) (fun hq => by omega) (fun _ => ?_)
      refine x_aload_n d_Mo_readTest_39 rfl rfl ?_
      refine x_aload_n d_Mo_readTest_40 rfl rfl ?_
      refine x_aload_n d_Mo_readTest_41 rfl rfl ?_
      refine x_get xf_Mo_193_Mo (Or.inl hR.1) (v := .int (zI ((skp t p : Nat) : Int))) rfl d_Mo_readTest_42 ?_
      have hb42 : inR ((skp t p : Nat) : Int) := hR.2.2.2 27
      refine x_iload_n d_Mo_readTest_45 rfl ?_
      refine x_callV (As := [_, _]) (k := k_MarkerTextModel) rfl xcv_Mo_154_Mo (Or.inl hR.1) (RM.ap hR (r_wordY (hcA _) hsk)) rfl rfl (Nat.le_of_ble_eq_true rfl) d_Mo_readTest_46 ?_
      rintro v46 h cq nq ⟨S46, hR, hX46, rfl, rfl, hE46, rfl⟩
      replace hE46 := Eq.symm hE46
      subst hE46
      replace hX := hX.tr hX46
      refine x_callV (As := [_]) (k := k_MarkerTextModel) rfl xcv_Mo_158_Mo (Or.inl hR.1) (RM.ap hR (r_meaningY (hcA _) hlt)) rfl rfl (Nat.le_of_ble_eq_true rfl) d_Mo_readTest_49 ?_
      rintro v49 h cq nq ⟨S49, hR, hX49, rfl, rfl, hE49, rfl⟩
      replace hE49 := Eq.symm hE49
      subst hE49
      replace hX := hX.tr hX49
      refine x_bipush (v := zI 7) d_Mo_readTest_52 (by decide) ?_
      refine z_icmp_eq (tgt := 66) d_Mo_readTest_54 (by decide) (by omega) (by omega) (fun _ => ?_) (fun hq => by omega)
      refine x_aload_n d_Mo_readTest_66 rfl rfl ?_
      refine x_dup d_Mo_readTest_67 rfl ?_
      refine x_get xf_Mo_193_Mo (Or.inl hR.1) (v := .int (zI ((skp t p : Nat) : Int))) rfl d_Mo_readTest_68 ?_
      have hb68 : inR ((skp t p : Nat) : Int) := hR.2.2.2 27
      refine x_iload_n d_Mo_readTest_71 rfl ?_
      refine z_iadd d_Mo_readTest_72 ?_
      refine r_put xf_Mo_193_Mo xp_Mo_27 hR hX (by omega) rfl rfl d_Mo_readTest_73 ?_
      intro h hR hX
      refine x_aload_n d_Mo_readTest_76 rfl rfl ?_
      refine x_iload_n d_Mo_readTest_77 rfl ?_
      refine x_callV (As := [_]) (k := k_MarkerTextModel) rfl xcv_Mo_244_Mo (Or.inl hR.1) (RM.ap hR hcL) rfl rfl (Nat.le_of_ble_eq_true rfl) d_Mo_readTest_78 ?_
      rintro v78 h cq nq ⟨S78, hR, hX78, rfl, rfl, rfl, hq78⟩
      replace hX := hX.tr hX78
      refine x_goto (tgt := 102) d_Mo_readTest_81 (by decide) ?_
      exact jL _ _ ⟨rfl, hq78⟩ _ hR hX
    · have hmg : ¬ mng Ns (wrd t (skp t p)) = 7 := fun z => hin (hm.2.2.2.1.mp z)
      have hmb := hm.2.2.2.2.2.2.2
      have hin' : ¬ wrd t (skp t p) = xtx 22 := by rw [e_in]; exact hin
      have hch : isLt (chr t (skp t p)) := by
        have h0 : 0 < (wrd t (skp t p)).length := by omega
        have := wrd_get h0
        have hm0 : (wrd t (skp t p)).getD 0 0 ∈ wrd t (skp t p) := by
          rw [List.getD_eq_getElem?_getD, List.getElem?_eq_getElem h0]
          exact List.getElem_mem h0
        have h1 := hlt _ hm0
        rw [this] at h1
        exact h1
      have hop := opr_x (t := t) (p := skp t p) (by omega)
      have hrc : rcm t i x.1 x.2.1 p = (skp t p, none) := by
        unfold rcm
        rw [if_neg hin', hop]
      refine x_aload_n d_Mo_readTest_0 rfl rfl ?_
      refine x_callV (As := []) (k := k_MarkerTextModel) rfl xcv_Mo_225_Mo (Or.inl hR.1) (RM.ap hR (r_skipX hc h27 hp)) rfl rfl (Nat.le_of_ble_eq_true rfl) d_Mo_readTest_1 ?_
      rintro v1 h cq nq ⟨S1, hR, hX1, rfl, rfl, rfl, rfl⟩
      replace hX := hX.tr hX1
      refine x_bipush (v := zI 64) d_Mo_readTest_4 (by decide) ?_
      refine x_aload_n d_Mo_readTest_6 rfl rfl ?_
      refine x_get xf_Mo_196_Mo (Or.inl hR.1) (v := .int (zI (S.1 28))) rfl d_Mo_readTest_7 ?_
      have hb7 : inR (S.1 28) := hR.2.2.2 28
      refine z_imul d_Mo_readTest_10 ?_
      refine x_aload_n d_Mo_readTest_11 rfl rfl ?_
      refine x_get xf_Mo_78_Mo (Or.inl hR.1) (v := .ref (rf 26)) rfl d_Mo_readTest_12 ?_
      refine x_aload_n d_Mo_readTest_15 rfl rfl ?_
      refine x_get xf_Mo_196_Mo (Or.inl hR.1) (v := .int (zI (S.1 28))) rfl d_Mo_readTest_16 ?_
      have hb16 : inR (S.1 28) := hR.2.2.2 28
      refine r_iald (i := 26) (us := (S.2.1 26)) rfl (by decide) hR rfl (by omega) (by show S.1 28 < 9; omega) d_Mo_readTest_19 (fun hr19 => ?_)
      refine z_iadd d_Mo_readTest_20 ?_
      refine x_istore_n (L' := [_, _, _, _, _]) d_Mo_readTest_21 rfl rfl ?_
      refine x_aload_n d_Mo_readTest_22 rfl rfl ?_
      refine x_aload_n d_Mo_readTest_23 rfl rfl ?_
      refine x_get xf_Mo_193_Mo (Or.inl hR.1) (v := .int (zI ((skp t p : Nat) : Int))) rfl d_Mo_readTest_24 ?_
      have hb24 : inR ((skp t p : Nat) : Int) := hR.2.2.2 27
      refine x_callV (As := [_]) (k := k_MarkerTextModel) rfl xcv_Mo_241_Mo (Or.inl hR.1) (RM.ap hR (r_lettersX (by omega) (hcA _) hsk)) rfl rfl (Nat.le_of_ble_eq_true rfl) d_Mo_readTest_27 ?_
      rintro v27 h cq nq ⟨S27, hR, hX27, rfl, rfl, hE27, rfl⟩
      replace hE27 := Eq.symm hE27
      subst hE27
      replace hX := hX.tr hX27
      refine x_istore_n (L' := [_, _, _, _, _]) d_Mo_readTest_30 rfl rfl ?_
      refine x_bipush (v := zI 6) d_Mo_readTest_31 (by decide) ?_
      refine x_istore (L' := [_, _, _, _, _]) d_Mo_readTest_33 rfl rfl ?_
      refine x_iload_n d_Mo_readTest_35 rfl ?_
      refine z_if_le (tgt := 84) d_Mo_readTest_36 (by decide) (by omega) (fun hq => by omega) (fun _ => ?_)
      refine x_aload_n d_Mo_readTest_39 rfl rfl ?_
      refine x_aload_n d_Mo_readTest_40 rfl rfl ?_
      refine x_aload_n d_Mo_readTest_41 rfl rfl ?_
      refine x_get xf_Mo_193_Mo (Or.inl hR.1) (v := .int (zI ((skp t p : Nat) : Int))) rfl d_Mo_readTest_42 ?_
      have hb42 : inR ((skp t p : Nat) : Int) := hR.2.2.2 27
      refine x_iload_n d_Mo_readTest_45 rfl ?_
      refine x_callV (As := [_, _]) (k := k_MarkerTextModel) rfl xcv_Mo_154_Mo (Or.inl hR.1) (RM.ap hR (r_wordY (hcA _) hsk)) rfl rfl (Nat.le_of_ble_eq_true rfl) d_Mo_readTest_46 ?_
      rintro v46 h cq nq ⟨S46, hR, hX46, rfl, rfl, hE46, rfl⟩
      replace hE46 := Eq.symm hE46
      subst hE46
      replace hX := hX.tr hX46
      refine x_callV (As := [_]) (k := k_MarkerTextModel) rfl xcv_Mo_158_Mo (Or.inl hR.1) (RM.ap hR (r_meaningY (hcA _) hlt)) rfl rfl (Nat.le_of_ble_eq_true rfl) d_Mo_readTest_49 ?_
      rintro v49 h cq nq ⟨S49, hR, hX49, rfl, rfl, hE49, rfl⟩
      replace hE49 := Eq.symm hE49
      subst hE49
      replace hX := hX.tr hX49
      refine x_bipush (v := zI 7) d_Mo_readTest_52 (by decide) ?_
      refine z_icmp_eq (tgt := 66) d_Mo_readTest_54 (by decide) (by omega) (by omega) (fun hq => by omega) (fun _ => ?_)
      refine x_aload_n d_Mo_readTest_57 rfl rfl ?_
      refine x_aload_n d_Mo_readTest_58 rfl rfl ?_
      refine x_get xf_Mo_193_Mo (Or.inl hR.1) (v := .int (zI ((skp t p : Nat) : Int))) rfl d_Mo_readTest_59 ?_
      have hb59 : inR ((skp t p : Nat) : Int) := hR.2.2.2 27
      refine x_callV (As := [_]) (k := k_MarkerTextModel) rfl xcv_Mo_218_Mo (Or.inl hR.1) (RM.ap hR (r_fault (by omega))) rfl rfl (Nat.le_of_ble_eq_true rfl) d_Mo_readTest_62 ?_
      rintro v62 h cq nq ⟨S62, hR, hX62, rfl, rfl, a62, rfl, rfl, ha62⟩
      replace hX := hX.tr hX62
      refine x_vret d_Mo_readTest_65 rfl ?_
      exact ⟨_, hR, hX, rfl, rfl, rfl, fX.sm (((rSm.r0 (js := [27, 29]) (is := []) (ls := [])).sp (by decide)).sp (by decide)) (by decide) (by decide) (by decide) (by decide) (by decide) (by decide), Or.inl ⟨by rw [hrc], by rw [hrc]; show a62 = _; exact flt ha62 hw, by show 0 ≤ ((skp t p : Nat) : Int); omega, by show ((skp t p : Nat) : Int) ≤ S.1 2 + 1; omega⟩⟩
end RH7
