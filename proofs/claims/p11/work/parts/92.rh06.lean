section

end
section RH6
variable {l : Launch} {G : XG} {h : XH} {c n d : Nat} {o : Nat} {rf : Nat → Nat} {S : MS}
/-- how broad VALUES are printed, at most -/
def wU : List (List Nat) → Nat
  | [] => 0
  | u :: r => (u.length + 4) + wU r
theorem wU_app {u : List Nat} : ∀ ws : List (List Nat), wU (ws ++ [u]) = wU ws + (u.length + 4) := by
  intro ws
  induction ws with
  | nil => show (u.length + 4) + 0 = 0 + (u.length + 4); omega
  | cons a ws ih =>
    show (a.length + 4) + wU (ws ++ [u]) = (a.length + 4) + wU ws + (u.length + 4)
    omega
theorem sm_wU {f : Int} {kd : Nat} {ws : List (List Nat)} (hv : vsR S f kd ws) : ∀ k : Nat, k ≤ ws.length → sm (fun v => gd (S.2.1 24) v + 4) f k = ((wU (ws.take k) : Nat) : Int) := by
  intro k
  induction k with
  | zero => intro _; rfl
  | succ k ih =>
    intro hk
    have hg : ws[k]? = some (ws[k]'(by omega)) := List.getElem?_eq_getElem (by omega)
    have h1 := (hv k _ hg).1.2.1
    rw [List.take_succ_eq_append_getElem (by omega), wU_app]
    show sm (fun v => gd (S.2.1 24) v + 4) f k + (gd (S.2.1 24) (f + k) + 4) = _
    rw [ih (by omega), h1]
    omega
theorem vsR.all {f : Int} {kd : Nat} {ws : List (List Nat)} (hv : vsR S f kd ws) : sm (fun v => gd (S.2.1 24) v + 4) f ws.length = ((wU ws : Nat) : Int) := by
  have := sm_wU hv ws.length (Nat.le_refl _)
  rw [List.take_length] at this
  exact this
/-- a VALUE more, of those that are read in a row -/
theorem val_step {S' : MS} {Ns : List NmT} {P R : List Int} {w : Int → Int} {dn : Int → Den} {tx : Int → Option TsT} {f : Int} {kd : Nat} {ws : List (List Nat)} {u : List Nat} (hS : rdOk S P R w) (hsl : slR Ns S (S.1 28) dn tx) (l22 : (S.2.2.1 22).length = 576) (l24 : (S.2.1 24).length = 576) (l26 : (S.2.1 26).length = 9) (hvs : vsR S f kd ws) (hf0 : 64 * S.1 28 ≤ f) (hf : f + ws.length = vnN S) (hu : okV kd u) (hsm : rSm S S' [27, 29] [23, 24, 26] [22]) (e24 : S'.2.1 24 = se (S.2.1 24) (vnN S) u.length) (e26 : S'.2.1 26 = se (S.2.1 26) (S.1 28) (gd (S.2.1 26) (S.1 28) + 1)) (e22 : S'.2.2.1 22 = sle (S.2.2.1 22) (vnN S) (zL (kyR kd u))) (e23 : ∀ e : Int, 0 ≤ e → e < 6336 → gd (S'.2.1 23) e = if 11 * vnN S ≤ e ∧ e < 11 * vnN S + u.length then ((u.getD (e - 11 * vnN S).toNat 0 : Nat) : Int) else gd (S.2.1 23) e) (h0 : S.1 27 ≤ S'.1 27) (h27 : S'.1 27 ≤ S.1 2 + 1) (h4 : 4 * (gd (S.2.1 26) (S.1 28) + 1) ≤ S'.1 27) : rdOk S' P R w ∧ slR Ns S' (S.1 28) dn tx ∧ vsR S' f kd (ws ++ [u]) ∧ gd (S'.2.1 26) (S.1 28) = gd (S.2.1 26) (S.1 28) + 1 ∧ aOX S S' (S.1 28) := by
  have hs3 := hS.2.2.1
  obtain ⟨p1, p2, p3, p4, p5, p6, -⟩ := id hS.2.2.2.2.2.2.2.2.1
  have hvn : vnN S = 64 * S.1 28 + gd (S.2.1 26) (S.1 28) := rfl
  have hul := hu.2.2
  obtain ⟨r1, r2, r3, r4⟩ := rd_val hS hsm (by decide) (by decide) l24 l26 (ws := (u.length : Int)) (by omega) e24 e26 h0 h27 h4
  have f28 := hsm.1 28 (by decide)
  rw [f28] at r2
  have o22 : ∀ v : Int, 0 ≤ v → v ≠ vnN S → gl (S'.2.2.1 22) v = gl (S.2.2.1 22) v := fun v h1 h2 => by rw [e22, gl_sle l22 (by omega) (by omega) h1, if_neg h2]
  have n22 : gl (S'.2.2.1 22) (vnN S) = zL (kyR kd u) := by rw [e22, gl_sle l22 (by omega) (by omega) (by omega), if_pos rfl]
  have o23 : ∀ e : Int, 0 ≤ e → e < 6336 → ¬ (11 * vnN S ≤ e ∧ e < 11 * vnN S + 11) → gd (S'.2.1 23) e = gd (S.2.1 23) e := fun e h1 h2 h3 => by rw [e23 e h1 h2, if_neg (by omega)]
  refine ⟨r1, ?_, ?_, r2, fun cc h1 h8 h2 => ?_⟩
  · exact hsl.val (by omega) r2 (fun i hi => hsm.2.1 i ((by decide : ∀ i ∈ [12, 13, 14, 15, 17, 18, 19, 20, 21], i ∉ [23, 24, 26]) i hi)) (fun v h1 h2 => o22 v (by omega) (by omega)) (fun v h1 h2 => r3 v (by omega) (by omega)) (fun e h1 h2 => o23 e (by omega) (by omega) (by omega))
  · intro j y hy
    have hj := (List.getElem?_eq_some_iff.mp hy).1
    rw [List.length_append] at hj
    simp at hj
    by_cases hjl : j < ws.length
    · rw [List.getElem?_append_left hjl] at hy
      obtain ⟨k1, k2⟩ := hvs j y hy
      exact ⟨k1.cong k2.2.2 (o22 _ (by omega) (by omega)) (r3 _ (by omega) (by omega)) (fun e q1 q2 => o23 e (by omega) (by omega) (by omega)), k2⟩
    · obtain rfl : j = ws.length := by omega
      rw [List.getElem?_append_right (Nat.le_refl _), Nat.sub_self] at hy
      cases hy
      refine ⟨⟨by rw [hf]; exact n22, by rw [hf]; exact r4, fun i hi => ?_⟩, hu⟩
      rw [hf, e23 _ (by omega) (by omega), if_pos (by omega), show (11 * vnN S + (i : Int) - 11 * vnN S).toNat = i by omega]
  · have hg := agO_val l24 l26 hsm hs3 (by omega) e24 e26 cc h1 h2
    exact ⟨hg, fun v q1 q2 => o22 v (by omega) (by omega), fun e q1 q2 => o23 e (by omega) (by omega) (by omega)⟩
theorem wU_ge1 : ∀ ws : List (List Nat), (∀ u ∈ ws, 1 ≤ u.length) → 5 * ws.length ≤ wU ws := by
  intro ws
  induction ws with
  | nil => intro _; exact Nat.le_refl _
  | cons a ws ih =>
    intro h
    have h1 := h a List.mem_cons_self
    have h2 := ih (fun u hu => h u (List.mem_cons_of_mem _ hu))
    show 5 * (ws.length + 1) ≤ (a.length + 4) + wU ws
    omega
theorem wU_ge {f : Int} {kd : Nat} {ws : List (List Nat)} (hv : vsR S f kd ws) : 5 * ws.length ≤ wU ws := wU_ge1 ws (fun u hu => by
  obtain ⟨j, hj, e⟩ := List.getElem_of_mem hu
  exact (klv_len (hv j u (by rw [List.getElem?_eq_getElem hj, e])).2.2.1).1)
theorem rvl_skp {t : List Nat} {kd p : Nat} (hp : p ≤ t.length) : rvl t kd (skp t p) = rvl t kd p := by
  unfold rvl
  rw [skp_idem hp]
theorem rls_f {t : List Nat} {kd k p : Nat} {us : List Nat} (h : (rvl t kd p).2.1 = 0) : rls t kd (k + 1) p us = ((rvl t kd p).1, none, (rvl t kd p).2.2) := if_pos h
theorem rls_93 {t : List Nat} {kd k p : Nat} {us : List Nat} (h : (rvl t kd p).2.1 ≠ 0) (h2 : chr t (skp t (rvl t kd p).1) = 93) : rls t kd (k + 1) p us = (skp t (rvl t kd p).1 + 1, some (us ++ [(rvl t kd p).2.1]), (rvl t kd p).2.2 ++ [93]) := (if_neg h).trans (if_pos h2)
theorem rls_44 {t : List Nat} {kd k p : Nat} {us : List Nat} (h : (rvl t kd p).2.1 ≠ 0) (h2 : chr t (skp t (rvl t kd p).1) = 44) : rls t kd (k + 1) p us = ((rls t kd k (skp t (rvl t kd p).1 + 1) (us ++ [(rvl t kd p).2.1])).1, (rls t kd k (skp t (rvl t kd p).1 + 1) (us ++ [(rvl t kd p).2.1])).2.1, (rvl t kd p).2.2 ++ ([44, 32] ++ (rls t kd k (skp t (rvl t kd p).1 + 1) (us ++ [(rvl t kd p).2.1])).2.2)) := (if_neg h).trans ((if_neg (by omega)).trans (if_pos h2))
theorem rls_x {t : List Nat} {kd k p : Nat} {us : List Nat} (h : (rvl t kd p).2.1 ≠ 0) (h2 : chr t (skp t (rvl t kd p).1) ≠ 93) (h3 : chr t (skp t (rvl t kd p).1) ≠ 44) : rls t kd (k + 1) p us = (skp t (rvl t kd p).1, none, (rvl t kd p).2.2) := (if_neg h).trans ((if_neg h2).trans (if_neg h3))
theorem vsT_one {u : List Nat} : vsT [u] = 39 :: (u ++ [39]) := rfl
theorem vsT_more {u : List Nat} {ws : List (List Nat)} (h : ws ≠ []) : vsT (u :: ws) = 39 :: (u ++ [39]) ++ (44 :: 32 :: vsT ws) := by
  cases ws with
  | nil => exact absurd rfl h
  | cons a r => rfl
/-- how readList() ends, in full -/
def rlX (t : List Nat) (Ns : List NmT) (kd p : Nat) (S : MS) (P R : List Int) (w : Int → Int) (dn : Int → Den) (tx : Int → Option TsT) (a0 : Int) : Option Value → MS → Prop := fun v S' => v = none ∧ rSm S S' [27, 29] [23, 24, 26] [22] ∧ aOX S S' (S.1 28) ∧ (0 ≤ S'.1 27 ∧ S'.1 27 ≤ S.1 2 + 1) ∧ (((rlist t kd p).2.1 = none ∧ S'.1 29 = ((rlist t kd p).1 : Nat)) ∨ ∃ ws : List (List Nat), (rlist t kd p).2.1 = some (ws.map (klv kd)) ∧ ws ≠ [] ∧ S'.1 29 = -1 ∧ S'.1 27 = ((rlist t kd p).1 : Nat) ∧ S'.1 27 ≤ S.1 2 ∧ rdOk S' P R w ∧ slR Ns S' (S.1 28) dn tx ∧ gd (S'.2.1 26) (S.1 28) = gd (S.2.1 26) (S.1 28) + ws.length ∧ vsR S' (vnN S) kd ws ∧ (rlist t kd p).2.2 = 91 :: (vsT ws ++ [93]) ∧ a0 + 4 + wU ws - ws.length ≤ S'.1 27)
/-- between two VALUES of a list -/
def rlI (t : List Nat) (Ns : List NmT) (kd p : Nat) (S : MS) (P R : List Int) (w : Int → Int) (dn : Int → Den) (tx : Int → Option TsT) (a0 : Int) (S1 : MS) (pp : Nat) (ws : List (List Nat)) : Prop := rSm S S1 [27, 29] [23, 24, 26] [22] ∧ aOX S S1 (S.1 28) ∧ rdOk S1 P R w ∧ slR Ns S1 (S.1 28) dn tx ∧ (S1.1 27 = (pp : Nat) ∧ pp ≤ t.length) ∧ S1.1 29 = -1 ∧ ws.length ≤ 6 ∧ gd (S1.2.1 26) (S.1 28) = gd (S.2.1 26) (S.1 28) + ws.length ∧ vsR S1 (vnN S) kd ws ∧ a0 + 4 + wU ws - ws.length ≤ pp ∧ (rlist t kd p).1 = (rls t kd (6 - ws.length) pp (ws.map (klv kd))).1 ∧ (rlist t kd p).2.1 = (rls t kd (6 - ws.length) pp (ws.map (klv kd))).2.1 ∧ ∃ pre : List Nat, (rlist t kd p).2.2 = 91 :: (pre ++ (rls t kd (6 - ws.length) pp (ws.map (klv kd))).2.2) ∧ ∀ ws' : List (List Nat), ws' ≠ [] → vsT (ws ++ ws') = pre ++ vsT ws'
set_option maxHeartbeats 2000000 in
theorem r_readListX {t : List Nat} {Ns : List NmT} {nm a0 : Int} {i p : Nat} {x : NmT} {P R : List Int} {w : Int → Int} {dn : Int → Den} {tx : Int → Option TsT} (hd : 4 ≤ d) (hc : cx t Ns S) (hx : Ns[i]? = some x) (hni : nm = (i : Nat)) (hS : rdOk S P R w) (hsl : slR Ns S (S.1 28) dn tx) (h27 : S.1 27 = p) (hp : p ≤ t.length) (hw : S.1 29 = -1) (h4 : 4 * gd (S.2.1 26) (S.1 28) ≤ a0) (ha : a0 + 3 ≤ S.1 27) : RM l G d M_Mo_readList [.ref o, .int (zI nm)] o rf S (rlX t Ns x.2.1 p S P R w dn tx a0) := by
  obtain ⟨d, rfl⟩ : ∃ q, d = q + 1 := ⟨d - 1, by omega⟩
  intro H0 c n hR
  have hs2 := hc.1.1
  have hl := hc.2.1.2
  have hok := hc.2.1.1
  have hs3 := hS.2.2.1
  obtain ⟨p1, p2, p3, p4, p5, p6, -⟩ := id hS.2.2.2.2.2.2.2.2.1
  have hvn : vnN S = 64 * S.1 28 + gd (S.2.1 26) (S.1 28) := rfl
  have hsk := skp_le hp
  have hsg : p ≤ skp t p := scn_ge
  generalize hkd : x.2.1 = kd at *
  have hxx : ∀ S1 : MS, cx t Ns S1 → ∀ pp : Nat, S1.1 27 = (pp : Nat) → pp ≤ t.length → S1.1 29 = -1 → 0 ≤ S1.1 28 ∧ S1.1 28 ≤ 8 → 0 ≤ gd (S1.2.1 26) (S1.1 28) ∧ gd (S1.2.1 26) (S1.1 28) ≤ 40 → RM l G d M_Mo_readValue [.ref o, .int (zI nm)] o rf S1 (rvX t kd pp S1) := fun S1 q1 pp q2 q3 q4 q5 q6 => by rw [← hkd]; exact r_readValueX (by omega) q1 hx hni q2 q3 q4 q5 q6
  refine XM.of (by decide +kernel) (Nat.le_of_ble_eq_true rfl) ?_
  have hX : xonly H0 H0 RKs := xonly.rf
  -- where it is wrong
  have ex0 : ∀ (S1 : MS) (q mo : Int), rSm S S1 [27, 29] [23, 24, 26] [22] → aOX S S1 (S.1 28) → (0 ≤ S1.1 27 ∧ S1.1 27 ≤ S.1 2 + 1) → (rlist t kd p).2.1 = none → S1.1 29 = ((rlist t kd p).1 : Nat) → RX l G M_Mo_readList (d + 1) 110 [some (.ref o), some (.int (zI nm)), some (.int (zI q)), some (.int (zI mo))] [] H0 o rf c n S1 (rlX t Ns kd p S P R w dn tx a0) := by
    intro S1 q mo hsm hag hb hno hwr h hR hX
    refine x_aload_n d_Mo_readList_110 rfl rfl ?_
    refine x_get xf_Mo_190_Mo (Or.inl hR.1) (v := .int (zI (S1.1 29))) rfl d_Mo_readList_111 ?_
    have hb111 : inR (S1.1 29) := hR.2.2.2 29
    refine z_if_ge (tgt := 123) d_Mo_readList_114 (by decide) (by omega) (fun _ => ?_) (fun hq => by omega)
    refine x_vret d_Mo_readList_123 rfl ?_
    exact ⟨_, hR, hX, rfl, rfl, rfl, hsm, hag, hb, Or.inl ⟨hno, hwr⟩⟩
  have w10 : ∀ (S1 : MS) (q mo : Int), (mo = 0 ∨ mo = 1) → rSm S S1 [27, 29] [23, 24, 26] [22] → aOX S S1 (S.1 28) → (0 ≤ S1.1 27 ∧ S1.1 27 ≤ S.1 2 + 1) → (rlist t kd p).2.1 = none → S1.1 29 = ((rlist t kd p).1 : Nat) → RX l G M_Mo_readList (d + 1) 10 [some (.ref o), some (.int (zI nm)), some (.int (zI q)), some (.int (zI mo))] [] H0 o rf c n S1 (rlX t Ns kd p S P R w dn tx a0) := by
    intro S1 q mo hmo hsm hag hb hno hwr h hR hX
    refine x_iload_n d_Mo_readList_10 rfl ?_
    refine z_if_eq (tgt := 110) d_Mo_readList_11 (by decide) (by omega) (fun hc11 => ?_) (fun hc11 => ?_)
    · exact ex0 S1 q mo hsm hag hb hno hwr _ hR hX
    · refine x_aload_n d_Mo_readList_14 rfl rfl ?_
      refine x_get xf_Mo_190_Mo (Or.inl hR.1) (v := .int (zI (S1.1 29))) rfl d_Mo_readList_15 ?_
      have hb15 : inR (S1.1 29) := hR.2.2.2 29
      refine z_if_ge (tgt := 110) d_Mo_readList_18 (by decide) (by omega) (fun _ => ?_) (fun hq => by omega)
      exact ex0 S1 q mo hsm hag hb hno hwr _ hR hX
  have w63 : ∀ (S4 : MS) (q mo : Int), rSm S S4 [27, 29] [23, 24, 26] [22] → aOX S S4 (S.1 28) → (0 ≤ S4.1 27 ∧ S4.1 27 ≤ S.1 2) → (rlist t kd p).2.1 = none → S4.1 29 = ((rlist t kd p).1 : Nat) → RX l G M_Mo_readList (d + 1) 63 [some (.ref o), some (.int (zI nm)), some (.int (zI q)), some (.int (zI mo))] [] H0 o rf c n S4 (rlX t Ns kd p S P R w dn tx a0) := by
    intro S4 q mo hsm hag hb hno hwr h hR hX
    have f2 := hsm.1 2 (by decide)
    have hz4 : szOk S4 := ⟨by omega, by omega⟩
    have fin : ∀ (a z mo4 : Int), 0 ≤ z → z ≤ S.1 2 + 1 → (mo4 = 0 ∨ mo4 = 1) → RX l G M_Mo_readList (d + 1) 10 [some (.ref o), some (.int (zI nm)), some (.int (zI q)), some (.int (zI mo4))] [] H0 o rf c n (sp (sp S4 27 a) 27 z) (rlX t Ns kd p S P R w dn tx a0) := by
      intro a z mo4 hz0 hz1 hmo4
      have hsm6 : rSm S4 (sp (sp S4 27 a) 27 z) [27] [] [] := (rSm.r0.sp (by decide)).sp (by decide)
      exact w10 _ q mo4 hmo4 (hsm.tr (hsm6.mono (by decide) (by decide) (by decide))) (hag.tr (aOX.sm hsm6 (by decide) (by decide) (by decide))) ⟨hz0, hz1⟩ hno hwr
    refine x_aload_n d_Mo_readList_63 rfl rfl ?_
    refine x_callV (As := []) (k := k_MarkerTextModel) rfl xcv_Mo_225_Mo (Or.inl hR.1) (RM.ap hR (r_skip (by omega) hz4)) rfl rfl (Nat.le_of_ble_eq_true rfl) d_Mo_readList_64 ?_
    rintro v64 h cq nq ⟨S64, hR, hX64, rfl, rfl, a64, rfl, rfl, ha64, hb64, hc64⟩
    replace hX := hX.tr hX64
    refine x_aload_n d_Mo_readList_67 rfl rfl ?_
    refine x_callV (As := []) (k := k_MarkerTextModel) rfl xcv_Mo_228_Mo (Or.inl hR.1) (RM.ap hR (r_now (by show 0 ≤ a64; omega) hz4)) rfl rfl (Nat.le_of_ble_eq_true rfl) d_Mo_readList_68 ?_
    rintro v68 h cq nq ⟨S68, hR, hX68, rfl, rfl, hE68, r68, rfl, hi68, hr68⟩
    replace hE68 := Eq.symm hE68
    subst hE68
    replace hX := hX.tr hX68
    refine x_bipush (v := zI 44) d_Mo_readList_71 (by decide) ?_
    refine z_icmp_ne (tgt := 80) d_Mo_readList_73 (by decide) (by omega) (by omega) (fun hc73 => ?_) (fun hc73 => ?_)
    · refine x_iconst (v := zI 0) d_Mo_readList_80 (by decide) ?_
      refine x_istore_n (L' := [_, _, _, _]) d_Mo_readList_81 rfl rfl ?_
      refine x_aload_n d_Mo_readList_82 rfl rfl ?_
      refine x_dup d_Mo_readList_83 rfl ?_
      refine x_get xf_Mo_193_Mo (Or.inl hR.1) (v := .int (zI a64)) rfl d_Mo_readList_84 ?_
      have hb84 : inR a64 := hR.2.2.2 27
      refine x_iload_n d_Mo_readList_87 rfl ?_
      refine z_if_eq (tgt := 102) d_Mo_readList_88 (by decide) (by omega) (fun hc88 => ?_) (fun hc88 => ?_)
      · refine x_iconst (v := zI 0) d_Mo_readList_102 (by decide) ?_
        refine z_iadd d_Mo_readList_103 ?_
        refine r_put xf_Mo_193_Mo xp_Mo_27 hR hX (by omega) rfl rfl d_Mo_readList_104 ?_
        intro h hR hX
        refine x_goto (tgt := 10) d_Mo_readList_107 (by decide) ?_
        exact fin a64 _ _ (by omega) (by omega) (by omega) _ hR hX
      · refine x_aload_n d_Mo_readList_91 rfl rfl ?_
        refine x_get xf_Mo_190_Mo (Or.inl hR.1) (v := .int (zI (S4.1 29))) rfl d_Mo_readList_92 ?_
        have hb92 : inR (S4.1 29) := hR.2.2.2 29
        refine z_if_ge (tgt := 102) d_Mo_readList_95 (by decide) (by omega) (fun _ => ?_) (fun hq => by omega)
        refine x_iconst (v := zI 0) d_Mo_readList_102 (by decide) ?_
        refine z_iadd d_Mo_readList_103 ?_
        refine r_put xf_Mo_193_Mo xp_Mo_27 hR hX (by omega) rfl rfl d_Mo_readList_104 ?_
        intro h hR hX
        refine x_goto (tgt := 10) d_Mo_readList_107 (by decide) ?_
        exact fin a64 _ _ (by omega) (by omega) (by omega) _ hR hX
    · refine x_iconst (v := zI 1) d_Mo_readList_76 (by decide) ?_
      refine x_goto (tgt := 81) d_Mo_readList_77 (by decide) ?_
      refine x_istore_n (L' := [_, _, _, _]) d_Mo_readList_81 rfl rfl ?_
      refine x_aload_n d_Mo_readList_82 rfl rfl ?_
      refine x_dup d_Mo_readList_83 rfl ?_
      refine x_get xf_Mo_193_Mo (Or.inl hR.1) (v := .int (zI a64)) rfl d_Mo_readList_84 ?_
      have hb84 : inR a64 := hR.2.2.2 27
      refine x_iload_n d_Mo_readList_87 rfl ?_
      refine z_if_eq (tgt := 102) d_Mo_readList_88 (by decide) (by omega) (fun hc88 => ?_) (fun hc88 => ?_)
      · refine x_iconst (v := zI 0) d_Mo_readList_102 (by decide) ?_
        refine z_iadd d_Mo_readList_103 ?_
        refine r_put xf_Mo_193_Mo xp_Mo_27 hR hX (by omega) rfl rfl d_Mo_readList_104 ?_
        intro h hR hX
        refine x_goto (tgt := 10) d_Mo_readList_107 (by decide) ?_
        exact fin a64 _ _ (by omega) (by omega) (by omega) _ hR hX
      · refine x_aload_n d_Mo_readList_91 rfl rfl ?_
        refine x_get xf_Mo_190_Mo (Or.inl hR.1) (v := .int (zI (S4.1 29))) rfl d_Mo_readList_92 ?_
        have hb92 : inR (S4.1 29) := hR.2.2.2 29
        refine z_if_ge (tgt := 102) d_Mo_readList_95 (by decide) (by omega) (fun _ => ?_) (fun hq => by omega)
        refine x_iconst (v := zI 0) d_Mo_readList_102 (by decide) ?_
        refine z_iadd d_Mo_readList_103 ?_
        refine r_put xf_Mo_193_Mo xp_Mo_27 hR hX (by omega) rfl rfl d_Mo_readList_104 ?_
        intro h hR hX
        refine x_goto (tgt := 10) d_Mo_readList_107 (by decide) ?_
        exact fin a64 _ _ (by omega) (by omega) (by omega) _ hR hX
  -- the list is closed
  have ex1 : ∀ (S1 : MS) (q mo : Int) (p2 : Nat) (ws : List (List Nat)) (u : List Nat), rSm S S1 [27, 29] [23, 24, 26] [22] → aOX S S1 (S.1 28) → rdOk S1 P R w → slR Ns S1 (S.1 28) dn tx → S1.1 27 = (skp t p2 : Nat) → p2 ≤ t.length → S1.1 29 = -1 → gd (S1.2.1 26) (S.1 28) = gd (S.2.1 26) (S.1 28) + (ws ++ [u]).length → vsR S1 (vnN S) kd (ws ++ [u]) → a0 + 4 + wU (ws ++ [u]) - (ws ++ [u]).length ≤ p2 + 1 → (chr t (skp t p2) = 93 → (rlist t kd p).1 = skp t p2 + 1 ∧ (rlist t kd p).2.1 = some ((ws ++ [u]).map (klv kd)) ∧ (rlist t kd p).2.2 = 91 :: (vsT (ws ++ [u]) ++ [93])) → (chr t (skp t p2) ≠ 93 → (rlist t kd p).1 = skp t p2 ∧ (rlist t kd p).2.1 = none) → RX l G M_Mo_readList (d + 1) 110 [some (.ref o), some (.int (zI nm)), some (.int (zI q)), some (.int (zI mo))] [] H0 o rf c n S1 (rlX t Ns kd p S P R w dn tx a0) := by
    intro S1 q mo p2 ws u hsm hag hS1 hsl1 h271 hp2 hw1 hg26 hvs hwt h93 hn93 h hR hX
    have hc1 : cx t Ns S1 := hc.sm hsm (by decide) (by decide)
    have hk2 := skp_le hp2
    have hk3 : p2 ≤ skp t p2 := scn_ge
    have hid := skp_idem hp2
    have hE := r_expectX (l := l) (G := G) (o := o) (rf := rf) (d := d) (k := 93) (by omega) (by decide) hc1 h271 hk2 hw1
    rw [hid] at hE
    refine x_aload_n d_Mo_readList_110 rfl rfl ?_
    refine x_get xf_Mo_190_Mo (Or.inl hR.1) (v := .int (zI (S1.1 29))) rfl d_Mo_readList_111 ?_
    have hb111 : inR (S1.1 29) := hR.2.2.2 29
    refine z_if_ge (tgt := 123) d_Mo_readList_114 (by decide) (by omega) (fun hq => by omega) (fun _ => ?_)
    refine x_aload_n d_Mo_readList_117 rfl rfl ?_
    refine x_bipush (v := zI 93) d_Mo_readList_118 (by decide) ?_
    refine x_callV (As := [_]) (k := k_MarkerTextModel) rfl xcv_Mo_232_Mo (Or.inl hR.1) (RM.ap hR hE) rfl rfl (Nat.le_of_ble_eq_true rfl) d_Mo_readList_120 ?_
    rintro v120 h cq nq ⟨S120, hR, hX120, rfl, rfl, rfl, hsm1, hor1⟩
    replace hX := hX.tr hX120
    refine x_vret d_Mo_readList_123 rfl ?_
    have hag2 : aOX S1 S120 (S.1 28) := aOX.sm hsm1 (by decide) (by decide) (by decide)
    have hsm3 := hsm.tr (hsm1.mono (by decide) (by decide) (by decide))
    rcases hor1 with ⟨q1, q2, q3⟩ | ⟨q1, q2, q3⟩
    · obtain ⟨g1, g2, g3⟩ := h93 q1
      have hlt : skp t p2 < t.length := Nat.lt_of_not_le (fun z => by rw [chr_out z] at q1; omega)
      exact ⟨_, hR, hX, rfl, rfl, rfl, hsm3, hag.tr hag2, by omega, Or.inr ⟨ws ++ [u], g2, by simp, q2, by rw [g1]; exact q3, by omega, rd_at hS1 hsm1 (by decide) (by decide) (by omega) (by have := hsm.1 2 (by decide); omega), hsl1.sm hsm1 (by decide) (by decide) (by decide), by rw [hsm1.2.1 26 (by decide)]; exact hg26, fun j y hy => ⟨by have := (hvs j y hy).1; unfold vlR; rw [hsm1.2.2 22 (by decide), hsm1.2.1 24 (by decide), hsm1.2.1 23 (by decide)]; exact this, (hvs j y hy).2⟩, g3, by omega⟩⟩
    · obtain ⟨g1, g2⟩ := hn93 q1
      exact ⟨_, hR, hX, rfl, rfl, rfl, hsm3, hag.tr hag2, by omega, Or.inl ⟨g2, by rw [g1]; exact q2⟩⟩
  have g63 : ∀ (S5 : MS) (p2 : Nat) (ws : List (List Nat)) (u : List Nat) (q mo : Int), rSm S S5 [27, 29] [23, 24, 26] [22] → aOX S S5 (S.1 28) → rdOk S5 P R w → slR Ns S5 (S.1 28) dn tx → S5.1 27 = (p2 : Nat) → p2 ≤ t.length → S5.1 29 = -1 → gd (S5.2.1 26) (S.1 28) = gd (S.2.1 26) (S.1 28) + (ws ++ [u]).length → vsR S5 (vnN S) kd (ws ++ [u]) → q = (ws ++ [u]).length → (ws ++ [u]).length ≤ 6 → a0 + 4 + wU (ws ++ [u]) - (ws ++ [u]).length ≤ p2 + 1 → (chr t (skp t p2) = 44 → (rlist t kd p).1 = (rls t kd (6 - (ws ++ [u]).length) (skp t p2 + 1) ((ws ++ [u]).map (klv kd))).1 ∧ (rlist t kd p).2.1 = (rls t kd (6 - (ws ++ [u]).length) (skp t p2 + 1) ((ws ++ [u]).map (klv kd))).2.1 ∧ ∃ pre : List Nat, (rlist t kd p).2.2 = 91 :: (pre ++ (rls t kd (6 - (ws ++ [u]).length) (skp t p2 + 1) ((ws ++ [u]).map (klv kd))).2.2) ∧ ∀ ws' : List (List Nat), ws' ≠ [] → vsT ((ws ++ [u]) ++ ws') = pre ++ vsT ws') → (chr t (skp t p2) = 93 → (rlist t kd p).1 = skp t p2 + 1 ∧ (rlist t kd p).2.1 = some ((ws ++ [u]).map (klv kd)) ∧ (rlist t kd p).2.2 = 91 :: (vsT (ws ++ [u]) ++ [93])) → (chr t (skp t p2) ≠ 93 → chr t (skp t p2) ≠ 44 → (rlist t kd p).1 = skp t p2 ∧ (rlist t kd p).2.1 = none) → (∀ (S2 : MS) (pp2 : Nat) (q2 : Int), rlI t Ns kd p S P R w dn tx a0 S2 pp2 (ws ++ [u]) → q2 = (ws ++ [u]).length → p2 < pp2 → RX l G M_Mo_readList (d + 1) 10 [some (.ref o), some (.int (zI nm)), some (.int (zI q2)), some (.int (zI 1))] [] H0 o rf c n S2 (rlX t Ns kd p S P R w dn tx a0)) → RX l G M_Mo_readList (d + 1) 63 [some (.ref o), some (.int (zI nm)), some (.int (zI q)), some (.int (zI mo))] [] H0 o rf c n S5 (rlX t Ns kd p S P R w dn tx a0) := by
    intro S5 p2 ws u q mo hsm hag hS5 hsl5 h275 hp2 hw5 hg26 hvs hq hl6 hwt h44 h93 hxx nx h hR hX
    have hc5 : cx t Ns S5 := hc.sm hsm (by decide) (by decide)
    have f2 := hsm.1 2 (by decide)
    have hk2 := skp_le hp2
    have hk3 : p2 ≤ skp t p2 := scn_ge
    have n44 := nw_eq (p := skp t p2) (ch := 44) hok (by decide)
    have nb := nw_b (p := skp t p2) hok
    have hcB : ∀ a : Int, cx t Ns (sp S5 27 a) := fun a => hc5.sm (js := [27]) (is := []) (ls := []) (rSm.r0.sp (by decide)) (by decide) (by decide)
    have hsmZ : ∀ z : Int, rSm S5 (sp (sp S5 27 ((skp t p2 : Nat) : Int)) 27 z) [27] [] [] := fun z => (rSm.r0.sp (by decide)).sp (by decide)
    by_cases k44 : chr t (skp t p2) = 44
    · have e44 : nw t (skp t p2) = 44 := n44.mpr k44
      have hlt : skp t p2 < t.length := Nat.lt_of_not_le (fun z => by rw [chr_out z] at k44; omega)
      obtain ⟨g1, g2, g3⟩ := h44 k44
      refine x_aload_n d_Mo_readList_63 rfl rfl ?_
      refine x_callV (As := []) (k := k_MarkerTextModel) rfl xcv_Mo_225_Mo (Or.inl hR.1) (RM.ap hR (r_skipX hc5 h275 hp2)) rfl rfl (Nat.le_of_ble_eq_true rfl) d_Mo_readList_64 ?_
      rintro v64 h cq nq ⟨S64, hR, hX64, rfl, rfl, rfl, rfl⟩
      replace hX := hX.tr hX64
      refine x_aload_n d_Mo_readList_67 rfl rfl ?_
      refine x_callV (As := []) (k := k_MarkerTextModel) rfl xcv_Mo_228_Mo (Or.inl hR.1) (RM.ap hR (r_nowX (hcB _) rfl)) rfl rfl (Nat.le_of_ble_eq_true rfl) d_Mo_readList_68 ?_
      rintro v68 h cq nq ⟨S68, hR, hX68, rfl, rfl, hE68, rfl⟩
      replace hE68 := Eq.symm hE68
      subst hE68
      replace hX := hX.tr hX68
      refine x_bipush (v := zI 44) d_Mo_readList_71 (by decide) ?_
      refine z_icmp_ne (tgt := 80) d_Mo_readList_73 (by decide) (by omega) (by omega) (fun hq => by omega) (fun _ => ?_)
      refine x_iconst (v := zI 1) d_Mo_readList_76 (by decide) ?_
      refine x_goto (tgt := 81) d_Mo_readList_77 (by decide) ?_
      refine x_istore_n (L' := [_, _, _, _]) d_Mo_readList_81 rfl rfl ?_
      refine x_aload_n d_Mo_readList_82 rfl rfl ?_
      refine x_dup d_Mo_readList_83 rfl ?_
      refine x_get xf_Mo_193_Mo (Or.inl hR.1) (v := .int (zI ((skp t p2 : Nat) : Int))) rfl d_Mo_readList_84 ?_
      have hb84 : inR ((skp t p2 : Nat) : Int) := hR.2.2.2 27
      refine x_iload_n d_Mo_readList_87 rfl ?_
      refine z_if_eq (tgt := 102) d_Mo_readList_88 (by decide) (by omega) (fun hq => by omega) (fun _ => ?_)
      refine x_aload_n d_Mo_readList_91 rfl rfl ?_
      refine x_get xf_Mo_190_Mo (Or.inl hR.1) (v := .int (zI (S5.1 29))) rfl d_Mo_readList_92 ?_
      have hb92 : inR (S5.1 29) := hR.2.2.2 29
      refine z_if_ge (tgt := 102) d_Mo_readList_95 (by decide) (by omega) (fun hq => by omega) (fun _ => ?_)
      refine x_iconst (v := zI 1) d_Mo_readList_98 (by decide) ?_
      refine x_goto (tgt := 103) d_Mo_readList_99 (by decide) ?_
      refine z_iadd d_Mo_readList_103 ?_
      refine r_put xf_Mo_193_Mo xp_Mo_27 hR hX (by omega) rfl rfl d_Mo_readList_104 ?_
      intro h hR hX
      refine x_goto (tgt := 10) d_Mo_readList_107 (by decide) ?_
      exact nx _ (skp t p2 + 1) q ⟨hsm.tr ((hsmZ _).mono (by decide) (by decide) (by decide)), hag.tr (aOX.sm (hsmZ _) (by decide) (by decide) (by decide)), rd_at hS5 (hsmZ _) (by decide) (by decide) (by show S5.1 27 ≤ ((skp t p2 : Nat) : Int) + 1; omega) (by show ((skp t p2 : Nat) : Int) + 1 ≤ S5.1 2 + 1; omega), hsl5.sm (hsmZ _) (by decide) (by decide) (by decide), ⟨by show ((skp t p2 : Nat) : Int) + 1 = ((skp t p2 + 1 : Nat) : Int); omega, by omega⟩, hw5, hl6, hg26, hvs, by omega, g1, g2, g3⟩ hq (by omega) _ hR hX
    · have e44 : ¬ nw t (skp t p2) = 44 := fun z => k44 (n44.mp z)
      refine x_aload_n d_Mo_readList_63 rfl rfl ?_
      refine x_callV (As := []) (k := k_MarkerTextModel) rfl xcv_Mo_225_Mo (Or.inl hR.1) (RM.ap hR (r_skipX hc5 h275 hp2)) rfl rfl (Nat.le_of_ble_eq_true rfl) d_Mo_readList_64 ?_
      rintro v64 h cq nq ⟨S64, hR, hX64, rfl, rfl, rfl, rfl⟩
      replace hX := hX.tr hX64
      refine x_aload_n d_Mo_readList_67 rfl rfl ?_
      refine x_callV (As := []) (k := k_MarkerTextModel) rfl xcv_Mo_228_Mo (Or.inl hR.1) (RM.ap hR (r_nowX (hcB _) rfl)) rfl rfl (Nat.le_of_ble_eq_true rfl) d_Mo_readList_68 ?_
      rintro v68 h cq nq ⟨S68, hR, hX68, rfl, rfl, hE68, rfl⟩
      replace hE68 := Eq.symm hE68
      subst hE68
      replace hX := hX.tr hX68
      refine x_bipush (v := zI 44) d_Mo_readList_71 (by decide) ?_
      refine z_icmp_ne (tgt := 80) d_Mo_readList_73 (by decide) (by omega) (by omega) (fun _ => ?_) (fun hq => by omega)
      refine x_iconst (v := zI 0) d_Mo_readList_80 (by decide) ?_
      refine x_istore_n (L' := [_, _, _, _]) d_Mo_readList_81 rfl rfl ?_
      refine x_aload_n d_Mo_readList_82 rfl rfl ?_
      refine x_dup d_Mo_readList_83 rfl ?_
      refine x_get xf_Mo_193_Mo (Or.inl hR.1) (v := .int (zI ((skp t p2 : Nat) : Int))) rfl d_Mo_readList_84 ?_
      have hb84 : inR ((skp t p2 : Nat) : Int) := hR.2.2.2 27
      refine x_iload_n d_Mo_readList_87 rfl ?_
      refine z_if_eq (tgt := 102) d_Mo_readList_88 (by decide) (by omega) (fun _ => ?_) (fun hq => by omega)
      refine x_iconst (v := zI 0) d_Mo_readList_102 (by decide) ?_
      refine z_iadd d_Mo_readList_103 ?_
      refine r_put xf_Mo_193_Mo xp_Mo_27 hR hX (by omega) rfl rfl d_Mo_readList_104 ?_
      intro h hR hX
      refine x_goto (tgt := 10) d_Mo_readList_107 (by decide) ?_
      refine x_iload_n d_Mo_readList_10 rfl ?_
      refine z_if_eq (tgt := 110) d_Mo_readList_11 (by decide) (by omega) (fun _ => ?_) (fun hq => by omega)
      exact ex1 _ q 0 p2 ws u (hsm.tr ((hsmZ _).mono (by decide) (by decide) (by decide))) (hag.tr (aOX.sm (hsmZ _) (by decide) (by decide) (by decide))) (rd_at hS5 (hsmZ _) (by decide) (by decide) (by show S5.1 27 ≤ ((skp t p2 : Nat) : Int) + 0; omega) (by show ((skp t p2 : Nat) : Int) + 0 ≤ S5.1 2 + 1; omega)) (hsl5.sm (hsmZ _) (by decide) (by decide) (by decide)) (by show ((skp t p2 : Nat) : Int) + 0 = _; omega) hp2 hw5 hg26 hvs hwt h93 (fun z => hxx z k44) _ hR hX
  have bd : ∀ (S1 : MS) (pp : Nat) (ws : List (List Nat)) (q : Int), rlI t Ns kd p S P R w dn tx a0 S1 pp ws → q = ws.length → (∀ (S2 : MS) (pp2 : Nat) (u : List Nat) (q2 : Int), rlI t Ns kd p S P R w dn tx a0 S2 pp2 (ws ++ [u]) → q2 = (ws ++ [u]).length → pp < pp2 → RX l G M_Mo_readList (d + 1) 10 [some (.ref o), some (.int (zI nm)), some (.int (zI q2)), some (.int (zI 1))] [] H0 o rf c n S2 (rlX t Ns kd p S P R w dn tx a0)) → RX l G M_Mo_readList (d + 1) 10 [some (.ref o), some (.int (zI nm)), some (.int (zI q)), some (.int (zI 1))] [] H0 o rf c n S1 (rlX t Ns kd p S P R w dn tx a0) := by
    intro S1 pp ws q hI hq nx
    obtain ⟨hsm, hag, hS1, hsl1, ⟨h271, hpp⟩, hw1, hl6, hg26, hvs, hwt, hr1, hr2, pre, hr3, hpre⟩ := hI
    have hc1 : cx t Ns S1 := hc.sm hsm (by decide) (by decide)
    have f2 := hsm.1 2 (by decide)
    have f28 := hsm.1 28 (by decide)
    have hk2 := skp_le hpp
    have hk3 : pp ≤ skp t pp := scn_ge
    have hid := skp_idem hpp
    have hrvs := rvl_skp (kd := kd) hpp
    have hnw := nw_eq (p := skp t pp) (ch := 39) hok (by decide)
    have hnb := nw_b (p := skp t pp) hok
    have hcA : ∀ a : Int, cx t Ns (sp S1 27 a) := fun a => hc1.sm (js := [27]) (is := []) (ls := []) (rSm.r0.sp (by decide)) (by decide) (by decide)
    have hvb : 0 ≤ gd (S1.2.1 26) (S1.1 28) ∧ gd (S1.2.1 26) (S1.1 28) ≤ 40 := by have := hS1.2.2.2.2.2.2.2.2.1; exact ⟨this.2.2.2.2.1, this.2.2.2.2.2.1⟩
    have hsmA : rSm S1 (sp S1 27 (skp t pp : Nat)) [27, 29] [23, 24, 26] [22] := rSm.r0.sp (by decide)
    have hV := hxx (sp S1 27 (skp t pp : Nat)) (hcA _) (skp t pp) rfl hk2 hw1 (by show 0 ≤ S1.1 28 ∧ S1.1 28 ≤ 8; omega) hvb
    by_cases h6 : ws.length = 6
    · rw [h6, Nat.sub_self] at hr1 hr2 hr3
      have hr1' : (rlist t kd p).1 = skp t pp := hr1
      have hr2' : (rlist t kd p).2.1 = none := hr2
      intro h hR hX
      by_cases h39 : chr t (skp t pp) = 39
      · have hn39 : nw t (skp t pp) = 39 := hnw.mpr h39
        refine x_iload_n d_Mo_readList_10 rfl ?_
        refine z_if_eq (tgt := 110) d_Mo_readList_11 (by decide) (by omega) (fun hq => by omega) (fun _ => ?_)
        refine x_aload_n d_Mo_readList_14 rfl rfl ?_
        refine x_get xf_Mo_190_Mo (Or.inl hR.1) (v := .int (zI (S1.1 29))) rfl d_Mo_readList_15 ?_
        have hb15 : inR (S1.1 29) := hR.2.2.2 29
        refine z_if_ge (tgt := 110) d_Mo_readList_18 (by decide) (by omega) (fun hq => by omega) (fun _ => ?_)
        refine x_aload_n d_Mo_readList_21 rfl rfl ?_
        refine x_callV (As := []) (k := k_MarkerTextModel) rfl xcv_Mo_225_Mo (Or.inl hR.1) (RM.ap hR (r_skipX hc1 h271 hpp)) rfl rfl (Nat.le_of_ble_eq_true rfl) d_Mo_readList_22 ?_
        rintro v22 h cq nq ⟨S22, hR, hX22, rfl, rfl, rfl, rfl⟩
        replace hX := hX.tr hX22
        refine x_iload_n d_Mo_readList_25 rfl ?_
        refine x_bipush (v := zI 6) d_Mo_readList_26 (by decide) ?_
        refine z_icmp_ne (tgt := 48) d_Mo_readList_28 (by decide) (by omega) (by omega) (fun hq => by omega) (fun _ => ?_)
        refine x_aload_n d_Mo_readList_31 rfl rfl ?_
        refine x_callV (As := []) (k := k_MarkerTextModel) rfl xcv_Mo_228_Mo (Or.inl hR.1) (RM.ap hR (r_nowX (hcA _) rfl)) rfl rfl (Nat.le_of_ble_eq_true rfl) d_Mo_readList_32 ?_
        rintro v32 h cq nq ⟨S32, hR, hX32, rfl, rfl, hE32, rfl⟩
        replace hE32 := Eq.symm hE32
        subst hE32
        replace hX := hX.tr hX32
        refine x_bipush (v := zI 39) d_Mo_readList_35 (by decide) ?_
        refine z_icmp_ne (tgt := 48) d_Mo_readList_37 (by decide) (by omega) (by omega) (fun hq => by omega) (fun _ => ?_)
        refine x_aload_n d_Mo_readList_40 rfl rfl ?_
        refine x_aload_n d_Mo_readList_41 rfl rfl ?_
        refine x_get xf_Mo_193_Mo (Or.inl hR.1) (v := .int (zI ((skp t pp : Nat) : Int))) rfl d_Mo_readList_42 ?_
        have hb42 : inR ((skp t pp : Nat) : Int) := hR.2.2.2 27
        refine x_callV (As := [_]) (k := k_MarkerTextModel) rfl xcv_Mo_218_Mo (Or.inl hR.1) (RM.ap hR (r_fault (by omega))) rfl rfl (Nat.le_of_ble_eq_true rfl) d_Mo_readList_45 ?_
        rintro v45 h cq nq ⟨S45, hR, hX45, rfl, rfl, a45, rfl, rfl, ha45⟩
        replace hX := hX.tr hX45
        replace ha45 : a45 = ((skp t pp : Nat) : Int) := flt ha45 hw1
        refine x_aload_n d_Mo_readList_48 rfl rfl ?_
        refine x_get xf_Mo_190_Mo (Or.inl hR.1) (v := .int (zI a45)) rfl d_Mo_readList_49 ?_
        have hb49 : inR a45 := hR.2.2.2 29
        refine z_if_ge (tgt := 63) d_Mo_readList_52 (by decide) (by omega) (fun _ => ?_) (fun hq => by omega)
        exact w63 _ _ _ (hsm.tr ((rSm.r0.sp (by decide)).sp (by decide))) (hag.tr (aOX.sm (((rSm.r0 (js := [27, 29]) (is := []) (ls := [])).sp (by decide)).sp (by decide)) (by decide) (by decide) (by decide))) (by show 0 ≤ ((skp t pp : Nat) : Int) ∧ ((skp t pp : Nat) : Int) ≤ S.1 2; omega) hr2' (by rw [hr1']; exact ha45) _ hR hX
      · have hn39 : ¬ nw t (skp t pp) = 39 := fun z => h39 (hnw.mp z)
        have hrv : rvl t kd (skp t pp) = (skp t pp, 0, []) := by
          unfold rvl
          rw [hid, if_neg h39]
        refine x_iload_n d_Mo_readList_10 rfl ?_
        refine z_if_eq (tgt := 110) d_Mo_readList_11 (by decide) (by omega) (fun hq => by omega) (fun _ => ?_)
        refine x_aload_n d_Mo_readList_14 rfl rfl ?_
        refine x_get xf_Mo_190_Mo (Or.inl hR.1) (v := .int (zI (S1.1 29))) rfl d_Mo_readList_15 ?_
        have hb15 : inR (S1.1 29) := hR.2.2.2 29
        refine z_if_ge (tgt := 110) d_Mo_readList_18 (by decide) (by omega) (fun hq => by omega) (fun _ => ?_)
        refine x_aload_n d_Mo_readList_21 rfl rfl ?_
        refine x_callV (As := []) (k := k_MarkerTextModel) rfl xcv_Mo_225_Mo (Or.inl hR.1) (RM.ap hR (r_skipX hc1 h271 hpp)) rfl rfl (Nat.le_of_ble_eq_true rfl) d_Mo_readList_22 ?_
        rintro v22 h cq nq ⟨S22, hR, hX22, rfl, rfl, rfl, rfl⟩
        replace hX := hX.tr hX22
        refine x_iload_n d_Mo_readList_25 rfl ?_
        refine x_bipush (v := zI 6) d_Mo_readList_26 (by decide) ?_
        refine z_icmp_ne (tgt := 48) d_Mo_readList_28 (by decide) (by omega) (by omega) (fun hq => by omega) (fun _ => ?_)
        refine x_aload_n d_Mo_readList_31 rfl rfl ?_
        refine x_callV (As := []) (k := k_MarkerTextModel) rfl xcv_Mo_228_Mo (Or.inl hR.1) (RM.ap hR (r_nowX (hcA _) rfl)) rfl rfl (Nat.le_of_ble_eq_true rfl) d_Mo_readList_32 ?_
        rintro v32 h cq nq ⟨S32, hR, hX32, rfl, rfl, hE32, rfl⟩
        replace hE32 := Eq.symm hE32
        subst hE32
        replace hX := hX.tr hX32
        refine x_bipush (v := zI 39) d_Mo_readList_35 (by decide) ?_
        refine z_icmp_ne (tgt := 48) d_Mo_readList_37 (by decide) (by omega) (by omega) (fun _ => ?_) (fun hq => by omega)
        refine x_aload_n d_Mo_readList_48 rfl rfl ?_
        refine x_get xf_Mo_190_Mo (Or.inl hR.1) (v := .int (zI (S1.1 29))) rfl d_Mo_readList_49 ?_
        have hb49 : inR (S1.1 29) := hR.2.2.2 29
        refine z_if_ge (tgt := 63) d_Mo_readList_52 (by decide) (by omega) (fun hq => by omega) (fun _ => ?_)
        refine x_aload_n d_Mo_readList_55 rfl rfl ?_
        refine x_iload_n d_Mo_readList_56 rfl ?_
        refine x_callV (As := [_]) (k := k_MarkerTextModel) rfl xcv_Mo_235_Mo (Or.inl hR.1) (RM.ap hR hV) rfl rfl (Nat.le_of_ble_eq_true rfl) d_Mo_readList_57 ?_
        rintro v57 h cq nq ⟨S57, hR, hX57, rfl, rfl, rfl, hsm57, hb57, hor57⟩
        replace hX := hX.tr hX57
        refine x_iinc (v := zI (q + 1)) (L' := [_, _, _, _]) d_Mo_readList_60 rfl (zI_add _ _) rfl rfl ?_
        rw [hrv] at hor57
        rcases hor57 with ⟨-, q2, q3⟩ | ⟨q1, -⟩
        · exact w63 _ _ _ (hsm.tr (hsmA.tr hsm57)) (hag.tr ((aOX.sm ((rSm.r0 (js := [27]) (is := []) (ls := [])).sp (by decide)) (by decide) (by decide) (by decide)).tr (aOX.sm q3 (by decide) (by decide) (by decide)))) (by have h1 : S57.1 27 ≤ S1.1 2 := hb57.2; omega) hr2' (by rw [hr1']; exact q2) _ hR hX
        · exact absurd rfl q1
    · obtain ⟨k, hk⟩ : ∃ k, 6 - ws.length = k + 1 := ⟨6 - ws.length - 1, by omega⟩
      rw [hk] at hr1 hr2 hr3
      intro h hR hX
      have l22 : (S1.2.2.1 22).length = 576 := hR.lenl 22 (by decide)
      have l24 : (S1.2.1 24).length = 576 := hR.len 24 (by decide)
      have l26 : (S1.2.1 26).length = 9 := hR.len 26 (by decide)
      refine x_iload_n d_Mo_readList_10 rfl ?_
      refine z_if_eq (tgt := 110) d_Mo_readList_11 (by decide) (by omega) (fun hq => by omega) (fun _ => ?_)
      refine x_aload_n d_Mo_readList_14 rfl rfl ?_
      refine x_get xf_Mo_190_Mo (Or.inl hR.1) (v := .int (zI (S1.1 29))) rfl d_Mo_readList_15 ?_
      have hb15 : inR (S1.1 29) := hR.2.2.2 29
      refine z_if_ge (tgt := 110) d_Mo_readList_18 (by decide) (by omega) (fun hq => by omega) (fun _ => ?_)
      refine x_aload_n d_Mo_readList_21 rfl rfl ?_
      refine x_callV (As := []) (k := k_MarkerTextModel) rfl xcv_Mo_225_Mo (Or.inl hR.1) (RM.ap hR (r_skipX hc1 h271 hpp)) rfl rfl (Nat.le_of_ble_eq_true rfl) d_Mo_readList_22 ?_
      rintro v22 h cq nq ⟨S22, hR, hX22, rfl, rfl, rfl, rfl⟩
      replace hX := hX.tr hX22
      refine x_iload_n d_Mo_readList_25 rfl ?_
      refine x_bipush (v := zI 6) d_Mo_readList_26 (by decide) ?_
      refine z_icmp_ne (tgt := 48) d_Mo_readList_28 (by decide) (by omega) (by omega) (fun _ => ?_) (fun hq => by omega)
      refine x_aload_n d_Mo_readList_48 rfl rfl ?_
      refine x_get xf_Mo_190_Mo (Or.inl hR.1) (v := .int (zI (S1.1 29))) rfl d_Mo_readList_49 ?_
      have hb49 : inR (S1.1 29) := hR.2.2.2 29
      refine z_if_ge (tgt := 63) d_Mo_readList_52 (by decide) (by omega) (fun hq => by omega) (fun _ => ?_)
      refine x_aload_n d_Mo_readList_55 rfl rfl ?_
      refine x_iload_n d_Mo_readList_56 rfl ?_
      refine x_callV (As := [_]) (k := k_MarkerTextModel) rfl xcv_Mo_235_Mo (Or.inl hR.1) (RM.ap hR hV) rfl rfl (Nat.le_of_ble_eq_true rfl) d_Mo_readList_57 ?_
      rintro v57 h cq nq ⟨S57, hR, hX57, rfl, rfl, rfl, hsm57, hb57, hor57⟩
      replace hX := hX.tr hX57
      refine x_iinc (v := zI (q + 1)) (L' := [_, _, _, _]) d_Mo_readList_60 rfl (zI_add _ _) rfl rfl ?_
      rw [hrvs] at hor57
      replace hb57 : 0 ≤ S57.1 27 ∧ S57.1 27 ≤ S1.1 2 := hb57
      have hsm6 := hsmA.tr hsm57
      have hsm7 := hsm.tr hsm6
      rcases hor57 with ⟨q1, q2, q3⟩ | ⟨q1, q2, q3, u, u1, u2, u3, u4, u5, u6, u7, u8, u9⟩
      · rw [rls_f q1] at hr1 hr2
        exact w63 _ _ _ hsm7 (hag.tr ((aOX.sm ((rSm.r0 (js := [27]) (is := []) (ls := [])).sp (by decide)) (by decide) (by decide) (by decide)).tr (aOX.sm q3 (by decide) (by decide) (by decide)))) (by omega) hr2 (by rw [hr1]; exact q2) _ hR hX
      · replace u5 : ((skp t pp : Nat) : Int) + u.length + 2 ≤ S57.1 27 := u5
        have hvn1 : vnN S1 = vnN S + ws.length := by show 64 * S1.1 28 + gd (S1.2.1 26) (S1.1 28) = _; rw [f28, hg26]; omega
        have hsl1' : slR Ns S1 (S1.1 28) dn tx := by rw [f28]; exact hsl1
        have hV4 := hS1.2.2.2.2.2.2.2.2.2.2.1
        have hg26' : gd (S1.2.1 26) (S1.1 28) = gd (S.2.1 26) (S.1 28) + ws.length := by rw [f28]; exact hg26
        have hwl : 5 * ws.length ≤ wU ws := wU_ge hvs
        obtain ⟨v1, v2, v3, v4, v5⟩ := val_step (S := S1) (S' := S57) hS1 hsl1' l22 l24 l26 hvs (by omega) (by omega) u1 hsm6 u6 u7 u8 u9 (by omega) (by omega) (by omega)
        rw [f28] at v2 v4 v5
        have hp2 : (rvl t kd pp).1 ≤ t.length := rvl_le hpp
        have hwapp := wU_app (u := u) ws
        have hlapp : (ws ++ [u]).length = ws.length + 1 := by simp
        have hmap : (ws ++ [u]).map (klv kd) = ws.map (klv kd) ++ [(rvl t kd pp).2.1] := by rw [List.map_append, u3]; rfl
        have hk' : 6 - (ws ++ [u]).length = k := by rw [hlapp]; omega
        have hv26 : gd (S57.2.1 26) (S.1 28) = gd (S.2.1 26) (S.1 28) + (ws ++ [u]).length := by rw [v4, hg26, hlapp]; omega
        refine g63 S57 (rvl t kd pp).1 ws u _ _ hsm7 (hag.tr v5) v1 v2 q3 hp2 q2 hv26 v3 (by omega) (by omega) (by omega) ?_ ?_ ?_ (fun S2 pp2 q2 hI2 hq2 hlt => nx S2 pp2 u q2 hI2 hq2 (by omega)) _ hR hX
        · intro k44
          rw [rls_44 q1 k44] at hr1 hr2 hr3
          rw [hk', hmap]
          refine ⟨hr1, hr2, pre ++ ((39 :: (u ++ [39])) ++ [44, 32]), ?_, fun ws' hne => ?_⟩
          · rw [hr3, u4]
            simp only [List.append_assoc]
          · rw [List.append_assoc, hpre _ (by simp)]
            show pre ++ vsT (u :: ws') = _
            rw [vsT_more hne]
            simp only [List.append_assoc]
            rfl
        · intro k93
          rw [rls_93 q1 k93] at hr1 hr2 hr3
          refine ⟨hr1, by rw [hmap]; exact hr2, ?_⟩
          rw [hr3, u4, hpre [u] (by simp), vsT_one]
          simp only [List.append_assoc]
        · intro k93 k44
          rw [rls_x q1 k93 k44] at hr1 hr2
          exact ⟨hr1, hr2⟩
  have lp : ∀ (K : Nat) (S1 : MS) (pp : Nat) (ws : List (List Nat)) (q : Int), rlI t Ns kd p S P R w dn tx a0 S1 pp ws → q = ws.length → t.length - pp ≤ K → RX l G M_Mo_readList (d + 1) 10 [some (.ref o), some (.int (zI nm)), some (.int (zI q)), some (.int (zI 1))] [] H0 o rf c n S1 (rlX t Ns kd p S P R w dn tx a0) := by
    intro K
    induction K with
    | zero =>
      intro S1 pp ws q hI hq hK
      exact bd S1 pp ws q hI hq (fun S2 pp2 u q2 hI2 _ hlt => by have := hI2.2.2.2.2.1.2; omega)
    | succ K ih =>
      intro S1 pp ws q hI hq hK
      exact bd S1 pp ws q hI hq (fun S2 pp2 u q2 hI2 hq2 hlt => ih S2 pp2 _ q2 hI2 hq2 (by omega))
  have hE := r_expectX (l := l) (G := G) (o := o) (rf := rf) (d := d) (k := 91) (by omega) (by decide) hc h27 hp hw
  refine x_aload_n d_Mo_readList_0 rfl rfl ?_
  refine x_bipush (v := zI 91) d_Mo_readList_1 (by decide) ?_
  refine x_callV (As := [_]) (k := k_MarkerTextModel) rfl xcv_Mo_232_Mo (Or.inl hR.1) (RM.ap hR hE) rfl rfl (Nat.le_of_ble_eq_true rfl) d_Mo_readList_3 ?_
  rintro v3 h cq nq ⟨S3, hR, hX3, rfl, rfl, rfl, hsm3, hor3⟩
  replace hX := hX.tr hX3
  refine x_iconst (v := zI 0) d_Mo_readList_6 (by decide) ?_
  refine x_istore_n (L' := [_, _, _, _]) d_Mo_readList_7 rfl rfl ?_
  refine x_iconst (v := zI 1) d_Mo_readList_8 (by decide) ?_
  refine x_istore_n (L' := [_, _, _, _]) d_Mo_readList_9 rfl rfl ?_
  have hsm4 : rSm S S3 [27, 29] [23, 24, 26] [22] := hsm3.mono (by decide) (by decide) (by decide)
  have hag3 : aOX S S3 (S.1 28) := aOX.sm hsm3 (by decide) (by decide) (by decide)
  rcases hor3 with ⟨q1, q2, q3⟩ | ⟨q1, q2, q3⟩
  · have hlt : skp t p < t.length := Nat.lt_of_not_le (fun z => by rw [chr_out z] at q1; omega)
    have hrl : rlist t kd p = ((rls t kd 6 (skp t p + 1) []).1, (rls t kd 6 (skp t p + 1) []).2.1, 91 :: (rls t kd 6 (skp t p + 1) []).2.2) := if_pos q1
    exact lp 160 S3 (skp t p + 1) [] 0 ⟨hsm4, hag3, rd_at hS hsm3 (by decide) (by decide) (by omega) (by omega), hsl.sm hsm3 (by decide) (by decide) (by decide), ⟨q3, by omega⟩, q2, by simp, by rw [hsm3.2.1 26 (by decide)]; simp, fun j y hy => by simp at hy, by show a0 + 4 + ((0 : Nat) : Int) - ((0 : Nat) : Int) ≤ ((skp t p + 1 : Nat) : Int); omega, by rw [hrl]; rfl, by rw [hrl]; rfl, [], by rw [hrl]; rfl, fun ws' _ => rfl⟩ rfl (by omega) _ hR hX
  · have hrl : rlist t kd p = (skp t p, none, []) := if_neg q1
    exact w10 S3 0 1 (Or.inr rfl) hsm4 hag3 (by omega) (by rw [hrl]) (by rw [hrl]; exact q2) _ hR hX
end RH6
