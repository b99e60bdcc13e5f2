section

end
section LX7
variable {l : Launch} {G : XG} {h : XH} {c n d : Nat} {o : Nat} {rf : Nat → Nat} {S : MS} {M : XMt}
/-- what the reference keeps between calls -/
def gOk (S : MS) : Prop := szOk S ∧ nmOk S ∧ csOk S ∧ clOk S
theorem clOk.sm {S' : MS} {js is ls : List Nat} (hC : clOk S) (h : rSm S S' js is ls) (hj : 42 ∉ js ∧ 44 ∉ js) : clOk S' := by
  unfold clOk
  rw [h.1 42 hj.1, h.1 44 hj.2]
  exact hC
theorem gOk.sm {S' : MS} {js is ls : List Nat} (hg : gOk S) (h : rSm S S' js is ls) (hj : ∀ j ∈ [2, 3, 11, 42, 44], j ∉ js) (hi : ∀ i ∈ [5, 7, 12, 13, 14, 15, 16, 17, 18, 19, 20, 21, 24, 26], i ∉ is) : gOk S' := by
  obtain ⟨h1, h2, h3, h4⟩ := hg
  have e2 := h.1 2 (hj 2 (by simp))
  refine ⟨?_, h2.sm h (hj 3 (by simp)) ⟨hi 5 (by simp), hi 7 (by simp)⟩, h3.sm h (hj 11 (by simp)) (fun i hq => hi i (List.mem_cons_of_mem _ (List.mem_cons_of_mem _ hq))), h4.sm h ⟨hj 42 (by simp), hj 44 (by simp)⟩⟩
  unfold szOk
  rw [e2]
  exact h1
theorem gd_rep (m : Nat) (i : Int) : gd (List.replicate m 0) i = 0 := by
  unfold gd
  rw [List.getD_eq_getElem?_getD, List.getElem?_replicate]
  split <;> rfl
theorem gOk.new : gOk S0 := by
  refine ⟨⟨Int.le_refl _, by decide⟩, ⟨Int.le_refl _, by decide, fun i _ _ => ?_, fun i _ _ => ?_⟩, ⟨Int.le_refl _, by decide, fun c h0 h1 => ?_⟩, ⟨Int.le_refl _, by decide, Int.le_refl _, by decide⟩⟩
  · show 0 ≤ gd (List.replicate (rLn 5) 0) i ∧ gd (List.replicate (rLn 5) 0) i ≤ 8
    rw [gd_rep]
    omega
  · show 0 ≤ gd (List.replicate (rLn 7) 0) i ∧ gd (List.replicate (rLn 7) 0) i ≤ 6
    rw [gd_rep]
    omega
  · have : c < (0 : Int) := h1
    omega
theorem gOk.z {S' : MS} (h1 : S'.1 2 = 0) (h2 : nmOk S') (h3 : csOk S') (h4 : clOk S') : gOk S' := ⟨⟨by omega, by omega⟩, h2, h3, h4⟩
theorem knR.sm {S' : MS} {Ns : List NmT} {js is ls : List Nat} (hK : knR Ns S) (h : rSm S S' js is ls) (hi : 7 ∉ is) (hl : 8 ∉ ls) : knR Ns S' := by
  unfold knR
  rw [h.2.1 7 hi, h.2.2 8 hl]
  exact hK
theorem gvR.sm {S' : MS} {Ns : List NmT} {lv : Nat → Nat} {js is ls : List Nat} (hV : gvR Ns lv S) (h : rSm S S' js is ls) (hi : 9 ∉ is) (hl : 10 ∉ ls) : gvR Ns lv S' := by
  unfold gvR
  rw [h.2.1 9 hi, h.2.2 10 hl]
  exact hV
theorem knR.nm {Ns : List NmT} {w : List Nat} {kn : Nat} (hK : knR Ns S) (h6 : Ns.length < 6) : knR (Ns ++ [(w, kn, [])]) S := by
  refine ⟨fun i x hx => ?_, fun i h1 h2 => hK.2 i (by simp at h1; omega) h2⟩
  by_cases hi : i < Ns.length
  · rw [List.getElem?_append_left hi] at hx
    exact hK.1 i x hx
  · have hlt := (List.getElem?_eq_some_iff.mp hx).1
    simp at hlt
    obtain rfl : i = Ns.length := by omega
    rw [List.getElem?_append_right (Nat.le_refl _), Nat.sub_self] at hx
    cases hx
    exact ⟨hK.2 _ (Nat.le_refl _) h6, (by show (0 : Nat) ≤ 6; decide), fun j hj => absurd hj (Nat.not_lt_zero _)⟩
theorem gvR.nm {Ns : List NmT} {lv : Nat → Nat} {y : NmT} (hV : gvR Ns lv S) : gvR (Ns ++ [y]) lv S := by
  intro i hi
  rcases hV i hi with h | ⟨h1, x, hx, h2⟩
  · exact Or.inl h
  · exact Or.inr ⟨h1, x, by rw [List.getElem?_append_left (List.getElem?_eq_some_iff.mp hx).1]; exact hx, h2⟩
theorem gvR.val {Ns : List NmT} {lv : Nat → Nat} {k : Nat} {x : NmT} {ks : List Nat} (hV : gvR Ns lv S) (hx : Ns[k]? = some x) : gvR (Ns.set k (x.1, x.2.1, ks)) lv S := by
  intro i hi
  rcases hV i hi with h | ⟨h1, y, hy, h2⟩
  · exact Or.inl h
  · by_cases e : i = k
    · subst e
      rw [hx] at hy
      cases hy
      exact Or.inr ⟨h1, (x.1, x.2.1, ks), by rw [List.getElem?_set_self (List.getElem?_eq_some_iff.mp hx).1], h2⟩
    · exact Or.inr ⟨h1, y, by rw [List.getElem?_set_ne (Ne.symm e)]; exact hy, h2⟩
theorem okTx0 : okTx [] ∧ ([] : List Nat).length ≤ 160 := ⟨fun ch hc => (by cases hc), by decide⟩
theorem nmD.push {Ns : List NmT} {t : List Nat} {kn : Nat} (hD : nmD Ns) (h1 : spl t) (h2 : nof Ns t = none) : nmD (Ns ++ [(t, kn, [])]) := by
  have hno : ∀ x ∈ Ns, ¬ x.1 = t := by
    unfold nof at h2
    rw [List.findIdx?_eq_none_iff] at h2
    simpa using h2
  have hat : ∀ (i : Nat) (x : NmT), (Ns ++ [(t, kn, [])])[i]? = some x → (i < Ns.length ∧ Ns[i]? = some x) ∨ (i = Ns.length ∧ x.1 = t) := by
    intro i x hx
    by_cases hi : i < Ns.length
    · rw [List.getElem?_append_left hi] at hx
      exact Or.inl ⟨hi, hx⟩
    · have hlt := (List.getElem?_eq_some_iff.mp hx).1
      rw [List.length_append] at hlt
      simp at hlt
      obtain rfl : i = Ns.length := by omega
      rw [List.getElem?_append_right (Nat.le_refl _), Nat.sub_self] at hx
      cases hx
      exact Or.inr ⟨rfl, rfl⟩
  refine ⟨fun i j x y hx hy e => ?_, fun x hx => ?_⟩
  · rcases hat i x hx with ⟨a1, a2⟩ | ⟨a1, a2⟩
    · rcases hat j y hy with ⟨b1, b2⟩ | ⟨b1, b2⟩
      · exact hD.1 i j x y a2 b2 e
      · exact absurd (e.trans b2) (hno x (List.mem_of_getElem? a2))
    · rcases hat j y hy with ⟨b1, b2⟩ | ⟨b1, b2⟩
      · exact absurd (e.symm.trans a2) (hno y (List.mem_of_getElem? b2))
      · omega
  · rcases List.mem_append.mp hx with q | q
    · exact hD.2 x q
    · rw [List.mem_singleton] at q
      rw [q]
      exact ⟨h1.2.2, h1.1.1⟩
theorem nmD.set {Ns : List NmT} {k : Nat} {x : NmT} {ks : List Nat} (hD : nmD Ns) (hx : Ns[k]? = some x) : nmD (Ns.set k (x.1, x.2.1, ks)) := by
  have hat : ∀ (i : Nat) (y : NmT), (Ns.set k (x.1, x.2.1, ks))[i]? = some y → ∃ z, Ns[i]? = some z ∧ z.1 = y.1 := by
    intro i y hy
    by_cases e : i = k
    · subst e
      rw [List.getElem?_set_self (List.getElem?_eq_some_iff.mp hx).1] at hy
      cases hy
      exact ⟨x, hx, rfl⟩
    · rw [List.getElem?_set_ne (Ne.symm e)] at hy
      exact ⟨y, hy, rfl⟩
  refine ⟨fun i j a b ha hb e => ?_, fun y hy => ?_⟩
  · obtain ⟨a', a1, a2⟩ := hat i a ha
    obtain ⟨b', b1, b2⟩ := hat j b hb
    exact hD.1 i j a' b' a1 b1 (by rw [a2, b2, e])
  · obtain ⟨i, hi, e⟩ := List.getElem_of_mem hy
    obtain ⟨z, z1, z2⟩ := hat i y (by rw [List.getElem?_eq_getElem hi, e])
    rw [← z2]
    exact hD.2 z (List.mem_of_getElem? z1)
/-- the classes of both -/
def ptO (nc : Nat) (Pt : PtT) (S : MS) : Prop := okP Pt ∧ ptZ nc Pt (S.1 42) (S.2.1 45) (S.2.1 46)
theorem ptO.sm {S' : MS} {nc : Nat} {Pt : PtT} {js is ls : List Nat} (hP : ptO nc Pt S) (h : rSm S S' js is ls) (hj : 42 ∉ js) (hi : 45 ∉ is ∧ 46 ∉ is) : ptO nc Pt S' := by
  unfold ptO
  rw [h.1 42 hj, h.2.1 45 hi.1, h.2.1 46 hi.2]
  exact hP
theorem ptO.up {nc nd : Nat} {Pt : PtT} (hP : ptO nc Pt S) (h : nc ≤ nd) : ptO nd Pt S := ⟨hP.1, hP.2.1, fun k hk => ⟨(hP.2.2 k hk).1, (hP.2.2 k hk).2.1, fun j hj => (hP.2.2 k hk).2.2 j (Nat.le_trans h hj)⟩⟩
/-- what both hold alike: TEXT, the names, the KNOWN VALUES, the ENVIRONMENT, the conditions, the classes -/
def RL (t : List Nat) (Ns : List NmT) (Cs : List CnT) (il : Option Nat) (lv : Nat → Nat) (Pt : PtT) (S : MS) : Prop := gOk S ∧ txR t S ∧ (okTx t ∧ t.length ≤ 160) ∧ (nmR Ns S ∧ Ns.length ≤ 6) ∧ knR Ns S ∧ gvR Ns lv S ∧ nmD Ns ∧ cqR Ns Cs il S ∧ ptO Cs.length Pt S
variable {t : List Nat} {Ns : List NmT} {Cs : List CnT} {il : Option Nat} {lv : Nat → Nat} {Pt : PtT}
theorem RL.sm {S' : MS} {js is ls : List Nat} (hg : RL t Ns Cs il lv Pt S) (h : rSm S S' js is ls) (hj : ∀ j ∈ [30, 2, 3, 11, 42, 44], j ∉ js) (hi : ∀ i ∈ [45, 46, 1, 4, 6, 9, 23, 5, 7, 12, 13, 14, 15, 16, 17, 18, 19, 20, 21, 24, 26], i ∉ is) (hl : ∀ i ∈ [8, 10, 22], i ∉ ls) : RL t Ns Cs il lv Pt S' := by
  obtain ⟨h1, h2, h3, h4, h5, h6, h7, h8, h9⟩ := hg
  exact ⟨h1.sm h (fun j hq => hj j (List.mem_cons_of_mem _ hq)) (fun i hq => hi i (List.mem_cons_of_mem _ (List.mem_cons_of_mem _ (List.mem_cons_of_mem _ (List.mem_cons_of_mem _ (List.mem_cons_of_mem _ (List.mem_cons_of_mem _ (List.mem_cons_of_mem _ hq)))))))), h2.sm h (hj 2 (by simp)) (hi 1 (by simp)), h3, ⟨h4.1.sm h (hj 3 (by simp)) ⟨hi 4 (by simp), hi 5 (by simp), hi 6 (by simp)⟩, h4.2⟩, h5.sm h (hi 7 (by simp)) (hl 8 (by simp)), h6.sm h (hi 9 (by simp)) (hl 10 (by simp)), h7, h8.sm h (List.forall_mem_cons.mpr ⟨hj 11 (by simp), List.forall_mem_cons.mpr ⟨hj 30 (by simp), fun _ hz => by cases hz⟩⟩) (fun i hq => hi i ((by decide : ∀ i ∈ [12, 13, 14, 15, 16, 17, 18, 19, 20, 21, 24, 26], i ∈ [45, 46, 1, 4, 6, 9, 23, 5, 7, 12, 13, 14, 15, 16, 17, 18, 19, 20, 21, 24, 26]) i hq)) (hi 23 (by simp)) (hl 22 (by simp)), h9.sm h (hj 42 (by simp)) ⟨hi 45 (by simp), hi 46 (by simp)⟩⟩
theorem RL.new : RL [] [] [] none (fun _ => 0) (0, List.replicate 256 0, List.replicate 256 0, List.replicate 256 0, List.replicate 256 0, List.replicate 6 0) S0 := by
  have r0 : ∀ {m v : Nat}, v ∈ List.replicate m 0 → v = 0 := fun hv => List.eq_of_mem_replicate hv
  refine ⟨gOk.new, ⟨rfl, fun i hi => by simp at hi⟩, okTx0, ⟨⟨rfl, fun i x hx => by simp at hx⟩, by decide⟩, ⟨fun i x hx => by simp at hx, fun i _ _ => gd_rep _ _⟩, fun i hi => Or.inl ⟨gd_rep _ _, rfl⟩, ⟨fun i j x y hx => (by simp at hx), fun x hx => (by cases hx)⟩, ⟨rfl, by decide, by decide, fun i x hx => (by simp at hx)⟩, ⟨Nat.zero_le _, List.length_replicate, List.length_replicate, List.length_replicate, List.length_replicate, List.length_replicate, fun v hv => by rw [r0 hv]; omega, fun v hv => by rw [r0 hv]; omega, fun v hv => by rw [r0 hv]; omega, fun v hv => by rw [r0 hv]; omega, fun v hv => by rw [r0 hv]; omega⟩, rfl, fun k hk => absurd hk (Nat.not_lt_zero _)⟩
theorem RM.wl {args : List Value} {Q : Option Value → MS → Prop} (h0 : ((∀ i ∈ rIA, (S.2.1 i).length = rLn i) ∧ ∀ i ∈ rLA, (S.2.2.1 i).length = rLn i) → RM l G d M args o rf S Q) : RM l G d M args o rf S Q := fun h c n hR => h0 ⟨fun i hi => hR.len i hi, fun i hi => hR.lenl i hi⟩ h c n hR
theorem E_type {cc : Nat} (hcc : cc < 65536) (hg : RL t Ns Cs il lv Pt S) : RM l G d M_Mo_type [.ref o, .int (nI cc)] o rf S (fun v S' => v = some (.int (bI (decide (tyOk t cc)))) ∧ RL (if tyOk t cc then t ++ [cc] else t) Ns Cs il lv Pt S') := by
  refine RM.wl (fun hlen => ?_)
  have l1 : (S.2.1 1).length = 160 := hlen.1 1 (by decide)
  obtain ⟨⟨h1, h2, h3, h4⟩, ht, ⟨hc, hl⟩, hN, hK, hV, hD, hQ, hPt⟩ := id hg
  have hs := ht.1
  rw [← zI_nI (by omega)]
  refine (r_type ⟨by omega, by omega⟩ h1).mono ?_
  rintro v S' (⟨rfl, hq, rfl⟩ | ⟨rfl, hq, rfl⟩)
  · have hq' : tyOk t cc := ⟨by omega, by omega, by omega⟩
    rw [if_pos hq', decide_eq_true hq']
    have hr : rSm S (sp (sa (sp S 0 0) 1 (se (S.2.1 1) (S.1 2) cc)) 2 (S.1 2 + 1)) [0, 2] [1] [] := ((rSm.r0.sp (by simp)).sa (by simp)).sp (by simp)
    refine ⟨rfl, ⟨?_, h2.sm hr (by decide) (by decide), h3.sm hr (by decide) (by decide), h4.sm hr (by decide)⟩, ht.app l1 hq'.2.2, ⟨fun ch hch => ?_, ?_⟩, ⟨hN.1.sm hr (by decide) (by decide), hN.2⟩, hK.sm hr (by decide) (by decide), hV.sm hr (by decide) (by decide), hD, hQ.sm hr (by decide) (by decide) (by decide) (by decide), hPt.sm hr (by decide) (by decide)⟩
    · unfold szOk at h1 ⊢
      show 0 ≤ S.1 2 + 1 ∧ S.1 2 + 1 ≤ 160
      omega
    · rcases List.mem_append.mp hch with q | q
      · exact hc ch q
      · rw [List.mem_singleton] at q
        rw [q]
        exact ⟨hq'.1, hq'.2.1⟩
    · rw [List.length_append]
      have := hq'.2.2
      simp
      omega
  · have hq' : ¬ tyOk t cc := fun z => hq ⟨by have := z.1; omega, by have := z.2.1; omega, by have := z.2.2; omega⟩
    rw [if_neg hq', decide_eq_false hq']
    exact ⟨rfl, hg.sm (js := [0]) (is := []) (ls := []) (rSm.r0.sp (by simp)) (by decide) (by decide) (by decide)⟩
theorem nmu_bad {k : Int} (hk : inR k) (h : ¬ (spl t ∧ nof Ns t = none ∧ (0 ≤ k ∧ k ≤ 1))) : nmu Ns t (zI k) = .inl true := by
  unfold nmu
  split
  · rfl
  · rename_i h1
    split
    · rfl
    · rename_i h2
      exfalso
      rw [z0, show (1 : Int32) = zI 1 from by decide, zI_eq hk zR0, zI_eq hk (by decide)] at h2
      exact h ⟨Decidable.byContradiction (fun z => h1 (Or.inl z)), Decidable.byContradiction (fun z => h1 (Or.inr z)), by omega⟩
theorem nmu_good {k : Int} (hk : inR k) (h : spl t ∧ nof Ns t = none ∧ (0 ≤ k ∧ k ≤ 1)) : nmu Ns t (zI k) = if 6 ≤ Ns.length then .inl false else .inr (Ns.length, Ns ++ [(t, k.toNat, [])]) := by
  obtain ⟨h1, h2, h3⟩ := h
  unfold nmu
  rw [if_neg (fun z => z.elim (fun y => y h1) (fun y => y h2)), if_neg, zI_clamp hk]
  rw [z0, show (1 : Int32) = zI 1 from by decide, zI_eq hk zR0, zI_eq hk (by decide)]
  omega
/-- how a call that may be refused ends -/
abbrev eQ (L : Int32 × Int64 × List NmT) (Cs : List CnT) (il : Option Nat) (lv : Nat → Nat) (Pt : PtT) : Option Value → MS → Prop := fun v S' => ∃ r, v = some (.int r) ∧ zI (S'.1 0) = L.1 ∧ (L.1 = 0 → r.toInt64 = L.2.1) ∧ RL [] L.2.2 Cs il lv Pt S'
theorem E_name (hd : 2 ≤ d) {w : Int32} {z : Int64} (hg : RL t Ns Cs il lv Pt S) : RM l G d M_Mo_name [.ref o, .int w] o rf S (eQ (lnm Ns z (nmu Ns t w)) Cs il lv Pt) := by
  refine RM.wl (fun hlen => ?_)
  have l5 : (S.2.1 5).length = 6 := hlen.1 5 (by decide)
  have l6 : (S.2.1 6).length = 6 := hlen.1 6 (by decide)
  obtain ⟨⟨h1, h2, h3, h4⟩, ht, ⟨hc, hl⟩, hN, hK, hV, hD, hQ, hPt⟩ := id hg
  have hs := ht.1
  have hs3 := hN.1.1
  obtain ⟨n1, n2, n3, n4⟩ := id h2
  have hkw := inR_ti w
  have hiff := nmG_iff (k := w.toInt) ht hN.1 hN.2
  rw [← zI_of w]
  generalize w.toInt = k at *
  refine (r_nameX hd hkw h1 h2 hN.1.L).mono ?_
  rintro v S' ⟨q2, (⟨q1, rfl, q0, qs⟩ | ⟨q1, q6, rfl, q0, qs⟩ | ⟨q1, q6, rfl, q0, q3, e5, e6, e4, qs⟩)⟩
  · rw [nmu_bad hkw (fun z => q1 (hiff.mpr z))]
    exact ⟨_, rfl, by rw [q0]; rfl, fun z => absurd z (by decide : ¬ (1 : Int32) = 0), gOk.z q2 (h2.sm qs (by decide) (by decide)) (h3.sm qs (by decide) (by decide)) (h4.sm qs (by decide)), txR.nil q2, okTx0, ⟨hN.1.sm qs (by decide) (by decide), hN.2⟩, hK.sm qs (by decide) (by decide), hV.sm qs (by decide) (by decide), hD, hQ.sm qs (by decide) (by decide) (by decide) (by decide), hPt.sm qs (by decide) (by decide)⟩
  · rw [nmu_good hkw (hiff.mp q1), if_pos (by omega)]
    exact ⟨_, rfl, by rw [q0]; rfl, fun z => absurd z (by decide : ¬ (2 : Int32) = 0), gOk.z q2 (h2.sm qs (by decide) (by decide)) (h3.sm qs (by decide) (by decide)) (h4.sm qs (by decide)), txR.nil q2, okTx0, ⟨hN.1.sm qs (by decide) (by decide), hN.2⟩, hK.sm qs (by decide) (by decide), hV.sm qs (by decide) (by decide), hD, hQ.sm qs (by decide) (by decide) (by decide) (by decide), hPt.sm qs (by decide) (by decide)⟩
  · obtain ⟨g1, g2, g3⟩ := hiff.mp q1
    rw [nmu_good hkw ⟨g1, g2, g3⟩, if_neg (by omega)]
    have hs2 := ht.1
    have hl8 := g1.1.2
    refine ⟨_, rfl, by rw [q0]; rfl, fun _ => ?_, gOk.z q2 ?_ (h3.sm qs (by decide) (by decide)) (h4.sm qs (by decide)), txR.nil q2, okTx0, ⟨nmR.push ht hN.1 (by omega) (by omega) (by omega) l5 l6 hl8 g1.2.1 q3 e5 e6 e4, by show (Ns ++ [_]).length ≤ 6; rw [List.length_append]; simp; omega⟩, (hK.sm qs (by decide) (by decide)).nm (by omega), (hV.sm qs (by decide) (by decide)).nm, hD.push g1 g2, (hQ.sm qs (by decide) (by decide) (by decide) (by decide)).ns nsX.app, hPt.sm qs (by decide) (by decide)⟩
    · show (zI (S.1 3)).toInt64 = (nI Ns.length).toInt64
      rw [hs3, zI_nI (by omega)]
    · have e7 : S'.2.1 7 = S.2.1 7 := qs.2.1 7 (by decide)
      unfold nmOk
      rw [q3, e5, e7]
      exact ⟨by omega, by omega, se_b (N := 6) l5 (by omega) (by omega) n3 (by omega), n4⟩
theorem vlu_in {k : Int} {r : Nat} {Ns' : List NmT} (hk : inR k) (h : vlu Ns t (zI k) = .inr (r, Ns')) : ∃ x, 0 ≤ k ∧ Ns[k.toNat]? = some x ∧ Ns' = Ns.set k.toNat (x.1, x.2.1, x.2.2 ++ [klv x.2.1 t]) := by
  unfold vlu at h
  rw [iAt_z hk, zI_clamp hk] at h
  by_cases h0 : k < 0
  · rw [if_pos h0] at h
    cases h
  · rw [if_neg h0] at h
    cases hx : Ns[k.toNat]? with
    | none => rw [hx] at h; cases h
    | some x =>
      rw [hx] at h
      simp only at h
      split at h
      · cases h
      · split at h
        · cases h
        · cases h
          exact ⟨x, by omega, rfl, rfl⟩
theorem E_value (hd : 3 ≤ d) {w : Int32} {z : Int64} (hg : RL t Ns Cs il lv Pt S) : RM l G d M_Mo_value [.ref o, .int w] o rf S (eQ (lnm Ns z (vlu Ns t w)) Cs il lv Pt) := by
  obtain ⟨⟨h1, h2, h3, h4⟩, ht, ⟨hc, hl⟩, hN, hK, hV, hD, hQ, hPt⟩ := id hg
  obtain ⟨n1, n2, n3, n4⟩ := id h2
  have hkw := inR_ti w
  rw [← zI_of w]
  generalize w.toInt = k at *
  refine (r_valueX hd hkw h2 ht hc hl hN.1 hN.2 hK).mono ?_
  rintro v S' ⟨q2, hq⟩
  rcases hv : vlu Ns t (zI k) with b | ⟨r, Ns'⟩
  · rw [hv] at hq
    obtain ⟨q0, ⟨r, rfl⟩, qs⟩ := hq
    refine ⟨_, rfl, by rw [q0]; cases b <;> rfl, fun z => ?_, gOk.z q2 (h2.sm qs (by decide) (by decide)) (h3.sm qs (by decide) (by decide)) (h4.sm qs (by decide)), txR.nil q2, okTx0, ⟨hN.1.sm qs (by decide) (by decide), hN.2⟩, hK.sm qs (by decide) (by decide), hV.sm qs (by decide) (by decide), hD, hQ.sm qs (by decide) (by decide) (by decide) (by decide), hPt.sm qs (by decide) (by decide)⟩
    exfalso
    cases b
    · exact absurd z (by decide : ¬ (2 : Int32) = 0)
    · exact absurd z (by decide : ¬ (1 : Int32) = 0)
  · rw [hv] at hq
    obtain ⟨q0, rfl, qs, hK'⟩ := hq
    obtain ⟨x, hk0, hx, rfl⟩ := vlu_in hkw hv
    have hrb : r ≤ 6 := by
      unfold vlu at hv
      rw [iAt_z hkw, if_neg (by omega), hx] at hv
      simp only at hv
      split at hv
      · cases hv
      · split at hv
        · cases hv
        · have := (Prod.mk.inj (Sum.inr.inj hv)).1
          omega
    refine ⟨_, rfl, by rw [q0]; rfl, fun _ => ?_, gOk.z q2 ?_ (h3.sm qs (by decide) (by decide)) (h4.sm qs (by decide)), txR.nil q2, okTx0, ⟨(hN.1.sm qs (by decide) (by decide)).val hx, by show (Ns.set _ _).length ≤ 6; rw [List.length_set]; exact hN.2⟩, hK', (hV.sm qs (by decide) (by decide)).val hx, hD.set hx, (hQ.sm qs (by decide) (by decide) (by decide) (by decide)).ns (nsX.set hx), hPt.sm qs (by decide) (by decide)⟩
    · show (zI (r : Int)).toInt64 = (nI r).toInt64
      rw [zI_nI (by omega)]
    · have e3 : S'.1 3 = S.1 3 := qs.1 3 (by decide)
      have e5 : S'.2.1 5 = S.2.1 5 := qs.2.1 5 (by decide)
      unfold nmOk
      rw [e3, e5]
      refine ⟨n1, n2, n3, fun i hi0 hi6 => ?_⟩
      by_cases hil : i.toNat < (Ns.set k.toNat (x.1, x.2.1, x.2.2 ++ [klv x.2.1 t])).length
      · have := hK'.1 i.toNat _ (List.getElem?_eq_getElem hil)
        rw [show ((i.toNat : Nat) : Int) = i by omega] at this
        omega
      · have := hK'.2 i.toNat (by omega) (by omega)
        rw [show ((i.toNat : Nat) : Int) = i by omega] at this
        omega
theorem E_give (hd : 3 ≤ d) {w : Int32} (hg : RL t Ns Cs il lv Pt S) : RM l G d M_Mo_give [.ref o, .int w] o rf S (fun v S' => v = none ∧ zI (S'.1 0) = (if (gvl Ns t w).isSome then 0 else 1) ∧ RL [] Ns Cs il (match gvl Ns t w with
    | none => lv
    | some u => lvSet lv w.toNatClampNeg u) Pt S') := by
  refine RM.wl (fun hlen => ?_)
  have l9 : (S.2.1 9).length = 6 := hlen.1 9 (by decide)
  have l10 : (S.2.2.1 10).length = 6 := hlen.2 10 (by decide)
  obtain ⟨⟨h1, h2, h3, h4⟩, ht, ⟨hc, hl⟩, hN, hK, hV, hD, hQ, hPt⟩ := id hg
  have hkw := inR_ti w
  rw [← zI_of w]
  generalize w.toInt = k at *
  refine (r_giveX hd hkw h2 ht hc hl hN.1 hN.2).mono ?_
  rintro v S' ⟨rfl, q2, hq⟩
  rcases hv : gvl Ns t (zI k) with _ | u
  · rw [hv] at hq
    obtain ⟨q0, qs⟩ := hq
    exact ⟨rfl, by rw [q0]; rfl, gOk.z q2 (h2.sm qs (by decide) (by decide)) (h3.sm qs (by decide) (by decide)) (h4.sm qs (by decide)), txR.nil q2, okTx0, ⟨hN.1.sm qs (by decide) (by decide), hN.2⟩, hK.sm qs (by decide) (by decide), hV.sm qs (by decide) (by decide), hD, hQ.sm qs (by decide) (by decide) (by decide) (by decide), hPt.sm qs (by decide) (by decide)⟩
  · rw [hv] at hq
    obtain ⟨q0, qs, x, hx, e, zz, e9, e10, hz⟩ := hq
    have hk0 : 0 ≤ k := by
      by_cases h0 : k < 0
      · unfold gvl at hv
        rw [iAt_z hkw, if_pos h0] at hv
        cases hv
      · omega
    have hu : u = klv x.2.1 t := by
      unfold gvl at hv
      rw [iAt_z hkw, if_neg (by omega), hx] at hv
      simp only at hv
      split at hv
      · cases hv
      · cases hv
        rfl
    rw [zI_clamp hkw, hu]
    exact ⟨rfl, by rw [q0]; rfl, gOk.z q2 (h2.sm qs (by decide) (by decide)) (h3.sm qs (by decide) (by decide)) (h4.sm qs (by decide)), txR.nil q2, okTx0, ⟨hN.1.sm qs (by decide) (by decide), hN.2⟩, hK.sm qs (by decide) (by decide), gvR.set hV hk0 hN.2 hx hc l9 l10 e9 e10 hz, hD, hQ.sm qs (by decide) (by decide) (by decide) (by decide), hPt.sm qs (by decide) (by decide)⟩
theorem E_condition (hd : 8 ≤ d) {z : Int64} (hg : RL t Ns Cs il lv Pt S) : RM l G d M_Mo_condition [.ref o] o rf S (fun v S' => ∃ r, v = some (.int r) ∧ zI (S'.1 0) = (lcd Cs z (rW t Ns)).1 ∧ ((lcd Cs z (rW t Ns)).1 = 0 → r.toInt64 = (lcd Cs z (rW t Ns)).2.1) ∧ RL [] Ns (lcd Cs z (rW t Ns)).2.2.1 (lcd Cs z (rW t Ns)).2.2.2 lv Pt S') := by
  obtain ⟨⟨g1, g2, g3, g4⟩, ht, ⟨hc, hl⟩, hN, hK, hV, hD, hQ, hPt⟩ := id hg
  refine (r_conditionX hd ⟨ht, ⟨hc, hl⟩, hN, hD, g2⟩ g3 hQ).mono ?_
  rintro v S' ⟨h1, qs, h2, h3, r, rfl, hm⟩
  have fin : ∀ (Cs' : List CnT) (jl : Option Nat), Cs.length ≤ Cs'.length → cqR Ns Cs' jl S' → RL [] Ns Cs' jl lv Pt S' := fun Cs' jl hl' hq => ⟨gOk.z h1 h2 h3 (g4.sm qs (by decide)), txR.nil h1, okTx0, ⟨hN.1.sm qs (by decide) (by decide), hN.2⟩, hK.sm qs (by decide) (by decide), hV.sm qs (by decide) (by decide), hD, hq, (hPt.sm qs (by decide) (by decide)).up hl'⟩
  unfold lcd
  rcases hq : (rW t Ns).2 with _ | D
  · rw [hq] at hm
    exact ⟨_, rfl, by rw [hm.1]; rfl, fun z => absurd z (by decide : ¬ (1 : Int32) = 0), fin _ _ (Nat.le_refl _) hm.2⟩
  · rw [hq] at hm
    by_cases h8 : 8 ≤ Cs.length
    · simp only [if_pos h8] at hm ⊢
      exact ⟨_, rfl, by rw [hm.1]; rfl, fun z => absurd z (by decide : ¬ (2 : Int32) = 0), fin _ _ (Nat.le_refl _) hm.2⟩
    · simp only [if_neg h8] at hm ⊢
      obtain ⟨m0, rfl, m2⟩ := hm
      refine ⟨_, rfl, by rw [m0]; rfl, fun _ => ?_, fin _ _ (by show Cs.length ≤ (Cs ++ [_]).length; rw [List.length_append]; exact Nat.le_add_right _ _) m2⟩
      rw [hQ.1, zI_nI (by omega)]
/-- it answers with an int; the rest stays -/
abbrev jE (t : List Nat) (Ns : List NmT) (Cs : List CnT) (il : Option Nat) (lv : Nat → Nat) (Pt : PtT) : Option Value → MS → Prop := fun v S' => (∃ r, v = some (.int r)) ∧ RL t Ns Cs il lv Pt S'
theorem E_place (hg : RL t Ns Cs il lv Pt S) : RM l G d M_Mo_place [.ref o] o rf S (fun v S' => v = some (.int (oI il)) ∧ RL t Ns Cs il lv Pt S') := by
  refine r_place.mono ?_
  rintro v S' ⟨rfl, rfl⟩
  exact ⟨by rw [hg.2.2.2.2.2.2.2.1.2.2.1], hg.sm (js := [0]) (is := []) (ls := []) (rSm.r0.sp (by simp)) (by decide) (by decide) (by decide)⟩
theorem E_holds (hd : 3 ≤ d) {w : Int32} (hg : RL t Ns Cs il lv Pt S) : RM l G d M_Mo_holds [.ref o, .int w] o rf S (fun v S' => v = some (.int (bI (hld Cs lv w))) ∧ RL t Ns Cs il lv Pt S') := by
  obtain ⟨⟨g1, g2, g3, g4⟩, ht, hc, hN, hK, hV, hD, hQ, hPt⟩ := id hg
  rw [← zI_of w]
  refine (r_holdsX hd (inR_ti w) g3 hN.1 hN.2 hV hQ).mono ?_
  rintro v S' ⟨rfl, h3⟩
  exact ⟨by rw [bI_zI], hg.sm h3 (by decide) (by decide) (by decide)⟩
/-- every layOut() of a set makes the same rows -/
theorem RL.ly (hg : RL t Ns Cs il lv Pt S) {w : Nat} {vs st am : List Nat} (h1 : vs.length = 356) (h2 : st.length = 6) (h3 : am.length = 6) : lyW Ns Cs w 6 (lyS Ns Cs w ((vs, 0), st, am, 1) 6) := by
  obtain ⟨⟨g1, g2, g3, g4⟩, ht, hc, hN, hK, hV, hD, hQ, hPt⟩ := id hg
  exact (lyS_app (fun x hx => (hK.ev x hx).2) h1 h2 h3 (cnS_b (hQ.tt g3)) 6 (Nat.le_refl _)).1
theorem E_ever (hd : 5 ≤ d) {w : Int32} {vs st am : List Nat} (hg : RL t Ns Cs il lv Pt S) (h1 : vs.length = 356) (h2 : st.length = 6) (h3 : am.length = 6) : RM l G d M_Mo_ever [.ref o, .int w] o rf S (fun v S' => v = some (.int (if (iAt w Cs).isSome then fnd Cs (2 ^ w.toNatClampNeg) (2 ^ w.toNatClampNeg) 0 (lyS Ns Cs (2 ^ w.toNatClampNeg) ((vs, 0), st, am, 1) 6) else -1)) ∧ RL t Ns Cs il lv Pt S') := by
  obtain ⟨⟨g1, g2, g3, g4⟩, ht, hc, hN, hK, hV, hD, hQ, hPt⟩ := id hg
  have hr := hg.ly (w := 2 ^ w.toNatClampNeg) h1 h2 h3
  generalize lyS Ns Cs (2 ^ w.toNatClampNeg) ((vs, 0), st, am, 1) 6 = r at *
  rw [← zI_of w] at hr ⊢
  refine (r_everX hd (inR_ti w) g2 g3 hN.1 hN.2 hK hQ hr).mono ?_
  rintro v S' ⟨rfl, h3⟩
  exact ⟨rfl, hg.sm h3 (by decide) (by decide) (by decide)⟩
theorem E_implies (hd : 5 ≤ d) {w u : Int32} {vs st am : List Nat} (hg : RL t Ns Cs il lv Pt S) (h1 : vs.length = 356) (h2 : st.length = 6) (h3 : am.length = 6) : RM l G d M_Mo_implies [.ref o, .int w, .int u] o rf S (fun v S' => v = some (.int (if (iAt w Cs).isSome ∧ (iAt u Cs).isSome then (if fnd Cs (2 ^ w.toNatClampNeg ||| 2 ^ u.toNatClampNeg) (2 ^ w.toNatClampNeg) (2 ^ u.toNatClampNeg) (lyS Ns Cs (2 ^ w.toNatClampNeg ||| 2 ^ u.toNatClampNeg) ((vs, 0), st, am, 1) 6) = -1 then -1 else 1 - fnd Cs (2 ^ w.toNatClampNeg ||| 2 ^ u.toNatClampNeg) (2 ^ w.toNatClampNeg) (2 ^ u.toNatClampNeg) (lyS Ns Cs (2 ^ w.toNatClampNeg ||| 2 ^ u.toNatClampNeg) ((vs, 0), st, am, 1) 6)) else -1)) ∧ RL t Ns Cs il lv Pt S') := by
  obtain ⟨⟨g1, g2, g3, g4⟩, ht, hc, hN, hK, hV, hD, hQ, hPt⟩ := id hg
  have hr := hg.ly (w := 2 ^ w.toNatClampNeg ||| 2 ^ u.toNatClampNeg) h1 h2 h3
  generalize lyS Ns Cs (2 ^ w.toNatClampNeg ||| 2 ^ u.toNatClampNeg) ((vs, 0), st, am, 1) 6 = r at *
  rw [← zI_of w, ← zI_of u] at hr ⊢
  refine (r_impliesX hd (inR_ti w) (inR_ti u) g2 g3 hN.1 hN.2 hK hQ hr).mono ?_
  rintro v S' ⟨rfl, h3⟩
  exact ⟨rfl, hg.sm h3 (by decide) (by decide) (by decide)⟩
theorem E_apart (hd : 5 ≤ d) {w u : Int32} {vs st am : List Nat} (hg : RL t Ns Cs il lv Pt S) (h1 : vs.length = 356) (h2 : st.length = 6) (h3 : am.length = 6) : RM l G d M_Mo_apart [.ref o, .int w, .int u] o rf S (fun v S' => v = some (.int (if (iAt w Cs).isSome ∧ (iAt u Cs).isSome then (if fnd Cs (2 ^ w.toNatClampNeg ||| 2 ^ u.toNatClampNeg) (2 ^ w.toNatClampNeg ||| 2 ^ u.toNatClampNeg) (0) (lyS Ns Cs (2 ^ w.toNatClampNeg ||| 2 ^ u.toNatClampNeg) ((vs, 0), st, am, 1) 6) = -1 then -1 else 1 - fnd Cs (2 ^ w.toNatClampNeg ||| 2 ^ u.toNatClampNeg) (2 ^ w.toNatClampNeg ||| 2 ^ u.toNatClampNeg) (0) (lyS Ns Cs (2 ^ w.toNatClampNeg ||| 2 ^ u.toNatClampNeg) ((vs, 0), st, am, 1) 6)) else -1)) ∧ RL t Ns Cs il lv Pt S') := by
  obtain ⟨⟨g1, g2, g3, g4⟩, ht, hc, hN, hK, hV, hD, hQ, hPt⟩ := id hg
  have hr := hg.ly (w := 2 ^ w.toNatClampNeg ||| 2 ^ u.toNatClampNeg) h1 h2 h3
  generalize lyS Ns Cs (2 ^ w.toNatClampNeg ||| 2 ^ u.toNatClampNeg) ((vs, 0), st, am, 1) 6 = r at *
  rw [← zI_of w, ← zI_of u] at hr ⊢
  refine (r_apartX hd (inR_ti w) (inR_ti u) g2 g3 hN.1 hN.2 hK hQ hr).mono ?_
  rintro v S' ⟨rfl, h3⟩
  exact ⟨rfl, hg.sm h3 (by decide) (by decide) (by decide)⟩
theorem E_classes (hd : 5 ≤ d) {w : Int32} {vs st am : List Nat} (hg : RL t Ns Cs il lv Pt S) (h1 : vs.length = 356) (h2 : st.length = 6) (h3 : am.length = 6) : RM l G d M_Mo_classes [.ref o, .int w] o rf S (fun v S' => v = some (.int (if (lyS Ns Cs (stN w Cs.length) ((vs, 0), st, am, 1) 6).2.2.2 ≤ 20000 then nI (clP Cs (stN w Cs.length) (lyS Ns Cs (stN w Cs.length) ((vs, 0), st, am, 1) 6) Pt).1 else -1)) ∧ RL t Ns Cs il lv (clP Cs (stN w Cs.length) (lyS Ns Cs (stN w Cs.length) ((vs, 0), st, am, 1) 6) Pt) S') := by
  obtain ⟨⟨g1, g2, g3, g4⟩, ht, hc, hN, hK, hV, hD, hQ, hPt⟩ := id hg
  have hr := hg.ly (w := stN w Cs.length) h1 h2 h3
  generalize lyS Ns Cs (stN w Cs.length) ((vs, 0), st, am, 1) 6 = r at *
  rw [← zI_of w] at hr ⊢
  refine (r_classesX hd (inR_ti w) g2 g3 g4 hN.1 hN.2 hK hQ hPt.1 hPt.2 hr).mono ?_
  rintro v S' ⟨rfl, qs, q4, qP, qA⟩
  refine ⟨rfl, ⟨?_, g2.sm qs (by decide) (by decide), g3.sm qs (by decide) (by decide), q4⟩, ht.sm qs (by decide) (by decide), hc, ⟨hN.1.sm qs (by decide) (by decide), hN.2⟩, hK.sm qs (by decide) (by decide), hV.sm qs (by decide) (by decide), hD, hQ.sm qs (by decide) (by decide) (by decide) (by decide), qP, qA⟩
  unfold szOk
  rw [qs.1 2 (by decide)]
  exact g1
theorem E_many (hd : 1 ≤ d) {w : Int32} (hg : RL t Ns Cs il lv Pt S) : RM l G d M_Mo_many [.ref o, .int w] o rf S (fun v S' => v = some (.int (oI (mny Pt w))) ∧ RL t Ns Cs il lv Pt S') := by
  obtain ⟨⟨g1, g2, g3, g4⟩, ht, hc, hN, hK, hV, hD, hQ, hPt⟩ := id hg
  rw [← zI_of w]
  refine (r_manyX hd (inR_ti w) hPt.1 hPt.2).mono ?_
  rintro v S' ⟨rfl, rfl⟩
  exact ⟨rfl, hg.sm (js := [0]) (is := []) (ls := []) (rSm.r0.sp (by simp)) (by decide) (by decide) (by decide)⟩
theorem E_inClass (hd : 1 ≤ d) {w u : Int32} (hg : RL t Ns Cs il lv Pt S) : RM l G d M_Mo_inClass [.ref o, .int w, .int u] o rf S (fun v S' => v = some (.int (bI (inC Cs Pt w u))) ∧ RL t Ns Cs il lv Pt S') := by
  obtain ⟨⟨g1, g2, g3, g4⟩, ht, hc, hN, hK, hV, hD, hQ, hPt⟩ := id hg
  have c1 := hQ.1
  have c2 := g3.2.1
  rw [← zI_of w, ← zI_of u]
  refine (r_inClassX hd (inR_ti w) (inR_ti u) (by omega) hPt.1 hPt.2).mono ?_
  rintro v S' ⟨rfl, rfl⟩
  exact ⟨rfl, hg.sm (js := [0]) (is := []) (ls := []) (rSm.r0.sp (by simp)) (by decide) (by decide) (by decide)⟩
theorem E_sample (hd : 1 ≤ d) {w u : Int32} (hg : RL t Ns Cs il lv Pt S) : RM l G d M_Mo_sample [.ref o, .int w, .int u] o rf S (jE t Ns Cs il lv Pt) := by
  rw [← zI_of w, ← zI_of u]
  refine (r_sample hd (inR_ti w) (inR_ti u) hg.1.2.2.2).mono ?_
  rintro v S' ⟨⟨r, rfl⟩, rfl⟩
  exact ⟨⟨_, rfl⟩, hg.sm (js := [0]) (is := []) (ls := []) (rSm.r0.sp (by simp)) (by decide) (by decide) (by decide)⟩
theorem E_printed (hd : 4 ≤ d) {w u : Int32} (hg : RL t Ns Cs il lv Pt S) : RM l G d M_Mo_printed [.ref o, .int w, .int u] o rf S (fun v S' => v = some (.int (nI (prt Cs w u))) ∧ RL t Ns Cs il lv Pt S') := by
  obtain ⟨⟨g1, g2, g3, g4⟩, ht, hc, hN, hK, hV, hD, hQ, hPt⟩ := id hg
  rw [← zI_of w, ← zI_of u]
  refine (r_printedX hd (inR_ti w) (inR_ti u) hN.1 hN.2 g3 hQ (hQ.len g3 hN.1)).mono ?_
  rintro v S' ⟨rfl, h3⟩
  exact ⟨rfl, hg.sm h3 (by decide) (by decide) (by decide)⟩
end LX7
