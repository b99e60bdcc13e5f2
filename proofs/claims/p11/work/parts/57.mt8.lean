section
theorem d_Parting_has_12 : decode M_Parting_has.2.1 12 = .ok (.iconst 1, 1) := by decide +kernel
theorem d_Parting_has_13 : decode M_Parting_has.2.1 13 = .ok (.goto 4, 3) := by decide +kernel
theorem d_MT_many_11 : decode M_MT_many.2.1 11 = .ok (.aload_n 0, 1) := by decide +kernel
theorem d_MT_many_12 : decode M_MT_many.2.1 12 = .ok (.getfield 52, 3) := by decide +kernel
theorem d_MT_many_15 : decode M_MT_many.2.1 15 = .ok (.getfield 180, 3) := by decide +kernel
theorem xw_123 : (Jvm.Cond.fieldLinkNest "MarkerText" (180 : Nat) "MarkerText$Parting" "sizes" "[I" "MarkerText") ∈ xT := xT_at 123 (by decide +kernel) (by decide +kernel)
theorem xf_MT_180_Parting : xF "MarkerText" 180 k_Parting 2 := ⟨_, _, _, "MarkerText$Parting", rfl, by decide, Or.inr ⟨_, xw_123⟩, Or.inl rfl⟩
theorem d_MT_many_18 : decode M_MT_many.2.1 18 = .ok (.iload_n 1, 1) := by decide +kernel
theorem d_MT_many_19 : decode M_MT_many.2.1 19 = .ok (.iaload, 1) := by decide +kernel
theorem d_MT_many_20 : decode M_MT_many.2.1 20 = .ok (.goto 4, 3) := by decide +kernel
theorem d_MT_inClass_11 : decode M_MT_inClass.2.1 11 = .ok (.aload_n 0, 1) := by decide +kernel
theorem d_MT_inClass_12 : decode M_MT_inClass.2.1 12 = .ok (.iload_n 2, 1) := by decide +kernel
theorem d_MT_inClass_13 : decode M_MT_inClass.2.1 13 = .ok (.invokevirtual 143, 3) := by decide +kernel
theorem d_MT_inClass_16 : decode M_MT_inClass.2.1 16 = .ok (.ifnull 24, 3) := by decide +kernel
theorem d_MT_inClass_19 : decode M_MT_inClass.2.1 19 = .ok (.aload_n 0, 1) := by decide +kernel
theorem d_MT_inClass_20 : decode M_MT_inClass.2.1 20 = .ok (.getfield 52, 3) := by decide +kernel
theorem d_MT_inClass_23 : decode M_MT_inClass.2.1 23 = .ok (.getfield 184, 3) := by decide +kernel
theorem xw_121 : (Jvm.Cond.fieldLinkNest "MarkerText" (184 : Nat) "MarkerText$Parting" "truths" "[I" "MarkerText") ∈ xT := xT_at 121 (by decide +kernel) (by decide +kernel)
theorem xf_MT_184_Parting : xF "MarkerText" 184 k_Parting 1 := ⟨_, _, _, "MarkerText$Parting", rfl, by decide, Or.inr ⟨_, xw_121⟩, Or.inl rfl⟩
theorem d_MT_inClass_26 : decode M_MT_inClass.2.1 26 = .ok (.iload_n 1, 1) := by decide +kernel
theorem d_MT_inClass_27 : decode M_MT_inClass.2.1 27 = .ok (.iaload, 1) := by decide +kernel
theorem d_MT_inClass_28 : decode M_MT_inClass.2.1 28 = .ok (.iload_n 2, 1) := by decide +kernel
theorem d_MT_inClass_29 : decode M_MT_inClass.2.1 29 = .ok (.ishr, 1) := by decide +kernel
theorem d_MT_inClass_30 : decode M_MT_inClass.2.1 30 = .ok (.iconst 1, 1) := by decide +kernel
theorem d_MT_inClass_31 : decode M_MT_inClass.2.1 31 = .ok (.iand, 1) := by decide +kernel
theorem d_MT_inClass_32 : decode M_MT_inClass.2.1 32 = .ok (.iconst 1, 1) := by decide +kernel
theorem d_MT_inClass_33 : decode M_MT_inClass.2.1 33 = .ok (.if_icmp .ne 7, 3) := by decide +kernel
theorem d_MT_inClass_36 : decode M_MT_inClass.2.1 36 = .ok (.iconst 1, 1) := by decide +kernel
theorem d_MT_inClass_37 : decode M_MT_inClass.2.1 37 = .ok (.goto 4, 3) := by decide +kernel
end
section MT8
variable {l : Launch} {G : XG} {h : XH} {c n d : Nat}
/-- a class of a number -/
def hasK (p : PtT) (k : Int32) : Bool := decide (¬ k < 0 ∧ k.toNatClampNeg < p.1)
theorem hasK_lt {p : PtT} {k : Int32} (h0 : k < 0) : hasK p k = false := decide_eq_false (fun z => z.1 h0)
theorem hasK_nI {p : PtT} {j : Nat} (hj : j < 2 ^ 31) : hasK p (nI j) = decide (j < p.1) := by
  unfold hasK
  rw [nI_clamp hj]
  by_cases hz : j < p.1
  · rw [decide_eq_true hz, decide_eq_true ⟨nI_pos hj, hz⟩]
  · rw [decide_eq_false hz, decide_eq_false (fun z => hz z.2)]
theorem c_has {o : Nat} {p : PtT} {k : Int32} (hp : isPa h o p) (hP : okP p) : XM l G d M_Parting_has [.ref o, .int k] h c n (xSame (.int (bI (hasK p k))) h c n) := by
  obtain ⟨pt, ps, pf, pc, pa, e0, -⟩ := id hp
  have hP1 := hP.1
  refine XM.of (by decide +kernel) (Nat.le_of_ble_eq_true rfl) ?_
  by_cases h0 : k < 0
  · rw [hasK_lt h0]
    refine x_iload_n d_Parting_has_0 rfl ?_
    refine x_if_lt (tgt := 16) d_Parting_has_1 (by decide) (fun _ => ?_) (fun hn => absurd h0 hn)
    refine x_iconst (v := 0) d_Parting_has_16 (by decide) ?_
    refine x_zret d_Parting_has_17 rfl rfl ?_
    exact ⟨rfl, rfl, rfl, rfl⟩
  · obtain ⟨j, hj, rfl⟩ := i32_ex h0
    rw [hasK_nI hj]
    by_cases hz : j < p.1
    · rw [decide_eq_true hz]
      refine x_iload_n d_Parting_has_0 rfl ?_
      refine x_if_lt (tgt := 16) d_Parting_has_1 (by decide) (fun ht => absurd ht h0) (fun _ => ?_)
      refine x_iload_n d_Parting_has_4 rfl ?_
      refine x_aload_n d_Parting_has_5 rfl rfl ?_
      refine x_get xf_Parting_9_Parting (Or.inl e0) rfl d_Parting_has_6 ?_
      refine x_icmp_ge (tgt := 16) d_Parting_has_9 (by decide) (fun ht => absurd ht (nI_ge (by omega) (by omega))) (fun _ => ?_)
      refine x_iconst (v := 1) d_Parting_has_12 (by decide) ?_
      refine x_goto (tgt := 17) d_Parting_has_13 (by decide) ?_
      refine x_zret d_Parting_has_17 rfl rfl ?_
      exact ⟨rfl, rfl, rfl, rfl⟩
    · rw [decide_eq_false hz]
      refine x_iload_n d_Parting_has_0 rfl ?_
      refine x_if_lt (tgt := 16) d_Parting_has_1 (by decide) (fun ht => absurd ht h0) (fun _ => ?_)
      refine x_iload_n d_Parting_has_4 rfl ?_
      refine x_aload_n d_Parting_has_5 rfl rfl ?_
      refine x_get xf_Parting_9_Parting (Or.inl e0) rfl d_Parting_has_6 ?_
      refine x_icmp_ge (tgt := 16) d_Parting_has_9 (by decide) (fun _ => ?_) (fun hn => absurd (nI_le (by omega) (by omega)) hn)
      refine x_iconst (v := 0) d_Parting_has_16 (by decide) ?_
      refine x_zret d_Parting_has_17 rfl rfl ?_
      exact ⟨rfl, rfl, rfl, rfl⟩
theorem xiv_at {us : List Nat} {i : Nat} (hi : i < us.length) : (xiv us)[i]? = some (.int (nI us[i])) := by
  unfold xiv
  rw [List.getElem?_map, List.getElem?_eq_getElem hi]
  rfl
/-- what many() answers -/
def mny (p : PtT) (k : Int32) : Option Nat := if hasK p k then p.2.2.1[k.toNatClampNeg]? else none
theorem c_many (hd : 1 ≤ d) {x ta va m na ca ea ch pa : Nat} {as kas cas t : List Nat} {Ns : List NmT} {Cs : List CnT} {il : Option Nat} {lv : Nat → Nat} {Pt : PtT} {k : Int32} (hM : isMT G h x ta va m na ca ea ch pa as kas cas t Ns Cs il lv Pt) : XM l G d M_MT_many [.ref x, .int k] h c n (xSame (.int (oI (mny Pt k))) h c n) := by
  obtain ⟨d, rfl⟩ : ∃ q, d = q + 1 := ⟨d - 1, by omega⟩
  obtain ⟨e0, -, -, -, -, -, -, -, hPa, hP⟩ := id hM
  obtain ⟨pt, ps, pf, pc, pq, p0, p1, p2, p3, p4, p5⟩ := id hPa
  obtain ⟨k1, k2, k3, -⟩ := id hP
  refine XM.of (by decide +kernel) (Nat.le_of_ble_eq_true rfl) ?_
  refine x_aload_n d_MT_many_0 rfl rfl ?_
  refine x_get xf_MT_52_MT (Or.inl e0) rfl d_MT_many_1 ?_
  refine x_iload_n d_MT_many_4 rfl ?_
  refine x_callV (As := [_]) (k := k_Parting) rfl xcv_MT_176_Parting (Or.inl p0) (c_has hPa hP) rfl rfl (Nat.le_of_ble_eq_true rfl) d_MT_many_5 ?_
  rintro v h1 c1 n1 ⟨rfl, rfl, rfl, rfl⟩
  cases hk : hasK Pt k with
  | false =>
    rw [show mny Pt k = none by unfold mny; rw [hk]; rfl]
    refine x_if_eq (tgt := 23) d_MT_many_8 (by decide) (fun _ => ?_) (fun hn => absurd rfl hn)
    refine x_iconst (v := (-1)) d_MT_many_23 (by decide) ?_
    refine x_iret d_MT_many_24 rfl ?_
    exact ⟨rfl, rfl, rfl, rfl⟩
  | true =>
    obtain ⟨g1, g2⟩ := of_decide_eq_true hk
    have hi : k.toNatClampNeg < Pt.2.2.1.length := by omega
    rw [show mny Pt k = some (Pt.2.2.1[k.toNatClampNeg]) by unfold mny; rw [hk]; exact List.getElem?_eq_getElem hi]
    refine x_if_eq (tgt := 23) d_MT_many_8 (by decide) (fun ht => absurd ht (by decide)) (fun _ => ?_)
    refine x_aload_n d_MT_many_11 rfl rfl ?_
    refine x_get xf_MT_52_MT (Or.inl e0) rfl d_MT_many_12 ?_
    refine x_get xf_MT_180_Parting (Or.inl p0) rfl d_MT_many_15 ?_
    refine x_iload_n d_MT_many_18 rfl ?_
    refine x_iald (k := k_apsz) rfl (Or.inl p2) g1 (xiv_at hi) d_MT_many_19 ?_
    refine x_goto (tgt := 24) d_MT_many_20 (by decide) ?_
    refine x_iret d_MT_many_24 rfl ?_
    exact ⟨rfl, rfl, rfl, rfl⟩
theorem bit_at0 : ∀ a, a < 256 → ∀ j, j < 8 → decide ((nI a >>> (nI j &&& 31)) &&& 1 = 1) = a.testBit j := by decide +kernel
/-- what inClass() answers -/
def inC (Cs : List CnT) (p : PtT) (k e : Int32) : Bool := hasK p k && (iAt e Cs).isSome && (p.2.1.getD k.toNatClampNeg 0).testBit e.toNatClampNeg
theorem c_inClass (hd : 2 ≤ d) {x ta va m na ca ea ch pa : Nat} {as kas cas t : List Nat} {Ns : List NmT} {Cs : List CnT} {il : Option Nat} {lv : Nat → Nat} {Pt : PtT} {k e : Int32} (hM : isMT G h x ta va m na ca ea ch pa as kas cas t Ns Cs il lv Pt) : XM l G d M_MT_inClass [.ref x, .int k, .int e] h c n (xSame (.int (bI (inC Cs Pt k e))) h c n) := by
  obtain ⟨d, rfl⟩ : ∃ q, d = q + 1 := ⟨d - 1, by omega⟩
  obtain ⟨e0, -, -, -, -, hC, -, -, hPa, hP⟩ := id hM
  obtain ⟨pt, ps, pf, pc, pq, p0, p1, p2, p3, p4, p5⟩ := id hPa
  obtain ⟨k1, k2, k3, k4, k5, k6, k7, -⟩ := id hP
  obtain ⟨c1', c2', c3', -⟩ := id hC
  refine XM.of (by decide +kernel) (Nat.le_of_ble_eq_true rfl) ?_
  refine x_aload_n d_MT_inClass_0 rfl rfl ?_
  refine x_get xf_MT_52_MT (Or.inl e0) rfl d_MT_inClass_1 ?_
  refine x_iload_n d_MT_inClass_4 rfl ?_
  refine x_callV (As := [_]) (k := k_Parting) rfl xcv_MT_176_Parting (Or.inl p0) (c_has hPa hP) rfl rfl (Nat.le_of_ble_eq_true rfl) d_MT_inClass_5 ?_
  rintro v h1 c1 n1 ⟨rfl, rfl, rfl, rfl⟩
  cases hk : hasK Pt k with
  | false =>
    rw [show inC Cs Pt k e = false by unfold inC; rw [hk]; rfl]
    refine x_if_eq (tgt := 40) d_MT_inClass_8 (by decide) (fun _ => ?_) (fun hn => absurd rfl hn)
    refine x_iconst (v := 0) d_MT_inClass_40 (by decide) ?_
    refine x_zret d_MT_inClass_41 rfl rfl ?_
    exact ⟨rfl, rfl, rfl, rfl⟩
  | true =>
    obtain ⟨g1, g2⟩ := of_decide_eq_true hk
    have hi : k.toNatClampNeg < Pt.2.1.length := by omega
    refine x_if_eq (tgt := 40) d_MT_inClass_8 (by decide) (fun ht => absurd ht (by decide)) (fun _ => ?_)
    refine x_aload_n d_MT_inClass_11 rfl rfl ?_
    refine x_iload_n d_MT_inClass_12 rfl ?_
    refine x_callV (As := [_]) (k := k_MarkerText) rfl xcv_MT_143_MT (Or.inl e0) (c_conditionAt e0 hC) rfl rfl (Nat.le_of_ble_eq_true rfl) d_MT_inClass_13 ?_
    rintro v h2 c2 n2 ⟨rfl, rfl, rfl, rfl⟩
    rcases hC.at (k := e) with ⟨y1, y2⟩ | ⟨a, D, y1, y2, y3⟩
    · rw [y1, show inC Cs Pt k e = false by unfold inC; rw [hk, y2]; rfl]
      refine x_ifnullN (tgt := 40) d_MT_inClass_16 (by decide) ?_
      refine x_iconst (v := 0) d_MT_inClass_40 (by decide) ?_
      refine x_zret d_MT_inClass_41 rfl rfl ?_
      exact ⟨rfl, rfl, rfl, rfl⟩
    · have h0 : ¬ e < 0 := fun z => by rw [iAt_lt z] at y1; cases y1
      obtain ⟨j, hj, rfl⟩ := i32_ex h0
      have hj8 : j < 8 := by
        rw [iAt_nI hj] at y2
        have := (List.getElem?_eq_some_iff.mp y2).1
        omega
      have hb := bit_at0 (Pt.2.1[k.toNatClampNeg]) (k7 _ (List.getElem_mem hi)) j hj8
      rw [y1, show inC Cs Pt k (nI j) = (Pt.2.1[k.toNatClampNeg]).testBit j by
        unfold inC
        rw [hk, y2, nI_clamp hj, List.getD_eq_getElem?_getD, List.getElem?_eq_getElem hi]
        rfl]
      by_cases hz : (nI (Pt.2.1[k.toNatClampNeg]) >>> (nI j &&& 31)) &&& 1 = 1
      · rw [decide_eq_true hz] at hb
        rw [← hb]
        refine x_ifnull d_MT_inClass_16 ?_
        refine x_aload_n d_MT_inClass_19 rfl rfl ?_
        refine x_get xf_MT_52_MT (Or.inl e0) rfl d_MT_inClass_20 ?_
        refine x_get xf_MT_184_Parting (Or.inl p0) rfl d_MT_inClass_23 ?_
        refine x_iload_n d_MT_inClass_26 rfl ?_
        refine x_iald (k := k_aptr) rfl (Or.inl p1) g1 (xiv_at hi) d_MT_inClass_27 ?_
        refine x_iload_n d_MT_inClass_28 rfl ?_
        refine x_ishr d_MT_inClass_29 ?_
        refine x_iconst (v := 1) d_MT_inClass_30 (by decide) ?_
        refine x_iand d_MT_inClass_31 ?_
        refine x_iconst (v := 1) d_MT_inClass_32 (by decide) ?_
        refine x_icmp_ne (tgt := 40) d_MT_inClass_33 (by decide) (fun ht => absurd hz ht) (fun _ => ?_)
        refine x_iconst (v := 1) d_MT_inClass_36 (by decide) ?_
        refine x_goto (tgt := 41) d_MT_inClass_37 (by decide) ?_
        refine x_zret d_MT_inClass_41 rfl rfl ?_
        exact ⟨rfl, rfl, rfl, rfl⟩
      · rw [decide_eq_false hz] at hb
        rw [← hb]
        refine x_ifnull d_MT_inClass_16 ?_
        refine x_aload_n d_MT_inClass_19 rfl rfl ?_
        refine x_get xf_MT_52_MT (Or.inl e0) rfl d_MT_inClass_20 ?_
        refine x_get xf_MT_184_Parting (Or.inl p0) rfl d_MT_inClass_23 ?_
        refine x_iload_n d_MT_inClass_26 rfl ?_
        refine x_iald (k := k_aptr) rfl (Or.inl p1) g1 (xiv_at hi) d_MT_inClass_27 ?_
        refine x_iload_n d_MT_inClass_28 rfl ?_
        refine x_ishr d_MT_inClass_29 ?_
        refine x_iconst (v := 1) d_MT_inClass_30 (by decide) ?_
        refine x_iand d_MT_inClass_31 ?_
        refine x_iconst (v := 1) d_MT_inClass_32 (by decide) ?_
        refine x_icmp_ne (tgt := 40) d_MT_inClass_33 (by decide) (fun _ => ?_) (fun hn => absurd hn hz)
        refine x_iconst (v := 0) d_MT_inClass_40 (by decide) ?_
        refine x_zret d_MT_inClass_41 rfl rfl ?_
        exact ⟨rfl, rfl, rfl, rfl⟩
end MT8
