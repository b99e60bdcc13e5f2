section
abbrev y_Mo_gather : MethodName := ⟨"MarkerTextModel", "gather", "(I)V"⟩
abbrev M_Mo_gather : XMt := (y_Mo_gather, prog_13_method_44_code, 5, none)
theorem d_Mo_gather_5 : decode M_Mo_gather.2.1 5 = .ok (.iload_n 2, 1) := by decide +kernel
theorem d_Mo_gather_6 : decode M_Mo_gather.2.1 6 = .ok (.bipush 40, 2) := by decide +kernel
theorem d_Mo_gather_8 : decode M_Mo_gather.2.1 8 = .ok (.iload_n 1, 1) := by decide +kernel
theorem d_Mo_gather_9 : decode M_Mo_gather.2.1 9 = .ok (.imul, 1) := by decide +kernel
theorem d_Mo_gather_10 : decode M_Mo_gather.2.1 10 = .ok (.aload_n 0, 1) := by decide +kernel
theorem d_Mo_gather_11 : decode M_Mo_gather.2.1 11 = .ok (.getfield 63, 3) := by decide +kernel
theorem d_Mo_gather_14 : decode M_Mo_gather.2.1 14 = .ok (.iload_n 1, 1) := by decide +kernel
theorem d_Mo_gather_15 : decode M_Mo_gather.2.1 15 = .ok (.iaload, 1) := by decide +kernel
theorem d_Mo_gather_16 : decode M_Mo_gather.2.1 16 = .ok (.iadd, 1) := by decide +kernel
theorem d_Mo_gather_17 : decode M_Mo_gather.2.1 17 = .ok (.if_icmp .ge 62, 3) := by decide +kernel
theorem d_Mo_gather_79 : decode M_Mo_gather.2.1 79 = .ok (.return_, 1) := by decide +kernel
theorem d_Mo_gather_30 : decode M_Mo_gather.2.1 30 = .ok (.iload 4, 2) := by decide +kernel
theorem d_Mo_gather_32 : decode M_Mo_gather.2.1 32 = .ok (.aload_n 0, 1) := by decide +kernel
theorem d_Mo_gather_33 : decode M_Mo_gather.2.1 33 = .ok (.getfield 60, 3) := by decide +kernel
theorem d_Mo_gather_36 : decode M_Mo_gather.2.1 36 = .ok (.iload_n 2, 1) := by decide +kernel
theorem d_Mo_gather_37 : decode M_Mo_gather.2.1 37 = .ok (.iaload, 1) := by decide +kernel
theorem d_Mo_gather_38 : decode M_Mo_gather.2.1 38 = .ok (.if_icmp .ge 35, 3) := by decide +kernel
theorem d_Mo_gather_73 : decode M_Mo_gather.2.1 73 = .ok (.iinc 2 1, 3) := by decide +kernel
theorem d_Mo_gather_76 : decode M_Mo_gather.2.1 76 = .ok (.goto (-71), 3) := by decide +kernel
theorem d_Mo_gather_41 : decode M_Mo_gather.2.1 41 = .ok (.aload_n 0, 1) := by decide +kernel
theorem d_Mo_gather_42 : decode M_Mo_gather.2.1 42 = .ok (.getfield 97, 3) := by decide +kernel
theorem d_Mo_gather_45 : decode M_Mo_gather.2.1 45 = .ok (.iload_n 3, 1) := by decide +kernel
theorem d_Mo_gather_46 : decode M_Mo_gather.2.1 46 = .ok (.iconst 1, 1) := by decide +kernel
theorem d_Mo_gather_47 : decode M_Mo_gather.2.1 47 = .ok (.bastore, 1) := by decide +kernel
theorem d_Mo_gather_48 : decode M_Mo_gather.2.1 48 = .ok (.aload_n 0, 1) := by decide +kernel
theorem d_Mo_gather_49 : decode M_Mo_gather.2.1 49 = .ok (.iload_n 3, 1) := by decide +kernel
theorem d_Mo_gather_50 : decode M_Mo_gather.2.1 50 = .ok (.aload_n 0, 1) := by decide +kernel
theorem d_Mo_gather_51 : decode M_Mo_gather.2.1 51 = .ok (.getfield 66, 3) := by decide +kernel
theorem d_Mo_gather_54 : decode M_Mo_gather.2.1 54 = .ok (.aload_n 0, 1) := by decide +kernel
theorem d_Mo_gather_55 : decode M_Mo_gather.2.1 55 = .ok (.getfield 57, 3) := by decide +kernel
theorem d_Mo_gather_58 : decode M_Mo_gather.2.1 58 = .ok (.iload_n 2, 1) := by decide +kernel
theorem d_Mo_gather_59 : decode M_Mo_gather.2.1 59 = .ok (.iaload, 1) := by decide +kernel
theorem d_Mo_gather_60 : decode M_Mo_gather.2.1 60 = .ok (.iload 4, 2) := by decide +kernel
theorem d_Mo_gather_62 : decode M_Mo_gather.2.1 62 = .ok (.iadd, 1) := by decide +kernel
theorem d_Mo_gather_63 : decode M_Mo_gather.2.1 63 = .ok (.laload, 1) := by decide +kernel
theorem d_Mo_gather_64 : decode M_Mo_gather.2.1 64 = .ok (.invokevirtual 287, 3) := by decide +kernel
theorem xw_1513 : (Jvm.Cond.code ({ cls := "MarkerTextModel", name := "sort", desc := "(IJ)V" } : Jvm.MethodName) prog_13_method_43_code (7 : Nat) (Option.none : Option Jvm.ClassFile.FieldType)) ∈ xT := xT_at 1513 (by decide +kernel) (by decide +kernel)
theorem xcb_Mo_sort : xcb M_Mo_sort 2 := ⟨xw_1513, xw_8, by decide, by decide, by decide, by decide +kernel⟩
theorem xw_1512 : (Jvm.Cond.instanceMethod ({ cls := "MarkerTextModel", name := "sort", desc := "(IJ)V" } : Jvm.MethodName)) ∈ xT := xT_at 1512 (by decide +kernel) (by decide +kernel)
theorem xw_1510 : (Jvm.Cond.methodLink "MarkerTextModel" (287 : Nat) ({ cls := "MarkerTextModel", name := "sort", desc := "(IJ)V" } : Jvm.MethodName)) ∈ xT := xT_at 1510 (by decide +kernel) (by decide +kernel)
theorem xsel_Mo_sort : Cond.selects "MarkerTextModel" y_Mo_sort y_Mo_sort ∈ xT := xT_sel (q := (y_Mo_sort, 52)) (by decide +kernel) (by decide +kernel)
theorem xcv_Mo_287_Mo : xCV "MarkerTextModel" 287 "MarkerTextModel" M_Mo_sort 2 := ⟨xcb_Mo_sort, xw_1512, Or.inl ⟨xw_1510, Or.inl xsel_Mo_sort⟩⟩
theorem d_Mo_gather_67 : decode M_Mo_gather.2.1 67 = .ok (.iinc 4 1, 3) := by decide +kernel
theorem d_Mo_gather_70 : decode M_Mo_gather.2.1 70 = .ok (.goto (-40), 3) := by decide +kernel
theorem d_Mo_gather_20 : decode M_Mo_gather.2.1 20 = .ok (.aload_n 0, 1) := by decide +kernel
theorem d_Mo_gather_21 : decode M_Mo_gather.2.1 21 = .ok (.getfield 51, 3) := by decide +kernel
theorem d_Mo_gather_24 : decode M_Mo_gather.2.1 24 = .ok (.iload_n 2, 1) := by decide +kernel
theorem d_Mo_gather_25 : decode M_Mo_gather.2.1 25 = .ok (.iaload, 1) := by decide +kernel
theorem d_Mo_gather_26 : decode M_Mo_gather.2.1 26 = .ok (.istore_n 3, 1) := by decide +kernel
theorem d_Mo_gather_27 : decode M_Mo_gather.2.1 27 = .ok (.iconst 0, 1) := by decide +kernel
theorem d_Mo_gather_28 : decode M_Mo_gather.2.1 28 = .ok (.istore 4, 2) := by decide +kernel
theorem d_Mo_gather_0 : decode M_Mo_gather.2.1 0 = .ok (.bipush 40, 2) := by decide +kernel
theorem d_Mo_gather_2 : decode M_Mo_gather.2.1 2 = .ok (.iload_n 1, 1) := by decide +kernel
theorem d_Mo_gather_3 : decode M_Mo_gather.2.1 3 = .ok (.imul, 1) := by decide +kernel
theorem d_Mo_gather_4 : decode M_Mo_gather.2.1 4 = .ok (.istore_n 2, 1) := by decide +kernel
end
section RF15
variable {l : Launch} {G : XG} {h : XH} {c n d : Nat} {o : Nat} {rf : Nat → Nat} {S : MS}
theorem sm_mono {f : Int → Int} {a : Int} {k m : Nat} (hkm : k ≤ m) (hf : ∀ i : Int, a ≤ i → i < a + m → 0 ≤ f i) : sm f a k ≤ sm f a m := by
  induction m with
  | zero => obtain rfl : k = 0 := by omega
            exact Int.le_refl _
  | succ m ih =>
    by_cases hk : k = m + 1
    · rw [hk]; exact Int.le_refl _
    · have h1 := ih (by omega) (fun i h1 h2 => hf i h1 (by omega))
      have h2 := hf (a + m) (by omega) (by omega)
      simp only [sm]
      omega
theorem sm_nx {f : Int → Int} {a t : Int} (h : a ≤ t) : sm f a (t + 1 - a).toNat = sm f a (t - a).toNat + f t := by
  rw [show (t + 1 - a).toNat = (t - a).toNat + 1 by omega]
  simp only [sm]
  rw [show a + ((t - a).toNat : Int) = t by omega]
/-- while the VALUES of a condition are gathered -/
def GI (S S1 : MS) (s t k : Int) : Prop := rSm S S1 [] [38, 39] [37] ∧ (∀ q : Int, 0 ≤ q → q < 6 → gd (S.2.1 38) q ≤ gd (S1.2.1 38) q ∧ gd (S1.2.1 38) q ≤ gd (S.2.1 38) q + sm (gd (S.2.1 20)) (40 * s) (t - 40 * s).toNat + k) ∧ (∀ t' j : Int, 40 * s ≤ t' → (t' < t ∨ (t' = t ∧ j < k)) → 0 ≤ j → j < gd (S.2.1 20) t' → sMem S1 (gd (S.2.1 17) t') (gl (S.2.2.1 22) (gd (S.2.1 19) t' + j))) ∧ ∀ (q : Int) (y : Int64), 0 ≤ q → q < 6 → sMem S q y → sMem S1 q y
theorem GI.ask {S1 : MS} {s t k : Int} {us : List Int} (h : GI S S1 s t k) : GI S (sa S1 39 us) s t k := ⟨h.1.sa (by decide), h.2.1, h.2.2.1, h.2.2.2⟩
theorem GI.step {S1 S2 : MS} {s t k : Int} (h : GI S S1 s t k) (hn : 0 ≤ gd (S.2.1 17) t ∧ gd (S.2.1 17) t < 6) (hc : ∀ t' : Int, 40 * s ≤ t' → t' < t → 0 < gd (S.2.1 20) t' → 0 ≤ gd (S.2.1 17) t' ∧ gd (S.2.1 17) t' < 6) (hs : srQ S1 (gd (S.2.1 17) t) (gl (S.2.2.1 22) (gd (S.2.1 19) t + k)) none S2) : GI S S2 s t (k + 1) := by
  obtain ⟨g1, g2, g3, g4⟩ := h
  obtain ⟨-, s1, s2, s3, s4⟩ := hs
  refine ⟨g1.tr (s1.mono (by decide) (by decide) (by decide)), fun q h0 h6 => ?_, fun t' j h1 h2 h3 h5 => ?_, fun q y h0 h6 hy => s4 q y h0 h6 (g4 q y h0 h6 hy)⟩
  · have a1 := g2 q h0 h6
    have a2 := s2 q h0 h6
    have a3 : (if q = gd (S.2.1 17) t then (1 : Int) else 0) ≤ 1 := by split <;> omega
    omega
  · by_cases hq : t' = t ∧ j = k
    · obtain ⟨rfl, rfl⟩ := hq
      exact s3
    · have hold := g3 t' j h1 (by omega) h3 h5
      have hnm : 0 ≤ gd (S.2.1 17) t' ∧ gd (S.2.1 17) t' < 6 := by
        by_cases htt : t' = t
        · rw [htt]; exact hn
        · exact hc t' h1 (by omega) (by omega)
      exact s4 _ _ hnm.1 hnm.2 hold
theorem GI.nx {S1 : MS} {s t : Int} (h : GI S S1 s t (gd (S.2.1 20) t)) (ht : 40 * s ≤ t) : GI S S1 s (t + 1) 0 := by
  obtain ⟨g1, g2, g3, g4⟩ := h
  refine ⟨g1, fun q h0 h6 => ?_, fun t' j h1 h2 h3 h5 => ?_, g4⟩
  · have := g2 q h0 h6
    rw [sm_nx ht]
    omega
  · refine g3 t' j h1 ?_ h3 h5
    by_cases htt : t' = t
    · exact Or.inr ⟨htt, by rw [htt] at h5; exact h5⟩
    · exact Or.inl (by omega)
/-- all VALUES of a condition stand in the rows -/
def inS (S : MS) (s : Int) : Prop := ∀ t j : Int, 40 * s ≤ t → t < 40 * s + gd (S.2.1 21) s → 0 ≤ j → j < gd (S.2.1 20) t → sMem S (gd (S.2.1 17) t) (gl (S.2.2.1 22) (gd (S.2.1 19) t + j))
/-- how gather() ends -/
abbrev gaQ (S : MS) (s : Int) : Option Value → MS → Prop := fun v S' => v = none ∧ rSm S S' [] [38, 39] [37] ∧ (∀ q : Int, 0 ≤ q → q < 6 → gd (S.2.1 38) q ≤ gd (S'.2.1 38) q ∧ gd (S'.2.1 38) q ≤ gd (S.2.1 38) q + 40) ∧ inS S' s ∧ ∀ (q : Int) (y : Int64), 0 ≤ q → q < 6 → sMem S q y → sMem S' q y
theorem r_gather {s : Int} (hd : 1 ≤ d) (hs : 0 ≤ s ∧ s ≤ 8) (hC : cdOk S s) (hm : mnB S 280) : RM l G d M_Mo_gather [.ref o, .int (zI s)] o rf S (gaQ S s) := by
  obtain ⟨d, rfl⟩ : ∃ q, d = q + 1 := ⟨d - 1, by omega⟩
  intro H0 c n hR
  refine XM.of (by decide +kernel) (Nat.le_of_ble_eq_true rfl) ?_
  have hX : xonly H0 H0 RKs := xonly.rf
  obtain ⟨w, ⟨p1, p2, p3, p4, p5, p6, p7, p8, p9, p10⟩, -⟩ := hC
  have hmn : ∀ t : Int, 40 * s ≤ t → t < 40 * s + gd (S.2.1 21) s → 0 ≤ gd (S.2.1 20) t := fun t h1 h2 => (p8 t h1 h2).2.2.1
  have hpre : ∀ t : Int, 40 * s ≤ t → t ≤ 40 * s + gd (S.2.1 21) s → sm (gd (S.2.1 20)) (40 * s) (t - 40 * s).toNat ≤ 40 := fun t h1 h2 => by
    have := sm_mono (f := gd (S.2.1 20)) (a := 40 * s) (k := (t - 40 * s).toNat) (m := (gd (S.2.1 21) s).toNat) (by omega) (fun i h3 h4 => hmn i h3 (by omega))
    omega
  have hnm : ∀ t : Int, 40 * s ≤ t → t < 40 * s + gd (S.2.1 21) s → 0 < gd (S.2.1 20) t → 0 ≤ gd (S.2.1 17) t ∧ gd (S.2.1 17) t < 6 := fun t h1 h2 h3 => by
    obtain ⟨t1, t2, t3, t4, t5, t6, t7⟩ := p8 t h1 h2
    by_cases h6 : 6 < gd (S.2.1 18) t
    · have := t4 h6; omega
    · exact t5 (by omega)
  have fin : ∀ (S1 : MS) (t : Int), 40 * s + gd (S.2.1 21) s ≤ t → t ≤ 40 * s + gd (S.2.1 21) s → GI S S1 s t 0 → gaQ S s none S1 := by
    intro S1 t h1 h2 hG
    obtain ⟨g1, g2, g3, g4⟩ := hG
    refine ⟨rfl, g1, fun q h0 h6 => ?_, fun t' j e1 e2 e3 e4 => ?_, g4⟩
    · have := g2 q h0 h6
      have := hpre t (by omega) h2
      omega
    · rw [g1.2.1 21 (by decide)] at e2
      rw [g1.2.1 20 (by decide)] at e4
      rw [g1.2.1 17 (by decide), g1.2.1 19 (by decide), g1.2.2 22 (by decide)]
      exact g3 t' j e1 (Or.inl (by omega)) e3 e4
  have lp : ∀ (K : Nat) (S1 : MS) (t : Int) (w3 w4 : Option Value), 40 * s ≤ t → t ≤ 40 * s + gd (S.2.1 21) s → GI S S1 s t 0 → 40 * s + gd (S.2.1 21) s - t ≤ K → RX l G M_Mo_gather (d + 1) 5 [some (.ref o), some (.int (zI s)), some (.int (zI t)), w3, w4] [] H0 o rf c n S1 (gaQ S s) := by
    intro K
    induction K with
    | zero =>
      intro S1 t w3 w4 ht1 ht2 hG hK h hR hX
      have e21 := hG.1.2.1 21 (by decide)
      refine x_iload_n d_Mo_gather_5 rfl ?_
      refine x_bipush (v := zI 40) d_Mo_gather_6 (by decide) ?_
      refine x_iload_n d_Mo_gather_8 rfl ?_
      refine z_imul d_Mo_gather_9 ?_
      refine x_aload_n d_Mo_gather_10 rfl rfl ?_
      refine x_get xf_Mo_63_Mo (Or.inl hR.1) (v := .ref (rf 21)) rfl d_Mo_gather_11 ?_
      refine x_iload_n d_Mo_gather_14 rfl ?_
      refine r_iald (i := 21) (us := (S1.2.1 21)) rfl (by decide) hR rfl (by omega) (by show s < 9; omega) d_Mo_gather_15 (fun hr15 => ?_)
      refine z_iadd d_Mo_gather_16 ?_
      rw [e21] at *
      refine z_icmp_ge (tgt := 79) d_Mo_gather_17 (by decide) (by omega) (by omega) (fun _ => ?_) (fun hq => by omega)
      refine x_vret d_Mo_gather_79 rfl ?_
      exact ⟨_, hR, hX, rfl, rfl, fin S1 t (by omega) ht2 hG⟩
    | succ K ih =>
      intro S1 t w3 w4 ht1 ht2 hG hK h hR hX
      have e21 := hG.1.2.1 21 (by decide)
      have e17 := hG.1.2.1 17 (by decide)
      by_cases hend : 40 * s + gd (S.2.1 21) s ≤ t
      · refine x_iload_n d_Mo_gather_5 rfl ?_
        refine x_bipush (v := zI 40) d_Mo_gather_6 (by decide) ?_
        refine x_iload_n d_Mo_gather_8 rfl ?_
        refine z_imul d_Mo_gather_9 ?_
        refine x_aload_n d_Mo_gather_10 rfl rfl ?_
        refine x_get xf_Mo_63_Mo (Or.inl hR.1) (v := .ref (rf 21)) rfl d_Mo_gather_11 ?_
        refine x_iload_n d_Mo_gather_14 rfl ?_
        refine r_iald (i := 21) (us := (S1.2.1 21)) rfl (by decide) hR rfl (by omega) (by show s < 9; omega) d_Mo_gather_15 (fun hr15 => ?_)
        refine z_iadd d_Mo_gather_16 ?_
        rw [e21] at *
        refine z_icmp_ge (tgt := 79) d_Mo_gather_17 (by decide) (by omega) (by omega) (fun _ => ?_) (fun hq => by omega)
        refine x_vret d_Mo_gather_79 rfl ?_
        exact ⟨_, hR, hX, rfl, rfl, fin S1 t (by omega) ht2 hG⟩
      · obtain ⟨t1, t2, t3, t4, t5, t6, t7⟩ := p8 t ht1 (by omega)
        have hp1 := hpre (t + 1) (by omega) (by omega)
        rw [sm_nx ht1] at hp1
        have lp2 : ∀ (K2 : Nat) (S2 : MS) (k : Int), 0 ≤ k → k ≤ gd (S.2.1 20) t → GI S S2 s t k → gd (S.2.1 20) t - k ≤ K2 → RX l G M_Mo_gather (d + 1) 30 [some (.ref o), some (.int (zI s)), some (.int (zI t)), some (.int (zI (gd (S.2.1 17) t))), some (.int (zI k))] [] H0 o rf c n S2 (gaQ S s) := by
          intro K2
          induction K2 with
          | zero =>
            intro S2 k hk0 hk1 hG2 hK2 h hR hX
            have e20 := hG2.1.2.1 20 (by decide)
            refine x_iload d_Mo_gather_30 rfl ?_
            refine x_aload_n d_Mo_gather_32 rfl rfl ?_
            refine x_get xf_Mo_60_Mo (Or.inl hR.1) (v := .ref (rf 20)) rfl d_Mo_gather_33 ?_
            refine x_iload_n d_Mo_gather_36 rfl ?_
            refine r_iald (i := 20) (us := (S2.2.1 20)) rfl (by decide) hR rfl (by omega) (by show t < 360; omega) d_Mo_gather_37 (fun hr37 => ?_)
            rw [e20] at *
            refine z_icmp_ge (tgt := 73) d_Mo_gather_38 (by decide) (by omega) (by omega) (fun _ => ?_) (fun hq => by omega)
            refine x_iinc (v := zI (t + 1)) (L' := [_, _, _, _, _]) d_Mo_gather_73 rfl (zI_add _ _) rfl rfl ?_
            refine x_goto (tgt := 5) d_Mo_gather_76 (by decide) ?_
            exact ih S2 (t + 1) _ _ (by omega) (by omega) (GI.nx (by rw [show gd (S.2.1 20) t = k by omega]; exact hG2) ht1) (by omega) _ hR hX
          | succ K2 ih2 =>
            intro S2 k hk0 hk1 hG2 hK2 h hR hX
            have e20 := hG2.1.2.1 20 (by decide)
            have e19 := hG2.1.2.1 19 (by decide)
            have e22 := hG2.1.2.2 22 (by decide)
            by_cases hke : k = gd (S.2.1 20) t
            · refine x_iload d_Mo_gather_30 rfl ?_
              refine x_aload_n d_Mo_gather_32 rfl rfl ?_
              refine x_get xf_Mo_60_Mo (Or.inl hR.1) (v := .ref (rf 20)) rfl d_Mo_gather_33 ?_
              refine x_iload_n d_Mo_gather_36 rfl ?_
              refine r_iald (i := 20) (us := (S2.2.1 20)) rfl (by decide) hR rfl (by omega) (by show t < 360; omega) d_Mo_gather_37 (fun hr37 => ?_)
              rw [e20] at *
              refine z_icmp_ge (tgt := 73) d_Mo_gather_38 (by decide) (by omega) (by omega) (fun _ => ?_) (fun hq => by omega)
              refine x_iinc (v := zI (t + 1)) (L' := [_, _, _, _, _]) d_Mo_gather_73 rfl (zI_add _ _) rfl rfl ?_
              refine x_goto (tgt := 5) d_Mo_gather_76 (by decide) ?_
              exact ih S2 (t + 1) _ _ (by omega) (by omega) (GI.nx (by rw [← hke]; exact hG2) ht1) (by omega) _ hR hX
            · have hq := hnm t ht1 (by omega) (by omega)
              have hb2 : mnB S2 328 := fun q h0 h6 => by
                have := hG2.2.1 q h0 h6
                have := hm q h0 h6
                omega
              refine x_iload d_Mo_gather_30 rfl ?_
              refine x_aload_n d_Mo_gather_32 rfl rfl ?_
              refine x_get xf_Mo_60_Mo (Or.inl hR.1) (v := .ref (rf 20)) rfl d_Mo_gather_33 ?_
              refine x_iload_n d_Mo_gather_36 rfl ?_
              refine r_iald (i := 20) (us := (S2.2.1 20)) rfl (by decide) hR rfl (by omega) (by show t < 360; omega) d_Mo_gather_37 (fun hr37 => ?_)
              rw [e20] at *
              refine z_icmp_ge (tgt := 73) d_Mo_gather_38 (by decide) (by omega) (by omega) (fun hq => by omega) (fun _ => ?_)
              refine x_aload_n d_Mo_gather_41 rfl rfl ?_
              refine x_get xf_Mo_97_Mo (Or.inl hR.1) (v := .ref (rf 39)) rfl d_Mo_gather_42 ?_
              refine x_iload_n d_Mo_gather_45 rfl ?_
              refine x_iconst (v := zI 1) d_Mo_gather_46 (by decide) ?_
              refine r_zast (i := 39) (us := (S2.2.1 39)) rfl (by decide) hR hX rfl (by omega) (by show gd (S.2.1 17) t < 6; omega) (by omega) d_Mo_gather_47 ?_
              intro h hR hX
              refine x_aload_n d_Mo_gather_48 rfl rfl ?_
              refine x_iload_n d_Mo_gather_49 rfl ?_
              refine x_aload_n d_Mo_gather_50 rfl rfl ?_
              refine x_get xf_Mo_66_Mo (Or.inl hR.1) (v := .ref (rf 22)) rfl d_Mo_gather_51 ?_
              refine x_aload_n d_Mo_gather_54 rfl rfl ?_
              refine x_get xf_Mo_57_Mo (Or.inl hR.1) (v := .ref (rf 19)) rfl d_Mo_gather_55 ?_
              refine x_iload_n d_Mo_gather_58 rfl ?_
              refine r_iald (i := 19) (us := (S2.2.1 19)) rfl (by decide) hR rfl (by omega) (by show t < 360; omega) d_Mo_gather_59 (fun hr59 => ?_)
              refine x_iload d_Mo_gather_60 rfl ?_
              refine z_iadd d_Mo_gather_62 ?_
              rw [e19] at *
              refine r_lald (i := 22) (us := (S2.2.2.1 22)) rfl (by decide) hR rfl (by omega) (by show gd (S.2.1 19) t + k < 576; omega) d_Mo_gather_63 ?_
              rw [e22]
              refine x_callV (As := [_, _]) (k := k_MarkerTextModel) rfl xcv_Mo_287_Mo (Or.inl hR.1) (RM.ap hR (r_sort hq (by exact hb2))) rfl rfl (Nat.le_of_ble_eq_true rfl) d_Mo_gather_64 ?_
              rintro v64 h cq nq ⟨S64, hR, hX64, rfl, rfl, rfl, hq64⟩
              replace hX := hX.tr hX64
              refine x_iinc (v := zI (k + 1)) (L' := [_, _, _, _, _]) d_Mo_gather_67 rfl (zI_add _ _) rfl rfl ?_
              refine x_goto (tgt := 30) d_Mo_gather_70 (by decide) ?_
              exact ih2 S64 (k + 1) (by omega) (by omega) ((hG2.ask (us := se (S2.2.1 39) (gd (S.2.1 17) t) 1)).step hq (fun t' q1 q2 q3 => hnm t' q1 (by omega) q3) ⟨rfl, hq64⟩) (by omega) _ hR hX
        refine x_iload_n d_Mo_gather_5 rfl ?_
        refine x_bipush (v := zI 40) d_Mo_gather_6 (by decide) ?_
        refine x_iload_n d_Mo_gather_8 rfl ?_
        refine z_imul d_Mo_gather_9 ?_
        refine x_aload_n d_Mo_gather_10 rfl rfl ?_
        refine x_get xf_Mo_63_Mo (Or.inl hR.1) (v := .ref (rf 21)) rfl d_Mo_gather_11 ?_
        refine x_iload_n d_Mo_gather_14 rfl ?_
        refine r_iald (i := 21) (us := (S1.2.1 21)) rfl (by decide) hR rfl (by omega) (by show s < 9; omega) d_Mo_gather_15 (fun hr15 => ?_)
        refine z_iadd d_Mo_gather_16 ?_
        rw [e21] at *
        refine z_icmp_ge (tgt := 79) d_Mo_gather_17 (by decide) (by omega) (by omega) (fun hq => by omega) (fun _ => ?_)
        refine x_aload_n d_Mo_gather_20 rfl rfl ?_
        refine x_get xf_Mo_51_Mo (Or.inl hR.1) (v := .ref (rf 17)) rfl d_Mo_gather_21 ?_
        refine x_iload_n d_Mo_gather_24 rfl ?_
        refine r_iald (i := 17) (us := (S1.2.1 17)) rfl (by decide) hR rfl (by omega) (by show t < 360; omega) d_Mo_gather_25 (fun hr25 => ?_)
        rw [e17]
        refine x_istore_n (L' := [_, _, _, _, _]) d_Mo_gather_26 rfl rfl ?_
        refine x_iconst (v := zI 0) d_Mo_gather_27 (by decide) ?_
        refine x_istore (L' := [_, _, _, _, _]) d_Mo_gather_28 rfl rfl ?_
        exact lp2 (gd (S.2.1 20) t).toNat S1 0 (by omega) t3 hG (by omega) _ hR hX
  refine x_bipush (v := zI 40) d_Mo_gather_0 (by decide) ?_
  refine x_iload_n d_Mo_gather_2 rfl ?_
  refine z_imul d_Mo_gather_3 ?_
  refine x_istore_n (L' := [_, _, _, _, _]) d_Mo_gather_4 rfl rfl ?_
  exact lp 40 S _ _ _ (by omega) (by omega) ⟨rSm.r0, fun q h0 h6 => by rw [show (40 * s - 40 * s).toNat = 0 by omega]; show _ ∧ _ ≤ _ + 0 + 0; omega, fun t' j h1 h2 h3 h5 => by omega, fun q y _ _ hy => hy⟩ (by omega) _ hR hX
end RF15
