section
abbrev y_Mo_gather : MethodName := ⟨"MarkerTextModel", "gather", "(I)V"⟩
abbrev M_Mo_gather : XMt := (y_Mo_gather, prog_13_method_44_code, 5, none)
theorem d_Mo_gather_5 : decode M_Mo_gather.2.1 5 = .ok (.iload_n 2, 1) := by decide +kernel
theorem d_Mo_gather_6 : decode M_Mo_gather.2.1 6 = .ok (.bipush 40, 2) := by decide +kernel
theorem d_Mo_gather_8 : decode M_Mo_gather.2.1 8 = .ok (.iload_n 1, 1) := by decide +kernel
theorem d_Mo_gather_9 : decode M_Mo_gather.2.1 9 = .ok (.imul, 1) := by decide +kernel
theorem d_Mo_gather_10 : decode M_Mo_gather.2.1 10 = .ok (.aload_n 0, 1) := by decide +kernel
theorem d_Mo_gather_11 : decode M_Mo_gather.2.1 11 = .ok (.getfield 63, 3) := by decide +kernel
theorem d_Mo_gather_14 : decode M_Mo_gather.2.1 14 = .ok (.iload_n 1, 1) := by decide +kernel
theorem d_Mo_gather_15 : decode M_Mo_gather.2.1 15 = .ok (.iaload, 1) := by decide +kernel
theorem d_Mo_gather_16 : decode M_Mo_gather.2.1 16 = .ok (.iadd, 1) := by decide +kernel
theorem d_Mo_gather_17 : decode M_Mo_gather.2.1 17 = .ok (.if_icmp .ge 62, 3) := by decide +kernel
theorem d_Mo_gather_79 : decode M_Mo_gather.2.1 79 = .ok (.return_, 1) := by decide +kernel
theorem d_Mo_gather_30 : decode M_Mo_gather.2.1 30 = .ok (.iload 4, 2) := by decide +kernel
theorem d_Mo_gather_32 : decode M_Mo_gather.2.1 32 = .ok (.aload_n 0, 1) := by decide +kernel
theorem d_Mo_gather_33 : decode M_Mo_gather.2.1 33 = .ok (.getfield 60, 3) := by decide +kernel
theorem d_Mo_gather_36 : decode M_Mo_gather.2.1 36 = .ok (.iload_n 2, 1) := by decide +kernel
theorem d_Mo_gather_37 : decode M_Mo_gather.2.1 37 = .ok (.iaload, 1) := by decide +kernel
theorem d_Mo_gather_38 : decode M_Mo_gather.2.1 38 = .ok (.if_icmp .ge 35, 3) := by decide +kernel
theorem d_Mo_gather_73 : decode M_Mo_gather.2.1 73 = .ok (.iinc 2 1, 3) := by decide +kernel
theorem d_Mo_gather_76 : decode M_Mo_gather.2.1 76 = .ok (.goto (-71), 3) := by decide +kernel
theorem d_Mo_gather_41 : decode M_Mo_gather.2.1 41 = .ok (.aload_n 0, 1) := by decide +kernel
theorem d_Mo_gather_42 : decode M_Mo_gather.2.1 42 = .ok (.getfield 97, 3) := by decide +kernel
theorem d_Mo_gather_45 : decode M_Mo_gather.2.1 45 = .ok (.iload_n 3, 1) := by decide +kernel
theorem d_Mo_gather_46 : decode M_Mo_gather.2.1 46 = .ok (.iconst 1, 1) := by decide +kernel
theorem d_Mo_gather_47 : decode M_Mo_gather.2.1 47 = .ok (.bastore, 1) := by decide +kernel
theorem d_Mo_gather_48 : decode M_Mo_gather.2.1 48 = .ok (.aload_n 0, 1) := by decide +kernel
theorem d_Mo_gather_49 : decode M_Mo_gather.2.1 49 = .ok (.iload_n 3, 1) := by decide +kernel
theorem d_Mo_gather_50 : decode M_Mo_gather.2.1 50 = .ok (.aload_n 0, 1) := by decide +kernel
theorem d_Mo_gather_51 : decode M_Mo_gather.2.1 51 = .ok (.getfield 66, 3) := by decide +kernel
theorem d_Mo_gather_54 : decode M_Mo_gather.2.1 54 = .ok (.aload_n 0, 1) := by decide +kernel
theorem d_Mo_gather_55 : decode M_Mo_gather.2.1 55 = .ok (.getfield 57, 3) := by decide +kernel
theorem d_Mo_gather_58 : decode M_Mo_gather.2.1 58 = .ok (.iload_n 2, 1) := by decide +kernel
theorem d_Mo_gather_59 : decode M_Mo_gather.2.1 59 = .ok (.iaload, 1) := by decide +kernel
theorem d_Mo_gather_60 : decode M_Mo_gather.2.1 60 = .ok (.iload 4, 2) := by decide +kernel
theorem d_Mo_gather_62 : decode M_Mo_gather.2.1 62 = .ok (.iadd, 1) := by decide +kernel
theorem d_Mo_gather_63 : decode M_Mo_gather.2.1 63 = .ok (.laload, 1) := by decide +kernel
theorem d_Mo_gather_64 : decode M_Mo_gather.2.1 64 = .ok (.invokevirtual 287, 3) := by decide +kernel
theorem xw_1513 : (Jvm.Cond.code ({ cls := "MarkerTextModel", name := "sort", desc := "(IJ)V" } : Jvm.MethodName) prog_13_method_43_code (7 : Nat) (Option.none : Option Jvm.ClassFile.FieldType)) ∈ xT := xT_at 1513 (by decide +kernel) (by decide +kernel)
theorem xcb_Mo_sort : xcb M_Mo_sort 2 := ⟨xw_1513, xw_8, by decide, by decide, by decide, by decide +kernel⟩
theorem xw_1512 : (Jvm.Cond.instanceMethod ({ cls := "MarkerTextModel", name := "sort", desc := "(IJ)V" } : Jvm.MethodName)) ∈ xT := xT_at 1512 (by decide +kernel) (by decide +kernel)
theorem xw_1510 : (Jvm.Cond.methodLink "MarkerTextModel" (287 : Nat) ({ cls := "MarkerTextModel", name := "sort", desc := "(IJ)V" } : Jvm.MethodName)) ∈ xT := xT_at 1510 (by decide +kernel) (by decide +kernel)
theorem xsel_Mo_sort : Cond.selects "MarkerTextModel" y_Mo_sort y_Mo_sort ∈ xT := xT_sel (q := (y_Mo_sort, 52)) (by decide +kernel) (by decide +kernel)
theorem xcv_Mo_287_Mo : xCV "MarkerTextModel" 287 "MarkerTextModel" M_Mo_sort 2 := ⟨xcb_Mo_sort, xw_1512, Or.inl ⟨xw_1510, Or.inl xsel_Mo_sort⟩⟩
theorem d_Mo_gather_67 : decode M_Mo_gather.2.1 67 = .ok (.iinc 4 1, 3) := by decide +kernel
theorem d_Mo_gather_70 : decode M_Mo_gather.2.1 70 = .ok (.goto (-40), 3) := by decide +kernel
theorem d_Mo_gather_20 : decode M_Mo_gather.2.1 20 = .ok (.aload_n 0, 1) := by decide +kernel
theorem d_Mo_gather_21 : decode M_Mo_gather.2.1 21 = .ok (.getfield 51, 3) := by decide +kernel
theorem d_Mo_gather_24 : decode M_Mo_gather.2.1 24 = .ok (.iload_n 2, 1) := by decide +kernel
theorem d_Mo_gather_25 : decode M_Mo_gather.2.1 25 = .ok (.iaload, 1) := by decide +kernel
theorem d_Mo_gather_26 : decode M_Mo_gather.2.1 26 = .ok (.istore_n 3, 1) := by decide +kernel
theorem d_Mo_gather_27 : decode M_Mo_gather.2.1 27 = .ok (.iconst 0, 1) := by decide +kernel
theorem d_Mo_gather_28 : decode M_Mo_gather.2.1 28 = .ok (.istore 4, 2) := by decide +kernel
theorem d_Mo_gather_0 : decode M_Mo_gather.2.1 0 = .ok (.bipush 40, 2) := by decide +kernel
theorem d_Mo_gather_2 : decode M_Mo_gather.2.1 2 = .ok (.iload_n 1, 1) := by decide +kernel
theorem d_Mo_gather_3 : decode M_Mo_gather.2.1 3 = .ok (.imul, 1) := by decide +kernel
theorem d_Mo_gather_4 : decode M_Mo_gather.2.1 4 = .ok (.istore_n 2, 1) := by decide +kernel
end
section RF15
variable {l : Launch} {G : XG} {h : XH} {c n d : Nat} {o : Nat} {rf : Nat → Nat} {S : MS}
theorem sm_mono {f : Int → Int} {a : Int} {k m : Nat} (hkm : k ≤ m) (hf : ∀ i : Int, a ≤ i → i < a + m → 0 ≤ f i) : sm f a k ≤ sm f a m := by
  induction m with
  | zero => obtain rfl : k = 0 := by omega
            exact Int.le_refl _
  | succ m ih =>
    by_cases hk : k = m + 1
    · rw [hk]; exact Int.le_refl _
    · have h1 := ih (by omega) (fun i h1 h2 => hf i h1 (by omega))
      have h2 := hf (a + m) (by omega) (by omega)
      simp only [sm]
      omega
theorem sm_nx {f : Int → Int} {a t : Int} (h : a ≤ t) : sm f a (t + 1 - a).toNat = sm f a (t - a).toNat + f t := by
  rw [show (t + 1 - a).toNat = (t - a).toNat + 1 by omega]
  simp only [sm]
  rw [show a + ((t - a).toNat : Int) = t by omega]
/-- while the VALUES of a condition are gathered -/
def GI (S S1 : MS) (s t k : Int) : Prop := rSm S S1 [] [38, 39] [37] ∧ (∀ q : Int, 0 ≤ q → q < 6 → gd (S.2.1 38) q ≤ gd (S1.2.1 38) q ∧ gd (S1.2.1 38) q ≤ gd (S.2.1 38) q + sm (gd (S.2.1 20)) (40 * s) (t - 40 * s).toNat + k) ∧ (∀ t' j : Int, 40 * s ≤ t' → (t' < t ∨ (t' = t ∧ j < k)) → 0 ≤ j → j < gd (S.2.1 20) t' → sMem S1 (gd (S.2.1 17) t') (gl (S.2.2.1 22) (gd (S.2.1 19) t' + j))) ∧ ∀ (q : Int) (y : Int64), 0 ≤ q → q < 6 → sMem S q y → sMem S1 q y
theorem GI.step {S1 S2 : MS} {s t k : Int} (h : GI S S1 s t k) (hn : 0 ≤ gd (S.2.1 17) t ∧ gd (S.2.1 17) t < 6) (hc : ∀ t' : Int, 40 * s ≤ t' → t' < t → 0 < gd (S.2.1 20) t' → 0 ≤ gd (S.2.1 17) t' ∧ gd (S.2.1 17) t' < 6) (hs : srQ S1 (gd (S.2.1 17) t) (gl (S.2.2.1 22) (gd (S.2.1 19) t + k)) none S2) : GI S S2 s t (k + 1) := by
  obtain ⟨g1, g2, g3, g4⟩ := h
  obtain ⟨-, s1, s2, s3, s4⟩ := hs
  refine ⟨g1.tr (s1.mono (by decide) (by decide) (by decide)), fun q h0 h6 => ?_, fun t' j h1 h2 h3 h5 => ?_, fun q y h0 h6 hy => s4 q y h0 h6 (g4 q y h0 h6 hy)⟩
  · have a1 := g2 q h0 h6
    have a2 := s2 q h0 h6
    have a3 : (if q = gd (S.2.1 17) t then (1 : Int) else 0) ≤ 1 := by split <;> omega
    omega
  · by_cases hq : t' = t ∧ j = k
    · obtain ⟨rfl, rfl⟩ := hq
      exact s3
    · have hold := g3 t' j h1 (by omega) h3 h5
      have hnm : 0 ≤ gd (S.2.1 17) t' ∧ gd (S.2.1 17) t' < 6 := by
        by_cases htt : t' = t
        · rw [htt]; exact hn
        · exact hc t' h1 (by omega) (by omega)
      exact s4 _ _ hnm.1 hnm.2 hold
theorem GI.nx {S1 : MS} {s t : Int} (h : GI S S1 s t (gd (S.2.1 20) t)) (ht : 40 * s ≤ t) : GI S S1 s (t + 1) 0 := by
  obtain ⟨g1, g2, g3, g4⟩ := h
  refine ⟨g1, fun q h0 h6 => ?_, fun t' j h1 h2 h3 h5 => ?_, g4⟩
  · have := g2 q h0 h6
    rw [sm_nx ht]
    omega
  · refine g3 t' j h1 ?_ h3 h5
    by_cases htt : t' = t
    · exact Or.inr ⟨htt, by rw [htt] at h5; exact h5⟩
    · exact Or.inl (by omega)
/-- all VALUES of a condition stand in the rows -/
def inS (S : MS) (s : Int) : Prop := ∀ t j : Int, 40 * s ≤ t → t < 40 * s + gd (S.2.1 21) s → 0 ≤ j → j < gd (S.2.1 20) t → sMem S (gd (S.2.1 17) t) (gl (S.2.2.1 22) (gd (S.2.1 19) t + j))
end RF15
