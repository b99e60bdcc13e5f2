section
abbrev y_Mo_sort : MethodName := ⟨"MarkerTextModel", "sort", "(IJ)V"⟩
abbrev M_Mo_sort : XMt := (y_Mo_sort, prog_13_method_43_code, 7, none)
theorem d_Mo_sort_72 : decode M_Mo_sort.2.1 72 = .ok (.iload 6, 2) := by decide +kernel
theorem d_Mo_sort_74 : decode M_Mo_sort.2.1 74 = .ok (.iload 5, 2) := by decide +kernel
theorem d_Mo_sort_76 : decode M_Mo_sort.2.1 76 = .ok (.if_icmp .le 37, 3) := by decide +kernel
theorem d_Mo_sort_113 : decode M_Mo_sort.2.1 113 = .ok (.aload_n 0, 1) := by decide +kernel
theorem d_Mo_sort_114 : decode M_Mo_sort.2.1 114 = .ok (.getfield 91, 3) := by decide +kernel
theorem d_Mo_sort_117 : decode M_Mo_sort.2.1 117 = .ok (.sipush 330, 3) := by decide +kernel
theorem d_Mo_sort_120 : decode M_Mo_sort.2.1 120 = .ok (.iload_n 1, 1) := by decide +kernel
theorem d_Mo_sort_121 : decode M_Mo_sort.2.1 121 = .ok (.imul, 1) := by decide +kernel
theorem d_Mo_sort_122 : decode M_Mo_sort.2.1 122 = .ok (.iload 5, 2) := by decide +kernel
theorem d_Mo_sort_124 : decode M_Mo_sort.2.1 124 = .ok (.iadd, 1) := by decide +kernel
theorem d_Mo_sort_125 : decode M_Mo_sort.2.1 125 = .ok (.lload_n 2, 1) := by decide +kernel
theorem d_Mo_sort_126 : decode M_Mo_sort.2.1 126 = .ok (.lastore, 1) := by decide +kernel
theorem d_Mo_sort_127 : decode M_Mo_sort.2.1 127 = .ok (.aload_n 0, 1) := by decide +kernel
theorem d_Mo_sort_128 : decode M_Mo_sort.2.1 128 = .ok (.getfield 94, 3) := by decide +kernel
theorem d_Mo_sort_131 : decode M_Mo_sort.2.1 131 = .ok (.iload_n 1, 1) := by decide +kernel
theorem d_Mo_sort_132 : decode M_Mo_sort.2.1 132 = .ok (.dup2, 1) := by decide +kernel
theorem d_Mo_sort_133 : decode M_Mo_sort.2.1 133 = .ok (.iaload, 1) := by decide +kernel
theorem d_Mo_sort_134 : decode M_Mo_sort.2.1 134 = .ok (.iconst 1, 1) := by decide +kernel
theorem d_Mo_sort_135 : decode M_Mo_sort.2.1 135 = .ok (.iadd, 1) := by decide +kernel
theorem d_Mo_sort_136 : decode M_Mo_sort.2.1 136 = .ok (.iastore, 1) := by decide +kernel
theorem d_Mo_sort_137 : decode M_Mo_sort.2.1 137 = .ok (.return_, 1) := by decide +kernel
theorem d_Mo_sort_79 : decode M_Mo_sort.2.1 79 = .ok (.aload_n 0, 1) := by decide +kernel
theorem d_Mo_sort_80 : decode M_Mo_sort.2.1 80 = .ok (.getfield 91, 3) := by decide +kernel
theorem d_Mo_sort_83 : decode M_Mo_sort.2.1 83 = .ok (.sipush 330, 3) := by decide +kernel
theorem d_Mo_sort_86 : decode M_Mo_sort.2.1 86 = .ok (.iload_n 1, 1) := by decide +kernel
theorem d_Mo_sort_87 : decode M_Mo_sort.2.1 87 = .ok (.imul, 1) := by decide +kernel
theorem d_Mo_sort_88 : decode M_Mo_sort.2.1 88 = .ok (.iload 6, 2) := by decide +kernel
theorem d_Mo_sort_90 : decode M_Mo_sort.2.1 90 = .ok (.iadd, 1) := by decide +kernel
theorem d_Mo_sort_91 : decode M_Mo_sort.2.1 91 = .ok (.aload_n 0, 1) := by decide +kernel
theorem d_Mo_sort_92 : decode M_Mo_sort.2.1 92 = .ok (.getfield 91, 3) := by decide +kernel
theorem d_Mo_sort_95 : decode M_Mo_sort.2.1 95 = .ok (.sipush 330, 3) := by decide +kernel
theorem d_Mo_sort_98 : decode M_Mo_sort.2.1 98 = .ok (.iload_n 1, 1) := by decide +kernel
theorem d_Mo_sort_99 : decode M_Mo_sort.2.1 99 = .ok (.imul, 1) := by decide +kernel
theorem d_Mo_sort_100 : decode M_Mo_sort.2.1 100 = .ok (.iload 6, 2) := by decide +kernel
theorem d_Mo_sort_102 : decode M_Mo_sort.2.1 102 = .ok (.iadd, 1) := by decide +kernel
theorem d_Mo_sort_103 : decode M_Mo_sort.2.1 103 = .ok (.iconst 1, 1) := by decide +kernel
theorem d_Mo_sort_104 : decode M_Mo_sort.2.1 104 = .ok (.isub, 1) := by decide +kernel
theorem d_Mo_sort_105 : decode M_Mo_sort.2.1 105 = .ok (.laload, 1) := by decide +kernel
theorem d_Mo_sort_106 : decode M_Mo_sort.2.1 106 = .ok (.lastore, 1) := by decide +kernel
theorem d_Mo_sort_107 : decode M_Mo_sort.2.1 107 = .ok (.iinc 6 (-1), 3) := by decide +kernel
theorem d_Mo_sort_110 : decode M_Mo_sort.2.1 110 = .ok (.goto (-38), 3) := by decide +kernel
theorem d_Mo_sort_42 : decode M_Mo_sort.2.1 42 = .ok (.iload 5, 2) := by decide +kernel
theorem d_Mo_sort_44 : decode M_Mo_sort.2.1 44 = .ok (.iload 4, 2) := by decide +kernel
theorem d_Mo_sort_46 : decode M_Mo_sort.2.1 46 = .ok (.if_icmp .ge 22, 3) := by decide +kernel
theorem d_Mo_sort_68 : decode M_Mo_sort.2.1 68 = .ok (.iload 4, 2) := by decide +kernel
theorem d_Mo_sort_70 : decode M_Mo_sort.2.1 70 = .ok (.istore 6, 2) := by decide +kernel
theorem d_Mo_sort_49 : decode M_Mo_sort.2.1 49 = .ok (.aload_n 0, 1) := by decide +kernel
theorem d_Mo_sort_50 : decode M_Mo_sort.2.1 50 = .ok (.getfield 91, 3) := by decide +kernel
theorem d_Mo_sort_53 : decode M_Mo_sort.2.1 53 = .ok (.sipush 330, 3) := by decide +kernel
theorem d_Mo_sort_56 : decode M_Mo_sort.2.1 56 = .ok (.iload_n 1, 1) := by decide +kernel
theorem d_Mo_sort_57 : decode M_Mo_sort.2.1 57 = .ok (.imul, 1) := by decide +kernel
theorem d_Mo_sort_58 : decode M_Mo_sort.2.1 58 = .ok (.iload 5, 2) := by decide +kernel
theorem d_Mo_sort_60 : decode M_Mo_sort.2.1 60 = .ok (.iadd, 1) := by decide +kernel
theorem d_Mo_sort_61 : decode M_Mo_sort.2.1 61 = .ok (.laload, 1) := by decide +kernel
theorem d_Mo_sort_62 : decode M_Mo_sort.2.1 62 = .ok (.lload_n 2, 1) := by decide +kernel
theorem d_Mo_sort_63 : decode M_Mo_sort.2.1 63 = .ok (.lcmp, 1) := by decide +kernel
theorem d_Mo_sort_64 : decode M_Mo_sort.2.1 64 = .ok (.ifCond .ne 4, 3) := by decide +kernel
theorem d_Mo_sort_67 : decode M_Mo_sort.2.1 67 = .ok (.return_, 1) := by decide +kernel
theorem d_Mo_sort_11 : decode M_Mo_sort.2.1 11 = .ok (.iload 5, 2) := by decide +kernel
theorem d_Mo_sort_13 : decode M_Mo_sort.2.1 13 = .ok (.iload 4, 2) := by decide +kernel
theorem d_Mo_sort_15 : decode M_Mo_sort.2.1 15 = .ok (.if_icmp .ge 27, 3) := by decide +kernel
theorem d_Mo_sort_18 : decode M_Mo_sort.2.1 18 = .ok (.aload_n 0, 1) := by decide +kernel
theorem d_Mo_sort_19 : decode M_Mo_sort.2.1 19 = .ok (.getfield 91, 3) := by decide +kernel
theorem d_Mo_sort_22 : decode M_Mo_sort.2.1 22 = .ok (.sipush 330, 3) := by decide +kernel
theorem d_Mo_sort_25 : decode M_Mo_sort.2.1 25 = .ok (.iload_n 1, 1) := by decide +kernel
theorem d_Mo_sort_26 : decode M_Mo_sort.2.1 26 = .ok (.imul, 1) := by decide +kernel
theorem d_Mo_sort_27 : decode M_Mo_sort.2.1 27 = .ok (.iload 5, 2) := by decide +kernel
theorem d_Mo_sort_29 : decode M_Mo_sort.2.1 29 = .ok (.iadd, 1) := by decide +kernel
theorem d_Mo_sort_30 : decode M_Mo_sort.2.1 30 = .ok (.laload, 1) := by decide +kernel
theorem d_Mo_sort_31 : decode M_Mo_sort.2.1 31 = .ok (.lload_n 2, 1) := by decide +kernel
theorem d_Mo_sort_32 : decode M_Mo_sort.2.1 32 = .ok (.lcmp, 1) := by decide +kernel
theorem d_Mo_sort_33 : decode M_Mo_sort.2.1 33 = .ok (.ifCond .ge 9, 3) := by decide +kernel
theorem d_Mo_sort_36 : decode M_Mo_sort.2.1 36 = .ok (.iinc 5 1, 3) := by decide +kernel
theorem d_Mo_sort_39 : decode M_Mo_sort.2.1 39 = .ok (.goto (-28), 3) := by decide +kernel
theorem d_Mo_sort_0 : decode M_Mo_sort.2.1 0 = .ok (.aload_n 0, 1) := by decide +kernel
theorem d_Mo_sort_1 : decode M_Mo_sort.2.1 1 = .ok (.getfield 94, 3) := by decide +kernel
theorem d_Mo_sort_4 : decode M_Mo_sort.2.1 4 = .ok (.iload_n 1, 1) := by decide +kernel
theorem d_Mo_sort_5 : decode M_Mo_sort.2.1 5 = .ok (.iaload, 1) := by decide +kernel
theorem d_Mo_sort_6 : decode M_Mo_sort.2.1 6 = .ok (.istore 4, 2) := by decide +kernel
theorem d_Mo_sort_8 : decode M_Mo_sort.2.1 8 = .ok (.iconst 0, 1) := by decide +kernel
theorem d_Mo_sort_9 : decode M_Mo_sort.2.1 9 = .ok (.istore 5, 2) := by decide +kernel
end
section RF14
variable {l : Launch} {G : XG} {h : XH} {c n d : Nat} {o : Nat} {rf : Nat → Nat} {S : MS}
theorem gl_sle {us : List Int64} {e f : Int} {z : Int64} {N : Nat} (hl : us.length = N) (he : 0 ≤ e) (h1 : e < N) (hf : 0 ≤ f) : gl (sle us e z) f = if f = e then z else gl us f := by
  unfold gl sle
  rw [List.getD_eq_getElem?_getD, List.getElem?_set, List.getD_eq_getElem?_getD]
  by_cases hj : f = e
  · subst hj
    rw [if_pos rfl, if_pos rfl, if_pos (by omega)]
    rfl
  · rw [if_neg hj, if_neg (by omega)]
theorem sl_sl {i : Nat} {a b : List Int64} : sl (sl S i a) i b = sl S i b := by
  show (S.1, S.2.1, fup (fup S.2.2.1 i a) i b, S.2.2.2) = _
  rw [fup_fup]
theorem sl_id {i : Nat} : sl S i (S.2.2.1 i) = S := by
  show (S.1, S.2.1, fup S.2.2.1 i (S.2.2.1 i), S.2.2.2) = _
  rw [fup_id]
/-- a VALUE stands in a name's row -/
def sMem (S : MS) (nm : Int) (x : Int64) : Prop := ∃ i : Int, 0 ≤ i ∧ i < gd (S.2.1 38) nm ∧ gl (S.2.2.1 37) (330 * nm + i) = x
/-- the rows aren't too long -/
def mnB (S : MS) (B : Int) : Prop := ∀ q : Int, 0 ≤ q → q < 6 → 0 ≤ gd (S.2.1 38) q ∧ gd (S.2.1 38) q ≤ B
/-- a row behind a shift -/
def shf (old us : List Int64) (b i m : Int) : Prop := us.length = 1980 ∧ ∀ e : Int, 0 ≤ e → e < 1980 → gl us e = if b + i < e ∧ e ≤ b + m then gl old (e - 1) else gl old e
theorem shf.step {old us : List Int64} {b i m : Int} (h : shf old us b i m) (hb : 0 ≤ b) (hi : 1 ≤ i) (him : i ≤ m) (hm : b + m < 1980) : shf old (sle us (b + i) (gl us (b + i - 1))) b (i - 1) m := by
  obtain ⟨h1, h2⟩ := h
  refine ⟨by rw [sle, List.length_set]; exact h1, fun e he0 he1 => ?_⟩
  rw [gl_sle h1 (by omega) (by omega) he0]
  by_cases hq : e = b + i
  · rw [if_pos hq, if_pos (by omega), h2 (b + i - 1) (by omega) (by omega), if_neg (by omega), hq]
  · rw [if_neg hq, h2 e he0 he1]
    by_cases hr : b + i < e ∧ e ≤ b + m
    · rw [if_pos hr, if_pos (by omega)]
    · rw [if_neg hr, if_neg (by omega)]
/-- how sort() ends -/
abbrev srQ (S : MS) (nm : Int) (x : Int64) : Option Value → MS → Prop := fun v S' => v = none ∧ rSm S S' [] [38] [37] ∧ (∀ q : Int, 0 ≤ q → q < 6 → gd (S.2.1 38) q ≤ gd (S'.2.1 38) q ∧ gd (S'.2.1 38) q ≤ gd (S.2.1 38) q + (if q = nm then 1 else 0)) ∧ sMem S' nm x ∧ ∀ (q : Int) (y : Int64), 0 ≤ q → q < 6 → sMem S q y → sMem S' q y
theorem srt_end {nm k : Int} {x : Int64} {us : List Int64} {S' : MS} (hn : 0 ≤ nm ∧ nm < 6) (hm : mnB S 328) (l38 : (S.2.1 38).length = 6) (hk : 0 ≤ k) (hkn : k ≤ gd (S.2.1 38) nm) (hu : shf (S.2.2.1 37) us (330 * nm) k (gd (S.2.1 38) nm)) (hS : S' = sa (sl S 37 (sle us (330 * nm + k) x)) 38 (se (S.2.1 38) nm (gd (S.2.1 38) nm + 1))) : srQ S nm x none S' := by
  subst hS
  obtain ⟨u1, u2⟩ := hu
  have hmn := hm nm hn.1 hn.2
  have hnew : ∀ q : Int, 0 ≤ q → gd (se (S.2.1 38) nm (gd (S.2.1 38) nm + 1)) q = if q = nm then gd (S.2.1 38) nm + 1 else gd (S.2.1 38) q := fun q hq => gd_se_of l38 hn.1 (by omega) hq
  have hgl : ∀ e : Int, 0 ≤ e → gl (sle us (330 * nm + k) x) e = if e = 330 * nm + k then x else gl us e := fun e he => gl_sle u1 (by omega) (by omega) he
  refine ⟨rfl, (rSm.r0.sl (by decide)).sa (by decide), fun q h0 h6 => ?_, ⟨k, hk, ?_, ?_⟩, fun q y h0 h6 hy => ?_⟩
  · show gd (S.2.1 38) q ≤ gd (se (S.2.1 38) nm (gd (S.2.1 38) nm + 1)) q ∧ gd (se (S.2.1 38) nm (gd (S.2.1 38) nm + 1)) q ≤ _
    rw [hnew q h0]
    by_cases hq : q = nm
    · rw [if_pos hq, if_pos hq, hq]; omega
    · rw [if_neg hq, if_neg hq]; omega
  · show k < gd (se (S.2.1 38) nm (gd (S.2.1 38) nm + 1)) nm
    rw [hnew nm hn.1, if_pos rfl]
    omega
  · show gl (sle us (330 * nm + k) x) (330 * nm + k) = x
    rw [hgl _ (by omega), if_pos rfl]
  · obtain ⟨i, i1, i2, i3⟩ := hy
    have hmq := hm q h0 h6
    by_cases hq : q = nm
    · subst hq
      by_cases hik : i < k
      · refine ⟨i, i1, ?_, ?_⟩
        · show i < gd (se (S.2.1 38) q (gd (S.2.1 38) q + 1)) q
          rw [hnew q h0, if_pos rfl]; omega
        · show gl (sle us (330 * q + k) x) (330 * q + i) = y
          rw [hgl _ (by omega), if_neg (by omega), u2 _ (by omega) (by omega), if_neg (by omega)]
          exact i3
      · refine ⟨i + 1, by omega, ?_, ?_⟩
        · show i + 1 < gd (se (S.2.1 38) q (gd (S.2.1 38) q + 1)) q
          rw [hnew q h0, if_pos rfl]; omega
        · show gl (sle us (330 * q + k) x) (330 * q + (i + 1)) = y
          rw [hgl _ (by omega), if_neg (by omega), u2 _ (by omega) (by omega), if_pos (by omega), show 330 * q + (i + 1) - 1 = 330 * q + i by omega]
          exact i3
    · refine ⟨i, i1, ?_, ?_⟩
      · show i < gd (se (S.2.1 38) nm (gd (S.2.1 38) nm + 1)) q
        rw [hnew q h0, if_neg hq]; exact i2
      · show gl (sle us (330 * nm + k) x) (330 * q + i) = y
        rw [hgl _ (by omega), if_neg (by omega), u2 _ (by omega) (by omega), if_neg (by omega)]
        exact i3
theorem r_sort {nm : Int} {x : Int64} (hn : 0 ≤ nm ∧ nm < 6) (hm : mnB S 328) : RM l G d M_Mo_sort [.ref o, .int (zI nm), .long x] o rf S (srQ S nm x) := by
  intro H0 c n hR
  refine XM.of (by decide +kernel) (Nat.le_of_ble_eq_true rfl) ?_
  have hX : xonly H0 H0 RKs := xonly.rf
  have l38 : _ = 6 := hR.len 38 (by decide)
  have l37 : (S.2.2.1 37).length = 1980 := (hR.2.2.1 37 (by decide)).2
  have hmn := hm nm hn.1 hn.2
  have l2 : ∀ (k : Int), 0 ≤ k → k ≤ gd (S.2.1 38) nm → ∀ (q : Nat) (us : List Int64) (i : Int), k ≤ i → i ≤ gd (S.2.1 38) nm → shf (S.2.2.1 37) us (330 * nm) i (gd (S.2.1 38) nm) → i - k ≤ q → RX l G M_Mo_sort d 72 [some (.ref o), some (.int (zI nm)), some (.long x), none, some (.int (zI (gd (S.2.1 38) nm))), some (.int (zI k)), some (.int (zI i))] [] H0 o rf c n (sl S 37 us) (srQ S nm x) := by
    intro k hk0 hkn q
    induction q with
    | zero =>
      intro us i hi1 hi2 hsh hq h hR hX
      obtain rfl : i = k := by omega
      refine x_iload d_Mo_sort_72 rfl ?_
      refine x_iload d_Mo_sort_74 rfl ?_
      refine z_icmp_le (tgt := 113) d_Mo_sort_76 (by decide) (by omega) (by omega) (fun _ => ?_) (fun hq => by omega)
      refine x_aload_n d_Mo_sort_113 rfl rfl ?_
      refine x_get xf_Mo_91_Mo (Or.inl hR.1) (v := .ref (rf 37)) rfl d_Mo_sort_114 ?_
      refine x_sipush (v := zI 330) d_Mo_sort_117 (by decide) ?_
      refine x_iload_n d_Mo_sort_120 rfl ?_
      refine z_imul d_Mo_sort_121 ?_
      refine x_iload d_Mo_sort_122 rfl ?_
      refine z_iadd d_Mo_sort_124 ?_
      refine x_lload_n d_Mo_sort_125 rfl ?_
      refine r_last (i := 37) (us := us) rfl (by decide) hR hX rfl (by omega) (by show 330 * nm + i < 1980; omega) d_Mo_sort_126 ?_
      intro h hR hX
      refine x_aload_n d_Mo_sort_127 rfl rfl ?_
      refine x_get xf_Mo_94_Mo (Or.inl hR.1) (v := .ref (rf 38)) rfl d_Mo_sort_128 ?_
      refine x_iload_n d_Mo_sort_131 rfl ?_
      refine x_dup2_11 d_Mo_sort_132 rfl rfl ?_
      refine r_iald (i := 38) (us := (S.2.1 38)) rfl (by decide) hR rfl (by omega) (by show nm < 6; omega) d_Mo_sort_133 (fun hr133 => ?_)
      refine x_iconst (v := zI 1) d_Mo_sort_134 (by decide) ?_
      refine z_iadd d_Mo_sort_135 ?_
      refine r_iast (i := 38) (us := (S.2.1 38)) ⟨rfl, rfl⟩ (by decide) hR hX rfl (by omega) (by show nm < 6; omega) (by omega) d_Mo_sort_136 ?_
      intro h hR hX
      refine x_vret d_Mo_sort_137 rfl ?_
      exact ⟨_, hR, hX, rfl, rfl, srt_end hn hm l38 hk0 hkn hsh (by
        show sa (sl (sl S 37 us) 37 _) 38 _ = _
        rw [sl_sl])⟩
    | succ q ih =>
      intro us i hi1 hi2 hsh hq h hR hX
      by_cases hik : i = k
      · subst hik
        refine x_iload d_Mo_sort_72 rfl ?_
        refine x_iload d_Mo_sort_74 rfl ?_
        refine z_icmp_le (tgt := 113) d_Mo_sort_76 (by decide) (by omega) (by omega) (fun _ => ?_) (fun hq => by omega)
        refine x_aload_n d_Mo_sort_113 rfl rfl ?_
        refine x_get xf_Mo_91_Mo (Or.inl hR.1) (v := .ref (rf 37)) rfl d_Mo_sort_114 ?_
        refine x_sipush (v := zI 330) d_Mo_sort_117 (by decide) ?_
        refine x_iload_n d_Mo_sort_120 rfl ?_
        refine z_imul d_Mo_sort_121 ?_
        refine x_iload d_Mo_sort_122 rfl ?_
        refine z_iadd d_Mo_sort_124 ?_
        refine x_lload_n d_Mo_sort_125 rfl ?_
        refine r_last (i := 37) (us := us) rfl (by decide) hR hX rfl (by omega) (by show 330 * nm + i < 1980; omega) d_Mo_sort_126 ?_
        intro h hR hX
        refine x_aload_n d_Mo_sort_127 rfl rfl ?_
        refine x_get xf_Mo_94_Mo (Or.inl hR.1) (v := .ref (rf 38)) rfl d_Mo_sort_128 ?_
        refine x_iload_n d_Mo_sort_131 rfl ?_
        refine x_dup2_11 d_Mo_sort_132 rfl rfl ?_
        refine r_iald (i := 38) (us := (S.2.1 38)) rfl (by decide) hR rfl (by omega) (by show nm < 6; omega) d_Mo_sort_133 (fun hr133 => ?_)
        refine x_iconst (v := zI 1) d_Mo_sort_134 (by decide) ?_
        refine z_iadd d_Mo_sort_135 ?_
        refine r_iast (i := 38) (us := (S.2.1 38)) ⟨rfl, rfl⟩ (by decide) hR hX rfl (by omega) (by show nm < 6; omega) (by omega) d_Mo_sort_136 ?_
        intro h hR hX
        refine x_vret d_Mo_sort_137 rfl ?_
        exact ⟨_, hR, hX, rfl, rfl, srt_end hn hm l38 hk0 hkn hsh (by
          show sa (sl (sl S 37 us) 37 _) 38 _ = _
          rw [sl_sl])⟩
      · refine x_iload d_Mo_sort_72 rfl ?_
        refine x_iload d_Mo_sort_74 rfl ?_
        refine z_icmp_le (tgt := 113) d_Mo_sort_76 (by decide) (by omega) (by omega) (fun hq => by omega) (fun _ => ?_)
        refine x_aload_n d_Mo_sort_79 rfl rfl ?_
        refine x_get xf_Mo_91_Mo (Or.inl hR.1) (v := .ref (rf 37)) rfl d_Mo_sort_80 ?_
        refine x_sipush (v := zI 330) d_Mo_sort_83 (by decide) ?_
        refine x_iload_n d_Mo_sort_86 rfl ?_
        refine z_imul d_Mo_sort_87 ?_
        refine x_iload d_Mo_sort_88 rfl ?_
        refine z_iadd d_Mo_sort_90 ?_
        refine x_aload_n d_Mo_sort_91 rfl rfl ?_
        refine x_get xf_Mo_91_Mo (Or.inl hR.1) (v := .ref (rf 37)) rfl d_Mo_sort_92 ?_
        refine x_sipush (v := zI 330) d_Mo_sort_95 (by decide) ?_
        refine x_iload_n d_Mo_sort_98 rfl ?_
        refine z_imul d_Mo_sort_99 ?_
        refine x_iload d_Mo_sort_100 rfl ?_
        refine z_iadd d_Mo_sort_102 ?_
        refine x_iconst (v := zI 1) d_Mo_sort_103 (by decide) ?_
        refine z_isub d_Mo_sort_104 ?_
        refine r_lald (i := 37) (us := us) rfl (by decide) hR rfl (by omega) (by show 330 * nm + i - 1 < 1980; omega) d_Mo_sort_105 ?_
        refine r_last (i := 37) (us := us) rfl (by decide) hR hX rfl (by omega) (by show 330 * nm + i < 1980; omega) d_Mo_sort_106 ?_
        intro h hR hX
        refine x_iinc (v := zI (i + (-1))) (L' := [_, _, _, _, _, _, _]) d_Mo_sort_107 rfl (zI_add _ _) rfl rfl ?_
        refine x_goto (tgt := 72) d_Mo_sort_110 (by decide) ?_
        exact ih _ (i + -1) (by omega) (by omega) (by have := hsh.step (by omega) (by omega) (by omega) (by omega); exact this) (by omega) _ (by rw [sl_sl] at hR; exact hR) hX
  have j42 : ∀ (k : Int), 0 ≤ k → k ≤ gd (S.2.1 38) nm → RX l G M_Mo_sort d 42 [some (.ref o), some (.int (zI nm)), some (.long x), none, some (.int (zI (gd (S.2.1 38) nm))), some (.int (zI k)), none] [] H0 o rf c n S (srQ S nm x) := by
    intro k hk0 hkn h hR hX
    refine x_iload d_Mo_sort_42 rfl ?_
    refine x_iload d_Mo_sort_44 rfl ?_
    refine z_icmp_ge (tgt := 68) d_Mo_sort_46 (by decide) (by omega) (by omega) (fun hc46 => ?_) (fun hc46 => ?_)
    · refine x_iload d_Mo_sort_68 rfl ?_
      refine x_istore (L' := [_, _, _, _, _, _, _]) d_Mo_sort_70 rfl rfl ?_
      exact l2 k hk0 hkn 330 _ _ hkn (Int.le_refl _) ⟨l37, fun e h0 h1 => by rw [if_neg (by omega)]⟩ (by omega) _ (by rw [sl_id (i := 37)]; exact hR) hX
    · refine x_aload_n d_Mo_sort_49 rfl rfl ?_
      refine x_get xf_Mo_91_Mo (Or.inl hR.1) (v := .ref (rf 37)) rfl d_Mo_sort_50 ?_
      refine x_sipush (v := zI 330) d_Mo_sort_53 (by decide) ?_
      refine x_iload_n d_Mo_sort_56 rfl ?_
      refine z_imul d_Mo_sort_57 ?_
      refine x_iload d_Mo_sort_58 rfl ?_
      refine z_iadd d_Mo_sort_60 ?_
      refine r_lald (i := 37) (us := (S.2.2.1 37)) rfl (by decide) hR rfl (by omega) (by show 330 * nm + k < 1980; omega) d_Mo_sort_61 ?_
      refine x_lload_n d_Mo_sort_62 rfl ?_
      refine x_lcmp d_Mo_sort_63 (x_zi ?_)
      have hr63 := inR_ti (lg_cmp (gl (S.2.2.1 37) ((330 * nm) + k)) x)
      refine z_if_ne (tgt := 68) d_Mo_sort_64 (by decide) (by omega) (fun hc64 => ?_) (fun hc64 => ?_)
      · refine x_iload d_Mo_sort_68 rfl ?_
        refine x_istore (L' := [_, _, _, _, _, _, _]) d_Mo_sort_70 rfl rfl ?_
        exact l2 k hk0 hkn 330 _ _ hkn (Int.le_refl _) ⟨l37, fun e h0 h1 => by rw [if_neg (by omega)]⟩ (by omega) _ (by rw [sl_id (i := 37)]; exact hR) hX
      · refine x_vret d_Mo_sort_67 rfl ?_
        exact ⟨_, hR, hX, rfl, rfl, rfl, rSm.r0, fun q h0 h6 => ⟨Int.le_refl _, by split <;> omega⟩, ⟨k, hk0, by omega, lgz hc64⟩, fun q y _ _ hy => hy⟩
  have l1 : ∀ (q : Nat) (k : Int), 0 ≤ k → k ≤ gd (S.2.1 38) nm → gd (S.2.1 38) nm - k ≤ q → RX l G M_Mo_sort d 11 [some (.ref o), some (.int (zI nm)), some (.long x), none, some (.int (zI (gd (S.2.1 38) nm))), some (.int (zI k)), none] [] H0 o rf c n S (srQ S nm x) := by
    intro q
    induction q with
    | zero =>
      intro k hk0 hkn hq h hR hX
      refine x_iload d_Mo_sort_11 rfl ?_
      refine x_iload d_Mo_sort_13 rfl ?_
      refine z_icmp_ge (tgt := 42) d_Mo_sort_15 (by decide) (by omega) (by omega) (fun _ => ?_) (fun hq => by omega)
      exact j42 k hk0 hkn _ hR hX
    | succ q ih =>
      intro k hk0 hkn hq h hR hX
      refine x_iload d_Mo_sort_11 rfl ?_
      refine x_iload d_Mo_sort_13 rfl ?_
      refine z_icmp_ge (tgt := 42) d_Mo_sort_15 (by decide) (by omega) (by omega) (fun hc15 => ?_) (fun hc15 => ?_)
      · exact j42 k hk0 hkn _ hR hX
      · refine x_aload_n d_Mo_sort_18 rfl rfl ?_
        refine x_get xf_Mo_91_Mo (Or.inl hR.1) (v := .ref (rf 37)) rfl d_Mo_sort_19 ?_
        refine x_sipush (v := zI 330) d_Mo_sort_22 (by decide) ?_
        refine x_iload_n d_Mo_sort_25 rfl ?_
        refine z_imul d_Mo_sort_26 ?_
        refine x_iload d_Mo_sort_27 rfl ?_
        refine z_iadd d_Mo_sort_29 ?_
        refine r_lald (i := 37) (us := (S.2.2.1 37)) rfl (by decide) hR rfl (by omega) (by show 330 * nm + k < 1980; omega) d_Mo_sort_30 ?_
        refine x_lload_n d_Mo_sort_31 rfl ?_
        refine x_lcmp d_Mo_sort_32 (x_zi ?_)
        have hr32 := inR_ti (lg_cmp (gl (S.2.2.1 37) ((330 * nm) + k)) x)
        refine z_if_ge (tgt := 42) d_Mo_sort_33 (by decide) (by omega) (fun hc33 => ?_) (fun hc33 => ?_)
        · exact j42 k hk0 hkn _ hR hX
        · refine x_iinc (v := zI (k + 1)) (L' := [_, _, _, _, _, _, _]) d_Mo_sort_36 rfl (zI_add _ _) rfl rfl ?_
          refine x_goto (tgt := 11) d_Mo_sort_39 (by decide) ?_
          exact ih _ (by omega) (by omega) (by omega) _ hR hX
  refine x_aload_n d_Mo_sort_0 rfl rfl ?_
  refine x_get xf_Mo_94_Mo (Or.inl hR.1) (v := .ref (rf 38)) rfl d_Mo_sort_1 ?_
  refine x_iload_n d_Mo_sort_4 rfl ?_
  refine r_iald (i := 38) (us := (S.2.1 38)) rfl (by decide) hR rfl (by omega) (by show nm < 6; omega) d_Mo_sort_5 (fun hr5 => ?_)
  refine x_istore (L' := [_, _, _, _, _, _, _]) d_Mo_sort_6 rfl rfl ?_
  refine x_iconst (v := zI 0) d_Mo_sort_8 (by decide) ?_
  refine x_istore (L' := [_, _, _, _, _, _, _]) d_Mo_sort_9 rfl rfl ?_
  exact l1 330 0 (by omega) (by omega) (by omega) _ hR hX
end RF14
