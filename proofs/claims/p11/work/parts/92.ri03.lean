section

end
section RI3
variable {l : Launch} {G : XG} {h : XH} {c n d : Nat} {o : Nat} {rf : Nat → Nat} {S : MS}
/-- a name's row, in the reference -/
def rowR (S : MS) (q : Int) (kd : Nat) (W : List Nat) : Prop := gd (S.2.1 38) q = W.length ∧ ∀ i : Nat, i < W.length → lk kd (W.getD i 0) (gl (S.2.2.1 37) (330 * q + i))
/-- how sort() ends, in full -/
abbrev srX (S : MS) (nm : Int) (kd : Nat) (W : List Nat) : Option Value → MS → Prop := fun v S' => v = none ∧ rSm S S' [] [38] [37] ∧ rowR S' nm kd W ∧ ∀ q : Int, 0 ≤ q → q < 6 → q ≠ nm → gd (S'.2.1 38) q = gd (S.2.1 38) q ∧ ∀ e : Int, 330 * q ≤ e → e < 330 * q + 330 → gl (S'.2.2.1 37) e = gl (S.2.2.1 37) e
theorem srX_end {nm k : Int} {x : Int64} {us : List Int64} {S' : MS} {kd v : Nat} {W : List Nat} (hn : 0 ≤ nm ∧ nm < 6) (hm : mnB S 328) (l38 : (S.2.1 38).length = 6) (hk : k = (lob v W : Nat)) (hno : ¬ (lob v W < W.length ∧ W.getD (lob v W) 0 = v)) (hW : rowR S nm kd W) (hv : lk kd v x) (hu : shf (S.2.2.1 37) us (330 * nm) k (gd (S.2.1 38) nm)) (hS : S' = sa (sl S 37 (sle us (330 * nm + k) x)) 38 (se (S.2.1 38) nm (gd (S.2.1 38) nm + 1))) : srX S nm kd (ins v W) none S' := by
  subst hS
  obtain ⟨u1, u2⟩ := hu
  have hmn := hm nm hn.1 hn.2
  obtain ⟨w1, w2⟩ := hW
  have hkl := lob_le (v := v) W
  have hnew : ∀ q : Int, 0 ≤ q → gd (se (S.2.1 38) nm (gd (S.2.1 38) nm + 1)) q = if q = nm then gd (S.2.1 38) nm + 1 else gd (S.2.1 38) q := fun q hq => gd_se_of l38 hn.1 (by omega) hq
  have hgl : ∀ e : Int, 0 ≤ e → gl (sle us (330 * nm + k) x) e = if e = 330 * nm + k then x else gl us e := fun e he => gl_sle u1 (by omega) (by omega) he
  have hins : ins v W = W.take (lob v W) ++ v :: W.drop (lob v W) := if_neg hno
  have hlen : (ins v W).length = W.length + 1 := by rw [hins, td_len hkl]
  refine ⟨rfl, (rSm.r0.sl (by decide)).sa (by decide), ⟨?_, fun i hi => ?_⟩, fun q h0 h6 hq => ⟨?_, fun e e1 e2 => ?_⟩⟩
  · show gd (se (S.2.1 38) nm (gd (S.2.1 38) nm + 1)) nm = _
    rw [hnew nm hn.1, if_pos rfl, hlen, w1]
    omega
  · show lk kd ((ins v W).getD i 0) (gl (sle us (330 * nm + k) x) (330 * nm + i))
    rw [hlen] at hi
    rw [hins, td_at hkl, hgl _ (by omega)]
    by_cases h1 : i < lob v W
    · rw [if_pos h1, if_neg (by omega), u2 _ (by omega) (by omega), if_neg (by omega)]
      exact w2 i (by omega)
    · rw [if_neg h1]
      by_cases h2 : i = lob v W
      · rw [if_pos h2, if_pos (by omega)]
        exact hv
      · rw [if_neg h2, if_neg (by omega), u2 _ (by omega) (by omega), if_pos (by omega), show 330 * nm + (i : Int) - 1 = 330 * nm + ((i - 1 : Nat) : Int) by omega]
        exact w2 (i - 1) (by omega)
  · show gd (se (S.2.1 38) nm (gd (S.2.1 38) nm + 1)) q = _
    rw [hnew q h0, if_neg hq]
  · show gl (sle us (330 * nm + k) x) e = _
    rw [hgl _ (by omega), if_neg (by omega), u2 _ (by omega) (by omega), if_neg (by omega)]
theorem r_sortX {nm : Int} {x : Int64} {kd v : Nat} {W : List Nat} (hn : 0 ≤ nm ∧ nm < 6) (hm : mnB S 328) (hkd : kd < 2) (hW : rowR S nm kd W) (hv : lk kd v x) : RM l G d M_Mo_sort [.ref o, .int (zI nm), .long x] o rf S (srX S nm kd (ins v W)) := by
  intro H0 c n hR
  refine XM.of (by decide +kernel) (Nat.le_of_ble_eq_true rfl) ?_
  have hX : xonly H0 H0 RKs := xonly.rf
  have l38 : (S.2.1 38).length = 6 := hR.len 38 (by decide)
  have l37 : (S.2.2.1 37).length = 1980 := (hR.2.2.1 37 (by decide)).2
  have hmn := hm nm hn.1 hn.2
  have w1 := hW.1
  have hkl := lob_le (v := v) W
  have hord : ∀ i : Nat, i < W.length → (W.getD i 0 < v ↔ gl (S.2.2.1 37) (330 * nm + i) < x) ∧ (W.getD i 0 = v ↔ gl (S.2.2.1 37) (330 * nm + i) = x) := fun i hi => (hW.2 i hi).ord hkd hv
  have l2 : ∀ (k : Int), k = (lob v W : Nat) → ¬ (lob v W < W.length ∧ W.getD (lob v W) 0 = v) → ∀ (q : Nat) (us : List Int64) (i : Int), k ≤ i → i ≤ gd (S.2.1 38) nm → shf (S.2.2.1 37) us (330 * nm) i (gd (S.2.1 38) nm) → i - k ≤ q → RX l G M_Mo_sort d 72 [some (.ref o), some (.int (zI nm)), some (.long x), none, some (.int (zI (gd (S.2.1 38) nm))), some (.int (zI k)), some (.int (zI i))] [] H0 o rf c n (sl S 37 us) (srX S nm kd (ins v W)) := by
    intro k hk hno q
    induction q with
    | zero =>
      intro us i hi1 hi2 hsh hq h hR hX
      obtain rfl : i = k := by omega
      refine x_iload d_Mo_sort_72 rfl ?_
      refine x_iload d_Mo_sort_74 rfl ?_
      refine z_icmp_le (tgt := 113) d_Mo_sort_76 (by decide) (by omega) (by omega) (fun _ => ?_) (fun hq => by omega)
      refine x_aload_n d_Mo_sort_113 rfl rfl ?_
      refine x_get xf_Mo_91_Mo (Or.inl hR.1) (v := .ref (rf 37)) rfl d_Mo_sort_114 ?_
      refine x_sipush (v := zI 330) d_Mo_sort_117 (by decide) ?_
      refine x_iload_n d_Mo_sort_120 rfl ?_
      refine z_imul d_Mo_sort_121 ?_
      refine x_iload d_Mo_sort_122 rfl ?_
      refine z_iadd d_Mo_sort_124 ?_
      refine x_lload_n d_Mo_sort_125 rfl ?_
      refine r_last (i := 37) (us := us) rfl (by decide) hR hX rfl (by omega) (by show 330 * nm + i < 1980; omega) d_Mo_sort_126 ?_
      intro h hR hX
      refine x_aload_n d_Mo_sort_127 rfl rfl ?_
      refine x_get xf_Mo_94_Mo (Or.inl hR.1) (v := .ref (rf 38)) rfl d_Mo_sort_128 ?_
      refine x_iload_n d_Mo_sort_131 rfl ?_
      refine x_dup2_11 d_Mo_sort_132 rfl rfl ?_
      refine r_iald (i := 38) (us := (S.2.1 38)) rfl (by decide) hR rfl (by omega) (by show nm < 6; omega) d_Mo_sort_133 (fun hr133 => ?_)
      refine x_iconst (v := zI 1) d_Mo_sort_134 (by decide) ?_
      refine z_iadd d_Mo_sort_135 ?_
      refine r_iast (i := 38) (us := (S.2.1 38)) ⟨rfl, rfl⟩ (by decide) hR hX rfl (by omega) (by show nm < 6; omega) (by omega) d_Mo_sort_136 ?_
      intro h hR hX
      refine x_vret d_Mo_sort_137 rfl ?_
      exact ⟨_, hR, hX, rfl, rfl, srX_end hn hm l38 hk hno hW hv hsh (by
        show sa (sl (sl S 37 us) 37 _) 38 _ = _
        rw [sl_sl])⟩
    | succ q ih =>
      intro us i hi1 hi2 hsh hq h hR hX
      by_cases hik : i = k
      · subst hik
        refine x_iload d_Mo_sort_72 rfl ?_
        refine x_iload d_Mo_sort_74 rfl ?_
        refine z_icmp_le (tgt := 113) d_Mo_sort_76 (by decide) (by omega) (by omega) (fun _ => ?_) (fun hq => by omega)
        refine x_aload_n d_Mo_sort_113 rfl rfl ?_
        refine x_get xf_Mo_91_Mo (Or.inl hR.1) (v := .ref (rf 37)) rfl d_Mo_sort_114 ?_
        refine x_sipush (v := zI 330) d_Mo_sort_117 (by decide) ?_
        refine x_iload_n d_Mo_sort_120 rfl ?_
        refine z_imul d_Mo_sort_121 ?_
        refine x_iload d_Mo_sort_122 rfl ?_
        refine z_iadd d_Mo_sort_124 ?_
        refine x_lload_n d_Mo_sort_125 rfl ?_
        refine r_last (i := 37) (us := us) rfl (by decide) hR hX rfl (by omega) (by show 330 * nm + i < 1980; omega) d_Mo_sort_126 ?_
        intro h hR hX
        refine x_aload_n d_Mo_sort_127 rfl rfl ?_
        refine x_get xf_Mo_94_Mo (Or.inl hR.1) (v := .ref (rf 38)) rfl d_Mo_sort_128 ?_
        refine x_iload_n d_Mo_sort_131 rfl ?_
        refine x_dup2_11 d_Mo_sort_132 rfl rfl ?_
        refine r_iald (i := 38) (us := (S.2.1 38)) rfl (by decide) hR rfl (by omega) (by show nm < 6; omega) d_Mo_sort_133 (fun hr133 => ?_)
        refine x_iconst (v := zI 1) d_Mo_sort_134 (by decide) ?_
        refine z_iadd d_Mo_sort_135 ?_
        refine r_iast (i := 38) (us := (S.2.1 38)) ⟨rfl, rfl⟩ (by decide) hR hX rfl (by omega) (by show nm < 6; omega) (by omega) d_Mo_sort_136 ?_
        intro h hR hX
        refine x_vret d_Mo_sort_137 rfl ?_
        exact ⟨_, hR, hX, rfl, rfl, srX_end hn hm l38 hk hno hW hv hsh (by
          show sa (sl (sl S 37 us) 37 _) 38 _ = _
          rw [sl_sl])⟩
      · refine x_iload d_Mo_sort_72 rfl ?_
        refine x_iload d_Mo_sort_74 rfl ?_
        refine z_icmp_le (tgt := 113) d_Mo_sort_76 (by decide) (by omega) (by omega) (fun hq => by omega) (fun _ => ?_)
        refine x_aload_n d_Mo_sort_79 rfl rfl ?_
        refine x_get xf_Mo_91_Mo (Or.inl hR.1) (v := .ref (rf 37)) rfl d_Mo_sort_80 ?_
        refine x_sipush (v := zI 330) d_Mo_sort_83 (by decide) ?_
        refine x_iload_n d_Mo_sort_86 rfl ?_
        refine z_imul d_Mo_sort_87 ?_
        refine x_iload d_Mo_sort_88 rfl ?_
        refine z_iadd d_Mo_sort_90 ?_
        refine x_aload_n d_Mo_sort_91 rfl rfl ?_
        refine x_get xf_Mo_91_Mo (Or.inl hR.1) (v := .ref (rf 37)) rfl d_Mo_sort_92 ?_
        refine x_sipush (v := zI 330) d_Mo_sort_95 (by decide) ?_
        refine x_iload_n d_Mo_sort_98 rfl ?_
        refine z_imul d_Mo_sort_99 ?_
        refine x_iload d_Mo_sort_100 rfl ?_
        refine z_iadd d_Mo_sort_102 ?_
        refine x_iconst (v := zI 1) d_Mo_sort_103 (by decide) ?_
        refine z_isub d_Mo_sort_104 ?_
        refine r_lald (i := 37) (us := us) rfl (by decide) hR rfl (by omega) (by show 330 * nm + i - 1 < 1980; omega) d_Mo_sort_105 ?_
        refine r_last (i := 37) (us := us) rfl (by decide) hR hX rfl (by omega) (by show 330 * nm + i < 1980; omega) d_Mo_sort_106 ?_
        intro h hR hX
        refine x_iinc (v := zI (i + (-1))) (L' := [_, _, _, _, _, _, _]) d_Mo_sort_107 rfl (zI_add _ _) rfl rfl ?_
        refine x_goto (tgt := 72) d_Mo_sort_110 (by decide) ?_
        exact ih _ (i + -1) (by omega) (by omega) (by have := hsh.step (by omega) (by omega) (by omega) (by omega); exact this) (by omega) _ (by rw [sl_sl] at hR; exact hR) hX
  have j42 : ∀ (k : Nat) (kz : Int), kz = (k : Nat) → k ≤ W.length → (∀ i : Nat, i < k → W.getD i 0 < v) → (k < W.length → ¬ W.getD k 0 < v) → RX l G M_Mo_sort d 42 [some (.ref o), some (.int (zI nm)), some (.long x), none, some (.int (zI (gd (S.2.1 38) nm))), some (.int (zI kz)), none] [] H0 o rf c n S (srX S nm kd (ins v W)) := by
    intro k kz hk hkn h1 h2 h hR hX
    have hkk := lob_eq hkn h1 h2
    by_cases hin : lob v W < W.length ∧ W.getD (lob v W) 0 = v
    · have heq : gl (S.2.2.1 37) (330 * nm + kz) = x := by
        rw [hk, hkk]
        exact (hord _ hin.1).2.mp hin.2
      rw [show ins v W = W from if_pos hin]
      refine x_iload d_Mo_sort_42 rfl ?_
      refine x_iload d_Mo_sort_44 rfl ?_
      refine z_icmp_ge (tgt := 68) d_Mo_sort_46 (by decide) (by omega) (by omega) (fun hq => by omega) (fun _ => ?_)
      refine x_aload_n d_Mo_sort_49 rfl rfl ?_
      refine x_get xf_Mo_91_Mo (Or.inl hR.1) (v := .ref (rf 37)) rfl d_Mo_sort_50 ?_
      refine x_sipush (v := zI 330) d_Mo_sort_53 (by decide) ?_
      refine x_iload_n d_Mo_sort_56 rfl ?_
      refine z_imul d_Mo_sort_57 ?_
      refine x_iload d_Mo_sort_58 rfl ?_
      refine z_iadd d_Mo_sort_60 ?_
      refine r_lald (i := 37) (us := (S.2.2.1 37)) rfl (by decide) hR rfl (by omega) (by show 330 * nm + kz < 1980; omega) d_Mo_sort_61 ?_
      refine x_lload_n d_Mo_sort_62 rfl ?_
      refine x_lcmp d_Mo_sort_63 (x_zi ?_)
      have hr63 := inR_ti (lg_cmp (gl (S.2.2.1 37) ((330 * nm) + kz)) x)
      refine z_if_ne (tgt := 68) d_Mo_sort_64 (by decide) (by omega) (fun hc64 => ?_) (fun hc64 => ?_)
      · refine x_iload d_Mo_sort_68 rfl ?_
        refine x_istore (L' := [_, _, _, _, _, _, _]) d_Mo_sort_70 rfl rfl ?_
        exact absurd (lgz' heq) hc64
      · refine x_vret d_Mo_sort_67 rfl ?_
        exact ⟨_, hR, hX, rfl, rfl, rfl, rSm.r0, hW, fun q _ _ _ => ⟨rfl, fun _ _ _ => rfl⟩⟩
    · refine x_iload d_Mo_sort_42 rfl ?_
      refine x_iload d_Mo_sort_44 rfl ?_
      refine z_icmp_ge (tgt := 68) d_Mo_sort_46 (by decide) (by omega) (by omega) (fun hc46 => ?_) (fun hc46 => ?_)
      · refine x_iload d_Mo_sort_68 rfl ?_
        refine x_istore (L' := [_, _, _, _, _, _, _]) d_Mo_sort_70 rfl rfl ?_
        exact l2 kz (by rw [hk, hkk]) hin 330 _ _ (by omega) (Int.le_refl _) ⟨l37, fun e h0 h1 => by rw [if_neg (by omega)]⟩ (by omega) _ (by rw [sl_id (i := 37)]; exact hR) hX
      · refine x_aload_n d_Mo_sort_49 rfl rfl ?_
        refine x_get xf_Mo_91_Mo (Or.inl hR.1) (v := .ref (rf 37)) rfl d_Mo_sort_50 ?_
        refine x_sipush (v := zI 330) d_Mo_sort_53 (by decide) ?_
        refine x_iload_n d_Mo_sort_56 rfl ?_
        refine z_imul d_Mo_sort_57 ?_
        refine x_iload d_Mo_sort_58 rfl ?_
        refine z_iadd d_Mo_sort_60 ?_
        refine r_lald (i := 37) (us := (S.2.2.1 37)) rfl (by decide) hR rfl (by omega) (by show 330 * nm + kz < 1980; omega) d_Mo_sort_61 ?_
        refine x_lload_n d_Mo_sort_62 rfl ?_
        refine x_lcmp d_Mo_sort_63 (x_zi ?_)
        have hr63 := inR_ti (lg_cmp (gl (S.2.2.1 37) ((330 * nm) + kz)) x)
        refine z_if_ne (tgt := 68) d_Mo_sort_64 (by decide) (by omega) (fun hc64 => ?_) (fun hc64 => ?_)
        · refine x_iload d_Mo_sort_68 rfl ?_
          refine x_istore (L' := [_, _, _, _, _, _, _]) d_Mo_sort_70 rfl rfl ?_
          exact l2 kz (by rw [hk, hkk]) hin 330 _ _ (by omega) (Int.le_refl _) ⟨l37, fun e h0 h1 => by rw [if_neg (by omega)]⟩ (by omega) _ (by rw [sl_id (i := 37)]; exact hR) hX
        · refine x_vret d_Mo_sort_67 rfl ?_
          exact absurd ⟨by omega, (hord _ (by omega)).2.mpr (by rw [← hkk, ← hk]; exact lgz hc64)⟩ hin
  have l1 : ∀ (q k : Nat) (kz : Int), kz = (k : Nat) → k ≤ W.length → (∀ i : Nat, i < k → W.getD i 0 < v) → W.length - k ≤ q → RX l G M_Mo_sort d 11 [some (.ref o), some (.int (zI nm)), some (.long x), none, some (.int (zI (gd (S.2.1 38) nm))), some (.int (zI kz)), none] [] H0 o rf c n S (srX S nm kd (ins v W)) := by
    intro q
    induction q with
    | zero =>
      intro k kz hk hkn h1 hq h hR hX
      refine x_iload d_Mo_sort_11 rfl ?_
      refine x_iload d_Mo_sort_13 rfl ?_
      refine z_icmp_ge (tgt := 42) d_Mo_sort_15 (by decide) (by omega) (by omega) (fun _ => ?_) (fun hq => by omega)
      exact j42 k kz hk hkn h1 (fun z => by omega) _ hR hX
    | succ q ih =>
      intro k kz hk hkn h1 hq h hR hX
      refine x_iload d_Mo_sort_11 rfl ?_
      refine x_iload d_Mo_sort_13 rfl ?_
      refine z_icmp_ge (tgt := 42) d_Mo_sort_15 (by decide) (by omega) (by omega) (fun hc15 => ?_) (fun hc15 => ?_)
      · exact j42 k kz hk hkn h1 (fun z hlt => by
          first
          | omega
          | (have hq9 : (lg_cmp (gl (S.2.2.1 37) (330 * nm + kz)) x).toInt < 0 := lg_lt.mpr (by rw [hk]; exact (hord k z).1.mp hlt)
             omega)) _ hR hX
      · refine x_aload_n d_Mo_sort_18 rfl rfl ?_
        refine x_get xf_Mo_91_Mo (Or.inl hR.1) (v := .ref (rf 37)) rfl d_Mo_sort_19 ?_
        refine x_sipush (v := zI 330) d_Mo_sort_22 (by decide) ?_
        refine x_iload_n d_Mo_sort_25 rfl ?_
        refine z_imul d_Mo_sort_26 ?_
        refine x_iload d_Mo_sort_27 rfl ?_
        refine z_iadd d_Mo_sort_29 ?_
        refine r_lald (i := 37) (us := (S.2.2.1 37)) rfl (by decide) hR rfl (by omega) (by show 330 * nm + kz < 1980; omega) d_Mo_sort_30 ?_
        refine x_lload_n d_Mo_sort_31 rfl ?_
        refine x_lcmp d_Mo_sort_32 (x_zi ?_)
        have hr32 := inR_ti (lg_cmp (gl (S.2.2.1 37) ((330 * nm) + kz)) x)
        refine z_if_ge (tgt := 42) d_Mo_sort_33 (by decide) (by omega) (fun hc33 => ?_) (fun hc33 => ?_)
        · exact j42 k kz hk hkn h1 (fun z hlt => by
            first
            | omega
            | (have hq9 : (lg_cmp (gl (S.2.2.1 37) (330 * nm + kz)) x).toInt < 0 := lg_lt.mpr (by rw [hk]; exact (hord k z).1.mp hlt)
               omega)) _ hR hX
        · refine x_iinc (v := zI (kz + 1)) (L' := [_, _, _, _, _, _, _]) d_Mo_sort_36 rfl (zI_add _ _) rfl rfl ?_
          refine x_goto (tgt := 11) d_Mo_sort_39 (by decide) ?_
          exact ih (k + 1) (kz + 1) (by omega) (by omega) (fun i hi => if e : i = k then by rw [e]; exact (hord k (by omega)).1.mpr (by rw [← hk]; exact lg_lt.mp (by omega)) else h1 i (by omega)) (by omega) _ hR hX
  refine x_aload_n d_Mo_sort_0 rfl rfl ?_
  refine x_get xf_Mo_94_Mo (Or.inl hR.1) (v := .ref (rf 38)) rfl d_Mo_sort_1 ?_
  refine x_iload_n d_Mo_sort_4 rfl ?_
  refine r_iald (i := 38) (us := (S.2.1 38)) rfl (by decide) hR rfl (by omega) (by show nm < 6; omega) d_Mo_sort_5 (fun hr5 => ?_)
  refine x_istore (L' := [_, _, _, _, _, _, _]) d_Mo_sort_6 rfl rfl ?_
  refine x_iconst (v := zI 0) d_Mo_sort_8 (by decide) ?_
  refine x_istore (L' := [_, _, _, _, _, _, _]) d_Mo_sort_9 rfl rfl ?_
  exact l1 W.length 0 0 rfl (Nat.zero_le _) (fun i hi => absurd hi (Nat.not_lt_zero _)) (by omega) _ hR hX
/-- the rows of all names, in the reference -/
def rwR (Ns : List NmT) (Ws : Nat → List Nat) (S : MS) : Prop := ∀ j : Nat, j < 6 → gd (S.2.1 39) j = (if Ws j = [] then 0 else 1) ∧ (∀ x, Ns[j]? = some x → rowR S j x.2.1 (Ws j)) ∧ (Ns.length ≤ j → Ws j = [] ∧ gd (S.2.1 38) j = 0)
theorem rwR.len {Ns : List NmT} {Ws : Nat → List Nat} (h : rwR Ns Ws S) {j : Nat} (hj : j < 6) : gd (S.2.1 38) j = (Ws j).length := by
  obtain ⟨-, h2, h3⟩ := h j hj
  by_cases hl : j < Ns.length
  · exact (h2 _ (List.getElem?_eq_getElem hl)).1
  · obtain ⟨e1, e2⟩ := h3 (by omega)
    rw [e1, e2]
    rfl
theorem rwR.cong {Ns : List NmT} {Ws Ws' : Nat → List Nat} (h : rwR Ns Ws S) (e : ∀ j, j < 6 → Ws' j = Ws j) : rwR Ns Ws' S := fun j hj => by
  rw [e j hj]
  exact h j hj
theorem rwR.sm {S' : MS} {Ns : List NmT} {Ws : Nat → List Nat} {js is ls : List Nat} (h : rwR Ns Ws S) (hs : rSm S S' js is ls) (h38 : 38 ∉ is) (h39 : 39 ∉ is) (h37 : 37 ∉ ls) : rwR Ns Ws S' := by
  intro j hj
  obtain ⟨h1, h2, h3⟩ := h j hj
  unfold rowR at h2 ⊢
  rw [hs.2.1 38 h38, hs.2.1 39 h39, hs.2.2 37 h37]
  exact ⟨h1, h2, h3⟩
/-- a VALUE more in a name's row -/
theorem rwR.put {S1 S2 : MS} {Ns : List NmT} {Ws : Nat → List Nat} {i v : Nat} {x : NmT} (h : rwR Ns Ws S) (hx : Ns[i]? = some x) (h6 : Ns.length ≤ 6) (hm : mnB S 328) (hs0 : rSm S S1 [] [39] []) (e39 : ∀ j : Nat, j < 6 → gd (S1.2.1 39) j = if j = i then 1 else gd (S.2.1 39) j) (hs : srX S1 (i : Nat) x.2.1 (ins v (Ws i)) none S2) : rwR Ns (fun j => if j = i then ins v (Ws i) else Ws j) S2 := by
  obtain ⟨-, s1, s2, s3⟩ := hs
  have hi := (List.getElem?_eq_some_iff.mp hx).1
  have g39 : S2.2.1 39 = S1.2.1 39 := s1.2.1 39 (by decide)
  have g38 : S1.2.1 38 = S.2.1 38 := hs0.2.1 38 (by decide)
  have g37 : S1.2.2.1 37 = S.2.2.1 37 := hs0.2.2 37 (by decide)
  intro j hj
  obtain ⟨h1, h2, h3⟩ := h j hj
  rw [g39, e39 j hj]
  show _ = (if (if j = i then ins v (Ws i) else Ws j) = [] then 0 else 1) ∧ (∀ y, Ns[j]? = some y → rowR S2 j y.2.1 (if j = i then ins v (Ws i) else Ws j)) ∧ (Ns.length ≤ j → (if j = i then ins v (Ws i) else Ws j) = [] ∧ _)
  by_cases e : j = i
  · simp only [if_pos e]
    rw [if_neg ins_ne]
    refine ⟨rfl, fun y hy => ?_, fun z => by omega⟩
    rw [e] at hy ⊢
    rw [hx] at hy
    cases hy
    exact s2
  · have hq := s3 (j : Nat) (by omega) (by omega) (by omega)
    rw [g38, g37] at hq
    simp only [if_neg e]
    rw [hq.1]
    refine ⟨h1, fun y hy => ?_, h3⟩
    obtain ⟨a1, a2⟩ := h2 y hy
    refine ⟨by rw [hq.1]; exact a1, fun k hk => ?_⟩
    have hb := (hm (j : Nat) (by omega) (by omega)).2
    rw [h.len hj] at hb
    rw [hq.2 (330 * (j : Int) + k) (by omega) (by omega)]
    exact a2 k hk
end RI3
