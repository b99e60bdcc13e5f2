section

end
section RG1
variable {l : Launch} {G : XG} {h : XH} {c n d : Nat} {o : Nat} {rf : Nat → Nat} {S : MS}
/-- the number of letters that stand in a row -/
def wz (us : List Int) (a : Int) : Nat → Int
  | 0 => 0
  | k + 1 => 32 * wz us a k + (gd us (a + k) - 96)
theorem wz_next {us : List Int} {a b : Int} (hb : 0 ≤ b) : wz us a (b + 1).toNat = 32 * wz us a b.toNat + (gd us (a + b) - 96) := by
  rw [show (b + 1).toNat = b.toNat + 1 by omega]
  show 32 * wz us a b.toNat + (gd us (a + (b.toNat : Int)) - 96) = _
  rw [show ((b.toNat : Nat) : Int) = b by omega]
theorem r_wordX {a m : Int} (h0 : 0 ≤ a) (hb : a ≤ 1000) (hm : 0 ≤ m) (hm2 : m ≤ 8) (ha : a + m ≤ 160) (hl : ∀ i : Int, a ≤ i → i < a + m → 97 ≤ gd (S.2.1 1) i ∧ gd (S.2.1 1) i ≤ 122) : RM l G d M_Mo_word [.ref o, .int (zI a), .int (zI m)] o rf S (fun w S' => S' = S ∧ w = some (.long (zL (wz (S.2.1 1) a m.toNat)))) := by
  intro H0 c n hR
  refine XM.of (by decide +kernel) (Nat.le_of_ble_eq_true rfl) ?_
  have lp : ∀ (k : Nat) (b : Int), 0 ≤ b → b ≤ m → m - b ≤ k → RX l G M_Mo_word d 17 [some (.ref o), some (.int (zI a)), some (.int (zI m)), some (.long (zL (wz (S.2.1 1) a b.toNat))), none, some (.int (zI b))] [] H0 o rf c n S (fun w S' => S' = S ∧ w = some (.long (zL (wz (S.2.1 1) a m.toNat)))) := by
    intro k
    induction k with
    | zero =>
      intro b h1 h2 hk h hR hX
      obtain rfl : b = m := by omega
      refine x_iload d_Mo_word_17 rfl ?_
      refine x_iload_n d_Mo_word_19 rfl ?_
      refine z_icmp_ge (tgt := 55) d_Mo_word_20 (by decide) (by omega) (by omega) (fun _ => ?_) (fun hq => by omega)
      refine x_lload_n d_Mo_word_55 rfl ?_
      refine x_lret d_Mo_word_56 rfl ?_
      exact ⟨_, hR, hX, rfl, rfl, rfl, rfl⟩
    | succ k ih =>
      intro b h1 h2 hk h hR hX
      by_cases hbm : b = m
      · subst hbm
        refine x_iload d_Mo_word_17 rfl ?_
        refine x_iload_n d_Mo_word_19 rfl ?_
        refine z_icmp_ge (tgt := 55) d_Mo_word_20 (by decide) (by omega) (by omega) (fun _ => ?_) (fun hq => by omega)
        refine x_lload_n d_Mo_word_55 rfl ?_
        refine x_lret d_Mo_word_56 rfl ?_
        exact ⟨_, hR, hX, rfl, rfl, rfl, rfl⟩
      · have hlb := hl (a + b) (by omega) (by omega)
        have hgo := ih (b + 1) (by omega) (by omega) (by omega)
        rw [wz_next h1] at hgo
        refine x_iload d_Mo_word_17 rfl ?_
        refine x_iload_n d_Mo_word_19 rfl ?_
        refine z_icmp_ge (tgt := 55) d_Mo_word_20 (by decide) (by omega) (by omega) (fun hq => by omega) (fun _ => ?_)
        refine x_iload_n d_Mo_word_23 rfl ?_
        refine x_bipush (v := zI 9) d_Mo_word_24 (by decide) ?_
        refine z_icmp_ge (tgt := 55) d_Mo_word_26 (by decide) (by omega) (by omega) (fun hq => by omega) (fun _ => ?_)
        refine x_ldc2 (v := 32) xw_1347 d_Mo_word_29 ?_
        refine x_lload_n d_Mo_word_32 rfl ?_
        refine x_lmul d_Mo_word_33 ?_
        refine x_aload_n d_Mo_word_34 rfl rfl ?_
        refine x_get xf_Mo_7_Mo (Or.inl hR.1) (v := .ref (rf 1)) rfl d_Mo_word_35 ?_
        refine x_iload_n d_Mo_word_38 rfl ?_
        refine x_iload d_Mo_word_39 rfl ?_
        refine z_iadd d_Mo_word_41 ?_
        refine r_iald (i := 1) (us := (S.2.1 1)) rfl (by decide) hR rfl (by omega) (by show a + b < 160; omega) d_Mo_word_42 (fun hr42 => ?_)
        refine x_bipush (v := zI 96) d_Mo_word_43 (by decide) ?_
        refine z_isub d_Mo_word_45 ?_
        refine x_i2l d_Mo_word_46 ?_
        refine x_ladd d_Mo_word_47 ?_
        refine x_lstore_n (L' := [_, _, _, _, _, _]) d_Mo_word_48 rfl rfl ?_
        refine x_iinc (v := zI (b + 1)) (L' := [_, _, _, _, _, _]) d_Mo_word_49 rfl (zI_add _ _) rfl rfl ?_
        refine x_goto (tgt := 17) d_Mo_word_52 (by decide) ?_
        rw [wd_step (by omega)]
        exact hgo _ hR hX
  have hX : xonly H0 H0 RKs := xonly.rf
  refine x_iload_n d_Mo_word_0 rfl ?_
  refine x_bipush (v := zI 8) d_Mo_word_1 (by decide) ?_
  refine z_icmp_le (tgt := 12) d_Mo_word_3 (by decide) (by omega) (by omega) (fun hc3 => ?_) (fun hc3 => ?_)
  · refine x_lconst (v := 0) d_Mo_word_12 (by decide) ?_
    refine x_lstore_n (L' := [_, _, _, _, _, _]) d_Mo_word_13 rfl rfl ?_
    refine x_iconst (v := zI 0) d_Mo_word_14 (by decide) ?_
    refine x_istore (L' := [_, _, _, _, _, _]) d_Mo_word_15 rfl rfl ?_
    first | (exfalso; omega) | exact lp m.toNat 0 (by omega) (by omega) (by omega) _ hR hX
  · refine x_ldc2 (v := -1) xw_1346 d_Mo_word_6 ?_
    refine x_goto (tgt := 13) d_Mo_word_9 (by decide) ?_
    refine x_lstore_n (L' := [_, _, _, _, _, _]) d_Mo_word_13 rfl rfl ?_
    refine x_iconst (v := zI 0) d_Mo_word_14 (by decide) ?_
    refine x_istore (L' := [_, _, _, _, _, _]) d_Mo_word_15 rfl rfl ?_
    first | (exfalso; omega) | exact lp m.toNat 0 (by omega) (by omega) (by omega) _ hR hX
theorem lgn {x y : Int64} (h : ¬ (lg_cmp x y).toInt = 0) : ¬ x = y := fun e => h (by rw [(lg_cmp_eq x y).mpr e]; rfl)
/-- the words that mean themselves -/
def kwd (x : Int64) : Int := if x = 498 then 3 else if x = 1476 then 2 else if x = 14836 then 1 else if x = 302 then 7 else if x = 674469 then 5 else if x = 6337125 then 6 else 0
/-- the number of a name's letters -/
def itz (S : MS) (i : Int) : Int := wz (S.2.1 4) (8 * i) (gd (S.2.1 5) i).toNat
/-- what a word means, of the first i names -/
def mnf (S : MS) (x : Int64) : Nat → Int
  | 0 => kwd x
  | i + 1 => if zL (itz S i) = x then (i : Int) - 100 else mnf S x i
theorem mnf_next {x : Int64} {i : Int} (hi : 0 ≤ i) : mnf S x (i + 1).toNat = if zL (itz S i) = x then i - 100 else mnf S x i.toNat := by
  rw [show (i + 1).toNat = i.toNat + 1 by omega]
  show (if zL (itz S (i.toNat : Int)) = x then ((i.toNat : Nat) : Int) - 100 else mnf S x i.toNat) = _
  rw [show ((i.toNat : Nat) : Int) = i by omega]
theorem mnf_sm {S' : MS} {x : Int64} (h4 : S'.2.1 4 = S.2.1 4) (h5 : S'.2.1 5 = S.2.1 5) : ∀ i : Nat, mnf S' x i = mnf S x i := by
  intro i
  induction i with
  | zero => rfl
  | succ i ih =>
    unfold mnf itz
    rw [h4, h5, ih]
/-- the names' letters are letters -/
def nmL (S : MS) : Prop := ∀ i : Int, 0 ≤ i → i < S.1 3 → ∀ j : Int, 8 * i ≤ j → j < 8 * i + gd (S.2.1 5) i → 97 ≤ gd (S.2.1 4) j ∧ gd (S.2.1 4) j ≤ 122
theorem kwd_b {x : Int64} : 0 ≤ kwd x ∧ kwd x ≤ 7 := by
  unfold kwd
  repeat' split
  all_goals omega
theorem mnf_b {x : Int64} (h6 : S.1 3 ≤ 6) : ∀ i : Nat, (i : Int) ≤ S.1 3 → -100 ≤ mnf S x i ∧ mnf S x i ≤ 7 := by
  intro i
  induction i with
  | zero => intro _; have := kwd_b (x := x); exact ⟨by show -100 ≤ kwd x; omega, this.2⟩
  | succ i ih =>
    intro hi
    have := ih (by omega)
    unfold mnf
    split
    · omega
    · exact this
theorem r_meaningX {x : Int64} (hn : nmOk S) (hL : nmL S) : RM l G d M_Mo_meaning [.ref o, .long x] o rf S (fun w S' => S' = S ∧ w = some (.int (zI (mnf S x (S.1 3).toNat)))) := by
  intro H0 c n hR
  obtain ⟨n1, n2, n3, n4⟩ := hn
  refine XM.of (by decide +kernel) (Nat.le_of_ble_eq_true rfl) ?_
  have lp : ∀ (k : Nat) (m i : Int) (w5 w6 w7 : Option Value), m = mnf S x i.toNat → 0 ≤ i → i ≤ S.1 3 → S.1 3 - i ≤ k → RX l G M_Mo_meaning d 79 [some (.ref o), some (.long x), none, some (.int (zI m)), some (.int (zI i)), w5, w6, w7] [] H0 o rf c n S (fun w S' => S' = S ∧ w = some (.int (zI (mnf S x (S.1 3).toNat)))) := by
    intro k
    induction k with
    | zero =>
      intro m i w5 w6 w7 hm h1 h2 hk h hR hX
      have hmb := mnf_b (x := x) n2 i.toNat (by omega)
      refine x_iload d_Mo_meaning_79 rfl ?_
      refine x_aload_n d_Mo_meaning_81 rfl rfl ?_
      refine x_get xf_Mo_147_Mo (Or.inl hR.1) (v := .int (zI (S.1 3))) rfl d_Mo_meaning_82 ?_
      have hb82 : inR (S.1 3) := hR.2.2.2 3
      refine z_icmp_ge (tgt := 161) d_Mo_meaning_85 (by decide) (by omega) (by omega) (fun _ => ?_) (fun hq => by omega)
      refine x_iload_n d_Mo_meaning_161 rfl ?_
      refine x_iret d_Mo_meaning_162 rfl ?_
      have e : i = S.1 3 := by omega
      rw [e] at hm
      exact ⟨_, hR, hX, rfl, rfl, rfl, by rw [hm]⟩
    | succ k ih =>
      intro m i w5 w6 w7 hm h1 h2 hk h hR hX
      have hmb := mnf_b (x := x) n2 i.toNat (by omega)
      have lp2 : ∀ (k2 : Nat) (j : Int), i < S.1 3 → 0 ≤ j → gd (S.2.1 5) i - j ≤ k2 → j ≤ gd (S.2.1 5) i → RX l G M_Mo_meaning d 94 [some (.ref o), some (.long x), none, some (.int (zI m)), some (.int (zI i)), some (.long (zL (wz (S.2.1 4) (8 * i) j.toNat))), none, some (.int (zI j))] [] H0 o rf c n S (fun w S' => S' = S ∧ w = some (.int (zI (mnf S x (S.1 3).toNat)))) := by
        intro k2
        induction k2 with
        | zero =>
          intro j hi hj hk2 hj8 h hR hX
          have hl := n3 i h1 (by omega)
          have ej : j = gd (S.2.1 5) i := by omega
          have ez : zL (wz (S.2.1 4) (8 * i) j.toNat) = zL (itz S i) := by rw [ej]; rfl
          refine x_iload d_Mo_meaning_94 rfl ?_
          refine x_aload_n d_Mo_meaning_96 rfl rfl ?_
          refine x_get xf_Mo_16_Mo (Or.inl hR.1) (v := .ref (rf 5)) rfl d_Mo_meaning_97 ?_
          refine x_iload d_Mo_meaning_100 rfl ?_
          refine r_iald (i := 5) (us := (S.2.1 5)) rfl (by decide) hR rfl (by omega) (by show i < 6; omega) d_Mo_meaning_102 (fun hr102 => ?_)
          refine z_icmp_ge (tgt := 138) d_Mo_meaning_103 (by decide) (by omega) (by omega) (fun _ => ?_) (fun hq => by omega)
          refine x_lload d_Mo_meaning_138 rfl ?_
          refine x_lload_n d_Mo_meaning_140 rfl ?_
          refine x_lcmp d_Mo_meaning_141 (x_zi ?_)
          have hr141 := inR_ti (lg_cmp (zL (wz (S.2.1 4) (8 * i) j.toNat)) x)
          refine z_if_ne (tgt := 153) d_Mo_meaning_142 (by decide) (by omega) (fun hc142 => ?_) (fun hc142 => ?_)
          · refine x_iload_n d_Mo_meaning_153 rfl ?_
            refine x_istore_n (L' := [_, _, _, _, _, _, _, _]) d_Mo_meaning_154 rfl rfl ?_
            refine x_iinc (v := zI (i + 1)) (L' := [_, _, _, _, _, _, _, _]) d_Mo_meaning_155 rfl (zI_add _ _) rfl rfl ?_
            refine x_goto (tgt := 79) d_Mo_meaning_158 (by decide) ?_
            exact ih _ (i + 1) _ _ _ (by first | rw [mnf_next h1, if_pos (ez.symm.trans (lgz hc142))] | rw [mnf_next h1, if_neg (fun q => lgn hc142 (ez.trans q))]; exact hm) (by omega) (by omega) (by omega) _ hR hX
          · refine x_iload d_Mo_meaning_145 rfl ?_
            refine x_bipush (v := zI 100) d_Mo_meaning_147 (by decide) ?_
            refine z_isub d_Mo_meaning_149 ?_
            refine x_goto (tgt := 154) d_Mo_meaning_150 (by decide) ?_
            refine x_istore_n (L' := [_, _, _, _, _, _, _, _]) d_Mo_meaning_154 rfl rfl ?_
            refine x_iinc (v := zI (i + 1)) (L' := [_, _, _, _, _, _, _, _]) d_Mo_meaning_155 rfl (zI_add _ _) rfl rfl ?_
            refine x_goto (tgt := 79) d_Mo_meaning_158 (by decide) ?_
            exact ih _ (i + 1) _ _ _ (by first | rw [mnf_next h1, if_pos (ez.symm.trans (lgz hc142))] | rw [mnf_next h1, if_neg (fun q => lgn hc142 (ez.trans q))]; exact hm) (by omega) (by omega) (by omega) _ hR hX
        | succ k2 ih2 =>
          intro j hi hj hk2 hj8 h hR hX
          have hl := n3 i h1 (by omega)
          by_cases ej : j = gd (S.2.1 5) i
          · have ez : zL (wz (S.2.1 4) (8 * i) j.toNat) = zL (itz S i) := by rw [ej]; rfl
            refine x_iload d_Mo_meaning_94 rfl ?_
            refine x_aload_n d_Mo_meaning_96 rfl rfl ?_
            refine x_get xf_Mo_16_Mo (Or.inl hR.1) (v := .ref (rf 5)) rfl d_Mo_meaning_97 ?_
            refine x_iload d_Mo_meaning_100 rfl ?_
            refine r_iald (i := 5) (us := (S.2.1 5)) rfl (by decide) hR rfl (by omega) (by show i < 6; omega) d_Mo_meaning_102 (fun hr102 => ?_)
            refine z_icmp_ge (tgt := 138) d_Mo_meaning_103 (by decide) (by omega) (by omega) (fun _ => ?_) (fun hq => by omega)
            refine x_lload d_Mo_meaning_138 rfl ?_
            refine x_lload_n d_Mo_meaning_140 rfl ?_
            refine x_lcmp d_Mo_meaning_141 (x_zi ?_)
            have hr141 := inR_ti (lg_cmp (zL (wz (S.2.1 4) (8 * i) j.toNat)) x)
            refine z_if_ne (tgt := 153) d_Mo_meaning_142 (by decide) (by omega) (fun hc142 => ?_) (fun hc142 => ?_)
            · refine x_iload_n d_Mo_meaning_153 rfl ?_
              refine x_istore_n (L' := [_, _, _, _, _, _, _, _]) d_Mo_meaning_154 rfl rfl ?_
              refine x_iinc (v := zI (i + 1)) (L' := [_, _, _, _, _, _, _, _]) d_Mo_meaning_155 rfl (zI_add _ _) rfl rfl ?_
              refine x_goto (tgt := 79) d_Mo_meaning_158 (by decide) ?_
              exact ih _ (i + 1) _ _ _ (by first | rw [mnf_next h1, if_pos (ez.symm.trans (lgz hc142))] | rw [mnf_next h1, if_neg (fun q => lgn hc142 (ez.trans q))]; exact hm) (by omega) (by omega) (by omega) _ hR hX
            · refine x_iload d_Mo_meaning_145 rfl ?_
              refine x_bipush (v := zI 100) d_Mo_meaning_147 (by decide) ?_
              refine z_isub d_Mo_meaning_149 ?_
              refine x_goto (tgt := 154) d_Mo_meaning_150 (by decide) ?_
              refine x_istore_n (L' := [_, _, _, _, _, _, _, _]) d_Mo_meaning_154 rfl rfl ?_
              refine x_iinc (v := zI (i + 1)) (L' := [_, _, _, _, _, _, _, _]) d_Mo_meaning_155 rfl (zI_add _ _) rfl rfl ?_
              refine x_goto (tgt := 79) d_Mo_meaning_158 (by decide) ?_
              exact ih _ (i + 1) _ _ _ (by first | rw [mnf_next h1, if_pos (ez.symm.trans (lgz hc142))] | rw [mnf_next h1, if_neg (fun q => lgn hc142 (ez.trans q))]; exact hm) (by omega) (by omega) (by omega) _ hR hX
          · have hlj := hL i h1 hi (8 * i + j) (by omega) (by omega)
            have hgo := ih2 (j + 1) hi (by omega) (by omega) (by omega)
            rw [wz_next hj] at hgo
            refine x_iload d_Mo_meaning_94 rfl ?_
            refine x_aload_n d_Mo_meaning_96 rfl rfl ?_
            refine x_get xf_Mo_16_Mo (Or.inl hR.1) (v := .ref (rf 5)) rfl d_Mo_meaning_97 ?_
            refine x_iload d_Mo_meaning_100 rfl ?_
            refine r_iald (i := 5) (us := (S.2.1 5)) rfl (by decide) hR rfl (by omega) (by show i < 6; omega) d_Mo_meaning_102 (fun hr102 => ?_)
            refine z_icmp_ge (tgt := 138) d_Mo_meaning_103 (by decide) (by omega) (by omega) (fun hq => by omega) (fun _ => ?_)
            refine x_ldc2 (v := 32) xw_1347 d_Mo_meaning_106 ?_
            refine x_lload d_Mo_meaning_109 rfl ?_
            refine x_lmul d_Mo_meaning_111 ?_
            refine x_aload_n d_Mo_meaning_112 rfl rfl ?_
            refine x_get xf_Mo_13_Mo (Or.inl hR.1) (v := .ref (rf 4)) rfl d_Mo_meaning_113 ?_
            refine x_bipush (v := zI 8) d_Mo_meaning_116 (by decide) ?_
            refine x_iload d_Mo_meaning_118 rfl ?_
            refine z_imul d_Mo_meaning_120 ?_
            refine x_iload d_Mo_meaning_121 rfl ?_
            refine z_iadd d_Mo_meaning_123 ?_
            refine r_iald (i := 4) (us := (S.2.1 4)) rfl (by decide) hR rfl (by omega) (by show 8 * i + j < 48; omega) d_Mo_meaning_124 (fun hr124 => ?_)
            refine x_bipush (v := zI 96) d_Mo_meaning_125 (by decide) ?_
            refine z_isub d_Mo_meaning_127 ?_
            refine x_i2l d_Mo_meaning_128 ?_
            refine x_ladd d_Mo_meaning_129 ?_
            refine x_lstore (L' := [_, _, _, _, _, _, _, _]) d_Mo_meaning_130 rfl rfl ?_
            refine x_iinc (v := zI (j + 1)) (L' := [_, _, _, _, _, _, _, _]) d_Mo_meaning_132 rfl (zI_add _ _) rfl rfl ?_
            refine x_goto (tgt := 94) d_Mo_meaning_135 (by decide) ?_
            rw [wd_step (by omega)]
            exact hgo _ hR hX
      refine x_iload d_Mo_meaning_79 rfl ?_
      refine x_aload_n d_Mo_meaning_81 rfl rfl ?_
      refine x_get xf_Mo_147_Mo (Or.inl hR.1) (v := .int (zI (S.1 3))) rfl d_Mo_meaning_82 ?_
      have hb82 : inR (S.1 3) := hR.2.2.2 3
      refine z_icmp_ge (tgt := 161) d_Mo_meaning_85 (by decide) (by omega) (by omega) (fun hc85 => ?_) (fun hc85 => ?_)
      · refine x_iload_n d_Mo_meaning_161 rfl ?_
        refine x_iret d_Mo_meaning_162 rfl ?_
        have e : i = S.1 3 := by omega
        rw [e] at hm
        exact ⟨_, hR, hX, rfl, rfl, rfl, by rw [hm]⟩
      · refine x_lconst (v := 0) d_Mo_meaning_88 (by decide) ?_
        refine x_lstore (L' := [_, _, _, _, _, _, _, _]) d_Mo_meaning_89 rfl rfl ?_
        refine x_iconst (v := zI 0) d_Mo_meaning_91 (by decide) ?_
        refine x_istore (L' := [_, _, _, _, _, _, _, _]) d_Mo_meaning_92 rfl rfl ?_
        exact lp2 8 0 (by omega) (by omega) (by have := n3 i h1 (by omega); omega) (by have := n3 i h1 (by omega); omega) _ hR hX
  have hX : xonly H0 H0 RKs := xonly.rf
  refine x_lload_n d_Mo_meaning_0 rfl ?_
  refine x_ldc2 (v := 498) xw_1352 d_Mo_meaning_1 ?_
  refine x_lcmp d_Mo_meaning_4 (x_zi ?_)
  have hr4 := inR_ti (lg_cmp x 498)
  refine z_if_ne (tgt := 12) d_Mo_meaning_5 (by decide) (by omega) (fun hc5 => ?_) (fun hc5 => ?_)
  · refine x_lload_n d_Mo_meaning_12 rfl ?_
    refine x_ldc2 (v := 1476) xw_1353 d_Mo_meaning_13 ?_
    refine x_lcmp d_Mo_meaning_16 (x_zi ?_)
    have hr16 := inR_ti (lg_cmp x 1476)
    refine z_if_ne (tgt := 24) d_Mo_meaning_17 (by decide) (by omega) (fun hc17 => ?_) (fun hc17 => ?_)
    · refine x_lload_n d_Mo_meaning_24 rfl ?_
      refine x_ldc2 (v := 14836) xw_1354 d_Mo_meaning_25 ?_
      refine x_lcmp d_Mo_meaning_28 (x_zi ?_)
      have hr28 := inR_ti (lg_cmp x 14836)
      refine z_if_ne (tgt := 36) d_Mo_meaning_29 (by decide) (by omega) (fun hc29 => ?_) (fun hc29 => ?_)
      · refine x_lload_n d_Mo_meaning_36 rfl ?_
        refine x_ldc2 (v := 302) xw_1355 d_Mo_meaning_37 ?_
        refine x_lcmp d_Mo_meaning_40 (x_zi ?_)
        have hr40 := inR_ti (lg_cmp x 302)
        refine z_if_ne (tgt := 49) d_Mo_meaning_41 (by decide) (by omega) (fun hc41 => ?_) (fun hc41 => ?_)
        · refine x_lload_n d_Mo_meaning_49 rfl ?_
          refine x_ldc2 (v := 674469) xw_1356 d_Mo_meaning_50 ?_
          refine x_lcmp d_Mo_meaning_53 (x_zi ?_)
          have hr53 := inR_ti (lg_cmp x 674469)
          refine z_if_ne (tgt := 61) d_Mo_meaning_54 (by decide) (by omega) (fun hc54 => ?_) (fun hc54 => ?_)
          · refine x_lload_n d_Mo_meaning_61 rfl ?_
            refine x_ldc2 (v := 6337125) xw_1357 d_Mo_meaning_62 ?_
            refine x_lcmp d_Mo_meaning_65 (x_zi ?_)
            have hr65 := inR_ti (lg_cmp x 6337125)
            refine z_if_ne (tgt := 74) d_Mo_meaning_66 (by decide) (by omega) (fun hc66 => ?_) (fun hc66 => ?_)
            · refine x_iconst (v := zI 0) d_Mo_meaning_74 (by decide) ?_
              refine x_istore_n (L' := [_, _, _, _, _, _, _, _]) d_Mo_meaning_75 rfl rfl ?_
              refine x_iconst (v := zI 0) d_Mo_meaning_76 (by decide) ?_
              refine x_istore (L' := [_, _, _, _, _, _, _, _]) d_Mo_meaning_77 rfl rfl ?_
              exact lp 6 _ 0 _ _ _ (by show _ = kwd x; unfold kwd; first | rw [if_pos (lgz hc5)] | rw [if_neg (lgn hc5), if_pos (lgz hc17)] | rw [if_neg (lgn hc5), if_neg (lgn hc17), if_pos (lgz hc29)] | rw [if_neg (lgn hc5), if_neg (lgn hc17), if_neg (lgn hc29), if_pos (lgz hc41)] | rw [if_neg (lgn hc5), if_neg (lgn hc17), if_neg (lgn hc29), if_neg (lgn hc41), if_pos (lgz hc54)] | rw [if_neg (lgn hc5), if_neg (lgn hc17), if_neg (lgn hc29), if_neg (lgn hc41), if_neg (lgn hc54), if_pos (lgz hc66)] | rw [if_neg (lgn hc5), if_neg (lgn hc17), if_neg (lgn hc29), if_neg (lgn hc41), if_neg (lgn hc54), if_neg (lgn hc66)]) (by omega) (by omega) (by omega) _ hR hX
            · refine x_bipush (v := zI 6) d_Mo_meaning_69 (by decide) ?_
              refine x_goto (tgt := 75) d_Mo_meaning_71 (by decide) ?_
              refine x_istore_n (L' := [_, _, _, _, _, _, _, _]) d_Mo_meaning_75 rfl rfl ?_
              refine x_iconst (v := zI 0) d_Mo_meaning_76 (by decide) ?_
              refine x_istore (L' := [_, _, _, _, _, _, _, _]) d_Mo_meaning_77 rfl rfl ?_
              exact lp 6 _ 0 _ _ _ (by show _ = kwd x; unfold kwd; first | rw [if_pos (lgz hc5)] | rw [if_neg (lgn hc5), if_pos (lgz hc17)] | rw [if_neg (lgn hc5), if_neg (lgn hc17), if_pos (lgz hc29)] | rw [if_neg (lgn hc5), if_neg (lgn hc17), if_neg (lgn hc29), if_pos (lgz hc41)] | rw [if_neg (lgn hc5), if_neg (lgn hc17), if_neg (lgn hc29), if_neg (lgn hc41), if_pos (lgz hc54)] | rw [if_neg (lgn hc5), if_neg (lgn hc17), if_neg (lgn hc29), if_neg (lgn hc41), if_neg (lgn hc54), if_pos (lgz hc66)] | rw [if_neg (lgn hc5), if_neg (lgn hc17), if_neg (lgn hc29), if_neg (lgn hc41), if_neg (lgn hc54), if_neg (lgn hc66)]) (by omega) (by omega) (by omega) _ hR hX
          · refine x_iconst (v := zI 5) d_Mo_meaning_57 (by decide) ?_
            refine x_goto (tgt := 75) d_Mo_meaning_58 (by decide) ?_
            refine x_istore_n (L' := [_, _, _, _, _, _, _, _]) d_Mo_meaning_75 rfl rfl ?_
            refine x_iconst (v := zI 0) d_Mo_meaning_76 (by decide) ?_
            refine x_istore (L' := [_, _, _, _, _, _, _, _]) d_Mo_meaning_77 rfl rfl ?_
            exact lp 6 _ 0 _ _ _ (by show _ = kwd x; unfold kwd; first | rw [if_pos (lgz hc5)] | rw [if_neg (lgn hc5), if_pos (lgz hc17)] | rw [if_neg (lgn hc5), if_neg (lgn hc17), if_pos (lgz hc29)] | rw [if_neg (lgn hc5), if_neg (lgn hc17), if_neg (lgn hc29), if_pos (lgz hc41)] | rw [if_neg (lgn hc5), if_neg (lgn hc17), if_neg (lgn hc29), if_neg (lgn hc41), if_pos (lgz hc54)] | rw [if_neg (lgn hc5), if_neg (lgn hc17), if_neg (lgn hc29), if_neg (lgn hc41), if_neg (lgn hc54), if_pos (lgz hc66)] | rw [if_neg (lgn hc5), if_neg (lgn hc17), if_neg (lgn hc29), if_neg (lgn hc41), if_neg (lgn hc54), if_neg (lgn hc66)]) (by omega) (by omega) (by omega) _ hR hX
        · refine x_bipush (v := zI 7) d_Mo_meaning_44 (by decide) ?_
          refine x_goto (tgt := 75) d_Mo_meaning_46 (by decide) ?_
          refine x_istore_n (L' := [_, _, _, _, _, _, _, _]) d_Mo_meaning_75 rfl rfl ?_
          refine x_iconst (v := zI 0) d_Mo_meaning_76 (by decide) ?_
          refine x_istore (L' := [_, _, _, _, _, _, _, _]) d_Mo_meaning_77 rfl rfl ?_
          exact lp 6 _ 0 _ _ _ (by show _ = kwd x; unfold kwd; first | rw [if_pos (lgz hc5)] | rw [if_neg (lgn hc5), if_pos (lgz hc17)] | rw [if_neg (lgn hc5), if_neg (lgn hc17), if_pos (lgz hc29)] | rw [if_neg (lgn hc5), if_neg (lgn hc17), if_neg (lgn hc29), if_pos (lgz hc41)] | rw [if_neg (lgn hc5), if_neg (lgn hc17), if_neg (lgn hc29), if_neg (lgn hc41), if_pos (lgz hc54)] | rw [if_neg (lgn hc5), if_neg (lgn hc17), if_neg (lgn hc29), if_neg (lgn hc41), if_neg (lgn hc54), if_pos (lgz hc66)] | rw [if_neg (lgn hc5), if_neg (lgn hc17), if_neg (lgn hc29), if_neg (lgn hc41), if_neg (lgn hc54), if_neg (lgn hc66)]) (by omega) (by omega) (by omega) _ hR hX
      · refine x_iconst (v := zI 1) d_Mo_meaning_32 (by decide) ?_
        refine x_goto (tgt := 75) d_Mo_meaning_33 (by decide) ?_
        refine x_istore_n (L' := [_, _, _, _, _, _, _, _]) d_Mo_meaning_75 rfl rfl ?_
        refine x_iconst (v := zI 0) d_Mo_meaning_76 (by decide) ?_
        refine x_istore (L' := [_, _, _, _, _, _, _, _]) d_Mo_meaning_77 rfl rfl ?_
        exact lp 6 _ 0 _ _ _ (by show _ = kwd x; unfold kwd; first | rw [if_pos (lgz hc5)] | rw [if_neg (lgn hc5), if_pos (lgz hc17)] | rw [if_neg (lgn hc5), if_neg (lgn hc17), if_pos (lgz hc29)] | rw [if_neg (lgn hc5), if_neg (lgn hc17), if_neg (lgn hc29), if_pos (lgz hc41)] | rw [if_neg (lgn hc5), if_neg (lgn hc17), if_neg (lgn hc29), if_neg (lgn hc41), if_pos (lgz hc54)] | rw [if_neg (lgn hc5), if_neg (lgn hc17), if_neg (lgn hc29), if_neg (lgn hc41), if_neg (lgn hc54), if_pos (lgz hc66)] | rw [if_neg (lgn hc5), if_neg (lgn hc17), if_neg (lgn hc29), if_neg (lgn hc41), if_neg (lgn hc54), if_neg (lgn hc66)]) (by omega) (by omega) (by omega) _ hR hX
    · refine x_iconst (v := zI 2) d_Mo_meaning_20 (by decide) ?_
      refine x_goto (tgt := 75) d_Mo_meaning_21 (by decide) ?_
      refine x_istore_n (L' := [_, _, _, _, _, _, _, _]) d_Mo_meaning_75 rfl rfl ?_
      refine x_iconst (v := zI 0) d_Mo_meaning_76 (by decide) ?_
      refine x_istore (L' := [_, _, _, _, _, _, _, _]) d_Mo_meaning_77 rfl rfl ?_
      exact lp 6 _ 0 _ _ _ (by show _ = kwd x; unfold kwd; first | rw [if_pos (lgz hc5)] | rw [if_neg (lgn hc5), if_pos (lgz hc17)] | rw [if_neg (lgn hc5), if_neg (lgn hc17), if_pos (lgz hc29)] | rw [if_neg (lgn hc5), if_neg (lgn hc17), if_neg (lgn hc29), if_pos (lgz hc41)] | rw [if_neg (lgn hc5), if_neg (lgn hc17), if_neg (lgn hc29), if_neg (lgn hc41), if_pos (lgz hc54)] | rw [if_neg (lgn hc5), if_neg (lgn hc17), if_neg (lgn hc29), if_neg (lgn hc41), if_neg (lgn hc54), if_pos (lgz hc66)] | rw [if_neg (lgn hc5), if_neg (lgn hc17), if_neg (lgn hc29), if_neg (lgn hc41), if_neg (lgn hc54), if_neg (lgn hc66)]) (by omega) (by omega) (by omega) _ hR hX
  · refine x_iconst (v := zI 3) d_Mo_meaning_8 (by decide) ?_
    refine x_goto (tgt := 75) d_Mo_meaning_9 (by decide) ?_
    refine x_istore_n (L' := [_, _, _, _, _, _, _, _]) d_Mo_meaning_75 rfl rfl ?_
    refine x_iconst (v := zI 0) d_Mo_meaning_76 (by decide) ?_
    refine x_istore (L' := [_, _, _, _, _, _, _, _]) d_Mo_meaning_77 rfl rfl ?_
    exact lp 6 _ 0 _ _ _ (by show _ = kwd x; unfold kwd; first | rw [if_pos (lgz hc5)] | rw [if_neg (lgn hc5), if_pos (lgz hc17)] | rw [if_neg (lgn hc5), if_neg (lgn hc17), if_pos (lgz hc29)] | rw [if_neg (lgn hc5), if_neg (lgn hc17), if_neg (lgn hc29), if_pos (lgz hc41)] | rw [if_neg (lgn hc5), if_neg (lgn hc17), if_neg (lgn hc29), if_neg (lgn hc41), if_pos (lgz hc54)] | rw [if_neg (lgn hc5), if_neg (lgn hc17), if_neg (lgn hc29), if_neg (lgn hc41), if_neg (lgn hc54), if_pos (lgz hc66)] | rw [if_neg (lgn hc5), if_neg (lgn hc17), if_neg (lgn hc29), if_neg (lgn hc41), if_neg (lgn hc54), if_neg (lgn hc66)]) (by omega) (by omega) (by omega) _ hR hX
/-- whether TEXT spells a new name, of a KIND k -/
def nmG (S : MS) (k : Int) : Prop := (1 ≤ S.1 2 ∧ S.1 2 ≤ 8) ∧ (0 ≤ k ∧ k ≤ 1) ∧ (∀ i : Int, 0 ≤ i → i < S.1 2 → 97 ≤ gd (S.2.1 1) i ∧ gd (S.2.1 1) i ≤ 122) ∧ mnf S (zL (wz (S.2.1 1) 0 (S.1 2).toNat)) (S.1 3).toNat = 0
/-- how name() ends, in full -/
def nmX (S : MS) (k : Int) : Option Value → MS → Prop := fun w S' => S'.1 2 = 0 ∧ ((¬ nmG S k ∧ w = some (.int (zI 0)) ∧ S'.1 0 = 1 ∧ rSm S S' [0, 2] [] []) ∨ (nmG S k ∧ S.1 3 = 6 ∧ w = some (.int (zI 0)) ∧ S'.1 0 = 2 ∧ rSm S S' [0, 2] [] []) ∨ (nmG S k ∧ S.1 3 < 6 ∧ w = some (.int (zI (S.1 3))) ∧ S'.1 0 = 0 ∧ S'.1 3 = S.1 3 + 1 ∧ S'.2.1 5 = se (S.2.1 5) (S.1 3) (S.1 2) ∧ S'.2.1 6 = se (S.2.1 6) (S.1 3) k ∧ (∀ i : Int, 0 ≤ i → gd (S'.2.1 4) i = if 8 * S.1 3 ≤ i ∧ i < 8 * S.1 3 + S.1 2 then gd (S.2.1 1) (i - 8 * S.1 3) else gd (S.2.1 4) i) ∧ rSm S S' [0, 2, 3] [4, 5, 6] []))
theorem r_nameX {k : Int} (hd : 2 ≤ d) (hk : inR k) (hz : szOk S) (hn : nmOk S) (hL : nmL S) : RM l G d M_Mo_name [.ref o, .int (zI k)] o rf S (nmX S k) := by
  obtain ⟨d, rfl⟩ : ∃ q, d = q + 1 := ⟨d - 1, by omega⟩
  intro H0 c n hR
  obtain ⟨z1, z2⟩ := hz
  obtain ⟨n1, n2, n3, n4⟩ := id hn
  have hn0 : nmOk (sp S 2 0) := hn
  have hL0 : nmL (sp S 2 0) := hL
  have le4 : (S.2.1 4).length = 48 := hR.len 4 (by decide)
  have hmX : ∀ dd, RM l G dd M_Mo_meaning [.ref o, .long (zL (wz (S.2.1 1) 0 (S.1 2).toNat))] o rf (sp S 2 0) (fun w S' => S' = sp S 2 0 ∧ ∃ r : Int, w = some (.int (zI r)) ∧ r = mnf S (zL (wz (S.2.1 1) 0 (S.1 2).toNat)) (S.1 3).toNat) := fun dd => (r_meaningX hn0 hL0).mono (fun v S' hq => ⟨hq.1, _, hq.2, mnf_sm (S := S) (S' := sp S 2 0) rfl rfl _⟩)
  refine XM.of (by decide +kernel) (Nat.le_of_ble_eq_true rfl) ?_
  have j120 : ∀ (g t : Int), nmG S k → S.1 3 < 6 → RX l G M_Mo_name (d + 1) 120 [some (.ref o), some (.int (zI k)), some (.int (zI (S.1 2))), some (.int (zI g)), some (.int (zI t))] [] H0 o rf c n (sp (sp S 2 0) 0 0) (nmX S k) := by
    intro g t hG hn6
    obtain ⟨⟨hm1, hm8⟩, -⟩ := id hG
    have l2 : ∀ (q : Nat) (us : List Int) (i : Int), us.length = 48 → (∀ e : Int, 0 ≤ e → gd us e = if 8 * S.1 3 ≤ e ∧ e < 8 * S.1 3 + i then gd (S.2.1 1) (e - 8 * S.1 3) else gd (S.2.1 4) e) → 0 ≤ i → i ≤ S.1 2 → S.1 2 - i ≤ q → RX l G M_Mo_name (d + 1) 123 [some (.ref o), some (.int (zI k)), some (.int (zI (S.1 2))), some (.int (zI g)), some (.int (zI i))] [] H0 o rf c n (sa (sp (sp S 2 0) 0 0) 4 us) (nmX S k) := by
      intro q
      induction q with
      | zero =>
        intro us i hul hus hi1 hi2 hq h hR hX
        refine x_iload d_Mo_name_123 rfl ?_
        refine x_iload_n d_Mo_name_125 rfl ?_
        refine z_icmp_ge (tgt := 157) d_Mo_name_126 (by decide) (by omega) (by omega) (fun _ => ?_) (fun hq => by omega)
        refine x_aload_n d_Mo_name_157 rfl rfl ?_
        refine x_get xf_Mo_16_Mo (Or.inl hR.1) (v := .ref (rf 5)) rfl d_Mo_name_158 ?_
        refine x_aload_n d_Mo_name_161 rfl rfl ?_
        refine x_get xf_Mo_147_Mo (Or.inl hR.1) (v := .int (zI (S.1 3))) rfl d_Mo_name_162 ?_
        have hb162 : inR (S.1 3) := hR.2.2.2 3
        refine x_iload_n d_Mo_name_165 rfl ?_
        refine r_iast (i := 5) (us := (S.2.1 5)) ⟨rfl, rfl⟩ (by decide) hR hX rfl (by omega) (by show S.1 3 < 6; omega) (by omega) d_Mo_name_166 ?_
        intro h hR hX
        refine x_aload_n d_Mo_name_167 rfl rfl ?_
        refine x_get xf_Mo_19_Mo (Or.inl hR.1) (v := .ref (rf 6)) rfl d_Mo_name_168 ?_
        refine x_aload_n d_Mo_name_171 rfl rfl ?_
        refine x_get xf_Mo_147_Mo (Or.inl hR.1) (v := .int (zI (S.1 3))) rfl d_Mo_name_172 ?_
        have hb172 : inR (S.1 3) := hR.2.2.2 3
        refine x_iload_n d_Mo_name_175 rfl ?_
        refine r_iast (i := 6) (us := (S.2.1 6)) ⟨rfl, rfl⟩ (by decide) hR hX rfl (by omega) (by show S.1 3 < 6; omega) (by omega) d_Mo_name_176 ?_
        intro h hR hX
        refine x_aload_n d_Mo_name_177 rfl rfl ?_
        refine x_dup d_Mo_name_178 rfl ?_
        refine x_get xf_Mo_147_Mo (Or.inl hR.1) (v := .int (zI (S.1 3))) rfl d_Mo_name_179 ?_
        have hb179 : inR (S.1 3) := hR.2.2.2 3
        refine x_iconst (v := zI 1) d_Mo_name_182 (by decide) ?_
        refine z_iadd d_Mo_name_183 ?_
        refine r_put xf_Mo_147_Mo xp_Mo_3 hR hX (by omega) rfl rfl d_Mo_name_184 ?_
        intro h hR hX
        refine x_aload_n d_Mo_name_187 rfl rfl ?_
        refine x_get xf_Mo_147_Mo (Or.inl hR.1) (v := .int (zI ((S.1 3) + 1))) rfl d_Mo_name_188 ?_
        have hb188 : inR ((S.1 3) + 1) := hR.2.2.2 3
        refine x_iconst (v := zI 1) d_Mo_name_191 (by decide) ?_
        refine z_isub d_Mo_name_192 ?_
        refine x_iret d_Mo_name_193 rfl ?_
        obtain rfl : i = S.1 2 := by omega
        exact ⟨_, hR, hX, rfl, rfl, rfl, Or.inr (Or.inr ⟨hG, hn6, by rw [show S.1 3 + 1 - 1 = S.1 3 by omega], rfl, rfl, rfl, rfl, hus, (((((rSm.r0.sp (by decide)).sp (by decide)).sa (by decide)).sa (by decide)).sa (by decide)).sp (by decide)⟩)⟩
      | succ q ih =>
        intro us i hul hus hi1 hi2 hq h hR hX
        by_cases ei : i = S.1 2
        · subst ei
          refine x_iload d_Mo_name_123 rfl ?_
          refine x_iload_n d_Mo_name_125 rfl ?_
          refine z_icmp_ge (tgt := 157) d_Mo_name_126 (by decide) (by omega) (by omega) (fun _ => ?_) (fun hq => by omega)
          refine x_aload_n d_Mo_name_157 rfl rfl ?_
          refine x_get xf_Mo_16_Mo (Or.inl hR.1) (v := .ref (rf 5)) rfl d_Mo_name_158 ?_
          refine x_aload_n d_Mo_name_161 rfl rfl ?_
          refine x_get xf_Mo_147_Mo (Or.inl hR.1) (v := .int (zI (S.1 3))) rfl d_Mo_name_162 ?_
          have hb162 : inR (S.1 3) := hR.2.2.2 3
          refine x_iload_n d_Mo_name_165 rfl ?_
          refine r_iast (i := 5) (us := (S.2.1 5)) ⟨rfl, rfl⟩ (by decide) hR hX rfl (by omega) (by show S.1 3 < 6; omega) (by omega) d_Mo_name_166 ?_
          intro h hR hX
          refine x_aload_n d_Mo_name_167 rfl rfl ?_
          refine x_get xf_Mo_19_Mo (Or.inl hR.1) (v := .ref (rf 6)) rfl d_Mo_name_168 ?_
          refine x_aload_n d_Mo_name_171 rfl rfl ?_
          refine x_get xf_Mo_147_Mo (Or.inl hR.1) (v := .int (zI (S.1 3))) rfl d_Mo_name_172 ?_
          have hb172 : inR (S.1 3) := hR.2.2.2 3
          refine x_iload_n d_Mo_name_175 rfl ?_
          refine r_iast (i := 6) (us := (S.2.1 6)) ⟨rfl, rfl⟩ (by decide) hR hX rfl (by omega) (by show S.1 3 < 6; omega) (by omega) d_Mo_name_176 ?_
          intro h hR hX
          refine x_aload_n d_Mo_name_177 rfl rfl ?_
          refine x_dup d_Mo_name_178 rfl ?_
          refine x_get xf_Mo_147_Mo (Or.inl hR.1) (v := .int (zI (S.1 3))) rfl d_Mo_name_179 ?_
          have hb179 : inR (S.1 3) := hR.2.2.2 3
          refine x_iconst (v := zI 1) d_Mo_name_182 (by decide) ?_
          refine z_iadd d_Mo_name_183 ?_
          refine r_put xf_Mo_147_Mo xp_Mo_3 hR hX (by omega) rfl rfl d_Mo_name_184 ?_
          intro h hR hX
          refine x_aload_n d_Mo_name_187 rfl rfl ?_
          refine x_get xf_Mo_147_Mo (Or.inl hR.1) (v := .int (zI ((S.1 3) + 1))) rfl d_Mo_name_188 ?_
          have hb188 : inR ((S.1 3) + 1) := hR.2.2.2 3
          refine x_iconst (v := zI 1) d_Mo_name_191 (by decide) ?_
          refine z_isub d_Mo_name_192 ?_
          refine x_iret d_Mo_name_193 rfl ?_
          exact ⟨_, hR, hX, rfl, rfl, rfl, Or.inr (Or.inr ⟨hG, hn6, by rw [show S.1 3 + 1 - 1 = S.1 3 by omega], rfl, rfl, rfl, rfl, hus, (((((rSm.r0.sp (by decide)).sp (by decide)).sa (by decide)).sa (by decide)).sa (by decide)).sp (by decide)⟩)⟩
        · have hus' : ∀ e : Int, 0 ≤ e → gd (se us (8 * S.1 3 + i) (gd (S.2.1 1) i)) e = if 8 * S.1 3 ≤ e ∧ e < 8 * S.1 3 + (i + 1) then gd (S.2.1 1) (e - 8 * S.1 3) else gd (S.2.1 4) e := by
            intro e he
            rw [gd_se_of hul (by omega) (by omega) he]
            by_cases e1 : e = 8 * S.1 3 + i
            · rw [if_pos e1, if_pos (by omega), show e - 8 * S.1 3 = i by omega]
            · rw [if_neg e1, hus e he]
              by_cases e2 : 8 * S.1 3 ≤ e ∧ e < 8 * S.1 3 + i
              · rw [if_pos e2, if_pos (by omega)]
              · rw [if_neg e2, if_neg (by omega)]
          refine x_iload d_Mo_name_123 rfl ?_
          refine x_iload_n d_Mo_name_125 rfl ?_
          refine z_icmp_ge (tgt := 157) d_Mo_name_126 (by decide) (by omega) (by omega) (fun hq => by omega) (fun _ => ?_)
          refine x_aload_n d_Mo_name_129 rfl rfl ?_
          refine x_get xf_Mo_13_Mo (Or.inl hR.1) (v := .ref (rf 4)) rfl d_Mo_name_130 ?_
          refine x_bipush (v := zI 8) d_Mo_name_133 (by decide) ?_
          refine x_aload_n d_Mo_name_135 rfl rfl ?_
          refine x_get xf_Mo_147_Mo (Or.inl hR.1) (v := .int (zI (S.1 3))) rfl d_Mo_name_136 ?_
          have hb136 : inR (S.1 3) := hR.2.2.2 3
          refine z_imul d_Mo_name_139 ?_
          refine x_iload d_Mo_name_140 rfl ?_
          refine z_iadd d_Mo_name_142 ?_
          refine x_aload_n d_Mo_name_143 rfl rfl ?_
          refine x_get xf_Mo_7_Mo (Or.inl hR.1) (v := .ref (rf 1)) rfl d_Mo_name_144 ?_
          refine x_iload d_Mo_name_147 rfl ?_
          refine r_iald (i := 1) (us := (S.2.1 1)) rfl (by decide) hR rfl (by omega) (by show i < 160; omega) d_Mo_name_149 (fun hr149 => ?_)
          refine r_iast (i := 4) (us := us) ⟨rfl, rfl⟩ (by decide) hR hX rfl (by omega) (by show 8 * S.1 3 + i < 48; omega) (by omega) d_Mo_name_150 ?_
          intro h hR hX
          refine x_iinc (v := zI (i + 1)) (L' := [_, _, _, _, _]) d_Mo_name_151 rfl (zI_add _ _) rfl rfl ?_
          refine x_goto (tgt := 123) d_Mo_name_154 (by decide) ?_
          exact ih _ (i + 1) (by rw [se_len]; exact hul) hus' (by omega) (by omega) (by omega) _ (by rw [sa_sa] at hR; exact hR) hX
    intro h hR hX
    refine x_iconst (v := zI 0) d_Mo_name_120 (by decide) ?_
    refine x_istore (L' := [_, _, _, _, _]) d_Mo_name_121 rfl rfl ?_
    exact l2 8 (S.2.1 4) 0 le4 (fun e he => by rw [if_neg (by omega)]) (by omega) (by omega) (by omega) _ (by show isR _ o rf (sa (sp (sp S 2 0) 0 0) 4 ((sp (sp S 2 0) 0 0).2.1 4)); rw [sa_id]; exact hR) hX
  have j87 : ∀ (g g' t : Int), ((g' = 1 ∧ nmG S k) ∨ (g' = 0 ∧ ¬ nmG S k)) → RX l G M_Mo_name (d + 1) 87 [some (.ref o), some (.int (zI k)), some (.int (zI (S.1 2))), some (.int (zI g)), some (.int (zI t))] [.int (zI g')] H0 o rf c n (sp S 2 0) (nmX S k) := by
    intro g g' t hg' h hR hX
    have hgb : (g' = 0 ∨ g' = 1) := by rcases hg' with ⟨q, -⟩ | ⟨q, -⟩ <;> omega
    refine x_istore_n (L' := [_, _, _, _, _]) d_Mo_name_87 rfl rfl ?_
    refine x_aload_n d_Mo_name_88 rfl rfl ?_
    refine x_iload_n d_Mo_name_89 rfl ?_
    refine z_if_ne (tgt := 97) d_Mo_name_90 (by decide) (by omega) (fun hc90 => ?_) (fun hc90 => ?_)
    · refine x_iconst (v := zI 0) d_Mo_name_97 (by decide) ?_
      refine x_aload_n d_Mo_name_98 rfl rfl ?_
      refine x_get xf_Mo_147_Mo (Or.inl hR.1) (v := .int (zI (S.1 3))) rfl d_Mo_name_99 ?_
      have hb99 : inR (S.1 3) := hR.2.2.2 3
      refine x_bipush (v := zI 6) d_Mo_name_102 (by decide) ?_
      refine z_icmp_ne (tgt := 111) d_Mo_name_104 (by decide) (by omega) (by omega) (fun hc104 => ?_) (fun hc104 => ?_)
      · refine x_iconst (v := zI 0) d_Mo_name_111 (by decide) ?_
        refine x_callV (As := [_, _]) (k := k_MarkerTextModel) rfl xcv_Mo_162_Mo (Or.inl hR.1) (RM.ap hR (r_fails (by decide) (by decide))) rfl rfl (Nat.le_of_ble_eq_true rfl) d_Mo_name_112 ?_
        rintro v112 h cq nq ⟨S112, hR, hX112, rfl, rfl, t112, r112, rfl, rfl, hr112⟩
        replace hX := hX.tr hX112
        refine z_if_eq (tgt := 120) d_Mo_name_115 (by decide) (by omega) (fun hc115 => ?_) (fun hc115 => ?_)
        · obtain rfl : t112 = 0 := by omega
          exact j120 _ _ (by rcases hg' with ⟨-, q⟩ | ⟨q, -⟩; exact q; omega) (by omega) _ hR hX
        · refine x_iconst (v := zI 0) d_Mo_name_118 (by decide) ?_
          refine x_iret d_Mo_name_119 rfl ?_
          refine ⟨_, hR, hX, rfl, rfl, rfl, ?_⟩
          rcases hg' with ⟨q, q'⟩ | ⟨q, q'⟩
          · first | (exfalso; omega) | exact Or.inr (Or.inl ⟨q', by omega, rfl, by show t112 = 2; omega, (rSm.r0.sp (by decide)).sp (by decide)⟩)
          · exact Or.inl ⟨q', rfl, by show t112 = 1; omega, (rSm.r0.sp (by decide)).sp (by decide)⟩
      · refine x_iconst (v := zI 1) d_Mo_name_107 (by decide) ?_
        refine x_goto (tgt := 112) d_Mo_name_108 (by decide) ?_
        refine x_callV (As := [_, _]) (k := k_MarkerTextModel) rfl xcv_Mo_162_Mo (Or.inl hR.1) (RM.ap hR (r_fails (by decide) (by decide))) rfl rfl (Nat.le_of_ble_eq_true rfl) d_Mo_name_112 ?_
        rintro v112 h cq nq ⟨S112, hR, hX112, rfl, rfl, t112, r112, rfl, rfl, hr112⟩
        replace hX := hX.tr hX112
        refine z_if_eq (tgt := 120) d_Mo_name_115 (by decide) (by omega) (fun hc115 => ?_) (fun hc115 => ?_)
        · obtain rfl : t112 = 0 := by omega
          exact j120 _ _ (by rcases hg' with ⟨-, q⟩ | ⟨q, -⟩; exact q; omega) (by omega) _ hR hX
        · refine x_iconst (v := zI 0) d_Mo_name_118 (by decide) ?_
          refine x_iret d_Mo_name_119 rfl ?_
          refine ⟨_, hR, hX, rfl, rfl, rfl, ?_⟩
          rcases hg' with ⟨q, q'⟩ | ⟨q, q'⟩
          · first | (exfalso; omega) | exact Or.inr (Or.inl ⟨q', by omega, rfl, by show t112 = 2; omega, (rSm.r0.sp (by decide)).sp (by decide)⟩)
          · exact Or.inl ⟨q', rfl, by show t112 = 1; omega, (rSm.r0.sp (by decide)).sp (by decide)⟩
    · refine x_iconst (v := zI 1) d_Mo_name_93 (by decide) ?_
      refine x_goto (tgt := 98) d_Mo_name_94 (by decide) ?_
      refine x_aload_n d_Mo_name_98 rfl rfl ?_
      refine x_get xf_Mo_147_Mo (Or.inl hR.1) (v := .int (zI (S.1 3))) rfl d_Mo_name_99 ?_
      have hb99 : inR (S.1 3) := hR.2.2.2 3
      refine x_bipush (v := zI 6) d_Mo_name_102 (by decide) ?_
      refine z_icmp_ne (tgt := 111) d_Mo_name_104 (by decide) (by omega) (by omega) (fun hc104 => ?_) (fun hc104 => ?_)
      · refine x_iconst (v := zI 0) d_Mo_name_111 (by decide) ?_
        refine x_callV (As := [_, _]) (k := k_MarkerTextModel) rfl xcv_Mo_162_Mo (Or.inl hR.1) (RM.ap hR (r_fails (by decide) (by decide))) rfl rfl (Nat.le_of_ble_eq_true rfl) d_Mo_name_112 ?_
        rintro v112 h cq nq ⟨S112, hR, hX112, rfl, rfl, t112, r112, rfl, rfl, hr112⟩
        replace hX := hX.tr hX112
        refine z_if_eq (tgt := 120) d_Mo_name_115 (by decide) (by omega) (fun hc115 => ?_) (fun hc115 => ?_)
        · obtain rfl : t112 = 0 := by omega
          exact j120 _ _ (by rcases hg' with ⟨-, q⟩ | ⟨q, -⟩; exact q; omega) (by omega) _ hR hX
        · refine x_iconst (v := zI 0) d_Mo_name_118 (by decide) ?_
          refine x_iret d_Mo_name_119 rfl ?_
          refine ⟨_, hR, hX, rfl, rfl, rfl, ?_⟩
          rcases hg' with ⟨q, q'⟩ | ⟨q, q'⟩
          · first | (exfalso; omega) | exact Or.inr (Or.inl ⟨q', by omega, rfl, by show t112 = 2; omega, (rSm.r0.sp (by decide)).sp (by decide)⟩)
          · exact Or.inl ⟨q', rfl, by show t112 = 1; omega, (rSm.r0.sp (by decide)).sp (by decide)⟩
      · refine x_iconst (v := zI 1) d_Mo_name_107 (by decide) ?_
        refine x_goto (tgt := 112) d_Mo_name_108 (by decide) ?_
        refine x_callV (As := [_, _]) (k := k_MarkerTextModel) rfl xcv_Mo_162_Mo (Or.inl hR.1) (RM.ap hR (r_fails (by decide) (by decide))) rfl rfl (Nat.le_of_ble_eq_true rfl) d_Mo_name_112 ?_
        rintro v112 h cq nq ⟨S112, hR, hX112, rfl, rfl, t112, r112, rfl, rfl, hr112⟩
        replace hX := hX.tr hX112
        refine z_if_eq (tgt := 120) d_Mo_name_115 (by decide) (by omega) (fun hc115 => ?_) (fun hc115 => ?_)
        · obtain rfl : t112 = 0 := by omega
          exact j120 _ _ (by rcases hg' with ⟨-, q⟩ | ⟨q, -⟩; exact q; omega) (by omega) _ hR hX
        · refine x_iconst (v := zI 0) d_Mo_name_118 (by decide) ?_
          refine x_iret d_Mo_name_119 rfl ?_
          refine ⟨_, hR, hX, rfl, rfl, rfl, ?_⟩
          rcases hg' with ⟨q, q'⟩ | ⟨q, q'⟩
          · first | (exfalso; omega) | exact Or.inr (Or.inl ⟨q', by omega, rfl, by show t112 = 2; omega, (rSm.r0.sp (by decide)).sp (by decide)⟩)
          · exact Or.inl ⟨q', rfl, by show t112 = 1; omega, (rSm.r0.sp (by decide)).sp (by decide)⟩
  have l1 : ∀ (q : Nat) (g i : Int), ((g = 1 ∧ ((1 ≤ S.1 2 ∧ S.1 2 ≤ 8) ∧ (0 ≤ k ∧ k ≤ 1) ∧ ∀ e : Int, 0 ≤ e → e < i → 97 ≤ gd (S.2.1 1) e ∧ gd (S.2.1 1) e ≤ 122)) ∨ (g = 0 ∧ ¬ nmG S k)) → 0 ≤ i → i ≤ S.1 2 → S.1 2 - i ≤ q → RX l G M_Mo_name (d + 1) 38 [some (.ref o), some (.int (zI k)), some (.int (zI (S.1 2))), some (.int (zI g)), some (.int (zI i))] [] H0 o rf c n (sp S 2 0) (nmX S k) := by
    intro q
    induction q with
    | zero =>
      intro g i hg hi1 hi2 hq h hR hX
      obtain rfl : i = S.1 2 := by omega
      rcases hg with ⟨rfl, hm, hk01, hl⟩ | ⟨rfl, hno⟩
      · refine x_iload d_Mo_name_38 rfl ?_
        refine x_iload_n d_Mo_name_40 rfl ?_
        refine z_icmp_ge (tgt := 65) d_Mo_name_41 (by decide) (by omega) (by omega) (fun _ => ?_) (fun hq => by omega)
        refine x_iload_n d_Mo_name_65 rfl ?_
        refine z_if_eq (tgt := 86) d_Mo_name_66 (by decide) (by omega) (fun hq => by omega) (fun _ => ?_)
        refine x_aload_n d_Mo_name_69 rfl rfl ?_
        refine x_aload_n d_Mo_name_70 rfl rfl ?_
        refine x_iconst (v := zI 0) d_Mo_name_71 (by decide) ?_
        refine x_iload_n d_Mo_name_72 rfl ?_
        refine x_callV (As := [_, _]) (k := k_MarkerTextModel) rfl xcv_Mo_154_Mo (Or.inl hR.1) (RM.ap hR (r_wordX (S := sp S 2 0) (by decide) (by decide) (by omega) (by omega) (by omega) (fun e h0 h1 => hl e h0 (by omega)))) rfl rfl (Nat.le_of_ble_eq_true rfl) d_Mo_name_73 ?_
        rintro v73 h cq nq ⟨S73, hR, hX73, rfl, rfl, hE73, rfl⟩
        replace hE73 := Eq.symm hE73
        subst hE73
        replace hX := hX.tr hX73
        refine x_callV (As := [_]) (k := k_MarkerTextModel) rfl xcv_Mo_158_Mo (Or.inl hR.1) (RM.ap hR (hmX _)) rfl rfl (Nat.le_of_ble_eq_true rfl) d_Mo_name_76 ?_
        rintro v76 h cq nq ⟨S76, hR, hX76, rfl, rfl, hE76, r76, rfl, hr76⟩
        replace hE76 := Eq.symm hE76
        subst hE76
        replace hX := hX.tr hX76
        have hmb := mnf_b (S := S) (x := zL (wz (S.2.1 1) 0 (S.1 2).toNat)) n2 (S.1 3).toNat (by omega)
        refine z_if_ne (tgt := 86) d_Mo_name_79 (by decide) (by omega) (fun hc79 => ?_) (fun hc79 => ?_)
        · refine x_iconst (v := zI 0) d_Mo_name_86 (by decide) ?_
          exact j87 _ _ _ (by first | exact Or.inl ⟨rfl, hm, hk01, hl, by omega⟩ | exact Or.inr ⟨rfl, fun q => by have := q.2.2.2; omega⟩) _ hR hX
        · refine x_iconst (v := zI 1) d_Mo_name_82 (by decide) ?_
          refine x_goto (tgt := 87) d_Mo_name_83 (by decide) ?_
          exact j87 _ _ _ (by first | exact Or.inl ⟨rfl, hm, hk01, hl, by omega⟩ | exact Or.inr ⟨rfl, fun q => by have := q.2.2.2; omega⟩) _ hR hX
      · refine x_iload d_Mo_name_38 rfl ?_
        refine x_iload_n d_Mo_name_40 rfl ?_
        refine z_icmp_ge (tgt := 65) d_Mo_name_41 (by decide) (by omega) (by omega) (fun _ => ?_) (fun hq => by omega)
        refine x_iload_n d_Mo_name_65 rfl ?_
        refine z_if_eq (tgt := 86) d_Mo_name_66 (by decide) (by omega) (fun _ => ?_) (fun hq => by omega)
        refine x_iconst (v := zI 0) d_Mo_name_86 (by decide) ?_
        exact j87 _ _ _ (Or.inr ⟨rfl, hno⟩) _ hR hX
    | succ q ih =>
      intro g i hg hi1 hi2 hq h hR hX
      by_cases ei : i = S.1 2
      · subst ei
        rcases hg with ⟨rfl, hm, hk01, hl⟩ | ⟨rfl, hno⟩
        · refine x_iload d_Mo_name_38 rfl ?_
          refine x_iload_n d_Mo_name_40 rfl ?_
          refine z_icmp_ge (tgt := 65) d_Mo_name_41 (by decide) (by omega) (by omega) (fun _ => ?_) (fun hq => by omega)
          refine x_iload_n d_Mo_name_65 rfl ?_
          refine z_if_eq (tgt := 86) d_Mo_name_66 (by decide) (by omega) (fun hq => by omega) (fun _ => ?_)
          refine x_aload_n d_Mo_name_69 rfl rfl ?_
          refine x_aload_n d_Mo_name_70 rfl rfl ?_
          refine x_iconst (v := zI 0) d_Mo_name_71 (by decide) ?_
          refine x_iload_n d_Mo_name_72 rfl ?_
          refine x_callV (As := [_, _]) (k := k_MarkerTextModel) rfl xcv_Mo_154_Mo (Or.inl hR.1) (RM.ap hR (r_wordX (S := sp S 2 0) (by decide) (by decide) (by omega) (by omega) (by omega) (fun e h0 h1 => hl e h0 (by omega)))) rfl rfl (Nat.le_of_ble_eq_true rfl) d_Mo_name_73 ?_
          rintro v73 h cq nq ⟨S73, hR, hX73, rfl, rfl, hE73, rfl⟩
          replace hE73 := Eq.symm hE73
          subst hE73
          replace hX := hX.tr hX73
          refine x_callV (As := [_]) (k := k_MarkerTextModel) rfl xcv_Mo_158_Mo (Or.inl hR.1) (RM.ap hR (hmX _)) rfl rfl (Nat.le_of_ble_eq_true rfl) d_Mo_name_76 ?_
          rintro v76 h cq nq ⟨S76, hR, hX76, rfl, rfl, hE76, r76, rfl, hr76⟩
          replace hE76 := Eq.symm hE76
          subst hE76
          replace hX := hX.tr hX76
          have hmb := mnf_b (S := S) (x := zL (wz (S.2.1 1) 0 (S.1 2).toNat)) n2 (S.1 3).toNat (by omega)
          refine z_if_ne (tgt := 86) d_Mo_name_79 (by decide) (by omega) (fun hc79 => ?_) (fun hc79 => ?_)
          · refine x_iconst (v := zI 0) d_Mo_name_86 (by decide) ?_
            exact j87 _ _ _ (by first | exact Or.inl ⟨rfl, hm, hk01, hl, by omega⟩ | exact Or.inr ⟨rfl, fun q => by have := q.2.2.2; omega⟩) _ hR hX
          · refine x_iconst (v := zI 1) d_Mo_name_82 (by decide) ?_
            refine x_goto (tgt := 87) d_Mo_name_83 (by decide) ?_
            exact j87 _ _ _ (by first | exact Or.inl ⟨rfl, hm, hk01, hl, by omega⟩ | exact Or.inr ⟨rfl, fun q => by have := q.2.2.2; omega⟩) _ hR hX
        · refine x_iload d_Mo_name_38 rfl ?_
          refine x_iload_n d_Mo_name_40 rfl ?_
          refine z_icmp_ge (tgt := 65) d_Mo_name_41 (by decide) (by omega) (by omega) (fun _ => ?_) (fun hq => by omega)
          refine x_iload_n d_Mo_name_65 rfl ?_
          refine z_if_eq (tgt := 86) d_Mo_name_66 (by decide) (by omega) (fun _ => ?_) (fun hq => by omega)
          refine x_iconst (v := zI 0) d_Mo_name_86 (by decide) ?_
          exact j87 _ _ _ (Or.inr ⟨rfl, hno⟩) _ hR hX
      · rcases hg with ⟨rfl, hm, hk01, hl⟩ | ⟨rfl, hno⟩
        · refine x_iload d_Mo_name_38 rfl ?_
          refine x_iload_n d_Mo_name_40 rfl ?_
          refine z_icmp_ge (tgt := 65) d_Mo_name_41 (by decide) (by omega) (by omega) (fun hq => by omega) (fun _ => ?_)
          refine x_iload_n d_Mo_name_44 rfl ?_
          refine z_if_eq (tgt := 65) d_Mo_name_45 (by decide) (by omega) (fun hq => by omega) (fun _ => ?_)
          refine x_aload_n d_Mo_name_48 rfl rfl ?_
          refine x_get xf_Mo_7_Mo (Or.inl hR.1) (v := .ref (rf 1)) rfl d_Mo_name_49 ?_
          refine x_iload d_Mo_name_52 rfl ?_
          refine r_iald (i := 1) (us := (S.2.1 1)) rfl (by decide) hR rfl (by omega) (by show i < 160; omega) d_Mo_name_54 (fun hr54 => ?_)
          refine x_callS (As := [_]) xcs_Mo_127 (r_isLetter hr54) rfl rfl (Nat.le_of_ble_eq_true rfl) d_Mo_name_55 ?_
          rintro v55 h cq nq ⟨rfl, rfl, rfl, r55, rfl, hr55⟩
          refine x_istore_n (L' := [_, _, _, _, _]) d_Mo_name_58 rfl rfl ?_
          refine x_iinc (v := zI (i + 1)) (L' := [_, _, _, _, _]) d_Mo_name_59 rfl (zI_add _ _) rfl rfl ?_
          refine x_goto (tgt := 38) d_Mo_name_62 (by decide) ?_
          refine ih _ (i + 1) ?_ (by omega) (by omega) (by omega) _ hR hX
          rcases hr55 with ⟨q1, q2⟩ | ⟨q1, q2⟩
          · refine Or.inl ⟨q1, hm, hk01, fun e h0 h1 => ?_⟩
            by_cases ee : e = i
            · rw [ee]; exact q2
            · exact hl e h0 (by omega)
          · exact Or.inr ⟨q1, fun q => q2 (q.2.2.1 i (by omega) (by omega))⟩
        · refine x_iload d_Mo_name_38 rfl ?_
          refine x_iload_n d_Mo_name_40 rfl ?_
          refine z_icmp_ge (tgt := 65) d_Mo_name_41 (by decide) (by omega) (by omega) (fun hq => by omega) (fun _ => ?_)
          refine x_iload_n d_Mo_name_44 rfl ?_
          refine z_if_eq (tgt := 65) d_Mo_name_45 (by decide) (by omega) (fun _ => ?_) (fun hq => by omega)
          refine x_iload_n d_Mo_name_65 rfl ?_
          refine z_if_eq (tgt := 86) d_Mo_name_66 (by decide) (by omega) (fun _ => ?_) (fun hq => by omega)
          refine x_iconst (v := zI 0) d_Mo_name_86 (by decide) ?_
          exact j87 _ _ _ (Or.inr ⟨rfl, hno⟩) _ hR hX
  have hX : xonly H0 H0 RKs := xonly.rf
  refine x_aload_n d_Mo_name_0 rfl rfl ?_
  refine x_get xf_Mo_124_Mo (Or.inl hR.1) (v := .int (zI (S.1 2))) rfl d_Mo_name_1 ?_
  have hb1 : inR (S.1 2) := hR.2.2.2 2
  refine x_istore_n (L' := [_, _, _, _, _]) d_Mo_name_4 rfl rfl ?_
  refine x_aload_n d_Mo_name_5 rfl rfl ?_
  refine x_iconst (v := zI 0) d_Mo_name_6 (by decide) ?_
  refine r_put xf_Mo_124_Mo xp_Mo_2 hR hX (by omega) rfl rfl d_Mo_name_7 ?_
  intro h hR hX
  refine x_iload_n d_Mo_name_10 rfl ?_
  refine x_iconst (v := zI 1) d_Mo_name_11 (by decide) ?_
  refine x_bipush (v := zI 8) d_Mo_name_12 (by decide) ?_
  refine x_callS (As := [_, _, _]) xcs_Mo_150 (r_in (by omega) (by decide) (by decide)) rfl rfl (Nat.le_of_ble_eq_true rfl) d_Mo_name_14 ?_
  rintro v14 h cq nq ⟨rfl, rfl, rfl, r14, rfl, hr14⟩
  refine z_if_eq (tgt := 33) d_Mo_name_17 (by decide) (by omega) (fun hc17 => ?_) (fun hc17 => ?_)
  · refine x_iconst (v := zI 0) d_Mo_name_33 (by decide) ?_
    refine x_istore_n (L' := [_, _, _, _, _]) d_Mo_name_34 rfl rfl ?_
    refine x_iconst (v := zI 0) d_Mo_name_35 (by decide) ?_
    refine x_istore (L' := [_, _, _, _, _]) d_Mo_name_36 rfl rfl ?_
    exact l1 160 _ 0 (by first | exact Or.inl ⟨rfl, by omega, by omega, fun e h0 h1 => by omega⟩ | exact Or.inr ⟨rfl, fun q => by have q1 := q.1; have q2 := q.2.1; omega⟩) (by omega) (by omega) (by omega) _ hR hX
  · refine x_iload_n d_Mo_name_20 rfl ?_
    refine x_iconst (v := zI 0) d_Mo_name_21 (by decide) ?_
    refine x_iconst (v := zI 1) d_Mo_name_22 (by decide) ?_
    refine x_callS (As := [_, _, _]) xcs_Mo_150 (r_in hk (by decide) (by decide)) rfl rfl (Nat.le_of_ble_eq_true rfl) d_Mo_name_23 ?_
    rintro v23 h cq nq ⟨rfl, rfl, rfl, r23, rfl, hr23⟩
    refine z_if_eq (tgt := 33) d_Mo_name_26 (by decide) (by omega) (fun hc26 => ?_) (fun hc26 => ?_)
    · refine x_iconst (v := zI 0) d_Mo_name_33 (by decide) ?_
      refine x_istore_n (L' := [_, _, _, _, _]) d_Mo_name_34 rfl rfl ?_
      refine x_iconst (v := zI 0) d_Mo_name_35 (by decide) ?_
      refine x_istore (L' := [_, _, _, _, _]) d_Mo_name_36 rfl rfl ?_
      exact l1 160 _ 0 (by first | exact Or.inl ⟨rfl, by omega, by omega, fun e h0 h1 => by omega⟩ | exact Or.inr ⟨rfl, fun q => by have q1 := q.1; have q2 := q.2.1; omega⟩) (by omega) (by omega) (by omega) _ hR hX
    · refine x_iconst (v := zI 1) d_Mo_name_29 (by decide) ?_
      refine x_goto (tgt := 34) d_Mo_name_30 (by decide) ?_
      refine x_istore_n (L' := [_, _, _, _, _]) d_Mo_name_34 rfl rfl ?_
      refine x_iconst (v := zI 0) d_Mo_name_35 (by decide) ?_
      refine x_istore (L' := [_, _, _, _, _]) d_Mo_name_36 rfl rfl ?_
      exact l1 160 _ 0 (by first | exact Or.inl ⟨rfl, by omega, by omega, fun e h0 h1 => by omega⟩ | exact Or.inr ⟨rfl, fun q => by have q1 := q.1; have q2 := q.2.1; omega⟩) (by omega) (by omega) (by omega) _ hR hX
end RG1
