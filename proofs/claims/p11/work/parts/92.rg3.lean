section

end
section RG3
variable {l : Launch} {G : XG} {h : XH} {c n d : Nat} {o : Nat} {rf : Nat → Nat} {S : MS}
theorem zL_ti {a : Int} (h : -2 ^ 63 ≤ a ∧ a < 2 ^ 63) : (zL a).toInt = a := Int64.toInt_ofInt_of_le (by omega) (by omega)
theorem zL_inj {a b : Int} (ha : -2 ^ 63 ≤ a ∧ a < 2 ^ 63) (hb : -2 ^ 63 ≤ b ∧ b < 2 ^ 63) : zL a = zL b ↔ a = b := ⟨fun e => by rw [← zL_ti ha, ← zL_ti hb, e], fun e => by rw [e]⟩
theorem zL_lt {a b : Int} (ha : -2 ^ 63 ≤ a ∧ a < 2 ^ 63) (hb : -2 ^ 63 ≤ b ∧ b < 2 ^ 63) : zL a < zL b ↔ a < b := by rw [Int64.lt_iff_toInt_lt, zL_ti ha, zL_ti hb]
theorem zI_l {y : Int} (hy : inR y) : (zI y).toInt64 = zL y := by
  show Int64.ofInt (zI y).toInt = Int64.ofInt y
  rw [Int32.toInt_ofInt_of_le hy.1 (by omega)]
theorem k256 {z y : Int} (hy : inR y) : 256 * zL z + (zI y).toInt64 = zL (256 * z + y) := by
  rw [zI_l hy, show (256 : Int64) = zL 256 by decide, ← Int64.ofInt_mul, ← Int64.ofInt_add]
theorem k1000 {z y : Int} (hy : inR y) : 1000 * zL z + (zI y).toInt64 = zL (1000 * z + y) := by
  rw [zI_l hy, show (1000 : Int64) = zL 1000 by decide, ← Int64.ofInt_mul, ← Int64.ofInt_add]
theorem k1000m {z : Int} : 1000 * zL z = zL (1000 * z) := by
  rw [show (1000 : Int64) = zL 1000 by decide, ← Int64.ofInt_mul]
/-- TEXT's row, in the reference -/
def txA (t : List Nat) (S : MS) : Prop := ∀ i : Nat, i < t.length → gd (S.2.1 1) i = ((t.getD i 0 : Nat) : Int)
/-- what TEXT may hold -/
def okTx (t : List Nat) : Prop := ∀ ch ∈ t, 32 ≤ ch ∧ ch ≤ 126
theorem txR.A {t : List Nat} (h : txR t S) : txA t S := h.2
/-- a piece of a text -/
abbrev cut (t : List Nat) (a b : Int) : List Nat := (t.drop a.toNat).take (b - a).toNat
theorem cut_len {t : List Nat} {a b : Int} (h0 : 0 ≤ a) (h1 : a ≤ b) (h2 : b ≤ t.length) : ((cut t a b).length : Int) = b - a := by
  rw [List.length_take, List.length_drop]
  omega
theorem cut_get {t : List Nat} {a b i : Int} (h0 : 0 ≤ a) (hi : 0 ≤ i) (hb : a + i < b) : (cut t a b).getD i.toNat 0 = t.getD (a + i).toNat 0 := by
  rw [List.getD_eq_getElem?_getD, List.getD_eq_getElem?_getD, List.getElem?_take, if_pos (by omega), List.getElem?_drop, show a.toNat + i.toNat = (a + i).toNat by omega]
theorem cut_at {t : List Nat} {a b i : Int} (hA : txA t S) (h0 : 0 ≤ a) (hi : 0 ≤ i) (hb : a + i < b) (h2 : b ≤ t.length) : gd (S.2.1 1) (a + i) = (((cut t a b).getD i.toNat 0 : Nat) : Int) := by
  have e := hA (a + i).toNat (by omega)
  rw [show (((a + i).toNat : Nat) : Int) = a + i by omega] at e
  rw [e, cut_get h0 hi hb]
theorem cut_out {t : List Nat} {a b i : Int} (hb : b ≤ a + i) : (cut t a b).getD i.toNat 0 = 0 := by
  rw [List.getD_eq_getElem?_getD, List.getElem?_eq_none (by rw [List.length_take]; omega)]
  rfl
theorem okTx.cut {t : List Nat} {a b : Int} (h : okTx t) : okTx (cut t a b) := fun ch hc => h ch (List.mem_of_mem_drop (List.mem_of_mem_take hc))
theorem okTx.at {u : List Nat} (h : okTx u) {i : Nat} (hi : i < u.length) : 32 ≤ u.getD i 0 ∧ u.getD i 0 ≤ 126 := by
  rw [List.getD_eq_getElem?_getD, List.getElem?_eq_getElem hi]
  exact h _ (List.getElem_mem hi)
/-- the key of a text VALUE, in the reference -/
def tkR (u : List Nat) : Nat → Nat
  | 0 => 0
  | i + 1 => tkR u i * 256 + u.getD i 0
theorem tkR_next {u : List Nat} {i : Int} (hi : 0 ≤ i) : ((tkR u (i + 1).toNat : Nat) : Int) = 256 * ((tkR u i.toNat : Nat) : Int) + ((u.getD i.toNat 0 : Nat) : Int) := by
  rw [show (i + 1).toNat = i.toNat + 1 by omega]
  show ((tkR u i.toNat * 256 + u.getD i.toNat 0 : Nat) : Int) = _
  omega
theorem rk_iff : ∀ ch, ch < 128 → (rk ch ≠ 0 ↔ (97 ≤ ch ∧ ch ≤ 122) ∨ (48 ≤ ch ∧ ch ≤ 57) ∨ ch = 46) := by decide +kernel
def vkR (u : List Nat) : Nat := (vsl u - 2) / 2
/-- the key of a VALUE, in the reference -/
def kyR (kd : Nat) (u : List Nat) : Nat := if kd = 1 then vkR u else tkR u 8
/-- how isText(), isVersion() and isValue() end -/
def ivX (S : MS) (kd : Nat) (u : List Nat) : Option Value → MS → Prop := fun w S' => ∃ (x : Int64) (r : Int), S' = sk S x ∧ w = some (.int (zI r)) ∧ ((r = 1 ∧ klv kd u ≠ 0 ∧ x = zL (kyR kd u)) ∨ (r = 0 ∧ klv kd u = 0))
/-- while a text VALUE is read -/
def itI (u : List Nat) (g i : Int) (x : Int64) : Prop := (g = 1 ∧ (1 ≤ u.length ∧ u.length ≤ 8) ∧ (∀ j : Nat, (j : Int) < i → j < u.length → rk (u.getD j 0) ≠ 0) ∧ x = zL (tkR u i.toNat)) ∨ (g = 0 ∧ txl u = 0)
theorem itI.b {u : List Nat} {g i : Int} {x : Int64} (h : itI u g i x) : g = 0 ∨ g = 1 := by
  rcases h with ⟨h, -⟩ | ⟨h, -⟩ <;> omega
theorem itI.fin {u : List Nat} {g i : Int} {x : Int64} (h : itI u g i x) (hi : i = 8 ∨ g = 0) : (g = 1 ∧ klv 0 u ≠ 0 ∧ x = zL (kyR 0 u)) ∨ (g = 0 ∧ klv 0 u = 0) := by
  have ek : klv 0 u = txl u := rfl
  rw [ek]
  rcases h with ⟨hg, hl, hj, hx⟩ | ⟨hg, h⟩
  · have hi : i = 8 := by omega
    subst hi
    refine Or.inl ⟨hg, ?_, hx⟩
    have hall : ∀ ch ∈ u, rk ch ≠ 0 := by
      intro ch hc
      obtain ⟨j, hj1, hj2⟩ := List.getElem_of_mem hc
      have := hj j (by omega) hj1
      rwa [List.getD_eq_getElem?_getD, List.getElem?_eq_getElem hj1, Option.getD_some, hj2] at this
    have hne : u ≠ [] := fun z => by rw [z] at hl; simp at hl
    unfold txl
    rw [if_pos ⟨hne, hl.2, hall⟩]
    omega
  · exact Or.inr ⟨hg, h⟩
theorem itI.step {u : List Nat} {g i y g' : Int} {x : Int64} (hu : okTx u) (h : itI u g i x) (hg1 : g = 1) (hi : 0 ≤ i) (hi8 : i < 8) (hy : y = ((u.getD i.toNat 0 : Nat) : Int)) (hg : (g' = 1 ∧ (y = 0 ∨ (97 ≤ y ∧ y ≤ 122) ∨ (48 ≤ y ∧ y ≤ 57) ∨ y = 46)) ∨ (g' = 0 ∧ ¬ (y = 0 ∨ (97 ≤ y ∧ y ≤ 122) ∨ (48 ≤ y ∧ y ≤ 57) ∨ y = 46))) : itI u g' (i + 1) (256 * x + (zI y).toInt64) := by
  rcases h with ⟨-, hl, hj, rfl⟩ | ⟨h, -⟩
  · by_cases hil : i.toNat < u.length
    · have hb := hu.at hil
      have hr := rk_iff (u.getD i.toNat 0) (by omega)
      rcases hg with ⟨e, hg⟩ | ⟨e, hg⟩
      · refine Or.inl ⟨e, hl, fun j h1 h2 => ?_, ?_⟩
        · by_cases hji : j = i.toNat
          · rw [hji, hr]; omega
          · exact hj j (by omega) h2
        · rw [k256 ⟨by omega, by omega⟩, tkR_next hi, hy]
      · refine Or.inr ⟨e, ?_⟩
        unfold txl
        rw [if_neg]
        rintro ⟨-, -, hz⟩
        have hm : u.getD i.toNat 0 ∈ u := by
          rw [List.getD_eq_getElem?_getD, List.getElem?_eq_getElem hil]
          exact List.getElem_mem hil
        have := hr.mp (hz _ hm)
        omega
    · have e0 : u.getD i.toNat 0 = 0 := by
        rw [List.getD_eq_getElem?_getD, List.getElem?_eq_none (by omega)]
        rfl
      rw [e0] at hy
      have e1 : g' = 1 := by omega
      refine Or.inl ⟨e1, hl, fun j h1 h2 => hj j (by omega) h2, ?_⟩
      rw [k256 ⟨by omega, by omega⟩, tkR_next hi, hy, e0]
  · omega
theorem r_isTextX {t : List Nat} {a b : Int} (hd : 1 ≤ d) (hA : txA t S) (hc : okTx t) (h0 : 0 ≤ a) (h1 : a ≤ b) (h2 : b ≤ t.length) (h3 : t.length ≤ 160) : RM l G d M_Mo_isText [.ref o, .int (zI a), .int (zI b)] o rf S (ivX S 0 (cut t a b)) := by
  obtain ⟨d, rfl⟩ : ∃ q, d = q + 1 := ⟨d - 1, by omega⟩
  intro H0 c n hR
  have hu : okTx (cut t a b) := hc.cut
  have hul := cut_len (t := t) h0 h1 h2
  have hat : ∀ i : Int, 0 ≤ i → a + i < b → gd (S.2.1 1) (a + i) = (((cut t a b).getD i.toNat 0 : Nat) : Int) := fun i hi hb => cut_at hA h0 hi hb h2
  have hout : ∀ i : Int, b ≤ a + i → (cut t a b).getD i.toNat 0 = 0 := fun i hb => cut_out hb
  generalize cut t a b = u at *
  refine XM.of (by decide +kernel) (Nat.le_of_ble_eq_true rfl) ?_
  have lp : ∀ (k : Nat) (x : Int64) (g i : Int) (w5 : Option Value), itI u g i x → 0 ≤ i → i ≤ 8 → 8 - i ≤ k → RX l G M_Mo_isText (d + 1) 18 [some (.ref o), some (.int (zI a)), some (.int (zI b)), some (.int (zI g)), some (.int (zI i)), w5] [] H0 o rf c n (sk S x) (ivX S 0 u) := by
    intro k
    induction k with
    | zero =>
      intro x g i w5 hg hi hi8 hk h hR hX
      have hgb := hg.b
      refine x_iload d_Mo_isText_18 rfl ?_
      refine x_bipush (v := zI 8) d_Mo_isText_20 (by decide) ?_
      refine z_icmp_ge (tgt := 108) d_Mo_isText_22 (by decide) (by omega) (by omega) (fun _ => ?_) (fun hq => by omega)
      refine x_iload_n d_Mo_isText_108 rfl ?_
      refine x_zret d_Mo_isText_109 rfl (z_nb (by omega)) ?_
      exact ⟨_, hR, hX, rfl, rfl, _, _, rfl, rfl, hg.fin (by omega)⟩
    | succ k ih =>
      intro x g i w5 hg hi hi8 hk h hR hX
      have hgb := hg.b
      have j85 : ∀ (y g' : Int), inR y → y = ((u.getD i.toNat 0 : Nat) : Int) → ((g' = 1 ∧ (y = 0 ∨ (97 ≤ y ∧ y ≤ 122) ∨ (48 ≤ y ∧ y ≤ 57) ∨ y = 46)) ∨ (g' = 0 ∧ ¬ (y = 0 ∨ (97 ≤ y ∧ y ≤ 122) ∨ (48 ≤ y ∧ y ≤ 57) ∨ y = 46))) → g = 1 → i < 8 → RX l G M_Mo_isText (d + 1) 85 [some (.ref o), some (.int (zI a)), some (.int (zI b)), some (.int (zI g)), some (.int (zI i)), some (.int (zI y))] [.int (zI g')] H0 o rf c n (sk S x) (ivX S 0 u) := by
        intro y g' hy hyu hg' hg1 hi9 h hR hX
        have hst := hg.step hu hg1 hi hi9 hyu hg'
        refine x_istore_n (L' := [_, _, _, _, _, _]) d_Mo_isText_85 rfl rfl ?_
        refine x_aload_n d_Mo_isText_86 rfl rfl ?_
        refine x_ldc2 (v := 256) xw_1381 d_Mo_isText_87 ?_
        refine x_aload_n d_Mo_isText_90 rfl rfl ?_
        refine x_get xf_Mo_173_Mo (Or.inl hR.1) (v := .long x) rfl d_Mo_isText_91 ?_
        refine x_lmul d_Mo_isText_94 ?_
        refine x_iload d_Mo_isText_95 rfl ?_
        refine x_i2l d_Mo_isText_97 ?_
        refine x_ladd d_Mo_isText_98 ?_
        refine r_putk xf_Mo_173_Mo xp_Mo_36 hR hX rfl rfl d_Mo_isText_99 ?_
        intro h hR hX
        refine x_iinc (v := zI (i + 1)) (L' := [_, _, _, _, _, _]) d_Mo_isText_102 rfl (zI_add _ _) rfl rfl ?_
        refine x_goto (tgt := 18) d_Mo_isText_105 (by decide) ?_
        exact ih _ _ _ _ hst (by omega) (by omega) (by omega) _ hR hX
      have j50 : ∀ (y : Int), inR y → y = ((u.getD i.toNat 0 : Nat) : Int) → g = 1 → i < 8 → RX l G M_Mo_isText (d + 1) 50 [some (.ref o), some (.int (zI a)), some (.int (zI b)), some (.int (zI g)), some (.int (zI i)), w5] [.int (zI y)] H0 o rf c n (sk S x) (ivX S 0 u) := by
        intro y hy hyu hg1 hi9 h hR hX
        refine x_istore (L' := [_, _, _, _, _, _]) d_Mo_isText_50 rfl rfl ?_
        refine x_iload d_Mo_isText_52 rfl ?_
        refine z_if_eq (tgt := 80) d_Mo_isText_54 (by decide) (by omega) (fun hc54 => ?_) (fun hc54 => ?_)
        · refine x_iconst (v := zI 1) d_Mo_isText_80 (by decide) ?_
          refine x_goto (tgt := 85) d_Mo_isText_81 (by decide) ?_
          exact j85 _ _ hy hyu (by omega) hg1 hi9 _ hR hX
        · refine x_iload d_Mo_isText_57 rfl ?_
          refine x_callS (As := [_]) xcs_Mo_127 (r_isLetter hy) rfl rfl (Nat.le_of_ble_eq_true rfl) d_Mo_isText_59 ?_
          rintro v59 h cq nq ⟨rfl, rfl, rfl, r59, rfl, hr59⟩
          refine z_if_ne (tgt := 80) d_Mo_isText_62 (by decide) (by omega) (fun hc62 => ?_) (fun hc62 => ?_)
          · refine x_iconst (v := zI 1) d_Mo_isText_80 (by decide) ?_
            refine x_goto (tgt := 85) d_Mo_isText_81 (by decide) ?_
            exact j85 _ _ hy hyu (by omega) hg1 hi9 _ hR hX
          · refine x_iload d_Mo_isText_65 rfl ?_
            refine x_callS (As := [_]) xcs_Mo_177 (r_isDigit hy) rfl rfl (Nat.le_of_ble_eq_true rfl) d_Mo_isText_67 ?_
            rintro v67 h cq nq ⟨rfl, rfl, rfl, r67, rfl, hr67⟩
            refine z_if_ne (tgt := 80) d_Mo_isText_70 (by decide) (by omega) (fun hc70 => ?_) (fun hc70 => ?_)
            · refine x_iconst (v := zI 1) d_Mo_isText_80 (by decide) ?_
              refine x_goto (tgt := 85) d_Mo_isText_81 (by decide) ?_
              exact j85 _ _ hy hyu (by omega) hg1 hi9 _ hR hX
            · refine x_iload d_Mo_isText_73 rfl ?_
              refine x_bipush (v := zI 46) d_Mo_isText_75 (by decide) ?_
              refine z_icmp_ne (tgt := 84) d_Mo_isText_77 (by decide) (by omega) (by omega) (fun hc77 => ?_) (fun hc77 => ?_)
              · refine x_iconst (v := zI 0) d_Mo_isText_84 (by decide) ?_
                exact j85 _ _ hy hyu (by omega) hg1 hi9 _ hR hX
              · refine x_iconst (v := zI 1) d_Mo_isText_80 (by decide) ?_
                refine x_goto (tgt := 85) d_Mo_isText_81 (by decide) ?_
                exact j85 _ _ hy hyu (by omega) hg1 hi9 _ hR hX
      refine x_iload d_Mo_isText_18 rfl ?_
      refine x_bipush (v := zI 8) d_Mo_isText_20 (by decide) ?_
      refine z_icmp_ge (tgt := 108) d_Mo_isText_22 (by decide) (by omega) (by omega) (fun hc22 => ?_) (fun hc22 => ?_)
      · refine x_iload_n d_Mo_isText_108 rfl ?_
        refine x_zret d_Mo_isText_109 rfl (z_nb (by omega)) ?_
        exact ⟨_, hR, hX, rfl, rfl, _, _, rfl, rfl, hg.fin (by omega)⟩
      · refine x_iload_n d_Mo_isText_25 rfl ?_
        refine z_if_eq (tgt := 108) d_Mo_isText_26 (by decide) (by omega) (fun hc26 => ?_) (fun hc26 => ?_)
        · refine x_iload_n d_Mo_isText_108 rfl ?_
          refine x_zret d_Mo_isText_109 rfl (z_nb (by omega)) ?_
          exact ⟨_, hR, hX, rfl, rfl, _, _, rfl, rfl, hg.fin (by omega)⟩
        · refine x_iload_n d_Mo_isText_29 rfl ?_
          refine x_iload d_Mo_isText_30 rfl ?_
          refine z_iadd d_Mo_isText_32 ?_
          refine x_iload_n d_Mo_isText_33 rfl ?_
          refine z_icmp_ge (tgt := 49) d_Mo_isText_34 (by decide) (by omega) (by omega) (fun hc34 => ?_) (fun hc34 => ?_)
          · refine x_iconst (v := zI 0) d_Mo_isText_49 (by decide) ?_
            exact j50 _ (by omega) (by first | exact hat i hi (by omega) | (rw [hout i (by omega)]; rfl)) (by omega) (by omega) _ hR hX
          · refine x_aload_n d_Mo_isText_37 rfl rfl ?_
            refine x_get xf_Mo_7_Mo (Or.inl hR.1) (v := .ref (rf 1)) rfl d_Mo_isText_38 ?_
            refine x_iload_n d_Mo_isText_41 rfl ?_
            refine x_iload d_Mo_isText_42 rfl ?_
            refine z_iadd d_Mo_isText_44 ?_
            refine r_iald (i := 1) (us := (S.2.1 1)) rfl (by decide) hR rfl (by omega) (by show a + i < 160; omega) d_Mo_isText_45 (fun hr45 => ?_)
            refine x_goto (tgt := 50) d_Mo_isText_46 (by decide) ?_
            exact j50 _ (by omega) (by first | exact hat i hi (by omega) | (rw [hout i (by omega)]; rfl)) (by omega) (by omega) _ hR hX
  have hX : xonly H0 H0 RKs := xonly.rf
  have hin : ∀ r : Int, ((r = 1 ∧ (1 ≤ b - a ∧ b - a ≤ 8)) ∨ (r = 0 ∧ ¬ (1 ≤ b - a ∧ b - a ≤ 8))) → itI u r 0 (0 : Int64) := by
    rintro r (⟨e, hr⟩ | ⟨e, hr⟩)
    · exact Or.inl ⟨e, by omega, fun j hj => by omega, rfl⟩
    · refine Or.inr ⟨e, ?_⟩
      unfold txl
      rw [if_neg]
      rintro ⟨z1, z2, -⟩
      have : 1 ≤ u.length := by
        cases u with
        | nil => exact absurd rfl z1
        | cons x u => simp
      omega
  refine x_iload_n d_Mo_isText_0 rfl ?_
  refine x_iload_n d_Mo_isText_1 rfl ?_
  refine z_isub d_Mo_isText_2 ?_
  refine x_iconst (v := zI 1) d_Mo_isText_3 (by decide) ?_
  refine x_bipush (v := zI 8) d_Mo_isText_4 (by decide) ?_
  refine x_callS (As := [_, _, _]) xcs_Mo_150 (r_in (by omega) (by decide) (by decide)) rfl rfl (Nat.le_of_ble_eq_true rfl) d_Mo_isText_6 ?_
  rintro v6 h cq nq ⟨rfl, rfl, rfl, r6, rfl, hr6⟩
  refine x_istore_n (L' := [_, _, _, _, _, _]) d_Mo_isText_9 rfl rfl ?_
  refine x_aload_n d_Mo_isText_10 rfl rfl ?_
  refine x_lconst (v := 0) d_Mo_isText_11 (by decide) ?_
  refine r_putk xf_Mo_173_Mo xp_Mo_36 hR hX rfl rfl d_Mo_isText_12 ?_
  intro h hR hX
  refine x_iconst (v := zI 0) d_Mo_isText_15 (by decide) ?_
  refine x_istore (L' := [_, _, _, _, _, _]) d_Mo_isText_16 rfl rfl ?_
  exact lp 8 _ _ 0 _ (hin _ hr6) (by omega) (by omega) (by omega) _ hR hX
end RG3
