section

end
section RH14
variable {l : Launch} {G : XG} {h : XH} {c n d : Nat} {o : Nat} {rf : Nat → Nat} {S : MS}
/-- what is printed so far -/
def ptR (us : List Int) (p : Int) (out : List Nat) : Prop := us.length = 1000 ∧ p = (out.length : Nat) ∧ ∀ i : Nat, i < out.length → gd us i = ((out.getD i 0 : Nat) : Int)
theorem ptR.put {us : List Int} {p v : Int} {out : List Nat} {ch : Nat} (h : ptR us p out) (hp : out.length < 1000) (hv : v = (ch : Nat)) : ptR (se us p v) (p + 1) (out ++ [ch]) := by
  obtain ⟨h1, h2, h3⟩ := h
  refine ⟨by rw [se_len]; exact h1, by rw [h2, List.length_append]; rfl, fun i hi => ?_⟩
  rw [List.length_append] at hi
  simp at hi
  rw [gd_se_of h1 (by omega) (by omega) (by omega)]
  by_cases e : i = out.length
  · rw [if_pos (by omega), hv, e]
    simp
  · rw [if_neg (by omega), h3 i (by omega), List.getD_eq_getElem?_getD, List.getD_eq_getElem?_getD, List.getElem?_append_left (by omega)]
/-- the bytes of a long, from its end on -/
def byB (x : Int64) : List Nat → Bool
  | [] => decide (x = 0)
  | b :: bs => decide (¬ x = 0) && (decide ((Int64.toInt32 (x &&& 255)).toInt = (b : Nat)) && byB (x >>> (Int32.toInt64 (zI 8) &&& 63)) bs)
abbrev ppX (S : MS) (out : List Nat) : Option Value → MS → Prop := fun v S' => ∃ (us : List Int) (p : Int), S' = PS S us p ∧ v = none ∧ ptR us p out
theorem r_putAllX (hd : 1 ≤ d) {x : Int64} {bs out : List Nat} (hb : byB x bs = true) (hP : ptR (S.2.1 48) (S.1 49) out) (hl : out.length + bs.length ≤ 1000) : RM l G d M_Mo_putAll [.ref o, .long x] o rf S (ppX S (out ++ bs)) := by
  obtain ⟨d, rfl⟩ : ∃ q, d = q + 1 := ⟨d - 1, by omega⟩
  intro H0 c n hR
  refine XM.of (by decide +kernel) (Nat.le_of_ble_eq_true rfl) ?_
  have hX : xonly H0 H0 RKs := xonly.rf
  have lp : ∀ (rest : List Nat) (us : List Int) (p : Int) (y : Int64) (out1 : List Nat), byB y rest = true → ptR us p out1 → out1 ++ rest = out ++ bs → RX l G M_Mo_putAll (d + 1) 2 [some (.ref o), some (.long x), none, some (.long y), none] [] H0 o rf c n (PS S us p) (ppX S (out ++ bs)) := by
    intro rest
    induction rest with
    | nil =>
      intro us p y out1 hy hP1 he h hR hX
      have hy0 : y = 0 := of_decide_eq_true hy
      rw [List.append_nil] at he
      refine x_lload_n d_Mo_putAll_2 rfl ?_
      refine x_lconst (v := 0) d_Mo_putAll_3 (by decide) ?_
      refine x_lcmp d_Mo_putAll_4 (x_zi ?_)
      have hr4 := inR_ti (lg_cmp y 0)
      refine z_if_eq (tgt := 26) d_Mo_putAll_5 (by decide) (by omega) (fun _ => ?_) (fun hq => absurd (lgz' hy0) hq)
      refine x_vret d_Mo_putAll_26 rfl ?_
      exact ⟨_, hR, hX, rfl, rfl, us, p, rfl, rfl, by rw [← he]; exact hP1⟩
    | cons b rest ih =>
      intro us p y out1 hy hP1 he h hR hX
      have hy' : (decide (¬ y = 0) && (decide ((Int64.toInt32 (y &&& 255)).toInt = (b : Nat)) && byB (y >>> (Int32.toInt64 (zI 8) &&& 63)) rest)) = true := hy
      rw [Bool.and_eq_true, Bool.and_eq_true] at hy'
      obtain ⟨y1, y2, y3⟩ := hy'
      have y1 := of_decide_eq_true y1
      have y2 := of_decide_eq_true y2
      have hlen : out1.length + (rest.length + 1) = out.length + bs.length := by
        have := congrArg List.length he
        simpa using this
      have hpp := hP1.2.1
      have hnx := hP1.put (v := (Int64.toInt32 (y &&& 255)).toInt) (ch := b) (by omega) y2
      refine x_lload_n d_Mo_putAll_2 rfl ?_
      refine x_lconst (v := 0) d_Mo_putAll_3 (by decide) ?_
      refine x_lcmp d_Mo_putAll_4 (x_zi ?_)
      have hr4 := inR_ti (lg_cmp y 0)
      refine z_if_eq (tgt := 26) d_Mo_putAll_5 (by decide) (by omega) (fun hq => absurd hq (fun z => y1 (lgz z))) (fun _ => ?_)
      refine x_aload_n d_Mo_putAll_8 rfl rfl ?_
      refine x_lload_n d_Mo_putAll_9 rfl ?_
      refine x_ldc2 (v := 255) xw_1573 d_Mo_putAll_10 ?_
      refine x_land d_Mo_putAll_13 ?_
      refine x_l2i d_Mo_putAll_14 (x_zi ?_)
      have hr14 := inR_ti (Int64.toInt32 (y &&& 255))
      refine x_callV (As := [_]) (k := k_MarkerTextModel) rfl xcv_Mo_328_Mo (Or.inl hR.1) (RM.ap hR (r_put1 (S := PS S us p) (by omega) (by show 0 ≤ p ∧ p < 1000; omega))) rfl rfl (Nat.le_of_ble_eq_true rfl) d_Mo_putAll_15 ?_
      rintro v15 h cq nq ⟨S15, hR, hX15, rfl, rfl, rfl, rfl⟩
      replace hX := hX.tr hX15
      refine x_lload_n d_Mo_putAll_18 rfl ?_
      refine x_bipush (v := zI 8) d_Mo_putAll_19 (by decide) ?_
      refine x_lshr d_Mo_putAll_21 rfl ?_
      refine x_lstore_n (L' := [_, _, _, _, _]) d_Mo_putAll_22 rfl rfl ?_
      refine x_goto (tgt := 2) d_Mo_putAll_23 (by decide) ?_
      exact ih _ (p + 1) _ (out1 ++ [b]) y3 hnx (by rw [List.append_assoc]; exact he) _ (by rw [PS_PS] at hR; exact hR) hX
  refine x_lload_n d_Mo_putAll_0 rfl ?_
  refine x_lstore_n (L' := [_, _, _, _, _]) d_Mo_putAll_1 rfl rfl ?_
  exact lp bs (S.2.1 48) (S.1 49) x out hb hP rfl _ (by rw [PS_id]; exact hR) hX
theorem r_signX {k : Int} (hk : 0 ≤ k ∧ k ≤ 6) : XM l G d M_Mo_sign [.int (zI k)] h c n (zP h c n (fun v => ∃ x : Int64, v = some (.long x) ∧ byB x (sgL k) = true)) := by
  refine XM.of (by decide +kernel) (Nat.le_of_ble_eq_true rfl) ?_
  refine x_iload_n d_Mo_sign_0 rfl ?_
  by_cases hsw1_0 : k = 0
  · subst hsw1_0
    refine x_tableIn (tgt := 40) (off := 39) d_Mo_sign_1 (by decide) (by decide) (by decide) (by decide) ?_
    refine x_ldc2 (v := 540884256) xw_1587 d_Mo_sign_40 ?_
    refine x_lret d_Mo_sign_43 rfl ?_
    first | exact ⟨rfl, rfl, rfl, _, rfl, by decide +kernel⟩ | exact ⟨rfl, rfl, rfl, _, rfl, by rw [show k = 6 by omega]; decide +kernel⟩
  by_cases hsw1_1 : k = 1
  · subst hsw1_1
    refine x_tableIn (tgt := 44) (off := 43) d_Mo_sign_1 (by decide) (by decide) (by decide) (by decide) ?_
    refine x_ldc2 (v := 540877088) xw_1588 d_Mo_sign_44 ?_
    refine x_lret d_Mo_sign_47 rfl ?_
    first | exact ⟨rfl, rfl, rfl, _, rfl, by decide +kernel⟩ | exact ⟨rfl, rfl, rfl, _, rfl, by rw [show k = 6 by omega]; decide +kernel⟩
  by_cases hsw1_2 : k = 2
  · subst hsw1_2
    refine x_tableIn (tgt := 48) (off := 47) d_Mo_sign_1 (by decide) (by decide) (by decide) (by decide) ?_
    refine x_ldc2 (v := 2112544) xw_1589 d_Mo_sign_48 ?_
    refine x_lret d_Mo_sign_51 rfl ?_
    first | exact ⟨rfl, rfl, rfl, _, rfl, by decide +kernel⟩ | exact ⟨rfl, rfl, rfl, _, rfl, by rw [show k = 6 by omega]; decide +kernel⟩
  by_cases hsw1_3 : k = 3
  · subst hsw1_3
    refine x_tableIn (tgt := 52) (off := 51) d_Mo_sign_1 (by decide) (by decide) (by decide) (by decide) ?_
    refine x_ldc2 (v := 540884000) xw_1590 d_Mo_sign_52 ?_
    refine x_lret d_Mo_sign_55 rfl ?_
    first | exact ⟨rfl, rfl, rfl, _, rfl, by decide +kernel⟩ | exact ⟨rfl, rfl, rfl, _, rfl, by rw [show k = 6 by omega]; decide +kernel⟩
  by_cases hsw1_4 : k = 4
  · subst hsw1_4
    refine x_tableIn (tgt := 56) (off := 55) d_Mo_sign_1 (by decide) (by decide) (by decide) (by decide) ?_
    refine x_ldc2 (v := 2113056) xw_1591 d_Mo_sign_56 ?_
    refine x_lret d_Mo_sign_59 rfl ?_
    first | exact ⟨rfl, rfl, rfl, _, rfl, by decide +kernel⟩ | exact ⟨rfl, rfl, rfl, _, rfl, by rw [show k = 6 by omega]; decide +kernel⟩
  by_cases hsw1_5 : k = 5
  · subst hsw1_5
    refine x_tableIn (tgt := 60) (off := 59) d_Mo_sign_1 (by decide) (by decide) (by decide) (by decide) ?_
    refine x_ldc2 (v := 540884512) xw_1592 d_Mo_sign_60 ?_
    refine x_lret d_Mo_sign_63 rfl ?_
    first | exact ⟨rfl, rfl, rfl, _, rfl, by decide +kernel⟩ | exact ⟨rfl, rfl, rfl, _, rfl, by rw [show k = 6 by omega]; decide +kernel⟩
  refine x_tableOut (tgt := 64) d_Mo_sign_1 (by rw [zI_ti (by omega)]; omega) (by decide) ?_
  refine x_ldc2 (v := 391386130720) xw_1593 d_Mo_sign_64 ?_
  refine x_lret d_Mo_sign_67 rfl ?_
  first | exact ⟨rfl, rfl, rfl, _, rfl, by decide +kernel⟩ | exact ⟨rfl, rfl, rfl, _, rfl, by rw [show k = 6 by omega]; decide +kernel⟩
theorem vsT_app {u : List Nat} : ∀ ws : List (List Nat), ws ≠ [] → vsT (ws ++ [u]) = vsT ws ++ (44 :: 32 :: 39 :: (u ++ [39])) := by
  intro ws
  induction ws with
  | nil => intro h; exact absurd rfl h
  | cons a ws ih =>
    intro _
    cases ws with
    | nil => rfl
    | cons b r =>
      show vsT (a :: ((b :: r) ++ [u])) = _
      rw [vsT_more (u := a) (ws := (b :: r) ++ [u]) (by simp), ih (by simp), vsT_more (u := a) (ws := b :: r) (by simp)]
      simp [List.append_assoc]
theorem e_ctr : xtx 26 = [116, 114, 117, 101] := by decide
theorem e_cfl : xtx 27 = [102, 97, 108, 115, 101] := by decide
theorem take_len_le {α : Type} {xs : List α} {i : Nat} (hi : i ≤ xs.length) : (xs.take i).length = i := by rw [List.length_take]; omega
/-- printTest() of true and false -/
theorem r_printConX (hd : 2 ≤ d) {t : Int} {out : List Nat} (ht : 0 ≤ t ∧ t < 360) (hop : gd (S.2.1 18) t = 7 ∨ gd (S.2.1 18) t = 8) (hP : ptR (S.2.1 48) (S.1 49) out) (hl : out.length + 5 ≤ 1000) : RM l G d M_Mo_printTest [.ref o, .int (zI t)] o rf S (ppX S (out ++ (dCon (decide (gd (S.2.1 18) t = 7))).2.2)) := by
  obtain ⟨d, rfl⟩ : ∃ q, d = q + 1 := ⟨d - 1, by omega⟩
  intro H0 c n hR
  refine XM.of (by decide +kernel) (Nat.le_of_ble_eq_true rfl) ?_
  have hX : xonly H0 H0 RKs := xonly.rf
  rcases hop with hop | hop
  · have e : (dCon (decide (gd (S.2.1 18) t = 7))).2.2 = [116, 114, 117, 101] := by rw [decide_eq_true hop]; exact e_ctr
    rw [e]
    refine x_aload_n d_Mo_printTest_0 rfl rfl ?_
    refine x_get xf_Mo_54_Mo (Or.inl hR.1) (v := .ref (rf 18)) rfl d_Mo_printTest_1 ?_
    refine x_iload_n d_Mo_printTest_4 rfl ?_
    refine r_iald (i := 18) (us := (S.2.1 18)) rfl (by decide) hR rfl (by omega) (by show t < 360; omega) d_Mo_printTest_5 (fun hr5 => ?_)
    refine x_istore_n (L' := [_, _, _, _, _, _]) d_Mo_printTest_6 rfl rfl ?_
    refine x_iload_n d_Mo_printTest_7 rfl ?_
    refine x_bipush (v := zI 6) d_Mo_printTest_8 (by decide) ?_
    refine z_icmp_le (tgt := 33) d_Mo_printTest_10 (by decide) (by omega) (by omega) (fun hq => by omega) (fun _ => ?_)
    refine x_aload_n d_Mo_printTest_13 rfl rfl ?_
    refine x_iload_n d_Mo_printTest_14 rfl ?_
    refine x_bipush (v := zI 7) d_Mo_printTest_15 (by decide) ?_
    refine z_icmp_ne (tgt := 26) d_Mo_printTest_17 (by decide) (by omega) (by omega) (fun hq => by omega) (fun _ => ?_)
    refine x_ldc2 (v := 1702195828) xw_1582 d_Mo_printTest_20 ?_
    refine x_goto (tgt := 29) d_Mo_printTest_23 (by decide) ?_
    refine x_callV (As := [_]) (k := k_MarkerTextModel) rfl xcv_Mo_349_Mo (Or.inl hR.1) (RM.ap hR (r_putAllX (bs := [116, 114, 117, 101]) (by omega) (by decide +kernel) hP (by simp; omega))) rfl rfl (Nat.le_of_ble_eq_true rfl) d_Mo_printTest_29 ?_
    rintro v29 h cq nq ⟨S29, hR, hX29, rfl, rfl, us29, p29, rfl, rfl, hp29⟩
    replace hX := hX.tr hX29
    refine x_vret d_Mo_printTest_32 rfl ?_
    exact ⟨_, hR, hX, rfl, rfl, us29, p29, rfl, rfl, hp29⟩
  · have e : (dCon (decide (gd (S.2.1 18) t = 7))).2.2 = [102, 97, 108, 115, 101] := by rw [decide_eq_false (by omega)]; exact e_cfl
    rw [e]
    refine x_aload_n d_Mo_printTest_0 rfl rfl ?_
    refine x_get xf_Mo_54_Mo (Or.inl hR.1) (v := .ref (rf 18)) rfl d_Mo_printTest_1 ?_
    refine x_iload_n d_Mo_printTest_4 rfl ?_
    refine r_iald (i := 18) (us := (S.2.1 18)) rfl (by decide) hR rfl (by omega) (by show t < 360; omega) d_Mo_printTest_5 (fun hr5 => ?_)
    refine x_istore_n (L' := [_, _, _, _, _, _]) d_Mo_printTest_6 rfl rfl ?_
    refine x_iload_n d_Mo_printTest_7 rfl ?_
    refine x_bipush (v := zI 6) d_Mo_printTest_8 (by decide) ?_
    refine z_icmp_le (tgt := 33) d_Mo_printTest_10 (by decide) (by omega) (by omega) (fun hq => by omega) (fun _ => ?_)
    refine x_aload_n d_Mo_printTest_13 rfl rfl ?_
    refine x_iload_n d_Mo_printTest_14 rfl ?_
    refine x_bipush (v := zI 7) d_Mo_printTest_15 (by decide) ?_
    refine z_icmp_ne (tgt := 26) d_Mo_printTest_17 (by decide) (by omega) (by omega) (fun _ => ?_) (fun hq => by omega)
    refine x_ldc2 (v := 435728179558) xw_1583 d_Mo_printTest_26 ?_
    refine x_callV (As := [_]) (k := k_MarkerTextModel) rfl xcv_Mo_349_Mo (Or.inl hR.1) (RM.ap hR (r_putAllX (bs := [102, 97, 108, 115, 101]) (by omega) (by decide +kernel) hP (by simp; omega))) rfl rfl (Nat.le_of_ble_eq_true rfl) d_Mo_printTest_29 ?_
    rintro v29 h cq nq ⟨S29, hR, hX29, rfl, rfl, us29, p29, rfl, rfl, hp29⟩
    replace hX := hX.tr hX29
    refine x_vret d_Mo_printTest_32 rfl ?_
    exact ⟨_, hR, hX, rfl, rfl, us29, p29, rfl, rfl, hp29⟩
set_option maxHeartbeats 1000000 in
theorem r_printTestX (hd : 2 ≤ d) {t s : Int} {Ns : List NmT} {x : TsT} {out : List Nat} (hN : nmR Ns S) (h6 : Ns.length ≤ 6) (hs : 0 ≤ s ∧ s ≤ 8) (ht : 40 * s ≤ t ∧ t < 40 * s + 40) (hV : gd (S.2.1 26) s ≤ 64) (hx : tsR Ns S s t x) (hP : ptR (S.2.1 48) (S.1 49) out) (hl : out.length + x.2.2.2.length ≤ 1000) : RM l G d M_Mo_printTest [.ref o, .int (zI t)] o rf S (ppX S (out ++ x.2.2.2)) := by
  obtain ⟨d, rfl⟩ : ∃ q, d = q + 1 := ⟨d - 1, by omega⟩
  intro H0 c n hR
  refine XM.of (by decide +kernel) (Nat.le_of_ble_eq_true rfl) ?_
  have hX : xonly H0 H0 RKs := xonly.rf
  obtain ⟨nm, ws, g1, g2, g3, g4, ⟨g5, g6⟩, g7, ⟨g8, g9⟩, g10, g11⟩ := hx
  have hil := (List.getElem?_eq_some_iff.mp g1).1
  obtain ⟨m1, m2, m3, m4, m5, m6⟩ := hN.2 _ nm g1
  generalize hop : gd (S.2.1 18) t = op at *
  generalize hfE : gd (S.2.1 19) t = f at *
  rw [g11] at hl ⊢
  simp only [List.length_append] at hl
  -- the end
  have fin : ∀ (us : List Int) (p k : Int) (w4 w5 : Option Value), ptR us p (out ++ (nm.1 ++ (sgL op ++ vsT ws))) → RX l G M_Mo_printTest (d + 1) 177 [some (.ref o), some (.int (zI t)), some (.int (zI op)), some (.int (zI k)), w4, w5] [] H0 o rf c n (PS S us p) (ppX S (out ++ (nm.1 ++ (sgL op ++ (vsT ws ++ (if op = 6 then [93] else [])))))) := by
    intro us p k w4 w5 hp h hR hX
    by_cases ho : op = 6
    · rw [if_pos ho] at hl ⊢
      have hq : out ++ (nm.1 ++ (sgL op ++ (vsT ws ++ [93]))) = (out ++ (nm.1 ++ (sgL op ++ vsT ws))) ++ [93] := by simp only [List.append_assoc]
      rw [hq]
      refine x_aload_n d_Mo_printTest_177 rfl rfl ?_
      refine x_iload_n d_Mo_printTest_178 rfl ?_
      refine x_bipush (v := zI 6) d_Mo_printTest_179 (by decide) ?_
      refine z_icmp_ne (tgt := 190) d_Mo_printTest_181 (by decide) (by omega) (by omega) (fun hq => by omega) (fun _ => ?_)
      refine x_ldc2 (v := 93) xw_1595 d_Mo_printTest_184 ?_
      refine x_goto (tgt := 191) d_Mo_printTest_187 (by decide) ?_
      refine x_callV (As := [_]) (k := k_MarkerTextModel) rfl xcv_Mo_349_Mo (Or.inl hR.1) (RM.ap hR (r_putAllX (S := PS S us p) (bs := [93]) (by omega) (by decide +kernel) hp (by simp only [List.length_append]; simp at hl ⊢; omega))) rfl rfl (Nat.le_of_ble_eq_true rfl) d_Mo_printTest_191 ?_
      rintro v191 h cq nq ⟨S191, hR, hX191, rfl, rfl, us9, p9, rfl, rfl, hp9⟩
      replace hX := hX.tr hX191
      refine x_vret d_Mo_printTest_194 rfl ?_
      exact ⟨_, (by rw [PS_PS] at hR; exact hR), hX, rfl, rfl, us9, p9, rfl, rfl, hp9⟩
    · rw [if_neg ho] at hl ⊢
      refine x_aload_n d_Mo_printTest_177 rfl rfl ?_
      refine x_iload_n d_Mo_printTest_178 rfl ?_
      refine x_bipush (v := zI 6) d_Mo_printTest_179 (by decide) ?_
      refine z_icmp_ne (tgt := 190) d_Mo_printTest_181 (by decide) (by omega) (by omega) (fun _ => ?_) (fun hq => by omega)
      refine x_lconst (v := 0) d_Mo_printTest_190 (by decide) ?_
      refine x_callV (As := [_]) (k := k_MarkerTextModel) rfl xcv_Mo_349_Mo (Or.inl hR.1) (RM.ap hR (r_putAllX (S := PS S us p) (bs := []) (by omega) (by decide +kernel) hp (by simp only [List.length_append]; simp at hl ⊢; omega))) rfl rfl (Nat.le_of_ble_eq_true rfl) d_Mo_printTest_191 ?_
      rintro v191 h cq nq ⟨S191, hR, hX191, rfl, rfl, us9, p9, rfl, rfl, hp9⟩
      replace hX := hX.tr hX191
      refine x_vret d_Mo_printTest_194 rfl ?_
      refine ⟨_, (by rw [PS_PS] at hR; exact hR), hX, rfl, rfl, us9, p9, rfl, rfl, ?_⟩
      rw [List.append_nil] at hp9
      rw [List.append_nil]
      exact hp9
  -- the VALUES
  have hvl : ∀ k : Nat, k ≤ ws.length → (vsT (ws.take k)).length ≤ (vsT ws).length := by
    have key : ∀ (m k : Nat), k + m = ws.length → (vsT (ws.take k)).length ≤ (vsT ws).length := by
      intro m
      induction m with
      | zero => intro k hk; rw [show k = ws.length by omega, List.take_length]; exact Nat.le_refl _
      | succ m ih =>
        intro k hk
        have h1 := ih (k + 1) (by omega)
        rw [List.take_succ_eq_append_getElem (by omega)] at h1
        by_cases hz : ws.take k = []
        · rw [hz]; exact Nat.zero_le _
        · rw [vsT_app _ hz, List.length_append] at h1
          omega
    exact fun k hk => key (ws.length - k) k (by omega)
  have l86 : ∀ (K k : Nat) (kz : Int) (us : List Int) (p : Int) (w4 w5 : Option Value), kz = (k : Nat) → k ≤ ws.length → ptR us p (out ++ (nm.1 ++ (sgL op ++ vsT (ws.take k)))) → ws.length - k ≤ K → RX l G M_Mo_printTest (d + 1) 86 [some (.ref o), some (.int (zI t)), some (.int (zI op)), some (.int (zI kz)), w4, w5] [] H0 o rf c n (PS S us p) (ppX S (out ++ (nm.1 ++ (sgL op ++ (vsT ws ++ (if op = 6 then [93] else [])))))) := by
    intro K
    induction K with
    | zero =>
      intro k kz us p w4 w5 hkz hk hp hK h hR hX
      obtain rfl : k = ws.length := by omega
      rw [List.take_length] at hp
      refine x_iload_n d_Mo_printTest_86 rfl ?_
      refine x_aload_n d_Mo_printTest_87 rfl rfl ?_
      refine x_get xf_Mo_60_Mo (Or.inl hR.1) (v := .ref (rf 20)) rfl d_Mo_printTest_88 ?_
      refine x_iload_n d_Mo_printTest_91 rfl ?_
      refine r_iald (i := 20) (us := (S.2.1 20)) rfl (by decide) hR rfl (by omega) (by show t < 360; omega) d_Mo_printTest_92 (fun hr92 => ?_)
      refine z_icmp_ge (tgt := 177) d_Mo_printTest_93 (by decide) (by omega) (by omega) (fun _ => ?_) (fun hq => by omega)
      exact fin us p kz _ _ hp _ hR hX
    | succ K ih =>
      intro k kz us p w4 w5 hkz hk hp hK h hR hX
      by_cases hkm : k = ws.length
      · subst hkm
        rw [List.take_length] at hp
        refine x_iload_n d_Mo_printTest_86 rfl ?_
        refine x_aload_n d_Mo_printTest_87 rfl rfl ?_
        refine x_get xf_Mo_60_Mo (Or.inl hR.1) (v := .ref (rf 20)) rfl d_Mo_printTest_88 ?_
        refine x_iload_n d_Mo_printTest_91 rfl ?_
        refine r_iald (i := 20) (us := (S.2.1 20)) rfl (by decide) hR rfl (by omega) (by show t < 360; omega) d_Mo_printTest_92 (fun hr92 => ?_)
        refine z_icmp_ge (tgt := 177) d_Mo_printTest_93 (by decide) (by omega) (by omega) (fun _ => ?_) (fun hq => by omega)
        exact fin us p kz _ _ hp _ hR hX
      · have hkl : k < ws.length := by omega
        have hgu : ws[k]? = some (ws[k]'hkl) := List.getElem?_eq_getElem hkl
        obtain ⟨⟨v1, v2, v3⟩, v4⟩ := g10 k _ hgu
        have htk : ws.take (k + 1) = ws.take k ++ [ws[k]'hkl] := List.take_succ_eq_append_getElem hkl
        generalize ws[k]'hkl = u at *
        have hul := v4.2.2
        have hln1 := hvl (k + 1) (by omega)
        -- the text of this one
        have hsep : vsT (ws.take (k + 1)) = vsT (ws.take k) ++ ((if k = 0 then [] else [44, 32]) ++ (39 :: (u ++ [39]))) := by
          rw [htk]
          by_cases k0 : k = 0
          · subst k0
            rw [if_pos rfl, List.take_zero]
            rfl
          · rw [if_neg k0, vsT_app _ (fun z => by have := congrArg List.length z; rw [take_len_le (by omega)] at this; exact k0 this)]
            rfl
        have hln2 : (vsT (ws.take k)).length + ((if k = 0 then [] else [44, 32] : List Nat).length + (u.length + 2)) ≤ (vsT ws).length := by
          have := hln1
          rw [hsep] at this
          simp only [List.length_append, List.length_cons] at this
          simp at this
          omega
        have l130 : ∀ (K2 i : Nat) (iz : Int) (us2 : List Int) (q : Int), iz = (i : Nat) → i ≤ u.length → ptR us2 q (out ++ (nm.1 ++ (sgL op ++ (vsT (ws.take k) ++ ((if k = 0 then [] else [44, 32]) ++ (39 :: u.take i)))))) → u.length - i ≤ K2 → RX l G M_Mo_printTest (d + 1) 130 [some (.ref o), some (.int (zI t)), some (.int (zI op)), some (.int (zI kz)), some (.int (zI (f + kz))), some (.int (zI iz))] [] H0 o rf c n (PS S us2 q) (ppX S (out ++ (nm.1 ++ (sgL op ++ (vsT ws ++ (if op = 6 then [93] else [])))))) := by
          intro K2
          have out165 : ∀ (iz : Int) (us2 : List Int) (q : Int), ptR us2 q (out ++ (nm.1 ++ (sgL op ++ (vsT (ws.take k) ++ ((if k = 0 then [] else [44, 32]) ++ (39 :: u)))))) → RX l G M_Mo_printTest (d + 1) 165 [some (.ref o), some (.int (zI t)), some (.int (zI op)), some (.int (zI kz)), some (.int (zI (f + kz))), some (.int (zI iz))] [] H0 o rf c n (PS S us2 q) (ppX S (out ++ (nm.1 ++ (sgL op ++ (vsT ws ++ (if op = 6 then [93] else [])))))) := by
            intro iz us2 q hp2 h hR hX
            have hq2 := hp2.2.1
            have hlq : (out ++ (nm.1 ++ (sgL op ++ (vsT (ws.take k) ++ ((if k = 0 then [] else [44, 32]) ++ (39 :: u)))))).length < 1000 := by
              simp only [List.length_append, List.length_cons]
              omega
            have hnx := hp2.put (v := 39) (ch := 39) hlq rfl
            have he : (out ++ (nm.1 ++ (sgL op ++ (vsT (ws.take k) ++ ((if k = 0 then [] else [44, 32]) ++ (39 :: u)))))) ++ [39] = out ++ (nm.1 ++ (sgL op ++ vsT (ws.take (k + 1)))) := by
              rw [hsep]
              simp only [List.append_assoc, List.cons_append]
            rw [he] at hnx
            refine x_aload_n d_Mo_printTest_165 rfl rfl ?_
            refine x_bipush (v := zI 39) d_Mo_printTest_166 (by decide) ?_
            refine x_callV (As := [_]) (k := k_MarkerTextModel) rfl xcv_Mo_328_Mo (Or.inl hR.1) (RM.ap hR (r_put1 (S := PS S us2 q) (by decide) (by show 0 ≤ q ∧ q < 1000; omega))) rfl rfl (Nat.le_of_ble_eq_true rfl) d_Mo_printTest_168 ?_
            rintro v168 h cq nq ⟨S168, hR, hX168, rfl, rfl, rfl, rfl⟩
            replace hX := hX.tr hX168
            refine x_iinc (v := zI (kz + 1)) (L' := [_, _, _, _, _, _]) d_Mo_printTest_171 rfl (zI_add _ _) rfl rfl ?_
            refine x_goto (tgt := 86) d_Mo_printTest_174 (by decide) ?_
            exact ih (k + 1) (kz + 1) _ (q + 1) _ _ (by omega) (by omega) hnx (by omega) _ (by rw [PS_PS] at hR; exact hR) hX
          induction K2 with
          | zero =>
            intro i iz us2 q hiz hi hp2 hK2 h hR hX
            obtain rfl : i = u.length := by omega
            rw [List.take_length] at hp2
            rw [← hkz] at v2
            refine x_iload d_Mo_printTest_130 rfl ?_
            refine x_aload_n d_Mo_printTest_132 rfl rfl ?_
            refine x_get xf_Mo_72_Mo (Or.inl hR.1) (v := .ref (rf 24)) rfl d_Mo_printTest_133 ?_
            refine x_iload d_Mo_printTest_136 rfl ?_
            refine r_iald (i := 24) (us := (S.2.1 24)) rfl (by decide) hR rfl (by omega) (by show f + kz < 576; omega) d_Mo_printTest_138 (fun hr138 => ?_)
            refine z_icmp_ge (tgt := 165) d_Mo_printTest_139 (by decide) (by omega) (by omega) (fun _ => ?_) (fun hq => by omega)
            exact out165 iz us2 q hp2 _ hR hX
          | succ K2 ih2 =>
            intro i iz us2 q hiz hi hp2 hK2 h hR hX
            by_cases hie : i = u.length
            · subst hie
              rw [List.take_length] at hp2
              rw [← hkz] at v2
              refine x_iload d_Mo_printTest_130 rfl ?_
              refine x_aload_n d_Mo_printTest_132 rfl rfl ?_
              refine x_get xf_Mo_72_Mo (Or.inl hR.1) (v := .ref (rf 24)) rfl d_Mo_printTest_133 ?_
              refine x_iload d_Mo_printTest_136 rfl ?_
              refine r_iald (i := 24) (us := (S.2.1 24)) rfl (by decide) hR rfl (by omega) (by show f + kz < 576; omega) d_Mo_printTest_138 (fun hr138 => ?_)
              refine z_icmp_ge (tgt := 165) d_Mo_printTest_139 (by decide) (by omega) (by omega) (fun _ => ?_) (fun hq => by omega)
              exact out165 iz us2 q hp2 _ hR hX
            · have hil2 : i < u.length := by omega
              have v3i := v3 i hil2
              rw [← hkz, ← hiz] at v3i
              rw [← hkz] at v2
              have hq2 := hp2.2.1
              have hlq : (out ++ (nm.1 ++ (sgL op ++ (vsT (ws.take k) ++ ((if k = 0 then [] else [44, 32]) ++ (39 :: u.take i)))))).length < 1000 := by
                simp only [List.length_append, List.length_cons, take_len_le hi]
                omega
              have hnx := hp2.put (v := gd (S.2.1 23) (11 * (f + kz) + iz)) (ch := u.getD i 0) hlq v3i
              have he : (out ++ (nm.1 ++ (sgL op ++ (vsT (ws.take k) ++ ((if k = 0 then [] else [44, 32]) ++ (39 :: u.take i)))))) ++ [u.getD i 0] = out ++ (nm.1 ++ (sgL op ++ (vsT (ws.take k) ++ ((if k = 0 then [] else [44, 32]) ++ (39 :: u.take (i + 1)))))) := by
                have eg : u.getD i 0 = u[i] := by rw [List.getD_eq_getElem?_getD, List.getElem?_eq_getElem hil2]; rfl
                rw [List.take_succ_eq_append_getElem hil2, eg]
                simp only [List.append_assoc, List.cons_append]
              rw [he] at hnx
              refine x_iload d_Mo_printTest_130 rfl ?_
              refine x_aload_n d_Mo_printTest_132 rfl rfl ?_
              refine x_get xf_Mo_72_Mo (Or.inl hR.1) (v := .ref (rf 24)) rfl d_Mo_printTest_133 ?_
              refine x_iload d_Mo_printTest_136 rfl ?_
              refine r_iald (i := 24) (us := (S.2.1 24)) rfl (by decide) hR rfl (by omega) (by show f + kz < 576; omega) d_Mo_printTest_138 (fun hr138 => ?_)
              refine z_icmp_ge (tgt := 165) d_Mo_printTest_139 (by decide) (by omega) (by omega) (fun hq => by omega) (fun _ => ?_)
              refine x_aload_n d_Mo_printTest_142 rfl rfl ?_
              refine x_aload_n d_Mo_printTest_143 rfl rfl ?_
              refine x_get xf_Mo_69_Mo (Or.inl hR.1) (v := .ref (rf 23)) rfl d_Mo_printTest_144 ?_
              refine x_bipush (v := zI 11) d_Mo_printTest_147 (by decide) ?_
              refine x_iload d_Mo_printTest_149 rfl ?_
              refine z_imul d_Mo_printTest_151 ?_
              refine x_iload d_Mo_printTest_152 rfl ?_
              refine z_iadd d_Mo_printTest_154 ?_
              refine r_iald (i := 23) (us := (S.2.1 23)) rfl (by decide) hR rfl (by omega) (by show 11 * (f + kz) + iz < 6336; omega) d_Mo_printTest_155 (fun hr155 => ?_)
              refine x_callV (As := [_]) (k := k_MarkerTextModel) rfl xcv_Mo_328_Mo (Or.inl hR.1) (RM.ap hR (r_put1 (S := PS S us2 q) hr155 (by show 0 ≤ q ∧ q < 1000; omega))) rfl rfl (Nat.le_of_ble_eq_true rfl) d_Mo_printTest_156 ?_
              rintro v156 h cq nq ⟨S156, hR, hX156, rfl, rfl, rfl, rfl⟩
              replace hX := hX.tr hX156
              refine x_iinc (v := zI (iz + 1)) (L' := [_, _, _, _, _, _]) d_Mo_printTest_159 rfl (zI_add _ _) rfl rfl ?_
              refine x_goto (tgt := 130) d_Mo_printTest_162 (by decide) ?_
              exact ih2 (i + 1) (iz + 1) _ (q + 1) (by omega) (by omega) hnx (by omega) _ (by rw [PS_PS] at hR; exact hR) hX
        have go : ∀ (us18 : List Int) (p18 : Int), ptR us18 p18 (out ++ (nm.1 ++ (sgL op ++ (vsT (ws.take k) ++ (if k = 0 then [] else [44, 32]))))) → 0 ≤ p18 ∧ p18 < 1000 ∧ ptR (se us18 p18 39) (p18 + 1) (out ++ (nm.1 ++ (sgL op ++ (vsT (ws.take k) ++ ((if k = 0 then [] else [44, 32]) ++ (39 :: u.take 0)))))) := by
          intro us18 p18 hp18
          have hq2 := hp18.2.1
          have hlq : (out ++ (nm.1 ++ (sgL op ++ (vsT (ws.take k) ++ (if k = 0 then [] else [44, 32]))))).length < 1000 := by
            simp only [List.length_append]
            omega
          refine ⟨by omega, by omega, ?_⟩
          have hnx := hp18.put (v := 39) (ch := 39) hlq rfl
          have he : (out ++ (nm.1 ++ (sgL op ++ (vsT (ws.take k) ++ (if k = 0 then [] else [44, 32]))))) ++ [39] = out ++ (nm.1 ++ (sgL op ++ (vsT (ws.take k) ++ ((if k = 0 then [] else [44, 32]) ++ (39 :: u.take 0))))) := by
            rw [List.take_zero]
            simp only [List.append_assoc]
          rw [he] at hnx
          exact hnx
        by_cases k0 : k = 0
        · have hp0 : ptR us p ((out ++ (nm.1 ++ (sgL op ++ (vsT (ws.take k) ++ (if k = 0 then [] else [44, 32])))))) := by
            rw [if_pos k0, List.append_nil]
            exact hp
          refine x_iload_n d_Mo_printTest_86 rfl ?_
          refine x_aload_n d_Mo_printTest_87 rfl rfl ?_
          refine x_get xf_Mo_60_Mo (Or.inl hR.1) (v := .ref (rf 20)) rfl d_Mo_printTest_88 ?_
          refine x_iload_n d_Mo_printTest_91 rfl ?_
          refine r_iald (i := 20) (us := (S.2.1 20)) rfl (by decide) hR rfl (by omega) (by show t < 360; omega) d_Mo_printTest_92 (fun hr92 => ?_)
          refine z_icmp_ge (tgt := 177) d_Mo_printTest_93 (by decide) (by omega) (by omega) (fun hq => by omega) (fun _ => ?_)
          refine x_aload_n d_Mo_printTest_96 rfl rfl ?_
          refine x_get xf_Mo_57_Mo (Or.inl hR.1) (v := .ref (rf 19)) rfl d_Mo_printTest_97 ?_
          refine x_iload_n d_Mo_printTest_100 rfl ?_
          refine r_iald (i := 19) (us := (S.2.1 19)) rfl (by decide) hR rfl (by omega) (by show t < 360; omega) d_Mo_printTest_101 (fun hr101 => ?_)
          refine x_iload_n d_Mo_printTest_102 rfl ?_
          rw [hfE] at *
          refine z_iadd d_Mo_printTest_103 ?_
          refine x_istore (L' := [_, _, _, _, _, _]) d_Mo_printTest_104 rfl rfl ?_
          refine x_aload_n d_Mo_printTest_106 rfl rfl ?_
          refine x_iload_n d_Mo_printTest_107 rfl ?_
          refine z_if_le (tgt := 117) d_Mo_printTest_108 (by decide) (by omega) (fun _ => ?_) (fun hq => by omega)
          refine x_lconst (v := 0) d_Mo_printTest_117 (by decide) ?_
          refine x_callV (As := [_]) (k := k_MarkerTextModel) rfl xcv_Mo_349_Mo (Or.inl hR.1) (RM.ap hR (r_putAllX (S := PS S us p) (bs := []) (by omega) (by decide +kernel) hp0 (by have := hp0.2.1; simp only [List.length_append, List.length_nil]; omega))) rfl rfl (Nat.le_of_ble_eq_true rfl) d_Mo_printTest_118 ?_
          rintro v118 h cq nq ⟨S118, hR, hX118, rfl, rfl, us18, p18, rfl, rfl, hp18⟩
          replace hX := hX.tr hX118
          rw [PS_PS] at hR
          rw [List.append_nil] at hp18
          obtain ⟨b1, b2, b3⟩ := go us18 p18 hp18
          refine x_aload_n d_Mo_printTest_121 rfl rfl ?_
          refine x_bipush (v := zI 39) d_Mo_printTest_122 (by decide) ?_
          refine x_callV (As := [_]) (k := k_MarkerTextModel) rfl xcv_Mo_328_Mo (Or.inl hR.1) (RM.ap hR (r_put1 (S := PS S us18 p18) (by decide) (by show 0 ≤ p18 ∧ p18 < 1000; omega))) rfl rfl (Nat.le_of_ble_eq_true rfl) d_Mo_printTest_124 ?_
          rintro v124 h cq nq ⟨S124, hR, hX124, rfl, rfl, rfl, rfl⟩
          replace hX := hX.tr hX124
          refine x_iconst (v := zI 0) d_Mo_printTest_127 (by decide) ?_
          refine x_istore (L' := [_, _, _, _, _, _]) d_Mo_printTest_128 rfl rfl ?_
          exact l130 u.length 0 0 _ (p18 + 1) rfl (by omega) b3 (by omega) _ (by rw [PS_PS] at hR; exact hR) hX
        · refine x_iload_n d_Mo_printTest_86 rfl ?_
          refine x_aload_n d_Mo_printTest_87 rfl rfl ?_
          refine x_get xf_Mo_60_Mo (Or.inl hR.1) (v := .ref (rf 20)) rfl d_Mo_printTest_88 ?_
          refine x_iload_n d_Mo_printTest_91 rfl ?_
          refine r_iald (i := 20) (us := (S.2.1 20)) rfl (by decide) hR rfl (by omega) (by show t < 360; omega) d_Mo_printTest_92 (fun hr92 => ?_)
          refine z_icmp_ge (tgt := 177) d_Mo_printTest_93 (by decide) (by omega) (by omega) (fun hq => by omega) (fun _ => ?_)
          refine x_aload_n d_Mo_printTest_96 rfl rfl ?_
          refine x_get xf_Mo_57_Mo (Or.inl hR.1) (v := .ref (rf 19)) rfl d_Mo_printTest_97 ?_
          refine x_iload_n d_Mo_printTest_100 rfl ?_
          refine r_iald (i := 19) (us := (S.2.1 19)) rfl (by decide) hR rfl (by omega) (by show t < 360; omega) d_Mo_printTest_101 (fun hr101 => ?_)
          refine x_iload_n d_Mo_printTest_102 rfl ?_
          rw [hfE] at *
          refine z_iadd d_Mo_printTest_103 ?_
          refine x_istore (L' := [_, _, _, _, _, _]) d_Mo_printTest_104 rfl rfl ?_
          refine x_aload_n d_Mo_printTest_106 rfl rfl ?_
          refine x_iload_n d_Mo_printTest_107 rfl ?_
          refine z_if_le (tgt := 117) d_Mo_printTest_108 (by decide) (by omega) (fun hq => by omega) (fun _ => ?_)
          refine x_ldc2 (v := 8236) xw_1594 d_Mo_printTest_111 ?_
          refine x_goto (tgt := 118) d_Mo_printTest_114 (by decide) ?_
          refine x_callV (As := [_]) (k := k_MarkerTextModel) rfl xcv_Mo_349_Mo (Or.inl hR.1) (RM.ap hR (r_putAllX (S := PS S us p) (bs := [44, 32]) (by omega) (by decide +kernel) hp (by rw [if_neg k0] at hln2; simp only [List.length_append, List.length_cons, List.length_nil] at hln2 ⊢; omega))) rfl rfl (Nat.le_of_ble_eq_true rfl) d_Mo_printTest_118 ?_
          rintro v118 h cq nq ⟨S118, hR, hX118, rfl, rfl, us18, p18, rfl, rfl, hp18⟩
          replace hX := hX.tr hX118
          rw [PS_PS] at hR
          have hp18' : ptR us18 p18 (out ++ (nm.1 ++ (sgL op ++ (vsT (ws.take k) ++ (if k = 0 then [] else [44, 32]))))) := by rw [if_neg k0]; simp only [List.append_assoc] at hp18 ⊢; exact hp18
          obtain ⟨b1, b2, b3⟩ := go us18 p18 hp18'
          refine x_aload_n d_Mo_printTest_121 rfl rfl ?_
          refine x_bipush (v := zI 39) d_Mo_printTest_122 (by decide) ?_
          refine x_callV (As := [_]) (k := k_MarkerTextModel) rfl xcv_Mo_328_Mo (Or.inl hR.1) (RM.ap hR (r_put1 (S := PS S us18 p18) (by decide) (by show 0 ≤ p18 ∧ p18 < 1000; omega))) rfl rfl (Nat.le_of_ble_eq_true rfl) d_Mo_printTest_124 ?_
          rintro v124 h cq nq ⟨S124, hR, hX124, rfl, rfl, rfl, rfl⟩
          replace hX := hX.tr hX124
          refine x_iconst (v := zI 0) d_Mo_printTest_127 (by decide) ?_
          refine x_istore (L' := [_, _, _, _, _, _]) d_Mo_printTest_128 rfl rfl ?_
          exact l130 u.length 0 0 _ (p18 + 1) rfl (by omega) b3 (by omega) _ (by rw [PS_PS] at hR; exact hR) hX
  -- the operator
  have out76 : ∀ (us : List Int) (p i : Int), ptR us p (out ++ nm.1) → RX l G M_Mo_printTest (d + 1) 76 [some (.ref o), some (.int (zI t)), some (.int (zI op)), some (.int (zI i)), none, none] [] H0 o rf c n (PS S us p) (ppX S (out ++ (nm.1 ++ (sgL op ++ (vsT ws ++ (if op = 6 then [93] else [])))))) := by
    intro us p i hp h hR hX
    refine x_aload_n d_Mo_printTest_76 rfl rfl ?_
    refine x_iload_n d_Mo_printTest_77 rfl ?_
    refine x_callS (As := [_]) xcs_Mo_353 (r_signX g3) rfl rfl (Nat.le_of_ble_eq_true rfl) d_Mo_printTest_78 ?_
    rintro v78 h cq nq ⟨rfl, rfl, rfl, x78, rfl, hx78⟩
    refine x_callV (As := [_]) (k := k_MarkerTextModel) rfl xcv_Mo_349_Mo (Or.inl hR.1) (RM.ap hR (r_putAllX (S := PS S us p) (bs := sgL op) (by omega) hx78 hp (by simp only [List.length_append]; omega))) rfl rfl (Nat.le_of_ble_eq_true rfl) d_Mo_printTest_81 ?_
    rintro v81 h cq nq ⟨S81, hR, hX81, rfl, rfl, us81, p81, rfl, rfl, hp81⟩
    replace hX := hX.tr hX81
    refine x_iconst (v := zI 0) d_Mo_printTest_84 (by decide) ?_
    refine x_istore_n (L' := [_, _, _, _, _, _]) d_Mo_printTest_85 rfl rfl ?_
    refine l86 ws.length 0 0 us81 p81 _ _ rfl (by omega) ?_ (by omega) _ (by rw [PS_PS] at hR; exact hR) hX
    rw [List.take_zero]
    simp only [vsT, List.append_nil, List.append_assoc] at hp81 ⊢
    exact hp81
  -- the name
  have l35 : ∀ (K i : Nat) (iz : Int) (us : List Int) (p : Int), iz = (i : Nat) → i ≤ nm.1.length → ptR us p (out ++ nm.1.take i) → nm.1.length - i ≤ K → RX l G M_Mo_printTest (d + 1) 35 [some (.ref o), some (.int (zI t)), some (.int (zI op)), some (.int (zI iz)), none, none] [] H0 o rf c n (PS S us p) (ppX S (out ++ (nm.1 ++ (sgL op ++ (vsT ws ++ (if op = 6 then [93] else [])))))) := by
    intro K
    induction K with
    | zero =>
      intro i iz us p hiz hi hp hK h hR hX
      obtain rfl : i = nm.1.length := by omega
      rw [List.take_length] at hp
      refine x_iload_n d_Mo_printTest_35 rfl ?_
      refine x_aload_n d_Mo_printTest_36 rfl rfl ?_
      refine x_get xf_Mo_16_Mo (Or.inl hR.1) (v := .ref (rf 5)) rfl d_Mo_printTest_37 ?_
      refine x_aload_n d_Mo_printTest_40 rfl rfl ?_
      refine x_get xf_Mo_51_Mo (Or.inl hR.1) (v := .ref (rf 17)) rfl d_Mo_printTest_41 ?_
      refine x_iload_n d_Mo_printTest_44 rfl ?_
      refine r_iald (i := 17) (us := (S.2.1 17)) rfl (by decide) hR rfl (by omega) (by show t < 360; omega) d_Mo_printTest_45 (fun hr45 => ?_)
      rw [g2]
      refine r_iald (i := 5) (us := (S.2.1 5)) rfl (by decide) hR rfl (by omega) (by show ((x.1 : Nat) : Int) < 6; omega) d_Mo_printTest_46 (fun hr46 => ?_)
      refine z_icmp_ge (tgt := 76) d_Mo_printTest_47 (by decide) (by omega) (by omega) (fun _ => ?_) (fun hq => by omega)
      exact out76 us p iz hp _ hR hX
    | succ K ih =>
      intro i iz us p hiz hi hp hK h hR hX
      by_cases hie : i = nm.1.length
      · subst hie
        rw [List.take_length] at hp
        refine x_iload_n d_Mo_printTest_35 rfl ?_
        refine x_aload_n d_Mo_printTest_36 rfl rfl ?_
        refine x_get xf_Mo_16_Mo (Or.inl hR.1) (v := .ref (rf 5)) rfl d_Mo_printTest_37 ?_
        refine x_aload_n d_Mo_printTest_40 rfl rfl ?_
        refine x_get xf_Mo_51_Mo (Or.inl hR.1) (v := .ref (rf 17)) rfl d_Mo_printTest_41 ?_
        refine x_iload_n d_Mo_printTest_44 rfl ?_
        refine r_iald (i := 17) (us := (S.2.1 17)) rfl (by decide) hR rfl (by omega) (by show t < 360; omega) d_Mo_printTest_45 (fun hr45 => ?_)
        rw [g2]
        refine r_iald (i := 5) (us := (S.2.1 5)) rfl (by decide) hR rfl (by omega) (by show ((x.1 : Nat) : Int) < 6; omega) d_Mo_printTest_46 (fun hr46 => ?_)
        refine z_icmp_ge (tgt := 76) d_Mo_printTest_47 (by decide) (by omega) (by omega) (fun _ => ?_) (fun hq => by omega)
        exact out76 us p iz hp _ hR hX
      · have hil2 : i < nm.1.length := by omega
        have m3i := m3 i hil2
        rw [← hiz] at m3i
        have hq2 := hp.2.1
        have hlq : (out ++ nm.1.take i).length < 1000 := by
          rw [List.length_append, take_len_le hi]
          omega
        have hnx := hp.put (v := gd (S.2.1 4) (8 * ((x.1 : Nat) : Int) + iz)) (ch := nm.1.getD i 0) hlq m3i
        have he : (out ++ nm.1.take i) ++ [nm.1.getD i 0] = out ++ nm.1.take (i + 1) := by
          have eg : nm.1.getD i 0 = nm.1[i] := by rw [List.getD_eq_getElem?_getD, List.getElem?_eq_getElem hil2]; rfl
          rw [List.take_succ_eq_append_getElem hil2, eg, List.append_assoc]
        rw [he] at hnx
        refine x_iload_n d_Mo_printTest_35 rfl ?_
        refine x_aload_n d_Mo_printTest_36 rfl rfl ?_
        refine x_get xf_Mo_16_Mo (Or.inl hR.1) (v := .ref (rf 5)) rfl d_Mo_printTest_37 ?_
        refine x_aload_n d_Mo_printTest_40 rfl rfl ?_
        refine x_get xf_Mo_51_Mo (Or.inl hR.1) (v := .ref (rf 17)) rfl d_Mo_printTest_41 ?_
        refine x_iload_n d_Mo_printTest_44 rfl ?_
        refine r_iald (i := 17) (us := (S.2.1 17)) rfl (by decide) hR rfl (by omega) (by show t < 360; omega) d_Mo_printTest_45 (fun hr45 => ?_)
        rw [g2]
        refine r_iald (i := 5) (us := (S.2.1 5)) rfl (by decide) hR rfl (by omega) (by show ((x.1 : Nat) : Int) < 6; omega) d_Mo_printTest_46 (fun hr46 => ?_)
        refine z_icmp_ge (tgt := 76) d_Mo_printTest_47 (by decide) (by omega) (by omega) (fun hq => by omega) (fun _ => ?_)
        refine x_aload_n d_Mo_printTest_50 rfl rfl ?_
        refine x_aload_n d_Mo_printTest_51 rfl rfl ?_
        refine x_get xf_Mo_13_Mo (Or.inl hR.1) (v := .ref (rf 4)) rfl d_Mo_printTest_52 ?_
        refine x_bipush (v := zI 8) d_Mo_printTest_55 (by decide) ?_
        refine x_aload_n d_Mo_printTest_57 rfl rfl ?_
        refine x_get xf_Mo_51_Mo (Or.inl hR.1) (v := .ref (rf 17)) rfl d_Mo_printTest_58 ?_
        refine x_iload_n d_Mo_printTest_61 rfl ?_
        refine r_iald (i := 17) (us := (S.2.1 17)) rfl (by decide) hR rfl (by omega) (by show t < 360; omega) d_Mo_printTest_62 (fun hr62 => ?_)
        rw [g2]
        refine z_imul d_Mo_printTest_63 ?_
        refine x_iload_n d_Mo_printTest_64 rfl ?_
        refine z_iadd d_Mo_printTest_65 ?_
        refine r_iald (i := 4) (us := (S.2.1 4)) rfl (by decide) hR rfl (by omega) (by show 8 * ((x.1 : Nat) : Int) + iz < 48; omega) d_Mo_printTest_66 (fun hr66 => ?_)
        refine x_callV (As := [_]) (k := k_MarkerTextModel) rfl xcv_Mo_328_Mo (Or.inl hR.1) (RM.ap hR (r_put1 (S := PS S us p) hr66 (by show 0 ≤ p ∧ p < 1000; omega))) rfl rfl (Nat.le_of_ble_eq_true rfl) d_Mo_printTest_67 ?_
        rintro v67 h cq nq ⟨S67, hR, hX67, rfl, rfl, rfl, rfl⟩
        replace hX := hX.tr hX67
        refine x_iinc (v := zI (iz + 1)) (L' := [_, _, _, _, _, _]) d_Mo_printTest_70 rfl (zI_add _ _) rfl rfl ?_
        refine x_goto (tgt := 35) d_Mo_printTest_73 (by decide) ?_
        exact ih (i + 1) (iz + 1) _ (p + 1) (by omega) (by omega) hnx (by omega) _ (by rw [PS_PS] at hR; exact hR) hX
  refine x_aload_n d_Mo_printTest_0 rfl rfl ?_
  refine x_get xf_Mo_54_Mo (Or.inl hR.1) (v := .ref (rf 18)) rfl d_Mo_printTest_1 ?_
  refine x_iload_n d_Mo_printTest_4 rfl ?_
  refine r_iald (i := 18) (us := (S.2.1 18)) rfl (by decide) hR rfl (by omega) (by show t < 360; omega) d_Mo_printTest_5 (fun hr5 => ?_)
  rw [hop]
  refine x_istore_n (L' := [_, _, _, _, _, _]) d_Mo_printTest_6 rfl rfl ?_
  refine x_iload_n d_Mo_printTest_7 rfl ?_
  refine x_bipush (v := zI 6) d_Mo_printTest_8 (by decide) ?_
  refine z_icmp_le (tgt := 33) d_Mo_printTest_10 (by decide) (by omega) (by omega) (fun _ => ?_) (fun hq => by omega)
  refine x_iconst (v := zI 0) d_Mo_printTest_33 (by decide) ?_
  refine x_istore_n (L' := [_, _, _, _, _, _]) d_Mo_printTest_34 rfl rfl ?_
  exact l35 nm.1.length 0 0 (S.2.1 48) (S.1 49) rfl (by omega) (by rw [List.take_zero, List.append_nil]; exact hP) (by omega) _ (by rw [PS_id]; exact hR) hX
end RH14
