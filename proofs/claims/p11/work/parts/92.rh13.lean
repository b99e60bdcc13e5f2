section

end
section RH13
variable {l : Launch} {G : XG} {h : XH} {c n d : Nat} {o : Nat} {rf : Nat → Nat} {S : MS}
/-- whether an operator takes an order -/
def cmpP (op q : Int) : Prop := (op = 0 ∧ q = 0) ∨ (op = 1 ∧ ¬ q = 0) ∨ (op = 2 ∧ q < 0) ∨ (op = 3 ∧ q ≤ 0) ∨ (op = 4 ∧ 0 < q) ∨ (op = 5 ∧ 0 ≤ q)
theorem r_comparesX {k q : Int} (hk : 0 ≤ k ∧ k ≤ 5) (hq : inR q) : XM l G d M_Mo_compares [.int (zI k), .int (zI q)] h c n (zP h c n (fun v => rBool v (cmpP k q))) := by
  refine XM.of (by decide +kernel) (Nat.le_of_ble_eq_true rfl) ?_
  unfold cmpP
  refine x_iload_n d_Mo_compares_0 rfl ?_
  by_cases hsw1_0 : k = 0
  · subst hsw1_0
    refine x_tableIn (tgt := 36) (off := 35) d_Mo_compares_1 (by decide) (by decide) (by decide) (by decide) ?_
    refine x_iload_n d_Mo_compares_36 rfl ?_
    refine z_if_ne (tgt := 44) d_Mo_compares_37 (by decide) (by omega) (fun hc37 => ?_) (fun hc37 => ?_)
    · refine x_iconst (v := zI 0) d_Mo_compares_44 (by decide) ?_
      refine x_zret d_Mo_compares_45 rfl (z_nb (by omega)) ?_
      exact ⟨rfl, rfl, rfl, 0, rfl, by omega⟩
    · refine x_iconst (v := zI 1) d_Mo_compares_40 (by decide) ?_
      refine x_goto (tgt := 45) d_Mo_compares_41 (by decide) ?_
      refine x_zret d_Mo_compares_45 rfl (z_nb (by omega)) ?_
      exact ⟨rfl, rfl, rfl, 1, rfl, by omega⟩
  by_cases hsw1_1 : k = 1
  · subst hsw1_1
    refine x_tableIn (tgt := 46) (off := 45) d_Mo_compares_1 (by decide) (by decide) (by decide) (by decide) ?_
    refine x_iload_n d_Mo_compares_46 rfl ?_
    refine z_if_eq (tgt := 54) d_Mo_compares_47 (by decide) (by omega) (fun hc47 => ?_) (fun hc47 => ?_)
    · refine x_iconst (v := zI 0) d_Mo_compares_54 (by decide) ?_
      refine x_zret d_Mo_compares_55 rfl (z_nb (by omega)) ?_
      exact ⟨rfl, rfl, rfl, 0, rfl, by omega⟩
    · refine x_iconst (v := zI 1) d_Mo_compares_50 (by decide) ?_
      refine x_goto (tgt := 55) d_Mo_compares_51 (by decide) ?_
      refine x_zret d_Mo_compares_55 rfl (z_nb (by omega)) ?_
      exact ⟨rfl, rfl, rfl, 1, rfl, by omega⟩
  by_cases hsw1_2 : k = 2
  · subst hsw1_2
    refine x_tableIn (tgt := 56) (off := 55) d_Mo_compares_1 (by decide) (by decide) (by decide) (by decide) ?_
    refine x_iload_n d_Mo_compares_56 rfl ?_
    refine z_if_ge (tgt := 64) d_Mo_compares_57 (by decide) (by omega) (fun hc57 => ?_) (fun hc57 => ?_)
    · refine x_iconst (v := zI 0) d_Mo_compares_64 (by decide) ?_
      refine x_zret d_Mo_compares_65 rfl (z_nb (by omega)) ?_
      exact ⟨rfl, rfl, rfl, 0, rfl, by omega⟩
    · refine x_iconst (v := zI 1) d_Mo_compares_60 (by decide) ?_
      refine x_goto (tgt := 65) d_Mo_compares_61 (by decide) ?_
      refine x_zret d_Mo_compares_65 rfl (z_nb (by omega)) ?_
      exact ⟨rfl, rfl, rfl, 1, rfl, by omega⟩
  by_cases hsw1_3 : k = 3
  · subst hsw1_3
    refine x_tableIn (tgt := 66) (off := 65) d_Mo_compares_1 (by decide) (by decide) (by decide) (by decide) ?_
    refine x_iload_n d_Mo_compares_66 rfl ?_
    refine z_if_gt (tgt := 74) d_Mo_compares_67 (by decide) (by omega) (fun hc67 => ?_) (fun hc67 => ?_)
    · refine x_iconst (v := zI 0) d_Mo_compares_74 (by decide) ?_
      refine x_zret d_Mo_compares_75 rfl (z_nb (by omega)) ?_
      exact ⟨rfl, rfl, rfl, 0, rfl, by omega⟩
    · refine x_iconst (v := zI 1) d_Mo_compares_70 (by decide) ?_
      refine x_goto (tgt := 75) d_Mo_compares_71 (by decide) ?_
      refine x_zret d_Mo_compares_75 rfl (z_nb (by omega)) ?_
      exact ⟨rfl, rfl, rfl, 1, rfl, by omega⟩
  by_cases hsw1_4 : k = 4
  · subst hsw1_4
    refine x_tableIn (tgt := 76) (off := 75) d_Mo_compares_1 (by decide) (by decide) (by decide) (by decide) ?_
    refine x_iload_n d_Mo_compares_76 rfl ?_
    refine z_if_le (tgt := 84) d_Mo_compares_77 (by decide) (by omega) (fun hc77 => ?_) (fun hc77 => ?_)
    · refine x_iconst (v := zI 0) d_Mo_compares_84 (by decide) ?_
      refine x_zret d_Mo_compares_85 rfl (z_nb (by omega)) ?_
      exact ⟨rfl, rfl, rfl, 0, rfl, by omega⟩
    · refine x_iconst (v := zI 1) d_Mo_compares_80 (by decide) ?_
      refine x_goto (tgt := 85) d_Mo_compares_81 (by decide) ?_
      refine x_zret d_Mo_compares_85 rfl (z_nb (by omega)) ?_
      exact ⟨rfl, rfl, rfl, 1, rfl, by omega⟩
  refine x_tableOut (tgt := 86) d_Mo_compares_1 (by rw [zI_ti (by omega)]; omega) (by decide) ?_
  refine x_iload_n d_Mo_compares_86 rfl ?_
  refine z_if_lt (tgt := 94) d_Mo_compares_87 (by decide) (by omega) (fun hc87 => ?_) (fun hc87 => ?_)
  · refine x_iconst (v := zI 0) d_Mo_compares_94 (by decide) ?_
    refine x_zret d_Mo_compares_95 rfl (z_nb (by omega)) ?_
    exact ⟨rfl, rfl, rfl, 0, rfl, by omega⟩
  · refine x_iconst (v := zI 1) d_Mo_compares_90 (by decide) ?_
    refine x_goto (tgt := 95) d_Mo_compares_91 (by decide) ?_
    refine x_zret d_Mo_compares_95 rfl (z_nb (by omega)) ?_
    exact ⟨rfl, rfl, rfl, 1, rfl, by omega⟩
abbrev bZ (b : Bool) : Int := if b then 1 else 0
theorem bZ_b (b : Bool) : bZ b = 0 ∨ bZ b = 1 := by cases b <;> decide
theorem bI_zI (b : Bool) : bI b = zI (bZ b) := by cases b <;> rfl
/-- a name's level, as the reference has it: of the ENVIRONMENT (0), of a CHOICE (1) -/
def evR (b : Int) (S : MS) (lv : Nat → Nat) (i : Nat) : Prop := (b = 0 ∧ ((gd (S.2.1 9) i = 0 ∧ lv i = 0) ∨ (gd (S.2.1 9) i = 1 ∧ lv i ≠ 0))) ∨ (b = 1 ∧ ((gd (S.2.1 40) i = 0 ∧ lv i = 0) ∨ (1 ≤ gd (S.2.1 40) i ∧ gd (S.2.1 40) i ≤ 1000 ∧ lv i ≠ 0)))
/-- how it compares with a VALUE -/
def orR (b : Int) (S : MS) (lv : Nat → Nat) (i : Nat) (v : Int) (V : Nat) : Prop := lv i ≠ 0 → (b = 0 ∧ (gl (S.2.2.1 10) i < gl (S.2.2.1 22) v ↔ lv i < V) ∧ (gl (S.2.2.1 10) i = gl (S.2.2.1 22) v ↔ lv i = V)) ∨ (b = 1 ∧ (0 ≤ gd (S.2.1 25) v ∧ gd (S.2.1 25) v ≤ 1000) ∧ (gd (S.2.1 40) i < gd (S.2.1 25) v ↔ lv i < V) ∧ (gd (S.2.1 40) i = gd (S.2.1 25) v ↔ lv i = V))
theorem acc_cmp {op q : Int} {L V : Nat} (ho : 0 ≤ op ∧ op ≤ 6) (hL : L ≠ 0) (h1 : q < 0 ↔ L < V) (h2 : q = 0 ↔ L = V) : acR op &&& tout L V ≠ 0 ↔ cmpP (if op = 6 then 0 else op) q := by
  have ht : tout L V = if L = V then 2 else if L < V then 1 else 4 := if_neg hL
  rw [ht]
  have ho' : op = 0 ∨ op = 1 ∨ op = 2 ∨ op = 3 ∨ op = 4 ∨ op = 5 ∨ op = 6 := by omega
  unfold cmpP
  by_cases e1 : L = V
  · have q0 := h2.mpr e1
    rw [if_pos e1]
    rcases ho' with rfl | rfl | rfl | rfl | rfl | rfl | rfl <;> simp [acR, q0]
  · rw [if_neg e1]
    have q0 : ¬ q = 0 := fun z => e1 (h2.mp z)
    by_cases e2 : L < V
    · have q1 := h1.mpr e2
      rw [if_pos e2]
      rcases ho' with rfl | rfl | rfl | rfl | rfl | rfl | rfl <;> simp [acR, q0] <;> omega
    · have q1 : ¬ q < 0 := fun z => e2 (h1.mp z)
      rw [if_neg e2]
      rcases ho' with rfl | rfl | rfl | rfl | rfl | rfl | rfl <;> simp [acR, q0] <;> omega
theorem acc_no {op : Int} {V : Nat} (ho : 0 ≤ op ∧ op ≤ 6) : acR op &&& tout 0 V ≠ 0 ↔ op = 1 := by
  have ht : tout 0 V = 8 := rfl
  rw [ht]
  have ho' : op = 0 ∨ op = 1 ∨ op = 2 ∨ op = 3 ∨ op = 4 ∨ op = 5 ∨ op = 6 := by omega
  rcases ho' with rfl | rfl | rfl | rfl | rfl | rfl | rfl <;> decide
theorem any_take {f : Nat → Bool} {vs : List Nat} {j : Nat} (hj : j < vs.length) : (vs.take (j + 1)).any f = ((vs.take j).any f || f (vs.getD j 0)) := by
  rw [List.take_succ_eq_append_getElem hj, List.any_append]
  have : vs.getD j 0 = vs[j] := by rw [List.getD_eq_getElem?_getD, List.getElem?_eq_getElem hj]; rfl
  rw [this]
  simp
theorem lg_lt {x y : Int64} : (lg_cmp x y).toInt < 0 ↔ x < y := by
  unfold lg_cmp
  by_cases h1 : x > y
  · rw [if_pos h1]
    have h1' : y.toInt < x.toInt := Int64.lt_iff_toInt_lt.mp h1
    constructor
    · intro z; exact absurd z (by decide)
    · intro z
      have := Int64.lt_iff_toInt_lt.mp z
      omega
  · rw [if_neg h1]
    have h1' : ¬ y.toInt < x.toInt := fun z => h1 (Int64.lt_iff_toInt_lt.mpr z)
    by_cases h2 : x = y
    · rw [if_pos h2]
      subst h2
      constructor
      · intro z; exact absurd z (by decide)
      · intro z
        have := Int64.lt_iff_toInt_lt.mp z
        omega
    · rw [if_neg h2]
      have h2' : ¬ x.toInt = y.toInt := fun z => h2 (Int64.toInt_inj.mp z)
      exact ⟨fun _ => Int64.lt_iff_toInt_lt.mpr (by omega), fun _ => by decide⟩
theorem lg_z {x y : Int64} (e : x = y) : (lg_cmp x y).toInt = 0 := by
  rw [(lg_cmp_eq x y).mpr e]
  rfl
set_option maxHeartbeats 1000000 in
theorem r_isTrueX {t b s V : Int} {lv : Nat → Nat} {Ns : List NmT} {x : TsT} (hd : 1 ≤ d) (hb : b = 0 ∨ b = 1) (hs : 0 ≤ s ∧ s ≤ 8) (ht : 40 * s ≤ t ∧ t < 40 * s + 40) (hV : V ≤ 64) (hT : tsOk S s V t) (hx : tsR Ns S s t x) (h6 : Ns.length ≤ 6) (hE : evR b S lv x.1) (hO : ∀ j : Nat, j < x.2.2.1.length → orR b S lv x.1 (gd (S.2.1 19) t + j) (x.2.2.1.getD j 0)) : RM l G d M_Mo_isTrue [.ref o, .int (zI t), .int (zI b)] o rf S (fun v S' => S' = S ∧ v = some (.int (zI (bZ (tst x lv))))) := by
  obtain ⟨d, rfl⟩ : ∃ q, d = q + 1 := ⟨d - 1, by omega⟩
  intro H0 c n hR
  refine XM.of (by decide +kernel) (Nat.le_of_ble_eq_true rfl) ?_
  have hX : xonly H0 H0 RKs := xonly.rf
  obtain ⟨t1, t2, t3, t4, t5, t6, t7⟩ := hT
  obtain ⟨nm, ws, g1, g2, g3, g4, ⟨g5, g6⟩, g7, g8, g10, g11⟩ := hx
  have hil := (List.getElem?_eq_some_iff.mp g1).1
  have hlen : x.2.2.1.length = ws.length := by rw [g7, List.length_map]
  have hwp : 0 < ws.length := by
    cases ws with
    | nil => exact absurd rfl g6
    | cons a r => simp
  generalize hop : gd (S.2.1 18) t = op at *
  by_cases hL : lv x.1 = 0
  · -- none
    have htst : tst x lv = decide (op = 1) := by
      unfold tst
      rw [hL, g4]
      have hall : ∀ v, (decide (acR op &&& tout 0 v ≠ 0)) = decide (op = 1) := fun v => decide_eq_decide.mpr (acc_no g3)
      simp only [hall]
      cases hq : x.2.2.1 with
      | nil => rw [hq] at hlen; simp at hlen; omega
      | cons a r => cases decide (op = 1) <;> simp
    have hz : zI (bZ (tst x lv)) = zI (if op = 1 then 1 else 0) := by
      rw [htst]
      by_cases e : op = 1
      · rw [decide_eq_true e, if_pos e]
        rfl
      · rw [decide_eq_false e, if_neg e]
        rfl
    rcases hE with ⟨rfl, hE⟩ | ⟨rfl, hE⟩
    · have hg : gd (S.2.1 9) x.1 = 0 := by rcases hE with ⟨q, -⟩ | ⟨-, q⟩; exact q; exact absurd hL q
      refine x_aload_n d_Mo_isTrue_0 rfl rfl ?_
      refine x_get xf_Mo_54_Mo (Or.inl hR.1) (v := .ref (rf 18)) rfl d_Mo_isTrue_1 ?_
      refine x_iload_n d_Mo_isTrue_4 rfl ?_
      refine r_iald (i := 18) (us := (S.2.1 18)) rfl (by decide) hR rfl (by omega) (by show t < 360; omega) d_Mo_isTrue_5 (fun hr5 => ?_)
      refine x_istore_n (L' := [_, _, _, _, _, _, _, _, _, _]) d_Mo_isTrue_6 rfl rfl ?_
      refine x_iload_n d_Mo_isTrue_7 rfl ?_
      refine x_bipush (v := zI 6) d_Mo_isTrue_8 (by decide) ?_
      refine z_icmp_le (tgt := 25) d_Mo_isTrue_10 (by decide) (by omega) (by omega) (fun _ => ?_) (fun hq => by omega)
      refine x_aload_n d_Mo_isTrue_25 rfl rfl ?_
      refine x_get xf_Mo_51_Mo (Or.inl hR.1) (v := .ref (rf 17)) rfl d_Mo_isTrue_26 ?_
      refine x_iload_n d_Mo_isTrue_29 rfl ?_
      refine r_iald (i := 17) (us := (S.2.1 17)) rfl (by decide) hR rfl (by omega) (by show t < 360; omega) d_Mo_isTrue_30 (fun hr30 => ?_)
      refine x_istore (L' := [_, _, _, _, _, _, _, _, _, _]) d_Mo_isTrue_31 rfl rfl ?_
      refine x_iload_n d_Mo_isTrue_33 rfl ?_
      refine z_if_eq (tgt := 55) d_Mo_isTrue_34 (by decide) (by omega) (fun _ => ?_) (fun hq => by omega)
      refine x_aload_n d_Mo_isTrue_55 rfl rfl ?_
      refine x_get xf_Mo_29_Mo (Or.inl hR.1) (v := .ref (rf 9)) rfl d_Mo_isTrue_56 ?_
      refine x_iload d_Mo_isTrue_59 rfl ?_
      refine r_zald (i := 9) (us := (S.2.1 9)) ⟨rfl, rfl⟩ (by decide) hR rfl (by omega) (by show gd (S.2.1 17) t < 6; omega) d_Mo_isTrue_61 (fun hr61 => ?_)
      refine x_istore (L' := [_, _, _, _, _, _, _, _, _, _]) d_Mo_isTrue_62 rfl rfl ?_
      refine x_iload d_Mo_isTrue_64 rfl ?_
      rw [g2] at *
      refine z_if_ne (tgt := 80) d_Mo_isTrue_66 (by decide) (by omega) (fun hq => by omega) (fun _ => ?_)
      refine x_iload_n d_Mo_isTrue_69 rfl ?_
      refine x_iconst (v := zI 1) d_Mo_isTrue_70 (by decide) ?_
      refine z_icmp_ne (tgt := 78) d_Mo_isTrue_71 (by decide) (by omega) (by omega) (fun hc71 => ?_) (fun hc71 => ?_)
      · refine x_iconst (v := zI 0) d_Mo_isTrue_78 (by decide) ?_
        refine x_zret d_Mo_isTrue_79 rfl (z_nb (by omega)) ?_
        exact ⟨_, hR, hX, rfl, rfl, rfl, by rw [hz]; first | (rw [if_pos (by omega)]) | (rw [if_neg (by omega)])⟩
      · refine x_iconst (v := zI 1) d_Mo_isTrue_74 (by decide) ?_
        refine x_goto (tgt := 79) d_Mo_isTrue_75 (by decide) ?_
        refine x_zret d_Mo_isTrue_79 rfl (z_nb (by omega)) ?_
        exact ⟨_, hR, hX, rfl, rfl, rfl, by rw [hz]; first | (rw [if_pos (by omega)]) | (rw [if_neg (by omega)])⟩
    · have hg : gd (S.2.1 40) x.1 = 0 := by rcases hE with ⟨q, -⟩ | ⟨-, -, q⟩; exact q; exact absurd hL q
      refine x_aload_n d_Mo_isTrue_0 rfl rfl ?_
      refine x_get xf_Mo_54_Mo (Or.inl hR.1) (v := .ref (rf 18)) rfl d_Mo_isTrue_1 ?_
      refine x_iload_n d_Mo_isTrue_4 rfl ?_
      refine r_iald (i := 18) (us := (S.2.1 18)) rfl (by decide) hR rfl (by omega) (by show t < 360; omega) d_Mo_isTrue_5 (fun hr5 => ?_)
      refine x_istore_n (L' := [_, _, _, _, _, _, _, _, _, _]) d_Mo_isTrue_6 rfl rfl ?_
      refine x_iload_n d_Mo_isTrue_7 rfl ?_
      refine x_bipush (v := zI 6) d_Mo_isTrue_8 (by decide) ?_
      refine z_icmp_le (tgt := 25) d_Mo_isTrue_10 (by decide) (by omega) (by omega) (fun _ => ?_) (fun hq => by omega)
      refine x_aload_n d_Mo_isTrue_25 rfl rfl ?_
      refine x_get xf_Mo_51_Mo (Or.inl hR.1) (v := .ref (rf 17)) rfl d_Mo_isTrue_26 ?_
      refine x_iload_n d_Mo_isTrue_29 rfl ?_
      refine r_iald (i := 17) (us := (S.2.1 17)) rfl (by decide) hR rfl (by omega) (by show t < 360; omega) d_Mo_isTrue_30 (fun hr30 => ?_)
      refine x_istore (L' := [_, _, _, _, _, _, _, _, _, _]) d_Mo_isTrue_31 rfl rfl ?_
      refine x_iload_n d_Mo_isTrue_33 rfl ?_
      refine z_if_eq (tgt := 55) d_Mo_isTrue_34 (by decide) (by omega) (fun hq => by omega) (fun _ => ?_)
      refine x_aload_n d_Mo_isTrue_37 rfl rfl ?_
      refine x_get xf_Mo_100_Mo (Or.inl hR.1) (v := .ref (rf 40)) rfl d_Mo_isTrue_38 ?_
      refine x_iload d_Mo_isTrue_41 rfl ?_
      refine r_iald (i := 40) (us := (S.2.1 40)) rfl (by decide) hR rfl (by omega) (by show gd (S.2.1 17) t < 6; omega) d_Mo_isTrue_43 (fun hr43 => ?_)
      rw [g2] at *
      refine z_if_le (tgt := 51) d_Mo_isTrue_44 (by decide) (by omega) (fun _ => ?_) (fun hq => by omega)
      refine x_iconst (v := zI 0) d_Mo_isTrue_51 (by decide) ?_
      refine x_goto (tgt := 62) d_Mo_isTrue_52 (by decide) ?_
      refine x_istore (L' := [_, _, _, _, _, _, _, _, _, _]) d_Mo_isTrue_62 rfl rfl ?_
      refine x_iload d_Mo_isTrue_64 rfl ?_
      refine z_if_ne (tgt := 80) d_Mo_isTrue_66 (by decide) (by omega) (fun hq => by omega) (fun _ => ?_)
      refine x_iload_n d_Mo_isTrue_69 rfl ?_
      refine x_iconst (v := zI 1) d_Mo_isTrue_70 (by decide) ?_
      refine z_icmp_ne (tgt := 78) d_Mo_isTrue_71 (by decide) (by omega) (by omega) (fun hc71 => ?_) (fun hc71 => ?_)
      · refine x_iconst (v := zI 0) d_Mo_isTrue_78 (by decide) ?_
        refine x_zret d_Mo_isTrue_79 rfl (z_nb (by omega)) ?_
        exact ⟨_, hR, hX, rfl, rfl, rfl, by rw [hz]; first | (rw [if_pos (by omega)]) | (rw [if_neg (by omega)])⟩
      · refine x_iconst (v := zI 1) d_Mo_isTrue_74 (by decide) ?_
        refine x_goto (tgt := 79) d_Mo_isTrue_75 (by decide) ?_
        refine x_zret d_Mo_isTrue_79 rfl (z_nb (by omega)) ?_
        exact ⟨_, hR, hX, rfl, rfl, rfl, by rw [hz]; first | (rw [if_pos (by omega)]) | (rw [if_neg (by omega)])⟩
  · -- a VALUE, or a GAP
    have lp : ∀ (k : Nat) (j : Nat) (jz i : Int) (hs' : Int) (w8 w9 : Option Value), jz = (j : Nat) → j ≤ ws.length → i = bZ ((x.2.2.1.take j).any (fun v => decide (x.2.1 &&& tout (lv x.1) v ≠ 0))) → ws.length - j ≤ k → RX l G M_Mo_isTrue (d + 1) 86 [some (.ref o), some (.int (zI t)), some (.int (zI b)), some (.int (zI op)), some (.int (zI (x.1 : Nat))), some (.int (zI hs')), some (.int (zI i)), some (.int (zI jz)), w8, w9] [] H0 o rf c n S (fun v S' => S' = S ∧ v = some (.int (zI (bZ (tst x lv))))) := by
      intro k
      induction k with
      | zero =>
        intro j jz i hs' w8 w9 hjz hj hi hk h hR hX
        have hje : j = x.2.2.1.length := by omega
        have hib : i = 0 ∨ i = 1 := by rw [hi]; exact bZ_b _
        refine x_iload d_Mo_isTrue_86 rfl ?_
        refine x_aload_n d_Mo_isTrue_88 rfl rfl ?_
        refine x_get xf_Mo_60_Mo (Or.inl hR.1) (v := .ref (rf 20)) rfl d_Mo_isTrue_89 ?_
        refine x_iload_n d_Mo_isTrue_92 rfl ?_
        refine r_iald (i := 20) (us := (S.2.1 20)) rfl (by decide) hR rfl (by omega) (by show t < 360; omega) d_Mo_isTrue_93 (fun hr93 => ?_)
        refine z_icmp_ge (tgt := 214) d_Mo_isTrue_94 (by decide) (by omega) (by omega) (fun _ => ?_) (fun hq => by omega)
        refine x_iload d_Mo_isTrue_214 rfl ?_
        refine x_zret d_Mo_isTrue_216 rfl (z_nb (by omega)) ?_
        exact ⟨_, hR, hX, rfl, rfl, rfl, by rw [hi, hje, List.take_length]; rfl⟩
      | succ k ih =>
        intro j jz i hs' w8 w9 hjz hj hi hk h hR hX
        have hib : i = 0 ∨ i = 1 := by rw [hi]; exact bZ_b _
        by_cases hje : j = ws.length
        · have hje' : j = x.2.2.1.length := by omega
          refine x_iload d_Mo_isTrue_86 rfl ?_
          refine x_aload_n d_Mo_isTrue_88 rfl rfl ?_
          refine x_get xf_Mo_60_Mo (Or.inl hR.1) (v := .ref (rf 20)) rfl d_Mo_isTrue_89 ?_
          refine x_iload_n d_Mo_isTrue_92 rfl ?_
          refine r_iald (i := 20) (us := (S.2.1 20)) rfl (by decide) hR rfl (by omega) (by show t < 360; omega) d_Mo_isTrue_93 (fun hr93 => ?_)
          refine z_icmp_ge (tgt := 214) d_Mo_isTrue_94 (by decide) (by omega) (by omega) (fun _ => ?_) (fun hq => by omega)
          refine x_iload d_Mo_isTrue_214 rfl ?_
          refine x_zret d_Mo_isTrue_216 rfl (z_nb (by omega)) ?_
          exact ⟨_, hR, hX, rfl, rfl, rfl, by rw [hi, hje', List.take_length]; rfl⟩
        · have hjl : j < x.2.2.1.length := by omega
          have hoj := hO j hjl hL
          have hat := any_take (f := fun v => decide (x.2.1 &&& tout (lv x.1) v ≠ 0)) hjl
          have j206 : ∀ (v9 i' v8 : Int), i' = bZ ((x.2.2.1.take (j + 1)).any (fun v => decide (x.2.1 &&& tout (lv x.1) v ≠ 0))) → RX l G M_Mo_isTrue (d + 1) 206 [some (.ref o), some (.int (zI t)), some (.int (zI b)), some (.int (zI op)), some (.int (zI (x.1 : Nat))), some (.int (zI hs')), some (.int (zI i)), some (.int (zI jz)), some (.int (zI v8)), some (.int (zI v9))] [.int (zI i')] H0 o rf c n S (fun v S' => S' = S ∧ v = some (.int (zI (bZ (tst x lv))))) := by
            intro v9 i' v8 hi' h hR hX
            refine x_istore (L' := [_, _, _, _, _, _, _, _, _, _]) d_Mo_isTrue_206 rfl rfl ?_
            refine x_iinc (v := zI (jz + 1)) (L' := [_, _, _, _, _, _, _, _, _, _]) d_Mo_isTrue_208 rfl (zI_add _ _) rfl rfl ?_
            refine x_goto (tgt := 86) d_Mo_isTrue_211 (by decide) ?_
            exact ih (j + 1) (jz + 1) i' hs' _ _ (by omega) (by omega) hi' (by omega) _ hR hX
          have j175 : ∀ (q v8 : Int), inR q → (q < 0 ↔ lv x.1 < x.2.2.1.getD j 0) → (q = 0 ↔ lv x.1 = x.2.2.1.getD j 0) → RX l G M_Mo_isTrue (d + 1) 175 [some (.ref o), some (.int (zI t)), some (.int (zI b)), some (.int (zI op)), some (.int (zI (x.1 : Nat))), some (.int (zI hs')), some (.int (zI i)), some (.int (zI jz)), some (.int (zI v8)), w9] [.int (zI q)] H0 o rf c n S (fun v S' => S' = S ∧ v = some (.int (zI (bZ (tst x lv))))) := by
            intro q v8 hq hq1 hq2 h hR hX
            have hac := acc_cmp (op := op) (q := q) g3 hL hq1 hq2
            rw [← g4] at hac
            have hcz : ∀ r : Int, ((r = 1 ∧ cmpP (if op = 6 then 0 else op) q) ∨ (r = 0 ∧ ¬ cmpP (if op = 6 then 0 else op) q)) → r = bZ (decide (x.2.1 &&& tout (lv x.1) (x.2.2.1.getD j 0) ≠ 0)) := by
              rintro r (⟨e, z⟩ | ⟨e, z⟩)
              · rw [decide_eq_true (hac.mpr z)]; exact e
              · rw [decide_eq_false (fun y => z (hac.mp y))]; exact e
            by_cases hi1 : i = 1
            · have hn : bZ ((x.2.2.1.take (j + 1)).any (fun v => decide (x.2.1 &&& tout (lv x.1) v ≠ 0))) = 1 := by
                rw [hat]
                rw [hi] at hi1
                cases hz : (x.2.2.1.take j).any (fun v => decide (x.2.1 &&& tout (lv x.1) v ≠ 0)) with
                | true => rfl
                | false => rw [hz] at hi1; exact absurd hi1 (by decide)
              refine x_istore (L' := [_, _, _, _, _, _, _, _, _, _]) d_Mo_isTrue_175 rfl rfl ?_
              refine x_iload d_Mo_isTrue_177 rfl ?_
              refine z_if_ne (tgt := 201) d_Mo_isTrue_179 (by decide) (by omega) (fun _ => ?_) (fun hq => by omega)
              refine x_iconst (v := zI 1) d_Mo_isTrue_201 (by decide) ?_
              refine x_goto (tgt := 206) d_Mo_isTrue_202 (by decide) ?_
              exact j206 _ 1 _ hn.symm _ hR hX
            · have hi0 : i = 0 := by omega
              have hn : bZ ((x.2.2.1.take (j + 1)).any (fun v => decide (x.2.1 &&& tout (lv x.1) v ≠ 0))) = bZ (decide (x.2.1 &&& tout (lv x.1) (x.2.2.1.getD j 0) ≠ 0)) := by
                rw [hat]
                rw [hi] at hi0
                cases hz : (x.2.2.1.take j).any (fun v => decide (x.2.1 &&& tout (lv x.1) v ≠ 0)) with
                | true => rw [hz] at hi0; exact absurd hi0 (by decide)
                | false => rfl
              by_cases h6o : op = 6
              · rw [if_pos h6o] at hcz
                refine x_istore (L' := [_, _, _, _, _, _, _, _, _, _]) d_Mo_isTrue_175 rfl rfl ?_
                refine x_iload d_Mo_isTrue_177 rfl ?_
                refine z_if_ne (tgt := 201) d_Mo_isTrue_179 (by decide) (by omega) (fun hq => by omega) (fun _ => ?_)
                refine x_iload_n d_Mo_isTrue_182 rfl ?_
                refine x_bipush (v := zI 6) d_Mo_isTrue_183 (by decide) ?_
                refine z_icmp_ne (tgt := 192) d_Mo_isTrue_185 (by decide) (by omega) (by omega) (fun hq => by omega) (fun _ => ?_)
                refine x_iconst (v := zI 0) d_Mo_isTrue_188 (by decide) ?_
                refine x_goto (tgt := 193) d_Mo_isTrue_189 (by decide) ?_
                refine x_iload d_Mo_isTrue_193 rfl ?_
                refine x_callS (As := [_, _]) xcs_Mo_274 (r_comparesX (by omega) hq) rfl rfl (Nat.le_of_ble_eq_true rfl) d_Mo_isTrue_195 ?_
                rintro v195 h cq nq ⟨rfl, rfl, rfl, r195, rfl, hr195⟩
                have hrz := hcz _ hr195
                have hrb : r195 = 0 ∨ r195 = 1 := by rw [hrz]; exact bZ_b _
                refine z_if_eq (tgt := 205) d_Mo_isTrue_198 (by decide) (by omega) (fun hc198 => ?_) (fun hc198 => ?_)
                · refine x_iconst (v := zI 0) d_Mo_isTrue_205 (by decide) ?_
                  exact j206 _ _ _ (by rw [hn, ← hrz]; omega) _ hR hX
                · refine x_iconst (v := zI 1) d_Mo_isTrue_201 (by decide) ?_
                  refine x_goto (tgt := 206) d_Mo_isTrue_202 (by decide) ?_
                  exact j206 _ _ _ (by rw [hn, ← hrz]; omega) _ hR hX
              · rw [if_neg h6o] at hcz
                refine x_istore (L' := [_, _, _, _, _, _, _, _, _, _]) d_Mo_isTrue_175 rfl rfl ?_
                refine x_iload d_Mo_isTrue_177 rfl ?_
                refine z_if_ne (tgt := 201) d_Mo_isTrue_179 (by decide) (by omega) (fun hq => by omega) (fun _ => ?_)
                refine x_iload_n d_Mo_isTrue_182 rfl ?_
                refine x_bipush (v := zI 6) d_Mo_isTrue_183 (by decide) ?_
                refine z_icmp_ne (tgt := 192) d_Mo_isTrue_185 (by decide) (by omega) (by omega) (fun _ => ?_) (fun hq => by omega)
                refine x_iload_n d_Mo_isTrue_192 rfl ?_
                refine x_iload d_Mo_isTrue_193 rfl ?_
                refine x_callS (As := [_, _]) xcs_Mo_274 (r_comparesX (by omega) hq) rfl rfl (Nat.le_of_ble_eq_true rfl) d_Mo_isTrue_195 ?_
                rintro v195 h cq nq ⟨rfl, rfl, rfl, r195, rfl, hr195⟩
                have hrz := hcz _ hr195
                have hrb : r195 = 0 ∨ r195 = 1 := by rw [hrz]; exact bZ_b _
                refine z_if_eq (tgt := 205) d_Mo_isTrue_198 (by decide) (by omega) (fun hc198 => ?_) (fun hc198 => ?_)
                · refine x_iconst (v := zI 0) d_Mo_isTrue_205 (by decide) ?_
                  exact j206 _ _ _ (by rw [hn, ← hrz]; omega) _ hR hX
                · refine x_iconst (v := zI 1) d_Mo_isTrue_201 (by decide) ?_
                  refine x_goto (tgt := 206) d_Mo_isTrue_202 (by decide) ?_
                  exact j206 _ _ _ (by rw [hn, ← hrz]; omega) _ hR hX
          rcases hoj with ⟨rfl, o1, o2⟩ | ⟨rfl, o0, o1, o2⟩
          · rw [← hjz] at o1 o2
            refine x_iload d_Mo_isTrue_86 rfl ?_
            refine x_aload_n d_Mo_isTrue_88 rfl rfl ?_
            refine x_get xf_Mo_60_Mo (Or.inl hR.1) (v := .ref (rf 20)) rfl d_Mo_isTrue_89 ?_
            refine x_iload_n d_Mo_isTrue_92 rfl ?_
            refine r_iald (i := 20) (us := (S.2.1 20)) rfl (by decide) hR rfl (by omega) (by show t < 360; omega) d_Mo_isTrue_93 (fun hr93 => ?_)
            refine z_icmp_ge (tgt := 214) d_Mo_isTrue_94 (by decide) (by omega) (by omega) (fun hq => by omega) (fun _ => ?_)
            refine x_aload_n d_Mo_isTrue_97 rfl rfl ?_
            refine x_get xf_Mo_57_Mo (Or.inl hR.1) (v := .ref (rf 19)) rfl d_Mo_isTrue_98 ?_
            refine x_iload_n d_Mo_isTrue_101 rfl ?_
            refine r_iald (i := 19) (us := (S.2.1 19)) rfl (by decide) hR rfl (by omega) (by show t < 360; omega) d_Mo_isTrue_102 (fun hr102 => ?_)
            refine x_iload d_Mo_isTrue_103 rfl ?_
            refine z_iadd d_Mo_isTrue_105 ?_
            refine x_istore (L' := [_, _, _, _, _, _, _, _, _, _]) d_Mo_isTrue_106 rfl rfl ?_
            refine x_iload_n d_Mo_isTrue_108 rfl ?_
            refine z_if_eq (tgt := 130) d_Mo_isTrue_109 (by decide) (by omega) (fun _ => ?_) (fun hq => by omega)
            refine x_aload_n d_Mo_isTrue_130 rfl rfl ?_
            refine x_get xf_Mo_33_Mo (Or.inl hR.1) (v := .ref (rf 10)) rfl d_Mo_isTrue_131 ?_
            refine x_iload d_Mo_isTrue_134 rfl ?_
            refine r_lald (i := 10) (us := (S.2.2.1 10)) rfl (by decide) hR rfl (by omega) (by show ((x.1 : Nat) : Int) < 6; omega) d_Mo_isTrue_136 ?_
            refine x_aload_n d_Mo_isTrue_137 rfl rfl ?_
            refine x_get xf_Mo_66_Mo (Or.inl hR.1) (v := .ref (rf 22)) rfl d_Mo_isTrue_138 ?_
            refine x_iload d_Mo_isTrue_141 rfl ?_
            refine r_lald (i := 22) (us := (S.2.2.1 22)) rfl (by decide) hR rfl (by omega) (by show gd (S.2.1 19) t + jz < 576; omega) d_Mo_isTrue_143 ?_
            refine x_lcmp d_Mo_isTrue_144 (x_zi ?_)
            have hr144 := inR_ti (lg_cmp (gl (S.2.2.1 10) ((x.1 : Nat) : Int)) (gl (S.2.2.1 22) ((gd (S.2.1 19) t) + jz)))
            refine z_if_ge (tgt := 152) d_Mo_isTrue_145 (by decide) (by omega) (fun hc145 => ?_) (fun hc145 => ?_)
            · refine x_aload_n d_Mo_isTrue_152 rfl rfl ?_
              refine x_get xf_Mo_33_Mo (Or.inl hR.1) (v := .ref (rf 10)) rfl d_Mo_isTrue_153 ?_
              refine x_iload d_Mo_isTrue_156 rfl ?_
              refine r_lald (i := 10) (us := (S.2.2.1 10)) rfl (by decide) hR rfl (by omega) (by show ((x.1 : Nat) : Int) < 6; omega) d_Mo_isTrue_158 ?_
              refine x_aload_n d_Mo_isTrue_159 rfl rfl ?_
              refine x_get xf_Mo_66_Mo (Or.inl hR.1) (v := .ref (rf 22)) rfl d_Mo_isTrue_160 ?_
              refine x_iload d_Mo_isTrue_163 rfl ?_
              refine r_lald (i := 22) (us := (S.2.2.1 22)) rfl (by decide) hR rfl (by omega) (by show gd (S.2.1 19) t + jz < 576; omega) d_Mo_isTrue_165 ?_
              refine x_lcmp d_Mo_isTrue_166 (x_zi ?_)
              have hr166 := inR_ti (lg_cmp (gl (S.2.2.1 10) ((x.1 : Nat) : Int)) (gl (S.2.2.1 22) ((gd (S.2.1 19) t) + jz)))
              refine z_if_le (tgt := 174) d_Mo_isTrue_167 (by decide) (by omega) (fun hc167 => ?_) (fun hc167 => ?_)
              · refine x_iconst (v := zI 0) d_Mo_isTrue_174 (by decide) ?_
                first | exact j175 (-1) _ (by decide) (by rw [← o1, ← lg_lt]; constructor <;> intro _ <;> omega) (by rw [← o2]; exact ⟨fun z => by omega, fun z => by have := lg_z z; omega⟩) _ hR hX | exact j175 1 _ (by decide) (by rw [← o1, ← lg_lt]; constructor <;> intro _ <;> omega) (by rw [← o2]; exact ⟨fun z => by omega, fun z => by have := lg_z z; omega⟩) _ hR hX | exact j175 0 _ (by decide) (by rw [← o1, ← lg_lt]; constructor <;> intro _ <;> omega) (by rw [← o2]; exact ⟨fun _ => lgz (by omega), fun _ => rfl⟩) _ hR hX
              · refine x_iconst (v := zI 1) d_Mo_isTrue_170 (by decide) ?_
                refine x_goto (tgt := 175) d_Mo_isTrue_171 (by decide) ?_
                first | exact j175 (-1) _ (by decide) (by rw [← o1, ← lg_lt]; constructor <;> intro _ <;> omega) (by rw [← o2]; exact ⟨fun z => by omega, fun z => by have := lg_z z; omega⟩) _ hR hX | exact j175 1 _ (by decide) (by rw [← o1, ← lg_lt]; constructor <;> intro _ <;> omega) (by rw [← o2]; exact ⟨fun z => by omega, fun z => by have := lg_z z; omega⟩) _ hR hX | exact j175 0 _ (by decide) (by rw [← o1, ← lg_lt]; constructor <;> intro _ <;> omega) (by rw [← o2]; exact ⟨fun _ => lgz (by omega), fun _ => rfl⟩) _ hR hX
            · refine x_iconst (v := zI (-1)) d_Mo_isTrue_148 (by decide) ?_
              refine x_goto (tgt := 175) d_Mo_isTrue_149 (by decide) ?_
              first | exact j175 (-1) _ (by decide) (by rw [← o1, ← lg_lt]; constructor <;> intro _ <;> omega) (by rw [← o2]; exact ⟨fun z => by omega, fun z => by have := lg_z z; omega⟩) _ hR hX | exact j175 1 _ (by decide) (by rw [← o1, ← lg_lt]; constructor <;> intro _ <;> omega) (by rw [← o2]; exact ⟨fun z => by omega, fun z => by have := lg_z z; omega⟩) _ hR hX | exact j175 0 _ (by decide) (by rw [← o1, ← lg_lt]; constructor <;> intro _ <;> omega) (by rw [← o2]; exact ⟨fun _ => lgz (by omega), fun _ => rfl⟩) _ hR hX
          · rw [← hjz] at o0 o1 o2
            have hcb : 1 ≤ gd (S.2.1 40) (x.1 : Nat) ∧ gd (S.2.1 40) (x.1 : Nat) ≤ 1000 := by
              rcases hE with ⟨z, -⟩ | ⟨-, ⟨-, z⟩ | ⟨z1, z2, -⟩⟩
              · omega
              · exact absurd z hL
              · exact ⟨z1, z2⟩
            refine x_iload d_Mo_isTrue_86 rfl ?_
            refine x_aload_n d_Mo_isTrue_88 rfl rfl ?_
            refine x_get xf_Mo_60_Mo (Or.inl hR.1) (v := .ref (rf 20)) rfl d_Mo_isTrue_89 ?_
            refine x_iload_n d_Mo_isTrue_92 rfl ?_
            refine r_iald (i := 20) (us := (S.2.1 20)) rfl (by decide) hR rfl (by omega) (by show t < 360; omega) d_Mo_isTrue_93 (fun hr93 => ?_)
            refine z_icmp_ge (tgt := 214) d_Mo_isTrue_94 (by decide) (by omega) (by omega) (fun hq => by omega) (fun _ => ?_)
            refine x_aload_n d_Mo_isTrue_97 rfl rfl ?_
            refine x_get xf_Mo_57_Mo (Or.inl hR.1) (v := .ref (rf 19)) rfl d_Mo_isTrue_98 ?_
            refine x_iload_n d_Mo_isTrue_101 rfl ?_
            refine r_iald (i := 19) (us := (S.2.1 19)) rfl (by decide) hR rfl (by omega) (by show t < 360; omega) d_Mo_isTrue_102 (fun hr102 => ?_)
            refine x_iload d_Mo_isTrue_103 rfl ?_
            refine z_iadd d_Mo_isTrue_105 ?_
            refine x_istore (L' := [_, _, _, _, _, _, _, _, _, _]) d_Mo_isTrue_106 rfl rfl ?_
            refine x_iload_n d_Mo_isTrue_108 rfl ?_
            refine z_if_eq (tgt := 130) d_Mo_isTrue_109 (by decide) (by omega) (fun hq => by omega) (fun _ => ?_)
            refine x_aload_n d_Mo_isTrue_112 rfl rfl ?_
            refine x_get xf_Mo_100_Mo (Or.inl hR.1) (v := .ref (rf 40)) rfl d_Mo_isTrue_113 ?_
            refine x_iload d_Mo_isTrue_116 rfl ?_
            refine r_iald (i := 40) (us := (S.2.1 40)) rfl (by decide) hR rfl (by omega) (by show ((x.1 : Nat) : Int) < 6; omega) d_Mo_isTrue_118 (fun hr118 => ?_)
            refine x_aload_n d_Mo_isTrue_119 rfl rfl ?_
            refine x_get xf_Mo_75_Mo (Or.inl hR.1) (v := .ref (rf 25)) rfl d_Mo_isTrue_120 ?_
            refine x_iload d_Mo_isTrue_123 rfl ?_
            refine r_iald (i := 25) (us := (S.2.1 25)) rfl (by decide) hR rfl (by omega) (by show gd (S.2.1 19) t + jz < 576; omega) d_Mo_isTrue_125 (fun hr125 => ?_)
            refine z_isub d_Mo_isTrue_126 ?_
            refine x_goto (tgt := 175) d_Mo_isTrue_127 (by decide) ?_
            exact j175 _ _ (by omega) (by rw [← o1]; omega) (by rw [← o2]; omega) _ hR hX
    have hn0 : bZ (([] : List Nat).any (fun v => decide (x.2.1 &&& tout (lv x.1) v ≠ 0))) = 0 := rfl
    rcases hE with ⟨rfl, hE⟩ | ⟨rfl, hE⟩
    · have hg : gd (S.2.1 9) x.1 = 1 := by rcases hE with ⟨-, q⟩ | ⟨q, -⟩; exact absurd q hL; exact q
      refine x_aload_n d_Mo_isTrue_0 rfl rfl ?_
      refine x_get xf_Mo_54_Mo (Or.inl hR.1) (v := .ref (rf 18)) rfl d_Mo_isTrue_1 ?_
      refine x_iload_n d_Mo_isTrue_4 rfl ?_
      refine r_iald (i := 18) (us := (S.2.1 18)) rfl (by decide) hR rfl (by omega) (by show t < 360; omega) d_Mo_isTrue_5 (fun hr5 => ?_)
      refine x_istore_n (L' := [_, _, _, _, _, _, _, _, _, _]) d_Mo_isTrue_6 rfl rfl ?_
      refine x_iload_n d_Mo_isTrue_7 rfl ?_
      refine x_bipush (v := zI 6) d_Mo_isTrue_8 (by decide) ?_
      refine z_icmp_le (tgt := 25) d_Mo_isTrue_10 (by decide) (by omega) (by omega) (fun _ => ?_) (fun hq => by omega)
      refine x_aload_n d_Mo_isTrue_25 rfl rfl ?_
      refine x_get xf_Mo_51_Mo (Or.inl hR.1) (v := .ref (rf 17)) rfl d_Mo_isTrue_26 ?_
      refine x_iload_n d_Mo_isTrue_29 rfl ?_
      refine r_iald (i := 17) (us := (S.2.1 17)) rfl (by decide) hR rfl (by omega) (by show t < 360; omega) d_Mo_isTrue_30 (fun hr30 => ?_)
      refine x_istore (L' := [_, _, _, _, _, _, _, _, _, _]) d_Mo_isTrue_31 rfl rfl ?_
      refine x_iload_n d_Mo_isTrue_33 rfl ?_
      refine z_if_eq (tgt := 55) d_Mo_isTrue_34 (by decide) (by omega) (fun _ => ?_) (fun hq => by omega)
      refine x_aload_n d_Mo_isTrue_55 rfl rfl ?_
      refine x_get xf_Mo_29_Mo (Or.inl hR.1) (v := .ref (rf 9)) rfl d_Mo_isTrue_56 ?_
      refine x_iload d_Mo_isTrue_59 rfl ?_
      refine r_zald (i := 9) (us := (S.2.1 9)) ⟨rfl, rfl⟩ (by decide) hR rfl (by omega) (by show gd (S.2.1 17) t < 6; omega) d_Mo_isTrue_61 (fun hr61 => ?_)
      rw [hop, g2]
      rw [g2] at hr61
      refine x_istore (L' := [_, _, _, _, _, _, _, _, _, _]) d_Mo_isTrue_62 rfl rfl ?_
      refine x_iload d_Mo_isTrue_64 rfl ?_
      refine z_if_ne (tgt := 80) d_Mo_isTrue_66 (by decide) (by omega) (fun _ => ?_) (fun hq => by omega)
      refine x_iconst (v := zI 0) d_Mo_isTrue_80 (by decide) ?_
      refine x_istore (L' := [_, _, _, _, _, _, _, _, _, _]) d_Mo_isTrue_81 rfl rfl ?_
      refine x_iconst (v := zI 0) d_Mo_isTrue_83 (by decide) ?_
      refine x_istore (L' := [_, _, _, _, _, _, _, _, _, _]) d_Mo_isTrue_84 rfl rfl ?_
      exact lp ws.length 0 0 0 _ _ _ rfl (by omega) hn0.symm (by omega) _ hR hX
    · have hg : 1 ≤ gd (S.2.1 40) x.1 := by rcases hE with ⟨-, q⟩ | ⟨q, -⟩; exact absurd q hL; exact q
      refine x_aload_n d_Mo_isTrue_0 rfl rfl ?_
      refine x_get xf_Mo_54_Mo (Or.inl hR.1) (v := .ref (rf 18)) rfl d_Mo_isTrue_1 ?_
      refine x_iload_n d_Mo_isTrue_4 rfl ?_
      refine r_iald (i := 18) (us := (S.2.1 18)) rfl (by decide) hR rfl (by omega) (by show t < 360; omega) d_Mo_isTrue_5 (fun hr5 => ?_)
      refine x_istore_n (L' := [_, _, _, _, _, _, _, _, _, _]) d_Mo_isTrue_6 rfl rfl ?_
      refine x_iload_n d_Mo_isTrue_7 rfl ?_
      refine x_bipush (v := zI 6) d_Mo_isTrue_8 (by decide) ?_
      refine z_icmp_le (tgt := 25) d_Mo_isTrue_10 (by decide) (by omega) (by omega) (fun _ => ?_) (fun hq => by omega)
      refine x_aload_n d_Mo_isTrue_25 rfl rfl ?_
      refine x_get xf_Mo_51_Mo (Or.inl hR.1) (v := .ref (rf 17)) rfl d_Mo_isTrue_26 ?_
      refine x_iload_n d_Mo_isTrue_29 rfl ?_
      refine r_iald (i := 17) (us := (S.2.1 17)) rfl (by decide) hR rfl (by omega) (by show t < 360; omega) d_Mo_isTrue_30 (fun hr30 => ?_)
      refine x_istore (L' := [_, _, _, _, _, _, _, _, _, _]) d_Mo_isTrue_31 rfl rfl ?_
      refine x_iload_n d_Mo_isTrue_33 rfl ?_
      refine z_if_eq (tgt := 55) d_Mo_isTrue_34 (by decide) (by omega) (fun hq => by omega) (fun _ => ?_)
      refine x_aload_n d_Mo_isTrue_37 rfl rfl ?_
      refine x_get xf_Mo_100_Mo (Or.inl hR.1) (v := .ref (rf 40)) rfl d_Mo_isTrue_38 ?_
      refine x_iload d_Mo_isTrue_41 rfl ?_
      refine r_iald (i := 40) (us := (S.2.1 40)) rfl (by decide) hR rfl (by omega) (by show gd (S.2.1 17) t < 6; omega) d_Mo_isTrue_43 (fun hr43 => ?_)
      rw [hop, g2]
      rw [g2] at hr43
      refine z_if_le (tgt := 51) d_Mo_isTrue_44 (by decide) (by omega) (fun hq => by omega) (fun _ => ?_)
      refine x_iconst (v := zI 1) d_Mo_isTrue_47 (by decide) ?_
      refine x_goto (tgt := 62) d_Mo_isTrue_48 (by decide) ?_
      refine x_istore (L' := [_, _, _, _, _, _, _, _, _, _]) d_Mo_isTrue_62 rfl rfl ?_
      refine x_iload d_Mo_isTrue_64 rfl ?_
      refine z_if_ne (tgt := 80) d_Mo_isTrue_66 (by decide) (by omega) (fun _ => ?_) (fun hq => by omega)
      refine x_iconst (v := zI 0) d_Mo_isTrue_80 (by decide) ?_
      refine x_istore (L' := [_, _, _, _, _, _, _, _, _, _]) d_Mo_isTrue_81 rfl rfl ?_
      refine x_iconst (v := zI 0) d_Mo_isTrue_83 (by decide) ?_
      refine x_istore (L' := [_, _, _, _, _, _, _, _, _, _]) d_Mo_isTrue_84 rfl rfl ?_
      exact lp ws.length 0 0 0 _ _ _ rfl (by omega) hn0.symm (by omega) _ hR hX
/-- how isHeld() ends, in full -/
abbrev ihX (S : MS) (b : Bool) : Option Value → MS → Prop := fun v S' => ∃ us : List Int, S' = sa S 41 us ∧ v = some (.int (zI (bZ b)))
/-- every test of a condition is as the levels say -/
def evC (b : Int) (S : MS) (lv : Nat → Nat) (s : Int) (tx : Int → Option TsT) : Prop := ∀ (q : Int) (x : TsT), 40 * s ≤ q → q < 40 * s + gd (S.2.1 21) s → tx q = some x → evR b S lv x.1 ∧ ∀ j : Nat, j < x.2.2.1.length → orR b S lv x.1 (gd (S.2.1 19) q + j) (x.2.2.1.getD j 0)
set_option maxHeartbeats 2000000 in
theorem r_isHeldX {s b : Int} {lv : Nat → Nat} {Ns : List NmT} {dn : Int → Den} {tx : Int → Option TsT} (hd : 2 ≤ d) (hb : b = 0 ∨ b = 1) (hs : 0 ≤ s ∧ s ≤ 8) (hC : cdOk S s) (hsl : slR Ns S s dn tx) (h6 : Ns.length ≤ 6) (hE : evC b S lv s tx) : RM l G d M_Mo_isHeld [.ref o, .int (zI s), .int (zI b)] o rf S (ihX S ((dn (gd (S.2.1 16) s)).2.1 lv)) := by
  obtain ⟨d, rfl⟩ : ∃ q, d = q + 1 := ⟨d - 1, by omega⟩
  intro H0 c n hR
  refine XM.of (by decide +kernel) (Nat.le_of_ble_eq_true rfl) ?_
  have hX : xonly H0 H0 RKs := xonly.rf
  obtain ⟨w, ⟨p1, p2, p3, p4, p5, p6, p7, p8, p9, p10⟩, q1, q2, q3⟩ := hC
  have l41 : (S.2.1 41).length = 128 := hR.len 41 (by decide)
  -- a test
  have hIT : ∀ (us : List Int) (q : Int), 40 * s ≤ q → q < 40 * s + gd (S.2.1 21) s → RM l G d M_Mo_isTrue [.ref o, .int (zI q), .int (zI b)] o rf (sa S 41 us) (fun v S' => S' = sa S 41 us ∧ ∃ r : Int, v = some (.int (zI r)) ∧ ((tx q = none ∧ r = bZ (decide (gd (S.2.1 18) q = 7))) ∨ ∃ x, tx q = some x ∧ r = bZ (tst x lv))) := by
    intro us q hq1 hq2
    rcases hsl.2.2.1 q hq1 hq2 with ⟨a1, a2, a3⟩ | ⟨x, a1, a2⟩
    · intro H1 c1 n1 hR1
      refine XM.of (by decide +kernel) (Nat.le_of_ble_eq_true rfl) ?_
      have hR := hR1
      have hX : xonly H1 H1 RKs := xonly.rf
      refine x_aload_n d_Mo_isTrue_0 rfl rfl ?_
      refine x_get xf_Mo_54_Mo (Or.inl hR.1) (v := .ref (rf 18)) rfl d_Mo_isTrue_1 ?_
      refine x_iload_n d_Mo_isTrue_4 rfl ?_
      refine r_iald (i := 18) (us := (S.2.1 18)) rfl (by decide) hR rfl (by omega) (by show q < 360; omega) d_Mo_isTrue_5 (fun hr5 => ?_)
      refine x_istore_n (L' := [_, _, _, _, _, _, _, _, _, _]) d_Mo_isTrue_6 rfl rfl ?_
      refine x_iload_n d_Mo_isTrue_7 rfl ?_
      refine x_bipush (v := zI 6) d_Mo_isTrue_8 (by decide) ?_
      refine z_icmp_le (tgt := 25) d_Mo_isTrue_10 (by decide) (by omega) (by omega) (fun hq => by omega) (fun _ => ?_)
      refine x_iload_n d_Mo_isTrue_13 rfl ?_
      refine x_bipush (v := zI 7) d_Mo_isTrue_14 (by decide) ?_
      refine z_icmp_ne (tgt := 23) d_Mo_isTrue_16 (by decide) (by omega) (by omega) (fun hc16 => ?_) (fun hc16 => ?_)
      · refine x_iconst (v := zI 0) d_Mo_isTrue_23 (by decide) ?_
        refine x_zret d_Mo_isTrue_24 rfl (z_nb (by omega)) ?_
        exact ⟨_, hR, hX, rfl, rfl, rfl, _, rfl, Or.inl ⟨a1, by first | (rw [decide_eq_true (by omega)]; rfl) | (rw [decide_eq_false (by omega)]; rfl)⟩⟩
      · refine x_iconst (v := zI 1) d_Mo_isTrue_19 (by decide) ?_
        refine x_goto (tgt := 24) d_Mo_isTrue_20 (by decide) ?_
        refine x_zret d_Mo_isTrue_24 rfl (z_nb (by omega)) ?_
        exact ⟨_, hR, hX, rfl, rfl, rfl, _, rfl, Or.inl ⟨a1, by first | (rw [decide_eq_true (by omega)]; rfl) | (rw [decide_eq_false (by omega)]; rfl)⟩⟩
    · obtain ⟨e1, e2⟩ := hE q x hq1 hq2 a1
      refine (r_isTrueX (S := sa S 41 us) (s := s) (V := gd (S.2.1 26) s) (by omega) hb hs (by omega) (by omega) (p8 q hq1 hq2) (a2.cong rfl rfl rfl rfl (Int.le_refl _) (fun _ _ _ => rfl) (fun _ _ _ => rfl) (fun _ _ _ => rfl)) h6 e1 e2).mono ?_
      rintro v S' ⟨rfl, rfl⟩
      exact ⟨rfl, _, rfl, Or.inr ⟨x, a1, rfl⟩⟩
  have lp : ∀ (k : Nat) (us : List Int) (i : Int) (w5 w6 w7 : Option Value), us.length = 128 → (∀ e : Int, 0 ≤ e → e < i → gd us e = bZ ((dn (128 * s + e)).2.1 lv)) → 0 ≤ i → i ≤ gd (S.2.1 15) s → gd (S.2.1 15) s - i ≤ k → RX l G M_Mo_isHeld (d + 1) 9 [some (.ref o), some (.int (zI s)), some (.int (zI b)), some (.int (zI (128 * s))), some (.int (zI i)), w5, w6, w7] [] H0 o rf c n (sa S 41 us) (ihX S ((dn (gd (S.2.1 16) s)).2.1 lv)) := by
    intro k
    induction k with
    | zero =>
      intro us i w5 w6 w7 hul hus hi1 hi2 hk h hR hX
      refine x_iload d_Mo_isHeld_9 rfl ?_
      refine x_aload_n d_Mo_isHeld_11 rfl rfl ?_
      refine x_get xf_Mo_45_Mo (Or.inl hR.1) (v := .ref (rf 15)) rfl d_Mo_isHeld_12 ?_
      refine x_iload_n d_Mo_isHeld_15 rfl ?_
      refine r_iald (i := 15) (us := (S.2.1 15)) rfl (by decide) hR rfl (by omega) (by show s < 9; omega) d_Mo_isHeld_16 (fun hr16 => ?_)
      refine z_icmp_ge (tgt := 212) d_Mo_isHeld_17 (by decide) (by omega) (by omega) (fun _ => ?_) (fun hq => by omega)
      refine x_aload_n d_Mo_isHeld_212 rfl rfl ?_
      refine x_get xf_Mo_103_Mo (Or.inl hR.1) (v := .ref (rf 41)) rfl d_Mo_isHeld_213 ?_
      refine x_aload_n d_Mo_isHeld_216 rfl rfl ?_
      refine x_get xf_Mo_48_Mo (Or.inl hR.1) (v := .ref (rf 16)) rfl d_Mo_isHeld_217 ?_
      refine x_iload_n d_Mo_isHeld_220 rfl ?_
      refine r_iald (i := 16) (us := (S.2.1 16)) rfl (by decide) hR rfl (by omega) (by show s < 9; omega) d_Mo_isHeld_221 (fun hr221 => ?_)
      refine x_iload_n d_Mo_isHeld_222 rfl ?_
      refine z_isub d_Mo_isHeld_223 ?_
      refine r_zald (i := 41) (us := us) ⟨rfl, rfl⟩ (by decide) hR rfl (by omega) (by show gd (S.2.1 16) s - 128 * s < 128; omega) d_Mo_isHeld_224 (fun hr224 => ?_)
      refine x_zret d_Mo_isHeld_225 rfl (z_nb (by omega)) ?_
      exact ⟨_, hR, hX, rfl, rfl, us, rfl, by rw [hus _ (by omega) (by omega), show 128 * s + (gd (S.2.1 16) s - 128 * s) = gd (S.2.1 16) s by omega]⟩
    | succ k ih =>
      intro us i w5 w6 w7 hul hus hi1 hi2 hk h hR hX
      by_cases hend : gd (S.2.1 15) s ≤ i
      · refine x_iload d_Mo_isHeld_9 rfl ?_
        refine x_aload_n d_Mo_isHeld_11 rfl rfl ?_
        refine x_get xf_Mo_45_Mo (Or.inl hR.1) (v := .ref (rf 15)) rfl d_Mo_isHeld_12 ?_
        refine x_iload_n d_Mo_isHeld_15 rfl ?_
        refine r_iald (i := 15) (us := (S.2.1 15)) rfl (by decide) hR rfl (by omega) (by show s < 9; omega) d_Mo_isHeld_16 (fun hr16 => ?_)
        refine z_icmp_ge (tgt := 212) d_Mo_isHeld_17 (by decide) (by omega) (by omega) (fun _ => ?_) (fun hq => by omega)
        refine x_aload_n d_Mo_isHeld_212 rfl rfl ?_
        refine x_get xf_Mo_103_Mo (Or.inl hR.1) (v := .ref (rf 41)) rfl d_Mo_isHeld_213 ?_
        refine x_aload_n d_Mo_isHeld_216 rfl rfl ?_
        refine x_get xf_Mo_48_Mo (Or.inl hR.1) (v := .ref (rf 16)) rfl d_Mo_isHeld_217 ?_
        refine x_iload_n d_Mo_isHeld_220 rfl ?_
        refine r_iald (i := 16) (us := (S.2.1 16)) rfl (by decide) hR rfl (by omega) (by show s < 9; omega) d_Mo_isHeld_221 (fun hr221 => ?_)
        refine x_iload_n d_Mo_isHeld_222 rfl ?_
        refine z_isub d_Mo_isHeld_223 ?_
        refine r_zald (i := 41) (us := us) ⟨rfl, rfl⟩ (by decide) hR rfl (by omega) (by show gd (S.2.1 16) s - 128 * s < 128; omega) d_Mo_isHeld_224 (fun hr224 => ?_)
        refine x_zret d_Mo_isHeld_225 rfl (z_nb (by omega)) ?_
        exact ⟨_, hR, hX, rfl, rfl, us, rfl, by rw [hus _ (by omega) (by omega), show 128 * s + (gd (S.2.1 16) s - 128 * s) = gd (S.2.1 16) s by omega]⟩
      · have j205 : ∀ (r7 r6 z : Int), z = bZ ((dn (128 * s + i)).2.1 lv) → RX l G M_Mo_isHeld (d + 1) 205 [some (.ref o), some (.int (zI s)), some (.int (zI b)), some (.int (zI (128 * s))), some (.int (zI i)), some (.int (zI (128 * s + i))), some (.int (zI r6)), some (.int (zI r7))] [.int (zI z), .int (zI i), .ref (rf 41)] H0 o rf c n (sa S 41 us) (ihX S ((dn (gd (S.2.1 16) s)).2.1 lv)) := by
          intro r7 r6 z hz h hR hX
          have hzb : z = 0 ∨ z = 1 := by rw [hz]; exact bZ_b _
          have hus' : ∀ e : Int, 0 ≤ e → e < i + 1 → gd (se us i z) e = bZ ((dn (128 * s + e)).2.1 lv) := by
            intro e he0 he1
            rw [gd_se_of hul (by omega) (by omega) he0]
            by_cases ee : e = i
            · rw [if_pos ee, ee]; exact hz
            · rw [if_neg ee]; exact hus e he0 (by omega)
          refine r_zast (i := 41) (us := us) rfl (by decide) hR hX rfl (by omega) (by show i < 128; omega) hzb d_Mo_isHeld_205 ?_
          intro h hR hX
          refine x_iinc (v := zI (i + 1)) (L' := [_, _, _, _, _, _, _, _]) d_Mo_isHeld_206 rfl (zI_add _ _) rfl rfl ?_
          refine x_goto (tgt := 9) d_Mo_isHeld_209 (by decide) ?_
          exact ih _ (i + 1) _ _ _ (by rw [se_len]; exact hul) hus' (by omega) (by omega) (by omega) _ (by rw [sa_sa] at hR; exact hR) hX
        rcases hsl.2.1 (128 * s + i) (by omega) (by omega) with ⟨k0, k1, k2⟩ | ⟨k0, k1, k2⟩ | ⟨⟨k0, k2⟩ | ⟨k0, k2⟩, k1, k3⟩
        · -- a test
          refine x_iload d_Mo_isHeld_9 rfl ?_
          refine x_aload_n d_Mo_isHeld_11 rfl rfl ?_
          refine x_get xf_Mo_45_Mo (Or.inl hR.1) (v := .ref (rf 15)) rfl d_Mo_isHeld_12 ?_
          refine x_iload_n d_Mo_isHeld_15 rfl ?_
          refine r_iald (i := 15) (us := (S.2.1 15)) rfl (by decide) hR rfl (by omega) (by show s < 9; omega) d_Mo_isHeld_16 (fun hr16 => ?_)
          refine z_icmp_ge (tgt := 212) d_Mo_isHeld_17 (by decide) (by omega) (by omega) (fun hq => by omega) (fun _ => ?_)
          refine x_iload_n d_Mo_isHeld_20 rfl ?_
          refine x_iload d_Mo_isHeld_21 rfl ?_
          refine z_iadd d_Mo_isHeld_23 ?_
          refine x_istore (L' := [_, _, _, _, _, _, _, _]) d_Mo_isHeld_24 rfl rfl ?_
          refine x_aload_n d_Mo_isHeld_26 rfl rfl ?_
          refine x_get xf_Mo_36_Mo (Or.inl hR.1) (v := .ref (rf 12)) rfl d_Mo_isHeld_27 ?_
          refine x_iload d_Mo_isHeld_30 rfl ?_
          refine r_iald (i := 12) (us := (S.2.1 12)) rfl (by decide) hR rfl (by omega) (by show 128 * s + i < 1152; omega) d_Mo_isHeld_32 (fun hr32 => ?_)
          refine z_if_eq (tgt := 57) d_Mo_isHeld_33 (by decide) (by omega) (fun _ => ?_) (fun hq => by omega)
          refine x_iconst (v := zI 0) d_Mo_isHeld_57 (by decide) ?_
          refine x_istore (L' := [_, _, _, _, _, _, _, _]) d_Mo_isHeld_58 rfl rfl ?_
          refine x_aload_n d_Mo_isHeld_60 rfl rfl ?_
          refine x_get xf_Mo_36_Mo (Or.inl hR.1) (v := .ref (rf 12)) rfl d_Mo_isHeld_61 ?_
          refine x_iload d_Mo_isHeld_64 rfl ?_
          refine r_iald (i := 12) (us := (S.2.1 12)) rfl (by decide) hR rfl (by omega) (by show 128 * s + i < 1152; omega) d_Mo_isHeld_66 (fun hr66 => ?_)
          refine x_iconst (v := zI 2) d_Mo_isHeld_67 (by decide) ?_
          refine z_icmp_eq (tgt := 82) d_Mo_isHeld_68 (by decide) (by omega) (by omega) (fun hq => by omega) (fun _ => ?_)
          refine x_aload_n d_Mo_isHeld_71 rfl rfl ?_
          refine x_get xf_Mo_36_Mo (Or.inl hR.1) (v := .ref (rf 12)) rfl d_Mo_isHeld_72 ?_
          refine x_iload d_Mo_isHeld_75 rfl ?_
          refine r_iald (i := 12) (us := (S.2.1 12)) rfl (by decide) hR rfl (by omega) (by show 128 * s + i < 1152; omega) d_Mo_isHeld_77 (fun hr77 => ?_)
          refine x_iconst (v := zI 3) d_Mo_isHeld_78 (by decide) ?_
          refine z_icmp_ne (tgt := 103) d_Mo_isHeld_79 (by decide) (by omega) (by omega) (fun _ => ?_) (fun hq => by omega)
          refine x_iconst (v := zI 0) d_Mo_isHeld_103 (by decide) ?_
          refine x_istore (L' := [_, _, _, _, _, _, _, _]) d_Mo_isHeld_104 rfl rfl ?_
          refine x_aload_n d_Mo_isHeld_106 rfl rfl ?_
          refine x_get xf_Mo_103_Mo (Or.inl hR.1) (v := .ref (rf 41)) rfl d_Mo_isHeld_107 ?_
          refine x_iload d_Mo_isHeld_110 rfl ?_
          refine x_aload_n d_Mo_isHeld_112 rfl rfl ?_
          refine x_get xf_Mo_36_Mo (Or.inl hR.1) (v := .ref (rf 12)) rfl d_Mo_isHeld_113 ?_
          refine x_iload d_Mo_isHeld_116 rfl ?_
          refine r_iald (i := 12) (us := (S.2.1 12)) rfl (by decide) hR rfl (by omega) (by show 128 * s + i < 1152; omega) d_Mo_isHeld_118 (fun hr118 => ?_)
          refine z_if_ne (tgt := 137) d_Mo_isHeld_119 (by decide) (by omega) (fun hq => by omega) (fun _ => ?_)
          refine x_aload_n d_Mo_isHeld_122 rfl rfl ?_
          refine x_aload_n d_Mo_isHeld_123 rfl rfl ?_
          refine x_get xf_Mo_39_Mo (Or.inl hR.1) (v := .ref (rf 13)) rfl d_Mo_isHeld_124 ?_
          refine x_iload d_Mo_isHeld_127 rfl ?_
          refine r_iald (i := 13) (us := (S.2.1 13)) rfl (by decide) hR rfl (by omega) (by show 128 * s + i < 1152; omega) d_Mo_isHeld_129 (fun hr129 => ?_)
          refine x_iload_n d_Mo_isHeld_130 rfl ?_
          refine x_callV (As := [_, _]) (k := k_MarkerTextModel) rfl xcv_Mo_277_Mo (Or.inl hR.1) (RM.ap hR (hIT us _ k1.1 k1.2)) rfl rfl (Nat.le_of_ble_eq_true rfl) d_Mo_isHeld_131 ?_
          rintro v131 h cq nq ⟨S131, hR, hX131, rfl, rfl, hE131, r131, rfl, hr131⟩
          replace hE131 := Eq.symm hE131
          subst hE131
          replace hX := hX.tr hX131
          refine x_goto (tgt := 205) d_Mo_isHeld_134 (by decide) ?_
          refine j205 _ _ _ ?_ _ hR hX
          rcases k2 with ⟨a1, a2⟩ | ⟨x, a1, a2⟩
          · rcases hr131 with ⟨-, e⟩ | ⟨x, e, -⟩
            · rw [e, a2]; rfl
            · rw [a1] at e; cases e
          · rcases hr131 with ⟨e, -⟩ | ⟨y, e, e2⟩
            · rw [a1] at e; cases e
            · rw [a1] at e; cases e; rw [e2, a2]; rfl
        · -- not
          have hrr := hus (gd (S.2.1 14) (128 * s + i) - 128 * s) (by omega) (by omega)
          rw [show 128 * s + (gd (S.2.1 14) (128 * s + i) - 128 * s) = gd (S.2.1 14) (128 * s + i) by omega] at hrr
          have hbb := bZ_b ((dn (gd (S.2.1 14) (128 * s + i))).2.1 lv)
          have hneg : bZ ((dn (128 * s + i)).2.1 lv) = 1 - bZ ((dn (gd (S.2.1 14) (128 * s + i))).2.1 lv) := by
            rw [k2]
            show bZ (!(dn (gd (S.2.1 14) (128 * s + i))).2.1 lv) = _
            cases (dn (gd (S.2.1 14) (128 * s + i))).2.1 lv <;> decide
          refine x_iload d_Mo_isHeld_9 rfl ?_
          refine x_aload_n d_Mo_isHeld_11 rfl rfl ?_
          refine x_get xf_Mo_45_Mo (Or.inl hR.1) (v := .ref (rf 15)) rfl d_Mo_isHeld_12 ?_
          refine x_iload_n d_Mo_isHeld_15 rfl ?_
          refine r_iald (i := 15) (us := (S.2.1 15)) rfl (by decide) hR rfl (by omega) (by show s < 9; omega) d_Mo_isHeld_16 (fun hr16 => ?_)
          refine z_icmp_ge (tgt := 212) d_Mo_isHeld_17 (by decide) (by omega) (by omega) (fun hq => by omega) (fun _ => ?_)
          refine x_iload_n d_Mo_isHeld_20 rfl ?_
          refine x_iload d_Mo_isHeld_21 rfl ?_
          refine z_iadd d_Mo_isHeld_23 ?_
          refine x_istore (L' := [_, _, _, _, _, _, _, _]) d_Mo_isHeld_24 rfl rfl ?_
          refine x_aload_n d_Mo_isHeld_26 rfl rfl ?_
          refine x_get xf_Mo_36_Mo (Or.inl hR.1) (v := .ref (rf 12)) rfl d_Mo_isHeld_27 ?_
          refine x_iload d_Mo_isHeld_30 rfl ?_
          refine r_iald (i := 12) (us := (S.2.1 12)) rfl (by decide) hR rfl (by omega) (by show 128 * s + i < 1152; omega) d_Mo_isHeld_32 (fun hr32 => ?_)
          refine z_if_eq (tgt := 57) d_Mo_isHeld_33 (by decide) (by omega) (fun hq => by omega) (fun _ => ?_)
          refine x_aload_n d_Mo_isHeld_36 rfl rfl ?_
          refine x_get xf_Mo_103_Mo (Or.inl hR.1) (v := .ref (rf 41)) rfl d_Mo_isHeld_37 ?_
          refine x_aload_n d_Mo_isHeld_40 rfl rfl ?_
          refine x_get xf_Mo_42_Mo (Or.inl hR.1) (v := .ref (rf 14)) rfl d_Mo_isHeld_41 ?_
          refine x_iload d_Mo_isHeld_44 rfl ?_
          refine r_iald (i := 14) (us := (S.2.1 14)) rfl (by decide) hR rfl (by omega) (by show 128 * s + i < 1152; omega) d_Mo_isHeld_46 (fun hr46 => ?_)
          refine x_iload_n d_Mo_isHeld_47 rfl ?_
          refine z_isub d_Mo_isHeld_48 ?_
          refine r_zald (i := 41) (us := us) ⟨rfl, rfl⟩ (by decide) hR rfl (by omega) (by show gd (S.2.1 14) (128 * s + i) - 128 * s < 128; omega) d_Mo_isHeld_49 (fun hr49 => ?_)
          refine z_if_eq (tgt := 57) d_Mo_isHeld_50 (by decide) (by omega) (fun hc50 => ?_) (fun hc50 => ?_)
          · refine x_iconst (v := zI 0) d_Mo_isHeld_57 (by decide) ?_
            refine x_istore (L' := [_, _, _, _, _, _, _, _]) d_Mo_isHeld_58 rfl rfl ?_
            refine x_aload_n d_Mo_isHeld_60 rfl rfl ?_
            refine x_get xf_Mo_36_Mo (Or.inl hR.1) (v := .ref (rf 12)) rfl d_Mo_isHeld_61 ?_
            refine x_iload d_Mo_isHeld_64 rfl ?_
            refine r_iald (i := 12) (us := (S.2.1 12)) rfl (by decide) hR rfl (by omega) (by show 128 * s + i < 1152; omega) d_Mo_isHeld_66 (fun hr66 => ?_)
            refine x_iconst (v := zI 2) d_Mo_isHeld_67 (by decide) ?_
            refine z_icmp_eq (tgt := 82) d_Mo_isHeld_68 (by decide) (by omega) (by omega) (fun hq => by omega) (fun _ => ?_)
            refine x_aload_n d_Mo_isHeld_71 rfl rfl ?_
            refine x_get xf_Mo_36_Mo (Or.inl hR.1) (v := .ref (rf 12)) rfl d_Mo_isHeld_72 ?_
            refine x_iload d_Mo_isHeld_75 rfl ?_
            refine r_iald (i := 12) (us := (S.2.1 12)) rfl (by decide) hR rfl (by omega) (by show 128 * s + i < 1152; omega) d_Mo_isHeld_77 (fun hr77 => ?_)
            refine x_iconst (v := zI 3) d_Mo_isHeld_78 (by decide) ?_
            refine z_icmp_ne (tgt := 103) d_Mo_isHeld_79 (by decide) (by omega) (by omega) (fun _ => ?_) (fun hq => by omega)
            refine x_iconst (v := zI 0) d_Mo_isHeld_103 (by decide) ?_
            refine x_istore (L' := [_, _, _, _, _, _, _, _]) d_Mo_isHeld_104 rfl rfl ?_
            refine x_aload_n d_Mo_isHeld_106 rfl rfl ?_
            refine x_get xf_Mo_103_Mo (Or.inl hR.1) (v := .ref (rf 41)) rfl d_Mo_isHeld_107 ?_
            refine x_iload d_Mo_isHeld_110 rfl ?_
            refine x_aload_n d_Mo_isHeld_112 rfl rfl ?_
            refine x_get xf_Mo_36_Mo (Or.inl hR.1) (v := .ref (rf 12)) rfl d_Mo_isHeld_113 ?_
            refine x_iload d_Mo_isHeld_116 rfl ?_
            refine r_iald (i := 12) (us := (S.2.1 12)) rfl (by decide) hR rfl (by omega) (by show 128 * s + i < 1152; omega) d_Mo_isHeld_118 (fun hr118 => ?_)
            refine z_if_ne (tgt := 137) d_Mo_isHeld_119 (by decide) (by omega) (fun _ => ?_) (fun hq => by omega)
            refine x_aload_n d_Mo_isHeld_137 rfl rfl ?_
            refine x_get xf_Mo_36_Mo (Or.inl hR.1) (v := .ref (rf 12)) rfl d_Mo_isHeld_138 ?_
            refine x_iload d_Mo_isHeld_141 rfl ?_
            refine r_iald (i := 12) (us := (S.2.1 12)) rfl (by decide) hR rfl (by omega) (by show 128 * s + i < 1152; omega) d_Mo_isHeld_143 (fun hr143 => ?_)
            refine x_iconst (v := zI 1) d_Mo_isHeld_144 (by decide) ?_
            refine z_icmp_ne (tgt := 161) d_Mo_isHeld_145 (by decide) (by omega) (by omega) (fun hq => by omega) (fun _ => ?_)
            refine x_iload d_Mo_isHeld_148 rfl ?_
            refine z_if_ne (tgt := 157) d_Mo_isHeld_150 (by decide) (by omega) (fun hc150 => ?_) (fun hc150 => ?_)
            · refine x_iconst (v := zI 0) d_Mo_isHeld_157 (by decide) ?_
              refine x_goto (tgt := 205) d_Mo_isHeld_158 (by decide) ?_
              exact j205 _ _ _ (by first | (exfalso; omega) | (rw [hneg]; omega)) _ hR hX
            · refine x_iconst (v := zI 1) d_Mo_isHeld_153 (by decide) ?_
              refine x_goto (tgt := 205) d_Mo_isHeld_154 (by decide) ?_
              exact j205 _ _ _ (by first | (exfalso; omega) | (rw [hneg]; omega)) _ hR hX
          · refine x_iconst (v := zI 1) d_Mo_isHeld_53 (by decide) ?_
            refine x_goto (tgt := 58) d_Mo_isHeld_54 (by decide) ?_
            refine x_istore (L' := [_, _, _, _, _, _, _, _]) d_Mo_isHeld_58 rfl rfl ?_
            refine x_aload_n d_Mo_isHeld_60 rfl rfl ?_
            refine x_get xf_Mo_36_Mo (Or.inl hR.1) (v := .ref (rf 12)) rfl d_Mo_isHeld_61 ?_
            refine x_iload d_Mo_isHeld_64 rfl ?_
            refine r_iald (i := 12) (us := (S.2.1 12)) rfl (by decide) hR rfl (by omega) (by show 128 * s + i < 1152; omega) d_Mo_isHeld_66 (fun hr66 => ?_)
            refine x_iconst (v := zI 2) d_Mo_isHeld_67 (by decide) ?_
            refine z_icmp_eq (tgt := 82) d_Mo_isHeld_68 (by decide) (by omega) (by omega) (fun hq => by omega) (fun _ => ?_)
            refine x_aload_n d_Mo_isHeld_71 rfl rfl ?_
            refine x_get xf_Mo_36_Mo (Or.inl hR.1) (v := .ref (rf 12)) rfl d_Mo_isHeld_72 ?_
            refine x_iload d_Mo_isHeld_75 rfl ?_
            refine r_iald (i := 12) (us := (S.2.1 12)) rfl (by decide) hR rfl (by omega) (by show 128 * s + i < 1152; omega) d_Mo_isHeld_77 (fun hr77 => ?_)
            refine x_iconst (v := zI 3) d_Mo_isHeld_78 (by decide) ?_
            refine z_icmp_ne (tgt := 103) d_Mo_isHeld_79 (by decide) (by omega) (by omega) (fun _ => ?_) (fun hq => by omega)
            refine x_iconst (v := zI 0) d_Mo_isHeld_103 (by decide) ?_
            refine x_istore (L' := [_, _, _, _, _, _, _, _]) d_Mo_isHeld_104 rfl rfl ?_
            refine x_aload_n d_Mo_isHeld_106 rfl rfl ?_
            refine x_get xf_Mo_103_Mo (Or.inl hR.1) (v := .ref (rf 41)) rfl d_Mo_isHeld_107 ?_
            refine x_iload d_Mo_isHeld_110 rfl ?_
            refine x_aload_n d_Mo_isHeld_112 rfl rfl ?_
            refine x_get xf_Mo_36_Mo (Or.inl hR.1) (v := .ref (rf 12)) rfl d_Mo_isHeld_113 ?_
            refine x_iload d_Mo_isHeld_116 rfl ?_
            refine r_iald (i := 12) (us := (S.2.1 12)) rfl (by decide) hR rfl (by omega) (by show 128 * s + i < 1152; omega) d_Mo_isHeld_118 (fun hr118 => ?_)
            refine z_if_ne (tgt := 137) d_Mo_isHeld_119 (by decide) (by omega) (fun _ => ?_) (fun hq => by omega)
            refine x_aload_n d_Mo_isHeld_137 rfl rfl ?_
            refine x_get xf_Mo_36_Mo (Or.inl hR.1) (v := .ref (rf 12)) rfl d_Mo_isHeld_138 ?_
            refine x_iload d_Mo_isHeld_141 rfl ?_
            refine r_iald (i := 12) (us := (S.2.1 12)) rfl (by decide) hR rfl (by omega) (by show 128 * s + i < 1152; omega) d_Mo_isHeld_143 (fun hr143 => ?_)
            refine x_iconst (v := zI 1) d_Mo_isHeld_144 (by decide) ?_
            refine z_icmp_ne (tgt := 161) d_Mo_isHeld_145 (by decide) (by omega) (by omega) (fun hq => by omega) (fun _ => ?_)
            refine x_iload d_Mo_isHeld_148 rfl ?_
            refine z_if_ne (tgt := 157) d_Mo_isHeld_150 (by decide) (by omega) (fun hc150 => ?_) (fun hc150 => ?_)
            · refine x_iconst (v := zI 0) d_Mo_isHeld_157 (by decide) ?_
              refine x_goto (tgt := 205) d_Mo_isHeld_158 (by decide) ?_
              exact j205 _ _ _ (by first | (exfalso; omega) | (rw [hneg]; omega)) _ hR hX
            · refine x_iconst (v := zI 1) d_Mo_isHeld_153 (by decide) ?_
              refine x_goto (tgt := 205) d_Mo_isHeld_154 (by decide) ?_
              exact j205 _ _ _ (by first | (exfalso; omega) | (rw [hneg]; omega)) _ hR hX
        · -- and
          have hrr := hus (gd (S.2.1 14) (128 * s + i) - 128 * s) (by omega) (by omega)
          rw [show 128 * s + (gd (S.2.1 14) (128 * s + i) - 128 * s) = gd (S.2.1 14) (128 * s + i) by omega] at hrr
          have hll := hus (gd (S.2.1 13) (128 * s + i) - 128 * s) (by omega) (by omega)
          rw [show 128 * s + (gd (S.2.1 13) (128 * s + i) - 128 * s) = gd (S.2.1 13) (128 * s + i) by omega] at hll
          have hb1 := bZ_b ((dn (gd (S.2.1 14) (128 * s + i))).2.1 lv)
          have hb2 := bZ_b ((dn (gd (S.2.1 13) (128 * s + i))).2.1 lv)
          have hv : bZ ((dn (128 * s + i)).2.1 lv) = bZ ((dn (gd (S.2.1 13) (128 * s + i))).2.1 lv && (dn (gd (S.2.1 14) (128 * s + i))).2.1 lv) := by rw [k2]; rfl
          have hv2 : (bZ ((dn (gd (S.2.1 13) (128 * s + i))).2.1 lv) = 1 ∧ bZ ((dn (gd (S.2.1 14) (128 * s + i))).2.1 lv) = 1 ∧ bZ ((dn (128 * s + i)).2.1 lv) = 1) ∨ ((bZ ((dn (gd (S.2.1 13) (128 * s + i))).2.1 lv) = 0 ∨ bZ ((dn (gd (S.2.1 14) (128 * s + i))).2.1 lv) = 0) ∧ bZ ((dn (128 * s + i)).2.1 lv) = 0) := by
            rw [hv]
            cases (dn (gd (S.2.1 13) (128 * s + i))).2.1 lv <;> cases (dn (gd (S.2.1 14) (128 * s + i))).2.1 lv <;> simp
          refine x_iload d_Mo_isHeld_9 rfl ?_
          refine x_aload_n d_Mo_isHeld_11 rfl rfl ?_
          refine x_get xf_Mo_45_Mo (Or.inl hR.1) (v := .ref (rf 15)) rfl d_Mo_isHeld_12 ?_
          refine x_iload_n d_Mo_isHeld_15 rfl ?_
          refine r_iald (i := 15) (us := (S.2.1 15)) rfl (by decide) hR rfl (by omega) (by show s < 9; omega) d_Mo_isHeld_16 (fun hr16 => ?_)
          refine z_icmp_ge (tgt := 212) d_Mo_isHeld_17 (by decide) (by omega) (by omega) (fun hq => by omega) (fun _ => ?_)
          refine x_iload_n d_Mo_isHeld_20 rfl ?_
          refine x_iload d_Mo_isHeld_21 rfl ?_
          refine z_iadd d_Mo_isHeld_23 ?_
          refine x_istore (L' := [_, _, _, _, _, _, _, _]) d_Mo_isHeld_24 rfl rfl ?_
          refine x_aload_n d_Mo_isHeld_26 rfl rfl ?_
          refine x_get xf_Mo_36_Mo (Or.inl hR.1) (v := .ref (rf 12)) rfl d_Mo_isHeld_27 ?_
          refine x_iload d_Mo_isHeld_30 rfl ?_
          refine r_iald (i := 12) (us := (S.2.1 12)) rfl (by decide) hR rfl (by omega) (by show 128 * s + i < 1152; omega) d_Mo_isHeld_32 (fun hr32 => ?_)
          refine z_if_eq (tgt := 57) d_Mo_isHeld_33 (by decide) (by omega) (fun hq => by omega) (fun _ => ?_)
          refine x_aload_n d_Mo_isHeld_36 rfl rfl ?_
          refine x_get xf_Mo_103_Mo (Or.inl hR.1) (v := .ref (rf 41)) rfl d_Mo_isHeld_37 ?_
          refine x_aload_n d_Mo_isHeld_40 rfl rfl ?_
          refine x_get xf_Mo_42_Mo (Or.inl hR.1) (v := .ref (rf 14)) rfl d_Mo_isHeld_41 ?_
          refine x_iload d_Mo_isHeld_44 rfl ?_
          refine r_iald (i := 14) (us := (S.2.1 14)) rfl (by decide) hR rfl (by omega) (by show 128 * s + i < 1152; omega) d_Mo_isHeld_46 (fun hr46 => ?_)
          refine x_iload_n d_Mo_isHeld_47 rfl ?_
          refine z_isub d_Mo_isHeld_48 ?_
          refine r_zald (i := 41) (us := us) ⟨rfl, rfl⟩ (by decide) hR rfl (by omega) (by show gd (S.2.1 14) (128 * s + i) - 128 * s < 128; omega) d_Mo_isHeld_49 (fun hr49 => ?_)
          refine z_if_eq (tgt := 57) d_Mo_isHeld_50 (by decide) (by omega) (fun hc50 => ?_) (fun hc50 => ?_)
          · refine x_iconst (v := zI 0) d_Mo_isHeld_57 (by decide) ?_
            refine x_istore (L' := [_, _, _, _, _, _, _, _]) d_Mo_isHeld_58 rfl rfl ?_
            refine x_aload_n d_Mo_isHeld_60 rfl rfl ?_
            refine x_get xf_Mo_36_Mo (Or.inl hR.1) (v := .ref (rf 12)) rfl d_Mo_isHeld_61 ?_
            refine x_iload d_Mo_isHeld_64 rfl ?_
            refine r_iald (i := 12) (us := (S.2.1 12)) rfl (by decide) hR rfl (by omega) (by show 128 * s + i < 1152; omega) d_Mo_isHeld_66 (fun hr66 => ?_)
            refine x_iconst (v := zI 2) d_Mo_isHeld_67 (by decide) ?_
            refine z_icmp_eq (tgt := 82) d_Mo_isHeld_68 (by decide) (by omega) (by omega) (fun _ => ?_) (fun hq => by omega)
            refine x_aload_n d_Mo_isHeld_82 rfl rfl ?_
            refine x_get xf_Mo_103_Mo (Or.inl hR.1) (v := .ref (rf 41)) rfl d_Mo_isHeld_83 ?_
            refine x_aload_n d_Mo_isHeld_86 rfl rfl ?_
            refine x_get xf_Mo_39_Mo (Or.inl hR.1) (v := .ref (rf 13)) rfl d_Mo_isHeld_87 ?_
            refine x_iload d_Mo_isHeld_90 rfl ?_
            refine r_iald (i := 13) (us := (S.2.1 13)) rfl (by decide) hR rfl (by omega) (by show 128 * s + i < 1152; omega) d_Mo_isHeld_92 (fun hr92 => ?_)
            refine x_iload_n d_Mo_isHeld_93 rfl ?_
            refine z_isub d_Mo_isHeld_94 ?_
            refine r_zald (i := 41) (us := us) ⟨rfl, rfl⟩ (by decide) hR rfl (by omega) (by show gd (S.2.1 13) (128 * s + i) - 128 * s < 128; omega) d_Mo_isHeld_95 (fun hr95 => ?_)
            refine z_if_eq (tgt := 103) d_Mo_isHeld_96 (by decide) (by omega) (fun hc96 => ?_) (fun hc96 => ?_)
            · refine x_iconst (v := zI 0) d_Mo_isHeld_103 (by decide) ?_
              refine x_istore (L' := [_, _, _, _, _, _, _, _]) d_Mo_isHeld_104 rfl rfl ?_
              refine x_aload_n d_Mo_isHeld_106 rfl rfl ?_
              refine x_get xf_Mo_103_Mo (Or.inl hR.1) (v := .ref (rf 41)) rfl d_Mo_isHeld_107 ?_
              refine x_iload d_Mo_isHeld_110 rfl ?_
              refine x_aload_n d_Mo_isHeld_112 rfl rfl ?_
              refine x_get xf_Mo_36_Mo (Or.inl hR.1) (v := .ref (rf 12)) rfl d_Mo_isHeld_113 ?_
              refine x_iload d_Mo_isHeld_116 rfl ?_
              refine r_iald (i := 12) (us := (S.2.1 12)) rfl (by decide) hR rfl (by omega) (by show 128 * s + i < 1152; omega) d_Mo_isHeld_118 (fun hr118 => ?_)
              refine z_if_ne (tgt := 137) d_Mo_isHeld_119 (by decide) (by omega) (fun _ => ?_) (fun hq => by omega)
              refine x_aload_n d_Mo_isHeld_137 rfl rfl ?_
              refine x_get xf_Mo_36_Mo (Or.inl hR.1) (v := .ref (rf 12)) rfl d_Mo_isHeld_138 ?_
              refine x_iload d_Mo_isHeld_141 rfl ?_
              refine r_iald (i := 12) (us := (S.2.1 12)) rfl (by decide) hR rfl (by omega) (by show 128 * s + i < 1152; omega) d_Mo_isHeld_143 (fun hr143 => ?_)
              refine x_iconst (v := zI 1) d_Mo_isHeld_144 (by decide) ?_
              refine z_icmp_ne (tgt := 161) d_Mo_isHeld_145 (by decide) (by omega) (by omega) (fun _ => ?_) (fun hq => by omega)
              refine x_aload_n d_Mo_isHeld_161 rfl rfl ?_
              refine x_get xf_Mo_36_Mo (Or.inl hR.1) (v := .ref (rf 12)) rfl d_Mo_isHeld_162 ?_
              refine x_iload d_Mo_isHeld_165 rfl ?_
              refine r_iald (i := 12) (us := (S.2.1 12)) rfl (by decide) hR rfl (by omega) (by show 128 * s + i < 1152; omega) d_Mo_isHeld_167 (fun hr167 => ?_)
              refine x_iconst (v := zI 2) d_Mo_isHeld_168 (by decide) ?_
              refine z_icmp_ne (tgt := 190) d_Mo_isHeld_169 (by decide) (by omega) (by omega) (fun hq => by omega) (fun _ => ?_)
              refine x_iload d_Mo_isHeld_172 rfl ?_
              refine z_if_eq (tgt := 186) d_Mo_isHeld_174 (by decide) (by omega) (fun hc174 => ?_) (fun hc174 => ?_)
              · refine x_iconst (v := zI 0) d_Mo_isHeld_186 (by decide) ?_
                refine x_goto (tgt := 205) d_Mo_isHeld_187 (by decide) ?_
                first | (exfalso; omega) | exact j205 _ _ _ (by omega) _ hR hX
              · refine x_iload d_Mo_isHeld_177 rfl ?_
                refine z_if_eq (tgt := 186) d_Mo_isHeld_179 (by decide) (by omega) (fun hc179 => ?_) (fun hc179 => ?_)
                · refine x_iconst (v := zI 0) d_Mo_isHeld_186 (by decide) ?_
                  refine x_goto (tgt := 205) d_Mo_isHeld_187 (by decide) ?_
                  first | (exfalso; omega) | exact j205 _ _ _ (by omega) _ hR hX
                · refine x_iconst (v := zI 1) d_Mo_isHeld_182 (by decide) ?_
                  refine x_goto (tgt := 205) d_Mo_isHeld_183 (by decide) ?_
                  first | (exfalso; omega) | exact j205 _ _ _ (by omega) _ hR hX
            · refine x_iconst (v := zI 1) d_Mo_isHeld_99 (by decide) ?_
              refine x_goto (tgt := 104) d_Mo_isHeld_100 (by decide) ?_
              refine x_istore (L' := [_, _, _, _, _, _, _, _]) d_Mo_isHeld_104 rfl rfl ?_
              refine x_aload_n d_Mo_isHeld_106 rfl rfl ?_
              refine x_get xf_Mo_103_Mo (Or.inl hR.1) (v := .ref (rf 41)) rfl d_Mo_isHeld_107 ?_
              refine x_iload d_Mo_isHeld_110 rfl ?_
              refine x_aload_n d_Mo_isHeld_112 rfl rfl ?_
              refine x_get xf_Mo_36_Mo (Or.inl hR.1) (v := .ref (rf 12)) rfl d_Mo_isHeld_113 ?_
              refine x_iload d_Mo_isHeld_116 rfl ?_
              refine r_iald (i := 12) (us := (S.2.1 12)) rfl (by decide) hR rfl (by omega) (by show 128 * s + i < 1152; omega) d_Mo_isHeld_118 (fun hr118 => ?_)
              refine z_if_ne (tgt := 137) d_Mo_isHeld_119 (by decide) (by omega) (fun _ => ?_) (fun hq => by omega)
              refine x_aload_n d_Mo_isHeld_137 rfl rfl ?_
              refine x_get xf_Mo_36_Mo (Or.inl hR.1) (v := .ref (rf 12)) rfl d_Mo_isHeld_138 ?_
              refine x_iload d_Mo_isHeld_141 rfl ?_
              refine r_iald (i := 12) (us := (S.2.1 12)) rfl (by decide) hR rfl (by omega) (by show 128 * s + i < 1152; omega) d_Mo_isHeld_143 (fun hr143 => ?_)
              refine x_iconst (v := zI 1) d_Mo_isHeld_144 (by decide) ?_
              refine z_icmp_ne (tgt := 161) d_Mo_isHeld_145 (by decide) (by omega) (by omega) (fun _ => ?_) (fun hq => by omega)
              refine x_aload_n d_Mo_isHeld_161 rfl rfl ?_
              refine x_get xf_Mo_36_Mo (Or.inl hR.1) (v := .ref (rf 12)) rfl d_Mo_isHeld_162 ?_
              refine x_iload d_Mo_isHeld_165 rfl ?_
              refine r_iald (i := 12) (us := (S.2.1 12)) rfl (by decide) hR rfl (by omega) (by show 128 * s + i < 1152; omega) d_Mo_isHeld_167 (fun hr167 => ?_)
              refine x_iconst (v := zI 2) d_Mo_isHeld_168 (by decide) ?_
              refine z_icmp_ne (tgt := 190) d_Mo_isHeld_169 (by decide) (by omega) (by omega) (fun hq => by omega) (fun _ => ?_)
              refine x_iload d_Mo_isHeld_172 rfl ?_
              refine z_if_eq (tgt := 186) d_Mo_isHeld_174 (by decide) (by omega) (fun hc174 => ?_) (fun hc174 => ?_)
              · refine x_iconst (v := zI 0) d_Mo_isHeld_186 (by decide) ?_
                refine x_goto (tgt := 205) d_Mo_isHeld_187 (by decide) ?_
                first | (exfalso; omega) | exact j205 _ _ _ (by omega) _ hR hX
              · refine x_iload d_Mo_isHeld_177 rfl ?_
                refine z_if_eq (tgt := 186) d_Mo_isHeld_179 (by decide) (by omega) (fun hc179 => ?_) (fun hc179 => ?_)
                · refine x_iconst (v := zI 0) d_Mo_isHeld_186 (by decide) ?_
                  refine x_goto (tgt := 205) d_Mo_isHeld_187 (by decide) ?_
                  first | (exfalso; omega) | exact j205 _ _ _ (by omega) _ hR hX
                · refine x_iconst (v := zI 1) d_Mo_isHeld_182 (by decide) ?_
                  refine x_goto (tgt := 205) d_Mo_isHeld_183 (by decide) ?_
                  first | (exfalso; omega) | exact j205 _ _ _ (by omega) _ hR hX
          · refine x_iconst (v := zI 1) d_Mo_isHeld_53 (by decide) ?_
            refine x_goto (tgt := 58) d_Mo_isHeld_54 (by decide) ?_
            refine x_istore (L' := [_, _, _, _, _, _, _, _]) d_Mo_isHeld_58 rfl rfl ?_
            refine x_aload_n d_Mo_isHeld_60 rfl rfl ?_
            refine x_get xf_Mo_36_Mo (Or.inl hR.1) (v := .ref (rf 12)) rfl d_Mo_isHeld_61 ?_
            refine x_iload d_Mo_isHeld_64 rfl ?_
            refine r_iald (i := 12) (us := (S.2.1 12)) rfl (by decide) hR rfl (by omega) (by show 128 * s + i < 1152; omega) d_Mo_isHeld_66 (fun hr66 => ?_)
            refine x_iconst (v := zI 2) d_Mo_isHeld_67 (by decide) ?_
            refine z_icmp_eq (tgt := 82) d_Mo_isHeld_68 (by decide) (by omega) (by omega) (fun _ => ?_) (fun hq => by omega)
            refine x_aload_n d_Mo_isHeld_82 rfl rfl ?_
            refine x_get xf_Mo_103_Mo (Or.inl hR.1) (v := .ref (rf 41)) rfl d_Mo_isHeld_83 ?_
            refine x_aload_n d_Mo_isHeld_86 rfl rfl ?_
            refine x_get xf_Mo_39_Mo (Or.inl hR.1) (v := .ref (rf 13)) rfl d_Mo_isHeld_87 ?_
            refine x_iload d_Mo_isHeld_90 rfl ?_
            refine r_iald (i := 13) (us := (S.2.1 13)) rfl (by decide) hR rfl (by omega) (by show 128 * s + i < 1152; omega) d_Mo_isHeld_92 (fun hr92 => ?_)
            refine x_iload_n d_Mo_isHeld_93 rfl ?_
            refine z_isub d_Mo_isHeld_94 ?_
            refine r_zald (i := 41) (us := us) ⟨rfl, rfl⟩ (by decide) hR rfl (by omega) (by show gd (S.2.1 13) (128 * s + i) - 128 * s < 128; omega) d_Mo_isHeld_95 (fun hr95 => ?_)
            refine z_if_eq (tgt := 103) d_Mo_isHeld_96 (by decide) (by omega) (fun hc96 => ?_) (fun hc96 => ?_)
            · refine x_iconst (v := zI 0) d_Mo_isHeld_103 (by decide) ?_
              refine x_istore (L' := [_, _, _, _, _, _, _, _]) d_Mo_isHeld_104 rfl rfl ?_
              refine x_aload_n d_Mo_isHeld_106 rfl rfl ?_
              refine x_get xf_Mo_103_Mo (Or.inl hR.1) (v := .ref (rf 41)) rfl d_Mo_isHeld_107 ?_
              refine x_iload d_Mo_isHeld_110 rfl ?_
              refine x_aload_n d_Mo_isHeld_112 rfl rfl ?_
              refine x_get xf_Mo_36_Mo (Or.inl hR.1) (v := .ref (rf 12)) rfl d_Mo_isHeld_113 ?_
              refine x_iload d_Mo_isHeld_116 rfl ?_
              refine r_iald (i := 12) (us := (S.2.1 12)) rfl (by decide) hR rfl (by omega) (by show 128 * s + i < 1152; omega) d_Mo_isHeld_118 (fun hr118 => ?_)
              refine z_if_ne (tgt := 137) d_Mo_isHeld_119 (by decide) (by omega) (fun _ => ?_) (fun hq => by omega)
              refine x_aload_n d_Mo_isHeld_137 rfl rfl ?_
              refine x_get xf_Mo_36_Mo (Or.inl hR.1) (v := .ref (rf 12)) rfl d_Mo_isHeld_138 ?_
              refine x_iload d_Mo_isHeld_141 rfl ?_
              refine r_iald (i := 12) (us := (S.2.1 12)) rfl (by decide) hR rfl (by omega) (by show 128 * s + i < 1152; omega) d_Mo_isHeld_143 (fun hr143 => ?_)
              refine x_iconst (v := zI 1) d_Mo_isHeld_144 (by decide) ?_
              refine z_icmp_ne (tgt := 161) d_Mo_isHeld_145 (by decide) (by omega) (by omega) (fun _ => ?_) (fun hq => by omega)
              refine x_aload_n d_Mo_isHeld_161 rfl rfl ?_
              refine x_get xf_Mo_36_Mo (Or.inl hR.1) (v := .ref (rf 12)) rfl d_Mo_isHeld_162 ?_
              refine x_iload d_Mo_isHeld_165 rfl ?_
              refine r_iald (i := 12) (us := (S.2.1 12)) rfl (by decide) hR rfl (by omega) (by show 128 * s + i < 1152; omega) d_Mo_isHeld_167 (fun hr167 => ?_)
              refine x_iconst (v := zI 2) d_Mo_isHeld_168 (by decide) ?_
              refine z_icmp_ne (tgt := 190) d_Mo_isHeld_169 (by decide) (by omega) (by omega) (fun hq => by omega) (fun _ => ?_)
              refine x_iload d_Mo_isHeld_172 rfl ?_
              refine z_if_eq (tgt := 186) d_Mo_isHeld_174 (by decide) (by omega) (fun hc174 => ?_) (fun hc174 => ?_)
              · refine x_iconst (v := zI 0) d_Mo_isHeld_186 (by decide) ?_
                refine x_goto (tgt := 205) d_Mo_isHeld_187 (by decide) ?_
                first | (exfalso; omega) | exact j205 _ _ _ (by omega) _ hR hX
              · refine x_iload d_Mo_isHeld_177 rfl ?_
                refine z_if_eq (tgt := 186) d_Mo_isHeld_179 (by decide) (by omega) (fun hc179 => ?_) (fun hc179 => ?_)
                · refine x_iconst (v := zI 0) d_Mo_isHeld_186 (by decide) ?_
                  refine x_goto (tgt := 205) d_Mo_isHeld_187 (by decide) ?_
                  first | (exfalso; omega) | exact j205 _ _ _ (by omega) _ hR hX
                · refine x_iconst (v := zI 1) d_Mo_isHeld_182 (by decide) ?_
                  refine x_goto (tgt := 205) d_Mo_isHeld_183 (by decide) ?_
                  first | (exfalso; omega) | exact j205 _ _ _ (by omega) _ hR hX
            · refine x_iconst (v := zI 1) d_Mo_isHeld_99 (by decide) ?_
              refine x_goto (tgt := 104) d_Mo_isHeld_100 (by decide) ?_
              refine x_istore (L' := [_, _, _, _, _, _, _, _]) d_Mo_isHeld_104 rfl rfl ?_
              refine x_aload_n d_Mo_isHeld_106 rfl rfl ?_
              refine x_get xf_Mo_103_Mo (Or.inl hR.1) (v := .ref (rf 41)) rfl d_Mo_isHeld_107 ?_
              refine x_iload d_Mo_isHeld_110 rfl ?_
              refine x_aload_n d_Mo_isHeld_112 rfl rfl ?_
              refine x_get xf_Mo_36_Mo (Or.inl hR.1) (v := .ref (rf 12)) rfl d_Mo_isHeld_113 ?_
              refine x_iload d_Mo_isHeld_116 rfl ?_
              refine r_iald (i := 12) (us := (S.2.1 12)) rfl (by decide) hR rfl (by omega) (by show 128 * s + i < 1152; omega) d_Mo_isHeld_118 (fun hr118 => ?_)
              refine z_if_ne (tgt := 137) d_Mo_isHeld_119 (by decide) (by omega) (fun _ => ?_) (fun hq => by omega)
              refine x_aload_n d_Mo_isHeld_137 rfl rfl ?_
              refine x_get xf_Mo_36_Mo (Or.inl hR.1) (v := .ref (rf 12)) rfl d_Mo_isHeld_138 ?_
              refine x_iload d_Mo_isHeld_141 rfl ?_
              refine r_iald (i := 12) (us := (S.2.1 12)) rfl (by decide) hR rfl (by omega) (by show 128 * s + i < 1152; omega) d_Mo_isHeld_143 (fun hr143 => ?_)
              refine x_iconst (v := zI 1) d_Mo_isHeld_144 (by decide) ?_
              refine z_icmp_ne (tgt := 161) d_Mo_isHeld_145 (by decide) (by omega) (by omega) (fun _ => ?_) (fun hq => by omega)
              refine x_aload_n d_Mo_isHeld_161 rfl rfl ?_
              refine x_get xf_Mo_36_Mo (Or.inl hR.1) (v := .ref (rf 12)) rfl d_Mo_isHeld_162 ?_
              refine x_iload d_Mo_isHeld_165 rfl ?_
              refine r_iald (i := 12) (us := (S.2.1 12)) rfl (by decide) hR rfl (by omega) (by show 128 * s + i < 1152; omega) d_Mo_isHeld_167 (fun hr167 => ?_)
              refine x_iconst (v := zI 2) d_Mo_isHeld_168 (by decide) ?_
              refine z_icmp_ne (tgt := 190) d_Mo_isHeld_169 (by decide) (by omega) (by omega) (fun hq => by omega) (fun _ => ?_)
              refine x_iload d_Mo_isHeld_172 rfl ?_
              refine z_if_eq (tgt := 186) d_Mo_isHeld_174 (by decide) (by omega) (fun hc174 => ?_) (fun hc174 => ?_)
              · refine x_iconst (v := zI 0) d_Mo_isHeld_186 (by decide) ?_
                refine x_goto (tgt := 205) d_Mo_isHeld_187 (by decide) ?_
                first | (exfalso; omega) | exact j205 _ _ _ (by omega) _ hR hX
              · refine x_iload d_Mo_isHeld_177 rfl ?_
                refine z_if_eq (tgt := 186) d_Mo_isHeld_179 (by decide) (by omega) (fun hc179 => ?_) (fun hc179 => ?_)
                · refine x_iconst (v := zI 0) d_Mo_isHeld_186 (by decide) ?_
                  refine x_goto (tgt := 205) d_Mo_isHeld_187 (by decide) ?_
                  first | (exfalso; omega) | exact j205 _ _ _ (by omega) _ hR hX
                · refine x_iconst (v := zI 1) d_Mo_isHeld_182 (by decide) ?_
                  refine x_goto (tgt := 205) d_Mo_isHeld_183 (by decide) ?_
                  first | (exfalso; omega) | exact j205 _ _ _ (by omega) _ hR hX
        · -- or
          have hrr := hus (gd (S.2.1 14) (128 * s + i) - 128 * s) (by omega) (by omega)
          rw [show 128 * s + (gd (S.2.1 14) (128 * s + i) - 128 * s) = gd (S.2.1 14) (128 * s + i) by omega] at hrr
          have hll := hus (gd (S.2.1 13) (128 * s + i) - 128 * s) (by omega) (by omega)
          rw [show 128 * s + (gd (S.2.1 13) (128 * s + i) - 128 * s) = gd (S.2.1 13) (128 * s + i) by omega] at hll
          have hb1 := bZ_b ((dn (gd (S.2.1 14) (128 * s + i))).2.1 lv)
          have hb2 := bZ_b ((dn (gd (S.2.1 13) (128 * s + i))).2.1 lv)
          have hv : bZ ((dn (128 * s + i)).2.1 lv) = bZ ((dn (gd (S.2.1 13) (128 * s + i))).2.1 lv || (dn (gd (S.2.1 14) (128 * s + i))).2.1 lv) := by rw [k2]; rfl
          have hv2 : ((bZ ((dn (gd (S.2.1 13) (128 * s + i))).2.1 lv) = 1 ∨ bZ ((dn (gd (S.2.1 14) (128 * s + i))).2.1 lv) = 1) ∧ bZ ((dn (128 * s + i)).2.1 lv) = 1) ∨ (bZ ((dn (gd (S.2.1 13) (128 * s + i))).2.1 lv) = 0 ∧ bZ ((dn (gd (S.2.1 14) (128 * s + i))).2.1 lv) = 0 ∧ bZ ((dn (128 * s + i)).2.1 lv) = 0) := by
            rw [hv]
            cases (dn (gd (S.2.1 13) (128 * s + i))).2.1 lv <;> cases (dn (gd (S.2.1 14) (128 * s + i))).2.1 lv <;> simp
          refine x_iload d_Mo_isHeld_9 rfl ?_
          refine x_aload_n d_Mo_isHeld_11 rfl rfl ?_
          refine x_get xf_Mo_45_Mo (Or.inl hR.1) (v := .ref (rf 15)) rfl d_Mo_isHeld_12 ?_
          refine x_iload_n d_Mo_isHeld_15 rfl ?_
          refine r_iald (i := 15) (us := (S.2.1 15)) rfl (by decide) hR rfl (by omega) (by show s < 9; omega) d_Mo_isHeld_16 (fun hr16 => ?_)
          refine z_icmp_ge (tgt := 212) d_Mo_isHeld_17 (by decide) (by omega) (by omega) (fun hq => by omega) (fun _ => ?_)
          refine x_iload_n d_Mo_isHeld_20 rfl ?_
          refine x_iload d_Mo_isHeld_21 rfl ?_
          refine z_iadd d_Mo_isHeld_23 ?_
          refine x_istore (L' := [_, _, _, _, _, _, _, _]) d_Mo_isHeld_24 rfl rfl ?_
          refine x_aload_n d_Mo_isHeld_26 rfl rfl ?_
          refine x_get xf_Mo_36_Mo (Or.inl hR.1) (v := .ref (rf 12)) rfl d_Mo_isHeld_27 ?_
          refine x_iload d_Mo_isHeld_30 rfl ?_
          refine r_iald (i := 12) (us := (S.2.1 12)) rfl (by decide) hR rfl (by omega) (by show 128 * s + i < 1152; omega) d_Mo_isHeld_32 (fun hr32 => ?_)
          refine z_if_eq (tgt := 57) d_Mo_isHeld_33 (by decide) (by omega) (fun hq => by omega) (fun _ => ?_)
          refine x_aload_n d_Mo_isHeld_36 rfl rfl ?_
          refine x_get xf_Mo_103_Mo (Or.inl hR.1) (v := .ref (rf 41)) rfl d_Mo_isHeld_37 ?_
          refine x_aload_n d_Mo_isHeld_40 rfl rfl ?_
          refine x_get xf_Mo_42_Mo (Or.inl hR.1) (v := .ref (rf 14)) rfl d_Mo_isHeld_41 ?_
          refine x_iload d_Mo_isHeld_44 rfl ?_
          refine r_iald (i := 14) (us := (S.2.1 14)) rfl (by decide) hR rfl (by omega) (by show 128 * s + i < 1152; omega) d_Mo_isHeld_46 (fun hr46 => ?_)
          refine x_iload_n d_Mo_isHeld_47 rfl ?_
          refine z_isub d_Mo_isHeld_48 ?_
          refine r_zald (i := 41) (us := us) ⟨rfl, rfl⟩ (by decide) hR rfl (by omega) (by show gd (S.2.1 14) (128 * s + i) - 128 * s < 128; omega) d_Mo_isHeld_49 (fun hr49 => ?_)
          refine z_if_eq (tgt := 57) d_Mo_isHeld_50 (by decide) (by omega) (fun hc50 => ?_) (fun hc50 => ?_)
          · refine x_iconst (v := zI 0) d_Mo_isHeld_57 (by decide) ?_
            refine x_istore (L' := [_, _, _, _, _, _, _, _]) d_Mo_isHeld_58 rfl rfl ?_
            refine x_aload_n d_Mo_isHeld_60 rfl rfl ?_
            refine x_get xf_Mo_36_Mo (Or.inl hR.1) (v := .ref (rf 12)) rfl d_Mo_isHeld_61 ?_
            refine x_iload d_Mo_isHeld_64 rfl ?_
            refine r_iald (i := 12) (us := (S.2.1 12)) rfl (by decide) hR rfl (by omega) (by show 128 * s + i < 1152; omega) d_Mo_isHeld_66 (fun hr66 => ?_)
            refine x_iconst (v := zI 2) d_Mo_isHeld_67 (by decide) ?_
            refine z_icmp_eq (tgt := 82) d_Mo_isHeld_68 (by decide) (by omega) (by omega) (fun hq => by omega) (fun _ => ?_)
            refine x_aload_n d_Mo_isHeld_71 rfl rfl ?_
            refine x_get xf_Mo_36_Mo (Or.inl hR.1) (v := .ref (rf 12)) rfl d_Mo_isHeld_72 ?_
            refine x_iload d_Mo_isHeld_75 rfl ?_
            refine r_iald (i := 12) (us := (S.2.1 12)) rfl (by decide) hR rfl (by omega) (by show 128 * s + i < 1152; omega) d_Mo_isHeld_77 (fun hr77 => ?_)
            refine x_iconst (v := zI 3) d_Mo_isHeld_78 (by decide) ?_
            refine z_icmp_ne (tgt := 103) d_Mo_isHeld_79 (by decide) (by omega) (by omega) (fun hq => by omega) (fun _ => ?_)
            refine x_aload_n d_Mo_isHeld_82 rfl rfl ?_
            refine x_get xf_Mo_103_Mo (Or.inl hR.1) (v := .ref (rf 41)) rfl d_Mo_isHeld_83 ?_
            refine x_aload_n d_Mo_isHeld_86 rfl rfl ?_
            refine x_get xf_Mo_39_Mo (Or.inl hR.1) (v := .ref (rf 13)) rfl d_Mo_isHeld_87 ?_
            refine x_iload d_Mo_isHeld_90 rfl ?_
            refine r_iald (i := 13) (us := (S.2.1 13)) rfl (by decide) hR rfl (by omega) (by show 128 * s + i < 1152; omega) d_Mo_isHeld_92 (fun hr92 => ?_)
            refine x_iload_n d_Mo_isHeld_93 rfl ?_
            refine z_isub d_Mo_isHeld_94 ?_
            refine r_zald (i := 41) (us := us) ⟨rfl, rfl⟩ (by decide) hR rfl (by omega) (by show gd (S.2.1 13) (128 * s + i) - 128 * s < 128; omega) d_Mo_isHeld_95 (fun hr95 => ?_)
            refine z_if_eq (tgt := 103) d_Mo_isHeld_96 (by decide) (by omega) (fun hc96 => ?_) (fun hc96 => ?_)
            · refine x_iconst (v := zI 0) d_Mo_isHeld_103 (by decide) ?_
              refine x_istore (L' := [_, _, _, _, _, _, _, _]) d_Mo_isHeld_104 rfl rfl ?_
              refine x_aload_n d_Mo_isHeld_106 rfl rfl ?_
              refine x_get xf_Mo_103_Mo (Or.inl hR.1) (v := .ref (rf 41)) rfl d_Mo_isHeld_107 ?_
              refine x_iload d_Mo_isHeld_110 rfl ?_
              refine x_aload_n d_Mo_isHeld_112 rfl rfl ?_
              refine x_get xf_Mo_36_Mo (Or.inl hR.1) (v := .ref (rf 12)) rfl d_Mo_isHeld_113 ?_
              refine x_iload d_Mo_isHeld_116 rfl ?_
              refine r_iald (i := 12) (us := (S.2.1 12)) rfl (by decide) hR rfl (by omega) (by show 128 * s + i < 1152; omega) d_Mo_isHeld_118 (fun hr118 => ?_)
              refine z_if_ne (tgt := 137) d_Mo_isHeld_119 (by decide) (by omega) (fun _ => ?_) (fun hq => by omega)
              refine x_aload_n d_Mo_isHeld_137 rfl rfl ?_
              refine x_get xf_Mo_36_Mo (Or.inl hR.1) (v := .ref (rf 12)) rfl d_Mo_isHeld_138 ?_
              refine x_iload d_Mo_isHeld_141 rfl ?_
              refine r_iald (i := 12) (us := (S.2.1 12)) rfl (by decide) hR rfl (by omega) (by show 128 * s + i < 1152; omega) d_Mo_isHeld_143 (fun hr143 => ?_)
              refine x_iconst (v := zI 1) d_Mo_isHeld_144 (by decide) ?_
              refine z_icmp_ne (tgt := 161) d_Mo_isHeld_145 (by decide) (by omega) (by omega) (fun _ => ?_) (fun hq => by omega)
              refine x_aload_n d_Mo_isHeld_161 rfl rfl ?_
              refine x_get xf_Mo_36_Mo (Or.inl hR.1) (v := .ref (rf 12)) rfl d_Mo_isHeld_162 ?_
              refine x_iload d_Mo_isHeld_165 rfl ?_
              refine r_iald (i := 12) (us := (S.2.1 12)) rfl (by decide) hR rfl (by omega) (by show 128 * s + i < 1152; omega) d_Mo_isHeld_167 (fun hr167 => ?_)
              refine x_iconst (v := zI 2) d_Mo_isHeld_168 (by decide) ?_
              refine z_icmp_ne (tgt := 190) d_Mo_isHeld_169 (by decide) (by omega) (by omega) (fun _ => ?_) (fun hq => by omega)
              refine x_iload d_Mo_isHeld_190 rfl ?_
              refine z_if_ne (tgt := 200) d_Mo_isHeld_192 (by decide) (by omega) (fun hc192 => ?_) (fun hc192 => ?_)
              · refine x_iconst (v := zI 1) d_Mo_isHeld_200 (by decide) ?_
                refine x_goto (tgt := 205) d_Mo_isHeld_201 (by decide) ?_
                first | (exfalso; omega) | exact j205 _ _ _ (by omega) _ hR hX
              · refine x_iload d_Mo_isHeld_195 rfl ?_
                refine z_if_eq (tgt := 204) d_Mo_isHeld_197 (by decide) (by omega) (fun hc197 => ?_) (fun hc197 => ?_)
                · refine x_iconst (v := zI 0) d_Mo_isHeld_204 (by decide) ?_
                  first | (exfalso; omega) | exact j205 _ _ _ (by omega) _ hR hX
                · refine x_iconst (v := zI 1) d_Mo_isHeld_200 (by decide) ?_
                  refine x_goto (tgt := 205) d_Mo_isHeld_201 (by decide) ?_
                  first | (exfalso; omega) | exact j205 _ _ _ (by omega) _ hR hX
            · refine x_iconst (v := zI 1) d_Mo_isHeld_99 (by decide) ?_
              refine x_goto (tgt := 104) d_Mo_isHeld_100 (by decide) ?_
              refine x_istore (L' := [_, _, _, _, _, _, _, _]) d_Mo_isHeld_104 rfl rfl ?_
              refine x_aload_n d_Mo_isHeld_106 rfl rfl ?_
              refine x_get xf_Mo_103_Mo (Or.inl hR.1) (v := .ref (rf 41)) rfl d_Mo_isHeld_107 ?_
              refine x_iload d_Mo_isHeld_110 rfl ?_
              refine x_aload_n d_Mo_isHeld_112 rfl rfl ?_
              refine x_get xf_Mo_36_Mo (Or.inl hR.1) (v := .ref (rf 12)) rfl d_Mo_isHeld_113 ?_
              refine x_iload d_Mo_isHeld_116 rfl ?_
              refine r_iald (i := 12) (us := (S.2.1 12)) rfl (by decide) hR rfl (by omega) (by show 128 * s + i < 1152; omega) d_Mo_isHeld_118 (fun hr118 => ?_)
              refine z_if_ne (tgt := 137) d_Mo_isHeld_119 (by decide) (by omega) (fun _ => ?_) (fun hq => by omega)
              refine x_aload_n d_Mo_isHeld_137 rfl rfl ?_
              refine x_get xf_Mo_36_Mo (Or.inl hR.1) (v := .ref (rf 12)) rfl d_Mo_isHeld_138 ?_
              refine x_iload d_Mo_isHeld_141 rfl ?_
              refine r_iald (i := 12) (us := (S.2.1 12)) rfl (by decide) hR rfl (by omega) (by show 128 * s + i < 1152; omega) d_Mo_isHeld_143 (fun hr143 => ?_)
              refine x_iconst (v := zI 1) d_Mo_isHeld_144 (by decide) ?_
              refine z_icmp_ne (tgt := 161) d_Mo_isHeld_145 (by decide) (by omega) (by omega) (fun _ => ?_) (fun hq => by omega)
              refine x_aload_n d_Mo_isHeld_161 rfl rfl ?_
              refine x_get xf_Mo_36_Mo (Or.inl hR.1) (v := .ref (rf 12)) rfl d_Mo_isHeld_162 ?_
              refine x_iload d_Mo_isHeld_165 rfl ?_
              refine r_iald (i := 12) (us := (S.2.1 12)) rfl (by decide) hR rfl (by omega) (by show 128 * s + i < 1152; omega) d_Mo_isHeld_167 (fun hr167 => ?_)
              refine x_iconst (v := zI 2) d_Mo_isHeld_168 (by decide) ?_
              refine z_icmp_ne (tgt := 190) d_Mo_isHeld_169 (by decide) (by omega) (by omega) (fun _ => ?_) (fun hq => by omega)
              refine x_iload d_Mo_isHeld_190 rfl ?_
              refine z_if_ne (tgt := 200) d_Mo_isHeld_192 (by decide) (by omega) (fun hc192 => ?_) (fun hc192 => ?_)
              · refine x_iconst (v := zI 1) d_Mo_isHeld_200 (by decide) ?_
                refine x_goto (tgt := 205) d_Mo_isHeld_201 (by decide) ?_
                first | (exfalso; omega) | exact j205 _ _ _ (by omega) _ hR hX
              · refine x_iload d_Mo_isHeld_195 rfl ?_
                refine z_if_eq (tgt := 204) d_Mo_isHeld_197 (by decide) (by omega) (fun hc197 => ?_) (fun hc197 => ?_)
                · refine x_iconst (v := zI 0) d_Mo_isHeld_204 (by decide) ?_
                  first | (exfalso; omega) | exact j205 _ _ _ (by omega) _ hR hX
                · refine x_iconst (v := zI 1) d_Mo_isHeld_200 (by decide) ?_
                  refine x_goto (tgt := 205) d_Mo_isHeld_201 (by decide) ?_
                  first | (exfalso; omega) | exact j205 _ _ _ (by omega) _ hR hX
          · refine x_iconst (v := zI 1) d_Mo_isHeld_53 (by decide) ?_
            refine x_goto (tgt := 58) d_Mo_isHeld_54 (by decide) ?_
            refine x_istore (L' := [_, _, _, _, _, _, _, _]) d_Mo_isHeld_58 rfl rfl ?_
            refine x_aload_n d_Mo_isHeld_60 rfl rfl ?_
            refine x_get xf_Mo_36_Mo (Or.inl hR.1) (v := .ref (rf 12)) rfl d_Mo_isHeld_61 ?_
            refine x_iload d_Mo_isHeld_64 rfl ?_
            refine r_iald (i := 12) (us := (S.2.1 12)) rfl (by decide) hR rfl (by omega) (by show 128 * s + i < 1152; omega) d_Mo_isHeld_66 (fun hr66 => ?_)
            refine x_iconst (v := zI 2) d_Mo_isHeld_67 (by decide) ?_
            refine z_icmp_eq (tgt := 82) d_Mo_isHeld_68 (by decide) (by omega) (by omega) (fun hq => by omega) (fun _ => ?_)
            refine x_aload_n d_Mo_isHeld_71 rfl rfl ?_
            refine x_get xf_Mo_36_Mo (Or.inl hR.1) (v := .ref (rf 12)) rfl d_Mo_isHeld_72 ?_
            refine x_iload d_Mo_isHeld_75 rfl ?_
            refine r_iald (i := 12) (us := (S.2.1 12)) rfl (by decide) hR rfl (by omega) (by show 128 * s + i < 1152; omega) d_Mo_isHeld_77 (fun hr77 => ?_)
            refine x_iconst (v := zI 3) d_Mo_isHeld_78 (by decide) ?_
            refine z_icmp_ne (tgt := 103) d_Mo_isHeld_79 (by decide) (by omega) (by omega) (fun hq => by omega) (fun _ => ?_)
            refine x_aload_n d_Mo_isHeld_82 rfl rfl ?_
            refine x_get xf_Mo_103_Mo (Or.inl hR.1) (v := .ref (rf 41)) rfl d_Mo_isHeld_83 ?_
            refine x_aload_n d_Mo_isHeld_86 rfl rfl ?_
            refine x_get xf_Mo_39_Mo (Or.inl hR.1) (v := .ref (rf 13)) rfl d_Mo_isHeld_87 ?_
            refine x_iload d_Mo_isHeld_90 rfl ?_
            refine r_iald (i := 13) (us := (S.2.1 13)) rfl (by decide) hR rfl (by omega) (by show 128 * s + i < 1152; omega) d_Mo_isHeld_92 (fun hr92 => ?_)
            refine x_iload_n d_Mo_isHeld_93 rfl ?_
            refine z_isub d_Mo_isHeld_94 ?_
            refine r_zald (i := 41) (us := us) ⟨rfl, rfl⟩ (by decide) hR rfl (by omega) (by show gd (S.2.1 13) (128 * s + i) - 128 * s < 128; omega) d_Mo_isHeld_95 (fun hr95 => ?_)
            refine z_if_eq (tgt := 103) d_Mo_isHeld_96 (by decide) (by omega) (fun hc96 => ?_) (fun hc96 => ?_)
            · refine x_iconst (v := zI 0) d_Mo_isHeld_103 (by decide) ?_
              refine x_istore (L' := [_, _, _, _, _, _, _, _]) d_Mo_isHeld_104 rfl rfl ?_
              refine x_aload_n d_Mo_isHeld_106 rfl rfl ?_
              refine x_get xf_Mo_103_Mo (Or.inl hR.1) (v := .ref (rf 41)) rfl d_Mo_isHeld_107 ?_
              refine x_iload d_Mo_isHeld_110 rfl ?_
              refine x_aload_n d_Mo_isHeld_112 rfl rfl ?_
              refine x_get xf_Mo_36_Mo (Or.inl hR.1) (v := .ref (rf 12)) rfl d_Mo_isHeld_113 ?_
              refine x_iload d_Mo_isHeld_116 rfl ?_
              refine r_iald (i := 12) (us := (S.2.1 12)) rfl (by decide) hR rfl (by omega) (by show 128 * s + i < 1152; omega) d_Mo_isHeld_118 (fun hr118 => ?_)
              refine z_if_ne (tgt := 137) d_Mo_isHeld_119 (by decide) (by omega) (fun _ => ?_) (fun hq => by omega)
              refine x_aload_n d_Mo_isHeld_137 rfl rfl ?_
              refine x_get xf_Mo_36_Mo (Or.inl hR.1) (v := .ref (rf 12)) rfl d_Mo_isHeld_138 ?_
              refine x_iload d_Mo_isHeld_141 rfl ?_
              refine r_iald (i := 12) (us := (S.2.1 12)) rfl (by decide) hR rfl (by omega) (by show 128 * s + i < 1152; omega) d_Mo_isHeld_143 (fun hr143 => ?_)
              refine x_iconst (v := zI 1) d_Mo_isHeld_144 (by decide) ?_
              refine z_icmp_ne (tgt := 161) d_Mo_isHeld_145 (by decide) (by omega) (by omega) (fun _ => ?_) (fun hq => by omega)
              refine x_aload_n d_Mo_isHeld_161 rfl rfl ?_
              refine x_get xf_Mo_36_Mo (Or.inl hR.1) (v := .ref (rf 12)) rfl d_Mo_isHeld_162 ?_
              refine x_iload d_Mo_isHeld_165 rfl ?_
              refine r_iald (i := 12) (us := (S.2.1 12)) rfl (by decide) hR rfl (by omega) (by show 128 * s + i < 1152; omega) d_Mo_isHeld_167 (fun hr167 => ?_)
              refine x_iconst (v := zI 2) d_Mo_isHeld_168 (by decide) ?_
              refine z_icmp_ne (tgt := 190) d_Mo_isHeld_169 (by decide) (by omega) (by omega) (fun _ => ?_) (fun hq => by omega)
              refine x_iload d_Mo_isHeld_190 rfl ?_
              refine z_if_ne (tgt := 200) d_Mo_isHeld_192 (by decide) (by omega) (fun hc192 => ?_) (fun hc192 => ?_)
              · refine x_iconst (v := zI 1) d_Mo_isHeld_200 (by decide) ?_
                refine x_goto (tgt := 205) d_Mo_isHeld_201 (by decide) ?_
                first | (exfalso; omega) | exact j205 _ _ _ (by omega) _ hR hX
              · refine x_iload d_Mo_isHeld_195 rfl ?_
                refine z_if_eq (tgt := 204) d_Mo_isHeld_197 (by decide) (by omega) (fun hc197 => ?_) (fun hc197 => ?_)
                · refine x_iconst (v := zI 0) d_Mo_isHeld_204 (by decide) ?_
                  first | (exfalso; omega) | exact j205 _ _ _ (by omega) _ hR hX
                · refine x_iconst (v := zI 1) d_Mo_isHeld_200 (by decide) ?_
                  refine x_goto (tgt := 205) d_Mo_isHeld_201 (by decide) ?_
                  first | (exfalso; omega) | exact j205 _ _ _ (by omega) _ hR hX
            · refine x_iconst (v := zI 1) d_Mo_isHeld_99 (by decide) ?_
              refine x_goto (tgt := 104) d_Mo_isHeld_100 (by decide) ?_
              refine x_istore (L' := [_, _, _, _, _, _, _, _]) d_Mo_isHeld_104 rfl rfl ?_
              refine x_aload_n d_Mo_isHeld_106 rfl rfl ?_
              refine x_get xf_Mo_103_Mo (Or.inl hR.1) (v := .ref (rf 41)) rfl d_Mo_isHeld_107 ?_
              refine x_iload d_Mo_isHeld_110 rfl ?_
              refine x_aload_n d_Mo_isHeld_112 rfl rfl ?_
              refine x_get xf_Mo_36_Mo (Or.inl hR.1) (v := .ref (rf 12)) rfl d_Mo_isHeld_113 ?_
              refine x_iload d_Mo_isHeld_116 rfl ?_
              refine r_iald (i := 12) (us := (S.2.1 12)) rfl (by decide) hR rfl (by omega) (by show 128 * s + i < 1152; omega) d_Mo_isHeld_118 (fun hr118 => ?_)
              refine z_if_ne (tgt := 137) d_Mo_isHeld_119 (by decide) (by omega) (fun _ => ?_) (fun hq => by omega)
              refine x_aload_n d_Mo_isHeld_137 rfl rfl ?_
              refine x_get xf_Mo_36_Mo (Or.inl hR.1) (v := .ref (rf 12)) rfl d_Mo_isHeld_138 ?_
              refine x_iload d_Mo_isHeld_141 rfl ?_
              refine r_iald (i := 12) (us := (S.2.1 12)) rfl (by decide) hR rfl (by omega) (by show 128 * s + i < 1152; omega) d_Mo_isHeld_143 (fun hr143 => ?_)
              refine x_iconst (v := zI 1) d_Mo_isHeld_144 (by decide) ?_
              refine z_icmp_ne (tgt := 161) d_Mo_isHeld_145 (by decide) (by omega) (by omega) (fun _ => ?_) (fun hq => by omega)
              refine x_aload_n d_Mo_isHeld_161 rfl rfl ?_
              refine x_get xf_Mo_36_Mo (Or.inl hR.1) (v := .ref (rf 12)) rfl d_Mo_isHeld_162 ?_
              refine x_iload d_Mo_isHeld_165 rfl ?_
              refine r_iald (i := 12) (us := (S.2.1 12)) rfl (by decide) hR rfl (by omega) (by show 128 * s + i < 1152; omega) d_Mo_isHeld_167 (fun hr167 => ?_)
              refine x_iconst (v := zI 2) d_Mo_isHeld_168 (by decide) ?_
              refine z_icmp_ne (tgt := 190) d_Mo_isHeld_169 (by decide) (by omega) (by omega) (fun _ => ?_) (fun hq => by omega)
              refine x_iload d_Mo_isHeld_190 rfl ?_
              refine z_if_ne (tgt := 200) d_Mo_isHeld_192 (by decide) (by omega) (fun hc192 => ?_) (fun hc192 => ?_)
              · refine x_iconst (v := zI 1) d_Mo_isHeld_200 (by decide) ?_
                refine x_goto (tgt := 205) d_Mo_isHeld_201 (by decide) ?_
                first | (exfalso; omega) | exact j205 _ _ _ (by omega) _ hR hX
              · refine x_iload d_Mo_isHeld_195 rfl ?_
                refine z_if_eq (tgt := 204) d_Mo_isHeld_197 (by decide) (by omega) (fun hc197 => ?_) (fun hc197 => ?_)
                · refine x_iconst (v := zI 0) d_Mo_isHeld_204 (by decide) ?_
                  first | (exfalso; omega) | exact j205 _ _ _ (by omega) _ hR hX
                · refine x_iconst (v := zI 1) d_Mo_isHeld_200 (by decide) ?_
                  refine x_goto (tgt := 205) d_Mo_isHeld_201 (by decide) ?_
                  first | (exfalso; omega) | exact j205 _ _ _ (by omega) _ hR hX
  refine x_sipush (v := zI 128) d_Mo_isHeld_0 (by decide) ?_
  refine x_iload_n d_Mo_isHeld_3 rfl ?_
  refine z_imul d_Mo_isHeld_4 ?_
  refine x_istore_n (L' := [_, _, _, _, _, _, _, _]) d_Mo_isHeld_5 rfl rfl ?_
  refine x_iconst (v := zI 0) d_Mo_isHeld_6 (by decide) ?_
  refine x_istore (L' := [_, _, _, _, _, _, _, _]) d_Mo_isHeld_7 rfl rfl ?_
  exact lp 128 (S.2.1 41) 0 _ _ _ l41 (fun e he0 he1 => by omega) (by omega) (by omega) (by omega) _ (by rw [sa_id (i := 41)]; exact hR) hX
/-- the ENVIRONMENT as the tests have it -/
theorem evC_0 {lv : Nat → Nat} {Ns : List NmT} {s : Int} {dn : Int → Den} {tx : Int → Option TsT} (hsl : slR Ns S s dn tx) (hN : nmR Ns S) (h6 : Ns.length ≤ 6) (hV : gvR Ns lv S) : evC 0 S lv s tx := by
  intro q x hq1 hq2 hx
  rcases hsl.2.2.1 q hq1 hq2 with ⟨a1, -⟩ | ⟨y, a1, a2⟩
  · rw [hx] at a1; cases a1
  · rw [hx] at a1
    cases a1
    obtain ⟨nm, ws, g1, g2, g3, g4, ⟨g5, g6⟩, g7, g8, g10, g11⟩ := a2
    have hil := (List.getElem?_eq_some_iff.mp g1).1
    have hkd := (hN.2 _ nm g1).2.2.2.2.2
    have hv := hV x.1 (by omega)
    have hlen : x.2.2.1.length = ws.length := by rw [g7, List.length_map]
    refine ⟨Or.inl ⟨rfl, ?_⟩, fun j hj hL => Or.inl ⟨rfl, ?_⟩⟩
    · rcases hv with h | ⟨h1, y, hy, u, -, -, h2, -⟩
      · exact Or.inl h
      · exact Or.inr ⟨h1, h2⟩
    · rcases hv with ⟨-, h⟩ | ⟨h1, y, hy, hlk⟩
      · exact absurd h hL
      · rw [g1] at hy
        cases hy
        have hw : ws[j]? = some (ws[j]'(by omega)) := List.getElem?_eq_getElem (by omega)
        obtain ⟨⟨v1, -⟩, v2⟩ := g10 j _ hw
        have hget : x.2.2.1.getD j 0 = klv nm.2.1 (ws[j]'(by omega)) := by
          rw [g7, List.getD_eq_getElem?_getD, List.getElem?_map, hw]
          rfl
        have hl2 : lk nm.2.1 (x.2.2.1.getD j 0) (gl (S.2.2.1 22) (gd (S.2.1 19) q + j)) := by
          rw [hget, v1]
          exact lk.of v2.1 v2.2.1
        have ho := hlk.ord hkd hl2
        exact ⟨ho.1.symm, ho.2.symm⟩
theorem r_holdsX {k : Int} {lv : Nat → Nat} {Ns : List NmT} {Cs : List CnT} {il : Option Nat} (hd : 3 ≤ d) (hk : inR k) (hC : csOk S) (hN : nmR Ns S) (h6 : Ns.length ≤ 6) (hV : gvR Ns lv S) (hQ : cqR Ns Cs il S) : RM l G d M_Mo_holds [.ref o, .int (zI k)] o rf S (fun v S' => v = some (.int (zI (bZ (hld Cs lv (zI k))))) ∧ rSm S S' [0] [41] []) := by
  obtain ⟨d, rfl⟩ : ∃ q, d = q + 1 := ⟨d - 1, by omega⟩
  intro H0 c n hR
  refine XM.of (by decide +kernel) (Nat.le_of_ble_eq_true rfl) ?_
  have hX : xonly H0 H0 RKs := xonly.rf
  obtain ⟨k1, k2, k3⟩ := hC
  obtain ⟨c1, c2, c3, c4⟩ := hQ
  by_cases hkc : 0 ≤ k ∧ k < Cs.length
  · obtain ⟨x, hx⟩ : ∃ x, Cs[k.toNat]? = some x := ⟨_, List.getElem?_eq_getElem (by omega)⟩
    have hcd := c4 _ x hx
    rw [show ((k.toNat : Nat) : Int) = k by omega] at hcd
    obtain ⟨dn, tx, hsl, hDx, -, -⟩ := hcd
    have hh : hld Cs lv (zI k) = (dn (gd (S.2.1 16) k)).2.1 lv := by
      unfold hld
      rw [iAt_z hk, if_neg (by omega), hx]
      show x.1.2.1 lv = _
      rw [hDx]
    have hIH := r_isHeldX (l := l) (G := G) (o := o) (rf := rf) (d := d) (S := sp S 0 0) (s := k) (b := 0) (lv := lv) (by omega) (Or.inl rfl) (by omega) (k3 k (by omega) (by omega)) (hsl.sm (js := [0]) (is := []) (ls := []) (rSm.r0.sp (by decide)) (by decide) (by decide) (by decide)) h6 (evC_0 hsl hN h6 hV)
    have hh2 : hld Cs lv (zI k) = (dn (gd ((sp S 0 0).2.1 16) k)).2.1 lv := hh
    rw [← hh2] at hIH
    generalize hld Cs lv (zI k) = B at *
    have hbb := bZ_b B
    refine x_aload_n d_Mo_holds_0 rfl rfl ?_
    refine x_iconst (v := zI 0) d_Mo_holds_1 (by decide) ?_
    refine r_put xf_Mo_121_Mo xp_Mo_0 hR hX (by omega) rfl rfl d_Mo_holds_2 ?_
    intro h hR hX
    refine x_aload_n d_Mo_holds_5 rfl rfl ?_
    refine x_iload_n d_Mo_holds_6 rfl ?_
    refine x_callV (As := [_]) (k := k_MarkerTextModel) rfl xcv_Mo_281_Mo (Or.inl hR.1) (RM.ap hR (r_isCondition (by omega) hk (by exact k1))) rfl rfl (Nat.le_of_ble_eq_true rfl) d_Mo_holds_7 ?_
    rintro v7 h cq nq ⟨S7, hR, hX7, rfl, rfl, hE7, r7, rfl, hr7⟩
    replace hE7 := Eq.symm hE7
    subst hE7
    replace hX := hX.tr hX7
    replace hr7 : (r7 = 1 ∧ (0 ≤ k ∧ k ≤ S.1 11 - 1)) ∨ (r7 = 0 ∧ ¬ (0 ≤ k ∧ k ≤ S.1 11 - 1)) := hr7
    refine z_if_eq (tgt := 26) d_Mo_holds_10 (by decide) (by omega) (fun hq => by omega) (fun _ => ?_)
    refine x_aload_n d_Mo_holds_13 rfl rfl ?_
    refine x_iload_n d_Mo_holds_14 rfl ?_
    refine x_iconst (v := zI 0) d_Mo_holds_15 (by decide) ?_
    refine x_callV (As := [_, _]) (k := k_MarkerTextModel) rfl xcv_Mo_284_Mo (Or.inl hR.1) (RM.ap hR hIH) rfl rfl (Nat.le_of_ble_eq_true rfl) d_Mo_holds_16 ?_
    rintro v16 h cq nq ⟨S16, hR, hX16, rfl, rfl, us16, rfl, rfl⟩
    replace hX := hX.tr hX16
    refine z_if_eq (tgt := 26) d_Mo_holds_19 (by decide) (by omega) (fun hc19 => ?_) (fun hc19 => ?_)
    · refine x_iconst (v := zI 0) d_Mo_holds_26 (by decide) ?_
      refine x_zret d_Mo_holds_27 rfl (z_nb (by omega)) ?_
      exact ⟨_, hR, hX, rfl, rfl, by first | (rw [show bZ B = 1 by omega]) | (rw [show bZ B = 0 by omega]), (rSm.r0.sp (by decide)).sa (by decide)⟩
    · refine x_iconst (v := zI 1) d_Mo_holds_22 (by decide) ?_
      refine x_goto (tgt := 27) d_Mo_holds_23 (by decide) ?_
      refine x_zret d_Mo_holds_27 rfl (z_nb (by omega)) ?_
      exact ⟨_, hR, hX, rfl, rfl, by first | (rw [show bZ B = 1 by omega]) | (rw [show bZ B = 0 by omega]), (rSm.r0.sp (by decide)).sa (by decide)⟩
  · have hh : hld Cs lv (zI k) = false := by
      unfold hld
      rw [iAt_z hk]
      by_cases h0 : k < 0
      · rw [if_pos h0]
      · rw [if_neg h0, List.getElem?_eq_none (by omega)]
    refine x_aload_n d_Mo_holds_0 rfl rfl ?_
    refine x_iconst (v := zI 0) d_Mo_holds_1 (by decide) ?_
    refine r_put xf_Mo_121_Mo xp_Mo_0 hR hX (by omega) rfl rfl d_Mo_holds_2 ?_
    intro h hR hX
    refine x_aload_n d_Mo_holds_5 rfl rfl ?_
    refine x_iload_n d_Mo_holds_6 rfl ?_
    refine x_callV (As := [_]) (k := k_MarkerTextModel) rfl xcv_Mo_281_Mo (Or.inl hR.1) (RM.ap hR (r_isCondition (by omega) hk (by exact k1))) rfl rfl (Nat.le_of_ble_eq_true rfl) d_Mo_holds_7 ?_
    rintro v7 h cq nq ⟨S7, hR, hX7, rfl, rfl, hE7, r7, rfl, hr7⟩
    replace hE7 := Eq.symm hE7
    subst hE7
    replace hX := hX.tr hX7
    replace hr7 : (r7 = 1 ∧ (0 ≤ k ∧ k ≤ S.1 11 - 1)) ∨ (r7 = 0 ∧ ¬ (0 ≤ k ∧ k ≤ S.1 11 - 1)) := hr7
    refine z_if_eq (tgt := 26) d_Mo_holds_10 (by decide) (by omega) (fun _ => ?_) (fun hq => by omega)
    refine x_iconst (v := zI 0) d_Mo_holds_26 (by decide) ?_
    refine x_zret d_Mo_holds_27 rfl (z_nb (by omega)) ?_
    exact ⟨_, hR, hX, rfl, rfl, by rw [hh]; rfl, rSm.r0.sp (by decide)⟩
end RH13
