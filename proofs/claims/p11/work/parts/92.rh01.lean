section

end
section RH1
variable {l : Launch} {G : XG} {h : XH} {c n d : Nat} {o : Nat} {rf : Nat → Nat} {S : MS}
theorem scn_yes {f : Nat → Bool} {t : List Nat} {q : Nat} (hq : q < t.length) (h : f (chr t q) = true) : scn f t q = scn f t (q + 1) := scn_step hq (by rw [← chr_in hq]; exact h)
theorem scn_no {f : Nat → Bool} {t : List Nat} {q : Nat} (h : q < t.length → f (chr t q) = false) : scn f t q = q := by
  by_cases hq : q < t.length
  · exact scn_stop hq (by rw [← chr_in hq]; exact h hq)
  · exact scn_end (by omega)
/-- the names differ, and are no words of the language -/
def nmD (Ns : List NmT) : Prop := (∀ (i j : Nat) (x y : NmT), Ns[i]? = some x → Ns[j]? = some y → x.1 = y.1 → i = j) ∧ ∀ x ∈ Ns, x.1 ∉ kws ∧ x.1 ≠ []
/-- TEXT and the names, while a condition is read -/
def cx (t : List Nat) (Ns : List NmT) (S : MS) : Prop := txR t S ∧ (okTx t ∧ t.length ≤ 160) ∧ (nmR Ns S ∧ Ns.length ≤ 6) ∧ nmD Ns ∧ nmOk S
theorem cx.sz {t : List Nat} {Ns : List NmT} (hc : cx t Ns S) : szOk S := by
  obtain ⟨h1, h2, -⟩ := hc
  have := h1.1
  exact ⟨by omega, by omega⟩
theorem cx.sm {S' : MS} {t : List Nat} {Ns : List NmT} {js is ls : List Nat} (hc : cx t Ns S) (h : rSm S S' js is ls) (hj : ∀ j ∈ [2, 3], j ∉ js) (hi : ∀ i ∈ [1, 4, 5, 6, 7], i ∉ is) : cx t Ns S' := by
  obtain ⟨h1, h2, h3, h4, h5⟩ := hc
  exact ⟨h1.sm h (hj 2 (by simp)) (hi 1 (by simp)), h2, ⟨h3.1.sm h (hj 3 (by simp)) ⟨hi 4 (by simp), hi 5 (by simp), hi 6 (by simp)⟩, h3.2⟩, h4, h5.sm h (hj 3 (by simp)) ⟨hi 5 (by simp), hi 7 (by simp)⟩⟩
theorem cx.at {t : List Nat} {Ns : List NmT} (hc : cx t Ns S) {q : Nat} {b : Int} (hb : b = q) (hq : q < t.length) : gd (S.2.1 1) b = ((chr t q : Nat) : Int) := by
  rw [hb]
  exact hc.1.2 q hq
theorem chr_b {t : List Nat} (hc : okTx t) (q : Nat) : (q < t.length ∧ 32 ≤ chr t q ∧ chr t q ≤ 126) ∨ (t.length ≤ q ∧ chr t q = 0) := by
  by_cases hq : q < t.length
  · exact Or.inl ⟨hq, hc.at hq⟩
  · exact Or.inr ⟨by omega, chr_out (by omega)⟩
theorem r_skipX {t : List Nat} {Ns : List NmT} {p : Nat} (hc : cx t Ns S) (hp : S.1 27 = p) (hpl : p ≤ t.length) : RM l G d M_Mo_skip [.ref o] o rf S (fun w S' => S' = sp S 27 (skp t p : Nat) ∧ w = none) := by
  intro H0 c n hR
  obtain ⟨z1, z2⟩ := hc.sz
  have hs := hc.1.1
  refine XM.of (by decide +kernel) (Nat.le_of_ble_eq_true rfl) ?_
  have lp : ∀ (k : Nat) (q : Nat) (a : Int), a = q → q ≤ t.length → skp t q = skp t p → t.length - q ≤ k → RX l G M_Mo_skip d 0 [some (.ref o)] [] H0 o rf c n (sp S 27 a) (fun w S' => S' = sp S 27 (skp t p : Nat) ∧ w = none) := by
    intro k
    induction k with
    | zero =>
      intro q a ha hq he hk h hR hX
      have hf : skp t q = q := scn_no (fun z => by omega)
      refine x_aload_n d_Mo_skip_0 rfl rfl ?_
      refine x_get xf_Mo_193_Mo (Or.inl hR.1) (v := .int (zI a)) rfl d_Mo_skip_1 ?_
      have hb1 : inR a := hR.2.2.2 27
      refine x_aload_n d_Mo_skip_4 rfl rfl ?_
      refine x_get xf_Mo_124_Mo (Or.inl hR.1) (v := .int (zI (S.1 2))) rfl d_Mo_skip_5 ?_
      have hb5 : inR (S.1 2) := hR.2.2.2 2
      refine z_icmp_ge (tgt := 38) d_Mo_skip_8 (by decide) (by omega) (by omega) (fun _ => ?_) (fun hq => by omega)
      refine x_vret d_Mo_skip_38 rfl ?_
      exact ⟨_, hR, hX, rfl, rfl, by rw [← he, hf, ha], rfl⟩
    | succ k ih =>
      intro q a ha hq he hk h hR hX
      by_cases hql : q < t.length
      · have hat := hc.at ha hql
        by_cases h32 : chr t q = 32
        · have hf : skp t q = skp t (q + 1) := scn_yes hql (decide_eq_true h32)
          refine x_aload_n d_Mo_skip_0 rfl rfl ?_
          refine x_get xf_Mo_193_Mo (Or.inl hR.1) (v := .int (zI a)) rfl d_Mo_skip_1 ?_
          have hb1 : inR a := hR.2.2.2 27
          refine x_aload_n d_Mo_skip_4 rfl rfl ?_
          refine x_get xf_Mo_124_Mo (Or.inl hR.1) (v := .int (zI (S.1 2))) rfl d_Mo_skip_5 ?_
          have hb5 : inR (S.1 2) := hR.2.2.2 2
          refine z_icmp_ge (tgt := 38) d_Mo_skip_8 (by decide) (by omega) (by omega) (fun hq => by omega) (fun _ => ?_)
          refine x_aload_n d_Mo_skip_11 rfl rfl ?_
          refine x_get xf_Mo_7_Mo (Or.inl hR.1) (v := .ref (rf 1)) rfl d_Mo_skip_12 ?_
          refine x_aload_n d_Mo_skip_15 rfl rfl ?_
          refine x_get xf_Mo_193_Mo (Or.inl hR.1) (v := .int (zI a)) rfl d_Mo_skip_16 ?_
          have hb16 : inR a := hR.2.2.2 27
          refine r_iald (i := 1) (us := (S.2.1 1)) rfl (by decide) hR rfl (by omega) (by show a < 160; omega) d_Mo_skip_19 (fun hr19 => ?_)
          refine x_bipush (v := zI 32) d_Mo_skip_20 (by decide) ?_
          refine z_icmp_ne (tgt := 38) d_Mo_skip_22 (by decide) (by omega) (by omega) (fun hq => by omega) (fun _ => ?_)
          refine x_aload_n d_Mo_skip_25 rfl rfl ?_
          refine x_dup d_Mo_skip_26 rfl ?_
          refine x_get xf_Mo_193_Mo (Or.inl hR.1) (v := .int (zI a)) rfl d_Mo_skip_27 ?_
          have hb27 : inR a := hR.2.2.2 27
          refine x_iconst (v := zI 1) d_Mo_skip_30 (by decide) ?_
          refine z_iadd d_Mo_skip_31 ?_
          refine r_put xf_Mo_193_Mo xp_Mo_27 hR hX (by omega) rfl rfl d_Mo_skip_32 ?_
          intro h hR hX
          refine x_goto (tgt := 0) d_Mo_skip_35 (by decide) ?_
          exact ih (q + 1) (a + 1) (by omega) (by omega) (by rw [← hf, he]) (by omega) _ (by rw [sp_sp] at hR; exact hR) hX
        · have hf : skp t q = q := scn_no (fun _ => decide_eq_false h32)
          refine x_aload_n d_Mo_skip_0 rfl rfl ?_
          refine x_get xf_Mo_193_Mo (Or.inl hR.1) (v := .int (zI a)) rfl d_Mo_skip_1 ?_
          have hb1 : inR a := hR.2.2.2 27
          refine x_aload_n d_Mo_skip_4 rfl rfl ?_
          refine x_get xf_Mo_124_Mo (Or.inl hR.1) (v := .int (zI (S.1 2))) rfl d_Mo_skip_5 ?_
          have hb5 : inR (S.1 2) := hR.2.2.2 2
          refine z_icmp_ge (tgt := 38) d_Mo_skip_8 (by decide) (by omega) (by omega) (fun hq => by omega) (fun _ => ?_)
          refine x_aload_n d_Mo_skip_11 rfl rfl ?_
          refine x_get xf_Mo_7_Mo (Or.inl hR.1) (v := .ref (rf 1)) rfl d_Mo_skip_12 ?_
          refine x_aload_n d_Mo_skip_15 rfl rfl ?_
          refine x_get xf_Mo_193_Mo (Or.inl hR.1) (v := .int (zI a)) rfl d_Mo_skip_16 ?_
          have hb16 : inR a := hR.2.2.2 27
          refine r_iald (i := 1) (us := (S.2.1 1)) rfl (by decide) hR rfl (by omega) (by show a < 160; omega) d_Mo_skip_19 (fun hr19 => ?_)
          refine x_bipush (v := zI 32) d_Mo_skip_20 (by decide) ?_
          refine z_icmp_ne (tgt := 38) d_Mo_skip_22 (by decide) (by omega) (by omega) (fun _ => ?_) (fun hq => by omega)
          refine x_vret d_Mo_skip_38 rfl ?_
          exact ⟨_, hR, hX, rfl, rfl, by rw [← he, hf, ha], rfl⟩
      · have hf : skp t q = q := scn_no (fun z => absurd z hql)
        refine x_aload_n d_Mo_skip_0 rfl rfl ?_
        refine x_get xf_Mo_193_Mo (Or.inl hR.1) (v := .int (zI a)) rfl d_Mo_skip_1 ?_
        have hb1 : inR a := hR.2.2.2 27
        refine x_aload_n d_Mo_skip_4 rfl rfl ?_
        refine x_get xf_Mo_124_Mo (Or.inl hR.1) (v := .int (zI (S.1 2))) rfl d_Mo_skip_5 ?_
        have hb5 : inR (S.1 2) := hR.2.2.2 2
        refine z_icmp_ge (tgt := 38) d_Mo_skip_8 (by decide) (by omega) (by omega) (fun _ => ?_) (fun hq => by omega)
        refine x_vret d_Mo_skip_38 rfl ?_
        exact ⟨_, hR, hX, rfl, rfl, by rw [← he, hf, ha], rfl⟩
  exact lp (t.length - p) p (S.1 27) hp hpl rfl (by omega) _ (by rw [sp_id]; exact hR) xonly.rf
/-- the character at a place, or -1 -/
def nw (t : List Nat) (p : Nat) : Int := if p < t.length then ((chr t p : Nat) : Int) else -1
theorem nw_eq {t : List Nat} {p ch : Nat} (hc : okTx t) (h0 : 0 < ch) : nw t p = (ch : Int) ↔ chr t p = ch := by
  unfold nw
  rcases chr_b hc p with ⟨h1, h2⟩ | ⟨h1, h2⟩
  · rw [if_pos h1]
    omega
  · rw [if_neg (by omega)]
    omega
theorem nw_b {t : List Nat} {p : Nat} (hc : okTx t) : -1 ≤ nw t p ∧ nw t p ≤ 126 := by
  unfold nw
  rcases chr_b hc p with ⟨h1, h2⟩ | ⟨h1, h2⟩
  · rw [if_pos h1]
    omega
  · rw [if_neg (by omega)]
    omega
theorem r_nowX {t : List Nat} {Ns : List NmT} {p : Nat} (hc : cx t Ns S) (hp : S.1 27 = p) : RM l G d M_Mo_now [.ref o] o rf S (fun w S' => S' = S ∧ w = some (.int (zI (nw t p)))) := by
  refine (r_now (by omega) hc.sz).mono ?_
  rintro v S' ⟨rfl, r, rfl, -, hr⟩
  refine ⟨rfl, ?_⟩
  have hs := hc.1.1
  unfold nw
  rcases hr with ⟨h1, h2⟩ | ⟨h1, h2⟩
  · rw [if_pos (by omega), h2, hc.at hp (by omega)]
  · rw [if_neg (by omega), h2]
theorem wrd_len {t : List Nat} {p : Nat} : (wrd t p).length = scn qL t p - p := by
  show ((t.drop p).takeWhile qL).length = p + ((t.drop p).takeWhile qL).length - p
  omega
theorem r_lettersX {t : List Nat} {Ns : List NmT} {p : Nat} (hd : 1 ≤ d) (hc : cx t Ns S) (hp : p ≤ t.length) : RM l G d M_Mo_letters [.ref o, .int (zI (p : Nat))] o rf S (fun w S' => S' = S ∧ w = some (.int (zI ((wrd t p).length : Nat)))) := by
  obtain ⟨d, rfl⟩ : ∃ q, d = q + 1 := ⟨d - 1, by omega⟩
  intro H0 c n hR
  obtain ⟨z1, z2⟩ := hc.sz
  have hs := hc.1.1
  have hwl := wrd_len (t := t) (p := p)
  have hge : p ≤ scn qL t p := scn_ge
  refine XM.of (by decide +kernel) (Nat.le_of_ble_eq_true rfl) ?_
  have lp : ∀ (k q : Nat) (b : Int), b = q → q ≤ t.length → scn qL t q = scn qL t p → t.length - q ≤ k → RX l G M_Mo_letters (d + 1) 2 [some (.ref o), some (.int (zI (p : Nat))), some (.int (zI b))] [] H0 o rf c n S (fun w S' => S' = S ∧ w = some (.int (zI ((wrd t p).length : Nat)))) := by
    intro k
    induction k with
    | zero =>
      intro q b hb hq he hk h hR hX
      have hf : scn qL t q = q := scn_no (fun z => by omega)
      refine x_iload_n d_Mo_letters_2 rfl ?_
      refine x_aload_n d_Mo_letters_3 rfl rfl ?_
      refine x_get xf_Mo_124_Mo (Or.inl hR.1) (v := .int (zI (S.1 2))) rfl d_Mo_letters_4 ?_
      have hb4 : inR (S.1 2) := hR.2.2.2 2
      refine z_icmp_ge (tgt := 28) d_Mo_letters_7 (by decide) (by omega) (by omega) (fun _ => ?_) (fun hq => by omega)
      refine x_iload_n d_Mo_letters_28 rfl ?_
      refine x_iload_n d_Mo_letters_29 rfl ?_
      refine z_isub d_Mo_letters_30 ?_
      refine x_iret d_Mo_letters_31 rfl ?_
      exact ⟨_, hR, hX, rfl, rfl, rfl, by rw [show b - (p : Int) = ((wrd t p).length : Nat) by omega]⟩
    | succ k ih =>
      intro q b hb hq he hk h hR hX
      by_cases hql : q < t.length
      · have hat := hc.at hb hql
        by_cases hL : isLt (chr t q)
        · have hf : scn qL t q = scn qL t (q + 1) := scn_yes hql (decide_eq_true hL)
          refine x_iload_n d_Mo_letters_2 rfl ?_
          refine x_aload_n d_Mo_letters_3 rfl rfl ?_
          refine x_get xf_Mo_124_Mo (Or.inl hR.1) (v := .int (zI (S.1 2))) rfl d_Mo_letters_4 ?_
          have hb4 : inR (S.1 2) := hR.2.2.2 2
          refine z_icmp_ge (tgt := 28) d_Mo_letters_7 (by decide) (by omega) (by omega) (fun hq => by omega) (fun _ => ?_)
          refine x_aload_n d_Mo_letters_10 rfl rfl ?_
          refine x_get xf_Mo_7_Mo (Or.inl hR.1) (v := .ref (rf 1)) rfl d_Mo_letters_11 ?_
          refine x_iload_n d_Mo_letters_14 rfl ?_
          refine r_iald (i := 1) (us := (S.2.1 1)) rfl (by decide) hR rfl (by omega) (by show b < 160; omega) d_Mo_letters_15 (fun hr15 => ?_)
          refine x_callS (As := [_]) xcs_Mo_127 (r_isLetter hr15) rfl rfl (Nat.le_of_ble_eq_true rfl) d_Mo_letters_16 ?_
          rintro v16 h cq nq ⟨rfl, rfl, rfl, r16, rfl, hr16⟩
          refine z_if_eq (tgt := 28) d_Mo_letters_19 (by decide) (by omega) (fun hq => by omega) (fun _ => ?_)
          refine x_iinc (v := zI (b + 1)) (L' := [_, _, _]) d_Mo_letters_22 rfl (zI_add _ _) rfl rfl ?_
          refine x_goto (tgt := 2) d_Mo_letters_25 (by decide) ?_
          exact ih (q + 1) (b + 1) (by omega) (by omega) (by rw [← hf, he]) (by omega) _ hR hX
        · have hf : scn qL t q = q := scn_no (fun _ => decide_eq_false hL)
          refine x_iload_n d_Mo_letters_2 rfl ?_
          refine x_aload_n d_Mo_letters_3 rfl rfl ?_
          refine x_get xf_Mo_124_Mo (Or.inl hR.1) (v := .int (zI (S.1 2))) rfl d_Mo_letters_4 ?_
          have hb4 : inR (S.1 2) := hR.2.2.2 2
          refine z_icmp_ge (tgt := 28) d_Mo_letters_7 (by decide) (by omega) (by omega) (fun hq => by omega) (fun _ => ?_)
          refine x_aload_n d_Mo_letters_10 rfl rfl ?_
          refine x_get xf_Mo_7_Mo (Or.inl hR.1) (v := .ref (rf 1)) rfl d_Mo_letters_11 ?_
          refine x_iload_n d_Mo_letters_14 rfl ?_
          refine r_iald (i := 1) (us := (S.2.1 1)) rfl (by decide) hR rfl (by omega) (by show b < 160; omega) d_Mo_letters_15 (fun hr15 => ?_)
          refine x_callS (As := [_]) xcs_Mo_127 (r_isLetter hr15) rfl rfl (Nat.le_of_ble_eq_true rfl) d_Mo_letters_16 ?_
          rintro v16 h cq nq ⟨rfl, rfl, rfl, r16, rfl, hr16⟩
          refine z_if_eq (tgt := 28) d_Mo_letters_19 (by decide) (by omega) (fun _ => ?_) (fun hq => by omega)
          refine x_iload_n d_Mo_letters_28 rfl ?_
          refine x_iload_n d_Mo_letters_29 rfl ?_
          refine z_isub d_Mo_letters_30 ?_
          refine x_iret d_Mo_letters_31 rfl ?_
          exact ⟨_, hR, hX, rfl, rfl, rfl, by rw [show b - (p : Int) = ((wrd t p).length : Nat) by omega]⟩
      · have hf : scn qL t q = q := scn_no (fun z => absurd z hql)
        refine x_iload_n d_Mo_letters_2 rfl ?_
        refine x_aload_n d_Mo_letters_3 rfl rfl ?_
        refine x_get xf_Mo_124_Mo (Or.inl hR.1) (v := .int (zI (S.1 2))) rfl d_Mo_letters_4 ?_
        have hb4 : inR (S.1 2) := hR.2.2.2 2
        refine z_icmp_ge (tgt := 28) d_Mo_letters_7 (by decide) (by omega) (by omega) (fun _ => ?_) (fun hq => by omega)
        refine x_iload_n d_Mo_letters_28 rfl ?_
        refine x_iload_n d_Mo_letters_29 rfl ?_
        refine z_isub d_Mo_letters_30 ?_
        refine x_iret d_Mo_letters_31 rfl ?_
        exact ⟨_, hR, hX, rfl, rfl, rfl, by rw [show b - (p : Int) = ((wrd t p).length : Nat) by omega]⟩
  have hX : xonly H0 H0 RKs := xonly.rf
  refine x_iload_n d_Mo_letters_0 rfl ?_
  refine x_istore_n (L' := [_, _, _]) d_Mo_letters_1 rfl rfl ?_
  exact lp (t.length - p) p _ rfl hp rfl (by omega) _ hR hX
theorem wrd_lt {t : List Nat} {p : Nat} : ∀ ch ∈ wrd t p, isLt ch := by
  intro ch hm
  have := List.all_eq_true.mp (List.all_takeWhile (p := qL) (l := t.drop p)) ch hm
  exact of_decide_eq_true this
theorem wrd_get {t : List Nat} {p i : Nat} (hi : i < (wrd t p).length) : (wrd t p).getD i 0 = chr t (p + i) := by
  have e : (t.drop p).take (wrd t p).length = wrd t p := take_tw (q := qL) (t.drop p)
  rw [← e, List.getD_eq_getElem?_getD, List.getElem?_take, if_pos hi, List.getElem?_drop]
  show (t[p + i]?).getD 0 = t.getD (p + i) 0
  rw [List.getD_eq_getElem?_getD]
theorem wrd_end {t : List Nat} {p : Nat} (hp : p ≤ t.length) : p + (wrd t p).length ≤ t.length := wrd_le hp
/-- the number of a word -/
def wnR (u : List Nat) : Int := if u.length ≤ 8 then wr u.reverse else -1
theorem r_wordY {t : List Nat} {Ns : List NmT} {p : Nat} (hc : cx t Ns S) (hp : p ≤ t.length) : RM l G d M_Mo_word [.ref o, .int (zI (p : Nat)), .int (zI ((wrd t p).length : Nat))] o rf S (fun w S' => S' = S ∧ w = some (.long (zL (wnR (wrd t p))))) := by
  have he := wrd_end hp
  have hl := hc.2.1.2
  have hlt : ∀ i : Int, (p : Int) ≤ i → i < (p : Int) + ((wrd t p).length : Nat) → 97 ≤ gd (S.2.1 1) i ∧ gd (S.2.1 1) i ≤ 122 := by
    intro i h1 h2
    have hi : (i - p).toNat < (wrd t p).length := by omega
    have hm : (wrd t p).getD (i - p).toNat 0 ∈ wrd t p := by
      rw [List.getD_eq_getElem?_getD, List.getElem?_eq_getElem hi]
      exact List.getElem_mem hi
    have h3 := wrd_lt _ hm
    rw [wrd_get hi] at h3
    have h4 := hc.at (q := p + (i - p).toNat) (b := i) (by omega) (by omega)
    omega
  by_cases h8 : (wrd t p).length ≤ 8
  · refine (r_wordX (a := p) (m := ((wrd t p).length : Nat)) (by omega) (by omega) (by omega) (by omega) (by omega) hlt).mono ?_
    rintro v S' ⟨rfl, rfl⟩
    refine ⟨rfl, ?_⟩
    unfold wnR
    rw [if_pos h8, Int.toNat_natCast, wz_wr (u := wrd t p) (wrd t p).length (Nat.le_refl _) (fun i hi => ?_), List.take_length]
    rw [wrd_get hi]
    exact hc.at (by omega) (by omega)
  · refine (r_wordL (a := p) (m := ((wrd t p).length : Nat)) (by omega) (by omega) (by omega) (by omega) (by omega) hlt).mono ?_
    rintro v S' ⟨rfl, z, rfl, hz⟩
    refine ⟨rfl, ?_⟩
    unfold wnR
    rw [if_neg h8]
    rcases hz with ⟨-, rfl⟩ | ⟨h, -⟩
    · rfl
    · omega
/-- what a word of the language means -/
def kwN (u : List Nat) : Int := if u = [111, 114] then 3 else if u = [97, 110, 100] then 2 else if u = [110, 111, 116] then 1 else if u = [105, 110] then 7 else if u = [116, 114, 117, 101] then 5 else if u = [102, 97, 108, 115, 101] then 6 else 0
theorem wn_b {u : List Nat} (hu : ∀ ch ∈ u, isLt ch) : -2 ^ 62 ≤ wnR u ∧ wnR u < 2 ^ 62 := by
  unfold wnR
  split
  · exact wr_62 (by simpa using ‹u.length ≤ 8›) (fun ch hc => hu ch (List.mem_reverse.mp hc))
  · omega
theorem wn_eq {u w : List Nat} (hu : ∀ ch ∈ u, isLt ch) (hw : ∀ ch ∈ w, isLt ch) (hl : w.length ≤ 8) : zL (wnR u) = zL (wr w.reverse) ↔ u = w := by
  have b1 := wn_b hu
  have b2 := wr_62 (u := w.reverse) (by simpa using hl) (fun ch hc => hw ch (List.mem_reverse.mp hc))
  constructor
  · intro e
    have e1 := zL_eq b1 b2 e
    unfold wnR at e1
    split at e1
    · exact List.reverse_inj.mp (wr_inj _ _ (fun ch hc => hu ch (List.mem_reverse.mp hc)) (fun ch hc => hw ch (List.mem_reverse.mp hc)) e1)
    · have := wr_nn w.reverse (fun ch hc => hw ch (List.mem_reverse.mp hc))
      omega
  · intro e
    rw [e]
    unfold wnR
    rw [if_pos hl]
theorem kwd_N {u : List Nat} (hu : ∀ ch ∈ u, isLt ch) : kwd (zL (wnR u)) = kwN u := by
  have key : ∀ (w : List Nat) (y : Int64), (∀ ch ∈ w, isLt ch) → w.length ≤ 8 → y = zL (wr w.reverse) → (zL (wnR u) = y ↔ u = w) := by
    intro w y hw hl hy
    rw [hy]
    exact wn_eq hu hw hl
  have k1 := key [111, 114] 498 (by decide) (by decide) (by decide)
  have k2 := key [97, 110, 100] 1476 (by decide) (by decide) (by decide)
  have k3 := key [110, 111, 116] 14836 (by decide) (by decide) (by decide)
  have k4 := key [105, 110] 302 (by decide) (by decide) (by decide)
  have k5 := key [116, 114, 117, 101] 674469 (by decide) (by decide) (by decide)
  have k6 := key [102, 97, 108, 115, 101] 6337125 (by decide) (by decide) (by decide)
  unfold kwd kwN
  simp only [k1, k2, k3, k4, k5, k6]
theorem mnf_no {x : Int64} : ∀ k : Nat, (∀ i : Nat, i < k → ¬ zL (itz S i) = x) → mnf S x k = kwd x := by
  intro k
  induction k with
  | zero => intro _; rfl
  | succ k ih =>
    intro hn
    unfold mnf
    rw [if_neg (hn k (by omega))]
    exact ih (fun i hi => hn i (by omega))
theorem mnf_yes {x : Int64} {i : Nat} (hi : zL (itz S i) = x) : ∀ k : Nat, i < k → (∀ j : Nat, i < j → j < k → ¬ zL (itz S j) = x) → mnf S x k = (i : Int) - 100 := by
  intro k
  induction k with
  | zero => intro h; omega
  | succ k ih =>
    intro h hn
    unfold mnf
    by_cases e : i = k
    · subst e
      rw [if_pos hi]
    · rw [if_neg (hn k (by omega) (by omega))]
      exact ih (by omega) (fun j h1 h2 => hn j h1 (by omega))
/-- what a word means -/
def mng (Ns : List NmT) (u : List Nat) : Int := match nof Ns u with
  | some i => (i : Int) - 100
  | none => kwN u
theorem r_meaningY {t : List Nat} {Ns : List NmT} {u : List Nat} (hc : cx t Ns S) (hu : ∀ ch ∈ u, isLt ch) : RM l G d M_Mo_meaning [.ref o, .long (zL (wnR u))] o rf S (fun w S' => S' = S ∧ w = some (.int (zI (mng Ns u)))) := by
  obtain ⟨h1, h2, ⟨hN, h6⟩, hD, hn⟩ := id hc
  refine (r_meaningX hn hN.L).mono ?_
  rintro v S' ⟨rfl, rfl⟩
  refine ⟨rfl, ?_⟩
  have e3 : (S'.1 3).toNat = Ns.length := by rw [hN.1]; exact Int.toNat_natCast _
  have hit : ∀ (j : Nat) (x : NmT), Ns[j]? = some x → (zL (itz S' j) = zL (wnR u) ↔ u = x.1) := by
    intro j x hx
    obtain ⟨g1, g2, g3, g4, g5, g6⟩ := hN.2 j x hx
    rw [hN.its hx, ← wn_eq hu g5 g4]
    exact ⟨fun e => e.symm, fun e => e.symm⟩
  rw [e3]
  unfold mng
  cases hno : nof Ns u with
  | none =>
    have hnone : ∀ x ∈ Ns, ¬ x.1 = u := by
      unfold nof at hno
      rw [List.findIdx?_eq_none_iff] at hno
      simpa using hno
    rw [mnf_no, kwd_N hu]
    intro i hi e
    have hx := List.getElem?_eq_getElem hi
    exact hnone _ (List.getElem_mem hi) ((hit i _ hx).mp e).symm
  | some i =>
    obtain ⟨i1, i2, i3⟩ := nof_some hno
    rw [mnf_yes ((hit i _ i2).mpr i3.symm) Ns.length i1]
    intro j h1 h2 e
    have hx := List.getElem?_eq_getElem h2
    have := hD.1 i j _ _ i2 hx (by rw [i3]; exact (hit j _ hx).mp e)
    omega
theorem mng_kw {Ns : List NmT} {u : List Nat} (hD : nmD Ns) (h6 : Ns.length ≤ 6) (hne : u ≠ []) : (mng Ns u = 3 ↔ u = [111, 114]) ∧ (mng Ns u = 2 ↔ u = [97, 110, 100]) ∧ (mng Ns u = 1 ↔ u = [110, 111, 116]) ∧ (mng Ns u = 7 ↔ u = [105, 110]) ∧ (mng Ns u = 5 ↔ u = [116, 114, 117, 101]) ∧ (mng Ns u = 6 ↔ u = [102, 97, 108, 115, 101]) ∧ (mng Ns u < 0 ↔ (nof Ns u).isSome) ∧ -100 ≤ mng Ns u ∧ mng Ns u ≤ 7 ∧ ∀ i, nof Ns u = some i → mng Ns u = (i : Int) - 100 := by
  unfold mng
  cases hno : nof Ns u with
  | some i =>
    obtain ⟨i1, i2, i3⟩ := nof_some hno
    have hk := (hD.2 _ (List.mem_of_getElem? i2)).1
    rw [i3, kws_eq] at hk
    simp only [List.mem_cons, List.not_mem_nil, or_false, not_or] at hk
    obtain ⟨k1, k2, k3, k4, k5, k6⟩ := hk
    show (((i : Nat) : Int) - 100 = 3 ↔ _) ∧ (((i : Nat) : Int) - 100 = 2 ↔ _) ∧ (((i : Nat) : Int) - 100 = 1 ↔ _) ∧ (((i : Nat) : Int) - 100 = 7 ↔ _) ∧ (((i : Nat) : Int) - 100 = 5 ↔ _) ∧ (((i : Nat) : Int) - 100 = 6 ↔ _) ∧ (((i : Nat) : Int) - 100 < 0 ↔ _) ∧ -100 ≤ ((i : Nat) : Int) - 100 ∧ ((i : Nat) : Int) - 100 ≤ 7 ∧ _
    refine ⟨⟨fun z => by omega, fun z => absurd z k1⟩, ⟨fun z => by omega, fun z => absurd z k2⟩, ⟨fun z => by omega, fun z => absurd z k3⟩, ⟨fun z => by omega, fun z => absurd z k4⟩, ⟨fun z => by omega, fun z => absurd z k5⟩, ⟨fun z => by omega, fun z => absurd z k6⟩, ⟨fun _ => rfl, fun _ => by show (i : Int) - 100 < 0; omega⟩, by show -100 ≤ (i : Int) - 100; omega, by show (i : Int) - 100 ≤ 7; omega, fun j hj => by cases hj; rfl⟩
  | none =>
    show (kwN u = 3 ↔ _) ∧ (kwN u = 2 ↔ _) ∧ (kwN u = 1 ↔ _) ∧ (kwN u = 7 ↔ _) ∧ (kwN u = 5 ↔ _) ∧ (kwN u = 6 ↔ _) ∧ (kwN u < 0 ↔ _) ∧ -100 ≤ kwN u ∧ kwN u ≤ 7 ∧ _
    unfold kwN
    by_cases e1 : u = [111, 114]
    · subst e1; simp
    by_cases e2 : u = [97, 110, 100]
    · subst e2; simp
    by_cases e3 : u = [110, 111, 116]
    · subst e3; simp
    by_cases e4 : u = [105, 110]
    · subst e4; simp
    by_cases e5 : u = [116, 114, 117, 101]
    · subst e5; simp
    by_cases e6 : u = [102, 97, 108, 115, 101]
    · subst e6; simp
    simp [e1, e2, e3, e4, e5, e6]
end RH1
