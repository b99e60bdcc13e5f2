section

end
section RH12
variable {l : Launch} {G : XG} {h : XH} {c n d : Nat} {o : Nat} {rf : Nat → Nat} {S : MS}
/-- a condition that is there, in the reference: what it means, its tests -/
def cdR (Ns : List NmT) (S : MS) (c : Int) (D : Den) (ts : List TsT) : Prop := ∃ (dn : Int → Den) (tx : Int → Option TsT), slR Ns S c dn tx ∧ D = dn (gd (S.2.1 16) c) ∧ (128 * c ≤ gd (S.2.1 16) c ∧ gd (S.2.1 16) c < 128 * c + gd (S.2.1 15) c) ∧ ts = tsF c tx (gd (S.2.1 21) c).toNat
theorem cdR.ag {S' : MS} {Ns : List NmT} {c : Int} {D : Den} {ts : List TsT} (h : cdR Ns S c D ts) (a : agX S S' c) : cdR Ns S' c D ts := by
  obtain ⟨dn, tx, h1, h2, h3, h4⟩ := h
  have e16 := a.1.2.2.2 16 (by decide)
  have e15 := a.1.2.2.2 15 (by decide)
  have e21 := a.1.2.2.2 21 (by decide)
  exact ⟨dn, tx, h1.ag a, by rw [e16]; exact h2, by rw [e16, e15]; exact h3, by rw [e21]; exact h4⟩
/-- the names may get more VALUES, and there may be more of them -/
def nsX (Ns Ns' : List NmT) : Prop := ∀ (i : Nat) (x : NmT), Ns[i]? = some x → ∃ y, Ns'[i]? = some y ∧ y.1 = x.1 ∧ y.2.1 = x.2.1
theorem nsX.r0 {Ns : List NmT} : nsX Ns Ns := fun i x hx => ⟨x, hx, rfl, rfl⟩
theorem nsX.app {Ns : List NmT} {y : NmT} : nsX Ns (Ns ++ [y]) := fun i x hx => ⟨x, by rw [List.getElem?_append_left (List.getElem?_eq_some_iff.mp hx).1]; exact hx, rfl, rfl⟩
theorem nsX.set {Ns : List NmT} {k : Nat} {x : NmT} {ks : List Nat} (hx : Ns[k]? = some x) : nsX Ns (Ns.set k (x.1, x.2.1, ks)) := by
  intro i y hy
  by_cases e : i = k
  · subst e
    rw [hx] at hy
    cases hy
    exact ⟨(x.1, x.2.1, ks), by rw [List.getElem?_set_self (List.getElem?_eq_some_iff.mp hx).1], rfl, rfl⟩
  · exact ⟨y, by rw [List.getElem?_set_ne (Ne.symm e)]; exact hy, rfl, rfl⟩
theorem tsR.ns {Ns Ns' : List NmT} {s q : Int} {x : TsT} (h : tsR Ns S s q x) (hn : nsX Ns Ns') : tsR Ns' S s q x := by
  obtain ⟨nm, ws, g1, g2, g3, g4, g5, g7, g8, g10, g11⟩ := h
  obtain ⟨y, y1, y2, y3⟩ := hn _ _ g1
  exact ⟨y, ws, y1, g2, g3, g4, g5, by rw [y3]; exact g7, g8, by rw [y3]; exact g10, by rw [y2]; exact g11⟩
theorem slR.ns {Ns Ns' : List NmT} {s : Int} {dn : Int → Den} {tx : Int → Option TsT} (h : slR Ns S s dn tx) (hn : nsX Ns Ns') : slR Ns' S s dn tx := ⟨h.1, h.2.1, fun q h1 h2 => (h.2.2.1 q h1 h2).elim Or.inl (fun ⟨x, a, b⟩ => Or.inr ⟨x, a, b.ns hn⟩), h.2.2.2⟩
theorem cdR.ns {Ns Ns' : List NmT} {c : Int} {D : Den} {ts : List TsT} (h : cdR Ns S c D ts) (hn : nsX Ns Ns') : cdR Ns' S c D ts := by
  obtain ⟨dn, tx, h1, h2⟩ := h
  exact ⟨dn, tx, h1.ns hn, h2⟩
/-- the conditions, and where the latest text was ILL, in the reference -/
def cqR (Ns : List NmT) (Cs : List CnT) (il : Option Nat) (S : MS) : Prop := S.1 11 = Cs.length ∧ Cs.length ≤ 8 ∧ zI (S.1 30) = oI il ∧ ∀ (i : Nat) (x : CnT), Cs[i]? = some x → cdR Ns S i x.1 x.2
theorem cqR.sm {S' : MS} {Ns : List NmT} {Cs : List CnT} {il : Option Nat} {js is ls : List Nat} (hq : cqR Ns Cs il S) (h : rSm S S' js is ls) (hj : ∀ j ∈ [11, 30], j ∉ js) (hi : ∀ i ∈ [12, 13, 14, 15, 16, 17, 18, 19, 20, 21, 24, 26], i ∉ is) (h23 : 23 ∉ is) (h22 : 22 ∉ ls) : cqR Ns Cs il S' := by
  obtain ⟨h1, h2, h3, h4⟩ := hq
  exact ⟨by rw [h.1 11 (hj 11 (by simp))]; exact h1, h2, by rw [h.1 30 (hj 30 (by simp))]; exact h3, fun i x hx => (h4 i x hx).ag (agX.sm h hi h23 h22)⟩
theorem cqR.ns {Ns Ns' : List NmT} {Cs : List CnT} {il : Option Nat} (hq : cqR Ns Cs il S) (hn : nsX Ns Ns') : cqR Ns' Cs il S := ⟨hq.1, hq.2.1, hq.2.2.1, fun i x hx => (hq.2.2.2 i x hx).ns hn⟩
/-- how condition() ends, in full -/
def cdX (t : List Nat) (Ns : List NmT) (Cs : List CnT) (S : MS) : Option Value → MS → Prop := fun v S' => S'.1 2 = 0 ∧ rSm S S' cdJ cdA [22] ∧ nmOk S' ∧ csOk S' ∧ ∃ r, v = some (.int r) ∧ match (rW t Ns).2 with
  | none => S'.1 0 = 1 ∧ cqR Ns Cs (some (rW t Ns).1) S'
  | some D => if 8 ≤ Cs.length then S'.1 0 = 2 ∧ cqR Ns Cs none S' else S'.1 0 = 0 ∧ r = zI (S.1 11) ∧ cqR Ns (Cs ++ [D]) none S'
set_option maxHeartbeats 1000000 in
theorem r_conditionX (hd : 8 ≤ d) {t : List Nat} {Ns : List NmT} {Cs : List CnT} {il : Option Nat} (hc : cx t Ns S) (hC : csOk S) (hQ : cqR Ns Cs il S) : RM l G d M_Mo_condition [.ref o] o rf S (cdX t Ns Cs S) := by
  obtain ⟨d, rfl⟩ : ∃ q, d = q + 1 := ⟨d - 1, by omega⟩
  intro H0 c n hR
  refine XM.of (by decide +kernel) (Nat.le_of_ble_eq_true rfl) ?_
  have hX : xonly H0 H0 RKs := xonly.rf
  obtain ⟨k1, k2, k3⟩ := id hC
  obtain ⟨c1, c2, c3, c4⟩ := id hQ
  have hs2 := hc.1.1
  have hl := hc.2.1.2
  have hc0 : cx t Ns (sp S 28 (S.1 11)) := hc.sm (js := [28]) (is := []) (ls := []) (rSm.r0.sp (by decide)) (by decide) (by decide)
  have hrW := rW_le (t := t) (Ns := Ns)
  -- what every end keeps
  have keep : ∀ (S9 S2 : MS) (t52 : Int), fX (sp S 28 (S.1 11)) S9 → S2 = sp (sp (sp S9 2 0) 30 (S9.1 29)) 0 t52 → rSm S S2 cdJ cdA [22] ∧ nmOk S2 ∧ (∀ cc : Int, 0 ≤ cc → cc ≤ 8 → cc ≠ S.1 11 → agX S S2 cc) ∧ S2.1 11 = S.1 11 := by
    intro S9 S2 t52 hf e
    subst e
    have h0 : rSm S S9 cdJ cdA [22] := (rSm.r0.sp (by decide)).tr (hf.1.mono (by decide) (by decide) (by decide))
    have h1 : rSm S (sp (sp (sp S9 2 0) 30 (S9.1 29)) 0 t52) cdJ cdA [22] := ((h0.sp (by decide)).sp (by decide)).sp (by decide)
    have e11 : S9.1 11 = S.1 11 := hf.1.1 11 (by decide)
    refine ⟨h1, hc.2.2.2.2.sm h1 (by decide) (by decide), fun cc q1 q2 q3 => ?_, e11⟩
    have a1 : agX S (sp S 28 (S.1 11)) cc := agX.sm ((rSm.r0 (js := [28]) (is := []) (ls := [])).sp (by decide)) (by decide) (by decide) (by decide)
    have a2 : agX (sp S 28 (S.1 11)) S9 cc := hf.2 cc q1 q2 q3
    have a3 : agX S9 (sp (sp (sp S9 2 0) 30 (S9.1 29)) 0 t52) cc := agX.sm ((((rSm.r0 (js := [0, 2, 30]) (is := []) (ls := [])).sp (by decide)).sp (by decide)).sp (by decide)) (by decide) (by decide) (by decide)
    exact (a1.tr a2).tr a3
  have csk : ∀ S2 : MS, (∀ cc : Int, 0 ≤ cc → cc ≤ 8 → cc ≠ S.1 11 → agX S S2 cc) → S2.1 11 = S.1 11 → csOk S2 := fun S2 ha e => ⟨by omega, by omega, fun cc q1 q2 => (k3 cc q1 (by omega)).agr (ha cc q1 (by omega) (by omega)).1⟩
  have cqk : ∀ (S2 : MS) (jl : Option Nat), (∀ cc : Int, 0 ≤ cc → cc ≤ 8 → cc ≠ S.1 11 → agX S S2 cc) → S2.1 11 = S.1 11 → zI (S2.1 30) = oI jl → cqR Ns Cs jl S2 := fun S2 jl ha e e30 => ⟨by rw [e]; exact c1, c2, e30, fun i x hx => (c4 i x hx).ag (ha i (by omega) (by have := (List.getElem?_eq_some_iff.mp hx).1; omega) (by have := (List.getElem?_eq_some_iff.mp hx).1; omega))⟩
  have finW : ∀ (S9 : MS) (t52 : Int) (a : Nat), fX (sp S 28 (S.1 11)) S9 → rW t Ns = (a, none) → S9.1 29 = (a : Nat) → t52 = 1 → cdX t Ns Cs S (some (.int (zI 0))) (sp (sp (sp S9 2 0) 30 (S9.1 29)) 0 t52) := by
    intro S9 t52 a hf e1 e2 e3
    obtain ⟨g1, g2, g3, g4⟩ := keep S9 _ t52 hf rfl
    refine ⟨rfl, g1, g2, csk _ g3 g4, _, rfl, ?_⟩
    rw [e1]
    refine ⟨e3, cqk _ _ g3 g4 ?_⟩
    rw [e1] at hrW
    show zI (S9.1 29) = nI a
    rw [e2, zI_nI (by have : a ≤ t.length := hrW; omega)]
  have finF : ∀ (S9 : MS) (t52 : Int) (a : Nat) (D : Den) (ts : List TsT) (p tc : Nat), fX (sp S 28 (S.1 11)) S9 → rW t Ns = (a, some (D, ts)) → rdX t Ns S9 [] [D] p tc ts → S.1 11 = 8 → t52 = 2 → cdX t Ns Cs S (some (.int (zI 0))) (sp (sp (sp S9 2 0) 30 (S9.1 29)) 0 t52) := by
    intro S9 t52 a D ts p tc hf e1 hX9 e8 e3
    obtain ⟨g1, g2, g3, g4⟩ := keep S9 _ t52 hf rfl
    refine ⟨rfl, g1, g2, csk _ g3 g4, _, rfl, ?_⟩
    rw [e1]
    show (if 8 ≤ Cs.length then _ else _)
    rw [if_pos (by omega)]
    refine ⟨e3, cqk _ _ g3 g4 ?_⟩
    show zI (S9.1 29) = -1
    rw [hX9.2.2.1]
    decide
  have j60 : ∀ (S9 : MS) (a : Nat) (D : Den) (ts : List TsT) (p tc : Nat), fX (sp S 28 (S.1 11)) S9 → rW t Ns = (a, some (D, ts)) → rdX t Ns S9 [] [D] p tc ts → S.1 11 < 8 → RX l G M_Mo_condition (d + 1) 60 [some (.ref o)] [] H0 o rf c n (sp (sp (sp S9 2 0) 30 (S9.1 29)) 0 0) (cdX t Ns Cs S) := by
    intro S9 a D ts p tc hf e1 hX9 h8 h hR hX
    obtain ⟨g1, g2, g3, g4⟩ := keep S9 _ 0 hf rfl
    have e28 : S9.1 28 = S.1 11 := hf.1.1 28 (by decide)
    have e11 : S9.1 11 = S.1 11 := hf.1.1 11 (by decide)
    have e2 : S9.1 2 = S.1 2 := hf.1.1 2 (by decide)
    have l16 : (S9.2.1 16).length = 9 := hR.len 16 (by decide)
    obtain ⟨hc9, ⟨h279, hp9⟩, h299, R, w, dn, tx, hS9, hsl9, hDs, htc, hts⟩ := id hX9
    obtain ⟨r, rfl⟩ : ∃ r, R = [r] := by
      match R, hDs with
      | [r], _ => exact ⟨r, rfl⟩
    have hDr : D = dn r := by simpa using hDs
    obtain ⟨s1, s2, s3, s4, -, -, ⟨s10, s11, s12⟩, -, s14, s15, s16, s17⟩ := id hS9
    have hr0 : gd (S9.2.1 34) 0 = r := s11.1
    have hrr := s12 r List.mem_cons_self
    rw [e28] at s14 hrr hsl9 htc hts
    obtain ⟨p1, p2, -⟩ := id s14
    simp only [wsm, cnt] at s17
    have e16 : gd (se (S9.2.1 16) (S9.1 28) (gd (S9.2.1 34) 0)) (S.1 11) = r := by rw [e28, gd_se_of l16 (by omega) (by omega) (by omega), if_pos rfl, hr0]
    have hsmE : rSm (sp (sp (sp S9 2 0) 30 (S9.1 29)) 0 0) (sp (sa (sp (sp (sp S9 2 0) 30 (S9.1 29)) 0 0) 16 (se (S9.2.1 16) (S9.1 28) (gd (S9.2.1 34) 0))) 11 (S9.1 11 + 1)) cdJ cdA [22] := (rSm.r0.sa (by decide)).sp (by decide)
    have hagE : ∀ cc : Int, 0 ≤ cc → cc ≤ 8 → cc ≠ S.1 11 → agX S (sp (sa (sp (sp (sp S9 2 0) 30 (S9.1 29)) 0 0) 16 (se (S9.2.1 16) (S9.1 28) (gd (S9.2.1 34) 0))) 11 (S9.1 11 + 1)) cc := fun cc q1 q2 q3 => (g3 cc q1 q2 q3).tr ⟨(agr_se (S := sp (sp (sp S9 2 0) 30 (S9.1 29)) 0 0) (c := cc) (i := 16) (e := S9.1 28) (z := gd (S9.2.1 34) 0) (N := 9) l16 (by omega) (by omega) rfl q1 (Or.inr (Or.inr (Or.inr ⟨by decide, by omega⟩)))).tr (agr.sm ((rSm.r0 (js := [11]) (is := []) (ls := [])).sp (by decide)) (by decide)), fun v _ _ => rfl, fun v _ _ => rfl⟩
    have hslE : slR Ns (sp (sa (sp (sp (sp S9 2 0) 30 (S9.1 29)) 0 0) 16 (se (S9.2.1 16) (S9.1 28) (gd (S9.2.1 34) 0))) 11 (S9.1 11 + 1)) (S.1 11) dn tx := hsl9
    have hptE : ptOk (sp (sa (sp (sp (sp S9 2 0) 30 (S9.1 29)) 0 0) 16 (se (S9.2.1 16) (S9.1 28) (gd (S9.2.1 34) 0))) 11 (S9.1 11 + 1)) (S.1 11) (gd (S9.2.1 15) (S.1 11)) (gd (S9.2.1 21) (S.1 11)) (gd (S9.2.1 26) (S.1 11)) w := s14
    have fin : cdX t Ns Cs S (some (.int (zI (S9.1 11 + 1 - 1)))) (sp (sa (sp (sp (sp S9 2 0) 30 (S9.1 29)) 0 0) 16 (se (S9.2.1 16) (S9.1 28) (gd (S9.2.1 34) 0))) 11 (S9.1 11 + 1)) := by
      refine ⟨rfl, g1.tr hsmE, g2.sm hsmE (by decide) (by decide), ⟨by show 0 ≤ S9.1 11 + 1; omega, by show S9.1 11 + 1 ≤ 8; omega, fun cc q1 q2 => ?_⟩, _, rfl, ?_⟩
      · replace q2 : cc < S9.1 11 + 1 := q2
        by_cases hcc : cc = S.1 11
        · subst hcc
          refine ⟨w, hptE, ?_⟩
          show 128 * S.1 11 ≤ gd (se (S9.2.1 16) (S9.1 28) (gd (S9.2.1 34) 0)) (S.1 11) ∧ gd (se (S9.2.1 16) (S9.1 28) (gd (S9.2.1 34) 0)) (S.1 11) < 128 * S.1 11 + gd (S9.2.1 15) (S.1 11) ∧ w (gd (se (S9.2.1 16) (S9.1 28) (gd (S9.2.1 34) 0)) (S.1 11)) ≤ 560
          rw [e16]
          omega
        · exact (k3 cc q1 (by omega)).agr (hagE cc q1 (by omega) hcc).1
      · rw [e1]
        show (if 8 ≤ Cs.length then _ else _)
        rw [if_neg (by omega)]
        refine ⟨rfl, by rw [e11]; congr 1; omega, ⟨by show S9.1 11 + 1 = ((Cs ++ [(D, ts)]).length : Int); rw [List.length_append, e11, c1]; rfl, by rw [List.length_append]; simp; omega, ?_, fun i x hx => ?_⟩⟩
        · show zI (S9.1 29) = -1
          rw [h299]
          decide
        · by_cases hi : i < Cs.length
          · rw [List.getElem?_append_left hi] at hx
            exact (c4 i x hx).ag (hagE i (by omega) (by omega) (by omega))
          · have hlt := (List.getElem?_eq_some_iff.mp hx).1
            rw [List.length_append] at hlt
            simp at hlt
            obtain rfl : i = Cs.length := by omega
            rw [List.getElem?_append_right (Nat.le_refl _), Nat.sub_self] at hx
            cases hx
            rw [← c1]
            refine ⟨dn, tx, hslE, ?_, ?_, ?_⟩
            · show D = dn (gd (se (S9.2.1 16) (S9.1 28) (gd (S9.2.1 34) 0)) (S.1 11))
              rw [e16]
              exact hDr
            · show 128 * S.1 11 ≤ gd (se (S9.2.1 16) (S9.1 28) (gd (S9.2.1 34) 0)) (S.1 11) ∧ gd (se (S9.2.1 16) (S9.1 28) (gd (S9.2.1 34) 0)) (S.1 11) < 128 * S.1 11 + gd (S9.2.1 15) (S.1 11)
              rw [e16]
              exact hrr
            · show ts = tsF (S.1 11) tx (gd (S9.2.1 21) (S.1 11)).toNat
              rw [htc, Int.toNat_natCast]
              exact hts
    refine x_aload_n d_Mo_condition_60 rfl rfl ?_
    refine x_get xf_Mo_48_Mo (Or.inl hR.1) (v := .ref (rf 16)) rfl d_Mo_condition_61 ?_
    refine x_aload_n d_Mo_condition_64 rfl rfl ?_
    refine x_get xf_Mo_196_Mo (Or.inl hR.1) (v := .int (zI (S9.1 28))) rfl d_Mo_condition_65 ?_
    have hb65 : inR (S9.1 28) := hR.2.2.2 28
    refine x_aload_n d_Mo_condition_68 rfl rfl ?_
    refine x_get xf_Mo_88_Mo (Or.inl hR.1) (v := .ref (rf 34)) rfl d_Mo_condition_69 ?_
    refine x_iconst (v := zI 0) d_Mo_condition_72 (by decide) ?_
    refine r_iald (i := 34) (us := (S9.2.1 34)) rfl (by decide) hR rfl (by omega) (by show (0 : Int) < 80; omega) d_Mo_condition_73 (fun hr73 => ?_)
    refine r_iast (i := 16) (us := (S9.2.1 16)) ⟨rfl, rfl⟩ (by decide) hR hX rfl (by show 0 ≤ S9.1 28; omega) (by show S9.1 28 < 9; omega) (by omega) d_Mo_condition_74 ?_
    intro h hR hX
    refine x_aload_n d_Mo_condition_75 rfl rfl ?_
    refine x_dup d_Mo_condition_76 rfl ?_
    refine x_get xf_Mo_268_Mo (Or.inl hR.1) (v := .int (zI (S9.1 11))) rfl d_Mo_condition_77 ?_
    have hb77 : inR (S9.1 11) := hR.2.2.2 11
    refine x_iconst (v := zI 1) d_Mo_condition_80 (by decide) ?_
    refine z_iadd d_Mo_condition_81 ?_
    refine r_put xf_Mo_268_Mo xp_Mo_11 hR hX (by omega) rfl rfl d_Mo_condition_82 ?_
    intro h hR hX
    refine x_aload_n d_Mo_condition_85 rfl rfl ?_
    refine x_get xf_Mo_268_Mo (Or.inl hR.1) (v := .int (zI ((S9.1 11) + 1))) rfl d_Mo_condition_86 ?_
    have hb86 : inR ((S9.1 11) + 1) := hR.2.2.2 11
    refine x_iconst (v := zI 1) d_Mo_condition_89 (by decide) ?_
    refine z_isub d_Mo_condition_90 ?_
    refine x_iret d_Mo_condition_91 rfl ?_
    exact ⟨_, hR, hX, rfl, rfl, fin⟩
  refine x_aload_n d_Mo_condition_0 rfl rfl ?_
  refine x_aload_n d_Mo_condition_1 rfl rfl ?_
  refine x_get xf_Mo_268_Mo (Or.inl hR.1) (v := .int (zI (S.1 11))) rfl d_Mo_condition_2 ?_
  have hb2 : inR (S.1 11) := hR.2.2.2 11
  refine r_put xf_Mo_196_Mo xp_Mo_28 hR hX (by omega) rfl rfl d_Mo_condition_5 ?_
  intro h hR hX
  refine x_aload_n d_Mo_condition_8 rfl rfl ?_
  refine x_callV (As := []) (k := k_MarkerTextModel) rfl xcv_Mo_271_Mo (Or.inl hR.1) (RM.ap hR (r_readX (S := sp S 28 (S.1 11)) (by omega) hc0 (by show 0 ≤ S.1 11 ∧ S.1 11 ≤ 8; omega))) rfl rfl (Nat.le_of_ble_eq_true rfl) d_Mo_condition_9 ?_
  rintro v9 h cq nq ⟨S9, hR, hX9, rfl, rfl, rfl, hf9, hor9⟩
  replace hX := hX.tr hX9
  refine x_aload_n d_Mo_condition_12 rfl rfl ?_
  refine x_iconst (v := zI 0) d_Mo_condition_13 (by decide) ?_
  refine r_put xf_Mo_124_Mo xp_Mo_2 hR hX (by omega) rfl rfl d_Mo_condition_14 ?_
  intro h hR hX
  have e11 : S9.1 11 = S.1 11 := hf9.1.1 11 (by decide)
  refine x_aload_n d_Mo_condition_17 rfl rfl ?_
  refine x_aload_n d_Mo_condition_18 rfl rfl ?_
  refine x_get xf_Mo_190_Mo (Or.inl hR.1) (v := .int (zI (S9.1 29))) rfl d_Mo_condition_19 ?_
  have hb19 : inR (S9.1 29) := hR.2.2.2 29
  refine r_put xf_Mo_81_Mo xp_Mo_30 hR hX (by omega) rfl rfl d_Mo_condition_22 ?_
  intro h hR hX
  refine x_aload_n d_Mo_condition_25 rfl rfl ?_
  refine x_aload_n d_Mo_condition_26 rfl rfl ?_
  refine x_get xf_Mo_190_Mo (Or.inl hR.1) (v := .int (zI (S9.1 29))) rfl d_Mo_condition_27 ?_
  have hb27 : inR (S9.1 29) := hR.2.2.2 29
  refine z_if_lt (tgt := 37) d_Mo_condition_30 (by decide) (by omega) (fun hc30 => ?_) (fun hc30 => ?_)
  · refine x_iconst (v := zI 0) d_Mo_condition_37 (by decide) ?_
    refine x_aload_n d_Mo_condition_38 rfl rfl ?_
    refine x_get xf_Mo_268_Mo (Or.inl hR.1) (v := .int (zI (S9.1 11))) rfl d_Mo_condition_39 ?_
    have hb39 : inR (S9.1 11) := hR.2.2.2 11
    refine x_bipush (v := zI 8) d_Mo_condition_42 (by decide) ?_
    refine z_icmp_ne (tgt := 51) d_Mo_condition_44 (by decide) (by omega) (by omega) (fun hc44 => ?_) (fun hc44 => ?_)
    · refine x_iconst (v := zI 0) d_Mo_condition_51 (by decide) ?_
      refine x_callV (As := [_, _]) (k := k_MarkerTextModel) rfl xcv_Mo_162_Mo (Or.inl hR.1) (RM.ap hR (r_fails (by decide) (by decide))) rfl rfl (Nat.le_of_ble_eq_true rfl) d_Mo_condition_52 ?_
      rintro v52 h cq nq ⟨S52, hR, hX52, rfl, rfl, t52, r52, rfl, rfl, hr52⟩
      replace hX := hX.tr hX52
      refine z_if_eq (tgt := 60) d_Mo_condition_55 (by decide) (by omega) (fun hc55 => ?_) (fun hc55 => ?_)
      · obtain rfl : t52 = 0 := by omega
        rcases hor9 with ⟨a, e1, e2⟩ | ⟨a, D, ts, p, tc, e1, hX9⟩
        · omega
        · exact j60 S9 a D ts p tc hf9 e1 hX9 (by omega) _ hR hX
      · refine x_iconst (v := zI 0) d_Mo_condition_58 (by decide) ?_
        refine x_iret d_Mo_condition_59 rfl ?_
        rcases hor9 with ⟨a, e1, e2⟩ | ⟨a, D, ts, p, tc, e1, hX9⟩
        · exact ⟨_, hR, hX, rfl, rfl, finW S9 t52 a hf9 e1 e2 (by omega)⟩
        · have e29 := hX9.2.2.1
          exact ⟨_, hR, hX, rfl, rfl, finF S9 t52 a D ts p tc hf9 e1 hX9 (by omega) (by omega)⟩
    · refine x_iconst (v := zI 1) d_Mo_condition_47 (by decide) ?_
      refine x_goto (tgt := 52) d_Mo_condition_48 (by decide) ?_
      refine x_callV (As := [_, _]) (k := k_MarkerTextModel) rfl xcv_Mo_162_Mo (Or.inl hR.1) (RM.ap hR (r_fails (by decide) (by decide))) rfl rfl (Nat.le_of_ble_eq_true rfl) d_Mo_condition_52 ?_
      rintro v52 h cq nq ⟨S52, hR, hX52, rfl, rfl, t52, r52, rfl, rfl, hr52⟩
      replace hX := hX.tr hX52
      refine z_if_eq (tgt := 60) d_Mo_condition_55 (by decide) (by omega) (fun hc55 => ?_) (fun hc55 => ?_)
      · obtain rfl : t52 = 0 := by omega
        rcases hor9 with ⟨a, e1, e2⟩ | ⟨a, D, ts, p, tc, e1, hX9⟩
        · omega
        · exact j60 S9 a D ts p tc hf9 e1 hX9 (by omega) _ hR hX
      · refine x_iconst (v := zI 0) d_Mo_condition_58 (by decide) ?_
        refine x_iret d_Mo_condition_59 rfl ?_
        rcases hor9 with ⟨a, e1, e2⟩ | ⟨a, D, ts, p, tc, e1, hX9⟩
        · exact ⟨_, hR, hX, rfl, rfl, finW S9 t52 a hf9 e1 e2 (by omega)⟩
        · have e29 := hX9.2.2.1
          exact ⟨_, hR, hX, rfl, rfl, finF S9 t52 a D ts p tc hf9 e1 hX9 (by omega) (by omega)⟩
  · refine x_iconst (v := zI 1) d_Mo_condition_33 (by decide) ?_
    refine x_goto (tgt := 38) d_Mo_condition_34 (by decide) ?_
    refine x_aload_n d_Mo_condition_38 rfl rfl ?_
    refine x_get xf_Mo_268_Mo (Or.inl hR.1) (v := .int (zI (S9.1 11))) rfl d_Mo_condition_39 ?_
    have hb39 : inR (S9.1 11) := hR.2.2.2 11
    refine x_bipush (v := zI 8) d_Mo_condition_42 (by decide) ?_
    refine z_icmp_ne (tgt := 51) d_Mo_condition_44 (by decide) (by omega) (by omega) (fun hc44 => ?_) (fun hc44 => ?_)
    · refine x_iconst (v := zI 0) d_Mo_condition_51 (by decide) ?_
      refine x_callV (As := [_, _]) (k := k_MarkerTextModel) rfl xcv_Mo_162_Mo (Or.inl hR.1) (RM.ap hR (r_fails (by decide) (by decide))) rfl rfl (Nat.le_of_ble_eq_true rfl) d_Mo_condition_52 ?_
      rintro v52 h cq nq ⟨S52, hR, hX52, rfl, rfl, t52, r52, rfl, rfl, hr52⟩
      replace hX := hX.tr hX52
      refine z_if_eq (tgt := 60) d_Mo_condition_55 (by decide) (by omega) (fun hc55 => ?_) (fun hc55 => ?_)
      · obtain rfl : t52 = 0 := by omega
        rcases hor9 with ⟨a, e1, e2⟩ | ⟨a, D, ts, p, tc, e1, hX9⟩
        · omega
        · exact j60 S9 a D ts p tc hf9 e1 hX9 (by omega) _ hR hX
      · refine x_iconst (v := zI 0) d_Mo_condition_58 (by decide) ?_
        refine x_iret d_Mo_condition_59 rfl ?_
        rcases hor9 with ⟨a, e1, e2⟩ | ⟨a, D, ts, p, tc, e1, hX9⟩
        · exact ⟨_, hR, hX, rfl, rfl, finW S9 t52 a hf9 e1 e2 (by omega)⟩
        · have e29 := hX9.2.2.1
          exact ⟨_, hR, hX, rfl, rfl, finF S9 t52 a D ts p tc hf9 e1 hX9 (by omega) (by omega)⟩
    · refine x_iconst (v := zI 1) d_Mo_condition_47 (by decide) ?_
      refine x_goto (tgt := 52) d_Mo_condition_48 (by decide) ?_
      refine x_callV (As := [_, _]) (k := k_MarkerTextModel) rfl xcv_Mo_162_Mo (Or.inl hR.1) (RM.ap hR (r_fails (by decide) (by decide))) rfl rfl (Nat.le_of_ble_eq_true rfl) d_Mo_condition_52 ?_
      rintro v52 h cq nq ⟨S52, hR, hX52, rfl, rfl, t52, r52, rfl, rfl, hr52⟩
      replace hX := hX.tr hX52
      refine z_if_eq (tgt := 60) d_Mo_condition_55 (by decide) (by omega) (fun hc55 => ?_) (fun hc55 => ?_)
      · obtain rfl : t52 = 0 := by omega
        rcases hor9 with ⟨a, e1, e2⟩ | ⟨a, D, ts, p, tc, e1, hX9⟩
        · omega
        · exact j60 S9 a D ts p tc hf9 e1 hX9 (by omega) _ hR hX
      · refine x_iconst (v := zI 0) d_Mo_condition_58 (by decide) ?_
        refine x_iret d_Mo_condition_59 rfl ?_
        rcases hor9 with ⟨a, e1, e2⟩ | ⟨a, D, ts, p, tc, e1, hX9⟩
        · exact ⟨_, hR, hX, rfl, rfl, finW S9 t52 a hf9 e1 e2 (by omega)⟩
        · have e29 := hX9.2.2.1
          exact ⟨_, hR, hX, rfl, rfl, finF S9 t52 a D ts p tc hf9 e1 hX9 (by omega) (by omega)⟩
end RH12
