section

end
section RE1
variable {l : Launch} {G : XG} {h : XH} {c n d : Nat}
/-! what a Reader reads: where it is, how many tests, which -/
abbrev RS : Type := Nat × Nat × List TsT
abbrev RO : Type := RS × Option Den
def jn (t : List Nat) (F : RS → RO) (w : List Nat) (s : Nat) : Nat → RS → Den → RO
  | 0, st, D => (st, some D)
  | i + 1, st, D =>
    if wrd t (skp t st.1) = w then
      match F (tkW t st.1 w, st.2) with
      | (st', none) => (st', none)
      | (st', some B) => jn t F w s i st' (dJoin s D B)
    else ((tkW t st.1 w, st.2), some D)
def jnd (t : List Nat) (F : RS → RO) (w : List Nat) (s : Nat) (st : RS) : RO :=
  match F st with
  | (st', none) => (st', none)
  | (st', some D) => jn t F w s 160 st' D
/-- behind not, or an opening bracket -/
def rOp (t : List Nat) (F J : RS → RO) (b : Bool) (st : RS) : RO :=
  if b then
    match F (st.1 + 3, st.2) with
    | (st', none) => (st', none)
    | (st', some D) => (st', some (dNot D))
  else
    match J (st.1 + 1, st.2) with
    | (st', none) => (st', none)
    | (st', some D) => if chr t (skp t st'.1) = 41 then ((skp t st'.1 + 1, st'.2), some D) else ((skp t st'.1, st'.2), none)
/-- true, false, a comparison -/
def rLf (t : List Nat) (Ns : List NmT) (st : RS) : RO :=
  if 40 ≤ st.2.1 then (st, none)
  else if wrd t st.1 = xtx 20 ∨ wrd t st.1 = xtx 21 then ((st.1 + (wrd t st.1).length, st.2.1 + 1, st.2.2), some (dCon (decide (wrd t st.1 = xtx 20))))
  else match nof Ns (wrd t st.1) with
    | none => (st, none)
    | some i => (((rcm t i (Ns.getD i ([], 0, [])).1 (Ns.getD i ([], 0, [])).2.1 (st.1 + (wrd t st.1).length)).1, st.2.1 + 1, st.2.2 ++ (rcm t i (Ns.getD i ([], 0, [])).1 (Ns.getD i ([], 0, [])).2.1 (st.1 + (wrd t st.1).length)).2.toList), (rcm t i (Ns.getD i ([], 0, [])).1 (Ns.getD i ([], 0, [])).2.1 (st.1 + (wrd t st.1).length)).2.map dTst)
abbrev jAnd (t : List Nat) (F : RS → RO) : RS → RO := jnd t F (xtx 25) 2
abbrev jOr (t : List Nat) (F : RS → RO) : RS → RO := jnd t (jAnd t F) (xtx 24) 1
/-- a TEST, where k more may be opened -/
def rT (t : List Nat) (Ns : List NmT) : Nat → RS → RO
  | 0, st => if wrd t (skp t st.1) = xtx 19 ∨ chr t (skp t st.1) = 40 then ((skp t st.1, st.2), none) else rLf t Ns (skp t st.1, st.2)
  | k + 1, st => if wrd t (skp t st.1) = xtx 19 ∨ chr t (skp t st.1) = 40 then rOp t (rT t Ns k) (jOr t (rT t Ns k)) (decide (wrd t (skp t st.1) = xtx 19)) (skp t st.1, st.2) else rLf t Ns (skp t st.1, st.2)
/-- what every such reading keeps -/
def gR (t : List Nat) (s : Nat) (p : Nat) (R : RO) : Prop := p ≤ R.1.1 ∧ R.1.1 ≤ t.length ∧ R.1.2.2.length ≤ R.1.2.1 ∧ R.1.2.1 ≤ 40 ∧ ∀ D, R.2 = some D → p < R.1.1 ∧ D.2.2.length + (if D.1 < s then 2 else 0) ≤ 3 * (R.1.1 - p)
def gF (t : List Nat) (s : Nat) (F : RS → RO) : Prop := ∀ (p tc : Nat) (ts : List TsT), p ≤ t.length → ts.length ≤ tc → tc ≤ 40 → gR t s p (F (p, tc, ts))
theorem brk_le {b : Bool} {u : List Nat} {x : Nat} (h1 : u.length + (if b then 2 else 0) ≤ x) : (brk b u).length ≤ x := by rw [brk_len]; exact h1
theorem dJoin_len {s : Nat} {A B : Den} {x y : Nat} (hs : s = 1 ∨ s = 2) (hA : A.2.2.length + (if A.1 < s then 2 else 0) ≤ x) (hB : B.2.2.length + (if B.1 ≤ s then 2 else 0) ≤ y) : (dJoin s A B).2.2.length ≤ x + 5 + y := by
  show (brk (decide (A.1 < s)) A.2.2 ++ (if s = 1 then xtx 29 else xtx 30) ++ brk (decide (B.1 ≤ s)) B.2.2).length ≤ _
  have h1 : (if s = 1 then xtx 29 else xtx 30).length ≤ 5 := by rcases hs with rfl | rfl <;> decide
  have h2 := brk_le (b := decide (A.1 < s)) (u := A.2.2) (x := x) (by simpa using hA)
  have h3 := brk_le (b := decide (B.1 ≤ s)) (u := B.2.2) (x := y) (by simpa using hB)
  rw [List.length_append, List.length_append]
  omega
theorem jn_g {t : List Nat} {F : RS → RO} {w : List Nat} {s : Nat} (hs : s = 1 ∨ s = 2) (hw : 2 ≤ w.length) (hF : gF t (s + 1) F) (p : Nat) : ∀ (i : Nat) (st : RS) (D : Den), gR t s p (st, some D) → gR t s p (jn t F w s i st D) := by
  intro i
  induction i with
  | zero => intro st D hg; exact hg
  | succ i ih =>
    intro st D hg
    obtain ⟨g1, g2, g3, g4, g5⟩ := id hg
    obtain ⟨g6, g7⟩ := g5 D rfl
    have g1 : p ≤ st.1 := g1
    have g2 : st.1 ≤ t.length := g2
    have g3 : st.2.2.length ≤ st.2.1 := g3
    have g4 : st.2.1 ≤ 40 := g4
    have g6 : p < st.1 := g6
    have g7 : D.2.2.length + (if D.1 < s then 2 else 0) ≤ 3 * (st.1 - p) := g7
    have hle : tkW t st.1 w ≤ t.length := tkW_le g2
    have hge : st.1 ≤ skp t st.1 := scn_ge
    unfold jn
    split
    · rename_i hwd
      have htk : tkW t st.1 w = skp t st.1 + w.length := if_pos hwd
      have hf := hF (tkW t st.1 w) st.2.1 st.2.2 hle g3 g4
      show gR t s p (match F (tkW t st.1 w, st.2) with | (st', none) => (st', none) | (st', some B) => jn t F w s i st' (dJoin s D B))
      rw [show (tkW t st.1 w, st.2) = (tkW t st.1 w, st.2.1, st.2.2) from rfl]
      revert hf
      generalize F (tkW t st.1 w, st.2.1, st.2.2) = R
      obtain ⟨st', o⟩ := R
      rintro ⟨f1, f2, f3, f4, f5⟩
      cases o with
      | none => exact ⟨by show p ≤ st'.1; have : tkW t st.1 w ≤ st'.1 := f1; omega, f2, f3, f4, fun D z => by cases z⟩
      | some B =>
        obtain ⟨f6, f7⟩ := f5 B rfl
        have f1 : tkW t st.1 w ≤ st'.1 := f1
        have f6 : tkW t st.1 w < st'.1 := f6
        have f7 : B.2.2.length + (if B.1 < s + 1 then 2 else 0) ≤ 3 * (st'.1 - tkW t st.1 w) := f7
        refine ih st' (dJoin s D B) ⟨by show p ≤ st'.1; omega, f2, f3, f4, fun D' z => ?_⟩
        cases z
        have hj := dJoin_len (A := D) (B := B) hs g7 (y := 3 * (st'.1 - tkW t st.1 w)) (by
          have : (if B.1 ≤ s then 2 else 0) = (if B.1 < s + 1 then 2 else 0) := by
            by_cases hb : B.1 ≤ s
            · rw [if_pos hb, if_pos (by omega)]
            · rw [if_neg hb, if_neg (by omega)]
          rw [this]; exact f7)
        refine ⟨by show p < st'.1; omega, ?_⟩
        show (dJoin s D B).2.2.length + (if s < s then 2 else 0) ≤ 3 * (st'.1 - p)
        rw [if_neg (by omega)]
        omega
    · rename_i hwd
      have htk : tkW t st.1 w = skp t st.1 := if_neg hwd
      refine ⟨by show p ≤ tkW t st.1 w; omega, hle, g3, g4, fun D' z => ?_⟩
      cases z
      exact ⟨by show p < tkW t st.1 w; omega, by show D.2.2.length + (if D.1 < s then 2 else 0) ≤ 3 * (tkW t st.1 w - p); omega⟩
theorem jnd_g {t : List Nat} {F : RS → RO} {w : List Nat} {s : Nat} (hs : s = 1 ∨ s = 2) (hw : 2 ≤ w.length) (hF : gF t (s + 1) F) : gF t s (jnd t F w s) := by
  intro p tc ts hp h1 h2
  have hf := hF p tc ts hp h1 h2
  unfold jnd
  revert hf
  generalize F (p, tc, ts) = R
  obtain ⟨st', o⟩ := R
  rintro ⟨f1, f2, f3, f4, f5⟩
  cases o with
  | none => exact ⟨f1, f2, f3, f4, fun D z => by cases z⟩
  | some D =>
    obtain ⟨f6, f7⟩ := f5 D rfl
    refine jn_g hs hw hF p 160 st' D ⟨f1, f2, f3, f4, fun D' z => ?_⟩
    cases z
    refine ⟨f6, ?_⟩
    have : (if D.1 < s then 2 else 0) ≤ (if D.1 < s + 1 then 2 else 0) := by
      by_cases hb : D.1 < s
      · rw [if_pos hb, if_pos (by omega)]; exact Nat.le_refl _
      · rw [if_neg hb]; exact Nat.zero_le _
    have f7 : D.2.2.length + (if D.1 < s + 1 then 2 else 0) ≤ 3 * (st'.1 - p) := f7
    show D.2.2.length + (if D.1 < s then 2 else 0) ≤ 3 * (st'.1 - p)
    omega
theorem rcm_g {t : List Nat} {k : Nat} {w : List Nat} {kd p : Nat} (hp : p ≤ t.length) : p ≤ (rcm t k w kd p).1 ∧ (rcm t k w kd p).1 ≤ t.length ∧ ∀ x, (rcm t k w kd p).2 = some x → p < (rcm t k w kd p).1 ∧ x.2.2.2.length ≤ w.length + 3 * ((rcm t k w kd p).1 - p) := by
  have h1 := skp_le hp
  have h2 : p ≤ skp t p := scn_ge
  unfold rcm
  split
  · rename_i hwd
    have htk : tkW t p (xtx 22) = skp t p + 2 := if_pos hwd
    have hle : tkW t p (xtx 22) ≤ t.length := tkW_le hp
    obtain ⟨l1, l2⟩ := rlist_le (kd := kd) hle
    refine ⟨by show p ≤ (rlist t kd (tkW t p (xtx 22))).1; omega, l1, fun x hx => ?_⟩
    simp only [Option.map_eq_some_iff] at hx
    obtain ⟨us, -, rfl⟩ := hx
    refine ⟨by show p < (rlist t kd (tkW t p (xtx 22))).1; omega, ?_⟩
    show ((((w ++ [32]) ++ xtx 22) ++ [32]) ++ (rlist t kd (tkW t p (xtx 22))).2.2).length ≤ w.length + 3 * ((rlist t kd (tkW t p (xtx 22))).1 - p)
    rw [List.length_append, List.length_append, List.length_append, List.length_append, show (xtx 22).length = 2 from rfl]
    simp only [List.length_singleton]
    omega
  · obtain ⟨o1, o2, o3⟩ := opr_le h1
    have v1 := rvl_le (kd := kd) o1
    have v2 := rvl_ge (kd := kd) o1
    split
    · exact ⟨by show p ≤ (opr t (skp t p)).1; omega, o1, fun x hx => by cases hx⟩
    · rename_i acc hacc
      have ho : 1 ≤ (opr t (skp t p)).2.2.length := by
        unfold opr at hacc ⊢
        split
        · split
          · show 1 ≤ 2; omega
          · show 1 ≤ 1; omega
        · rename_i hz
          rw [if_neg hz] at hacc
          cases hacc
      refine ⟨by show p ≤ (rvl t kd (opr t (skp t p)).1).1; omega, v1, fun x hx => ?_⟩
      simp only [Option.map_eq_some_iff] at hx
      obtain ⟨us, -, rfl⟩ := hx
      refine ⟨by show p < (rvl t kd (opr t (skp t p)).1).1; omega, ?_⟩
      show ((((w ++ [32]) ++ (opr t (skp t p)).2.2) ++ [32]) ++ (rvl t kd (opr t (skp t p)).1).2.2).length ≤ w.length + 3 * ((rvl t kd (opr t (skp t p)).1).1 - p)
      rw [List.length_append, List.length_append, List.length_append, List.length_append]
      simp only [List.length_singleton]
      omega
theorem nof_some {Ns : List NmT} {w : List Nat} {i : Nat} (hi : nof Ns w = some i) : i < Ns.length ∧ Ns[i]? = some (Ns.getD i ([], 0, [])) ∧ (Ns.getD i ([], 0, [])).1 = w := by
  obtain ⟨h1, h2, -⟩ := List.findIdx?_eq_some_iff_getElem.mp hi
  have : Ns.getD i ([], 0, []) = Ns[i] := by rw [List.getD_eq_getElem?_getD, List.getElem?_eq_getElem h1]; rfl
  exact ⟨h1, by rw [this, List.getElem?_eq_getElem h1], by rw [this]; exact of_decide_eq_true h2⟩
theorem rLf_g {t : List Nat} {Ns : List NmT} {p tc : Nat} {ts : List TsT} (hp : p ≤ t.length) (h1 : ts.length ≤ tc) (h2 : tc ≤ 40) : gR t 3 p (rLf t Ns (p, tc, ts)) := by
  have hw := wrd_le hp
  have hbase : gR t 3 p ((p, tc, ts), none) := ⟨Nat.le_refl _, hp, h1, h2, fun D z => by cases z⟩
  unfold rLf
  split
  · exact hbase
  · rename_i h40
    have h40 : ¬ 40 ≤ tc := h40
    split
    · rename_i hcon
      refine ⟨by show p ≤ p + (wrd t p).length; omega, hw, by show ts.length ≤ tc + 1; omega, by show tc + 1 ≤ 40; omega, fun D z => ?_⟩
      cases z
      have hcon : wrd t p = xtx 20 ∨ wrd t p = xtx 21 := hcon
      rcases hcon with hc | hc
      · refine ⟨by show p < p + (wrd t p).length; rw [hc]; show p < p + 4; omega, ?_⟩
        show (dCon (decide (wrd t p = xtx 20))).2.2.length + 0 ≤ 3 * (p + (wrd t p).length - p)
        rw [decide_eq_true hc, hc, Nat.add_sub_cancel_left]
        decide
      · refine ⟨by show p < p + (wrd t p).length; rw [hc]; show p < p + 5; omega, ?_⟩
        show (dCon (decide (wrd t p = xtx 20))).2.2.length + 0 ≤ 3 * (p + (wrd t p).length - p)
        rw [hc, Nat.add_sub_cancel_left]
        decide
    · split
      · exact hbase
      · rename_i i hi
        have hi : nof Ns (wrd t p) = some i := hi
        obtain ⟨i1, i2, i3⟩ := nof_some hi
        obtain ⟨r1, r2, r3⟩ := rcm_g (t := t) (k := i) (w := (Ns.getD i ([], 0, [])).1) (kd := (Ns.getD i ([], 0, [])).2.1) hw
        revert r1 r2 r3
        show _ → _ → _ → gR t 3 p (((rcm t i (Ns.getD i ([], 0, [])).1 (Ns.getD i ([], 0, [])).2.1 (p + (wrd t p).length)).1, tc + 1, ts ++ (rcm t i (Ns.getD i ([], 0, [])).1 (Ns.getD i ([], 0, [])).2.1 (p + (wrd t p).length)).2.toList), (rcm t i (Ns.getD i ([], 0, [])).1 (Ns.getD i ([], 0, [])).2.1 (p + (wrd t p).length)).2.map dTst)
        rw [i3]
        generalize rcm t i (wrd t p) (Ns.getD i ([], 0, [])).2.1 (p + (wrd t p).length) = R
        obtain ⟨p', o⟩ := R
        intro r1 r2 r3
        have r1 : p + (wrd t p).length ≤ p' := r1
        refine ⟨by show p ≤ p'; omega, r2, ?_, by show tc + 1 ≤ 40; omega, fun D z => ?_⟩
        · show (ts ++ o.toList).length ≤ tc + 1
          cases o <;> simp <;> omega
        · simp only [Option.map_eq_some_iff] at z
          obtain ⟨x, hx, rfl⟩ := z
          obtain ⟨r4, r5⟩ := r3 x hx
          have r4 : p + (wrd t p).length < p' := r4
          have r5 : x.2.2.2.length ≤ (wrd t p).length + 3 * (p' - (p + (wrd t p).length)) := r5
          exact ⟨by show p < p'; omega, by show x.2.2.2.length + 0 ≤ 3 * (p' - p); omega⟩
theorem rOp_g {t : List Nat} {F J : RS → RO} {b : Bool} {p tc : Nat} {ts : List TsT} (hF : gF t 3 F) (hJ : gF t 1 J) (hp : p + (if b then 3 else 1) ≤ t.length) (h1 : ts.length ≤ tc) (h2 : tc ≤ 40) : gR t 3 p (rOp t F J b (p, tc, ts)) := by
  cases b with
  | true =>
    have hf := hF (p + 3) tc ts hp h1 h2
    show gR t 3 p (match F (p + 3, tc, ts) with | (st', none) => (st', none) | (st', some D) => (st', some (dNot D)))
    revert hf
    generalize F (p + 3, tc, ts) = R
    obtain ⟨st', o⟩ := R
    rintro ⟨f1, f2, f3, f4, f5⟩
    have f1 : p + 3 ≤ st'.1 := f1
    cases o with
    | none => exact ⟨by show p ≤ st'.1; omega, f2, f3, f4, fun D z => by cases z⟩
    | some D =>
      obtain ⟨f6, f7⟩ := f5 D rfl
      have f7 : D.2.2.length + (if D.1 < 3 then 2 else 0) ≤ 3 * (st'.1 - (p + 3)) := f7
      refine ⟨by show p ≤ st'.1; omega, f2, f3, f4, fun D' z => ?_⟩
      cases z
      refine ⟨by show p < st'.1; omega, ?_⟩
      show (xtx 28 ++ brk (decide (D.1 < 3)) D.2.2).length + 0 ≤ 3 * (st'.1 - p)
      have := brk_le (b := decide (D.1 < 3)) (u := D.2.2) (x := 3 * (st'.1 - (p + 3))) (by simpa using f7)
      rw [List.length_append, show (xtx 28).length = 4 from rfl]
      omega
  | false =>
    have hf := hJ (p + 1) tc ts hp h1 h2
    show gR t 3 p (match J (p + 1, tc, ts) with | (st', none) => (st', none) | (st', some D) => if chr t (skp t st'.1) = 41 then ((skp t st'.1 + 1, st'.2), some D) else ((skp t st'.1, st'.2), none))
    revert hf
    generalize J (p + 1, tc, ts) = R
    obtain ⟨st', o⟩ := R
    rintro ⟨f1, f2, f3, f4, f5⟩
    have f1 : p + 1 ≤ st'.1 := f1
    have f2 : st'.1 ≤ t.length := f2
    have h3 := skp_le f2
    have h4 : st'.1 ≤ skp t st'.1 := scn_ge
    cases o with
    | none => exact ⟨by show p ≤ st'.1; omega, f2, f3, f4, fun D z => by cases z⟩
    | some D =>
      obtain ⟨f6, f7⟩ := f5 D rfl
      have f7 : D.2.2.length + (if D.1 < 1 then 2 else 0) ≤ 3 * (st'.1 - (p + 1)) := f7
      show gR t 3 p (if chr t (skp t st'.1) = 41 then ((skp t st'.1 + 1, st'.2), some D) else ((skp t st'.1, st'.2), none))
      split
      · rename_i hc
        have h5 : skp t st'.1 < t.length := Nat.lt_of_not_le (fun z => by rw [chr_out z] at hc; omega)
        refine ⟨by show p ≤ skp t st'.1 + 1; omega, by show skp t st'.1 + 1 ≤ t.length; omega, f3, f4, fun D' z => ?_⟩
        cases z
        refine ⟨by show p < skp t st'.1 + 1; omega, ?_⟩
        show D.2.2.length + (if D.1 < 3 then 2 else 0) ≤ 3 * (skp t st'.1 + 1 - p)
        have : (if D.1 < 3 then 2 else 0) ≤ 2 := by split <;> omega
        omega
      · exact ⟨by show p ≤ skp t st'.1; omega, h3, f3, f4, fun D z => by cases z⟩
theorem wrd_not {t : List Nat} {p : Nat} (hp : p ≤ t.length) (hw : wrd t p = xtx 19) : p + 3 ≤ t.length := by
  have := wrd_le hp
  rw [hw] at this
  exact this
theorem rT_g {t : List Nat} {Ns : List NmT} : ∀ k, gF t 3 (rT t Ns k) := by
  intro k
  induction k with
  | zero =>
    intro p tc ts hp h1 h2
    have h3 := skp_le hp
    have h4 : p ≤ skp t p := scn_ge
    show gR t 3 p (if wrd t (skp t p) = xtx 19 ∨ chr t (skp t p) = 40 then ((skp t p, tc, ts), none) else rLf t Ns (skp t p, tc, ts))
    split
    · exact ⟨h4, h3, h1, h2, fun D z => by cases z⟩
    · obtain ⟨f1, f2, f3, f4, f5⟩ := rLf_g (Ns := Ns) h3 h1 h2
      exact ⟨by omega, f2, f3, f4, fun D z => ⟨by have := (f5 D z).1; omega, by have := (f5 D z).2; omega⟩⟩
  | succ k ih =>
    intro p tc ts hp h1 h2
    have h3 := skp_le hp
    have h4 : p ≤ skp t p := scn_ge
    show gR t 3 p (if wrd t (skp t p) = xtx 19 ∨ chr t (skp t p) = 40 then rOp t (rT t Ns k) (jOr t (rT t Ns k)) (decide (wrd t (skp t p) = xtx 19)) (skp t p, tc, ts) else rLf t Ns (skp t p, tc, ts))
    have key : ∀ R, gR t 3 (skp t p) R → gR t 3 p R := fun R ⟨f1, f2, f3, f4, f5⟩ => ⟨by omega, f2, f3, f4, fun D z => ⟨by have := (f5 D z).1; omega, by have := (f5 D z).2; omega⟩⟩
    split
    · rename_i hc
      refine key _ (rOp_g ih (jnd_g (Or.inl rfl) (by decide) (jnd_g (Or.inr rfl) (by decide) ih)) ?_ h1 h2)
      by_cases hn : wrd t (skp t p) = xtx 19
      · rw [decide_eq_true hn]
        exact wrd_not h3 hn
      · rw [decide_eq_false hn]
        have hc2 := hc.resolve_left hn
        have : skp t p < t.length := Nat.lt_of_not_le (fun z => by rw [chr_out z] at hc2; omega)
        exact this
    · exact key _ (rLf_g h3 h1 h2)
end RE1
