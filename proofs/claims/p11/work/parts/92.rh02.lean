section

end
section RH2
variable {S : MS}
/-- an operator as it is printed -/
def sgL (op : Int) : List Nat := if op = 0 then [32, 61, 61, 32] else if op = 1 then [32, 33, 61, 32] else if op = 2 then [32, 60, 32] else if op = 3 then [32, 60, 61, 32] else if op = 4 then [32, 62, 32] else if op = 5 then [32, 62, 61, 32] else [32, 105, 110, 32, 91]
/-- what an operator accepts -/
def acR (op : Int) : Nat := if op = 0 then 2 else if op = 1 then 13 else if op = 2 then 1 else if op = 3 then 3 else if op = 4 then 4 else if op = 5 then 6 else 2
/-- VALUES as they are printed -/
def vsT : List (List Nat) → List Nat
  | [] => []
  | u :: r => match r with
    | [] => 39 :: (u ++ [39])
    | _ :: _ => 39 :: (u ++ [39]) ++ (44 :: 32 :: vsT r)
/-- a VALUE, in the reference -/
def vlR (S : MS) (v : Int) (kd : Nat) (u : List Nat) : Prop := gl (S.2.2.1 22) v = zL (kyR kd u) ∧ gd (S.2.1 24) v = u.length ∧ ∀ i : Nat, i < u.length → gd (S.2.1 23) (11 * v + i) = ((u.getD i 0 : Nat) : Int)
def okV (kd : Nat) (u : List Nat) : Prop := okTx u ∧ klv kd u ≠ 0 ∧ u.length ≤ 11
def vsR (S : MS) (f : Int) (kd : Nat) (ws : List (List Nat)) : Prop := ∀ (j : Nat) (u : List Nat), ws[j]? = some u → vlR S (f + j) kd u ∧ okV kd u
/-- a test, in the reference -/
def tsR (Ns : List NmT) (S : MS) (s q : Int) (x : TsT) : Prop := ∃ (nm : NmT) (ws : List (List Nat)), Ns[x.1]? = some nm ∧ gd (S.2.1 17) q = x.1 ∧ (0 ≤ gd (S.2.1 18) q ∧ gd (S.2.1 18) q ≤ 6) ∧ x.2.1 = acR (gd (S.2.1 18) q) ∧ (gd (S.2.1 20) q = ws.length ∧ ws ≠ []) ∧ x.2.2.1 = ws.map (klv nm.2.1) ∧ (64 * s ≤ gd (S.2.1 19) q ∧ gd (S.2.1 19) q + ws.length ≤ 64 * s + gd (S.2.1 26) s) ∧ vsR S (gd (S.2.1 19) q) nm.2.1 ws ∧ x.2.2.2 = nm.1 ++ (sgL (gd (S.2.1 18) q) ++ (vsT ws ++ (if gd (S.2.1 18) q = 6 then [93] else [])))
def tsL (Ns : List NmT) (S : MS) (s : Int) (tx : Int → Option TsT) (q : Int) : Prop := (tx q = none ∧ (gd (S.2.1 18) q = 7 ∨ gd (S.2.1 18) q = 8) ∧ gd (S.2.1 20) q = 0) ∨ ∃ x, tx q = some x ∧ tsR Ns S s q x
/-- a node, in the reference: what it means -/
def ndL (S : MS) (s : Int) (dn : Int → Den) (tx : Int → Option TsT) (n : Int) : Prop := (gd (S.2.1 12) n = 0 ∧ (40 * s ≤ gd (S.2.1 13) n ∧ gd (S.2.1 13) n < 40 * s + gd (S.2.1 21) s) ∧ ((tx (gd (S.2.1 13) n) = none ∧ dn n = dCon (decide (gd (S.2.1 18) (gd (S.2.1 13) n) = 7))) ∨ ∃ x, tx (gd (S.2.1 13) n) = some x ∧ dn n = dTst x)) ∨ (gd (S.2.1 12) n = 1 ∧ (128 * s ≤ gd (S.2.1 14) n ∧ gd (S.2.1 14) n < n) ∧ dn n = dNot (dn (gd (S.2.1 14) n))) ∨ (((gd (S.2.1 12) n = 2 ∧ dn n = dJoin 2 (dn (gd (S.2.1 13) n)) (dn (gd (S.2.1 14) n))) ∨ (gd (S.2.1 12) n = 3 ∧ dn n = dJoin 1 (dn (gd (S.2.1 13) n)) (dn (gd (S.2.1 14) n)))) ∧ (128 * s ≤ gd (S.2.1 13) n ∧ gd (S.2.1 13) n < n) ∧ (128 * s ≤ gd (S.2.1 14) n ∧ gd (S.2.1 14) n < n))
def slB (S : MS) (s : Int) : Prop := (0 ≤ s ∧ s ≤ 8) ∧ (0 ≤ gd (S.2.1 15) s ∧ gd (S.2.1 15) s ≤ 128) ∧ (0 ≤ gd (S.2.1 21) s ∧ gd (S.2.1 21) s ≤ 40) ∧ (0 ≤ gd (S.2.1 26) s ∧ gd (S.2.1 26) s ≤ 64)
/-- the parts of a condition, in the reference: what they mean -/
def slR (Ns : List NmT) (S : MS) (s : Int) (dn : Int → Den) (tx : Int → Option TsT) : Prop := slB S s ∧ (∀ n : Int, 128 * s ≤ n → n < 128 * s + gd (S.2.1 15) s → ndL S s dn tx n) ∧ (∀ q : Int, 40 * s ≤ q → q < 40 * s + gd (S.2.1 21) s → tsL Ns S s tx q) ∧ ∀ q q' : Int, 40 * s ≤ q → q < q' → q' < 40 * s + gd (S.2.1 21) s → gd (S.2.1 19) q + gd (S.2.1 20) q ≤ gd (S.2.1 19) q'
/-- what is the same of a condition, its VALUES among it -/
def agX (S S' : MS) (c : Int) : Prop := agr S S' c ∧ (∀ v : Int, 64 * c ≤ v → v < 64 * c + 64 → gl (S'.2.2.1 22) v = gl (S.2.2.1 22) v) ∧ ∀ e : Int, 704 * c ≤ e → e < 704 * c + 704 → gd (S'.2.1 23) e = gd (S.2.1 23) e
theorem agX.rf {c : Int} : agX S S c := ⟨agr.rf, fun _ _ _ => rfl, fun _ _ _ => rfl⟩
theorem agX.tr {S' S'' : MS} {c : Int} (a : agX S S' c) (b : agX S' S'' c) : agX S S'' c := ⟨a.1.tr b.1, fun v h1 h2 => (b.2.1 v h1 h2).trans (a.2.1 v h1 h2), fun v h1 h2 => (b.2.2 v h1 h2).trans (a.2.2 v h1 h2)⟩
theorem agX.sm {S' : MS} {c : Int} {js is ls : List Nat} (h : rSm S S' js is ls) (hn : ∀ i ∈ [12, 13, 14, 15, 16, 17, 18, 19, 20, 21, 24, 26], i ∉ is) (h23 : 23 ∉ is) (h22 : 22 ∉ ls) : agX S S' c := ⟨agr.sm h hn, fun v _ _ => by rw [h.2.2 22 h22], fun v _ _ => by rw [h.2.1 23 h23]⟩
def aOX (S S' : MS) (s : Int) : Prop := ∀ c : Int, 0 ≤ c → c ≤ 8 → c ≠ s → agX S S' c
theorem aOX.rf {s : Int} : aOX S S s := fun _ _ _ _ => agX.rf
theorem aOX.tr {S' S'' : MS} {s : Int} (a : aOX S S' s) (b : aOX S' S'' s) : aOX S S'' s := fun c h1 h2 h3 => (a c h1 h2 h3).tr (b c h1 h2 h3)
theorem aOX.sm {S' : MS} {s : Int} {js is ls : List Nat} (h : rSm S S' js is ls) (hn : ∀ i ∈ [12, 13, 14, 15, 16, 17, 18, 19, 20, 21, 24, 26], i ∉ is) (h23 : 23 ∉ is) (h22 : 22 ∉ ls) : aOX S S' s := fun _ _ _ _ => agX.sm h hn h23 h22
theorem aOX.of {S' : MS} {s : Int} {js is ls : List Nat} (a : agO S S' s) (h : rSm S S' js is ls) (h23 : 23 ∉ is) (h22 : 22 ∉ ls) : aOX S S' s := fun c h1 _ h2 => ⟨a c h1 h2, fun v _ _ => by rw [h.2.2 22 h22], fun v _ _ => by rw [h.2.1 23 h23]⟩
theorem vlR.cong {S' : MS} {v : Int} {kd : Nat} {u : List Nat} (h : vlR S v kd u) (hu : u.length ≤ 11) (h22 : gl (S'.2.2.1 22) v = gl (S.2.2.1 22) v) (h24 : gd (S'.2.1 24) v = gd (S.2.1 24) v) (h23 : ∀ e : Int, 11 * v ≤ e → e < 11 * v + 11 → gd (S'.2.1 23) e = gd (S.2.1 23) e) : vlR S' v kd u := by
  obtain ⟨a, b, c⟩ := h
  exact ⟨by rw [h22]; exact a, by rw [h24]; exact b, fun i hi => by rw [h23 _ (by omega) (by omega)]; exact c i hi⟩
/-- what a test needs to stay -/
theorem tsR.cong {S' : MS} {Ns : List NmT} {s q : Int} {x : TsT} (h : tsR Ns S s q x) (e17 : gd (S'.2.1 17) q = gd (S.2.1 17) q) (e18 : gd (S'.2.1 18) q = gd (S.2.1 18) q) (e19 : gd (S'.2.1 19) q = gd (S.2.1 19) q) (e20 : gd (S'.2.1 20) q = gd (S.2.1 20) q) (hV : gd (S.2.1 26) s ≤ gd (S'.2.1 26) s) (h22 : ∀ v : Int, 64 * s ≤ v → v < 64 * s + gd (S.2.1 26) s → gl (S'.2.2.1 22) v = gl (S.2.2.1 22) v) (h24 : ∀ v : Int, 64 * s ≤ v → v < 64 * s + gd (S.2.1 26) s → gd (S'.2.1 24) v = gd (S.2.1 24) v) (h23 : ∀ e : Int, 704 * s ≤ e → e < 704 * s + 11 * gd (S.2.1 26) s → gd (S'.2.1 23) e = gd (S.2.1 23) e) : tsR Ns S' s q x := by
  obtain ⟨nm, ws, g1, g2, g3, g4, ⟨g5, g6⟩, g7, ⟨g8, g9⟩, g10, g11⟩ := h
  refine ⟨nm, ws, g1, by rw [e17]; exact g2, by rw [e18]; exact g3, by rw [e18]; exact g4, ⟨by rw [e20]; exact g5, g6⟩, g7, by rw [e19]; exact ⟨g8, by omega⟩, ?_, by rw [e18]; exact g11⟩
  rw [e19]
  intro j u hu
  have hj := (List.getElem?_eq_some_iff.mp hu).1
  obtain ⟨k1, k2⟩ := g10 j u hu
  exact ⟨k1.cong k2.2.2 (h22 _ (by omega) (by omega)) (h24 _ (by omega) (by omega)) (fun e h1 h2 => h23 e (by omega) (by omega)), k2⟩
theorem tsL.cong {S' : MS} {Ns : List NmT} {s q : Int} {tx tx' : Int → Option TsT} (h : tsL Ns S s tx q) (et : tx' q = tx q) (e17 : gd (S'.2.1 17) q = gd (S.2.1 17) q) (e18 : gd (S'.2.1 18) q = gd (S.2.1 18) q) (e19 : gd (S'.2.1 19) q = gd (S.2.1 19) q) (e20 : gd (S'.2.1 20) q = gd (S.2.1 20) q) (hV : gd (S.2.1 26) s ≤ gd (S'.2.1 26) s) (h22 : ∀ v : Int, 64 * s ≤ v → v < 64 * s + gd (S.2.1 26) s → gl (S'.2.2.1 22) v = gl (S.2.2.1 22) v) (h24 : ∀ v : Int, 64 * s ≤ v → v < 64 * s + gd (S.2.1 26) s → gd (S'.2.1 24) v = gd (S.2.1 24) v) (h23 : ∀ e : Int, 704 * s ≤ e → e < 704 * s + 11 * gd (S.2.1 26) s → gd (S'.2.1 23) e = gd (S.2.1 23) e) : tsL Ns S' s tx' q := by
  rcases h with ⟨a, b, c⟩ | ⟨x, a, b⟩
  · exact Or.inl ⟨by rw [et]; exact a, by rw [e18]; exact b, by rw [e20]; exact c⟩
  · exact Or.inr ⟨x, by rw [et]; exact a, b.cong e17 e18 e19 e20 hV h22 h24 h23⟩
theorem slR.ag {S' : MS} {Ns : List NmT} {c : Int} {dn : Int → Den} {tx : Int → Option TsT} (h : slR Ns S c dn tx) (a : agX S S' c) : slR Ns S' c dn tx := by
  obtain ⟨⟨b0, b1, b2, b3⟩, h1, h2, h3⟩ := h
  obtain ⟨⟨a1, a2, a3, a4⟩, a5, a6⟩ := a
  have f15 := a4 15 (by decide)
  have f21 := a4 21 (by decide)
  have f26 := a4 26 (by decide)
  have e12 := a1 12 (by decide)
  have e13 := a1 13 (by decide)
  have e14 := a1 14 (by decide)
  have e17 := a2 17 (by decide)
  have e18 := a2 18 (by decide)
  have e19 := a2 19 (by decide)
  have e20 := a2 20 (by decide)
  refine ⟨⟨b0, by rw [f15]; exact b1, by rw [f21]; exact b2, by rw [f26]; exact b3⟩, fun n g1 g2 => ?_, fun q g1 g2 => ?_, fun q q' g1 g2 g3 => ?_⟩
  · rw [f15] at g2
    have := h1 n g1 g2
    unfold ndL at this ⊢
    rw [e12 n g1 (by omega), e13 n g1 (by omega), e14 n g1 (by omega), f21]
    rcases this with ⟨k1, k2, k3⟩ | this
    · exact Or.inl ⟨k1, k2, by rw [e18 _ k2.1 (by omega)]; exact k3⟩
    · exact Or.inr this
  · rw [f21] at g2
    exact (h2 q g1 g2).cong rfl (e17 q g1 (by omega)) (e18 q g1 (by omega)) (e19 q g1 (by omega)) (e20 q g1 (by omega)) (by omega) (fun v k1 k2 => a5 v k1 (by omega)) (fun v k1 k2 => a3 v k1 (by omega)) (fun e k1 k2 => a6 e k1 (by omega))
  · rw [f21] at g3
    rw [e19 q g1 (by omega), e20 q g1 (by omega), e19 q' (by omega) (by omega)]
    exact h3 q q' g1 g2 g3
theorem slR.sm {S' : MS} {Ns : List NmT} {c : Int} {dn : Int → Den} {tx : Int → Option TsT} {js is ls : List Nat} (hs : slR Ns S c dn tx) (h : rSm S S' js is ls) (hn : ∀ i ∈ [12, 13, 14, 15, 16, 17, 18, 19, 20, 21, 24, 26], i ∉ is) (h23 : 23 ∉ is) (h22 : 22 ∉ ls) : slR Ns S' c dn tx := hs.ag (agX.sm h hn h23 h22)
/-- a node more -/
theorem slR.node {S' : MS} {Ns : List NmT} {s k a b : Int} {dn : Int → Den} {tx : Int → Option TsT} {D : Den} (h : slR Ns S s dn tx) (hN : gd (S.2.1 15) s < 128) (l12 : (S.2.1 12).length = 1152) (l13 : (S.2.1 13).length = 1152) (l14 : (S.2.1 14).length = 1152) (l15 : (S.2.1 15).length = 9) (e12 : S'.2.1 12 = se (S.2.1 12) (128 * s + gd (S.2.1 15) s) k) (e13 : S'.2.1 13 = se (S.2.1 13) (128 * s + gd (S.2.1 15) s) a) (e14 : S'.2.1 14 = se (S.2.1 14) (128 * s + gd (S.2.1 15) s) b) (e15 : S'.2.1 15 = se (S.2.1 15) s (gd (S.2.1 15) s + 1)) (he : ∀ i ∈ [17, 18, 19, 20, 21, 23, 24, 26], S'.2.1 i = S.2.1 i) (h22 : S'.2.2.1 22 = S.2.2.1 22) (hk : (k = 0 ∧ (40 * s ≤ a ∧ a < 40 * s + gd (S.2.1 21) s) ∧ ((tx a = none ∧ D = dCon (decide (gd (S.2.1 18) a = 7))) ∨ ∃ x, tx a = some x ∧ D = dTst x)) ∨ (k = 1 ∧ (128 * s ≤ b ∧ b < 128 * s + gd (S.2.1 15) s) ∧ D = dNot (dn b)) ∨ (((k = 2 ∧ D = dJoin 2 (dn a) (dn b)) ∨ (k = 3 ∧ D = dJoin 1 (dn a) (dn b))) ∧ (128 * s ≤ a ∧ a < 128 * s + gd (S.2.1 15) s) ∧ (128 * s ≤ b ∧ b < 128 * s + gd (S.2.1 15) s))) : slR Ns S' s (fun q => if q = 128 * s + gd (S.2.1 15) s then D else dn q) tx := by
  obtain ⟨⟨b0, b1, b2, b3⟩, h1, h2, h3⟩ := h
  have f17 := he 17 (by decide)
  have f18 := he 18 (by decide)
  have f19 := he 19 (by decide)
  have f20 := he 20 (by decide)
  have f21 := he 21 (by decide)
  have f23 := he 23 (by decide)
  have f24 := he 24 (by decide)
  have f26 := he 26 (by decide)
  have f15 : gd (S'.2.1 15) s = gd (S.2.1 15) s + 1 := by rw [e15, gd_se_of l15 (by omega) (by omega) (by omega), if_pos rfl]
  generalize hNN : gd (S.2.1 15) s = N at *
  refine ⟨⟨b0, by rw [f15]; omega, by rw [f21]; exact b2, by rw [f26]; exact b3⟩, fun n g1 g2 => ?_, fun q g1 g2 => ?_, fun q q' g1 g2 g3 => ?_⟩
  · rw [f15] at g2
    unfold ndL
    rw [e12, e13, e14, f21, f18, gd_se_of l12 (by omega) (by omega) (by omega), gd_se_of l13 (by omega) (by omega) (by omega), gd_se_of l14 (by omega) (by omega) (by omega)]
    by_cases hn : n = 128 * s + N
    · simp only [if_pos hn]
      rcases hk with ⟨k1, k2, k3⟩ | ⟨k1, k2, k3⟩ | ⟨k1, k2, k3⟩
      · exact Or.inl ⟨k1, k2, k3⟩
      · refine Or.inr (Or.inl ⟨k1, by omega, ?_⟩)
        rw [if_neg (by omega)]
        exact k3
      · refine Or.inr (Or.inr ⟨?_, by omega, by omega⟩)
        rw [if_neg (by omega), if_neg (by omega)]
        exact k1
    · simp only [if_neg hn]
      have := h1 n g1 (by omega)
      rcases this with ⟨k1, k2, k3⟩ | ⟨k1, k2, k3⟩ | ⟨k1, k2, k3⟩
      · exact Or.inl ⟨k1, k2, k3⟩
      · refine Or.inr (Or.inl ⟨k1, k2, ?_⟩)
        rw [if_neg (by omega)]
        exact k3
      · refine Or.inr (Or.inr ⟨?_, k2, k3⟩)
        rw [if_neg (by omega), if_neg (by omega)]
        exact k1
  · rw [f21] at g2
    exact (h2 q g1 g2).cong rfl (by rw [f17]) (by rw [f18]) (by rw [f19]) (by rw [f20]) (by rw [f26]; omega) (fun v _ _ => by rw [h22]) (fun v _ _ => by rw [f24]) (fun v _ _ => by rw [f23])
  · rw [f21] at g3
    rw [f19, f20]
    exact h3 q q' g1 g2 g3
/-- a test more -/
theorem slR.test {S' : MS} {Ns : List NmT} {s nm op f m : Int} {dn : Int → Den} {tx : Int → Option TsT} {y : Option TsT} (h : slR Ns S s dn tx) (hT : gd (S.2.1 21) s < 40) (l17 : (S.2.1 17).length = 360) (l18 : (S.2.1 18).length = 360) (l19 : (S.2.1 19).length = 360) (l20 : (S.2.1 20).length = 360) (l21 : (S.2.1 21).length = 9) (e17 : S'.2.1 17 = se (S.2.1 17) (40 * s + gd (S.2.1 21) s) nm) (e18 : S'.2.1 18 = se (S.2.1 18) (40 * s + gd (S.2.1 21) s) op) (e19 : S'.2.1 19 = se (S.2.1 19) (40 * s + gd (S.2.1 21) s) f) (e20 : S'.2.1 20 = se (S.2.1 20) (40 * s + gd (S.2.1 21) s) m) (e21 : S'.2.1 21 = se (S.2.1 21) s (gd (S.2.1 21) s + 1)) (he : ∀ i ∈ [12, 13, 14, 15, 23, 24, 26], S'.2.1 i = S.2.1 i) (h22 : S'.2.2.1 22 = S.2.2.1 22) (hdj : ∀ q : Int, 40 * s ≤ q → q < 40 * s + gd (S.2.1 21) s → gd (S.2.1 19) q + gd (S.2.1 20) q ≤ f) (hy : tsL Ns S' s (fun q => if q = 40 * s + gd (S.2.1 21) s then y else tx q) (40 * s + gd (S.2.1 21) s)) : slR Ns S' s dn (fun q => if q = 40 * s + gd (S.2.1 21) s then y else tx q) := by
  obtain ⟨⟨b0, b1, b2, b3⟩, h1, h2, h3⟩ := h
  have f12 := he 12 (by decide)
  have f13 := he 13 (by decide)
  have f14 := he 14 (by decide)
  have f15 := he 15 (by decide)
  have f23 := he 23 (by decide)
  have f24 := he 24 (by decide)
  have f26 := he 26 (by decide)
  have f21 : gd (S'.2.1 21) s = gd (S.2.1 21) s + 1 := by rw [e21, gd_se_of l21 (by omega) (by omega) (by omega), if_pos rfl]
  generalize hTT : gd (S.2.1 21) s = T at *
  have o17 : ∀ q : Int, 0 ≤ q → q < 40 * s + T → gd (S'.2.1 17) q = gd (S.2.1 17) q := fun q g1 g2 => by rw [e17, gd_se_of l17 (by omega) (by omega) g1, if_neg (by omega)]
  have o18 : ∀ q : Int, 0 ≤ q → q < 40 * s + T → gd (S'.2.1 18) q = gd (S.2.1 18) q := fun q g1 g2 => by rw [e18, gd_se_of l18 (by omega) (by omega) g1, if_neg (by omega)]
  have o19 : ∀ q : Int, 0 ≤ q → q < 40 * s + T → gd (S'.2.1 19) q = gd (S.2.1 19) q := fun q g1 g2 => by rw [e19, gd_se_of l19 (by omega) (by omega) g1, if_neg (by omega)]
  have o20 : ∀ q : Int, 0 ≤ q → q < 40 * s + T → gd (S'.2.1 20) q = gd (S.2.1 20) q := fun q g1 g2 => by rw [e20, gd_se_of l20 (by omega) (by omega) g1, if_neg (by omega)]
  refine ⟨⟨b0, by rw [f15]; exact b1, by rw [f21]; omega, by rw [f26]; exact b3⟩, fun n g1 g2 => ?_, fun q g1 g2 => ?_, fun q q' g1 g2 g3 => ?_⟩
  · rw [f15] at g2
    have := h1 n g1 g2
    unfold ndL at this ⊢
    rw [f12, f13, f14, f21]
    rw [hTT] at this
    rcases this with ⟨k1, k2, k3⟩ | this
    · refine Or.inl ⟨k1, by omega, ?_⟩
      simp only [if_neg (show ¬ gd (S.2.1 13) n = 40 * s + T by omega)]
      rw [o18 _ (by omega) (by omega)]
      exact k3
    · exact Or.inr this
  · rw [f21] at g2
    by_cases hq : q = 40 * s + T
    · rw [hq]
      exact hy
    · exact (h2 q g1 (by omega)).cong (if_neg hq) (o17 q (by omega) (by omega)) (o18 q (by omega) (by omega)) (o19 q (by omega) (by omega)) (o20 q (by omega) (by omega)) (by rw [f26]; omega) (fun v _ _ => by rw [h22]) (fun v _ _ => by rw [f24]) (fun v _ _ => by rw [f23])
  · rw [f21] at g3
    rw [o19 q (by omega) (by omega), o20 q (by omega) (by omega)]
    by_cases hq : q' = 40 * s + T
    · rw [e19, hq, gd_se_of l19 (by omega) (by omega) (by omega), if_pos rfl]
      exact hdj q g1 (by omega)
    · rw [o19 q' (by omega) (by omega)]
      exact h3 q q' g1 g2 (by omega)
/-- a VALUE more -/
theorem slR.val {S' : MS} {Ns : List NmT} {s : Int} {dn : Int → Den} {tx : Int → Option TsT} (h : slR Ns S s dn tx) (hV : gd (S.2.1 26) s < 64) (e26 : gd (S'.2.1 26) s = gd (S.2.1 26) s + 1) (he : ∀ i ∈ [12, 13, 14, 15, 17, 18, 19, 20, 21], S'.2.1 i = S.2.1 i) (h22 : ∀ v : Int, 64 * s ≤ v → v < 64 * s + gd (S.2.1 26) s → gl (S'.2.2.1 22) v = gl (S.2.2.1 22) v) (h24 : ∀ v : Int, 64 * s ≤ v → v < 64 * s + gd (S.2.1 26) s → gd (S'.2.1 24) v = gd (S.2.1 24) v) (h23 : ∀ e : Int, 704 * s ≤ e → e < 704 * s + 11 * gd (S.2.1 26) s → gd (S'.2.1 23) e = gd (S.2.1 23) e) : slR Ns S' s dn tx := by
  obtain ⟨⟨b0, b1, b2, b3⟩, h1, h2, h3⟩ := h
  have f12 := he 12 (by decide)
  have f13 := he 13 (by decide)
  have f14 := he 14 (by decide)
  have f15 := he 15 (by decide)
  have f17 := he 17 (by decide)
  have f18 := he 18 (by decide)
  have f19 := he 19 (by decide)
  have f20 := he 20 (by decide)
  have f21 := he 21 (by decide)
  refine ⟨⟨b0, by rw [f15]; exact b1, by rw [f21]; exact b2, by rw [e26]; omega⟩, fun n g1 g2 => ?_, fun q g1 g2 => ?_, fun q q' g1 g2 g3 => ?_⟩
  · rw [f15] at g2
    have := h1 n g1 g2
    unfold ndL at this ⊢
    rw [f12, f13, f14, f21, f18]
    exact this
  · rw [f21] at g2
    exact (h2 q g1 g2).cong rfl (by rw [f17]) (by rw [f18]) (by rw [f19]) (by rw [f20]) (by omega) h22 h24 h23
  · rw [f21] at g3
    rw [f19, f20]
    exact h3 q q' g1 g2 g3
end RH2
