section

end
section RF5
/-- a stack in a row, its top first -/
def stk (us : List Int) : List Int → Prop
  | [] => True
  | k :: P => gd us P.length = k ∧ stk us P
theorem stk_se {us : List Int} {e z : Int} {N : Nat} (hl : us.length = N) (he : 0 ≤ e) (h1 : e < N) : ∀ {P : List Int}, (P.length : Int) ≤ e → stk us P → stk (se us e z) P := by
  intro P
  induction P with
  | nil => intro _ _; exact trivial
  | cons k P ih =>
    intro hp h
    have hp' : (P.length : Int) + 1 ≤ e := by
      have : ((k :: P).length : Int) = (P.length : Int) + 1 := by simp
      omega
    refine ⟨?_, ih (by omega) h.2⟩
    rw [gd_se_of hl he h1 (by omega), if_neg (by omega)]
    exact h.1
theorem stk_push {us : List Int} {e z : Int} {N : Nat} (hl : us.length = N) (h1 : e < N) {P : List Int} (hp : e = P.length) (h : stk us P) : stk (se us e z) (z :: P) := by
  refine ⟨?_, stk_se hl (by omega) h1 (by omega) h⟩
  rw [gd_se_of hl (by omega) h1 (by omega), if_pos hp.symm]
/-- how often a sign is on a stack -/
def cnt (k : Int) : List Int → Int
  | [] => 0
  | x :: P => (if x = k then 1 else 0) + cnt k P
theorem cnt_nn (k : Int) : ∀ P, 0 ≤ cnt k P := by
  intro P
  induction P with
  | nil => exact Int.le_refl _
  | cons x P ih => unfold cnt; split <;> omega
def okPl (P : List Int) : Prop := ∀ x ∈ P, 1 ≤ x ∧ x ≤ 4
theorem okPl_len : ∀ {P : List Int}, okPl P → (P.length : Int) = cnt 1 P + cnt 2 P + cnt 3 P + cnt 4 P := by
  intro P
  induction P with
  | nil => intro _; rfl
  | cons x P ih =>
    intro h
    have h1 := h x List.mem_cons_self
    have h2 := ih (fun y hy => h y (List.mem_cons_of_mem _ hy))
    simp only [cnt, List.length_cons]
    have : x = 1 ∨ x = 2 ∨ x = 3 ∨ x = 4 := by omega
    rcases this with rfl | rfl | rfl | rfl <;> simp <;> omega
/-- weights of what is ready -/
def wsm (w : Int → Int) : List Int → Int
  | [] => 0
  | r :: R => w r + wsm w R
theorem wsm_upd {w : Int → Int} {n z : Int} : ∀ {R : List Int}, (∀ r ∈ R, r < n) → wsm (fun q => if q = n then z else w q) R = wsm w R := by
  intro R
  induction R with
  | nil => intro _; rfl
  | cons r R ih =>
    intro h
    simp only [wsm]
    rw [if_neg (by have := h r List.mem_cons_self; omega), ih (fun q hq => h q (List.mem_cons_of_mem _ hq))]
theorem wsm_nn {w : Int → Int} : ∀ {R : List Int}, (∀ r ∈ R, 1 ≤ w r) → (R.length : Int) ≤ wsm w R := by
  intro R
  induction R with
  | nil => intro _; exact Int.le_refl _
  | cons r R ih =>
    intro h
    have h1 := h r List.mem_cons_self
    have h2 := ih (fun q hq => h q (List.mem_cons_of_mem _ hq))
    simp only [wsm, List.length_cons]
    omega
/-- sums over a row -/
def sm (f : Int → Int) (a : Int) : Nat → Int
  | 0 => 0
  | k + 1 => sm f a k + f (a + k)
theorem sm_congr {f g : Int → Int} {a : Int} : ∀ {k : Nat}, (∀ i : Int, a ≤ i → i < a + k → f i = g i) → sm f a k = sm g a k := by
  intro k
  induction k with
  | zero => intro _; rfl
  | succ k ih =>
    intro h
    simp only [sm]
    rw [ih (fun i h1 h2 => h i h1 (by omega)), h (a + k) (by omega) (by omega)]
theorem sm_nn {f : Int → Int} {a : Int} : ∀ {k : Nat}, (∀ i : Int, a ≤ i → i < a + k → 0 ≤ f i) → 0 ≤ sm f a k := by
  intro k
  induction k with
  | zero => intro _; exact Int.le_refl _
  | succ k ih =>
    intro h
    simp only [sm]
    have := ih (fun i h1 h2 => h i h1 (by omega))
    have := h (a + k) (by omega) (by omega)
    omega
/-- how broad a test is printed, at most -/
def tW (S : MS) (t : Int) : Int := if 6 < gd (S.2.1 18) t then 5 else (if gd (S.2.1 18) t = 6 then 14 else 12) + sm (fun v => gd (S.2.1 24) v + 4) (gd (S.2.1 19) t) (gd (S.2.1 20) t).toNat
/-- a node that keeps its bounds -/
def ndOk (S : MS) (s T : Int) (w : Int → Int) (n : Int) : Prop := 1 ≤ w n ∧ ((gd (S.2.1 12) n = 0 ∧ 40 * s ≤ gd (S.2.1 13) n ∧ gd (S.2.1 13) n < 40 * s + T ∧ tW S (gd (S.2.1 13) n) ≤ w n) ∨ (gd (S.2.1 12) n = 1 ∧ 128 * s ≤ gd (S.2.1 14) n ∧ gd (S.2.1 14) n < n ∧ w (gd (S.2.1 14) n) + 7 ≤ w n) ∨ (((gd (S.2.1 12) n = 2 ∧ w (gd (S.2.1 13) n) + w (gd (S.2.1 14) n) + 10 ≤ w n) ∨ (gd (S.2.1 12) n = 3 ∧ w (gd (S.2.1 13) n) + w (gd (S.2.1 14) n) + 7 ≤ w n)) ∧ 128 * s ≤ gd (S.2.1 13) n ∧ gd (S.2.1 13) n < n ∧ 128 * s ≤ gd (S.2.1 14) n ∧ gd (S.2.1 14) n < n))
/-- a test that keeps its bounds -/
def tsOk (S : MS) (s V t : Int) : Prop := 0 ≤ gd (S.2.1 18) t ∧ gd (S.2.1 18) t ≤ 8 ∧ 0 ≤ gd (S.2.1 20) t ∧ (6 < gd (S.2.1 18) t → gd (S.2.1 20) t = 0) ∧ (gd (S.2.1 18) t ≤ 6 → 0 ≤ gd (S.2.1 17) t ∧ gd (S.2.1 17) t < 6) ∧ 64 * s ≤ gd (S.2.1 19) t ∧ gd (S.2.1 19) t + gd (S.2.1 20) t ≤ 64 * s + V
/-- the parts of a condition keep their bounds -/
def ptOk (S : MS) (s N T V : Int) (w : Int → Int) : Prop := 0 ≤ N ∧ N ≤ 128 ∧ 0 ≤ T ∧ T ≤ 40 ∧ 0 ≤ V ∧ V ≤ 40 ∧ (∀ n : Int, 128 * s ≤ n → n < 128 * s + N → ndOk S s T w n) ∧ (∀ t : Int, 40 * s ≤ t → t < 40 * s + T → tsOk S s V t) ∧ (∀ v : Int, 64 * s ≤ v → v < 64 * s + V → 0 ≤ gd (S.2.1 24) v ∧ gd (S.2.1 24) v ≤ 11) ∧ sm (gd (S.2.1 20)) (40 * s) T.toNat ≤ V
/-- what is the same of a condition -/
def agr (S S' : MS) (s : Int) : Prop := (∀ i ∈ [12, 13, 14], ∀ n : Int, 128 * s ≤ n → n < 128 * s + 128 → gd (S'.2.1 i) n = gd (S.2.1 i) n) ∧ (∀ i ∈ [17, 18, 19, 20], ∀ n : Int, 40 * s ≤ n → n < 40 * s + 40 → gd (S'.2.1 i) n = gd (S.2.1 i) n) ∧ (∀ n : Int, 64 * s ≤ n → n < 64 * s + 64 → gd (S'.2.1 24) n = gd (S.2.1 24) n) ∧ ∀ i ∈ [15, 16, 21, 26], gd (S'.2.1 i) s = gd (S.2.1 i) s
theorem agr.rf {S : MS} {s : Int} : agr S S s := ⟨fun _ _ _ _ _ => rfl, fun _ _ _ _ _ => rfl, fun _ _ _ => rfl, fun _ _ => rfl⟩
theorem agr.tr {S S' S'' : MS} {s : Int} (a : agr S S' s) (b : agr S' S'' s) : agr S S'' s := ⟨fun i hi n h1 h2 => (b.1 i hi n h1 h2).trans (a.1 i hi n h1 h2), fun i hi n h1 h2 => (b.2.1 i hi n h1 h2).trans (a.2.1 i hi n h1 h2), fun n h1 h2 => (b.2.2.1 n h1 h2).trans (a.2.2.1 n h1 h2), fun i hi => (b.2.2.2 i hi).trans (a.2.2.2 i hi)⟩
theorem agr.sm {S S' : MS} {s : Int} {js is ls : List Nat} (h : rSm S S' js is ls) (hn : ∀ i ∈ [12, 13, 14, 15, 16, 17, 18, 19, 20, 21, 24, 26], i ∉ is) : agr S S' s := by
  refine ⟨fun i hi n _ _ => ?_, fun i hi n _ _ => ?_, fun n _ _ => ?_, fun i hi => ?_⟩
  · rw [h.2.1 i (hn i ((by decide : ∀ i ∈ [12, 13, 14], i ∈ [12, 13, 14, 15, 16, 17, 18, 19, 20, 21, 24, 26]) i hi))]
  · rw [h.2.1 i (hn i ((by decide : ∀ i ∈ [17, 18, 19, 20], i ∈ [12, 13, 14, 15, 16, 17, 18, 19, 20, 21, 24, 26]) i hi))]
  · rw [h.2.1 24 (hn 24 (by decide))]
  · rw [h.2.1 i (hn i ((by decide : ∀ i ∈ [15, 16, 21, 26], i ∈ [12, 13, 14, 15, 16, 17, 18, 19, 20, 21, 24, 26]) i hi))]
theorem ptOk.agr {S S' : MS} {s N T V : Int} {w : Int → Int} (hp : ptOk S s N T V w) (a : agr S S' s) : ptOk S' s N T V w := by
  obtain ⟨a1, a2, a3, -⟩ := a
  obtain ⟨p1, p2, p3, p4, p5, p6, p7, p8, p9, p10⟩ := hp
  have e12 := a1 12 (by decide)
  have e13 := a1 13 (by decide)
  have e14 := a1 14 (by decide)
  have e17 := a2 17 (by decide)
  have e18 := a2 18 (by decide)
  have e19 := a2 19 (by decide)
  have e20 := a2 20 (by decide)
  have hts : ∀ t : Int, 40 * s ≤ t → t < 40 * s + T → tsOk S' s V t := fun t h1 h2 => by
    have := p8 t h1 h2
    unfold tsOk at this ⊢
    rw [e17 t h1 (by omega), e18 t h1 (by omega), e19 t h1 (by omega), e20 t h1 (by omega)]
    exact this
  have htw : ∀ t : Int, 40 * s ≤ t → t < 40 * s + T → tW S' t = tW S t := fun t h1 h2 => by
    have ht := p8 t h1 h2
    unfold tsOk at ht
    unfold tW
    rw [e18 t h1 (by omega), e19 t h1 (by omega), e20 t h1 (by omega)]
    rw [sm_congr (f := fun v => gd (S'.2.1 24) v + 4) (g := fun v => gd (S.2.1 24) v + 4) (fun i h3 h4 => by
      show gd (S'.2.1 24) i + 4 = gd (S.2.1 24) i + 4
      rw [a3 i (by omega) (by omega)])]
  refine ⟨p1, p2, p3, p4, p5, p6, fun n h1 h2 => ?_, hts, fun v h1 h2 => ?_, ?_⟩
  · have := p7 n h1 h2
    unfold ndOk at this ⊢
    rw [e12 n h1 (by omega), e13 n h1 (by omega), e14 n h1 (by omega)]
    obtain ⟨k0, k⟩ := this
    refine ⟨k0, ?_⟩
    rcases k with ⟨k1, k2, k3, k4⟩ | k
    · exact Or.inl ⟨k1, k2, k3, by rw [htw _ k2 k3]; exact k4⟩
    · exact Or.inr k
  · rw [a3 v h1 (by omega)]
    exact p9 v h1 h2
  · rw [sm_congr (g := gd (S.2.1 20)) (fun i h1 h2 => e20 i h1 (by omega))]
    exact p10
/-- a condition that is there -/
def cdOk (S : MS) (c : Int) : Prop := ∃ w : Int → Int, ptOk S c (gd (S.2.1 15) c) (gd (S.2.1 21) c) (gd (S.2.1 26) c) w ∧ 128 * c ≤ gd (S.2.1 16) c ∧ gd (S.2.1 16) c < 128 * c + gd (S.2.1 15) c ∧ w (gd (S.2.1 16) c) ≤ 560
theorem cdOk.agr {S S' : MS} {c : Int} (h : cdOk S c) (a : agr S S' c) : cdOk S' c := by
  obtain ⟨w, h1, h2, h3, h4⟩ := h
  have a4 := a.2.2.2
  refine ⟨w, ?_, ?_⟩
  · rw [a4 15 (by decide), a4 21 (by decide), a4 26 (by decide)]
    exact h1.agr a
  · rw [a4 15 (by decide), a4 16 (by decide)]
    exact ⟨h2, h3, h4⟩
/-- all that are there -/
def csOk (S : MS) : Prop := 0 ≤ S.1 11 ∧ S.1 11 ≤ 8 ∧ ∀ c : Int, 0 ≤ c → c < S.1 11 → cdOk S c
/-- while a text is read: a stack of signs P, of nodes R -/
def rdOk (S : MS) (P R : List Int) (w : Int → Int) : Prop := szOk S ∧ nmOk S ∧ (0 ≤ S.1 28 ∧ S.1 28 ≤ 8) ∧ (0 ≤ S.1 27 ∧ S.1 27 ≤ S.1 2 + 1) ∧ (S.1 32 = P.length ∧ stk (S.2.1 31) P ∧ okPl P) ∧ (S.1 33 = cnt 1 P + cnt 4 P ∧ S.1 33 ≤ 13) ∧ (S.1 35 = R.length ∧ stk (S.2.1 34) R ∧ (∀ r ∈ R, 128 * S.1 28 ≤ r ∧ r < 128 * S.1 28 + gd (S.2.1 15) (S.1 28))) ∧ (S.1 35 ≤ gd (S.2.1 21) (S.1 28) ∧ cnt 2 P + cnt 3 P ≤ S.1 35) ∧ ptOk S (S.1 28) (gd (S.2.1 15) (S.1 28)) (gd (S.2.1 21) (S.1 28)) (gd (S.2.1 26) (S.1 28)) w ∧ 2 * (gd (S.2.1 15) (S.1 28) + cnt 1 P + cnt 2 P + cnt 3 P) ≤ S.1 27 ∧ 4 * gd (S.2.1 26) (S.1 28) ≤ S.1 27 ∧ 2 * (wsm w R + 7 * cnt 1 P + 10 * cnt 2 P + 7 * cnt 3 P) ≤ 7 * S.1 27
/-- a node more -/
theorem ptOk.node {S S' : MS} {s N T V k a b z : Int} {w : Int → Int} (hp : ptOk S s N T V w) (hs : 0 ≤ s ∧ s ≤ 8) (hN : N < 128) (l12 : (S.2.1 12).length = 1152) (l13 : (S.2.1 13).length = 1152) (l14 : (S.2.1 14).length = 1152) (e12 : S'.2.1 12 = se (S.2.1 12) (128 * s + N) k) (e13 : S'.2.1 13 = se (S.2.1 13) (128 * s + N) a) (e14 : S'.2.1 14 = se (S.2.1 14) (128 * s + N) b) (he : ∀ i ∈ [17, 18, 19, 20, 24], S'.2.1 i = S.2.1 i) (hz : 1 ≤ z) (hk : (k = 0 ∧ 40 * s ≤ a ∧ a < 40 * s + T ∧ tW S a ≤ z) ∨ (k = 1 ∧ 128 * s ≤ b ∧ b < 128 * s + N ∧ w b + 7 ≤ z) ∨ (((k = 2 ∧ w a + w b + 10 ≤ z) ∨ (k = 3 ∧ w a + w b + 7 ≤ z)) ∧ 128 * s ≤ a ∧ a < 128 * s + N ∧ 128 * s ≤ b ∧ b < 128 * s + N)) : ptOk S' s (N + 1) T V (fun q => if q = 128 * s + N then z else w q) := by
  obtain ⟨p1, p2, p3, p4, p5, p6, p7, p8, p9, p10⟩ := hp
  have e17 := he 17 (by decide)
  have e18 := he 18 (by decide)
  have e19 := he 19 (by decide)
  have e20 := he 20 (by decide)
  have e24 := he 24 (by decide)
  have htw : ∀ t, tW S' t = tW S t := fun t => by unfold tW; rw [e18, e19, e20, e24]
  refine ⟨by omega, by omega, p3, p4, p5, p6, fun n h1 h2 => ?_, fun t h1 h2 => ?_, ?_, ?_⟩
  · unfold ndOk
    rw [e12, e13, e14, gd_se_of l12 (by omega) (by omega) (by omega), gd_se_of l13 (by omega) (by omega) (by omega), gd_se_of l14 (by omega) (by omega) (by omega)]
    by_cases hn : n = 128 * s + N
    · simp only [if_pos hn]
      refine ⟨hz, ?_⟩
      rcases hk with ⟨g1, g2, g3, g4⟩ | ⟨g1, g2, g3, g4⟩ | ⟨g1, g2, g3, g4, g5⟩
      · exact Or.inl ⟨g1, g2, g3, by rw [htw]; exact g4⟩
      · refine Or.inr (Or.inl ⟨g1, g2, by omega, ?_⟩)
        rw [if_neg (by omega)]
        exact g4
      · refine Or.inr (Or.inr ⟨?_, g2, by omega, g4, by omega⟩)
        rw [if_neg (by omega), if_neg (by omega)]
        exact g1
    · simp only [if_neg hn]
      obtain ⟨k0, k⟩ := p7 n h1 (by omega)
      refine ⟨k0, ?_⟩
      rcases k with ⟨g1, g2, g3, g4⟩ | ⟨g1, g2, g3, g4⟩ | ⟨g1, g2, g3, g4, g5⟩
      · exact Or.inl ⟨g1, g2, g3, by rw [htw]; exact g4⟩
      · refine Or.inr (Or.inl ⟨g1, g2, g3, ?_⟩)
        rw [if_neg (by omega)]
        exact g4
      · refine Or.inr (Or.inr ⟨?_, g2, g3, g4, g5⟩)
        rw [if_neg (by omega), if_neg (by omega)]
        exact g1
  · have := p8 t h1 h2
    unfold tsOk at this ⊢
    rw [e17, e18, e19, e20]
    exact this
  · rw [e24]; exact p9
  · rw [e20]; exact p10
theorem okPl.tl {k : Int} {P : List Int} (h : okPl (k :: P)) : okPl P := fun x hx => h x (List.mem_cons_of_mem _ hx)
/-- what is not read into -/
def rdKeep (S S' : MS) : Prop := (∀ j ∈ [2, 3, 27, 28], S'.1 j = S.1 j) ∧ ∀ i ∈ [5, 7, 17, 18, 19, 20, 21, 24, 26], S'.2.1 i = S.2.1 i
/-- apply(): the sign on top takes its nodes -/
theorem rd_apply {S S' : MS} {P R R' : List Int} {w : Int → Int} {k a b : Int} (hS : rdOk S (k :: P) R w) (hk : (k = 1 ∧ R = b :: R') ∨ ((k = 2 ∨ k = 3) ∧ R = b :: a :: R')) (l12 : (S.2.1 12).length = 1152) (l13 : (S.2.1 13).length = 1152) (l14 : (S.2.1 14).length = 1152) (l15 : (S.2.1 15).length = 9) (l34 : (S.2.1 34).length = 80) (hK : rdKeep S S') (e32 : S'.1 32 = S.1 32 - 1) (e31 : S'.2.1 31 = S.2.1 31) (e33 : S'.1 33 = S.1 33 - (if k = 1 then 1 else 0)) (e35 : S'.1 35 = R'.length + 1) (e34 : S'.2.1 34 = se (S.2.1 34) R'.length (128 * S.1 28 + gd (S.2.1 15) (S.1 28))) (e12 : S'.2.1 12 = se (S.2.1 12) (128 * S.1 28 + gd (S.2.1 15) (S.1 28)) k) (e13 : S'.2.1 13 = se (S.2.1 13) (128 * S.1 28 + gd (S.2.1 15) (S.1 28)) a) (e14 : S'.2.1 14 = se (S.2.1 14) (128 * S.1 28 + gd (S.2.1 15) (S.1 28)) b) (e15 : S'.2.1 15 = se (S.2.1 15) (S.1 28) (gd (S.2.1 15) (S.1 28) + 1)) : ∃ w', rdOk S' P ((128 * S.1 28 + gd (S.2.1 15) (S.1 28)) :: R') w' := by
  obtain ⟨s1, s2, s3, s4, ⟨s5, s6, s7⟩, ⟨s8, s9⟩, ⟨s10, s11, s12⟩, ⟨s13, s13b⟩, s14, s15, s16, s17⟩ := hS
  obtain ⟨k1, k2⟩ := hK
  have f2 := k1 2 (by decide)
  have f3 := k1 3 (by decide)
  have f27 := k1 27 (by decide)
  have f28 := k1 28 (by decide)
  have g5 := k2 5 (by decide)
  have g7 := k2 7 (by decide)
  have g21 := k2 21 (by decide)
  have g26 := k2 26 (by decide)
  obtain ⟨p1, p2, p3, p4, p5, p6, -⟩ := id s14
  obtain ⟨z1, z2⟩ := id s1
  generalize hs : S.1 28 = s at *
  generalize hN : gd (S.2.1 15) s = N at *
  have c1 := cnt_nn 1 P
  have c2 := cnt_nn 2 P
  have c3 := cnt_nn 3 P
  have hn1 : gd (se (S.2.1 15) s (N + 1)) s = N + 1 := by rw [gd_se_of l15 (by omega) (by omega) (by omega), if_pos rfl]
  have hlen : (R'.length : Int) < 80 := by
    rcases hk with ⟨-, rfl⟩ | ⟨-, rfl⟩ <;> simp at s10 <;> omega
  have hNl : N < 128 := by
    simp only [cnt] at s15
    rcases hk with ⟨rfl, -⟩ | ⟨rfl | rfl, -⟩ <;> simp at s15 <;> omega
  have hstR : stk (S.2.1 34) R' := by
    rcases hk with ⟨-, rfl⟩ | ⟨-, rfl⟩
    · exact s11.2
    · exact s11.2.2
  have hR' : ∀ r ∈ R', 128 * s ≤ r ∧ r < 128 * s + N := fun r hr => by
    rcases hk with ⟨-, rfl⟩ | ⟨-, rfl⟩
    · exact s12 r (List.mem_cons_of_mem _ hr)
    · exact s12 r (List.mem_cons_of_mem _ (List.mem_cons_of_mem _ hr))
  have fin : ∀ z : Int, 1 ≤ z → ((k = 0 ∧ 40 * s ≤ a ∧ a < 40 * s + gd (S.2.1 21) s ∧ tW S a ≤ z) ∨ (k = 1 ∧ 128 * s ≤ b ∧ b < 128 * s + N ∧ w b + 7 ≤ z) ∨ (((k = 2 ∧ w a + w b + 10 ≤ z) ∨ (k = 3 ∧ w a + w b + 7 ≤ z)) ∧ 128 * s ≤ a ∧ a < 128 * s + N ∧ 128 * s ≤ b ∧ b < 128 * s + N)) → 2 * (z + wsm w R' + 7 * cnt 1 P + 10 * cnt 2 P + 7 * cnt 3 P) ≤ 7 * S.1 27 → 2 * (N + 1 + cnt 1 P + cnt 2 P + cnt 3 P) ≤ S.1 27 → S'.1 33 = cnt 1 P + cnt 4 P ∧ S'.1 33 ≤ 13 → ((R'.length : Int) + 1 ≤ gd (S.2.1 21) s ∧ cnt 2 P + cnt 3 P ≤ (R'.length : Int) + 1) → ∃ w', rdOk S' P ((128 * s + N) :: R') w' := by
    intro z hz hkk hw hc h33 ht
    refine ⟨fun q => if q = 128 * s + N then z else w q, ?_⟩
    unfold rdOk
    rw [f27, f28, f2, e15, hn1, g21, g26, e31, e34, e32, e35]
    refine ⟨?_, ?_, s3, s4, ⟨?_, s6.2, s7.tl⟩, h33, ⟨by simp, stk_push l34 (by omega) rfl hstR, fun r hr => ?_⟩, ht, s14.node s3 hNl l12 l13 l14 e12 e13 e14 (fun i hi => k2 i ((by decide : ∀ i ∈ [17, 18, 19, 20, 24], i ∈ [5, 7, 17, 18, 19, 20, 21, 24, 26]) i hi)) hz hkk, hc, s16, ?_⟩
    · unfold szOk; rw [f2]; exact s1
    · unfold nmOk; rw [f3, g5, g7]; exact s2
    · rw [s5]; simp
    · rcases List.mem_cons.mp hr with rfl | hr
      · omega
      · have := hR' r hr; omega
    · simp only [wsm, if_true]
      rw [wsm_upd (fun r hr => (hR' r hr).2)]
      omega
  simp only [cnt] at s8 s15 s17 s13b
  rcases hk with ⟨rfl, rfl⟩ | ⟨hkk, rfl⟩
  · have hb := s12 b List.mem_cons_self
    have hwb := (s14.2.2.2.2.2.2.1 b hb.1 hb.2).1
    simp only [wsm] at s17
    simp at s8 s15 s17 s10 s13b
    simp at e33
    exact fin (w b + 7) (by omega) (Or.inr (Or.inl ⟨rfl, hb.1, hb.2, Int.le_refl _⟩)) (by omega) (by omega) (by omega) (by omega)
  · have hb := s12 b List.mem_cons_self
    have ha := s12 a (List.mem_cons_of_mem _ List.mem_cons_self)
    have hwb := (s14.2.2.2.2.2.2.1 b hb.1 hb.2).1
    have hwa := (s14.2.2.2.2.2.2.1 a ha.1 ha.2).1
    simp only [wsm] at s17
    rcases hkk with rfl | rfl
    · simp at s8 s15 s17 s10 s13b e33
      exact fin (w a + w b + 10) (by omega) (Or.inr (Or.inr ⟨Or.inl ⟨rfl, Int.le_refl _⟩, ha.1, ha.2, hb.1, hb.2⟩)) (by omega) (by omega) (by omega) (by omega)
    · simp at s8 s15 s17 s10 s13b e33
      exact fin (w a + w b + 7) (by omega) (Or.inr (Or.inr ⟨Or.inr ⟨rfl, Int.le_refl _⟩, ha.1, ha.2, hb.1, hb.2⟩)) (by omega) (by omega) (by omega) (by omega)
/-- a sign more, of which e characters are read -/
theorem rd_push {S S' : MS} {P R : List Int} {w : Int → Int} {k e : Int} (hS : rdOk S P R w) (hk : (k = 4 ∧ 1 ≤ e) ∨ (k = 1 ∧ 3 ≤ e) ∨ (k = 2 ∧ 3 ≤ e ∧ cnt 2 P + cnt 3 P + 1 ≤ S.1 35) ∨ (k = 3 ∧ 2 ≤ e ∧ cnt 2 P + cnt 3 P + 1 ≤ S.1 35)) (l31 : (S.2.1 31).length = 80) {js is ls : List Nat} (hK : rSm S S' js is ls) (hj : ∀ j ∈ [2, 3, 28, 35], j ∉ js) (hi : ∀ i ∈ [5, 7, 12, 13, 14, 15, 16, 17, 18, 19, 20, 21, 24, 26, 34], i ∉ is) (e27 : S'.1 27 = S.1 27 + e) (h27 : S.1 27 + e ≤ S.1 2 + 1) (e32 : S'.1 32 = S.1 32 + 1) (e31 : S'.2.1 31 = se (S.2.1 31) (S.1 32) k) (e33 : S'.1 33 = S.1 33 + (if k = 1 ∨ k = 4 then 1 else 0)) (h33 : S'.1 33 ≤ 13) : rdOk S' (k :: P) R w := by
  obtain ⟨s1, s2, s3, s4, ⟨s5, s6, s7⟩, ⟨s8, s9⟩, ⟨s10, s11, s12⟩, ⟨s13, s13b⟩, s14, s15, s16, s17⟩ := hS
  have f2 := hK.1 2 (hj 2 (by decide))
  have f3 := hK.1 3 (hj 3 (by decide))
  have f28 := hK.1 28 (hj 28 (by decide))
  have f35 := hK.1 35 (hj 35 (by decide))
  have g5 := hK.2.1 5 (hi 5 (by decide))
  have g7 := hK.2.1 7 (hi 7 (by decide))
  have g15 := hK.2.1 15 (hi 15 (by decide))
  have g21 := hK.2.1 21 (hi 21 (by decide))
  have g26 := hK.2.1 26 (hi 26 (by decide))
  have g34 := hK.2.1 34 (hi 34 (by decide))
  have ag : agr S S' (S.1 28) := agr.sm hK (fun i hi' => hi i ((by decide : ∀ i ∈ [12, 13, 14, 15, 16, 17, 18, 19, 20, 21, 24, 26], i ∈ [5, 7, 12, 13, 14, 15, 16, 17, 18, 19, 20, 21, 24, 26, 34]) i hi'))
  have hpl := okPl_len s7
  have c1 := cnt_nn 1 P
  have c2 := cnt_nn 2 P
  have c3 := cnt_nn 3 P
  have c4 := cnt_nn 4 P
  obtain ⟨p1, p2, p3, p4, p5, p6, -⟩ := id s14
  have hst := stk_push (z := k) l31 (by omega) s5 s6
  have hok : okPl (k :: P) := fun x hx => by
    rcases List.mem_cons.mp hx with rfl | hx
    · omega
    · exact s7 x hx
  have hpt := s14.agr ag
  unfold rdOk
  rw [f28, f2, f35, e27, e32, e31, e33, g15, g21, g26, g34]
  rw [e33] at h33
  simp only [cnt]
  refine ⟨?_, ?_, s3, by omega, ⟨by rw [s5]; simp, hst, hok⟩, ⟨?_, h33⟩, ⟨s10, s11, s12⟩, ⟨s13, ?_⟩, hpt, ?_, by omega, ?_⟩
  · unfold szOk; rw [f2]; exact s1
  · unfold nmOk; rw [f3, g5, g7]; exact s2
  · rcases hk with ⟨rfl, hk⟩ | ⟨rfl, hk⟩ | ⟨rfl, hk⟩ | ⟨rfl, hk⟩ <;> simp <;> omega
  · rcases hk with ⟨rfl, hk⟩ | ⟨rfl, hk⟩ | ⟨rfl, hk⟩ | ⟨rfl, hk⟩ <;> simp <;> omega
  · rcases hk with ⟨rfl, hk⟩ | ⟨rfl, hk⟩ | ⟨rfl, hk⟩ | ⟨rfl, hk⟩ <;> simp <;> omega
  · rcases hk with ⟨rfl, hk⟩ | ⟨rfl, hk⟩ | ⟨rfl, hk⟩ | ⟨rfl, hk⟩ <;> simp <;> omega
/-- the place moves on -/
theorem rd_at {S S' : MS} {P R : List Int} {w : Int → Int} (hS : rdOk S P R w) {js is ls : List Nat} (hK : rSm S S' js is ls) (hj : ∀ j ∈ [2, 3, 28, 32, 33, 35], j ∉ js) (hi : ∀ i ∈ [5, 7, 12, 13, 14, 15, 16, 17, 18, 19, 20, 21, 24, 26, 31, 34], i ∉ is) (h0 : S.1 27 ≤ S'.1 27) (h27 : S'.1 27 ≤ S.1 2 + 1) : rdOk S' P R w := by
  obtain ⟨s1, s2, s3, s4, ⟨s5, s6, s7⟩, ⟨s8, s9⟩, ⟨s10, s11, s12⟩, ⟨s13, s13b⟩, s14, s15, s16, s17⟩ := hS
  have f2 := hK.1 2 (hj 2 (by decide))
  have f3 := hK.1 3 (hj 3 (by decide))
  have f28 := hK.1 28 (hj 28 (by decide))
  have f32 := hK.1 32 (hj 32 (by decide))
  have f33 := hK.1 33 (hj 33 (by decide))
  have f35 := hK.1 35 (hj 35 (by decide))
  have g5 := hK.2.1 5 (hi 5 (by decide))
  have g7 := hK.2.1 7 (hi 7 (by decide))
  have g15 := hK.2.1 15 (hi 15 (by decide))
  have g21 := hK.2.1 21 (hi 21 (by decide))
  have g26 := hK.2.1 26 (hi 26 (by decide))
  have g31 := hK.2.1 31 (hi 31 (by decide))
  have g34 := hK.2.1 34 (hi 34 (by decide))
  have ag : agr S S' (S.1 28) := agr.sm hK (fun i hi' => hi i ((by decide : ∀ i ∈ [12, 13, 14, 15, 16, 17, 18, 19, 20, 21, 24, 26], i ∈ [5, 7, 12, 13, 14, 15, 16, 17, 18, 19, 20, 21, 24, 26, 31, 34]) i hi'))
  have hpt := s14.agr ag
  unfold rdOk
  rw [f28, f2, f32, f33, f35, g15, g21, g26, g31, g34]
  refine ⟨?_, ?_, s3, by omega, ⟨s5, s6, s7⟩, ⟨s8, s9⟩, ⟨s10, s11, s12⟩, ⟨s13, s13b⟩, hpt, by omega, by omega, by omega⟩
  · unfold szOk; rw [f2]; exact s1
  · unfold nmOk; rw [f3, g5, g7]; exact s2
/-- a VALUE more -/
theorem rd_val {S S' : MS} {P R : List Int} {w : Int → Int} {ws : Int} (hS : rdOk S P R w) {js is ls : List Nat} (hK : rSm S S' js is ls) (hj : ∀ j ∈ [2, 3, 28, 32, 33, 35], j ∉ js) (hi : ∀ i ∈ [5, 7, 12, 13, 14, 15, 16, 17, 18, 19, 20, 21, 31, 34], i ∉ is) (l24 : (S.2.1 24).length = 576) (l26 : (S.2.1 26).length = 9) (hws : 0 ≤ ws ∧ ws ≤ 11) (e24 : S'.2.1 24 = se (S.2.1 24) (64 * S.1 28 + gd (S.2.1 26) (S.1 28)) ws) (e26 : S'.2.1 26 = se (S.2.1 26) (S.1 28) (gd (S.2.1 26) (S.1 28) + 1)) (h0 : S.1 27 ≤ S'.1 27) (h27 : S'.1 27 ≤ S.1 2 + 1) (h4 : 4 * (gd (S.2.1 26) (S.1 28) + 1) ≤ S'.1 27) : rdOk S' P R w ∧ gd (S'.2.1 26) (S'.1 28) = gd (S.2.1 26) (S.1 28) + 1 ∧ (∀ v : Int, 0 ≤ v → v ≠ 64 * S.1 28 + gd (S.2.1 26) (S.1 28) → gd (S'.2.1 24) v = gd (S.2.1 24) v) ∧ gd (S'.2.1 24) (64 * S.1 28 + gd (S.2.1 26) (S.1 28)) = ws := by
  obtain ⟨s1, s2, s3, s4, ⟨s5, s6, s7⟩, ⟨s8, s9⟩, ⟨s10, s11, s12⟩, ⟨s13, s13b⟩, s14, s15, s16, s17⟩ := hS
  have f2 := hK.1 2 (hj 2 (by decide))
  have f3 := hK.1 3 (hj 3 (by decide))
  have f28 := hK.1 28 (hj 28 (by decide))
  have f32 := hK.1 32 (hj 32 (by decide))
  have f33 := hK.1 33 (hj 33 (by decide))
  have f35 := hK.1 35 (hj 35 (by decide))
  have g5 := hK.2.1 5 (hi 5 (by decide))
  have g7 := hK.2.1 7 (hi 7 (by decide))
  have g12 := hK.2.1 12 (hi 12 (by decide))
  have g13 := hK.2.1 13 (hi 13 (by decide))
  have g14 := hK.2.1 14 (hi 14 (by decide))
  have g15 := hK.2.1 15 (hi 15 (by decide))
  have g17 := hK.2.1 17 (hi 17 (by decide))
  have g18 := hK.2.1 18 (hi 18 (by decide))
  have g19 := hK.2.1 19 (hi 19 (by decide))
  have g20 := hK.2.1 20 (hi 20 (by decide))
  have g21 := hK.2.1 21 (hi 21 (by decide))
  have g31 := hK.2.1 31 (hi 31 (by decide))
  have g34 := hK.2.1 34 (hi 34 (by decide))
  obtain ⟨p1, p2, p3, p4, p5, p6, p7, p8, p9, p10⟩ := s14
  obtain ⟨z1, z2⟩ := id s1
  generalize hs : S.1 28 = s at *
  generalize hV : gd (S.2.1 26) s = V at *
  have hVl : V + 1 ≤ 40 := by omega
  have hold : ∀ v : Int, 0 ≤ v → v ≠ 64 * s + V → gd (S'.2.1 24) v = gd (S.2.1 24) v := fun v h1 h2 => by
    rw [e24, gd_se_of l24 (by omega) (by omega) h1, if_neg h2]
  have hnew : gd (S'.2.1 24) (64 * s + V) = ws := by
    rw [e24, gd_se_of l24 (by omega) (by omega) (by omega), if_pos rfl]
  have hv1 : gd (S'.2.1 26) s = V + 1 := by
    rw [e26, gd_se_of l26 (by omega) (by omega) (by omega), if_pos rfl]
  have htw : ∀ t : Int, 40 * s ≤ t → t < 40 * s + gd (S.2.1 21) s → tW S' t = tW S t := fun t h1 h2 => by
    have ht := p8 t h1 h2
    unfold tsOk at ht
    unfold tW
    rw [g18, g19, g20]
    rw [sm_congr (f := fun v => gd (S'.2.1 24) v + 4) (g := fun v => gd (S.2.1 24) v + 4) (fun i h3 h4 => by
      show gd (S'.2.1 24) i + 4 = gd (S.2.1 24) i + 4
      rw [hold i (by omega) (by omega)])]
  refine ⟨?_, by rw [f28]; exact hv1, hold, hnew⟩
  unfold rdOk
  rw [f28, f2, f32, f33, f35, g15, g21, g31, g34, hv1]
  refine ⟨?_, ?_, s3, by omega, ⟨s5, s6, s7⟩, ⟨s8, s9⟩, ⟨s10, s11, s12⟩, ⟨s13, s13b⟩, ⟨p1, p2, p3, p4, by omega, hVl, fun n h1 h2 => ?_, fun t h1 h2 => ?_, fun v h1 h2 => ?_, ?_⟩, by omega, h4, by omega⟩
  · unfold szOk; rw [f2]; exact s1
  · unfold nmOk; rw [f3, g5, g7]; exact s2
  · have := p7 n h1 h2
    unfold ndOk at this ⊢
    rw [g12, g13, g14]
    obtain ⟨k0, k⟩ := this
    refine ⟨k0, ?_⟩
    rcases k with ⟨k1, k2, k3, k4⟩ | k
    · exact Or.inl ⟨k1, k2, k3, by rw [htw _ k2 k3]; exact k4⟩
    · exact Or.inr k
  · have := p8 t h1 h2
    unfold tsOk at this ⊢
    rw [g17, g18, g19, g20]
    omega
  · by_cases hv : v = 64 * s + V
    · rw [hv, hnew]; exact hws
    · rw [hold v (by omega) hv]
      exact p9 v h1 (by omega)
  · rw [g20]; omega
/-- a test more, and its node -/
theorem rd_test {S S' : MS} {P R : List Int} {w : Int → Int} {nm op f U : Int} (hS : rdOk S P R w) (hT : gd (S.2.1 21) (S.1 28) < 40) (l12 : (S.2.1 12).length = 1152) (l13 : (S.2.1 13).length = 1152) (l14 : (S.2.1 14).length = 1152) (l15 : (S.2.1 15).length = 9) (l34 : (S.2.1 34).length = 80) (l17 : (S.2.1 17).length = 360) (l18 : (S.2.1 18).length = 360) (l19 : (S.2.1 19).length = 360) (l20 : (S.2.1 20).length = 360) (l21 : (S.2.1 21).length = 9) {js is ls : List Nat} (hK : rSm S S' js is ls) (hj : ∀ j ∈ [2, 3, 27, 28, 32, 33], j ∉ js) (hi : ∀ i ∈ [5, 7, 24, 26, 31], i ∉ is) (hop : 0 ≤ op ∧ op ≤ 8) (hnm : op ≤ 6 → 0 ≤ nm ∧ nm < 6) (hf : 64 * S.1 28 ≤ f ∧ f ≤ 64 * S.1 28 + gd (S.2.1 26) (S.1 28)) (hop6 : 6 < op → f = 64 * S.1 28 + gd (S.2.1 26) (S.1 28)) (hsm : sm (gd (S.2.1 20)) (40 * S.1 28) (gd (S.2.1 21) (S.1 28)).toNat ≤ f - 64 * S.1 28) (e17 : S'.2.1 17 = se (S.2.1 17) (40 * S.1 28 + gd (S.2.1 21) (S.1 28)) nm) (e18 : S'.2.1 18 = se (S.2.1 18) (40 * S.1 28 + gd (S.2.1 21) (S.1 28)) op) (e19 : S'.2.1 19 = se (S.2.1 19) (40 * S.1 28 + gd (S.2.1 21) (S.1 28)) f) (e20 : S'.2.1 20 = se (S.2.1 20) (40 * S.1 28 + gd (S.2.1 21) (S.1 28)) (64 * S.1 28 + gd (S.2.1 26) (S.1 28) - f)) (e21 : S'.2.1 21 = se (S.2.1 21) (S.1 28) (gd (S.2.1 21) (S.1 28) + 1)) (e12 : S'.2.1 12 = se (S.2.1 12) (128 * S.1 28 + gd (S.2.1 15) (S.1 28)) 0) (e13 : S'.2.1 13 = se (S.2.1 13) (128 * S.1 28 + gd (S.2.1 15) (S.1 28)) (40 * S.1 28 + gd (S.2.1 21) (S.1 28))) (e14 : S'.2.1 14 = se (S.2.1 14) (128 * S.1 28 + gd (S.2.1 15) (S.1 28)) (-1)) (e15 : S'.2.1 15 = se (S.2.1 15) (S.1 28) (gd (S.2.1 15) (S.1 28) + 1)) (e35 : S'.1 35 = S.1 35 + 1) (e34 : S'.2.1 34 = se (S.2.1 34) (S.1 35) (128 * S.1 28 + gd (S.2.1 15) (S.1 28))) (hU : U = if 6 < op then 5 else (if op = 6 then 14 else 12) + sm (fun v => gd (S.2.1 24) v + 4) f (64 * S.1 28 + gd (S.2.1 26) (S.1 28) - f).toNat) (h15 : 2 * (gd (S.2.1 15) (S.1 28) + 1 + cnt 1 P + cnt 2 P + cnt 3 P) ≤ S.1 27) (h17 : 2 * (wsm w R + U + 7 * cnt 1 P + 10 * cnt 2 P + 7 * cnt 3 P) ≤ 7 * S.1 27) : ∃ w', rdOk S' P ((128 * S.1 28 + gd (S.2.1 15) (S.1 28)) :: R) w' := by
  obtain ⟨s1, s2, s3, s4, ⟨s5, s6, s7⟩, ⟨s8, s9⟩, ⟨s10, s11, s12⟩, ⟨s13, s13b⟩, s14, s15, s16, s17⟩ := hS
  have f2 := hK.1 2 (hj 2 (by decide))
  have f3 := hK.1 3 (hj 3 (by decide))
  have f27 := hK.1 27 (hj 27 (by decide))
  have f28 := hK.1 28 (hj 28 (by decide))
  have f32 := hK.1 32 (hj 32 (by decide))
  have f33 := hK.1 33 (hj 33 (by decide))
  have g5 := hK.2.1 5 (hi 5 (by decide))
  have g7 := hK.2.1 7 (hi 7 (by decide))
  have g24 := hK.2.1 24 (hi 24 (by decide))
  have g26 := hK.2.1 26 (hi 26 (by decide))
  have g31 := hK.2.1 31 (hi 31 (by decide))
  obtain ⟨p1, p2, p3, p4, p5, p6, p7, p8, p9, p10⟩ := id s14
  obtain ⟨z1, z2⟩ := id s1
  have c1 := cnt_nn 1 P
  have c2 := cnt_nn 2 P
  have c3 := cnt_nn 3 P
  generalize hs : S.1 28 = s at *
  generalize hV : gd (S.2.1 26) s = V at *
  generalize hT' : gd (S.2.1 21) s = T at *
  generalize hN : gd (S.2.1 15) s = N at *
  have hNl : N < 128 := by omega
  have hUnn : 0 ≤ sm (fun v => gd (S.2.1 24) v + 4) f (64 * s + V - f).toNat := sm_nn (fun i h1 h2 => by
    have := p9 i (by omega) (by omega)
    show 0 ≤ gd (S.2.1 24) i + 4
    omega)
  have hU1 : 1 ≤ U := by
    rw [hU]
    split
    · omega
    · split <;> omega
  have o17 : ∀ t : Int, 0 ≤ t → gd (S'.2.1 17) t = if t = 40 * s + T then nm else gd (S.2.1 17) t := fun t ht => by rw [e17, gd_se_of l17 (by omega) (by omega) ht]
  have o18 : ∀ t : Int, 0 ≤ t → gd (S'.2.1 18) t = if t = 40 * s + T then op else gd (S.2.1 18) t := fun t ht => by rw [e18, gd_se_of l18 (by omega) (by omega) ht]
  have o19 : ∀ t : Int, 0 ≤ t → gd (S'.2.1 19) t = if t = 40 * s + T then f else gd (S.2.1 19) t := fun t ht => by rw [e19, gd_se_of l19 (by omega) (by omega) ht]
  have o20 : ∀ t : Int, 0 ≤ t → gd (S'.2.1 20) t = if t = 40 * s + T then 64 * s + V - f else gd (S.2.1 20) t := fun t ht => by rw [e20, gd_se_of l20 (by omega) (by omega) ht]
  have htw : ∀ t : Int, 40 * s ≤ t → t < 40 * s + T → tW S' t = tW S t := fun t h1 h2 => by
    have n1 : ¬ t = 40 * s + T := by omega
    have a1 := o18 t (by omega)
    have a2 := o19 t (by omega)
    have a3 := o20 t (by omega)
    rw [if_neg n1] at a1 a2 a3
    unfold tW
    rw [a1, a2, a3, g24]
  have htn : tW S' (40 * s + T) = U := by
    have a1 := o18 (40 * s + T) (by omega)
    have a2 := o19 (40 * s + T) (by omega)
    have a3 := o20 (40 * s + T) (by omega)
    rw [if_pos rfl] at a1 a2 a3
    unfold tW
    rw [a1, a2, a3, g24, hU]
  have hn1 : gd (S'.2.1 15) s = N + 1 := by rw [e15, gd_se_of l15 (by omega) (by omega) (by omega), if_pos rfl]
  have ht1 : gd (S'.2.1 21) s = T + 1 := by rw [e21, gd_se_of l21 (by omega) (by omega) (by omega), if_pos rfl]
  refine ⟨fun q => if q = 128 * s + N then U else w q, ?_⟩
  unfold rdOk
  rw [f28, f2, f27, f32, f33, hn1, ht1, g26, hV, g31, e34, e35]
  refine ⟨?_, ?_, s3, s4, ⟨s5, s6, s7⟩, ⟨s8, s9⟩, ⟨by rw [s10]; simp, stk_push l34 (by omega) s10 s11, fun r hr => ?_⟩, ⟨by omega, by omega⟩, ⟨by omega, by omega, by omega, by omega, p5, p6, fun n h1 h2 => ?_, fun t h1 h2 => ?_, ?_, ?_⟩, by omega, s16, ?_⟩
  · unfold szOk; rw [f2]; exact s1
  · unfold nmOk; rw [f3, g5, g7]; exact s2
  · rcases List.mem_cons.mp hr with rfl | hr
    · omega
    · have := s12 r hr; omega
  · unfold ndOk
    rw [e12, e13, e14, gd_se_of l12 (by omega) (by omega) (by omega), gd_se_of l13 (by omega) (by omega) (by omega), gd_se_of l14 (by omega) (by omega) (by omega)]
    by_cases hn : n = 128 * s + N
    · simp only [if_pos hn]
      exact ⟨hU1, Or.inl ⟨trivial, by omega, by omega, by rw [htn]; exact Int.le_refl _⟩⟩
    · simp only [if_neg hn]
      obtain ⟨k0, k⟩ := p7 n h1 (by omega)
      refine ⟨k0, ?_⟩
      rcases k with ⟨g1, g2, g3, g4⟩ | ⟨g1, g2, g3, g4⟩ | ⟨g1, g2, g3, g4, g5⟩
      · exact Or.inl ⟨g1, g2, by omega, by rw [htw _ g2 g3]; exact g4⟩
      · refine Or.inr (Or.inl ⟨g1, g2, g3, ?_⟩)
        rw [if_neg (by omega)]
        exact g4
      · refine Or.inr (Or.inr ⟨?_, g2, g3, g4, g5⟩)
        rw [if_neg (by omega), if_neg (by omega)]
        exact g1
  · unfold tsOk
    rw [o17 t (by omega), o18 t (by omega), o19 t (by omega), o20 t (by omega)]
    by_cases ht : t = 40 * s + T
    · simp only [if_pos ht]
      refine ⟨hop.1, hop.2, by omega, fun q => ?_, hnm, hf.1, by omega⟩
      have := hop6 q
      omega
    · simp only [if_neg ht]
      exact p8 t h1 (by omega)
  · rw [g24]; exact p9
  · rw [show (T + 1).toNat = T.toNat + 1 by omega]
    simp only [sm]
    rw [show (40 * s + (T.toNat : Int)) = 40 * s + T by omega, o20 _ (by omega), if_pos rfl, sm_congr (g := gd (S.2.1 20)) (fun i h1 h2 => by rw [o20 i (by omega), if_neg (by omega)])]
    omega
  · simp only [wsm, if_true]
    rw [wsm_upd (fun r hr => (s12 r hr).2)]
    omega
end RF5
