section

end
section RG2
variable {l : Launch} {G : XG} {h : XH} {c n d : Nat} {o : Nat} {rf : Nat → Nat} {S : MS}
/-- the number of a word, from its last letter on -/
def wr : List Nat → Int
  | [] => 0
  | a :: u => 32 * wr u + ((a : Int) - 96)
theorem wr_nn : ∀ (u : List Nat), (∀ ch ∈ u, isLt ch) → 0 ≤ wr u := by
  intro u
  induction u with
  | nil => intro _; exact Int.le_refl _
  | cons a u ih =>
    intro hu
    have h1 := ih (fun ch hc => hu ch (List.mem_cons_of_mem _ hc))
    have h2 := hu a List.mem_cons_self
    show 0 ≤ 32 * wr u + ((a : Int) - 96)
    omega
theorem wr_inj : ∀ (u v : List Nat), (∀ ch ∈ u, isLt ch) → (∀ ch ∈ v, isLt ch) → wr u = wr v → u = v := by
  intro u
  induction u with
  | nil =>
    intro v _ hv e
    cases v with
    | nil => rfl
    | cons b v =>
      have h1 := wr_nn v (fun ch hc => hv ch (List.mem_cons_of_mem _ hc))
      have h2 := hv b List.mem_cons_self
      have e' : (0 : Int) = 32 * wr v + ((b : Int) - 96) := e
      omega
  | cons a u ih =>
    intro v hu hv e
    have h1 := wr_nn u (fun ch hc => hu ch (List.mem_cons_of_mem _ hc))
    have h2 := hu a List.mem_cons_self
    cases v with
    | nil =>
      have e' : 32 * wr u + ((a : Int) - 96) = 0 := e
      omega
    | cons b v =>
      have h3 := wr_nn v (fun ch hc => hv ch (List.mem_cons_of_mem _ hc))
      have h4 := hv b List.mem_cons_self
      have e' : 32 * wr u + ((a : Int) - 96) = 32 * wr v + ((b : Int) - 96) := e
      have e1 : a = b := by omega
      have e2 : wr u = wr v := by omega
      rw [e1, ih v (fun ch hc => hu ch (List.mem_cons_of_mem _ hc)) (fun ch hc => hv ch (List.mem_cons_of_mem _ hc)) e2]
theorem wz_wr {us : List Int} {a : Int} {u : List Nat} : ∀ k : Nat, k ≤ u.length → (∀ i : Nat, i < k → gd us (a + i) = ((u.getD i 0 : Nat) : Int)) → wz us a k = wr (u.take k).reverse := by
  intro k
  induction k with
  | zero => intro _ _; rfl
  | succ k ih =>
    intro hk hi
    have h1 := ih (by omega) (fun i h => hi i (by omega))
    have h2 := hi k (by omega)
    have h3 : u.getD k 0 = u[k] := by simp [show k < u.length by omega]
    rw [List.take_succ_eq_append_getElem (by omega), List.reverse_append]
    show 32 * wz us a k + (gd us (a + k) - 96) = 32 * wr (u.take k).reverse + ((u[k] : Int) - 96)
    rw [h1, h2, h3]
/-- TEXT, in the reference -/
def txR (t : List Nat) (S : MS) : Prop := S.1 2 = t.length ∧ ∀ i : Nat, i < t.length → gd (S.2.1 1) i = ((t.getD i 0 : Nat) : Int)
/-- the names, in the reference -/
def nmR (Ns : List NmT) (S : MS) : Prop := S.1 3 = Ns.length ∧ ∀ (i : Nat) (x : NmT), Ns[i]? = some x → gd (S.2.1 5) i = x.1.length ∧ gd (S.2.1 6) i = x.2.1 ∧ (∀ j : Nat, j < x.1.length → gd (S.2.1 4) (8 * i + j) = ((x.1.getD j 0 : Nat) : Int)) ∧ x.1.length ≤ 8 ∧ (∀ ch ∈ x.1, isLt ch) ∧ x.2.1 < 2
theorem txR.wz {t : List Nat} (ht : txR t S) : wz (S.2.1 1) 0 (S.1 2).toNat = wr t.reverse := by
  rw [ht.1, Int.toNat_natCast, wz_wr (u := t) t.length (Nat.le_refl _) (fun i hi => by rw [Int.zero_add]; exact ht.2 i hi), List.take_length]
theorem nmR.at {Ns : List NmT} {i : Nat} (hN : nmR Ns S) (hi : (i : Int) < S.1 3) : ∃ x, Ns[i]? = some x := by
  have : i < Ns.length := by rw [hN.1] at hi; omega
  exact ⟨_, List.getElem?_eq_getElem this⟩
theorem nmR.its {Ns : List NmT} {i : Nat} {x : NmT} (hN : nmR Ns S) (hx : Ns[i]? = some x) : itz S i = wr x.1.reverse := by
  obtain ⟨h1, h2, h3, h4, h5⟩ := hN.2 i x hx
  unfold itz
  rw [h1, Int.toNat_natCast, wz_wr (u := x.1) x.1.length (Nat.le_refl _) h3, List.take_length]
theorem nmR.L {Ns : List NmT} (hN : nmR Ns S) : nmL S := by
  intro i h0 h1 j h2 h3
  obtain ⟨x, hx⟩ := hN.at (i := i.toNat) (by omega)
  obtain ⟨g1, g2, g3, g4, g5, g6⟩ := hN.2 _ x hx
  have ei : ((i.toNat : Nat) : Int) = i := by omega
  rw [ei] at g1 g3
  have hj := g3 (j - 8 * i).toNat (by omega)
  rw [show 8 * i + (((j - 8 * i).toNat : Nat) : Int) = j by omega] at hj
  have hl := g5 (x.1.getD (j - 8 * i).toNat 0) (by
    have hlt : (j - 8 * i).toNat < x.1.length := by omega
    rw [show x.1.getD (j - 8 * i).toNat 0 = x.1[(j - 8 * i).toNat] by simp [hlt]]
    exact List.getElem_mem hlt)
  rw [hj]
  omega
theorem txR.let {t : List Nat} (ht : txR t S) : (∀ i : Int, 0 ≤ i → i < S.1 2 → 97 ≤ gd (S.2.1 1) i ∧ gd (S.2.1 1) i ≤ 122) ↔ ∀ ch ∈ t, isLt ch := by
  constructor
  · intro hq ch hc
    obtain ⟨i, hi, e⟩ := List.getElem_of_mem hc
    have h1 := ht.2 i hi
    have h2 := hq i (by omega) (by rw [ht.1]; omega)
    rw [h1, show t.getD i 0 = t[i] by simp [hi], e] at h2
    omega
  · intro hq i h0 h1
    rw [ht.1] at h1
    have hi : i.toNat < t.length := by omega
    have h2 := ht.2 i.toNat hi
    rw [show ((i.toNat : Nat) : Int) = i by omega, show t.getD i.toNat 0 = t[i.toNat] by simp [hi]] at h2
    have h3 := hq _ (List.getElem_mem hi)
    rw [h2]
    omega
theorem mnf_0 {x : Int64} : ∀ k : Nat, k ≤ 6 → (mnf S x k = 0 ↔ kwd x = 0 ∧ ∀ i : Nat, i < k → ¬ zL (itz S i) = x) := by
  intro k
  induction k with
  | zero => intro _; exact ⟨fun q => ⟨q, fun i hi => by omega⟩, fun q => q.1⟩
  | succ k ih =>
    intro hk
    have ih' := ih (by omega)
    unfold mnf
    by_cases e : zL (itz S k) = x
    · rw [if_pos e]
      exact ⟨fun q => by omega, fun q => absurd e (q.2 k (by omega))⟩
    · rw [if_neg e, ih']
      refine ⟨fun q => ⟨q.1, fun i hi => ?_⟩, fun q => ⟨q.1, fun i hi => q.2 i (by omega)⟩⟩
      by_cases e2 : i = k
      · rw [e2]; exact e
      · exact q.2 i (by omega)
theorem kws_eq : kws = [[111, 114], [97, 110, 100], [110, 111, 116], [105, 110], [116, 114, 117, 101], [102, 97, 108, 115, 101]] := by decide
theorem wr_lt : ∀ (k : Nat) (u : List Nat), u.length ≤ k → (∀ ch ∈ u, isLt ch) → wr u < 32 ^ k := by
  intro k
  induction k with
  | zero =>
    intro u hl _
    cases u with
    | nil => decide
    | cons a u => simp at hl
  | succ k ih =>
    intro u hl hu
    cases u with
    | nil => exact Int.pow_pos (by decide)
    | cons a u =>
      have h1 := ih u (by simpa using hl) (fun ch hc => hu ch (List.mem_cons_of_mem _ hc))
      have h2 := hu a List.mem_cons_self
      show 32 * wr u + ((a : Int) - 96) < 32 ^ (k + 1)
      rw [Int.pow_succ]
      omega
theorem wr_62 {u : List Nat} (hl : u.length ≤ 8) (hu : ∀ ch ∈ u, isLt ch) : -2 ^ 62 ≤ wr u ∧ wr u < 2 ^ 62 := by
  have h1 := wr_nn u hu
  have h2 := wr_lt 8 u hl hu
  have e : (32 : Int) ^ 8 = 1099511627776 := by decide
  omega
theorem kwd_0 {t : List Nat} (hl : t.length ≤ 8) (hu : ∀ ch ∈ t, isLt ch) : kwd (zL (wr t.reverse)) = 0 ↔ t ∉ kws := by
  have hr : ∀ ch ∈ t.reverse, isLt ch := fun ch hc => hu ch (List.mem_reverse.mp hc)
  have hb := wr_62 (u := t.reverse) (by simpa using hl) hr
  have key : ∀ (w : List Nat) (K : Int) (y : Int64), (∀ ch ∈ w, isLt ch) → wr w.reverse = K → y = zL K → -2 ^ 62 ≤ K ∧ K < 2 ^ 62 → (zL (wr t.reverse) = y ↔ t = w) := by
    intro w K y hw hK hy hKb
    constructor
    · intro e
      have e1 := zL_eq hb hKb (e.trans hy)
      have e2 := wr_inj t.reverse w.reverse hr (fun ch hc => hw ch (List.mem_reverse.mp hc)) (e1.trans hK.symm)
      exact List.reverse_inj.mp e2
    · intro e
      rw [e, hK, hy]
  have k1 := key [111, 114] 498 498 (by decide) (by decide) (by decide) (by decide)
  have k2 := key [97, 110, 100] 1476 1476 (by decide) (by decide) (by decide) (by decide)
  have k3 := key [110, 111, 116] 14836 14836 (by decide) (by decide) (by decide) (by decide)
  have k4 := key [105, 110] 302 302 (by decide) (by decide) (by decide) (by decide)
  have k5 := key [116, 114, 117, 101] 674469 674469 (by decide) (by decide) (by decide) (by decide)
  have k6 := key [102, 97, 108, 115, 101] 6337125 6337125 (by decide) (by decide) (by decide) (by decide)
  rw [kws_eq]
  unfold kwd
  simp only [k1, k2, k3, k4, k5, k6, List.mem_cons, List.not_mem_nil, or_false]
  by_cases e1 : t = [111, 114]
  · simp [e1]
  · by_cases e2 : t = [97, 110, 100]
    · simp [e2]
    · by_cases e3 : t = [110, 111, 116]
      · simp [e3]
      · by_cases e4 : t = [105, 110]
        · simp [e4]
        · by_cases e5 : t = [116, 114, 117, 101]
          · simp [e5]
          · by_cases e6 : t = [102, 97, 108, 115, 101]
            · simp [e6]
            · simp [e1, e2, e3, e4, e5, e6]
theorem nmG_iff {t : List Nat} {Ns : List NmT} {k : Int} (ht : txR t S) (hN : nmR Ns S) (h6 : Ns.length ≤ 6) : nmG S k ↔ spl t ∧ nof Ns t = none ∧ (0 ≤ k ∧ k ≤ 1) := by
  have hnof : nof Ns t = none ↔ ∀ x ∈ Ns, ¬ x.1 = t := by
    unfold nof
    rw [List.findIdx?_eq_none_iff]
    simp
  unfold nmG
  rw [ht.let, ht.wz, hnof]
  by_cases hl : t.length ≤ 8
  · by_cases hu : ∀ ch ∈ t, isLt ch
    · have hr : ∀ ch ∈ t.reverse, isLt ch := fun ch hc => hu ch (List.mem_reverse.mp hc)
      have hb := wr_62 (u := t.reverse) (by simpa using hl) hr
      rw [mnf_0 _ (by rw [hN.1]; omega), kwd_0 hl hu]
      have hit : (∀ i : Nat, i < (S.1 3).toNat → ¬ zL (itz S i) = zL (wr t.reverse)) ↔ ∀ x ∈ Ns, ¬ x.1 = t := by
        constructor
        · intro hq x hx e
          obtain ⟨i, hi, ex⟩ := List.getElem_of_mem hx
          have hxi : Ns[i]? = some x := by rw [List.getElem?_eq_getElem hi, ex]
          exact hq i (by rw [hN.1]; omega) (by rw [hN.its hxi, e])
        · intro hq i hi e
          obtain ⟨x, hx⟩ := hN.at (i := i) (by omega)
          obtain ⟨g1, g2, g3, g4, g5, g6⟩ := hN.2 i x hx
          rw [hN.its hx] at e
          have hr2 : ∀ ch ∈ x.1.reverse, isLt ch := fun ch hc => g5 ch (List.mem_reverse.mp hc)
          have e1 := zL_eq (wr_62 (u := x.1.reverse) (by simpa using g4) hr2) hb e
          exact hq x (List.mem_of_getElem? hx) (List.reverse_inj.mp (wr_inj _ _ hr2 hr e1))
      rw [hit]
      have hne : (1 ≤ S.1 2 ∧ S.1 2 ≤ 8) ↔ t ≠ [] := by
        rw [ht.1]
        cases t with
        | nil => simp
        | cons a t => simp at hl ⊢; omega
      rw [hne]
      constructor
      · rintro ⟨a, b, -, e, f⟩
        exact ⟨⟨⟨a, hl⟩, hu, e⟩, f, b⟩
      · rintro ⟨⟨⟨a, -⟩, -, e⟩, f, b⟩
        exact ⟨a, b, hu, e, f⟩
    · exact ⟨fun q => absurd q.2.2.1 hu, fun q => absurd q.1.2.1 hu⟩
  · constructor
    · intro q
      have := q.1.2
      rw [ht.1] at this
      omega
    · intro q
      exact absurd q.1.1.2 hl
/-- what name() leaves of the names -/
theorem nmR.push {S' : MS} {t : List Nat} {Ns : List NmT} {k : Int} {kn : Nat} (ht : txR t S) (hN : nmR Ns S) (h6 : Ns.length < 6) (hk : k = kn) (hkn : kn < 2) (l5 : (S.2.1 5).length = 6) (l6 : (S.2.1 6).length = 6) (hl : t.length ≤ 8) (hu : ∀ ch ∈ t, isLt ch) (e3 : S'.1 3 = S.1 3 + 1) (e5 : S'.2.1 5 = se (S.2.1 5) (S.1 3) (S.1 2)) (e6 : S'.2.1 6 = se (S.2.1 6) (S.1 3) k) (e4 : ∀ i : Int, 0 ≤ i → gd (S'.2.1 4) i = if 8 * S.1 3 ≤ i ∧ i < 8 * S.1 3 + S.1 2 then gd (S.2.1 1) (i - 8 * S.1 3) else gd (S.2.1 4) i) : nmR (Ns ++ [(t, kn, [])]) S' := by
  have h3 := hN.1
  have h2 := ht.1
  refine ⟨by rw [e3, h3]; simp, fun i x hx => ?_⟩
  by_cases hi : i < Ns.length
  · rw [List.getElem?_append_left hi] at hx
    obtain ⟨g1, g2, g3, g4, g5, g6⟩ := hN.2 i x hx
    refine ⟨?_, ?_, fun j hj => ?_, g4, g5, g6⟩
    · rw [e5, gd_se_of l5 (by omega) (by omega) (by omega), if_neg (by omega)]
      exact g1
    · rw [e6, gd_se_of l6 (by omega) (by omega) (by omega), if_neg (by omega)]
      exact g2
    · rw [e4 _ (by omega), if_neg (by omega)]
      exact g3 j hj
  · have hlt := (List.getElem?_eq_some_iff.mp hx).1
    simp at hlt
    obtain rfl : i = Ns.length := by omega
    rw [List.getElem?_append_right (Nat.le_refl _), Nat.sub_self] at hx
    cases hx
    refine ⟨?_, ?_, fun j hj => ?_, hl, hu, hkn⟩
    · rw [e5, gd_se_of l5 (by omega) (by omega) (by omega), if_pos (by omega)]
      exact h2
    · rw [e6, gd_se_of l6 (by omega) (by omega) (by omega), if_pos (by omega)]
      exact hk
    · have hj' : j < t.length := hj
      rw [e4 _ (by omega), if_pos (by omega), show 8 * (Ns.length : Int) + j - 8 * S.1 3 = j by omega]
      exact ht.2 j hj'
theorem txR.nil {S' : MS} (e : S'.1 2 = 0) : txR [] S' := ⟨by rw [e]; rfl, fun i hi => by simp at hi⟩
theorem txR.sm {S' : MS} {t : List Nat} {js is ls : List Nat} (ht : txR t S) (h : rSm S S' js is ls) (hj : 2 ∉ js) (hi : 1 ∉ is) : txR t S' := by
  unfold txR
  rw [h.1 2 hj, h.2.1 1 hi]
  exact ht
theorem nmR.sm {S' : MS} {Ns : List NmT} {js is ls : List Nat} (hN : nmR Ns S) (h : rSm S S' js is ls) (hj : 3 ∉ js) (hi : 4 ∉ is ∧ 5 ∉ is ∧ 6 ∉ is) : nmR Ns S' := by
  unfold nmR
  rw [h.1 3 hj, h.2.1 4 hi.1, h.2.1 5 hi.2.1, h.2.1 6 hi.2.2]
  exact hN
/-- the same names, other VALUES known -/
theorem nmR.val {Ns : List NmT} {i : Nat} {x : NmT} {ks : List Nat} (hN : nmR Ns S) (hx : Ns[i]? = some x) : nmR (Ns.set i (x.1, x.2.1, ks)) S := by
  refine ⟨by rw [List.length_set]; exact hN.1, fun j y hy => ?_⟩
  by_cases e : j = i
  · subst e
    rw [List.getElem?_set_self (List.getElem?_eq_some_iff.mp hx).1] at hy
    cases hy
    exact hN.2 j x hx
  · rw [List.getElem?_set_ne (Ne.symm e)] at hy
    exact hN.2 j y hy
theorem txR.app {t : List Nat} {cc : Nat} (ht : txR t S) (l1 : (S.2.1 1).length = 160) (h160 : t.length < 160) : txR (t ++ [cc]) (sp (sa (sp S 0 0) 1 (se (S.2.1 1) (S.1 2) cc)) 2 (S.1 2 + 1)) := by
  have h2 := ht.1
  refine ⟨by show S.1 2 + 1 = _; rw [h2]; simp, fun i hi => ?_⟩
  show gd (se (S.2.1 1) (S.1 2) cc) i = _
  rw [gd_se_of l1 (by omega) (by omega) (by omega)]
  simp at hi
  by_cases e : i = t.length
  · subst e
    rw [if_pos (by omega)]
    simp
  · rw [if_neg (by omega), ht.2 i (by omega)]
    have : i < t.length := by omega
    simp [List.getElem?_append_left, this]
end RG2
