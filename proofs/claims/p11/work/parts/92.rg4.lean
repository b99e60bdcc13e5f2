section

end
section RG4
variable {l : Launch} {G : XG} {h : XH} {c n d : Nat} {o : Nat} {rf : Nat → Nat} {S : MS}
theorem drop_at {u : List Nat} {p : Nat} (hp : p < u.length) : u.drop p = u.getD p 0 :: u.drop (p + 1) := by
  rw [List.drop_eq_getElem_cons hp, List.getD_eq_getElem?_getD, List.getElem?_eq_getElem hp]
  rfl
/-- a digit -/
abbrev isDg (ch : Nat) : Prop := 48 ≤ ch ∧ ch ≤ 57
theorem vst_dot {K v j c : Nat} (h : 0 < j) (hc : c < 3) : vst (K, v, j, c) 46 = some (K * 1000 + v, 0, 0, c + 1) := if_pos ⟨rfl, h, hc⟩
theorem vst_no {K v j c ch : Nat} (h : ¬ (ch = 46 ∧ 0 < j ∧ c < 3)) (h2 : ¬ (isDg ch ∧ j < 3 ∧ (j = 0 ∨ 0 < v))) : vst (K, v, j, c) ch = none := (if_neg h).trans (if_neg h2)
theorem vst_dg {K v j c ch : Nat} (hd : isDg ch) (hj : j < 3) (hv : j = 0 ∨ 0 < v) : vst (K, v, j, c) ch = some (K, v * 10 + (ch - 48), j + 1, c) := by
  have hn : ¬ (ch = 46 ∧ 0 < j ∧ c < 3) := by omega
  exact (if_neg hn).trans (if_pos ⟨hd, hj, hv⟩)
theorem vrun_some {s s' : Nat × Nat × Nat × Nat} {ch : Nat} {u : List Nat} (e : vst s ch = some s') : vrun (ch :: u) s = vrun u s' := by
  show (match vst s ch with | none => none | some s' => vrun u s') = _
  rw [e]
theorem vrun_none {s : Nat × Nat × Nat × Nat} {ch : Nat} {u : List Nat} (e : vst s ch = none) : vrun (ch :: u) s = none := by
  show (match vst s ch with | none => none | some s' => vrun u s') = _
  rw [e]
/-- while a number of a version is read -/
def vJ (u : List Nat) (be p K c v : Nat) : Prop := be ≤ p ∧ p ≤ u.length ∧ p ≤ be + 4 ∧ ((p = be ∧ v = 0) ∨ (p = be + 1 ∧ v < 10) ∨ (p = be + 2 ∧ v < 100) ∨ (p = be + 3 ∧ v < 1000) ∨ (p = be + 4 ∧ v < 10000)) ∧ (p = be ∨ (be + 1 ≤ p ∧ p ≤ be + 3 ∧ (p = be + 1 ∨ u.getD be 0 ≠ 48) ∧ vrun (u.drop be) (K, 0, 0, c) = vrun (u.drop p) (K, v, p - be, c) ∧ (u.getD be 0 = 48 → v = 0) ∧ (u.getD be 0 ≠ 48 → 0 < v)) ∨ ((p = be + 4 ∨ (be + 2 ≤ p ∧ u.getD be 0 = 48)) ∧ vrun (u.drop be) (K, 0, 0, c) = none))
theorem vJ.step {u : List Nat} {be p K c v : Nat} (h : vJ u be p K c v) (hp : p < u.length) (h4 : p < be + 4) (hd : isDg (u.getD p 0)) : vJ u be (p + 1) K c (v * 10 + (u.getD p 0 - 48)) := by
  obtain ⟨h1, h2, h3, h5, h6⟩ := h
  refine ⟨by omega, by omega, by omega, by omega, ?_⟩
  rcases h6 with h6 | ⟨g1, g2, g3, g4, g5, g6⟩ | ⟨g1, g2⟩
  · subst h6
    obtain rfl : v = 0 := by omega
    refine Or.inr (Or.inl ⟨by omega, by omega, Or.inl rfl, ?_, by omega, by omega⟩)
    rw [drop_at hp, vrun_some (vst_dg hd (by decide) (Or.inl rfl)), show p + 1 - p = 0 + 1 by omega]
  · by_cases hb : p = be + 3
    · refine Or.inr (Or.inr ⟨Or.inl (by omega), ?_⟩)
      rw [g4, drop_at hp, vrun_none (vst_no (by omega) (by omega))]
    · by_cases h48 : u.getD be 0 = 48
      · refine Or.inr (Or.inr ⟨Or.inr ⟨by omega, h48⟩, ?_⟩)
        have := g5 h48
        rw [g4, drop_at hp, vrun_none (vst_no (by omega) (by omega))]
      · have := g6 h48
        refine Or.inr (Or.inl ⟨by omega, by omega, Or.inr h48, ?_, fun z => absurd z h48, fun _ => by omega⟩)
        rw [g4, drop_at hp, vrun_some (vst_dg hd (by omega) (Or.inr this)), show p + 1 - be = p - be + 1 by omega]
  · exact Or.inr (Or.inr ⟨by omega, g2⟩)
/-- between two numbers of a version -/
def vH (u : List Nat) (p n : Nat) (g : Int) (x : Int64) : Prop := (g = 0 ∧ vsl u = 0) ∨ (g = 1 ∧ n = 0 ∧ p = 0 ∧ x = zL 0) ∨ (g = 1 ∧ 1 ≤ n ∧ ∃ K v j : Nat, vrun u (0, 0, 0, 1) = vrun (u.drop p) (K, v, j, n) ∧ 1 ≤ j ∧ x = zL ((K * 1000 + v : Nat) : Int) ∧ (p < u.length → ¬ isDg (u.getD p 0)))
theorem vH.b {u : List Nat} {p n : Nat} {g : Int} {x : Int64} (h : vH u p n g x) : g = 0 ∨ g = 1 := by
  rcases h with ⟨h, -⟩ | ⟨h, -⟩ | ⟨h, -⟩ <;> omega
/-- in a number of a version -/
def vG (u : List Nat) (be p n : Nat) (g : Int) (x : Int64) (v : Int) : Prop := (g = 0 ∧ vsl u = 0) ∨ (g = 1 ∧ ∃ K w : Nat, v = w ∧ vrun u (0, 0, 0, 1) = vrun (u.drop be) (K, 0, 0, n + 1) ∧ x = zL K ∧ vJ u be p K (n + 1) w)
theorem vG.b {u : List Nat} {be p n : Nat} {g v : Int} {x : Int64} (h : vG u be p n g x v) : g = 0 ∨ g = 1 := by
  rcases h with ⟨h, -⟩ | ⟨h, -⟩ <;> omega
theorem vG.step {u : List Nat} {be p n : Nat} {g v y : Int} {x : Int64} (h : vG u be p n g x v) (hp : p < u.length) (h4 : p < be + 4) (hy : y = ((u.getD p 0 : Nat) : Int)) (hd : 48 ≤ y ∧ y ≤ 57) : vG u be (p + 1) n g x (10 * v + y - 48) := by
  rcases h with h | ⟨hg, K, w, hv, h1, h2, h3⟩
  · exact Or.inl h
  · exact Or.inr ⟨hg, K, _, by omega, h1, h2, h3.step hp h4 (by omega)⟩
theorem vG.fin {u : List Nat} {be p n : Nat} {g g' v : Int} {x : Int64} (h : vG u be p n g x v) (hex : p < u.length → ¬ isDg (u.getD p 0) ∨ be + 4 ≤ p) (hg : (g' = 1 ∧ g ≠ 0 ∧ be + 1 ≤ p ∧ p ≤ be + 3 ∧ (p = be + 1 ∨ u.getD be 0 ≠ 48)) ∨ (g' = 0 ∧ (g = 0 ∨ ¬ (be + 1 ≤ p ∧ p ≤ be + 3) ∨ (p ≠ be + 1 ∧ u.getD be 0 = 48)))) : vH u p (n + 1) g' (1000 * x + (zI v).toInt64) := by
  rcases h with ⟨h1, h2⟩ | ⟨h0, K, w, hv, h1, h2, h3⟩
  · exact Or.inl ⟨by omega, h2⟩
  · obtain ⟨q1, q2, q3, q4, q5⟩ := h3
    rcases hg with ⟨e, a1, a2, a3, a4⟩ | ⟨e, a1⟩
    · refine Or.inr (Or.inr ⟨e, by omega, K, w, p - be, ?_, by omega, ?_, fun hp => ?_⟩)
      · rcases q5 with q5 | ⟨b1, b2, b3, b4, -⟩ | ⟨b1, -⟩
        · omega
        · rw [h1, b4]
        · omega
      · rw [h2, k1000 ⟨by omega, by omega⟩, hv]
        congr 1
        omega
      · have := hex hp
        omega
    · refine Or.inl ⟨e, ?_⟩
      unfold vsl
      rw [h1]
      rcases q5 with q5 | ⟨b1, b2, b3, b4, -⟩ | ⟨-, b2⟩
      · subst q5
        by_cases hp : p < u.length
        · have := hex hp
          rw [drop_at hp, vrun_none (vst_no (by omega) (by omega))]
          rfl
        · rw [List.drop_eq_nil_of_le (by omega)]
          rfl
      · omega
      · rw [b2]
        rfl
theorem vH.go0 {u : List Nat} {p n : Nat} {g : Int} {x : Int64} (h : vH u p n g x) (hg : g ≠ 0) (hn : n = 0) : vG u p p n 1 x 0 := by
  rcases h with ⟨h, -⟩ | ⟨-, h1, h2, h3⟩ | ⟨-, h1, -⟩
  · omega
  · subst h1 h2
    exact Or.inr ⟨rfl, 0, 0, rfl, rfl, h3, by omega, by omega, by omega, by omega, Or.inl rfl⟩
  · omega
theorem vH.go1 {u : List Nat} {p n : Nat} {g y g' : Int} {x : Int64} (h : vH u p n g x) (hg : g ≠ 0) (hn : 1 ≤ n) (hn3 : n < 3) (hp : p < u.length) (hy : y = ((u.getD p 0 : Nat) : Int)) (hc : (y = 46 ∧ g' = 1) ∨ (¬ y = 46 ∧ g' = 0)) : vG u (p + 1) (p + 1) n g' x 0 := by
  rcases h with ⟨h, -⟩ | ⟨-, h1, -⟩ | ⟨-, -, K, v, j, h1, h2, h3, h4⟩
  · omega
  · omega
  · have hd := h4 hp
    rcases hc with ⟨e1, e2⟩ | ⟨e1, e2⟩
    · have e3 : u.getD p 0 = 46 := by omega
      refine Or.inr ⟨e2, K * 1000 + v, 0, rfl, ?_, h3, by omega, by omega, by omega, by omega, Or.inl rfl⟩
      rw [h1, drop_at hp, e3, vrun_some (vst_dot (by omega) hn3)]
    · refine Or.inl ⟨e2, ?_⟩
      unfold vsl
      rw [h1, drop_at hp, vrun_none (vst_no (by omega) (by omega))]
      rfl
/-- behind the numbers of a version -/
def vE (u : List Nat) (p n : Nat) (g : Int) (x : Int64) : Prop := (g = 0 ∧ vsl u = 0) ∨ (g = 1 ∧ p ≠ u.length ∧ vsl u = 0) ∨ (g = 1 ∧ p = u.length ∧ ∃ K : Nat, x = zL K ∧ vsl u = 2 * (K * 1000 ^ (3 - n)) + 2)
theorem vE.b {u : List Nat} {p n : Nat} {g : Int} {x : Int64} (h : vE u p n g x) : g = 0 ∨ g = 1 := by
  rcases h with ⟨h, -⟩ | ⟨h, -⟩ | ⟨h, -⟩ <;> omega
theorem vH.end {u : List Nat} {p n : Nat} {g : Int} {x : Int64} (h : vH u p n g x) (hp : p ≤ u.length) (hc : g = 0 ∨ 3 ≤ n ∨ (1 ≤ n ∧ p = u.length)) (hn : n ≤ 3) : vE u p n g x := by
  rcases h with h | ⟨h0, h1, -⟩ | ⟨h0, hn1, K, v, j, h1, h2, h3, h4⟩
  · exact Or.inl h
  · omega
  · by_cases he : p = u.length
    · refine Or.inr (Or.inr ⟨h0, he, _, h3, ?_⟩)
      unfold vsl
      rw [h1, List.drop_eq_nil_of_le (by omega)]
      show vfin (some (K, v, j, n)) = _
      exact if_neg (by show ¬ j = 0; omega)
    · refine Or.inr (Or.inl ⟨h0, he, ?_⟩)
      have hd := h4 (by omega)
      unfold vsl
      rw [h1, drop_at (by omega : p < u.length), vrun_none (vst_no (by omega) (by omega))]
      rfl
theorem vE.step {u : List Nat} {p n : Nat} {g : Int} {x : Int64} (h : vE u p n g x) (hn : n < 3) : vE u p (n + 1) g (1000 * x) := by
  rcases h with h | h | ⟨h0, h1, K, h2, h3⟩
  · exact Or.inl h
  · exact Or.inr (Or.inl h)
  · refine Or.inr (Or.inr ⟨h0, h1, 1000 * K, ?_, ?_⟩)
    · rw [h2, k1000m]
      congr 1
    · rw [h3, show 3 - n = 3 - (n + 1) + 1 by omega, Nat.pow_succ]
      generalize 1000 ^ (3 - (n + 1)) = y
      rw [show K * (y * 1000) = 1000 * K * y by rw [Nat.mul_comm y 1000, ← Nat.mul_assoc, Nat.mul_comm K 1000]]
theorem vE.fin {u : List Nat} {p n : Nat} {g r : Int} {x : Int64} (h : vE u p n g x) (hn : 3 ≤ n) (hr : (r = 1 ∧ ¬ g = 0 ∧ p = u.length) ∨ (r = 0 ∧ (g = 0 ∨ ¬ p = u.length))) : (r = 1 ∧ klv 1 u ≠ 0 ∧ x = zL (kyR 1 u)) ∨ (r = 0 ∧ klv 1 u = 0) := by
  have ek : klv 1 u = vsl u := rfl
  have ey : kyR 1 u = vkR u := rfl
  rw [ek, ey]
  rcases h with ⟨h0, h1⟩ | ⟨h0, h1, h2⟩ | ⟨h0, h1, K, h2, h3⟩
  · exact Or.inr ⟨by omega, h1⟩
  · exact Or.inr ⟨by omega, h2⟩
  · rw [show 3 - n = 0 by omega, Nat.pow_zero, Nat.mul_one] at h3
    refine Or.inl ⟨by omega, by omega, ?_⟩
    rw [h2]
    unfold vkR
    congr 1
    omega
theorem r_isVersionX {t : List Nat} {a b : Int} (hd : 1 ≤ d) (hA : txA t S) (h0 : 0 ≤ a) (h1 : a ≤ b) (h2 : b ≤ t.length) (h3 : t.length ≤ 160) : RM l G d M_Mo_isVersion [.ref o, .int (zI a), .int (zI b)] o rf S (ivX S 1 (cut t a b)) := by
  obtain ⟨d, rfl⟩ : ∃ q, d = q + 1 := ⟨d - 1, by omega⟩
  intro H0 c n hR
  have hul := cut_len (t := t) h0 h1 h2
  have hat : ∀ (p : Nat) (e : Int), e = a + p → p < (cut t a b).length → gd (S.2.1 1) e = (((cut t a b).getD p 0 : Nat) : Int) := fun p e he hb => by
    rw [he, cut_at hA h0 (i := p) (by omega) (by omega) h2, Int.toNat_natCast]
  generalize cut t a b = u at *
  refine XM.of (by decide +kernel) (Nat.le_of_ble_eq_true rfl) ?_
  have l3 : ∀ (k : Nat) (x : Int64) (g t i : Int) (p iN : Nat) (w6 w7 : Option Value), vE u p iN g x → t = a + p → i = iN → iN ≤ 3 → p ≤ u.length → 3 - i ≤ k → RX l G M_Mo_isVersion (d + 1) 197 [some (.ref o), some (.int (zI a)), some (.int (zI b)), some (.int (zI g)), some (.int (zI t)), some (.int (zI i)), w6, w7] [] H0 o rf c n (sk S x) (ivX S 1 u) := by
    intro k
    induction k with
    | zero =>
      intro x g t i p iN w6 w7 hg ht hi hi3 hp hk h hR hX
      have hgb := hg.b
      refine x_iload d_Mo_isVersion_197 rfl ?_
      refine x_iconst (v := zI 3) d_Mo_isVersion_199 (by decide) ?_
      refine z_icmp_ge (tgt := 221) d_Mo_isVersion_200 (by decide) (by omega) (by omega) (fun _ => ?_) (fun hq => by omega)
      refine x_iload_n d_Mo_isVersion_221 rfl ?_
      refine z_if_eq (tgt := 235) d_Mo_isVersion_222 (by decide) (by omega) (fun hc222 => ?_) (fun hc222 => ?_)
      · refine x_iconst (v := zI 0) d_Mo_isVersion_235 (by decide) ?_
        refine x_zret d_Mo_isVersion_236 rfl (z_nb (by omega)) ?_
        exact ⟨_, hR, hX, rfl, rfl, _, _, rfl, rfl, hg.fin (by omega) (by omega)⟩
      · refine x_iload d_Mo_isVersion_225 rfl ?_
        refine x_iload_n d_Mo_isVersion_227 rfl ?_
        refine z_icmp_ne (tgt := 235) d_Mo_isVersion_228 (by decide) (by omega) (by omega) (fun hc228 => ?_) (fun hc228 => ?_)
        · refine x_iconst (v := zI 0) d_Mo_isVersion_235 (by decide) ?_
          refine x_zret d_Mo_isVersion_236 rfl (z_nb (by omega)) ?_
          exact ⟨_, hR, hX, rfl, rfl, _, _, rfl, rfl, hg.fin (by omega) (by omega)⟩
        · refine x_iconst (v := zI 1) d_Mo_isVersion_231 (by decide) ?_
          refine x_goto (tgt := 236) d_Mo_isVersion_232 (by decide) ?_
          refine x_zret d_Mo_isVersion_236 rfl (z_nb (by omega)) ?_
          exact ⟨_, hR, hX, rfl, rfl, _, _, rfl, rfl, hg.fin (by omega) (by omega)⟩
    | succ k ih =>
      intro x g t i p iN w6 w7 hg ht hi hi3 hp hk h hR hX
      have hgb := hg.b
      refine x_iload d_Mo_isVersion_197 rfl ?_
      refine x_iconst (v := zI 3) d_Mo_isVersion_199 (by decide) ?_
      refine z_icmp_ge (tgt := 221) d_Mo_isVersion_200 (by decide) (by omega) (by omega) (fun hc200 => ?_) (fun hc200 => ?_)
      · refine x_iload_n d_Mo_isVersion_221 rfl ?_
        refine z_if_eq (tgt := 235) d_Mo_isVersion_222 (by decide) (by omega) (fun hc222 => ?_) (fun hc222 => ?_)
        · refine x_iconst (v := zI 0) d_Mo_isVersion_235 (by decide) ?_
          refine x_zret d_Mo_isVersion_236 rfl (z_nb (by omega)) ?_
          exact ⟨_, hR, hX, rfl, rfl, _, _, rfl, rfl, hg.fin (by omega) (by omega)⟩
        · refine x_iload d_Mo_isVersion_225 rfl ?_
          refine x_iload_n d_Mo_isVersion_227 rfl ?_
          refine z_icmp_ne (tgt := 235) d_Mo_isVersion_228 (by decide) (by omega) (by omega) (fun hc228 => ?_) (fun hc228 => ?_)
          · refine x_iconst (v := zI 0) d_Mo_isVersion_235 (by decide) ?_
            refine x_zret d_Mo_isVersion_236 rfl (z_nb (by omega)) ?_
            exact ⟨_, hR, hX, rfl, rfl, _, _, rfl, rfl, hg.fin (by omega) (by omega)⟩
          · refine x_iconst (v := zI 1) d_Mo_isVersion_231 (by decide) ?_
            refine x_goto (tgt := 236) d_Mo_isVersion_232 (by decide) ?_
            refine x_zret d_Mo_isVersion_236 rfl (z_nb (by omega)) ?_
            exact ⟨_, hR, hX, rfl, rfl, _, _, rfl, rfl, hg.fin (by omega) (by omega)⟩
      · refine x_aload_n d_Mo_isVersion_203 rfl rfl ?_
        refine x_ldc2 (v := 1000) xw_1386 d_Mo_isVersion_204 ?_
        refine x_aload_n d_Mo_isVersion_207 rfl rfl ?_
        refine x_get xf_Mo_173_Mo (Or.inl hR.1) (v := .long x) rfl d_Mo_isVersion_208 ?_
        refine x_lmul d_Mo_isVersion_211 ?_
        refine r_putk xf_Mo_173_Mo xp_Mo_36 hR hX rfl rfl d_Mo_isVersion_212 ?_
        intro h hR hX
        refine x_iinc (v := zI (i + 1)) (L' := [_, _, _, _, _, _, _, _]) d_Mo_isVersion_215 rfl (zI_add _ _) rfl rfl ?_
        refine x_goto (tgt := 197) d_Mo_isVersion_218 (by decide) ?_
        exact ih _ _ _ _ p (iN + 1) _ _ (hg.step (by omega)) ht (by omega) (by omega) hp (by omega) _ hR hX
  have l1 : ∀ (k : Nat) (x : Int64) (g t i : Int) (p iN : Nat) (w6 w7 : Option Value), vH u p iN g x → t = a + p → i = iN → iN ≤ 3 → p ≤ u.length → 3 - i ≤ k → RX l G M_Mo_isVersion (d + 1) 13 [some (.ref o), some (.int (zI a)), some (.int (zI b)), some (.int (zI g)), some (.int (zI t)), some (.int (zI i)), w6, w7] [] H0 o rf c n (sk S x) (ivX S 1 u) := by
    intro k
    induction k with
    | zero =>
      intro x g t i p iN w6 w7 hg ht hi hi3 hp hk h hR hX
      have hgb := hg.b
      refine x_iload_n d_Mo_isVersion_13 rfl ?_
      refine z_if_eq (tgt := 197) d_Mo_isVersion_14 (by decide) (by omega) (fun hc14 => ?_) (fun hc14 => ?_)
      · exact l3 3 _ _ _ _ p iN _ _ (hg.end hp (by omega) hi3) ht hi hi3 hp (by omega) _ hR hX
      · refine x_iload d_Mo_isVersion_17 rfl ?_
        refine x_iconst (v := zI 3) d_Mo_isVersion_19 (by decide) ?_
        refine z_icmp_ge (tgt := 197) d_Mo_isVersion_20 (by decide) (by omega) (by omega) (fun _ => ?_) (fun hq => by omega)
        exact l3 3 _ _ _ _ p iN _ _ (hg.end hp (by omega) hi3) ht hi hi3 hp (by omega) _ hR hX
    | succ k ih =>
      intro x g t i p iN w6 w7 hg ht hi hi3 hp hk h hR hX
      have hgb := hg.b
      have l2 : ∀ (k2 : Nat) (g t' be v : Int) (bN q : Nat), vG u bN q iN g x v → t' = a + q → be = a + bN → iN < 3 → bN ≤ q → q ≤ u.length → q ≤ bN + 4 → bN + 4 - q ≤ k2 → RX l G M_Mo_isVersion (d + 1) 79 [some (.ref o), some (.int (zI a)), some (.int (zI b)), some (.int (zI g)), some (.int (zI t')), some (.int (zI i)), some (.int (zI be)), some (.int (zI v))] [] H0 o rf c n (sk S x) (ivX S 1 u) := by
        have j174 : ∀ (g g' t' be v : Int) (q : Nat), vH u q (iN + 1) g' (1000 * x + (zI v).toInt64) → (g' = 0 ∨ g' = 1) → t' = a + q → iN < 3 → q ≤ u.length → RX l G M_Mo_isVersion (d + 1) 174 [some (.ref o), some (.int (zI a)), some (.int (zI b)), some (.int (zI g)), some (.int (zI t')), some (.int (zI i)), some (.int (zI be)), some (.int (zI v))] [.int (zI g')] H0 o rf c n (sk S x) (ivX S 1 u) := by
          intro g g' t' be v q hfin hg' ht' hi4 hq h hR hX
          refine x_istore_n (L' := [_, _, _, _, _, _, _, _]) d_Mo_isVersion_174 rfl rfl ?_
          refine x_aload_n d_Mo_isVersion_175 rfl rfl ?_
          refine x_ldc2 (v := 1000) xw_1386 d_Mo_isVersion_176 ?_
          refine x_aload_n d_Mo_isVersion_179 rfl rfl ?_
          refine x_get xf_Mo_173_Mo (Or.inl hR.1) (v := .long x) rfl d_Mo_isVersion_180 ?_
          refine x_lmul d_Mo_isVersion_183 ?_
          refine x_iload d_Mo_isVersion_184 rfl ?_
          refine x_i2l d_Mo_isVersion_186 ?_
          refine x_ladd d_Mo_isVersion_187 ?_
          refine r_putk xf_Mo_173_Mo xp_Mo_36 hR hX rfl rfl d_Mo_isVersion_188 ?_
          intro h hR hX
          refine x_iinc (v := zI (i + 1)) (L' := [_, _, _, _, _, _, _, _]) d_Mo_isVersion_191 rfl (zI_add _ _) rfl rfl ?_
          refine x_goto (tgt := 13) d_Mo_isVersion_194 (by decide) ?_
          exact ih _ _ _ _ q (iN + 1) _ _ hfin ht' (by omega) (by omega) hq (by omega) _ hR hX
        intro k2
        induction k2 with
        | zero =>
          intro g t' be v bN q hv ht' hbe hi4 hb1 hb2 hb3 hk2 h hR hX
          have hgb2 := hv.b
          have hq4 : q = bN + 4 := by omega
          have hatb := hat bN be hbe (by omega)
          refine x_iload d_Mo_isVersion_79 rfl ?_
          refine x_iload_n d_Mo_isVersion_81 rfl ?_
          refine z_icmp_ge (tgt := 131) d_Mo_isVersion_82 (by decide) (by omega) (by omega) (fun hc82 => ?_) (fun hc82 => ?_)
          · refine x_iload_n d_Mo_isVersion_131 rfl ?_
            refine z_if_eq (tgt := 173) d_Mo_isVersion_132 (by decide) (by omega) (fun hc132 => ?_) (fun hc132 => ?_)
            · refine x_iconst (v := zI 0) d_Mo_isVersion_173 (by decide) ?_
              first | (exfalso; omega) | exact j174 _ _ _ _ _ q (hv.fin (fun _ => Or.inr (by omega)) (by omega)) (by omega) ht' hi4 hb2 _ hR hX
            · refine x_iload d_Mo_isVersion_135 rfl ?_
              refine x_iload d_Mo_isVersion_137 rfl ?_
              refine z_isub d_Mo_isVersion_139 ?_
              refine x_iconst (v := zI 1) d_Mo_isVersion_140 (by decide) ?_
              refine x_iconst (v := zI 3) d_Mo_isVersion_141 (by decide) ?_
              refine x_callS (As := [_, _, _]) xcs_Mo_150 (r_in (by omega) (by decide) (by decide)) rfl rfl (Nat.le_of_ble_eq_true rfl) d_Mo_isVersion_142 ?_
              rintro v142 h cq nq ⟨rfl, rfl, rfl, r142, rfl, hr142⟩
              refine z_if_eq (tgt := 173) d_Mo_isVersion_145 (by decide) (by omega) (fun hc145 => ?_) (fun hc145 => ?_)
              · refine x_iconst (v := zI 0) d_Mo_isVersion_173 (by decide) ?_
                first | (exfalso; omega) | exact j174 _ _ _ _ _ q (hv.fin (fun _ => Or.inr (by omega)) (by omega)) (by omega) ht' hi4 hb2 _ hR hX
              · refine x_iload d_Mo_isVersion_148 rfl ?_
                refine x_iload d_Mo_isVersion_150 rfl ?_
                refine x_iconst (v := zI 1) d_Mo_isVersion_152 (by decide) ?_
                refine z_iadd d_Mo_isVersion_153 ?_
                refine z_icmp_eq (tgt := 169) d_Mo_isVersion_154 (by decide) (by omega) (by omega) (fun hc154 => ?_) (fun hc154 => ?_)
                · refine x_iconst (v := zI 1) d_Mo_isVersion_169 (by decide) ?_
                  refine x_goto (tgt := 174) d_Mo_isVersion_170 (by decide) ?_
                  first | (exfalso; omega) | exact j174 _ _ _ _ _ q (hv.fin (fun _ => Or.inr (by omega)) (by omega)) (by omega) ht' hi4 hb2 _ hR hX
                · refine x_aload_n d_Mo_isVersion_157 rfl rfl ?_
                  refine x_get xf_Mo_7_Mo (Or.inl hR.1) (v := .ref (rf 1)) rfl d_Mo_isVersion_158 ?_
                  refine x_iload d_Mo_isVersion_161 rfl ?_
                  refine r_iald (i := 1) (us := (S.2.1 1)) rfl (by decide) hR rfl (by omega) (by show be < 160; omega) d_Mo_isVersion_163 (fun hr163 => ?_)
                  refine x_bipush (v := zI 48) d_Mo_isVersion_164 (by decide) ?_
                  refine z_icmp_eq (tgt := 173) d_Mo_isVersion_166 (by decide) (by omega) (by omega) (fun hc166 => ?_) (fun hc166 => ?_)
                  · refine x_iconst (v := zI 0) d_Mo_isVersion_173 (by decide) ?_
                    first | (exfalso; omega) | exact j174 _ _ _ _ _ q (hv.fin (fun _ => Or.inr (by omega)) (by omega)) (by omega) ht' hi4 hb2 _ hR hX
                  · refine x_iconst (v := zI 1) d_Mo_isVersion_169 (by decide) ?_
                    refine x_goto (tgt := 174) d_Mo_isVersion_170 (by decide) ?_
                    first | (exfalso; omega) | exact j174 _ _ _ _ _ q (hv.fin (fun _ => Or.inr (by omega)) (by omega)) (by omega) ht' hi4 hb2 _ hR hX
          · refine x_aload_n d_Mo_isVersion_85 rfl rfl ?_
            refine x_get xf_Mo_7_Mo (Or.inl hR.1) (v := .ref (rf 1)) rfl d_Mo_isVersion_86 ?_
            refine x_iload d_Mo_isVersion_89 rfl ?_
            refine r_iald (i := 1) (us := (S.2.1 1)) rfl (by decide) hR rfl (by omega) (by show t' < 160; omega) d_Mo_isVersion_91 (fun hr91 => ?_)
            refine x_callS (As := [_]) xcs_Mo_177 (r_isDigit hr91) rfl rfl (Nat.le_of_ble_eq_true rfl) d_Mo_isVersion_92 ?_
            rintro v92 h cq nq ⟨rfl, rfl, rfl, r92, rfl, hr92⟩
            refine z_if_eq (tgt := 131) d_Mo_isVersion_95 (by decide) (by omega) (fun hc95 => ?_) (fun hc95 => ?_)
            · refine x_iload_n d_Mo_isVersion_131 rfl ?_
              refine z_if_eq (tgt := 173) d_Mo_isVersion_132 (by decide) (by omega) (fun hc132 => ?_) (fun hc132 => ?_)
              · refine x_iconst (v := zI 0) d_Mo_isVersion_173 (by decide) ?_
                first | (exfalso; omega) | exact j174 _ _ _ _ _ q (hv.fin (fun _ => Or.inr (by omega)) (by omega)) (by omega) ht' hi4 hb2 _ hR hX
              · refine x_iload d_Mo_isVersion_135 rfl ?_
                refine x_iload d_Mo_isVersion_137 rfl ?_
                refine z_isub d_Mo_isVersion_139 ?_
                refine x_iconst (v := zI 1) d_Mo_isVersion_140 (by decide) ?_
                refine x_iconst (v := zI 3) d_Mo_isVersion_141 (by decide) ?_
                refine x_callS (As := [_, _, _]) xcs_Mo_150 (r_in (by omega) (by decide) (by decide)) rfl rfl (Nat.le_of_ble_eq_true rfl) d_Mo_isVersion_142 ?_
                rintro v142 h cq nq ⟨rfl, rfl, rfl, r142, rfl, hr142⟩
                refine z_if_eq (tgt := 173) d_Mo_isVersion_145 (by decide) (by omega) (fun hc145 => ?_) (fun hc145 => ?_)
                · refine x_iconst (v := zI 0) d_Mo_isVersion_173 (by decide) ?_
                  first | (exfalso; omega) | exact j174 _ _ _ _ _ q (hv.fin (fun _ => Or.inr (by omega)) (by omega)) (by omega) ht' hi4 hb2 _ hR hX
                · refine x_iload d_Mo_isVersion_148 rfl ?_
                  refine x_iload d_Mo_isVersion_150 rfl ?_
                  refine x_iconst (v := zI 1) d_Mo_isVersion_152 (by decide) ?_
                  refine z_iadd d_Mo_isVersion_153 ?_
                  refine z_icmp_eq (tgt := 169) d_Mo_isVersion_154 (by decide) (by omega) (by omega) (fun hc154 => ?_) (fun hc154 => ?_)
                  · refine x_iconst (v := zI 1) d_Mo_isVersion_169 (by decide) ?_
                    refine x_goto (tgt := 174) d_Mo_isVersion_170 (by decide) ?_
                    first | (exfalso; omega) | exact j174 _ _ _ _ _ q (hv.fin (fun _ => Or.inr (by omega)) (by omega)) (by omega) ht' hi4 hb2 _ hR hX
                  · refine x_aload_n d_Mo_isVersion_157 rfl rfl ?_
                    refine x_get xf_Mo_7_Mo (Or.inl hR.1) (v := .ref (rf 1)) rfl d_Mo_isVersion_158 ?_
                    refine x_iload d_Mo_isVersion_161 rfl ?_
                    refine r_iald (i := 1) (us := (S.2.1 1)) rfl (by decide) hR rfl (by omega) (by show be < 160; omega) d_Mo_isVersion_163 (fun hr163 => ?_)
                    refine x_bipush (v := zI 48) d_Mo_isVersion_164 (by decide) ?_
                    refine z_icmp_eq (tgt := 173) d_Mo_isVersion_166 (by decide) (by omega) (by omega) (fun hc166 => ?_) (fun hc166 => ?_)
                    · refine x_iconst (v := zI 0) d_Mo_isVersion_173 (by decide) ?_
                      first | (exfalso; omega) | exact j174 _ _ _ _ _ q (hv.fin (fun _ => Or.inr (by omega)) (by omega)) (by omega) ht' hi4 hb2 _ hR hX
                    · refine x_iconst (v := zI 1) d_Mo_isVersion_169 (by decide) ?_
                      refine x_goto (tgt := 174) d_Mo_isVersion_170 (by decide) ?_
                      first | (exfalso; omega) | exact j174 _ _ _ _ _ q (hv.fin (fun _ => Or.inr (by omega)) (by omega)) (by omega) ht' hi4 hb2 _ hR hX
            · refine x_iload d_Mo_isVersion_98 rfl ?_
              refine x_iload d_Mo_isVersion_100 rfl ?_
              refine x_iconst (v := zI 4) d_Mo_isVersion_102 (by decide) ?_
              refine z_iadd d_Mo_isVersion_103 ?_
              refine z_icmp_ge (tgt := 131) d_Mo_isVersion_104 (by decide) (by omega) (by omega) (fun _ => ?_) (fun hq => by omega)
              refine x_iload_n d_Mo_isVersion_131 rfl ?_
              refine z_if_eq (tgt := 173) d_Mo_isVersion_132 (by decide) (by omega) (fun hc132 => ?_) (fun hc132 => ?_)
              · refine x_iconst (v := zI 0) d_Mo_isVersion_173 (by decide) ?_
                first | (exfalso; omega) | exact j174 _ _ _ _ _ q (hv.fin (fun _ => Or.inr (by omega)) (by omega)) (by omega) ht' hi4 hb2 _ hR hX
              · refine x_iload d_Mo_isVersion_135 rfl ?_
                refine x_iload d_Mo_isVersion_137 rfl ?_
                refine z_isub d_Mo_isVersion_139 ?_
                refine x_iconst (v := zI 1) d_Mo_isVersion_140 (by decide) ?_
                refine x_iconst (v := zI 3) d_Mo_isVersion_141 (by decide) ?_
                refine x_callS (As := [_, _, _]) xcs_Mo_150 (r_in (by omega) (by decide) (by decide)) rfl rfl (Nat.le_of_ble_eq_true rfl) d_Mo_isVersion_142 ?_
                rintro v142 h cq nq ⟨rfl, rfl, rfl, r142, rfl, hr142⟩
                refine z_if_eq (tgt := 173) d_Mo_isVersion_145 (by decide) (by omega) (fun hc145 => ?_) (fun hc145 => ?_)
                · refine x_iconst (v := zI 0) d_Mo_isVersion_173 (by decide) ?_
                  first | (exfalso; omega) | exact j174 _ _ _ _ _ q (hv.fin (fun _ => Or.inr (by omega)) (by omega)) (by omega) ht' hi4 hb2 _ hR hX
                · refine x_iload d_Mo_isVersion_148 rfl ?_
                  refine x_iload d_Mo_isVersion_150 rfl ?_
                  refine x_iconst (v := zI 1) d_Mo_isVersion_152 (by decide) ?_
                  refine z_iadd d_Mo_isVersion_153 ?_
                  refine z_icmp_eq (tgt := 169) d_Mo_isVersion_154 (by decide) (by omega) (by omega) (fun hc154 => ?_) (fun hc154 => ?_)
                  · refine x_iconst (v := zI 1) d_Mo_isVersion_169 (by decide) ?_
                    refine x_goto (tgt := 174) d_Mo_isVersion_170 (by decide) ?_
                    first | (exfalso; omega) | exact j174 _ _ _ _ _ q (hv.fin (fun _ => Or.inr (by omega)) (by omega)) (by omega) ht' hi4 hb2 _ hR hX
                  · refine x_aload_n d_Mo_isVersion_157 rfl rfl ?_
                    refine x_get xf_Mo_7_Mo (Or.inl hR.1) (v := .ref (rf 1)) rfl d_Mo_isVersion_158 ?_
                    refine x_iload d_Mo_isVersion_161 rfl ?_
                    refine r_iald (i := 1) (us := (S.2.1 1)) rfl (by decide) hR rfl (by omega) (by show be < 160; omega) d_Mo_isVersion_163 (fun hr163 => ?_)
                    refine x_bipush (v := zI 48) d_Mo_isVersion_164 (by decide) ?_
                    refine z_icmp_eq (tgt := 173) d_Mo_isVersion_166 (by decide) (by omega) (by omega) (fun hc166 => ?_) (fun hc166 => ?_)
                    · refine x_iconst (v := zI 0) d_Mo_isVersion_173 (by decide) ?_
                      first | (exfalso; omega) | exact j174 _ _ _ _ _ q (hv.fin (fun _ => Or.inr (by omega)) (by omega)) (by omega) ht' hi4 hb2 _ hR hX
                    · refine x_iconst (v := zI 1) d_Mo_isVersion_169 (by decide) ?_
                      refine x_goto (tgt := 174) d_Mo_isVersion_170 (by decide) ?_
                      first | (exfalso; omega) | exact j174 _ _ _ _ _ q (hv.fin (fun _ => Or.inr (by omega)) (by omega)) (by omega) ht' hi4 hb2 _ hR hX
        | succ k2 ih2 =>
          intro g t' be v bN q hv ht' hbe hi4 hb1 hb2 hb3 hk2 h hR hX
          have hgb2 := hv.b
          by_cases hql : q < u.length
          · have hatq := hat q t' ht' hql
            have hatb := hat bN be hbe (by omega)
            refine x_iload d_Mo_isVersion_79 rfl ?_
            refine x_iload_n d_Mo_isVersion_81 rfl ?_
            refine z_icmp_ge (tgt := 131) d_Mo_isVersion_82 (by decide) (by omega) (by omega) (fun hq => by omega) (fun _ => ?_)
            refine x_aload_n d_Mo_isVersion_85 rfl rfl ?_
            refine x_get xf_Mo_7_Mo (Or.inl hR.1) (v := .ref (rf 1)) rfl d_Mo_isVersion_86 ?_
            refine x_iload d_Mo_isVersion_89 rfl ?_
            refine r_iald (i := 1) (us := (S.2.1 1)) rfl (by decide) hR rfl (by omega) (by show t' < 160; omega) d_Mo_isVersion_91 (fun hr91 => ?_)
            refine x_callS (As := [_]) xcs_Mo_177 (r_isDigit hr91) rfl rfl (Nat.le_of_ble_eq_true rfl) d_Mo_isVersion_92 ?_
            rintro v92 h cq nq ⟨rfl, rfl, rfl, r92, rfl, hr92⟩
            refine z_if_eq (tgt := 131) d_Mo_isVersion_95 (by decide) (by omega) (fun hc95 => ?_) (fun hc95 => ?_)
            · refine x_iload_n d_Mo_isVersion_131 rfl ?_
              refine z_if_eq (tgt := 173) d_Mo_isVersion_132 (by decide) (by omega) (fun hc132 => ?_) (fun hc132 => ?_)
              · refine x_iconst (v := zI 0) d_Mo_isVersion_173 (by decide) ?_
                first | (exfalso; omega) | exact j174 _ _ _ _ _ q (hv.fin (fun _ => by omega) (by omega)) (by omega) ht' hi4 hb2 _ hR hX
              · refine x_iload d_Mo_isVersion_135 rfl ?_
                refine x_iload d_Mo_isVersion_137 rfl ?_
                refine z_isub d_Mo_isVersion_139 ?_
                refine x_iconst (v := zI 1) d_Mo_isVersion_140 (by decide) ?_
                refine x_iconst (v := zI 3) d_Mo_isVersion_141 (by decide) ?_
                refine x_callS (As := [_, _, _]) xcs_Mo_150 (r_in (by omega) (by decide) (by decide)) rfl rfl (Nat.le_of_ble_eq_true rfl) d_Mo_isVersion_142 ?_
                rintro v142 h cq nq ⟨rfl, rfl, rfl, r142, rfl, hr142⟩
                refine z_if_eq (tgt := 173) d_Mo_isVersion_145 (by decide) (by omega) (fun hc145 => ?_) (fun hc145 => ?_)
                · refine x_iconst (v := zI 0) d_Mo_isVersion_173 (by decide) ?_
                  first | (exfalso; omega) | exact j174 _ _ _ _ _ q (hv.fin (fun _ => by omega) (by omega)) (by omega) ht' hi4 hb2 _ hR hX
                · refine x_iload d_Mo_isVersion_148 rfl ?_
                  refine x_iload d_Mo_isVersion_150 rfl ?_
                  refine x_iconst (v := zI 1) d_Mo_isVersion_152 (by decide) ?_
                  refine z_iadd d_Mo_isVersion_153 ?_
                  refine z_icmp_eq (tgt := 169) d_Mo_isVersion_154 (by decide) (by omega) (by omega) (fun hc154 => ?_) (fun hc154 => ?_)
                  · refine x_iconst (v := zI 1) d_Mo_isVersion_169 (by decide) ?_
                    refine x_goto (tgt := 174) d_Mo_isVersion_170 (by decide) ?_
                    first | (exfalso; omega) | exact j174 _ _ _ _ _ q (hv.fin (fun _ => by omega) (by omega)) (by omega) ht' hi4 hb2 _ hR hX
                  · refine x_aload_n d_Mo_isVersion_157 rfl rfl ?_
                    refine x_get xf_Mo_7_Mo (Or.inl hR.1) (v := .ref (rf 1)) rfl d_Mo_isVersion_158 ?_
                    refine x_iload d_Mo_isVersion_161 rfl ?_
                    refine r_iald (i := 1) (us := (S.2.1 1)) rfl (by decide) hR rfl (by omega) (by show be < 160; omega) d_Mo_isVersion_163 (fun hr163 => ?_)
                    refine x_bipush (v := zI 48) d_Mo_isVersion_164 (by decide) ?_
                    refine z_icmp_eq (tgt := 173) d_Mo_isVersion_166 (by decide) (by omega) (by omega) (fun hc166 => ?_) (fun hc166 => ?_)
                    · refine x_iconst (v := zI 0) d_Mo_isVersion_173 (by decide) ?_
                      first | (exfalso; omega) | exact j174 _ _ _ _ _ q (hv.fin (fun _ => by omega) (by omega)) (by omega) ht' hi4 hb2 _ hR hX
                    · refine x_iconst (v := zI 1) d_Mo_isVersion_169 (by decide) ?_
                      refine x_goto (tgt := 174) d_Mo_isVersion_170 (by decide) ?_
                      first | (exfalso; omega) | exact j174 _ _ _ _ _ q (hv.fin (fun _ => by omega) (by omega)) (by omega) ht' hi4 hb2 _ hR hX
            · refine x_iload d_Mo_isVersion_98 rfl ?_
              refine x_iload d_Mo_isVersion_100 rfl ?_
              refine x_iconst (v := zI 4) d_Mo_isVersion_102 (by decide) ?_
              refine z_iadd d_Mo_isVersion_103 ?_
              refine z_icmp_ge (tgt := 131) d_Mo_isVersion_104 (by decide) (by omega) (by omega) (fun hc104 => ?_) (fun hc104 => ?_)
              · refine x_iload_n d_Mo_isVersion_131 rfl ?_
                refine z_if_eq (tgt := 173) d_Mo_isVersion_132 (by decide) (by omega) (fun hc132 => ?_) (fun hc132 => ?_)
                · refine x_iconst (v := zI 0) d_Mo_isVersion_173 (by decide) ?_
                  first | (exfalso; omega) | exact j174 _ _ _ _ _ q (hv.fin (fun _ => by omega) (by omega)) (by omega) ht' hi4 hb2 _ hR hX
                · refine x_iload d_Mo_isVersion_135 rfl ?_
                  refine x_iload d_Mo_isVersion_137 rfl ?_
                  refine z_isub d_Mo_isVersion_139 ?_
                  refine x_iconst (v := zI 1) d_Mo_isVersion_140 (by decide) ?_
                  refine x_iconst (v := zI 3) d_Mo_isVersion_141 (by decide) ?_
                  refine x_callS (As := [_, _, _]) xcs_Mo_150 (r_in (by omega) (by decide) (by decide)) rfl rfl (Nat.le_of_ble_eq_true rfl) d_Mo_isVersion_142 ?_
                  rintro v142 h cq nq ⟨rfl, rfl, rfl, r142, rfl, hr142⟩
                  refine z_if_eq (tgt := 173) d_Mo_isVersion_145 (by decide) (by omega) (fun hc145 => ?_) (fun hc145 => ?_)
                  · refine x_iconst (v := zI 0) d_Mo_isVersion_173 (by decide) ?_
                    first | (exfalso; omega) | exact j174 _ _ _ _ _ q (hv.fin (fun _ => by omega) (by omega)) (by omega) ht' hi4 hb2 _ hR hX
                  · refine x_iload d_Mo_isVersion_148 rfl ?_
                    refine x_iload d_Mo_isVersion_150 rfl ?_
                    refine x_iconst (v := zI 1) d_Mo_isVersion_152 (by decide) ?_
                    refine z_iadd d_Mo_isVersion_153 ?_
                    refine z_icmp_eq (tgt := 169) d_Mo_isVersion_154 (by decide) (by omega) (by omega) (fun hc154 => ?_) (fun hc154 => ?_)
                    · refine x_iconst (v := zI 1) d_Mo_isVersion_169 (by decide) ?_
                      refine x_goto (tgt := 174) d_Mo_isVersion_170 (by decide) ?_
                      first | (exfalso; omega) | exact j174 _ _ _ _ _ q (hv.fin (fun _ => by omega) (by omega)) (by omega) ht' hi4 hb2 _ hR hX
                    · refine x_aload_n d_Mo_isVersion_157 rfl rfl ?_
                      refine x_get xf_Mo_7_Mo (Or.inl hR.1) (v := .ref (rf 1)) rfl d_Mo_isVersion_158 ?_
                      refine x_iload d_Mo_isVersion_161 rfl ?_
                      refine r_iald (i := 1) (us := (S.2.1 1)) rfl (by decide) hR rfl (by omega) (by show be < 160; omega) d_Mo_isVersion_163 (fun hr163 => ?_)
                      refine x_bipush (v := zI 48) d_Mo_isVersion_164 (by decide) ?_
                      refine z_icmp_eq (tgt := 173) d_Mo_isVersion_166 (by decide) (by omega) (by omega) (fun hc166 => ?_) (fun hc166 => ?_)
                      · refine x_iconst (v := zI 0) d_Mo_isVersion_173 (by decide) ?_
                        first | (exfalso; omega) | exact j174 _ _ _ _ _ q (hv.fin (fun _ => by omega) (by omega)) (by omega) ht' hi4 hb2 _ hR hX
                      · refine x_iconst (v := zI 1) d_Mo_isVersion_169 (by decide) ?_
                        refine x_goto (tgt := 174) d_Mo_isVersion_170 (by decide) ?_
                        first | (exfalso; omega) | exact j174 _ _ _ _ _ q (hv.fin (fun _ => by omega) (by omega)) (by omega) ht' hi4 hb2 _ hR hX
              · refine x_bipush (v := zI 10) d_Mo_isVersion_107 (by decide) ?_
                refine x_iload d_Mo_isVersion_109 rfl ?_
                refine z_imul d_Mo_isVersion_111 ?_
                refine x_aload_n d_Mo_isVersion_112 rfl rfl ?_
                refine x_get xf_Mo_7_Mo (Or.inl hR.1) (v := .ref (rf 1)) rfl d_Mo_isVersion_113 ?_
                refine x_iload d_Mo_isVersion_116 rfl ?_
                refine r_iald (i := 1) (us := (S.2.1 1)) rfl (by decide) hR rfl (by omega) (by show t' < 160; omega) d_Mo_isVersion_118 (fun hr118 => ?_)
                refine z_iadd d_Mo_isVersion_119 ?_
                refine x_bipush (v := zI 48) d_Mo_isVersion_120 (by decide) ?_
                refine z_isub d_Mo_isVersion_122 ?_
                refine x_istore (L' := [_, _, _, _, _, _, _, _]) d_Mo_isVersion_123 rfl rfl ?_
                refine x_iinc (v := zI (t' + 1)) (L' := [_, _, _, _, _, _, _, _]) d_Mo_isVersion_125 rfl (zI_add _ _) rfl rfl ?_
                refine x_goto (tgt := 79) d_Mo_isVersion_128 (by decide) ?_
                exact ih2 _ _ _ _ bN (q + 1) (hv.step hql (by omega) hatq (by omega)) (by omega) hbe hi4 (by omega) (by omega) (by omega) (by omega) _ hR hX
          · have hatb : bN < q → gd (S.2.1 1) be = ((u.getD bN 0 : Nat) : Int) := fun hz => hat bN be hbe (by omega)
            refine x_iload d_Mo_isVersion_79 rfl ?_
            refine x_iload_n d_Mo_isVersion_81 rfl ?_
            refine z_icmp_ge (tgt := 131) d_Mo_isVersion_82 (by decide) (by omega) (by omega) (fun _ => ?_) (fun hq => by omega)
            refine x_iload_n d_Mo_isVersion_131 rfl ?_
            refine z_if_eq (tgt := 173) d_Mo_isVersion_132 (by decide) (by omega) (fun hc132 => ?_) (fun hc132 => ?_)
            · refine x_iconst (v := zI 0) d_Mo_isVersion_173 (by decide) ?_
              first | (exfalso; omega) | exact j174 _ _ _ _ _ q (hv.fin (fun z => absurd z hql) (by omega)) (by omega) ht' hi4 hb2 _ hR hX
            · refine x_iload d_Mo_isVersion_135 rfl ?_
              refine x_iload d_Mo_isVersion_137 rfl ?_
              refine z_isub d_Mo_isVersion_139 ?_
              refine x_iconst (v := zI 1) d_Mo_isVersion_140 (by decide) ?_
              refine x_iconst (v := zI 3) d_Mo_isVersion_141 (by decide) ?_
              refine x_callS (As := [_, _, _]) xcs_Mo_150 (r_in (by omega) (by decide) (by decide)) rfl rfl (Nat.le_of_ble_eq_true rfl) d_Mo_isVersion_142 ?_
              rintro v142 h cq nq ⟨rfl, rfl, rfl, r142, rfl, hr142⟩
              refine z_if_eq (tgt := 173) d_Mo_isVersion_145 (by decide) (by omega) (fun hc145 => ?_) (fun hc145 => ?_)
              · refine x_iconst (v := zI 0) d_Mo_isVersion_173 (by decide) ?_
                first | (exfalso; omega) | exact j174 _ _ _ _ _ q (hv.fin (fun z => absurd z hql) (by omega)) (by omega) ht' hi4 hb2 _ hR hX
              · refine x_iload d_Mo_isVersion_148 rfl ?_
                refine x_iload d_Mo_isVersion_150 rfl ?_
                refine x_iconst (v := zI 1) d_Mo_isVersion_152 (by decide) ?_
                refine z_iadd d_Mo_isVersion_153 ?_
                refine z_icmp_eq (tgt := 169) d_Mo_isVersion_154 (by decide) (by omega) (by omega) (fun hc154 => ?_) (fun hc154 => ?_)
                · refine x_iconst (v := zI 1) d_Mo_isVersion_169 (by decide) ?_
                  refine x_goto (tgt := 174) d_Mo_isVersion_170 (by decide) ?_
                  first | (exfalso; omega) | exact j174 _ _ _ _ _ q (hv.fin (fun z => absurd z hql) (by omega)) (by omega) ht' hi4 hb2 _ hR hX
                · refine x_aload_n d_Mo_isVersion_157 rfl rfl ?_
                  refine x_get xf_Mo_7_Mo (Or.inl hR.1) (v := .ref (rf 1)) rfl d_Mo_isVersion_158 ?_
                  refine x_iload d_Mo_isVersion_161 rfl ?_
                  refine r_iald (i := 1) (us := (S.2.1 1)) rfl (by decide) hR rfl (by omega) (by show be < 160; omega) d_Mo_isVersion_163 (fun hr163 => ?_)
                  refine x_bipush (v := zI 48) d_Mo_isVersion_164 (by decide) ?_
                  refine z_icmp_eq (tgt := 173) d_Mo_isVersion_166 (by decide) (by omega) (by omega) (fun hc166 => ?_) (fun hc166 => ?_)
                  · refine x_iconst (v := zI 0) d_Mo_isVersion_173 (by decide) ?_
                    first | (exfalso; omega) | exact j174 _ _ _ _ _ q (hv.fin (fun z => absurd z hql) (by omega)) (by omega) ht' hi4 hb2 _ hR hX
                  · refine x_iconst (v := zI 1) d_Mo_isVersion_169 (by decide) ?_
                    refine x_goto (tgt := 174) d_Mo_isVersion_170 (by decide) ?_
                    first | (exfalso; omega) | exact j174 _ _ _ _ _ q (hv.fin (fun z => absurd z hql) (by omega)) (by omega) ht' hi4 hb2 _ hR hX
      by_cases hpl : p < u.length
      · have hatp := hat p t ht hpl
        refine x_iload_n d_Mo_isVersion_13 rfl ?_
        refine z_if_eq (tgt := 197) d_Mo_isVersion_14 (by decide) (by omega) (fun hc14 => ?_) (fun hc14 => ?_)
        · first | (exfalso; omega) | exact l3 3 _ _ _ _ p iN _ _ (hg.end hp (by omega) hi3) ht hi hi3 hp (by omega) _ hR hX
        · refine x_iload d_Mo_isVersion_17 rfl ?_
          refine x_iconst (v := zI 3) d_Mo_isVersion_19 (by decide) ?_
          refine z_icmp_ge (tgt := 197) d_Mo_isVersion_20 (by decide) (by omega) (by omega) (fun hc20 => ?_) (fun hc20 => ?_)
          · first | (exfalso; omega) | exact l3 3 _ _ _ _ p iN _ _ (hg.end hp (by omega) hi3) ht hi hi3 hp (by omega) _ hR hX
          · refine x_iload d_Mo_isVersion_23 rfl ?_
            refine z_if_eq (tgt := 34) d_Mo_isVersion_25 (by decide) (by omega) (fun hc25 => ?_) (fun hc25 => ?_)
            · refine x_iload d_Mo_isVersion_34 rfl ?_
              refine z_if_eq (tgt := 51) d_Mo_isVersion_36 (by decide) (by omega) (fun hc36 => ?_) (fun hc36 => ?_)
              · refine x_iconst (v := zI 1) d_Mo_isVersion_51 (by decide) ?_
                refine x_goto (tgt := 56) d_Mo_isVersion_52 (by decide) ?_
                refine x_istore_n (L' := [_, _, _, _, _, _, _, _]) d_Mo_isVersion_56 rfl rfl ?_
                refine x_iload d_Mo_isVersion_57 rfl ?_
                refine x_iload d_Mo_isVersion_59 rfl ?_
                refine z_if_ne (tgt := 68) d_Mo_isVersion_61 (by decide) (by omega) (fun hc61 => ?_) (fun hc61 => ?_)
                · refine x_iconst (v := zI 1) d_Mo_isVersion_68 (by decide) ?_
                  refine z_iadd d_Mo_isVersion_69 ?_
                  refine x_istore (L' := [_, _, _, _, _, _, _, _]) d_Mo_isVersion_70 rfl rfl ?_
                  refine x_iload d_Mo_isVersion_72 rfl ?_
                  refine x_istore (L' := [_, _, _, _, _, _, _, _]) d_Mo_isVersion_74 rfl rfl ?_
                  refine x_iconst (v := zI 0) d_Mo_isVersion_76 (by decide) ?_
                  refine x_istore (L' := [_, _, _, _, _, _, _, _]) d_Mo_isVersion_77 rfl rfl ?_
                  first | (exfalso; omega) | exact l2 4 _ _ _ _ p p (hg.go0 (by omega) (by omega)) (by omega) (by omega) (by omega) (by omega) (by omega) (by omega) (by omega) _ hR hX | exact l2 4 _ _ _ _ (p + 1) (p + 1) (hg.go1 (by omega) (by omega) (by omega) hpl hatp (by omega)) (by omega) (by omega) (by omega) (by omega) (by omega) (by omega) (by omega) _ hR hX
                · refine x_iconst (v := zI 0) d_Mo_isVersion_64 (by decide) ?_
                  refine x_goto (tgt := 69) d_Mo_isVersion_65 (by decide) ?_
                  refine z_iadd d_Mo_isVersion_69 ?_
                  refine x_istore (L' := [_, _, _, _, _, _, _, _]) d_Mo_isVersion_70 rfl rfl ?_
                  refine x_iload d_Mo_isVersion_72 rfl ?_
                  refine x_istore (L' := [_, _, _, _, _, _, _, _]) d_Mo_isVersion_74 rfl rfl ?_
                  refine x_iconst (v := zI 0) d_Mo_isVersion_76 (by decide) ?_
                  refine x_istore (L' := [_, _, _, _, _, _, _, _]) d_Mo_isVersion_77 rfl rfl ?_
                  first | (exfalso; omega) | exact l2 4 _ _ _ _ p p (hg.go0 (by omega) (by omega)) (by omega) (by omega) (by omega) (by omega) (by omega) (by omega) (by omega) _ hR hX | exact l2 4 _ _ _ _ (p + 1) (p + 1) (hg.go1 (by omega) (by omega) (by omega) hpl hatp (by omega)) (by omega) (by omega) (by omega) (by omega) (by omega) (by omega) (by omega) _ hR hX
              · refine x_aload_n d_Mo_isVersion_39 rfl rfl ?_
                refine x_get xf_Mo_7_Mo (Or.inl hR.1) (v := .ref (rf 1)) rfl d_Mo_isVersion_40 ?_
                refine x_iload d_Mo_isVersion_43 rfl ?_
                refine r_iald (i := 1) (us := (S.2.1 1)) rfl (by decide) hR rfl (by omega) (by show t < 160; omega) d_Mo_isVersion_45 (fun hr45 => ?_)
                refine x_bipush (v := zI 46) d_Mo_isVersion_46 (by decide) ?_
                refine z_icmp_ne (tgt := 55) d_Mo_isVersion_48 (by decide) (by omega) (by omega) (fun hc48 => ?_) (fun hc48 => ?_)
                · refine x_iconst (v := zI 0) d_Mo_isVersion_55 (by decide) ?_
                  refine x_istore_n (L' := [_, _, _, _, _, _, _, _]) d_Mo_isVersion_56 rfl rfl ?_
                  refine x_iload d_Mo_isVersion_57 rfl ?_
                  refine x_iload d_Mo_isVersion_59 rfl ?_
                  refine z_if_ne (tgt := 68) d_Mo_isVersion_61 (by decide) (by omega) (fun hc61 => ?_) (fun hc61 => ?_)
                  · refine x_iconst (v := zI 1) d_Mo_isVersion_68 (by decide) ?_
                    refine z_iadd d_Mo_isVersion_69 ?_
                    refine x_istore (L' := [_, _, _, _, _, _, _, _]) d_Mo_isVersion_70 rfl rfl ?_
                    refine x_iload d_Mo_isVersion_72 rfl ?_
                    refine x_istore (L' := [_, _, _, _, _, _, _, _]) d_Mo_isVersion_74 rfl rfl ?_
                    refine x_iconst (v := zI 0) d_Mo_isVersion_76 (by decide) ?_
                    refine x_istore (L' := [_, _, _, _, _, _, _, _]) d_Mo_isVersion_77 rfl rfl ?_
                    first | (exfalso; omega) | exact l2 4 _ _ _ _ p p (hg.go0 (by omega) (by omega)) (by omega) (by omega) (by omega) (by omega) (by omega) (by omega) (by omega) _ hR hX | exact l2 4 _ _ _ _ (p + 1) (p + 1) (hg.go1 (by omega) (by omega) (by omega) hpl hatp (by omega)) (by omega) (by omega) (by omega) (by omega) (by omega) (by omega) (by omega) _ hR hX
                  · refine x_iconst (v := zI 0) d_Mo_isVersion_64 (by decide) ?_
                    refine x_goto (tgt := 69) d_Mo_isVersion_65 (by decide) ?_
                    refine z_iadd d_Mo_isVersion_69 ?_
                    refine x_istore (L' := [_, _, _, _, _, _, _, _]) d_Mo_isVersion_70 rfl rfl ?_
                    refine x_iload d_Mo_isVersion_72 rfl ?_
                    refine x_istore (L' := [_, _, _, _, _, _, _, _]) d_Mo_isVersion_74 rfl rfl ?_
                    refine x_iconst (v := zI 0) d_Mo_isVersion_76 (by decide) ?_
                    refine x_istore (L' := [_, _, _, _, _, _, _, _]) d_Mo_isVersion_77 rfl rfl ?_
                    first | (exfalso; omega) | exact l2 4 _ _ _ _ p p (hg.go0 (by omega) (by omega)) (by omega) (by omega) (by omega) (by omega) (by omega) (by omega) (by omega) _ hR hX | exact l2 4 _ _ _ _ (p + 1) (p + 1) (hg.go1 (by omega) (by omega) (by omega) hpl hatp (by omega)) (by omega) (by omega) (by omega) (by omega) (by omega) (by omega) (by omega) _ hR hX
                · refine x_iconst (v := zI 1) d_Mo_isVersion_51 (by decide) ?_
                  refine x_goto (tgt := 56) d_Mo_isVersion_52 (by decide) ?_
                  refine x_istore_n (L' := [_, _, _, _, _, _, _, _]) d_Mo_isVersion_56 rfl rfl ?_
                  refine x_iload d_Mo_isVersion_57 rfl ?_
                  refine x_iload d_Mo_isVersion_59 rfl ?_
                  refine z_if_ne (tgt := 68) d_Mo_isVersion_61 (by decide) (by omega) (fun hc61 => ?_) (fun hc61 => ?_)
                  · refine x_iconst (v := zI 1) d_Mo_isVersion_68 (by decide) ?_
                    refine z_iadd d_Mo_isVersion_69 ?_
                    refine x_istore (L' := [_, _, _, _, _, _, _, _]) d_Mo_isVersion_70 rfl rfl ?_
                    refine x_iload d_Mo_isVersion_72 rfl ?_
                    refine x_istore (L' := [_, _, _, _, _, _, _, _]) d_Mo_isVersion_74 rfl rfl ?_
                    refine x_iconst (v := zI 0) d_Mo_isVersion_76 (by decide) ?_
                    refine x_istore (L' := [_, _, _, _, _, _, _, _]) d_Mo_isVersion_77 rfl rfl ?_
                    first | (exfalso; omega) | exact l2 4 _ _ _ _ p p (hg.go0 (by omega) (by omega)) (by omega) (by omega) (by omega) (by omega) (by omega) (by omega) (by omega) _ hR hX | exact l2 4 _ _ _ _ (p + 1) (p + 1) (hg.go1 (by omega) (by omega) (by omega) hpl hatp (by omega)) (by omega) (by omega) (by omega) (by omega) (by omega) (by omega) (by omega) _ hR hX
                  · refine x_iconst (v := zI 0) d_Mo_isVersion_64 (by decide) ?_
                    refine x_goto (tgt := 69) d_Mo_isVersion_65 (by decide) ?_
                    refine z_iadd d_Mo_isVersion_69 ?_
                    refine x_istore (L' := [_, _, _, _, _, _, _, _]) d_Mo_isVersion_70 rfl rfl ?_
                    refine x_iload d_Mo_isVersion_72 rfl ?_
                    refine x_istore (L' := [_, _, _, _, _, _, _, _]) d_Mo_isVersion_74 rfl rfl ?_
                    refine x_iconst (v := zI 0) d_Mo_isVersion_76 (by decide) ?_
                    refine x_istore (L' := [_, _, _, _, _, _, _, _]) d_Mo_isVersion_77 rfl rfl ?_
                    first | (exfalso; omega) | exact l2 4 _ _ _ _ p p (hg.go0 (by omega) (by omega)) (by omega) (by omega) (by omega) (by omega) (by omega) (by omega) (by omega) _ hR hX | exact l2 4 _ _ _ _ (p + 1) (p + 1) (hg.go1 (by omega) (by omega) (by omega) hpl hatp (by omega)) (by omega) (by omega) (by omega) (by omega) (by omega) (by omega) (by omega) _ hR hX
            · refine x_iload d_Mo_isVersion_28 rfl ?_
              refine x_iload_n d_Mo_isVersion_30 rfl ?_
              refine z_icmp_ge (tgt := 197) d_Mo_isVersion_31 (by decide) (by omega) (by omega) (fun hc31 => ?_) (fun hc31 => ?_)
              · first | (exfalso; omega) | exact l3 3 _ _ _ _ p iN _ _ (hg.end hp (by omega) hi3) ht hi hi3 hp (by omega) _ hR hX
              · refine x_iload d_Mo_isVersion_34 rfl ?_
                refine z_if_eq (tgt := 51) d_Mo_isVersion_36 (by decide) (by omega) (fun hc36 => ?_) (fun hc36 => ?_)
                · refine x_iconst (v := zI 1) d_Mo_isVersion_51 (by decide) ?_
                  refine x_goto (tgt := 56) d_Mo_isVersion_52 (by decide) ?_
                  refine x_istore_n (L' := [_, _, _, _, _, _, _, _]) d_Mo_isVersion_56 rfl rfl ?_
                  refine x_iload d_Mo_isVersion_57 rfl ?_
                  refine x_iload d_Mo_isVersion_59 rfl ?_
                  refine z_if_ne (tgt := 68) d_Mo_isVersion_61 (by decide) (by omega) (fun hc61 => ?_) (fun hc61 => ?_)
                  · refine x_iconst (v := zI 1) d_Mo_isVersion_68 (by decide) ?_
                    refine z_iadd d_Mo_isVersion_69 ?_
                    refine x_istore (L' := [_, _, _, _, _, _, _, _]) d_Mo_isVersion_70 rfl rfl ?_
                    refine x_iload d_Mo_isVersion_72 rfl ?_
                    refine x_istore (L' := [_, _, _, _, _, _, _, _]) d_Mo_isVersion_74 rfl rfl ?_
                    refine x_iconst (v := zI 0) d_Mo_isVersion_76 (by decide) ?_
                    refine x_istore (L' := [_, _, _, _, _, _, _, _]) d_Mo_isVersion_77 rfl rfl ?_
                    first | (exfalso; omega) | exact l2 4 _ _ _ _ p p (hg.go0 (by omega) (by omega)) (by omega) (by omega) (by omega) (by omega) (by omega) (by omega) (by omega) _ hR hX | exact l2 4 _ _ _ _ (p + 1) (p + 1) (hg.go1 (by omega) (by omega) (by omega) hpl hatp (by omega)) (by omega) (by omega) (by omega) (by omega) (by omega) (by omega) (by omega) _ hR hX
                  · refine x_iconst (v := zI 0) d_Mo_isVersion_64 (by decide) ?_
                    refine x_goto (tgt := 69) d_Mo_isVersion_65 (by decide) ?_
                    refine z_iadd d_Mo_isVersion_69 ?_
                    refine x_istore (L' := [_, _, _, _, _, _, _, _]) d_Mo_isVersion_70 rfl rfl ?_
                    refine x_iload d_Mo_isVersion_72 rfl ?_
                    refine x_istore (L' := [_, _, _, _, _, _, _, _]) d_Mo_isVersion_74 rfl rfl ?_
                    refine x_iconst (v := zI 0) d_Mo_isVersion_76 (by decide) ?_
                    refine x_istore (L' := [_, _, _, _, _, _, _, _]) d_Mo_isVersion_77 rfl rfl ?_
                    first | (exfalso; omega) | exact l2 4 _ _ _ _ p p (hg.go0 (by omega) (by omega)) (by omega) (by omega) (by omega) (by omega) (by omega) (by omega) (by omega) _ hR hX | exact l2 4 _ _ _ _ (p + 1) (p + 1) (hg.go1 (by omega) (by omega) (by omega) hpl hatp (by omega)) (by omega) (by omega) (by omega) (by omega) (by omega) (by omega) (by omega) _ hR hX
                · refine x_aload_n d_Mo_isVersion_39 rfl rfl ?_
                  refine x_get xf_Mo_7_Mo (Or.inl hR.1) (v := .ref (rf 1)) rfl d_Mo_isVersion_40 ?_
                  refine x_iload d_Mo_isVersion_43 rfl ?_
                  refine r_iald (i := 1) (us := (S.2.1 1)) rfl (by decide) hR rfl (by omega) (by show t < 160; omega) d_Mo_isVersion_45 (fun hr45 => ?_)
                  refine x_bipush (v := zI 46) d_Mo_isVersion_46 (by decide) ?_
                  refine z_icmp_ne (tgt := 55) d_Mo_isVersion_48 (by decide) (by omega) (by omega) (fun hc48 => ?_) (fun hc48 => ?_)
                  · refine x_iconst (v := zI 0) d_Mo_isVersion_55 (by decide) ?_
                    refine x_istore_n (L' := [_, _, _, _, _, _, _, _]) d_Mo_isVersion_56 rfl rfl ?_
                    refine x_iload d_Mo_isVersion_57 rfl ?_
                    refine x_iload d_Mo_isVersion_59 rfl ?_
                    refine z_if_ne (tgt := 68) d_Mo_isVersion_61 (by decide) (by omega) (fun hc61 => ?_) (fun hc61 => ?_)
                    · refine x_iconst (v := zI 1) d_Mo_isVersion_68 (by decide) ?_
                      refine z_iadd d_Mo_isVersion_69 ?_
                      refine x_istore (L' := [_, _, _, _, _, _, _, _]) d_Mo_isVersion_70 rfl rfl ?_
                      refine x_iload d_Mo_isVersion_72 rfl ?_
                      refine x_istore (L' := [_, _, _, _, _, _, _, _]) d_Mo_isVersion_74 rfl rfl ?_
                      refine x_iconst (v := zI 0) d_Mo_isVersion_76 (by decide) ?_
                      refine x_istore (L' := [_, _, _, _, _, _, _, _]) d_Mo_isVersion_77 rfl rfl ?_
                      first | (exfalso; omega) | exact l2 4 _ _ _ _ p p (hg.go0 (by omega) (by omega)) (by omega) (by omega) (by omega) (by omega) (by omega) (by omega) (by omega) _ hR hX | exact l2 4 _ _ _ _ (p + 1) (p + 1) (hg.go1 (by omega) (by omega) (by omega) hpl hatp (by omega)) (by omega) (by omega) (by omega) (by omega) (by omega) (by omega) (by omega) _ hR hX
                    · refine x_iconst (v := zI 0) d_Mo_isVersion_64 (by decide) ?_
                      refine x_goto (tgt := 69) d_Mo_isVersion_65 (by decide) ?_
                      refine z_iadd d_Mo_isVersion_69 ?_
                      refine x_istore (L' := [_, _, _, _, _, _, _, _]) d_Mo_isVersion_70 rfl rfl ?_
                      refine x_iload d_Mo_isVersion_72 rfl ?_
                      refine x_istore (L' := [_, _, _, _, _, _, _, _]) d_Mo_isVersion_74 rfl rfl ?_
                      refine x_iconst (v := zI 0) d_Mo_isVersion_76 (by decide) ?_
                      refine x_istore (L' := [_, _, _, _, _, _, _, _]) d_Mo_isVersion_77 rfl rfl ?_
                      first | (exfalso; omega) | exact l2 4 _ _ _ _ p p (hg.go0 (by omega) (by omega)) (by omega) (by omega) (by omega) (by omega) (by omega) (by omega) (by omega) _ hR hX | exact l2 4 _ _ _ _ (p + 1) (p + 1) (hg.go1 (by omega) (by omega) (by omega) hpl hatp (by omega)) (by omega) (by omega) (by omega) (by omega) (by omega) (by omega) (by omega) _ hR hX
                  · refine x_iconst (v := zI 1) d_Mo_isVersion_51 (by decide) ?_
                    refine x_goto (tgt := 56) d_Mo_isVersion_52 (by decide) ?_
                    refine x_istore_n (L' := [_, _, _, _, _, _, _, _]) d_Mo_isVersion_56 rfl rfl ?_
                    refine x_iload d_Mo_isVersion_57 rfl ?_
                    refine x_iload d_Mo_isVersion_59 rfl ?_
                    refine z_if_ne (tgt := 68) d_Mo_isVersion_61 (by decide) (by omega) (fun hc61 => ?_) (fun hc61 => ?_)
                    · refine x_iconst (v := zI 1) d_Mo_isVersion_68 (by decide) ?_
                      refine z_iadd d_Mo_isVersion_69 ?_
                      refine x_istore (L' := [_, _, _, _, _, _, _, _]) d_Mo_isVersion_70 rfl rfl ?_
                      refine x_iload d_Mo_isVersion_72 rfl ?_
                      refine x_istore (L' := [_, _, _, _, _, _, _, _]) d_Mo_isVersion_74 rfl rfl ?_
                      refine x_iconst (v := zI 0) d_Mo_isVersion_76 (by decide) ?_
                      refine x_istore (L' := [_, _, _, _, _, _, _, _]) d_Mo_isVersion_77 rfl rfl ?_
                      first | (exfalso; omega) | exact l2 4 _ _ _ _ p p (hg.go0 (by omega) (by omega)) (by omega) (by omega) (by omega) (by omega) (by omega) (by omega) (by omega) _ hR hX | exact l2 4 _ _ _ _ (p + 1) (p + 1) (hg.go1 (by omega) (by omega) (by omega) hpl hatp (by omega)) (by omega) (by omega) (by omega) (by omega) (by omega) (by omega) (by omega) _ hR hX
                    · refine x_iconst (v := zI 0) d_Mo_isVersion_64 (by decide) ?_
                      refine x_goto (tgt := 69) d_Mo_isVersion_65 (by decide) ?_
                      refine z_iadd d_Mo_isVersion_69 ?_
                      refine x_istore (L' := [_, _, _, _, _, _, _, _]) d_Mo_isVersion_70 rfl rfl ?_
                      refine x_iload d_Mo_isVersion_72 rfl ?_
                      refine x_istore (L' := [_, _, _, _, _, _, _, _]) d_Mo_isVersion_74 rfl rfl ?_
                      refine x_iconst (v := zI 0) d_Mo_isVersion_76 (by decide) ?_
                      refine x_istore (L' := [_, _, _, _, _, _, _, _]) d_Mo_isVersion_77 rfl rfl ?_
                      first | (exfalso; omega) | exact l2 4 _ _ _ _ p p (hg.go0 (by omega) (by omega)) (by omega) (by omega) (by omega) (by omega) (by omega) (by omega) (by omega) _ hR hX | exact l2 4 _ _ _ _ (p + 1) (p + 1) (hg.go1 (by omega) (by omega) (by omega) hpl hatp (by omega)) (by omega) (by omega) (by omega) (by omega) (by omega) (by omega) (by omega) _ hR hX
      · refine x_iload_n d_Mo_isVersion_13 rfl ?_
        refine z_if_eq (tgt := 197) d_Mo_isVersion_14 (by decide) (by omega) (fun hc14 => ?_) (fun hc14 => ?_)
        · first | (exfalso; omega) | exact l3 3 _ _ _ _ p iN _ _ (hg.end hp (by omega) hi3) ht hi hi3 hp (by omega) _ hR hX
        · refine x_iload d_Mo_isVersion_17 rfl ?_
          refine x_iconst (v := zI 3) d_Mo_isVersion_19 (by decide) ?_
          refine z_icmp_ge (tgt := 197) d_Mo_isVersion_20 (by decide) (by omega) (by omega) (fun hc20 => ?_) (fun hc20 => ?_)
          · first | (exfalso; omega) | exact l3 3 _ _ _ _ p iN _ _ (hg.end hp (by omega) hi3) ht hi hi3 hp (by omega) _ hR hX
          · refine x_iload d_Mo_isVersion_23 rfl ?_
            refine z_if_eq (tgt := 34) d_Mo_isVersion_25 (by decide) (by omega) (fun hc25 => ?_) (fun hc25 => ?_)
            · refine x_iload d_Mo_isVersion_34 rfl ?_
              refine z_if_eq (tgt := 51) d_Mo_isVersion_36 (by decide) (by omega) (fun hc36 => ?_) (fun hc36 => ?_)
              · refine x_iconst (v := zI 1) d_Mo_isVersion_51 (by decide) ?_
                refine x_goto (tgt := 56) d_Mo_isVersion_52 (by decide) ?_
                refine x_istore_n (L' := [_, _, _, _, _, _, _, _]) d_Mo_isVersion_56 rfl rfl ?_
                refine x_iload d_Mo_isVersion_57 rfl ?_
                refine x_iload d_Mo_isVersion_59 rfl ?_
                refine z_if_ne (tgt := 68) d_Mo_isVersion_61 (by decide) (by omega) (fun hc61 => ?_) (fun hc61 => ?_)
                · refine x_iconst (v := zI 1) d_Mo_isVersion_68 (by decide) ?_
                  refine z_iadd d_Mo_isVersion_69 ?_
                  refine x_istore (L' := [_, _, _, _, _, _, _, _]) d_Mo_isVersion_70 rfl rfl ?_
                  refine x_iload d_Mo_isVersion_72 rfl ?_
                  refine x_istore (L' := [_, _, _, _, _, _, _, _]) d_Mo_isVersion_74 rfl rfl ?_
                  refine x_iconst (v := zI 0) d_Mo_isVersion_76 (by decide) ?_
                  refine x_istore (L' := [_, _, _, _, _, _, _, _]) d_Mo_isVersion_77 rfl rfl ?_
                  first | (exfalso; omega) | exact l2 4 _ _ _ _ p p (hg.go0 (by omega) (by omega)) (by omega) (by omega) (by omega) (by omega) (by omega) (by omega) (by omega) _ hR hX
                · refine x_iconst (v := zI 0) d_Mo_isVersion_64 (by decide) ?_
                  refine x_goto (tgt := 69) d_Mo_isVersion_65 (by decide) ?_
                  refine z_iadd d_Mo_isVersion_69 ?_
                  refine x_istore (L' := [_, _, _, _, _, _, _, _]) d_Mo_isVersion_70 rfl rfl ?_
                  refine x_iload d_Mo_isVersion_72 rfl ?_
                  refine x_istore (L' := [_, _, _, _, _, _, _, _]) d_Mo_isVersion_74 rfl rfl ?_
                  refine x_iconst (v := zI 0) d_Mo_isVersion_76 (by decide) ?_
                  refine x_istore (L' := [_, _, _, _, _, _, _, _]) d_Mo_isVersion_77 rfl rfl ?_
                  first | (exfalso; omega) | exact l2 4 _ _ _ _ p p (hg.go0 (by omega) (by omega)) (by omega) (by omega) (by omega) (by omega) (by omega) (by omega) (by omega) _ hR hX
              · refine x_aload_n d_Mo_isVersion_39 rfl rfl ?_
                refine x_get xf_Mo_7_Mo (Or.inl hR.1) (v := .ref (rf 1)) rfl d_Mo_isVersion_40 ?_
                refine x_iload d_Mo_isVersion_43 rfl ?_
                refine r_iald (i := 1) (us := (S.2.1 1)) rfl (by decide) hR rfl (by omega) (by show t < 160; omega) d_Mo_isVersion_45 (fun hr45 => ?_)
                refine x_bipush (v := zI 46) d_Mo_isVersion_46 (by decide) ?_
                refine z_icmp_ne (tgt := 55) d_Mo_isVersion_48 (by decide) (by omega) (by omega) (fun hc48 => ?_) (fun hc48 => ?_)
                · refine x_iconst (v := zI 0) d_Mo_isVersion_55 (by decide) ?_
                  refine x_istore_n (L' := [_, _, _, _, _, _, _, _]) d_Mo_isVersion_56 rfl rfl ?_
                  refine x_iload d_Mo_isVersion_57 rfl ?_
                  refine x_iload d_Mo_isVersion_59 rfl ?_
                  refine z_if_ne (tgt := 68) d_Mo_isVersion_61 (by decide) (by omega) (fun hc61 => ?_) (fun hc61 => ?_)
                  · refine x_iconst (v := zI 1) d_Mo_isVersion_68 (by decide) ?_
                    refine z_iadd d_Mo_isVersion_69 ?_
                    refine x_istore (L' := [_, _, _, _, _, _, _, _]) d_Mo_isVersion_70 rfl rfl ?_
                    refine x_iload d_Mo_isVersion_72 rfl ?_
                    refine x_istore (L' := [_, _, _, _, _, _, _, _]) d_Mo_isVersion_74 rfl rfl ?_
                    refine x_iconst (v := zI 0) d_Mo_isVersion_76 (by decide) ?_
                    refine x_istore (L' := [_, _, _, _, _, _, _, _]) d_Mo_isVersion_77 rfl rfl ?_
                    first | (exfalso; omega) | exact l2 4 _ _ _ _ p p (hg.go0 (by omega) (by omega)) (by omega) (by omega) (by omega) (by omega) (by omega) (by omega) (by omega) _ hR hX
                  · refine x_iconst (v := zI 0) d_Mo_isVersion_64 (by decide) ?_
                    refine x_goto (tgt := 69) d_Mo_isVersion_65 (by decide) ?_
                    refine z_iadd d_Mo_isVersion_69 ?_
                    refine x_istore (L' := [_, _, _, _, _, _, _, _]) d_Mo_isVersion_70 rfl rfl ?_
                    refine x_iload d_Mo_isVersion_72 rfl ?_
                    refine x_istore (L' := [_, _, _, _, _, _, _, _]) d_Mo_isVersion_74 rfl rfl ?_
                    refine x_iconst (v := zI 0) d_Mo_isVersion_76 (by decide) ?_
                    refine x_istore (L' := [_, _, _, _, _, _, _, _]) d_Mo_isVersion_77 rfl rfl ?_
                    first | (exfalso; omega) | exact l2 4 _ _ _ _ p p (hg.go0 (by omega) (by omega)) (by omega) (by omega) (by omega) (by omega) (by omega) (by omega) (by omega) _ hR hX
                · refine x_iconst (v := zI 1) d_Mo_isVersion_51 (by decide) ?_
                  refine x_goto (tgt := 56) d_Mo_isVersion_52 (by decide) ?_
                  refine x_istore_n (L' := [_, _, _, _, _, _, _, _]) d_Mo_isVersion_56 rfl rfl ?_
                  refine x_iload d_Mo_isVersion_57 rfl ?_
                  refine x_iload d_Mo_isVersion_59 rfl ?_
                  refine z_if_ne (tgt := 68) d_Mo_isVersion_61 (by decide) (by omega) (fun hc61 => ?_) (fun hc61 => ?_)
                  · refine x_iconst (v := zI 1) d_Mo_isVersion_68 (by decide) ?_
                    refine z_iadd d_Mo_isVersion_69 ?_
                    refine x_istore (L' := [_, _, _, _, _, _, _, _]) d_Mo_isVersion_70 rfl rfl ?_
                    refine x_iload d_Mo_isVersion_72 rfl ?_
                    refine x_istore (L' := [_, _, _, _, _, _, _, _]) d_Mo_isVersion_74 rfl rfl ?_
                    refine x_iconst (v := zI 0) d_Mo_isVersion_76 (by decide) ?_
                    refine x_istore (L' := [_, _, _, _, _, _, _, _]) d_Mo_isVersion_77 rfl rfl ?_
                    first | (exfalso; omega) | exact l2 4 _ _ _ _ p p (hg.go0 (by omega) (by omega)) (by omega) (by omega) (by omega) (by omega) (by omega) (by omega) (by omega) _ hR hX
                  · refine x_iconst (v := zI 0) d_Mo_isVersion_64 (by decide) ?_
                    refine x_goto (tgt := 69) d_Mo_isVersion_65 (by decide) ?_
                    refine z_iadd d_Mo_isVersion_69 ?_
                    refine x_istore (L' := [_, _, _, _, _, _, _, _]) d_Mo_isVersion_70 rfl rfl ?_
                    refine x_iload d_Mo_isVersion_72 rfl ?_
                    refine x_istore (L' := [_, _, _, _, _, _, _, _]) d_Mo_isVersion_74 rfl rfl ?_
                    refine x_iconst (v := zI 0) d_Mo_isVersion_76 (by decide) ?_
                    refine x_istore (L' := [_, _, _, _, _, _, _, _]) d_Mo_isVersion_77 rfl rfl ?_
                    first | (exfalso; omega) | exact l2 4 _ _ _ _ p p (hg.go0 (by omega) (by omega)) (by omega) (by omega) (by omega) (by omega) (by omega) (by omega) (by omega) _ hR hX
            · refine x_iload d_Mo_isVersion_28 rfl ?_
              refine x_iload_n d_Mo_isVersion_30 rfl ?_
              refine z_icmp_ge (tgt := 197) d_Mo_isVersion_31 (by decide) (by omega) (by omega) (fun hc31 => ?_) (fun hc31 => ?_)
              · first | (exfalso; omega) | exact l3 3 _ _ _ _ p iN _ _ (hg.end hp (by omega) hi3) ht hi hi3 hp (by omega) _ hR hX
              · refine x_iload d_Mo_isVersion_34 rfl ?_
                refine z_if_eq (tgt := 51) d_Mo_isVersion_36 (by decide) (by omega) (fun hc36 => ?_) (fun hc36 => ?_)
                · refine x_iconst (v := zI 1) d_Mo_isVersion_51 (by decide) ?_
                  refine x_goto (tgt := 56) d_Mo_isVersion_52 (by decide) ?_
                  refine x_istore_n (L' := [_, _, _, _, _, _, _, _]) d_Mo_isVersion_56 rfl rfl ?_
                  refine x_iload d_Mo_isVersion_57 rfl ?_
                  refine x_iload d_Mo_isVersion_59 rfl ?_
                  refine z_if_ne (tgt := 68) d_Mo_isVersion_61 (by decide) (by omega) (fun hc61 => ?_) (fun hc61 => ?_)
                  · refine x_iconst (v := zI 1) d_Mo_isVersion_68 (by decide) ?_
                    refine z_iadd d_Mo_isVersion_69 ?_
                    refine x_istore (L' := [_, _, _, _, _, _, _, _]) d_Mo_isVersion_70 rfl rfl ?_
                    refine x_iload d_Mo_isVersion_72 rfl ?_
                    refine x_istore (L' := [_, _, _, _, _, _, _, _]) d_Mo_isVersion_74 rfl rfl ?_
                    refine x_iconst (v := zI 0) d_Mo_isVersion_76 (by decide) ?_
                    refine x_istore (L' := [_, _, _, _, _, _, _, _]) d_Mo_isVersion_77 rfl rfl ?_
                    first | (exfalso; omega) | exact l2 4 _ _ _ _ p p (hg.go0 (by omega) (by omega)) (by omega) (by omega) (by omega) (by omega) (by omega) (by omega) (by omega) _ hR hX
                  · refine x_iconst (v := zI 0) d_Mo_isVersion_64 (by decide) ?_
                    refine x_goto (tgt := 69) d_Mo_isVersion_65 (by decide) ?_
                    refine z_iadd d_Mo_isVersion_69 ?_
                    refine x_istore (L' := [_, _, _, _, _, _, _, _]) d_Mo_isVersion_70 rfl rfl ?_
                    refine x_iload d_Mo_isVersion_72 rfl ?_
                    refine x_istore (L' := [_, _, _, _, _, _, _, _]) d_Mo_isVersion_74 rfl rfl ?_
                    refine x_iconst (v := zI 0) d_Mo_isVersion_76 (by decide) ?_
                    refine x_istore (L' := [_, _, _, _, _, _, _, _]) d_Mo_isVersion_77 rfl rfl ?_
                    first | (exfalso; omega) | exact l2 4 _ _ _ _ p p (hg.go0 (by omega) (by omega)) (by omega) (by omega) (by omega) (by omega) (by omega) (by omega) (by omega) _ hR hX
                · refine x_aload_n d_Mo_isVersion_39 rfl rfl ?_
                  refine x_get xf_Mo_7_Mo (Or.inl hR.1) (v := .ref (rf 1)) rfl d_Mo_isVersion_40 ?_
                  refine x_iload d_Mo_isVersion_43 rfl ?_
                  refine r_iald (i := 1) (us := (S.2.1 1)) rfl (by decide) hR rfl (by omega) (by show t < 160; omega) d_Mo_isVersion_45 (fun hr45 => ?_)
                  refine x_bipush (v := zI 46) d_Mo_isVersion_46 (by decide) ?_
                  refine z_icmp_ne (tgt := 55) d_Mo_isVersion_48 (by decide) (by omega) (by omega) (fun hc48 => ?_) (fun hc48 => ?_)
                  · refine x_iconst (v := zI 0) d_Mo_isVersion_55 (by decide) ?_
                    refine x_istore_n (L' := [_, _, _, _, _, _, _, _]) d_Mo_isVersion_56 rfl rfl ?_
                    refine x_iload d_Mo_isVersion_57 rfl ?_
                    refine x_iload d_Mo_isVersion_59 rfl ?_
                    refine z_if_ne (tgt := 68) d_Mo_isVersion_61 (by decide) (by omega) (fun hc61 => ?_) (fun hc61 => ?_)
                    · refine x_iconst (v := zI 1) d_Mo_isVersion_68 (by decide) ?_
                      refine z_iadd d_Mo_isVersion_69 ?_
                      refine x_istore (L' := [_, _, _, _, _, _, _, _]) d_Mo_isVersion_70 rfl rfl ?_
                      refine x_iload d_Mo_isVersion_72 rfl ?_
                      refine x_istore (L' := [_, _, _, _, _, _, _, _]) d_Mo_isVersion_74 rfl rfl ?_
                      refine x_iconst (v := zI 0) d_Mo_isVersion_76 (by decide) ?_
                      refine x_istore (L' := [_, _, _, _, _, _, _, _]) d_Mo_isVersion_77 rfl rfl ?_
                      first | (exfalso; omega) | exact l2 4 _ _ _ _ p p (hg.go0 (by omega) (by omega)) (by omega) (by omega) (by omega) (by omega) (by omega) (by omega) (by omega) _ hR hX
                    · refine x_iconst (v := zI 0) d_Mo_isVersion_64 (by decide) ?_
                      refine x_goto (tgt := 69) d_Mo_isVersion_65 (by decide) ?_
                      refine z_iadd d_Mo_isVersion_69 ?_
                      refine x_istore (L' := [_, _, _, _, _, _, _, _]) d_Mo_isVersion_70 rfl rfl ?_
                      refine x_iload d_Mo_isVersion_72 rfl ?_
                      refine x_istore (L' := [_, _, _, _, _, _, _, _]) d_Mo_isVersion_74 rfl rfl ?_
                      refine x_iconst (v := zI 0) d_Mo_isVersion_76 (by decide) ?_
                      refine x_istore (L' := [_, _, _, _, _, _, _, _]) d_Mo_isVersion_77 rfl rfl ?_
                      first | (exfalso; omega) | exact l2 4 _ _ _ _ p p (hg.go0 (by omega) (by omega)) (by omega) (by omega) (by omega) (by omega) (by omega) (by omega) (by omega) _ hR hX
                  · refine x_iconst (v := zI 1) d_Mo_isVersion_51 (by decide) ?_
                    refine x_goto (tgt := 56) d_Mo_isVersion_52 (by decide) ?_
                    refine x_istore_n (L' := [_, _, _, _, _, _, _, _]) d_Mo_isVersion_56 rfl rfl ?_
                    refine x_iload d_Mo_isVersion_57 rfl ?_
                    refine x_iload d_Mo_isVersion_59 rfl ?_
                    refine z_if_ne (tgt := 68) d_Mo_isVersion_61 (by decide) (by omega) (fun hc61 => ?_) (fun hc61 => ?_)
                    · refine x_iconst (v := zI 1) d_Mo_isVersion_68 (by decide) ?_
                      refine z_iadd d_Mo_isVersion_69 ?_
                      refine x_istore (L' := [_, _, _, _, _, _, _, _]) d_Mo_isVersion_70 rfl rfl ?_
                      refine x_iload d_Mo_isVersion_72 rfl ?_
                      refine x_istore (L' := [_, _, _, _, _, _, _, _]) d_Mo_isVersion_74 rfl rfl ?_
                      refine x_iconst (v := zI 0) d_Mo_isVersion_76 (by decide) ?_
                      refine x_istore (L' := [_, _, _, _, _, _, _, _]) d_Mo_isVersion_77 rfl rfl ?_
                      first | (exfalso; omega) | exact l2 4 _ _ _ _ p p (hg.go0 (by omega) (by omega)) (by omega) (by omega) (by omega) (by omega) (by omega) (by omega) (by omega) _ hR hX
                    · refine x_iconst (v := zI 0) d_Mo_isVersion_64 (by decide) ?_
                      refine x_goto (tgt := 69) d_Mo_isVersion_65 (by decide) ?_
                      refine z_iadd d_Mo_isVersion_69 ?_
                      refine x_istore (L' := [_, _, _, _, _, _, _, _]) d_Mo_isVersion_70 rfl rfl ?_
                      refine x_iload d_Mo_isVersion_72 rfl ?_
                      refine x_istore (L' := [_, _, _, _, _, _, _, _]) d_Mo_isVersion_74 rfl rfl ?_
                      refine x_iconst (v := zI 0) d_Mo_isVersion_76 (by decide) ?_
                      refine x_istore (L' := [_, _, _, _, _, _, _, _]) d_Mo_isVersion_77 rfl rfl ?_
                      first | (exfalso; omega) | exact l2 4 _ _ _ _ p p (hg.go0 (by omega) (by omega)) (by omega) (by omega) (by omega) (by omega) (by omega) (by omega) (by omega) _ hR hX
  have hX : xonly H0 H0 RKs := xonly.rf
  refine x_aload_n d_Mo_isVersion_0 rfl rfl ?_
  refine x_lconst (v := 0) d_Mo_isVersion_1 (by decide) ?_
  refine r_putk xf_Mo_173_Mo xp_Mo_36 hR hX rfl rfl d_Mo_isVersion_2 ?_
  intro h hR hX
  refine x_iconst (v := zI 1) d_Mo_isVersion_5 (by decide) ?_
  refine x_istore_n (L' := [_, _, _, _, _, _, _, _]) d_Mo_isVersion_6 rfl rfl ?_
  refine x_iload_n d_Mo_isVersion_7 rfl ?_
  refine x_istore (L' := [_, _, _, _, _, _, _, _]) d_Mo_isVersion_8 rfl rfl ?_
  refine x_iconst (v := zI 0) d_Mo_isVersion_10 (by decide) ?_
  refine x_istore (L' := [_, _, _, _, _, _, _, _]) d_Mo_isVersion_11 rfl rfl ?_
  exact l1 3 _ _ _ _ 0 0 _ _ (Or.inr (Or.inl ⟨rfl, rfl, rfl, rfl⟩)) (by omega) (by omega) (by omega) (by omega) (by omega) _ hR hX
theorem r_isValueX {t : List Nat} {a b : Int} {kd : Nat} (hd : 2 ≤ d) (hk : kd < 2) (hA : txA t S) (hc : okTx t) (h0 : 0 ≤ a) (h1 : a ≤ b) (h2 : b ≤ t.length) (h3 : t.length ≤ 160) : RM l G d M_Mo_isValue [.ref o, .int (zI a), .int (zI b), .int (zI kd)] o rf S (ivX S kd (cut t a b)) := by
  obtain ⟨d, rfl⟩ : ∃ q, d = q + 1 := ⟨d - 1, by omega⟩
  intro H0 c n hR
  refine XM.of (by decide +kernel) (Nat.le_of_ble_eq_true rfl) ?_
  have hX : xonly H0 H0 RKs := xonly.rf
  obtain rfl | rfl : kd = 0 ∨ kd = 1 := by omega
  · refine x_iload_n d_Mo_isValue_0 rfl ?_
    refine z_if_ne (tgt := 13) d_Mo_isValue_1 (by decide) (by omega) (fun hq => by omega) (fun _ => ?_)
    refine x_aload_n d_Mo_isValue_4 rfl rfl ?_
    refine x_iload_n d_Mo_isValue_5 rfl ?_
    refine x_iload_n d_Mo_isValue_6 rfl ?_
    refine x_callV (As := [_, _]) (k := k_MarkerTextModel) rfl xcv_Mo_166_Mo (Or.inl hR.1) (RM.ap hR (r_isTextX (by omega) hA hc h0 h1 h2 h3)) rfl rfl (Nat.le_of_ble_eq_true rfl) d_Mo_isValue_7 ?_
    rintro v7 h cq nq ⟨S7, hR, hX7, rfl, rfl, x7, r7, rfl, rfl, hr7⟩
    replace hX := hX.tr hX7
    refine x_goto (tgt := 19) d_Mo_isValue_10 (by decide) ?_
    refine x_zret d_Mo_isValue_19 rfl (z_nb (by omega)) ?_
    exact ⟨_, hR, hX, rfl, rfl, _, _, rfl, rfl, hr7⟩
  · refine x_iload_n d_Mo_isValue_0 rfl ?_
    refine z_if_ne (tgt := 13) d_Mo_isValue_1 (by decide) (by omega) (fun _ => ?_) (fun hq => by omega)
    refine x_aload_n d_Mo_isValue_13 rfl rfl ?_
    refine x_iload_n d_Mo_isValue_14 rfl ?_
    refine x_iload_n d_Mo_isValue_15 rfl ?_
    refine x_callV (As := [_, _]) (k := k_MarkerTextModel) rfl xcv_Mo_170_Mo (Or.inl hR.1) (RM.ap hR (r_isVersionX (by omega) hA h0 h1 h2 h3)) rfl rfl (Nat.le_of_ble_eq_true rfl) d_Mo_isValue_16 ?_
    rintro v16 h cq nq ⟨S16, hR, hX16, rfl, rfl, x16, r16, rfl, rfl, hr16⟩
    replace hX := hX.tr hX16
    refine x_zret d_Mo_isValue_19 rfl (z_nb (by omega)) ?_
    exact ⟨_, hR, hX, rfl, rfl, _, _, rfl, rfl, hr16⟩
end RG4
