section

end
section RG5
variable {l : Launch} {G : XG} {h : XH} {c n d : Nat} {o : Nat} {rf : Nat → Nat} {S : MS}
theorem okTx.asc {t : List Nat} (h : okTx t) : xasc t := fun ch hc => by have := (h ch hc).2; omega
theorem rk_mono : ∀ a, a < 128 → ∀ b, b < 128 → (a = 0 ∨ rk a ≠ 0) → (b = 0 ∨ rk b ≠ 0) → ((rk a < rk b ↔ a < b) ∧ (rk a = rk b ↔ a = b)) := by
  intro a _ b _ h1 h2
  unfold rk at *
  repeat' split at h1
  all_goals (repeat' split at h2)
  all_goals (repeat' split)
  all_goals omega
theorem tk_at {w : List Nat} {i : Nat} (hw : okTx w) (h : ∀ ch ∈ w, rk ch ≠ 0) : w.getD i 0 < 128 ∧ (w.getD i 0 = 0 ∨ rk (w.getD i 0) ≠ 0) := by
  by_cases hi : i < w.length
  · have hb := hw.at hi
    have hm : w.getD i 0 ∈ w := by
      rw [List.getD_eq_getElem?_getD, List.getElem?_eq_getElem hi]
      exact List.getElem_mem hi
    exact ⟨by omega, Or.inr (h _ hm)⟩
  · have e0 : w.getD i 0 = 0 := by
      rw [List.getD_eq_getElem?_getD, List.getElem?_eq_none (by omega)]
      rfl
    rw [e0]
    exact ⟨by decide, Or.inl rfl⟩
theorem tk_ord {u v : List Nat} (hu : okTx u) (hv : okTx v) (h1 : ∀ ch ∈ u, rk ch ≠ 0) (h2 : ∀ ch ∈ v, rk ch ≠ 0) : ∀ i, (tkey u i < tkey v i ↔ tkR u i < tkR v i) ∧ (tkey u i = tkey v i ↔ tkR u i = tkR v i) := by
  intro i
  induction i with
  | zero => exact ⟨Iff.rfl, Iff.rfl⟩
  | succ i ih =>
    obtain ⟨a1, a2⟩ := tk_at (i := i) hu h1
    obtain ⟨b1, b2⟩ := tk_at (i := i) hv h2
    have a3 := rk_lt _ a1
    have b3 := rk_lt _ b1
    obtain ⟨m1, m2⟩ := rk_mono _ a1 _ b1 a2 b2
    obtain ⟨i1, i2⟩ := ih
    show (tkey u i * 38 + rk (u.getD i 0) < tkey v i * 38 + rk (v.getD i 0) ↔ tkR u i * 256 + u.getD i 0 < tkR v i * 256 + v.getD i 0) ∧ (tkey u i * 38 + rk (u.getD i 0) = tkey v i * 38 + rk (v.getD i 0) ↔ tkR u i * 256 + u.getD i 0 = tkR v i * 256 + v.getD i 0)
    generalize tkey u i = A at *
    generalize tkey v i = B at *
    generalize tkR u i = A' at *
    generalize tkR v i = B' at *
    generalize rk (u.getD i 0) = ra at *
    generalize rk (v.getD i 0) = rb at *
    generalize u.getD i 0 = ca at *
    generalize v.getD i 0 = cb at *
    constructor <;> constructor <;> intro q <;> omega
theorem tkR_lt {u : List Nat} (hu : okTx u) : ∀ i, tkR u (i + 1) + 1 ≤ 127 * 256 ^ i := by
  intro i
  induction i with
  | zero =>
    show 0 * 256 + u.getD 0 0 + 1 ≤ 127 * 256 ^ 0
    by_cases hi : 0 < u.length
    · have := hu.at hi
      simp only [Nat.pow_zero]
      omega
    · have e0 : u.getD 0 0 = 0 := by
        rw [List.getD_eq_getElem?_getD, List.getElem?_eq_none (by omega)]
        rfl
      rw [e0]
      decide
  | succ i ih =>
    have hb : u.getD (i + 1) 0 ≤ 255 := by
      by_cases hi : i + 1 < u.length
      · have := hu.at hi
        omega
      · have e0 : u.getD (i + 1) 0 = 0 := by
          rw [List.getD_eq_getElem?_getD, List.getElem?_eq_none (by omega)]
          rfl
        rw [e0]
        decide
    show tkR u (i + 1) * 256 + u.getD (i + 1) 0 + 1 ≤ 127 * 256 ^ (i + 1)
    rw [Nat.pow_succ]
    omega
theorem vsl_even (u : List Nat) : vsl u = 0 ∨ vsl u = 2 * vkR u + 2 := by
  unfold vkR vsl
  cases vrun u (0, 0, 0, 1) with
  | none => exact Or.inl rfl
  | some s =>
    show (if s.2.2.1 = 0 then 0 else 2 * ((s.1 * 1000 + s.2.1) * 1000 ^ (3 - s.2.2.2)) + 2) = 0 ∨ (if s.2.2.1 = 0 then 0 else 2 * ((s.1 * 1000 + s.2.1) * 1000 ^ (3 - s.2.2.2)) + 2) = 2 * (((if s.2.2.1 = 0 then 0 else 2 * ((s.1 * 1000 + s.2.1) * 1000 ^ (3 - s.2.2.2)) + 2) - 2) / 2) + 2
    generalize (s.1 * 1000 + s.2.1) * 1000 ^ (3 - s.2.2.2) = y
    split
    · exact Or.inl rfl
    · omega
theorem ky_b {kd : Nat} {u : List Nat} (hu : okTx u) : kyR kd u < 2 ^ 63 := by
  unfold kyR
  split
  · have h1 := klv62 (kd := 1) hu.asc
    have h2 : klv 1 u = vsl u := rfl
    unfold vkR
    omega
  · have := tkR_lt hu 7
    have e : 127 * 256 ^ 7 < 2 ^ 63 := by decide
    show tkR u (7 + 1) < 2 ^ 63
    omega
/-- a level, and the key of the same VALUE -/
def lk (kd v : Nat) (z : Int64) : Prop := ∃ u, okTx u ∧ klv kd u = v ∧ v ≠ 0 ∧ z = zL (kyR kd u)
theorem lk.of {kd : Nat} {u : List Nat} (hu : okTx u) (h : klv kd u ≠ 0) : lk kd (klv kd u) (zL (kyR kd u)) := ⟨u, hu, rfl, h, rfl⟩
theorem lk.ord {kd v v' : Nat} {z z' : Int64} (hk : kd < 2) (h : lk kd v z) (h' : lk kd v' z') : (v < v' ↔ z < z') ∧ (v = v' ↔ z = z') := by
  obtain ⟨u, hu, rfl, hn, rfl⟩ := h
  obtain ⟨w, hw, rfl, hn', rfl⟩ := h'
  have b1 := ky_b (kd := kd) hu
  have b2 := ky_b (kd := kd) hw
  rw [zL_lt (by omega) (by omega), zL_inj (by omega) (by omega)]
  have key : (klv kd u < klv kd w ↔ kyR kd u < kyR kd w) ∧ (klv kd u = klv kd w ↔ kyR kd u = kyR kd w) := by
    obtain rfl | rfl : kd = 0 ∨ kd = 1 := by omega
    · have e1 : ∀ u, klv 0 u = txl u := fun u => rfl
      have e2 : ∀ u, kyR 0 u = tkR u 8 := fun u => rfl
      rw [e1] at hn hn'
      rw [e1, e1, e2, e2]
      unfold txl at hn hn' ⊢
      split at hn
      · rename_i g1
        split at hn'
        · rename_i g2
          rw [if_pos g1, if_pos g2]
          have := tk_ord hu hw g1.2.2 g2.2.2 8
          omega
        · omega
      · omega
    · have e1 : ∀ u, klv 1 u = vsl u := fun u => rfl
      have e2 : ∀ u, kyR 1 u = vkR u := fun u => rfl
      rw [e1] at hn hn'
      rw [e1, e1, e2, e2]
      have h1 := vsl_even u
      have h2 := vsl_even w
      omega
  omega
/-- the KNOWN VALUES, in the reference -/
def knR (Ns : List NmT) (S : MS) : Prop := (∀ (i : Nat) (x : NmT), Ns[i]? = some x → gd (S.2.1 7) i = x.2.2.length ∧ x.2.2.length ≤ 6 ∧ ∀ j : Nat, j < x.2.2.length → lk x.2.1 (x.2.2.getD j 0) (gl (S.2.2.1 8) (6 * i + j))) ∧ ∀ i : Nat, Ns.length ≤ i → i < 6 → gd (S.2.1 7) i = 0
theorem iAt_z {α : Type} {k : Int} {xs : List α} (hk : inR k) : iAt (zI k) xs = if k < 0 then none else xs[k.toNat]? := by
  unfold iAt
  rw [z0]
  by_cases h : k < 0
  · rw [if_pos h, if_pos ((zI_lt hk zR0).mpr h)]
  · rw [if_neg h, if_neg (fun q => h ((zI_lt hk zR0).mp q)), zI_clamp hk]
/-- how value() ends, in full -/
def vlX (Ns : List NmT) (t : List Nat) (k : Int) (S : MS) : Option Value → MS → Prop := fun w S' => S'.1 2 = 0 ∧ match vlu Ns t (zI k) with
  | .inl b => S'.1 0 = (if b then 1 else 2) ∧ (∃ r, w = some (.int r)) ∧ rSm S S' [0, 2] [] []
  | .inr (r, Ns') => S'.1 0 = 0 ∧ w = some (.int (zI r)) ∧ rSm S S' [0, 2] [7] [8] ∧ knR Ns' S'
theorem vlX.no {Ns : List NmT} {t : List Nat} {k : Int} {b : Bool} {w : Option Value} {S' : MS} (e : vlu Ns t (zI k) = .inl b) (h2 : S'.1 2 = 0) (h0 : S'.1 0 = (if b then 1 else 2)) (hw : ∃ r, w = some (.int r)) (hs : rSm S S' [0, 2] [] []) : vlX Ns t k S w S' := by
  unfold vlX
  rw [e]
  exact ⟨h2, h0, hw, hs⟩
/-- while value() compares with the KNOWN ones -/
def vlI (x : NmT) (t : List Nat) (g i : Int) (X : Int64) : Prop := (g = 1 ∧ klv x.2.1 t ≠ 0 ∧ X = zL (kyR x.2.1 t) ∧ ∀ j : Nat, (j : Int) < i → j < x.2.2.length → x.2.2.getD j 0 ≠ klv x.2.1 t) ∨ (g = 0 ∧ (klv x.2.1 t = 0 ∨ klv x.2.1 t ∈ x.2.2))
theorem vlI.b {x : NmT} {t : List Nat} {g i : Int} {X : Int64} (h : vlI x t g i X) : g = 0 ∨ g = 1 := by
  rcases h with ⟨h, -⟩ | ⟨h, -⟩ <;> omega
theorem vlI.step {x : NmT} {t : List Nat} {g g' i : Int} {X A : Int64} (h : vlI x t g i X) (hg : ¬ g = 0) (hi : 0 ≤ i) (hil : i < x.2.2.length) (hlk : lk x.2.1 (x.2.2.getD i.toNat 0) A) (hkd : x.2.1 < 2) (hc : okTx t) (hg' : (g' = 0 ∧ A = X) ∨ (g' = 1 ∧ ¬ A = X)) : vlI x t g' (i + 1) X := by
  rcases h with ⟨-, h1, rfl, h3⟩ | ⟨h, -⟩
  · have ho := (hlk.ord hkd (lk.of hc h1)).2
    rcases hg' with ⟨e, q⟩ | ⟨e, q⟩
    · refine Or.inr ⟨e, Or.inr ?_⟩
      rw [← ho.mpr q, List.getD_eq_getElem?_getD, List.getElem?_eq_getElem (by omega)]
      exact List.getElem_mem _
    · refine Or.inl ⟨e, h1, rfl, fun j hj1 hj2 => ?_⟩
      by_cases hji : j = i.toNat
      · rw [hji]; exact fun z => q (ho.mp z)
      · exact h3 j (by omega) hj2
  · exact absurd h hg
theorem vlI.good {x : NmT} {t : List Nat} {g i : Int} {X : Int64} (h : vlI x t g i X) (hg : ¬ g = 0) (hi : (x.2.2.length : Int) ≤ i) : klv x.2.1 t ≠ 0 ∧ klv x.2.1 t ∉ x.2.2 ∧ X = zL (kyR x.2.1 t) := by
  rcases h with ⟨-, h1, h2, h3⟩ | ⟨h, -⟩
  · refine ⟨h1, fun hm => ?_, h2⟩
    obtain ⟨j, hj, e⟩ := List.getElem_of_mem hm
    refine h3 j (by omega) hj ?_
    rw [List.getD_eq_getElem?_getD, List.getElem?_eq_getElem hj]
    exact e
  · exact absurd h hg
theorem vlI.bad {x : NmT} {t : List Nat} {g i : Int} {X : Int64} (h : vlI x t g i X) (hg : g = 0) : klv x.2.1 t = 0 ∨ klv x.2.1 t ∈ x.2.2 := by
  rcases h with ⟨h, -⟩ | ⟨-, h⟩
  · omega
  · exact h
theorem cut_all {t : List Nat} {z : Int} (hz : z = t.length) : cut t 0 z = t := by
  subst hz
  show (t.drop 0).take (((t.length : Int) - 0).toNat) = t
  rw [show ((t.length : Int) - 0).toNat = t.length by omega, List.drop_zero, List.take_length]
theorem isR.lenl {o : Nat} {rf : Nat → Nat} {S : MS} (hR : isR h o rf S) (i : Nat) (hi : i ∈ rLA) : (S.2.2.1 i).length = rLn i := (hR.2.2.1 i hi).2
/-- a VALUE more is KNOWN -/
theorem knR.push {S' : MS} {Ns : List NmT} {x : NmT} {k : Int} {v : Nat} {z : Int64} (hK : knR Ns S) (h6 : Ns.length ≤ 6) (h0 : 0 ≤ k) (hx : Ns[k.toNat]? = some x) (l7 : (S.2.1 7).length = 6) (l8 : (S.2.2.1 8).length = 36) (hm : x.2.2.length < 6) (hv : lk x.2.1 v z) (e7 : S'.2.1 7 = se (S.2.1 7) k (gd (S.2.1 7) k + 1)) (e8 : S'.2.2.1 8 = sle (S.2.2.1 8) (6 * k + gd (S.2.1 7) k) z) : knR (Ns.set k.toNat (x.1, x.2.1, x.2.2 ++ [v])) S' := by
  have hkl := (List.getElem?_eq_some_iff.mp hx).1
  obtain ⟨g1, g2, g3⟩ := hK.1 k.toNat x hx
  have ek : ((k.toNat : Nat) : Int) = k := by omega
  rw [ek] at g1 g3
  refine ⟨fun i y hy => ?_, fun i hi1 hi2 => ?_⟩
  · rw [e7, e8, gd_se_of l7 h0 (by omega) (by omega)]
    by_cases hik : i = k.toNat
    · subst hik
      rw [List.getElem?_set_self hkl] at hy
      cases hy
      rw [ek, if_pos rfl]
      refine ⟨by rw [g1]; simp, by simp; omega, fun j hj => ?_⟩
      have hj' : j < x.2.2.length + 1 := by simpa using hj
      rw [gl_sle l8 (by omega) (by omega) (by omega)]
      by_cases hjl : j = x.2.2.length
      · rw [if_pos (by omega)]
        show lk x.2.1 ((x.2.2 ++ [v]).getD j 0) z
        rw [hjl]
        simpa using hv
      · rw [if_neg (by omega)]
        show lk x.2.1 ((x.2.2 ++ [v]).getD j 0) _
        have e : (x.2.2 ++ [v]).getD j 0 = x.2.2.getD j 0 := by
          rw [List.getD_eq_getElem?_getD, List.getD_eq_getElem?_getD, List.getElem?_append_left (by omega)]
        rw [e]
        exact g3 j (by omega)
    · rw [List.getElem?_set_ne (Ne.symm hik)] at hy
      obtain ⟨f1, f2, f3⟩ := hK.1 i y hy
      have hil := (List.getElem?_eq_some_iff.mp hy).1
      rw [if_neg (by omega)]
      refine ⟨f1, f2, fun j hj => ?_⟩
      rw [gl_sle l8 (by omega) (by omega) (by omega), if_neg (by omega)]
      exact f3 j hj
  · rw [List.length_set] at hi1
    rw [e7, gd_se_of l7 h0 (by omega) (by omega), if_neg (by omega)]
    exact hK.2 i hi1 hi2
set_option maxHeartbeats 1000000 in
theorem r_valueX {t : List Nat} {Ns : List NmT} {k : Int} (hd : 3 ≤ d) (hk : inR k) (hn : nmOk S) (ht : txR t S) (hc : okTx t) (hl : t.length ≤ 160) (hN : nmR Ns S) (h6 : Ns.length ≤ 6) (hK : knR Ns S) : RM l G d M_Mo_value [.ref o, .int (zI k)] o rf S (vlX Ns t k S) := by
  obtain ⟨d, rfl⟩ : ∃ q, d = q + 1 := ⟨d - 1, by omega⟩
  intro H0 c n hR
  obtain ⟨n1, n2, n3, n4⟩ := id hn
  have hn3' : 0 ≤ (sp S 2 0).1 3 := n1
  have hs2 := ht.1
  have hs3 := hN.1
  have hb2 : inR (S.1 2) := hR.2.2.2 2
  refine XM.of (by decide +kernel) (Nat.le_of_ble_eq_true rfl) ?_
  have hX : xonly H0 H0 RKs := xonly.rf
  by_cases hkn : 0 ≤ k ∧ k < Ns.length
  · obtain ⟨x, hx⟩ : ∃ x, Ns[k.toNat]? = some x := ⟨_, List.getElem?_eq_getElem (by omega)⟩
    obtain ⟨x1, x2, x3, x4, x5, x6⟩ := hN.2 _ x hx
    obtain ⟨y1, y2, y3⟩ := hK.1 _ x hx
    have ek : ((k.toNat : Nat) : Int) = k := by omega
    rw [ek] at x2 y1 y3
    have hvl : vlu Ns t (zI k) = if klv x.2.1 t = 0 ∨ klv x.2.1 t ∈ x.2.2 then .inl true else if 6 ≤ x.2.2.length then .inl false else .inr (x.2.2.length + 1, Ns.set k.toNat (x.1, x.2.1, x.2.2 ++ [klv x.2.1 t])) := by
      unfold vlu
      rw [iAt_z hk, if_neg (by omega), hx, zI_clamp hk]
    have hVX : RM l G d M_Mo_isValue [.ref o, .int (zI 0), .int (zI (S.1 2)), .int (zI (gd (S.2.1 6) k))] o rf (sp S 2 0) (ivX (sp S 2 0) x.2.1 t) := by
      have := r_isValueX (l := l) (G := G) (o := o) (rf := rf) (d := d) (S := sp S 2 0) (t := t) (a := 0) (b := S.1 2) (kd := x.2.1) (by omega) x6 ht.A hc (by omega) (by omega) (by omega) hl
      rw [cut_all hs2, ← x2] at this
      exact this
    have j139 : ∀ (X : Int64) (m g i : Int), klv x.2.1 t ≠ 0 → klv x.2.1 t ∉ x.2.2 → X = zL (kyR x.2.1 t) → x.2.2.length < 6 → RX l G M_Mo_value (d + 1) 139 [some (.ref o), some (.int (zI k)), some (.int (zI m)), some (.int (zI g)), some (.int (zI i))] [] H0 o rf c n (sp (sk (sp S 2 0) X) 0 0) (vlX Ns t k S) := by
      intro X m g i hq1 hq2 hq3 hq4 h hR hX
      have l7 : (S.2.1 7).length = 6 := hR.len 7 (by decide)
      have l8 : (S.2.2.1 8).length = 36 := hR.lenl 8 (by decide)
      have e7 : gd (se (S.2.1 7) k (gd (S.2.1 7) k + 1)) k = gd (S.2.1 7) k + 1 := by rw [gd_se_of l7 hkn.1 (by omega) hkn.1, if_pos rfl]
      refine x_aload_n d_Mo_value_139 rfl rfl ?_
      refine x_get xf_Mo_25_Mo (Or.inl hR.1) (v := .ref (rf 8)) rfl d_Mo_value_140 ?_
      refine x_bipush (v := zI 6) d_Mo_value_143 (by decide) ?_
      refine x_iload_n d_Mo_value_145 rfl ?_
      refine z_imul d_Mo_value_146 ?_
      refine x_aload_n d_Mo_value_147 rfl rfl ?_
      refine x_get xf_Mo_22_Mo (Or.inl hR.1) (v := .ref (rf 7)) rfl d_Mo_value_148 ?_
      refine x_iload_n d_Mo_value_151 rfl ?_
      refine r_iald (i := 7) (us := (S.2.1 7)) rfl (by decide) hR rfl (by omega) (by show k < 6; omega) d_Mo_value_152 (fun hr152 => ?_)
      refine z_iadd d_Mo_value_153 ?_
      refine x_aload_n d_Mo_value_154 rfl rfl ?_
      refine x_get xf_Mo_173_Mo (Or.inl hR.1) (v := .long X) rfl d_Mo_value_155 ?_
      refine r_last (i := 8) (us := (S.2.2.1 8)) rfl (by decide) hR hX rfl (by omega) (by show 6 * k + gd (S.2.1 7) k < 36; omega) d_Mo_value_158 ?_
      intro h hR hX
      refine x_aload_n d_Mo_value_159 rfl rfl ?_
      refine x_get xf_Mo_22_Mo (Or.inl hR.1) (v := .ref (rf 7)) rfl d_Mo_value_160 ?_
      refine x_iload_n d_Mo_value_163 rfl ?_
      refine x_dup2_11 d_Mo_value_164 rfl rfl ?_
      refine r_iald (i := 7) (us := (S.2.1 7)) rfl (by decide) hR rfl (by omega) (by show k < 6; omega) d_Mo_value_165 (fun hr165 => ?_)
      refine x_iconst (v := zI 1) d_Mo_value_166 (by decide) ?_
      refine z_iadd d_Mo_value_167 ?_
      refine r_iast (i := 7) (us := (S.2.1 7)) ⟨rfl, rfl⟩ (by decide) hR hX rfl (by omega) (by show k < 6; omega) (by omega) d_Mo_value_168 ?_
      intro h hR hX
      refine x_aload_n d_Mo_value_169 rfl rfl ?_
      refine x_get xf_Mo_22_Mo (Or.inl hR.1) (v := .ref (rf 7)) rfl d_Mo_value_170 ?_
      refine x_iload_n d_Mo_value_173 rfl ?_
      refine r_iald (i := 7) (us := (se (S.2.1 7) k ((gd (S.2.1 7) k) + 1))) rfl (by decide) hR rfl (by omega) (by show k < 6; omega) d_Mo_value_174 (fun hr174 => ?_)
      refine x_iret d_Mo_value_175 rfl ?_
      refine ⟨_, hR, hX, rfl, rfl, ?_⟩
      unfold vlX
      rw [hvl, if_neg (fun z => z.elim hq1 hq2), if_neg (by omega)]
      refine ⟨rfl, rfl, ?_, (((rSm.r0.sp (j := 2) (by decide)).sp (j := 0) (z := 0) (by decide)).sl (i := 8) (by decide)).sa (i := 7) (by decide), knR.push hK h6 hkn.1 hx l7 l8 hq4 (lk.of hc hq1) rfl (by rw [← hq3]; rfl)⟩
      rw [e7, y1]
      rfl
    have j101 : ∀ (X : Int64) (m g i : Int), vlI x t g i X → (g = 0 ∨ (x.2.2.length : Int) ≤ i) → RX l G M_Mo_value (d + 1) 101 [some (.ref o), some (.int (zI k)), some (.int (zI m)), some (.int (zI g)), some (.int (zI i))] [] H0 o rf c n (sk (sp S 2 0) X) (vlX Ns t k S) := by
      intro X m g i hg hgi h hR hX
      have hgb := hg.b
      refine x_aload_n d_Mo_value_101 rfl rfl ?_
      refine x_iload_n d_Mo_value_102 rfl ?_
      refine z_if_ne (tgt := 110) d_Mo_value_103 (by decide) (by omega) (fun hc103 => ?_) (fun hc103 => ?_)
      · refine x_iconst (v := zI 0) d_Mo_value_110 (by decide) ?_
        refine x_iload_n d_Mo_value_111 rfl ?_
        refine z_if_eq (tgt := 130) d_Mo_value_112 (by decide) (by omega) (fun hc112 => ?_) (fun hc112 => ?_)
        · refine x_iconst (v := zI 0) d_Mo_value_130 (by decide) ?_
          refine x_callV (As := [_, _]) (k := k_MarkerTextModel) rfl xcv_Mo_162_Mo (Or.inl hR.1) (RM.ap hR (r_fails (by decide) (by decide))) rfl rfl (Nat.le_of_ble_eq_true rfl) d_Mo_value_131 ?_
          rintro v131 h cq nq ⟨S131, hR, hX131, rfl, rfl, t131, r131, rfl, rfl, hr131⟩
          replace hX := hX.tr hX131
          refine z_if_eq (tgt := 139) d_Mo_value_134 (by decide) (by omega) (fun hc134 => ?_) (fun hc134 => ?_)
          · first | (exfalso; omega) | (obtain rfl : t131 = 0 := by omega); (obtain ⟨q1, q2, q3⟩ := hg.good (by omega) (by omega)); exact j139 _ _ _ _ q1 q2 q3 (by omega) _ hR hX
          · refine x_iconst (v := zI 0) d_Mo_value_137 (by decide) ?_
            refine x_iret d_Mo_value_138 rfl ?_
            refine ⟨_, hR, hX, rfl, rfl, ?_⟩
            by_cases hg0 : g = 0
            · exact vlX.no (b := true) (by rw [hvl, if_pos (hg.bad hg0)]) rfl (by show t131 = 1; omega) ⟨_, rfl⟩ ((rSm.r0.sp (j := 2) (by decide)).sp (j := 0) (by decide))
            · obtain ⟨q1, q2, q3⟩ := hg.good hg0 (by omega)
              exact vlX.no (b := false) (by rw [hvl, if_neg (fun z => z.elim q1 q2), if_pos (by omega)]) rfl (by show t131 = 2; omega) ⟨_, rfl⟩ ((rSm.r0.sp (j := 2) (by decide)).sp (j := 0) (by decide))
        · refine x_aload_n d_Mo_value_115 rfl rfl ?_
          refine x_get xf_Mo_22_Mo (Or.inl hR.1) (v := .ref (rf 7)) rfl d_Mo_value_116 ?_
          refine x_iload_n d_Mo_value_119 rfl ?_
          refine r_iald (i := 7) (us := (S.2.1 7)) rfl (by decide) hR rfl (by omega) (by show k < 6; omega) d_Mo_value_120 (fun hr120 => ?_)
          refine x_bipush (v := zI 6) d_Mo_value_121 (by decide) ?_
          refine z_icmp_ne (tgt := 130) d_Mo_value_123 (by decide) (by omega) (by omega) (fun hc123 => ?_) (fun hc123 => ?_)
          · refine x_iconst (v := zI 0) d_Mo_value_130 (by decide) ?_
            refine x_callV (As := [_, _]) (k := k_MarkerTextModel) rfl xcv_Mo_162_Mo (Or.inl hR.1) (RM.ap hR (r_fails (by decide) (by decide))) rfl rfl (Nat.le_of_ble_eq_true rfl) d_Mo_value_131 ?_
            rintro v131 h cq nq ⟨S131, hR, hX131, rfl, rfl, t131, r131, rfl, rfl, hr131⟩
            replace hX := hX.tr hX131
            refine z_if_eq (tgt := 139) d_Mo_value_134 (by decide) (by omega) (fun hc134 => ?_) (fun hc134 => ?_)
            · first | (exfalso; omega) | (obtain rfl : t131 = 0 := by omega); (obtain ⟨q1, q2, q3⟩ := hg.good (by omega) (by omega)); exact j139 _ _ _ _ q1 q2 q3 (by omega) _ hR hX
            · refine x_iconst (v := zI 0) d_Mo_value_137 (by decide) ?_
              refine x_iret d_Mo_value_138 rfl ?_
              refine ⟨_, hR, hX, rfl, rfl, ?_⟩
              by_cases hg0 : g = 0
              · exact vlX.no (b := true) (by rw [hvl, if_pos (hg.bad hg0)]) rfl (by show t131 = 1; omega) ⟨_, rfl⟩ ((rSm.r0.sp (j := 2) (by decide)).sp (j := 0) (by decide))
              · obtain ⟨q1, q2, q3⟩ := hg.good hg0 (by omega)
                exact vlX.no (b := false) (by rw [hvl, if_neg (fun z => z.elim q1 q2), if_pos (by omega)]) rfl (by show t131 = 2; omega) ⟨_, rfl⟩ ((rSm.r0.sp (j := 2) (by decide)).sp (j := 0) (by decide))
          · refine x_iconst (v := zI 1) d_Mo_value_126 (by decide) ?_
            refine x_goto (tgt := 131) d_Mo_value_127 (by decide) ?_
            refine x_callV (As := [_, _]) (k := k_MarkerTextModel) rfl xcv_Mo_162_Mo (Or.inl hR.1) (RM.ap hR (r_fails (by decide) (by decide))) rfl rfl (Nat.le_of_ble_eq_true rfl) d_Mo_value_131 ?_
            rintro v131 h cq nq ⟨S131, hR, hX131, rfl, rfl, t131, r131, rfl, rfl, hr131⟩
            replace hX := hX.tr hX131
            refine z_if_eq (tgt := 139) d_Mo_value_134 (by decide) (by omega) (fun hc134 => ?_) (fun hc134 => ?_)
            · first | (exfalso; omega) | (obtain rfl : t131 = 0 := by omega); (obtain ⟨q1, q2, q3⟩ := hg.good (by omega) (by omega)); exact j139 _ _ _ _ q1 q2 q3 (by omega) _ hR hX
            · refine x_iconst (v := zI 0) d_Mo_value_137 (by decide) ?_
              refine x_iret d_Mo_value_138 rfl ?_
              refine ⟨_, hR, hX, rfl, rfl, ?_⟩
              by_cases hg0 : g = 0
              · exact vlX.no (b := true) (by rw [hvl, if_pos (hg.bad hg0)]) rfl (by show t131 = 1; omega) ⟨_, rfl⟩ ((rSm.r0.sp (j := 2) (by decide)).sp (j := 0) (by decide))
              · obtain ⟨q1, q2, q3⟩ := hg.good hg0 (by omega)
                exact vlX.no (b := false) (by rw [hvl, if_neg (fun z => z.elim q1 q2), if_pos (by omega)]) rfl (by show t131 = 2; omega) ⟨_, rfl⟩ ((rSm.r0.sp (j := 2) (by decide)).sp (j := 0) (by decide))
      · refine x_iconst (v := zI 1) d_Mo_value_106 (by decide) ?_
        refine x_goto (tgt := 111) d_Mo_value_107 (by decide) ?_
        refine x_iload_n d_Mo_value_111 rfl ?_
        refine z_if_eq (tgt := 130) d_Mo_value_112 (by decide) (by omega) (fun hc112 => ?_) (fun hc112 => ?_)
        · refine x_iconst (v := zI 0) d_Mo_value_130 (by decide) ?_
          refine x_callV (As := [_, _]) (k := k_MarkerTextModel) rfl xcv_Mo_162_Mo (Or.inl hR.1) (RM.ap hR (r_fails (by decide) (by decide))) rfl rfl (Nat.le_of_ble_eq_true rfl) d_Mo_value_131 ?_
          rintro v131 h cq nq ⟨S131, hR, hX131, rfl, rfl, t131, r131, rfl, rfl, hr131⟩
          replace hX := hX.tr hX131
          refine z_if_eq (tgt := 139) d_Mo_value_134 (by decide) (by omega) (fun hc134 => ?_) (fun hc134 => ?_)
          · first | (exfalso; omega) | (obtain rfl : t131 = 0 := by omega); (obtain ⟨q1, q2, q3⟩ := hg.good (by omega) (by omega)); exact j139 _ _ _ _ q1 q2 q3 (by omega) _ hR hX
          · refine x_iconst (v := zI 0) d_Mo_value_137 (by decide) ?_
            refine x_iret d_Mo_value_138 rfl ?_
            refine ⟨_, hR, hX, rfl, rfl, ?_⟩
            by_cases hg0 : g = 0
            · exact vlX.no (b := true) (by rw [hvl, if_pos (hg.bad hg0)]) rfl (by show t131 = 1; omega) ⟨_, rfl⟩ ((rSm.r0.sp (j := 2) (by decide)).sp (j := 0) (by decide))
            · obtain ⟨q1, q2, q3⟩ := hg.good hg0 (by omega)
              exact vlX.no (b := false) (by rw [hvl, if_neg (fun z => z.elim q1 q2), if_pos (by omega)]) rfl (by show t131 = 2; omega) ⟨_, rfl⟩ ((rSm.r0.sp (j := 2) (by decide)).sp (j := 0) (by decide))
        · refine x_aload_n d_Mo_value_115 rfl rfl ?_
          refine x_get xf_Mo_22_Mo (Or.inl hR.1) (v := .ref (rf 7)) rfl d_Mo_value_116 ?_
          refine x_iload_n d_Mo_value_119 rfl ?_
          refine r_iald (i := 7) (us := (S.2.1 7)) rfl (by decide) hR rfl (by omega) (by show k < 6; omega) d_Mo_value_120 (fun hr120 => ?_)
          refine x_bipush (v := zI 6) d_Mo_value_121 (by decide) ?_
          refine z_icmp_ne (tgt := 130) d_Mo_value_123 (by decide) (by omega) (by omega) (fun hc123 => ?_) (fun hc123 => ?_)
          · refine x_iconst (v := zI 0) d_Mo_value_130 (by decide) ?_
            refine x_callV (As := [_, _]) (k := k_MarkerTextModel) rfl xcv_Mo_162_Mo (Or.inl hR.1) (RM.ap hR (r_fails (by decide) (by decide))) rfl rfl (Nat.le_of_ble_eq_true rfl) d_Mo_value_131 ?_
            rintro v131 h cq nq ⟨S131, hR, hX131, rfl, rfl, t131, r131, rfl, rfl, hr131⟩
            replace hX := hX.tr hX131
            refine z_if_eq (tgt := 139) d_Mo_value_134 (by decide) (by omega) (fun hc134 => ?_) (fun hc134 => ?_)
            · first | (exfalso; omega) | (obtain rfl : t131 = 0 := by omega); (obtain ⟨q1, q2, q3⟩ := hg.good (by omega) (by omega)); exact j139 _ _ _ _ q1 q2 q3 (by omega) _ hR hX
            · refine x_iconst (v := zI 0) d_Mo_value_137 (by decide) ?_
              refine x_iret d_Mo_value_138 rfl ?_
              refine ⟨_, hR, hX, rfl, rfl, ?_⟩
              by_cases hg0 : g = 0
              · exact vlX.no (b := true) (by rw [hvl, if_pos (hg.bad hg0)]) rfl (by show t131 = 1; omega) ⟨_, rfl⟩ ((rSm.r0.sp (j := 2) (by decide)).sp (j := 0) (by decide))
              · obtain ⟨q1, q2, q3⟩ := hg.good hg0 (by omega)
                exact vlX.no (b := false) (by rw [hvl, if_neg (fun z => z.elim q1 q2), if_pos (by omega)]) rfl (by show t131 = 2; omega) ⟨_, rfl⟩ ((rSm.r0.sp (j := 2) (by decide)).sp (j := 0) (by decide))
          · refine x_iconst (v := zI 1) d_Mo_value_126 (by decide) ?_
            refine x_goto (tgt := 131) d_Mo_value_127 (by decide) ?_
            refine x_callV (As := [_, _]) (k := k_MarkerTextModel) rfl xcv_Mo_162_Mo (Or.inl hR.1) (RM.ap hR (r_fails (by decide) (by decide))) rfl rfl (Nat.le_of_ble_eq_true rfl) d_Mo_value_131 ?_
            rintro v131 h cq nq ⟨S131, hR, hX131, rfl, rfl, t131, r131, rfl, rfl, hr131⟩
            replace hX := hX.tr hX131
            refine z_if_eq (tgt := 139) d_Mo_value_134 (by decide) (by omega) (fun hc134 => ?_) (fun hc134 => ?_)
            · first | (exfalso; omega) | (obtain rfl : t131 = 0 := by omega); (obtain ⟨q1, q2, q3⟩ := hg.good (by omega) (by omega)); exact j139 _ _ _ _ q1 q2 q3 (by omega) _ hR hX
            · refine x_iconst (v := zI 0) d_Mo_value_137 (by decide) ?_
              refine x_iret d_Mo_value_138 rfl ?_
              refine ⟨_, hR, hX, rfl, rfl, ?_⟩
              by_cases hg0 : g = 0
              · exact vlX.no (b := true) (by rw [hvl, if_pos (hg.bad hg0)]) rfl (by show t131 = 1; omega) ⟨_, rfl⟩ ((rSm.r0.sp (j := 2) (by decide)).sp (j := 0) (by decide))
              · obtain ⟨q1, q2, q3⟩ := hg.good hg0 (by omega)
                exact vlX.no (b := false) (by rw [hvl, if_neg (fun z => z.elim q1 q2), if_pos (by omega)]) rfl (by show t131 = 2; omega) ⟨_, rfl⟩ ((rSm.r0.sp (j := 2) (by decide)).sp (j := 0) (by decide))
    have l1 : ∀ (q : Nat) (X : Int64) (m g i : Int), vlI x t g i X → 0 ≤ i → i ≤ x.2.2.length → x.2.2.length - i ≤ q → RX l G M_Mo_value (d + 1) 54 [some (.ref o), some (.int (zI k)), some (.int (zI m)), some (.int (zI g)), some (.int (zI i))] [] H0 o rf c n (sk (sp S 2 0) X) (vlX Ns t k S) := by
      intro q
      induction q with
      | zero =>
        intro X m g i hg hi0 hi6 hq h hR hX
        have hgb := hg.b
        refine x_iload_n d_Mo_value_54 rfl ?_
        refine z_if_eq (tgt := 101) d_Mo_value_55 (by decide) (by omega) (fun hc55 => ?_) (fun hc55 => ?_)
        · exact j101 _ _ _ _ hg (by omega) _ hR hX
        · refine x_iload d_Mo_value_58 rfl ?_
          refine x_aload_n d_Mo_value_60 rfl rfl ?_
          refine x_get xf_Mo_22_Mo (Or.inl hR.1) (v := .ref (rf 7)) rfl d_Mo_value_61 ?_
          refine x_iload_n d_Mo_value_64 rfl ?_
          refine r_iald (i := 7) (us := (S.2.1 7)) rfl (by decide) hR rfl (by omega) (by show k < 6; omega) d_Mo_value_65 (fun hr65 => ?_)
          refine z_icmp_ge (tgt := 101) d_Mo_value_66 (by decide) (by omega) (by omega) (fun _ => ?_) (fun hq => by omega)
          exact j101 _ _ _ _ hg (by omega) _ hR hX
      | succ q ih =>
        intro X m g i hg hi0 hi6 hq h hR hX
        have hgb := hg.b
        by_cases hil : i < x.2.2.length
        · have hlk : lk x.2.1 (x.2.2.getD i.toNat 0) (gl (S.2.2.1 8) (6 * k + i)) := by
            have := y3 i.toNat (by omega)
            rw [show ((i.toNat : Nat) : Int) = i by omega] at this
            exact this
          refine x_iload_n d_Mo_value_54 rfl ?_
          refine z_if_eq (tgt := 101) d_Mo_value_55 (by decide) (by omega) (fun hc55 => ?_) (fun hc55 => ?_)
          · exact j101 _ _ _ _ hg (by omega) _ hR hX
          · refine x_iload d_Mo_value_58 rfl ?_
            refine x_aload_n d_Mo_value_60 rfl rfl ?_
            refine x_get xf_Mo_22_Mo (Or.inl hR.1) (v := .ref (rf 7)) rfl d_Mo_value_61 ?_
            refine x_iload_n d_Mo_value_64 rfl ?_
            refine r_iald (i := 7) (us := (S.2.1 7)) rfl (by decide) hR rfl (by omega) (by show k < 6; omega) d_Mo_value_65 (fun hr65 => ?_)
            refine z_icmp_ge (tgt := 101) d_Mo_value_66 (by decide) (by omega) (by omega) (fun hq => by omega) (fun _ => ?_)
            refine x_aload_n d_Mo_value_69 rfl rfl ?_
            refine x_get xf_Mo_25_Mo (Or.inl hR.1) (v := .ref (rf 8)) rfl d_Mo_value_70 ?_
            refine x_bipush (v := zI 6) d_Mo_value_73 (by decide) ?_
            refine x_iload_n d_Mo_value_75 rfl ?_
            refine z_imul d_Mo_value_76 ?_
            refine x_iload d_Mo_value_77 rfl ?_
            refine z_iadd d_Mo_value_79 ?_
            refine r_lald (i := 8) (us := (S.2.2.1 8)) rfl (by decide) hR rfl (by omega) (by show 6 * k + i < 36; omega) d_Mo_value_80 ?_
            refine x_aload_n d_Mo_value_81 rfl rfl ?_
            refine x_get xf_Mo_173_Mo (Or.inl hR.1) (v := .long X) rfl d_Mo_value_82 ?_
            refine x_lcmp d_Mo_value_85 (x_zi ?_)
            have hr85 := inR_ti (lg_cmp (gl (S.2.2.1 8) ((6 * k) + i)) X)
            refine z_if_eq (tgt := 93) d_Mo_value_86 (by decide) (by omega) (fun hc86 => ?_) (fun hc86 => ?_)
            · refine x_iconst (v := zI 0) d_Mo_value_93 (by decide) ?_
              refine x_istore_n (L' := [_, _, _, _, _]) d_Mo_value_94 rfl rfl ?_
              refine x_iinc (v := zI (i + 1)) (L' := [_, _, _, _, _]) d_Mo_value_95 rfl (zI_add _ _) rfl rfl ?_
              refine x_goto (tgt := 54) d_Mo_value_98 (by decide) ?_
              exact ih _ _ _ (i + 1) (hg.step (by omega) hi0 hil hlk x6 hc (by first | exact Or.inl ⟨rfl, lgz hc86⟩ | exact Or.inr ⟨rfl, lgn hc86⟩)) (by omega) (by omega) (by omega) _ hR hX
            · refine x_iconst (v := zI 1) d_Mo_value_89 (by decide) ?_
              refine x_goto (tgt := 94) d_Mo_value_90 (by decide) ?_
              refine x_istore_n (L' := [_, _, _, _, _]) d_Mo_value_94 rfl rfl ?_
              refine x_iinc (v := zI (i + 1)) (L' := [_, _, _, _, _]) d_Mo_value_95 rfl (zI_add _ _) rfl rfl ?_
              refine x_goto (tgt := 54) d_Mo_value_98 (by decide) ?_
              exact ih _ _ _ (i + 1) (hg.step (by omega) hi0 hil hlk x6 hc (by first | exact Or.inl ⟨rfl, lgz hc86⟩ | exact Or.inr ⟨rfl, lgn hc86⟩)) (by omega) (by omega) (by omega) _ hR hX
        · refine x_iload_n d_Mo_value_54 rfl ?_
          refine z_if_eq (tgt := 101) d_Mo_value_55 (by decide) (by omega) (fun hc55 => ?_) (fun hc55 => ?_)
          · exact j101 _ _ _ _ hg (by omega) _ hR hX
          · refine x_iload d_Mo_value_58 rfl ?_
            refine x_aload_n d_Mo_value_60 rfl rfl ?_
            refine x_get xf_Mo_22_Mo (Or.inl hR.1) (v := .ref (rf 7)) rfl d_Mo_value_61 ?_
            refine x_iload_n d_Mo_value_64 rfl ?_
            refine r_iald (i := 7) (us := (S.2.1 7)) rfl (by decide) hR rfl (by omega) (by show k < 6; omega) d_Mo_value_65 (fun hr65 => ?_)
            refine z_icmp_ge (tgt := 101) d_Mo_value_66 (by decide) (by omega) (by omega) (fun _ => ?_) (fun hq => by omega)
            exact j101 _ _ _ _ hg (by omega) _ hR hX
    have j50 : ∀ (X : Int64) (m g : Int), vlI x t g 0 X → RX l G M_Mo_value (d + 1) 50 [some (.ref o), some (.int (zI k)), some (.int (zI m)), none, none] [.int (zI g)] H0 o rf c n (sk (sp S 2 0) X) (vlX Ns t k S) := by
      intro X m g hg h hR hX
      have hgb := hg.b
      refine x_istore_n (L' := [_, _, _, _, _]) d_Mo_value_50 rfl rfl ?_
      refine x_iconst (v := zI 0) d_Mo_value_51 (by decide) ?_
      refine x_istore (L' := [_, _, _, _, _]) d_Mo_value_52 rfl rfl ?_
      exact l1 6 _ _ _ 0 hg (by omega) (by omega) (by omega) _ hR hX
    refine x_aload_n d_Mo_value_0 rfl rfl ?_
    refine x_get xf_Mo_124_Mo (Or.inl hR.1) (v := .int (zI (S.1 2))) rfl d_Mo_value_1 ?_
    have hb1 : inR (S.1 2) := hR.2.2.2 2
    refine x_istore_n (L' := [_, _, _, _, _]) d_Mo_value_4 rfl rfl ?_
    refine x_aload_n d_Mo_value_5 rfl rfl ?_
    refine x_iconst (v := zI 0) d_Mo_value_6 (by decide) ?_
    refine r_put xf_Mo_124_Mo xp_Mo_2 hR hX (by omega) rfl rfl d_Mo_value_7 ?_
    intro h hR hX
    refine x_aload_n d_Mo_value_10 rfl rfl ?_
    refine x_iload_n d_Mo_value_11 rfl ?_
    refine x_callV (As := [_]) (k := k_MarkerTextModel) rfl xcv_Mo_184_Mo (Or.inl hR.1) (RM.ap hR (r_isName (by omega) hk hn3')) rfl rfl (Nat.le_of_ble_eq_true rfl) d_Mo_value_12 ?_
    rintro v12 h cq nq ⟨S12, hR, hX12, rfl, rfl, hE12, r12, rfl, hr12⟩
    replace hE12 := Eq.symm hE12
    subst hE12
    replace hX := hX.tr hX12
    replace hr12 : (r12 = 1 ∧ (0 ≤ k ∧ k ≤ S.1 3 - 1)) ∨ (r12 = 0 ∧ ¬ (0 ≤ k ∧ k ≤ S.1 3 - 1)) := hr12
    refine z_if_eq (tgt := 49) d_Mo_value_15 (by decide) (by omega) (fun hq => by omega) (fun _ => ?_)
    refine x_aload_n d_Mo_value_18 rfl rfl ?_
    refine x_iconst (v := zI 0) d_Mo_value_19 (by decide) ?_
    refine x_iload_n d_Mo_value_20 rfl ?_
    refine x_aload_n d_Mo_value_21 rfl rfl ?_
    refine x_get xf_Mo_19_Mo (Or.inl hR.1) (v := .ref (rf 6)) rfl d_Mo_value_22 ?_
    refine x_aload_n d_Mo_value_25 rfl rfl ?_
    refine x_iload_n d_Mo_value_26 rfl ?_
    refine x_callV (As := [_]) (k := k_MarkerTextModel) rfl xcv_Mo_184_Mo (Or.inl hR.1) (RM.ap hR (r_isName (by omega) hk hn3')) rfl rfl (Nat.le_of_ble_eq_true rfl) d_Mo_value_27 ?_
    rintro v27 h cq nq ⟨S27, hR, hX27, rfl, rfl, hE27, r27, rfl, hr27⟩
    replace hE27 := Eq.symm hE27
    subst hE27
    replace hX := hX.tr hX27
    replace hr27 : (r27 = 1 ∧ (0 ≤ k ∧ k ≤ S.1 3 - 1)) ∨ (r27 = 0 ∧ ¬ (0 ≤ k ∧ k ≤ S.1 3 - 1)) := hr27
    refine z_if_eq (tgt := 37) d_Mo_value_30 (by decide) (by omega) (fun hq => by omega) (fun _ => ?_)
    refine x_iload_n d_Mo_value_33 rfl ?_
    refine x_goto (tgt := 38) d_Mo_value_34 (by decide) ?_
    refine r_iald (i := 6) (us := (S.2.1 6)) rfl (by decide) hR rfl (by omega) (by show k < 6; omega) d_Mo_value_38 (fun hr38 => ?_)
    refine x_callV (As := [_, _, _]) (k := k_MarkerTextModel) rfl xcv_Mo_187_Mo (Or.inl hR.1) (RM.ap hR hVX) rfl rfl (Nat.le_of_ble_eq_true rfl) d_Mo_value_39 ?_
    rintro v39 h cq nq ⟨S39, hR, hX39, rfl, rfl, x39, r39, rfl, rfl, hr39⟩
    replace hX := hX.tr hX39
    refine z_if_eq (tgt := 49) d_Mo_value_42 (by decide) (by omega) (fun hc42 => ?_) (fun hc42 => ?_)
    · refine x_iconst (v := zI 0) d_Mo_value_49 (by decide) ?_
      exact j50 _ _ _ (hr39.elim (fun ⟨q1, q2, q3⟩ => by first | (exfalso; omega) | exact Or.inl ⟨rfl, q2, q3, fun j hj => by omega⟩) (fun ⟨q1, q2⟩ => by first | (exfalso; omega) | exact Or.inr ⟨rfl, Or.inl q2⟩)) _ hR hX
    · refine x_iconst (v := zI 1) d_Mo_value_45 (by decide) ?_
      refine x_goto (tgt := 50) d_Mo_value_46 (by decide) ?_
      exact j50 _ _ _ (hr39.elim (fun ⟨q1, q2, q3⟩ => by first | (exfalso; omega) | exact Or.inl ⟨rfl, q2, q3, fun j hj => by omega⟩) (fun ⟨q1, q2⟩ => by first | (exfalso; omega) | exact Or.inr ⟨rfl, Or.inl q2⟩)) _ hR hX
  · have hvl : vlu Ns t (zI k) = .inl true := by
      unfold vlu
      rw [iAt_z hk]
      by_cases h0 : k < 0
      · rw [if_pos h0]
      · rw [if_neg h0, List.getElem?_eq_none (by omega)]
    refine x_aload_n d_Mo_value_0 rfl rfl ?_
    refine x_get xf_Mo_124_Mo (Or.inl hR.1) (v := .int (zI (S.1 2))) rfl d_Mo_value_1 ?_
    have hb1 : inR (S.1 2) := hR.2.2.2 2
    refine x_istore_n (L' := [_, _, _, _, _]) d_Mo_value_4 rfl rfl ?_
    refine x_aload_n d_Mo_value_5 rfl rfl ?_
    refine x_iconst (v := zI 0) d_Mo_value_6 (by decide) ?_
    refine r_put xf_Mo_124_Mo xp_Mo_2 hR hX (by omega) rfl rfl d_Mo_value_7 ?_
    intro h hR hX
    refine x_aload_n d_Mo_value_10 rfl rfl ?_
    refine x_iload_n d_Mo_value_11 rfl ?_
    refine x_callV (As := [_]) (k := k_MarkerTextModel) rfl xcv_Mo_184_Mo (Or.inl hR.1) (RM.ap hR (r_isName (by omega) hk hn3')) rfl rfl (Nat.le_of_ble_eq_true rfl) d_Mo_value_12 ?_
    rintro v12 h cq nq ⟨S12, hR, hX12, rfl, rfl, hE12, r12, rfl, hr12⟩
    replace hE12 := Eq.symm hE12
    subst hE12
    replace hX := hX.tr hX12
    replace hr12 : (r12 = 1 ∧ (0 ≤ k ∧ k ≤ S.1 3 - 1)) ∨ (r12 = 0 ∧ ¬ (0 ≤ k ∧ k ≤ S.1 3 - 1)) := hr12
    refine z_if_eq (tgt := 49) d_Mo_value_15 (by decide) (by omega) (fun _ => ?_) (fun hq => by omega)
    refine x_iconst (v := zI 0) d_Mo_value_49 (by decide) ?_
    refine x_istore_n (L' := [_, _, _, _, _]) d_Mo_value_50 rfl rfl ?_
    refine x_iconst (v := zI 0) d_Mo_value_51 (by decide) ?_
    refine x_istore (L' := [_, _, _, _, _]) d_Mo_value_52 rfl rfl ?_
    refine x_iload_n d_Mo_value_54 rfl ?_
    refine z_if_eq (tgt := 101) d_Mo_value_55 (by decide) (by omega) (fun _ => ?_) (fun hq => by omega)
    refine x_aload_n d_Mo_value_101 rfl rfl ?_
    refine x_iload_n d_Mo_value_102 rfl ?_
    refine z_if_ne (tgt := 110) d_Mo_value_103 (by decide) (by omega) (fun hq => by omega) (fun _ => ?_)
    refine x_iconst (v := zI 1) d_Mo_value_106 (by decide) ?_
    refine x_goto (tgt := 111) d_Mo_value_107 (by decide) ?_
    refine x_iload_n d_Mo_value_111 rfl ?_
    refine z_if_eq (tgt := 130) d_Mo_value_112 (by decide) (by omega) (fun _ => ?_) (fun hq => by omega)
    refine x_iconst (v := zI 0) d_Mo_value_130 (by decide) ?_
    refine x_callV (As := [_, _]) (k := k_MarkerTextModel) rfl xcv_Mo_162_Mo (Or.inl hR.1) (RM.ap hR (r_fails (by decide) (by decide))) rfl rfl (Nat.le_of_ble_eq_true rfl) d_Mo_value_131 ?_
    rintro v131 h cq nq ⟨S131, hR, hX131, rfl, rfl, t131, r131, rfl, rfl, hr131⟩
    replace hX := hX.tr hX131
    refine z_if_eq (tgt := 139) d_Mo_value_134 (by decide) (by omega) (fun hq => by omega) (fun _ => ?_)
    refine x_iconst (v := zI 0) d_Mo_value_137 (by decide) ?_
    refine x_iret d_Mo_value_138 rfl ?_
    exact ⟨_, hR, hX, rfl, rfl, vlX.no (b := true) hvl rfl (by show t131 = 1; omega) ⟨_, rfl⟩ ((rSm.r0.sp (j := 2) (by decide)).sp (j := 0) (by decide))⟩
end RG5
