section

end
section RI2
/-- the class's rows stand one behind the other -/
theorem app_at {A W R : List Nat} {i : Nat} (hi : i < W.length) : (A ++ (W ++ R)).getD (A.length + i) 0 = W.getD i 0 := by
  rw [List.getD_eq_getElem?_getD, List.getD_eq_getElem?_getD, List.getElem?_append_right (by omega), Nat.add_sub_cancel_left, List.getElem?_append_left hi]
theorem spt_app {v : Nat} {R : List Nat} : ∀ (W A : List Nat), spt (A ++ (W ++ R)) v W.length A.length = A.length + lob v W := by
  intro W
  induction W with
  | nil => intro A; rfl
  | cons x W ih =>
    intro A
    have h0 := app_at (A := A) (W := x :: W) (R := R) (i := 0) (by simp)
    have h0 : (A ++ (x :: W ++ R)).getD A.length 0 = x := h0
    show (if (A ++ (x :: W ++ R)).getD A.length 0 < v then spt (A ++ (x :: W ++ R)) v W.length (A.length + 1) else A.length) = _
    rw [h0]
    by_cases hx : x < v
    · rw [if_pos hx, show lob v (x :: W) = lob v W + 1 from if_pos hx]
      have e := ih (A ++ [x])
      rw [List.append_assoc, List.length_append] at e
      have e : spt (A ++ (x :: W ++ R)) v W.length (A.length + 1) = A.length + 1 + lob v W := e
      omega
    · rw [if_neg hx, show lob v (x :: W) = 0 from if_neg hx]
      rfl
theorem adV_app {v : Nat} {A W R : List Nat} (hl : (A ++ (W ++ R)).length = 356) (hu : A.length + W.length < 356) : ∃ R', adV A.length (A ++ (W ++ R), A.length + W.length) v = (A ++ (ins v W ++ R'), A.length + (ins v W).length) ∧ (A ++ (ins v W ++ R')).length = 356 := by
  have hp := lob_le (v := v) W
  have hs := spt_app (v := v) (R := R) W A
  unfold adV
  show ∃ R', (if (spt (A ++ (W ++ R)) v (A.length + W.length - A.length) A.length < A.length + W.length ∧ (A ++ (W ++ R)).getD (spt (A ++ (W ++ R)) v (A.length + W.length - A.length) A.length) 0 = v) ∨ 356 ≤ A.length + W.length then (A ++ (W ++ R), A.length + W.length) else ((A ++ (W ++ R)).take (spt (A ++ (W ++ R)) v (A.length + W.length - A.length) A.length) ++ v :: (((A ++ (W ++ R)).drop (spt (A ++ (W ++ R)) v (A.length + W.length - A.length) A.length)).take (A.length + W.length - spt (A ++ (W ++ R)) v (A.length + W.length - A.length) A.length) ++ (A ++ (W ++ R)).drop (A.length + W.length + 1)), A.length + W.length + 1)) = _ ∧ _
  rw [Nat.add_sub_cancel_left, hs]
  by_cases hin : lob v W < W.length ∧ W.getD (lob v W) 0 = v
  · rw [show ins v W = W from if_pos hin]
    refine ⟨R, if_pos (Or.inl ⟨by omega, ?_⟩), hl⟩
    rw [app_at hin.1]
    exact hin.2
  · rw [if_neg (fun z => z.elim (fun q => hin ⟨by omega, by have h9 := q.2; rw [app_at (by omega)] at h9; exact h9⟩) (fun q => by omega))]
    have hi : ins v W = W.take (lob v W) ++ v :: W.drop (lob v W) := if_neg hin
    have hli : (ins v W).length = W.length + 1 := by rw [hi, td_len hp]
    refine ⟨R.drop 1, ?_, ?_⟩
    · rw [hli, List.take_length_add_append, List.drop_length_add_append, List.take_append_of_le_length hp, List.drop_append_of_le_length hp, show A.length + W.length - (A.length + lob v W) = (W.drop (lob v W)).length by rw [List.length_drop]; omega, List.take_append_length, show A.length + W.length + 1 = A.length + (W.length + 1) by omega, List.drop_length_add_append, List.drop_length_add_append, hi]
      simp only [List.append_assoc, List.cons_append]
    · rw [List.length_append, List.length_append] at hl ⊢
      rw [hli, List.length_drop]
      omega
theorem adL_app {A : List Nat} : ∀ (ws W R : List Nat), (A ++ (W ++ R)).length = 356 → A.length + W.length + ws.length ≤ 356 → ∃ R', adL A.length ws (A ++ (W ++ R), A.length + W.length) = (A ++ (insL ws W ++ R'), A.length + (insL ws W).length) ∧ (A ++ (insL ws W ++ R')).length = 356 := by
  intro ws
  induction ws with
  | nil => intro W R hl _; exact ⟨R, rfl, hl⟩
  | cons v ws ih =>
    intro W R hl hu
    rw [List.length_cons] at hu
    obtain ⟨R1, e1, l1⟩ := adV_app (v := v) hl (by omega)
    have hb := (ins_b (v := v) (W := W)).2.1
    obtain ⟨R2, e2, l2⟩ := ih (ins v W) R1 l1 (by omega)
    refine ⟨R2, ?_, l2⟩
    show adL A.length ws (adV A.length (A ++ (W ++ R), A.length + W.length) v) = _
    rw [e1]
    exact e2
theorem adT_app {A : List Nat} {j : Nat} : ∀ (ts : List TsT) (W R : List Nat), (A ++ (W ++ R)).length = 356 → A.length + W.length + cnT j ts ≤ 356 → ∃ R', adT j A.length ts (A ++ (W ++ R), A.length + W.length) = (A ++ (insT j ts W ++ R'), A.length + (insT j ts W).length) ∧ (A ++ (insT j ts W ++ R')).length = 356 := by
  intro ts
  induction ts with
  | nil => intro W R hl _; exact ⟨R, rfl, hl⟩
  | cons t ts ih =>
    intro W R hl hu
    have hu : A.length + W.length + ((if t.1 = j then t.2.2.1.length else 0) + cnT j ts) ≤ 356 := hu
    rw [insT_cons]
    have e0 : adT j A.length (t :: ts) (A ++ (W ++ R), A.length + W.length) = adT j A.length ts (if t.1 = j then adL A.length t.2.2.1 (A ++ (W ++ R), A.length + W.length) else (A ++ (W ++ R), A.length + W.length)) := rfl
    rw [e0]
    by_cases h : t.1 = j
    · rw [if_pos h] at hu
      rw [if_pos h, if_pos h]
      obtain ⟨R1, e1, l1⟩ := adL_app (A := A) t.2.2.1 W R hl (by omega)
      have hb := (insL_b (ws := t.2.2.1) (W := W)).2.1
      rw [e1]
      exact ih _ R1 l1 (by omega)
    · rw [if_neg h] at hu
      rw [if_neg h, if_neg h]
      exact ih _ R hl (by omega)
theorem cnC_mono {Cs : List CnT} {S j : Nat} : ∀ i k : Nat, cnC Cs S j i ≤ cnC Cs S j (i + k) := by
  intro i k
  induction k with
  | zero => exact Nat.le_refl _
  | succ k ih =>
    have : cnC Cs S j (i + k) ≤ cnC Cs S j (i + k + 1) := by
      show _ ≤ if S.testBit (i + k) then (match Cs[i + k]? with
        | some D => cnC Cs S j (i + k) + cnT j D.2
        | none => cnC Cs S j (i + k)) else cnC Cs S j (i + k)
      split
      · split
        · exact Nat.le_add_right _ _
        · exact Nat.le_refl _
      · exact Nat.le_refl _
    exact Nat.le_trans ih this
theorem lyC_app {Cs : List CnT} {S j : Nat} {A R : List Nat} (hl : (A ++ R).length = 356) (hu : A.length + cnC Cs S j 8 ≤ 356) : ∀ i, i ≤ 8 → ∃ R', lyC Cs S j A.length i (A ++ R, A.length) = (A ++ (rC Cs S j i ++ R'), A.length + (rC Cs S j i).length) ∧ (A ++ (rC Cs S j i ++ R')).length = 356 := by
  intro i
  induction i with
  | zero => intro _; exact ⟨R, rfl, hl⟩
  | succ i ih =>
    intro hi
    obtain ⟨R1, e1, l1⟩ := ih (by omega)
    have hm := cnC_mono (Cs := Cs) (S := S) (j := j) (i + 1) (8 - (i + 1))
    rw [show i + 1 + (8 - (i + 1)) = 8 by omega] at hm
    have hb := rC_b (Cs := Cs) (S := S) (j := j) i
    unfold lyC rC
    unfold cnC at hm
    by_cases hS : S.testBit i = true
    · rw [if_pos hS] at hm ⊢
      rw [if_pos hS]
      cases hD : Cs[i]? with
      | none => exact ⟨R1, e1, l1⟩
      | some D =>
        rw [hD] at hm
        have hm : cnC Cs S j i + cnT j D.2 ≤ cnC Cs S j 8 := hm
        show ∃ R', adT j A.length D.2 (lyC Cs S j A.length i (A ++ R, A.length)) = _ ∧ _
        rw [e1]
        exact adT_app D.2 _ R1 l1 (by omega)
    · rw [if_neg hS, if_neg hS]
      exact ⟨R1, e1, l1⟩
theorem lyK_app {Ns : List NmT} {j : Nat} {A W R : List Nat} (hl : (A ++ (W ++ R)).length = 356) (hv : ∀ x ∈ Ns, x.2.2.length ≤ 6) (hu : A.length + W.length + 6 ≤ 356) : ∃ R', lyK Ns j A.length (A ++ (W ++ R), A.length + W.length) = (A ++ (rKn Ns j W ++ R'), A.length + (rKn Ns j W).length) ∧ (A ++ (rKn Ns j W ++ R')).length = 356 := by
  unfold lyK rKn
  by_cases hW : W = []
  · rw [if_pos hW, if_neg (by rw [hW]; exact Nat.lt_irrefl _)]
    exact ⟨R, rfl, hl⟩
  · have h1 : 0 < W.length := List.length_pos_iff.mpr hW
    rw [if_neg hW, if_pos (show A.length < A.length + W.length by omega)]
    cases hx : Ns[j]? with
    | none => exact ⟨R, rfl, hl⟩
    | some x => exact adL_app x.2.2 W R hl (by have := hv x (List.mem_of_getElem? hx); omega)
/-- the rows of the first names -/
def rws (Ns : List NmT) (Cs : List CnT) (S : Nat) : Nat → List Nat
  | 0 => []
  | j + 1 => rws Ns Cs S j ++ row Ns Cs S j
/-- how many CHOICES they make -/
def pdN (Ns : List NmT) (Cs : List CnT) (S : Nat) : Nat → Nat
  | 0 => 1
  | j + 1 => pdN Ns Cs S j * smN (row Ns Cs S j)
/-- how many VALUES they may hold -/
def cnS (Cs : List CnT) (S : Nat) : Nat → Nat
  | 0 => 0
  | j + 1 => cnS Cs S j + (cnC Cs S j 8 + 6)
theorem cnS_mono {Cs : List CnT} {S : Nat} : ∀ i k : Nat, cnS Cs S i ≤ cnS Cs S (i + k) := by
  intro i k
  induction k with
  | zero => exact Nat.le_refl _
  | succ k ih => exact Nat.le_trans ih (Nat.le_add_right _ _)
/-- what layOut() leaves, of the first names -/
def lyW (Ns : List NmT) (Cs : List CnT) (S j : Nat) (r : LyT) : Prop := (∃ R, r.1 = (rws Ns Cs S j ++ R, (rws Ns Cs S j).length) ∧ (rws Ns Cs S j ++ R).length = 356) ∧ r.2.1.length = 6 ∧ r.2.2.1.length = 6 ∧ (∀ i, i < j → r.2.1.getD i 0 = (rws Ns Cs S i).length ∧ r.2.2.1.getD i 0 = smN (row Ns Cs S i)) ∧ r.2.2.2 = min (pdN Ns Cs S j) 20001
theorem lyS_app {Ns : List NmT} {Cs : List CnT} {S : Nat} {vs st sa : List Nat} (hv : ∀ x ∈ Ns, x.2.2.length ≤ 6) (h1 : vs.length = 356) (h2 : st.length = 6) (h3 : sa.length = 6) (hu : cnS Cs S 6 ≤ 356) : ∀ j, j ≤ 6 → lyW Ns Cs S j (lyS Ns Cs S ((vs, 0), st, sa, 1) j) ∧ (rws Ns Cs S j).length ≤ cnS Cs S j := by
  intro j
  induction j with
  | zero => intro _; exact ⟨⟨⟨vs, rfl, h1⟩, h2, h3, fun i hi => absurd hi (Nat.not_lt_zero _), rfl⟩, Nat.le_refl _⟩
  | succ j ih =>
    intro hj
    obtain ⟨⟨⟨R, e1, l1⟩, l2, l3, hat, hc⟩, hb⟩ := ih (by omega)
    have hm := cnS_mono (Cs := Cs) (S := S) (j + 1) (6 - (j + 1))
    rw [show j + 1 + (6 - (j + 1)) = 6 by omega] at hm
    have hm : cnS Cs S j + (cnC Cs S j 8 + 6) ≤ cnS Cs S 6 := hm
    have hrb := rC_b (Cs := Cs) (S := S) (j := j) 8
    generalize hr : lyS Ns Cs S ((vs, 0), st, sa, 1) j = r at *
    obtain ⟨q, st1, sa1, co⟩ := r
    simp only at e1 l2 l3 hat hc
    subst e1
    obtain ⟨R1, f1, m1⟩ := lyC_app (Cs := Cs) (S := S) (j := j) l1 (by omega) 8 (Nat.le_refl _)
    obtain ⟨R2, f2, m2⟩ := lyK_app (Ns := Ns) (j := j) m1 hv (by omega)
    have hkb := rKn_b (j := j) (W := rC Cs S j 8) hv
    have e0 : lyS Ns Cs S ((vs, 0), st, sa, 1) (j + 1) = lyN Ns Cs S j ((rws Ns Cs S j ++ R, (rws Ns Cs S j).length), st1, sa1, co) := by
      show lyN Ns Cs S j (lyS Ns Cs S ((vs, 0), st, sa, 1) j) = _
      rw [hr]
    rw [e0]
    have hlm : lyM (rws Ns Cs S j).length ((rws Ns Cs S j).length + (rC Cs S j 8).length) ((rws Ns Cs S j).length + (row Ns Cs S j).length) = smN (row Ns Cs S j) := by
      unfold lyM smN
      by_cases hz : rC Cs S j 8 = []
      · rw [if_neg (by rw [hz]; exact Nat.lt_irrefl _), if_pos (hkb.2.2.mpr hz)]
      · have hp : 0 < (rC Cs S j 8).length := List.length_pos_iff.mpr hz
        rw [if_pos (by omega), if_neg (fun z => hz (hkb.2.2.mp z)), Nat.add_sub_cancel_left]
    have hN : lyN Ns Cs S j ((rws Ns Cs S j ++ R, (rws Ns Cs S j).length), st1, sa1, co) = ((rws Ns Cs S j ++ (row Ns Cs S j ++ R2), (rws Ns Cs S j).length + (row Ns Cs S j).length), st1.set j (rws Ns Cs S j).length, sa1.set j (smN (row Ns Cs S j)), min (co * smN (row Ns Cs S j)) 20001) := by
      unfold lyN
      simp only
      rw [f1, f2, hlm]
    rw [hN]
    refine ⟨⟨⟨R2, ?_, ?_⟩, ?_, ?_, fun i hi => ?_, ?_⟩, ?_⟩
    · show (rws Ns Cs S j ++ (row Ns Cs S j ++ R2), (rws Ns Cs S j).length + (row Ns Cs S j).length) = ((rws Ns Cs S j ++ row Ns Cs S j) ++ R2, (rws Ns Cs S j ++ row Ns Cs S j).length)
      rw [List.append_assoc, List.length_append]
    · show ((rws Ns Cs S j ++ row Ns Cs S j) ++ R2).length = 356
      rw [List.append_assoc]
      exact m2
    · show (st1.set j _).length = 6
      rw [List.length_set]; exact l2
    · show (sa1.set j _).length = 6
      rw [List.length_set]; exact l3
    · show (st1.set j (rws Ns Cs S j).length).getD i 0 = _ ∧ (sa1.set j (smN (row Ns Cs S j))).getD i 0 = _
      rw [getD_set (by omega), getD_set (by omega)]
      by_cases e : i = j
      · rw [if_pos e, if_pos e, e]
        exact ⟨rfl, rfl⟩
      · rw [if_neg e, if_neg e]
        exact hat i (by omega)
    · show min (co * smN (row Ns Cs S j)) 20001 = min (pdN Ns Cs S j * smN (row Ns Cs S j)) 20001
      rw [hc]
      have h1 := smN_1 (W := row Ns Cs S j)
      generalize smN (row Ns Cs S j) = m at h1
      generalize pdN Ns Cs S j = P
      by_cases hP : P ≤ 20001
      · rw [Nat.min_eq_left hP]
      · have a1 : P ≤ P * m := Nat.le_mul_of_pos_right P h1
        have a2 : 20001 ≤ 20001 * m := Nat.le_mul_of_pos_right 20001 h1
        rw [Nat.min_eq_right (show 20001 ≤ P by omega), Nat.min_eq_right a2, Nat.min_eq_right (by omega)]
    · show (rws Ns Cs S j ++ row Ns Cs S j).length ≤ cnS Cs S j + (cnC Cs S j 8 + 6)
      rw [List.length_append]
      have := hkb.2.1
      show (rws Ns Cs S j).length + (rKn Ns j (rC Cs S j 8)).length ≤ _
      omega
/-- a name's row among all -/
theorem rws_split {Ns : List NmT} {Cs : List CnT} {S j : Nat} : ∀ k : Nat, ∃ X, rws Ns Cs S (j + 1 + k) = rws Ns Cs S j ++ (row Ns Cs S j ++ X) := by
  intro k
  induction k with
  | zero => exact ⟨[], by rw [List.append_nil]; rfl⟩
  | succ k ih =>
    obtain ⟨X, e⟩ := ih
    refine ⟨X ++ row Ns Cs S (j + 1 + k), ?_⟩
    show rws Ns Cs S (j + 1 + k) ++ row Ns Cs S (j + 1 + k) = _
    rw [e]
    simp only [List.append_assoc]
/-- the level of a name's pick -/
theorem lvF_row {Ns : List NmT} {Cs : List CnT} {S j : Nat} {r : LyT} {pk : List Nat} (hr : lyW Ns Cs S 6 r) (hj : j < 6) (hp : pk.getD j 0 < smN (row Ns Cs S j)) : lvF r.1.1 r.1.2 r.2.1 pk j = lvS (row Ns Cs S j) (pk.getD j 0) := by
  obtain ⟨⟨R, e1, l1⟩, -, -, hat, -⟩ := hr
  obtain ⟨X, hX⟩ := rws_split (Ns := Ns) (Cs := Cs) (S := S) (j := j) (6 - (j + 1))
  rw [show j + 1 + (6 - (j + 1)) = 6 by omega] at hX
  show lop r.1.1 r.1.2 (r.2.1.getD j 0) (pk.getD j 0) = _
  rw [(hat j hj).1, e1]
  show lop (rws Ns Cs S 6 ++ R) (rws Ns Cs S 6).length (rws Ns Cs S j).length (pk.getD j 0) = _
  generalize pk.getD j 0 = p at hp ⊢
  generalize hW : row Ns Cs S j = W at *
  unfold lop lvS
  by_cases h0 : p = 0
  · rw [if_pos (Or.inl h0), if_pos h0]
  · unfold smN at hp
    have hne : ¬ W = [] := fun e => by rw [if_pos e] at hp; omega
    rw [if_neg hne] at hp
    have hk : p / 2 - 1 < W.length := by
      have : 0 < W.length := List.length_pos_iff.mpr hne
      omega
    have hg : (rws Ns Cs S 6 ++ R).getD ((rws Ns Cs S j).length + (p / 2 - 1)) 0 = W.getD (p / 2 - 1) 0 := by
      rw [hX]
      rw [show rws Ns Cs S j ++ (W ++ X) ++ R = rws Ns Cs S j ++ (W ++ (X ++ R)) by simp only [List.append_assoc]]
      exact app_at hk
    have hlen : (rws Ns Cs S 6).length = (rws Ns Cs S j).length + (W.length + X.length) := by rw [hX, List.length_append, List.length_append]
    rw [if_neg (fun z => z.elim h0 (fun q => by omega)), if_neg h0, hg]
    by_cases h1 : p = 1
    · rw [if_pos h1, if_pos h1, h1]
    · rw [if_neg h1, if_neg h1]
end RI2
