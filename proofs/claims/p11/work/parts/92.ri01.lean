section

end
section RI1
/-- a VALUE's place in a row -/
def lob (v : Nat) : List Nat → Nat
  | [] => 0
  | x :: r => if x < v then lob v r + 1 else 0
theorem lob_le {v : Nat} : ∀ W : List Nat, lob v W ≤ W.length := by
  intro W
  induction W with
  | nil => exact Nat.le_refl _
  | cons x W ih =>
    rw [List.length_cons]
    by_cases hx : x < v
    · rw [show lob v (x :: W) = lob v W + 1 from if_pos hx]
      omega
    · rw [show lob v (x :: W) = 0 from if_neg hx]
      omega
theorem lob_lt {v : Nat} : ∀ (W : List Nat) (i : Nat), i < lob v W → W.getD i 0 < v := by
  intro W
  induction W with
  | nil => intro i hi; exact absurd hi (Nat.not_lt_zero _)
  | cons x W ih =>
    intro i hi
    by_cases hx : x < v
    · rw [show lob v (x :: W) = lob v W + 1 from if_pos hx] at hi
      cases i with
      | zero => exact hx
      | succ i => exact ih i (by omega)
    · rw [show lob v (x :: W) = 0 from if_neg hx] at hi
      omega
theorem lob_ge {v : Nat} : ∀ W : List Nat, lob v W < W.length → ¬ W.getD (lob v W) 0 < v := by
  intro W
  induction W with
  | nil => intro hi; exact absurd hi (Nat.not_lt_zero _)
  | cons x W ih =>
    intro hi
    rw [List.length_cons] at hi
    by_cases hx : x < v
    · rw [show lob v (x :: W) = lob v W + 1 from if_pos hx] at hi ⊢
      exact ih (by omega)
    · rw [show lob v (x :: W) = 0 from if_neg hx]
      exact hx
theorem lob_eq {v k : Nat} {W : List Nat} (hk : k ≤ W.length) (h1 : ∀ i, i < k → W.getD i 0 < v) (h2 : k < W.length → ¬ W.getD k 0 < v) : k = lob v W := by
  have hl := lob_le (v := v) W
  by_cases h : k < lob v W
  · exact absurd (lob_lt W k h) (h2 (by omega))
  · by_cases h' : lob v W < k
    · exact absurd (h1 _ h') (lob_ge W (by omega))
    · omega
/-- a VALUE put into its place, if it isn't there -/
def ins (v : Nat) (W : List Nat) : List Nat := if lob v W < W.length ∧ W.getD (lob v W) 0 = v then W else W.take (lob v W) ++ v :: W.drop (lob v W)
theorem td_at {W : List Nat} {p v i : Nat} (hp : p ≤ W.length) : (W.take p ++ v :: W.drop p).getD i 0 = if i < p then W.getD i 0 else if i = p then v else W.getD (i - 1) 0 := by
  simp only [List.getD_eq_getElem?_getD]
  have hl : (W.take p).length = p := by rw [List.length_take]; omega
  by_cases h1 : i < p
  · rw [if_pos h1, List.getElem?_append_left (by omega), List.getElem?_take, if_pos h1]
  · rw [if_neg h1, List.getElem?_append_right (by omega), hl]
    by_cases h2 : i = p
    · rw [if_pos h2, h2, Nat.sub_self]
      rfl
    · rw [if_neg h2]
      obtain ⟨k, hk⟩ : ∃ k, i - p = k + 1 := ⟨i - p - 1, by omega⟩
      rw [hk, List.getElem?_cons_succ, List.getElem?_drop, show p + k = i - 1 by omega]
theorem td_len {W : List Nat} {p v : Nat} (hp : p ≤ W.length) : (W.take p ++ v :: W.drop p).length = W.length + 1 := by
  rw [List.length_append, List.length_take, List.length_cons, List.length_drop]
  omega
theorem ins_b {v : Nat} {W : List Nat} : W.length ≤ (ins v W).length ∧ (ins v W).length ≤ W.length + 1 ∧ 1 ≤ (ins v W).length := by
  unfold ins
  split
  · rename_i h
    omega
  · rw [td_len (lob_le W)]
    omega
theorem ins_ne {v : Nat} {W : List Nat} : ins v W ≠ [] := fun e => by
  have := (ins_b (v := v) (W := W)).2.2
  rw [e] at this
  exact absurd this (by decide)
theorem ins_mem {v x : Nat} {W : List Nat} (hx : x = v ∨ x ∈ W) : x ∈ ins v W := by
  unfold ins
  split
  · rename_i h
    rcases hx with rfl | hx
    · rw [← h.2, List.getD_eq_getElem?_getD, List.getElem?_eq_getElem h.1]
      exact List.getElem_mem h.1
    · exact hx
  · rcases hx with rfl | hx
    · exact List.mem_append_right _ List.mem_cons_self
    · rw [← List.take_append_drop (lob v W) W] at hx
      rcases List.mem_append.mp hx with q | q
      · exact List.mem_append_left _ q
      · exact List.mem_append_right _ (List.mem_cons_of_mem _ q)
theorem mem_ins {v x : Nat} {W : List Nat} (hx : x ∈ ins v W) : x = v ∨ x ∈ W := by
  unfold ins at hx
  split at hx
  · exact Or.inr hx
  · rcases List.mem_append.mp hx with q | q
    · exact Or.inr (List.mem_of_mem_take q)
    · rcases List.mem_cons.mp q with q | q
      · exact Or.inl q
      · exact Or.inr (List.mem_of_mem_drop q)
/-- a row rises -/
def srt (W : List Nat) : Prop := ∀ i j : Nat, i < j → j < W.length → W.getD i 0 < W.getD j 0
theorem srt_0 : srt [] := fun i j _ h => absurd h (Nat.not_lt_zero _)
theorem srt.put {v : Nat} {W : List Nat} (hs : srt W) : srt (ins v W) := by
  show srt (if lob v W < W.length ∧ W.getD (lob v W) 0 = v then W else W.take (lob v W) ++ v :: W.drop (lob v W))
  split
  · exact hs
  · rename_i h
    have hp := lob_le (v := v) W
    intro i j hij hj
    rw [td_len hp] at hj
    rw [td_at hp, td_at hp]
    have hge : ∀ k : Nat, lob v W ≤ k → k < W.length → v < W.getD k 0 := by
      intro k h1 h2
      have h3 := lob_ge (v := v) W (by omega)
      have h4 : W.getD (lob v W) 0 ≠ v := fun e => h ⟨by omega, e⟩
      by_cases e : k = lob v W
      · rw [e]; omega
      · have := hs (lob v W) k (by omega) h2
        omega
    by_cases h1 : i < lob v W
    · rw [if_pos h1]
      have := lob_lt W i h1
      by_cases h2 : j < lob v W
      · rw [if_pos h2]
        exact hs i j hij (by omega)
      · rw [if_neg h2]
        by_cases h3 : j = lob v W
        · rw [if_pos h3]; exact this
        · rw [if_neg h3]
          have := hge (j - 1) (by omega) (by omega)
          omega
    · rw [if_neg h1, if_neg (show ¬ j < lob v W by omega), if_neg (show ¬ j = lob v W by omega)]
      by_cases h3 : i = lob v W
      · rw [if_pos h3]
        exact hge (j - 1) (by omega) (by omega)
      · rw [if_neg h3]
        exact hs (i - 1) (j - 1) (by omega) (by omega)
/-- levels are even, and none is 0 -/
def evn (W : List Nat) : Prop := ∀ x ∈ W, x % 2 = 0 ∧ 2 ≤ x
theorem evn_0 : evn [] := fun x hx => by cases hx
theorem evn.put {v : Nat} {W : List Nat} (h : evn W) (hv : v % 2 = 0 ∧ 2 ≤ v) : evn (ins v W) := fun x hx => (mem_ins hx).elim (fun e => by rw [e]; exact hv) (h x)
/-- VALUES put into a row -/
def insL (ws : List Nat) (W : List Nat) : List Nat := ws.foldl (fun W v => ins v W) W
theorem insL_snoc {ws : List Nat} {v : Nat} {W : List Nat} : insL (ws ++ [v]) W = ins v (insL ws W) := by
  unfold insL
  rw [List.foldl_append]
  rfl
theorem insL_b {ws : List Nat} : ∀ {W : List Nat}, W.length ≤ (insL ws W).length ∧ (insL ws W).length ≤ W.length + ws.length ∧ (ws ≠ [] → insL ws W ≠ []) := by
  induction ws with
  | nil => intro W; exact ⟨Nat.le_refl _, Nat.le_refl _, fun h => absurd rfl h⟩
  | cons v ws ih =>
    intro W
    obtain ⟨a1, a2, a3⟩ := ins_b (v := v) (W := W)
    obtain ⟨b1, b2, b3⟩ := ih (W := ins v W)
    have e : insL (v :: ws) W = insL ws (ins v W) := rfl
    rw [e, List.length_cons]
    refine ⟨by omega, by omega, fun _ z => ?_⟩
    rw [z] at b1
    simp at b1
    exact ins_ne b1
theorem insL_mem {x : Nat} {ws : List Nat} : ∀ {W : List Nat}, (x ∈ ws ∨ x ∈ W) → x ∈ insL ws W := by
  induction ws with
  | nil => intro W h; exact h.elim (fun z => by cases z) id
  | cons v ws ih =>
    intro W h
    show x ∈ insL ws (ins v W)
    rcases h with h | h
    · rcases List.mem_cons.mp h with h | h
      · exact ih (Or.inr (ins_mem (Or.inl h)))
      · exact ih (Or.inl h)
    · exact ih (Or.inr (ins_mem (Or.inr h)))
theorem srt.putL {ws : List Nat} : ∀ {W : List Nat}, srt W → srt (insL ws W) := by
  induction ws with
  | nil => intro W h; exact h
  | cons v ws ih =>
    intro W h
    show srt (insL ws (ins v W))
    exact ih h.put
theorem evn.putL {ws : List Nat} : ∀ {W : List Nat}, evn W → evn ws → evn (insL ws W) := by
  induction ws with
  | nil => intro W h _; exact h
  | cons v ws ih =>
    intro W h hv
    show evn (insL ws (ins v W))
    exact ih (h.put (hv v List.mem_cons_self)) (fun x hx => hv x (List.mem_cons_of_mem _ hx))
/-- those of the tests of a name -/
def insT (j : Nat) (ts : List TsT) (W : List Nat) : List Nat := ts.foldl (fun W t => if t.1 = j then insL t.2.2.1 W else W) W
theorem insT_app {j : Nat} {ts us : List TsT} {W : List Nat} : insT j (ts ++ us) W = insT j us (insT j ts W) := by
  unfold insT
  rw [List.foldl_append]
theorem insT_1 {j : Nat} {t : TsT} {W : List Nat} : insT j [t] W = if t.1 = j then insL t.2.2.1 W else W := rfl
theorem insT_cons {j : Nat} {t : TsT} {ts : List TsT} {W : List Nat} : insT j (t :: ts) W = insT j ts (if t.1 = j then insL t.2.2.1 W else W) := rfl
/-- how many they are -/
def cnT (j : Nat) : List TsT → Nat
  | [] => 0
  | t :: ts => (if t.1 = j then t.2.2.1.length else 0) + cnT j ts
theorem insT_b {j : Nat} {ts : List TsT} : ∀ {W : List Nat}, W.length ≤ (insT j ts W).length ∧ (insT j ts W).length ≤ W.length + cnT j ts := by
  induction ts with
  | nil => intro W; exact ⟨Nat.le_refl _, Nat.le_refl _⟩
  | cons t ts ih =>
    intro W
    rw [insT_cons]
    show _ ∧ _ ≤ W.length + ((if t.1 = j then t.2.2.1.length else 0) + cnT j ts)
    by_cases h : t.1 = j
    · rw [if_pos h, if_pos h]
      have a := insL_b (ws := t.2.2.1) (W := W)
      have b := ih (W := insL t.2.2.1 W)
      omega
    · rw [if_neg h, if_neg h]
      have b := ih (W := W)
      omega
theorem insT_mem {j x : Nat} {ts : List TsT} : ∀ {W : List Nat}, (x ∈ W ∨ ∃ t ∈ ts, t.1 = j ∧ x ∈ t.2.2.1) → x ∈ insT j ts W := by
  induction ts with
  | nil => intro W h; exact h.elim id (fun ⟨t, ht, _⟩ => by cases ht)
  | cons t ts ih =>
    intro W h
    rw [insT_cons]
    rcases h with h | ⟨u, hu, h1, h2⟩
    · refine ih (Or.inl ?_)
      split
      · exact insL_mem (Or.inr h)
      · exact h
    · rcases List.mem_cons.mp hu with rfl | hu
      · rw [if_pos h1]
        exact ih (Or.inl (insL_mem (Or.inl h2)))
      · exact ih (Or.inr ⟨u, hu, h1, h2⟩)
theorem srt.putT {j : Nat} {ts : List TsT} : ∀ {W : List Nat}, srt W → srt (insT j ts W) := by
  induction ts with
  | nil => intro W h; exact h
  | cons t ts ih =>
    intro W h
    rw [insT_cons]
    apply ih
    split
    · exact h.putL
    · exact h
theorem evn.putT {j : Nat} {ts : List TsT} : ∀ {W : List Nat}, evn W → (∀ t ∈ ts, evn t.2.2.1) → evn (insT j ts W) := by
  induction ts with
  | nil => intro W h _; exact h
  | cons t ts ih =>
    intro W h hv
    rw [insT_cons]
    refine ih ?_ (fun u hu => hv u (List.mem_cons_of_mem _ hu))
    split
    · exact h.putL (hv t List.mem_cons_self)
    · exact h
/-- the row of a name out of the tests of a set -/
def rC (Cs : List CnT) (S j : Nat) : Nat → List Nat
  | 0 => []
  | i + 1 => if S.testBit i then (match Cs[i]? with
    | some D => insT j D.2 (rC Cs S j i)
    | none => rC Cs S j i) else rC Cs S j i
def cnC (Cs : List CnT) (S j : Nat) : Nat → Nat
  | 0 => 0
  | i + 1 => if S.testBit i then (match Cs[i]? with
    | some D => cnC Cs S j i + cnT j D.2
    | none => cnC Cs S j i) else cnC Cs S j i
/-- and with the known ones -/
def rKn (Ns : List NmT) (j : Nat) (W : List Nat) : List Nat := if W = [] then W else match Ns[j]? with
  | some x => insL x.2.2 W
  | none => W
abbrev row (Ns : List NmT) (Cs : List CnT) (S j : Nat) : List Nat := rKn Ns j (rC Cs S j 8)
theorem rC_b {Cs : List CnT} {S j : Nat} : ∀ i, (rC Cs S j i).length ≤ cnC Cs S j i := by
  intro i
  induction i with
  | zero => exact Nat.le_refl _
  | succ i ih =>
    unfold rC cnC
    split
    · split
      · rename_i D hD
        have := insT_b (j := j) (ts := D.2) (W := rC Cs S j i)
        omega
      · exact ih
    · exact ih
theorem rC_ok {Cs : List CnT} {S j : Nat} (hv : ∀ D ∈ Cs, ∀ t ∈ D.2, evn t.2.2.1) : ∀ i, srt (rC Cs S j i) ∧ evn (rC Cs S j i) := by
  intro i
  induction i with
  | zero => exact ⟨srt_0, evn_0⟩
  | succ i ih =>
    unfold rC
    split
    · split
      · rename_i D hD
        exact ⟨ih.1.putT, ih.2.putT (hv D (List.mem_of_getElem? hD))⟩
      · exact ih
    · exact ih
theorem rKn_ok {Ns : List NmT} {j : Nat} {W : List Nat} (hv : ∀ x ∈ Ns, evn x.2.2) (h : srt W ∧ evn W) : srt (rKn Ns j W) ∧ evn (rKn Ns j W) := by
  unfold rKn
  split
  · exact h
  · split
    · rename_i x hx
      exact ⟨h.1.putL, h.2.putL (hv x (List.mem_of_getElem? hx))⟩
    · exact h
theorem rKn_b {Ns : List NmT} {j : Nat} {W : List Nat} (hv : ∀ x ∈ Ns, x.2.2.length ≤ 6) : W.length ≤ (rKn Ns j W).length ∧ (rKn Ns j W).length ≤ W.length + 6 ∧ (rKn Ns j W = [] ↔ W = []) := by
  have key : ∀ V : List Nat, W.length ≤ V.length → (W = [] → V = []) → (V = [] ↔ W = []) := fun V h1 h2 => ⟨fun e => by rw [e] at h1; exact List.length_eq_zero_iff.mp (by simpa using h1), h2⟩
  unfold rKn
  split
  · exact ⟨Nat.le_refl _, by omega, Iff.rfl⟩
  · rename_i hne
    split
    · rename_i x hx
      have a := insL_b (ws := x.2.2) (W := W)
      have b := hv x (List.mem_of_getElem? hx)
      exact ⟨a.1, by omega, key _ a.1 (fun e => absurd e hne)⟩
    · exact ⟨Nat.le_refl _, by omega, Iff.rfl⟩
/-- how many SAMPLES a row makes -/
def smN (W : List Nat) : Nat := if W = [] then 1 else 2 * W.length + 2
theorem smN_1 {W : List Nat} : 1 ≤ smN W := by
  unfold smN
  split <;> omega
/-- the level of a SAMPLE -/
def lvS (W : List Nat) (pk : Nat) : Nat := if pk = 0 then 0 else if pk = 1 then W.getD 0 0 - 1 else W.getD (pk / 2 - 1) 0 + pk % 2
theorem evn.at {W : List Nat} (he : evn W) {i : Nat} (hi : i < W.length) : W.getD i 0 % 2 = 0 ∧ 2 ≤ W.getD i 0 := by
  rw [List.getD_eq_getElem?_getD, List.getElem?_eq_getElem hi]
  exact he _ (List.getElem_mem hi)
theorem lvS_ord {W : List Nat} {pk i : Nat} (hs : srt W) (he : evn W) (h1 : 1 ≤ pk) (h2 : pk < smN W) (hi : i < W.length) : lvS W pk ≠ 0 ∧ (lvS W pk < W.getD i 0 ↔ pk < 2 * i + 2) ∧ (lvS W pk = W.getD i 0 ↔ pk = 2 * i + 2) := by
  have hne : ¬ W = [] := fun e => by rw [e] at hi; exact absurd hi (Nat.not_lt_zero _)
  unfold smN at h2
  rw [if_neg hne] at h2
  have ei := he.at hi
  unfold lvS
  rw [if_neg (by omega)]
  by_cases hp : pk = 1
  · rw [if_pos hp]
    have e0 := he.at (show 0 < W.length by omega)
    have hle : W.getD 0 0 ≤ W.getD i 0 := by
      by_cases z : i = 0
      · rw [z]; exact Nat.le_refl _
      · have := hs 0 i (by omega) hi
        omega
    refine ⟨by omega, ⟨fun _ => by omega, fun _ => by omega⟩, ⟨fun _ => by omega, fun _ => by omega⟩⟩
  · rw [if_neg hp]
    have hk : pk / 2 - 1 < W.length := by omega
    have ek := he.at hk
    by_cases c1 : pk / 2 - 1 < i
    · have := hs _ _ c1 hi
      refine ⟨by omega, ⟨fun _ => by omega, fun _ => by omega⟩, ⟨fun _ => by omega, fun _ => by omega⟩⟩
    · by_cases c2 : pk / 2 - 1 = i
      · rw [c2] at ek ⊢
        refine ⟨by omega, ⟨fun _ => by omega, fun _ => by omega⟩, ⟨fun _ => by omega, fun _ => by omega⟩⟩
      · have := hs i (pk / 2 - 1) (by omega) hk
        refine ⟨by omega, ⟨fun _ => by omega, fun _ => by omega⟩, ⟨fun _ => by omega, fun _ => by omega⟩⟩
end RI1
