section

end
section RH16
variable {l : Launch} {G : XG} {h : XH} {c n d : Nat} {o : Nat} {rf : Nat → Nat} {S : MS}
theorem vsT_len : ∀ ws : List (List Nat), (vsT ws).length ≤ wU ws := by
  intro ws
  induction ws with
  | nil => exact Nat.le_refl _
  | cons u ws ih =>
    cases ws with
    | nil =>
      show (39 :: (u ++ [39])).length ≤ (u.length + 4) + 0
      simp
    | cons b r =>
      rw [vsT_more (u := u) (ws := b :: r) (by simp)]
      show _ ≤ (u.length + 4) + wU (b :: r)
      simp only [List.length_append, List.length_cons, List.length_nil]
      omega
theorem brk_le2 {b : Bool} {t : List Nat} : (brk b t).length ≤ t.length + 2 := by
  unfold brk
  cases b
  · show t.length ≤ _; omega
  · show (40 :: t ++ [41]).length ≤ _
    simp
theorem sgL_len {op : Int} (h0 : 0 ≤ op) (h6 : op ≤ 6) : (op = 6 ∧ (sgL op).length = 5) ∨ (op ≠ 6 ∧ (sgL op).length ≤ 4) := by
  unfold sgL
  by_cases e0 : op = 0
  · rw [if_pos e0]; exact Or.inr ⟨by omega, by decide⟩
  by_cases e1 : op = 1
  · rw [if_neg e0, if_pos e1]; exact Or.inr ⟨by omega, by decide⟩
  by_cases e2 : op = 2
  · rw [if_neg e0, if_neg e1, if_pos e2]; exact Or.inr ⟨by omega, by decide⟩
  by_cases e3 : op = 3
  · rw [if_neg e0, if_neg e1, if_neg e2, if_pos e3]; exact Or.inr ⟨by omega, by decide⟩
  by_cases e4 : op = 4
  · rw [if_neg e0, if_neg e1, if_neg e2, if_neg e3, if_pos e4]; exact Or.inr ⟨by omega, by decide⟩
  by_cases e5 : op = 5
  · rw [if_neg e0, if_neg e1, if_neg e2, if_neg e3, if_neg e4, if_pos e5]; exact Or.inr ⟨by omega, by decide⟩
  rw [if_neg e0, if_neg e1, if_neg e2, if_neg e3, if_neg e4, if_neg e5]
  exact Or.inl ⟨by omega, rfl⟩
theorem tsR.w {Ns : List NmT} {s q : Int} {x : TsT} (hN : nmR Ns S) (hx : tsR Ns S s q x) : ((x.2.2.2.length : Nat) : Int) ≤ tW S q := by
  obtain ⟨nm, ws, g1, g2, g3, g4, ⟨g5, g6⟩, g7, g8, g10, g11⟩ := hx
  have m4 := (hN.2 _ nm g1).2.2.2.1
  have hv := vsT_len ws
  have hall := g10.all
  unfold tW
  rw [if_neg (by omega), g5, Int.toNat_natCast, hall, g11]
  simp only [List.length_append]
  rcases sgL_len g3.1 g3.2 with ⟨e, hs⟩ | ⟨e, hs⟩
  · rw [if_pos e, if_pos e, hs]
    simp only [List.length_cons, List.length_nil]
    omega
  · rw [if_neg e, if_neg e]
    simp only [List.length_nil]
    omega
/-- a node's text is no broader than its weight -/
theorem dn_w {s : Int} {Ns : List NmT} {dn : Int → Den} {tx : Int → Option TsT} {w : Int → Int} {N T V : Int} (hs : 0 ≤ s) (hN : nmR Ns S) (hsl : slR Ns S s dn tx) (hp : ptOk S s N T V w) (eN : N = gd (S.2.1 15) s) (eT : T = gd (S.2.1 21) s) : ∀ (k : Nat) (n : Int), (n - 128 * s).toNat < k → 128 * s ≤ n → n < 128 * s + N → (((dn n).2.2.length : Nat) : Int) ≤ w n := by
  obtain ⟨p1, p2, p3, p4, p5, p6, p7, p8, p9, p10⟩ := hp
  intro k
  induction k with
  | zero => intro n hk; exact absurd hk (Nat.not_lt_zero _)
  | succ k ih =>
    intro n hk h1 h2
    have hnd := (p7 n h1 h2).2
    have hndl := hsl.2.1 n h1 (by omega)
    rcases hnd with ⟨k0, t1, t2, t3⟩ | ⟨k0, r1, r2, r3⟩ | ⟨k0, a1, a2, r1, r2⟩
    · rcases hndl with ⟨-, -, ⟨z1, z2⟩ | ⟨x, z1, z2⟩⟩ | ⟨z, -⟩ | ⟨⟨z, -⟩ | ⟨z, -⟩, -⟩
      · rw [z2]
        have hop : 6 < gd (S.2.1 18) (gd (S.2.1 13) n) := by
          rcases hsl.2.2.1 _ t1 (by omega) with ⟨-, y, -⟩ | ⟨x, y, -⟩
          · omega
          · rw [z1] at y; cases y
        have e : tW S (gd (S.2.1 13) n) = 5 := if_pos hop
        have hc5 : (dCon (decide (gd (S.2.1 18) (gd (S.2.1 13) n) = 7))).2.2.length ≤ 5 := by
          cases decide (gd (S.2.1 18) (gd (S.2.1 13) n) = 7) <;> decide
        omega
      · rw [z2]
        rcases hsl.2.2.1 _ t1 (by omega) with ⟨y, -⟩ | ⟨x', y, y2⟩
        · rw [z1] at y; cases y
        · rw [z1] at y
          cases y
          have := y2.w hN
          show ((x.2.2.2.length : Nat) : Int) ≤ w n
          omega
      · omega
      · omega
      · omega
    · have e := ih _ (by omega) r1 (by omega)
      rcases hndl with ⟨z, -⟩ | ⟨-, -, z⟩ | ⟨⟨z, -⟩ | ⟨z, -⟩, -⟩
      · omega
      · rw [z]
        show (((xtx 28 ++ brk (decide ((dn (gd (S.2.1 14) n)).1 < 3)) (dn (gd (S.2.1 14) n)).2.2).length : Nat) : Int) ≤ w n
        rw [e_nt, List.length_append]
        have hb := brk_le2 (b := decide ((dn (gd (S.2.1 14) n)).1 < 3)) (t := (dn (gd (S.2.1 14) n)).2.2)
        simp only [List.length_cons, List.length_nil]
        omega
      · omega
      · omega
    · have el := ih _ (by omega) a1 (by omega)
      have er := ih _ (by omega) r1 (by omega)
      rcases hndl with ⟨z, -⟩ | ⟨z, -⟩ | ⟨⟨z, zd⟩ | ⟨z, zd⟩, -⟩
      · omega
      · omega
      · rw [zd]
        show (((brk (decide ((dn (gd (S.2.1 13) n)).1 < 2)) (dn (gd (S.2.1 13) n)).2.2 ++ xtx 30 ++ brk (decide ((dn (gd (S.2.1 14) n)).1 ≤ 2)) (dn (gd (S.2.1 14) n)).2.2).length : Nat) : Int) ≤ w n
        rw [e_ja, List.length_append, List.length_append]
        have b1 := brk_le2 (b := decide ((dn (gd (S.2.1 13) n)).1 < 2)) (t := (dn (gd (S.2.1 13) n)).2.2)
        have b2 := brk_le2 (b := decide ((dn (gd (S.2.1 14) n)).1 ≤ 2)) (t := (dn (gd (S.2.1 14) n)).2.2)
        simp only [List.length_cons, List.length_nil]
        omega
      · rw [zd]
        have hkl := nd_kind (hsl.2.1 (gd (S.2.1 13) n) a1 (by omega))
        show (((brk (decide ((dn (gd (S.2.1 13) n)).1 < 1)) (dn (gd (S.2.1 13) n)).2.2 ++ xtx 29 ++ brk (decide ((dn (gd (S.2.1 14) n)).1 ≤ 1)) (dn (gd (S.2.1 14) n)).2.2).length : Nat) : Int) ≤ w n
        rw [e_jo, decide_eq_false (show ¬ (dn (gd (S.2.1 13) n)).1 < 1 by omega), List.length_append, List.length_append]
        have b2 := brk_le2 (b := decide ((dn (gd (S.2.1 14) n)).1 ≤ 1)) (t := (dn (gd (S.2.1 14) n)).2.2)
        have b1 : (brk false (dn (gd (S.2.1 13) n)).2.2).length = (dn (gd (S.2.1 13) n)).2.2.length := rfl
        simp only [List.length_cons, List.length_nil]
        omega
theorem cqR.len {Ns : List NmT} {Cs : List CnT} {il : Option Nat} (hQ : cqR Ns Cs il S) (hC : csOk S) (hN : nmR Ns S) : ∀ x ∈ Cs, x.1.2.2.length ≤ 560 := fun x hx => by
  obtain ⟨i, hi, e⟩ := List.getElem_of_mem hx
  have h1 := hQ.1
  obtain ⟨dn, tx, hsl, hD, hb, -⟩ := hQ.2.2.2 i x (by rw [List.getElem?_eq_getElem hi, e])
  obtain ⟨w, hp, q1, q2, q3⟩ := hC.2.2 (i : Nat) (by omega) (by omega)
  have := dn_w (by omega) hN hsl hp rfl rfl 200 (gd (S.2.1 16) (i : Nat)) (by have := hp.2.1; omega) q1 q2
  rw [hD]
  omega
end RH16
