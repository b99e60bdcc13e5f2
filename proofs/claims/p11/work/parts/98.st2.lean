section

end
section START2
/-- what is fixed: where each String stands, and what stays -/
noncomputable def stK (ad : Nat → Nat × Nat) (b L : Nat) (xs : Nat → Int32) (ea : Nat) : XH := fun a =>
  match Classical.propDecidable (∃ i, i < xnstr ∧ a = (ad i).1) with
  | .isTrue h => some (k_String, [.ref (ad (Classical.choose h)).2, .int 0])
  | .isFalse _ => match Classical.propDecidable (∃ i, i < xnstr ∧ a = (ad i).2) with
    | .isTrue h => some (k_asbyte, xby (xtx (Classical.choose h)))
    | .isFalse _ => if a = b then some (k_aint, (List.range L).map (fun i => .int (xs i))) else if a = ea then some (k_aObject, []) else none
theorem stK_1 {ad : Nat → Nat × Nat} {b L ea i : Nat} {xs : Nat → Int32} (hi : i < xnstr) : ∃ j, j < xnstr ∧ (ad i).1 = (ad j).1 ∧ stK ad b L xs ea (ad i).1 = some (k_String, [.ref (ad j).2, .int 0]) := by
  unfold stK
  split
  · rename_i h _
    exact ⟨Classical.choose h, (Classical.choose_spec h).1, (Classical.choose_spec h).2, rfl⟩
  · rename_i h _
    exact absurd ⟨i, hi, rfl⟩ h
theorem stK_2 {ad : Nat → Nat × Nat} {b L ea i : Nat} {xs : Nat → Int32} (hi : i < xnstr) (hn : ∀ j, j < xnstr → (ad i).2 ≠ (ad j).1) : ∃ j, j < xnstr ∧ (ad i).2 = (ad j).2 ∧ stK ad b L xs ea (ad i).2 = some (k_asbyte, xby (xtx j)) := by
  unfold stK
  split
  · rename_i h _
    obtain ⟨j, h1, h2⟩ := h
    exact absurd h2 (hn j h1)
  · split
    · rename_i h _
      exact ⟨Classical.choose h, (Classical.choose_spec h).1, (Classical.choose_spec h).2, rfl⟩
    · rename_i h _
      exact absurd ⟨i, hi, rfl⟩ h
theorem stK_3 {ad : Nat → Nat × Nat} {b L ea a : Nat} {xs : Nat → Int32} (h1 : ∀ j, j < xnstr → a ≠ (ad j).1) (h2 : ∀ j, j < xnstr → a ≠ (ad j).2) : stK ad b L xs ea a = if a = b then some (k_aint, (List.range L).map (fun i => .int (xs i))) else if a = ea then some (k_aObject, []) else none := by
  unfold stK
  split
  · rename_i h _
    obtain ⟨j, h3, h4⟩ := h
    exact absurd h4 (h1 j h3)
  · split
    · rename_i h _
      obtain ⟨j, h3, h4⟩ := h
      exact absurd h4 (h2 j h3)
    · rfl
theorem stK_or {ad : Nat → Nat × Nat} {b L ea a : Nat} {xs : Nat → Int32} {k : Nat} {vs : List Value} (h : stK ad b L xs ea a = some (k, vs)) : (∃ j, j < xnstr ∧ a = (ad j).1 ∧ k = k_String ∧ vs = [.ref (ad j).2, .int 0]) ∨ (∃ j, j < xnstr ∧ a = (ad j).2 ∧ k = k_asbyte ∧ vs = xby (xtx j)) ∨ (a = b ∧ k = k_aint ∧ vs = (List.range L).map (fun i => .int (xs i))) ∨ (a = ea ∧ k = k_aObject ∧ vs = []) := by
  unfold stK at h
  split at h
  · rename_i hz _
    cases h
    exact Or.inl ⟨_, (Classical.choose_spec hz).1, (Classical.choose_spec hz).2, rfl, rfl⟩
  · split at h
    · rename_i hz _
      cases h
      exact Or.inr (Or.inl ⟨_, (Classical.choose_spec hz).1, (Classical.choose_spec hz).2, rfl, rfl⟩)
    · split at h
      · rename_i hz
        cases h
        exact Or.inr (Or.inr (Or.inl ⟨hz, rfl, rfl⟩))
      · split at h
        · rename_i hz
          cases h
          exact Or.inr (Or.inr (Or.inr ⟨hz, rfl, rfl⟩))
        · cases h
/-- an object of class String is no array; arrays of two types are two -/
theorem st_noarr {s : State} {D : va_G} {cell : Cell} {ty : FieldType} (hK : xK D s) (h1 : s.vm.findClass "java/lang/String" = some cell.cls) (h2 : s.isArrayOf cell ty) : False := by
  have hKn := (hK k_String _ rfl : u_Kn s _ _ _ (D.1 k_String) (D.2 k_String))
  obtain ⟨f1, kC, f2, f3⟩ := hKn.2
  obtain ⟨-, k, g1, comp, g2⟩ := h2
  have e1 : cell.cls = D.1 k_String := Option.some.inj (h1.symm.trans f1)
  rw [e1] at g1
  cases f2.symm.trans g1
  rw [f3] at g2
  cases g2
theorem st_two {s : State} {cell : Cell} {ty ty' : FieldType} (h1 : s.isArrayOf cell ty) (h2 : s.isArrayOf cell ty') : ty = ty' := by
  obtain ⟨-, k, g1, comp, g2⟩ := h1
  obtain ⟨-, k', g1', comp', g2'⟩ := h2
  cases g1.symm.trans g1'
  rw [g2] at g2'
  cases g2'
  rfl
theorem st_ofNat {a b : Nat} (ha : a < 100) (hb : b < 100) (h : Int32.ofNat a = Int32.ofNat b) : a = b := (nI_eq (a := a) (b := b) (by omega) (by omega)).mp h
theorem st_xby {cs ds : List Nat} {cell : Cell} (h1 : cs.length < 100) (h2 : ds.length < 100) (hl1 : cell.slots.size.toInt32 = Int32.ofNat cs.length) (hl2 : cell.slots.size.toInt32 = Int32.ofNat ds.length) (e1 : ∀ j : Nat, j < cs.length → cell.slots[j]? = some (Value.int (Int32.ofNat (cs.getD j 0)))) (e2 : ∀ j : Nat, j < ds.length → cell.slots[j]? = some (Value.int (Int32.ofNat (ds.getD j 0)))) : xby cs = xby ds := by
  have hl := st_ofNat h1 h2 (hl1.symm.trans hl2)
  unfold xby
  apply List.ext_getElem?
  intro j
  by_cases hj : j < cs.length
  · have hj2 : j < ds.length := by omega
    have := (e1 j hj).symm.trans (e2 j hj2)
    rw [List.getElem?_map, List.getElem?_map, List.getElem?_eq_getElem hj, List.getElem?_eq_getElem hj2]
    have h3 : cs.getD j 0 = cs[j] := by simp [hj]
    have h4 : ds.getD j 0 = ds[j] := by simp [hj2]
    rw [h3, h4] at this
    exact this
  · rw [List.getElem?_map, List.getElem?_map, List.getElem?_eq_none (by omega), List.getElem?_eq_none (by omega)]
theorem st_G {s : State} {b L : Nat} {xs : Nat → Int32} (hts : ∀ w ∈ lw_tbl, w.before #[Value.ref b] s = true) (hX : va_X b L xs s s.heap) (hbl : b < s.heap.size) (hgv : gvN.before #[Value.ref b] s = true) :
    ∃ G : XG, G.2.1 = s.heap.size ∧ xV G s s.heap ∧ xGk G ∧ G.2.2.1 b = some (k_aint, (List.range L).map (fun i => Value.int (xs i))) := by
  have hs := flat_of_before _ hgv
  have hT := st_T hts
  have hA : ∀ a : Nat, a < s.heap.size → ¬ (fun q => s.heap.size ≤ q) a := fun a ha => Nat.not_le.mpr ha
  obtain ⟨D, hK⟩ := st_known hT
  have h0 : ∀ i : Nat, ∃ q : Nat × Nat, ∀ z, xStr[i]? = some z → (Term.string z.1 z.2.1).eval #[Value.ref b] s none [] s = some (.ref q.1) ∧ stS s q.1 q.2 (xtx z.2.2.2) := by
    intro i
    cases hz : xStr[i]? with
    | none => exact ⟨(0, 0), fun z h => by cases h⟩
    | some z =>
      obtain ⟨a, t, h1, h2⟩ := st_str hgv (List.mem_of_getElem? hz)
      exact ⟨(a, t), fun z' h => by cases h; exact ⟨h1, h2⟩⟩
  obtain ⟨ad, had⟩ := Classical.axiomOfChoice h0
  have hst : ∀ i, i < xnstr → stS s (ad i).1 (ad i).2 (xtx i) := by
    intro i hi
    have := st_ix i hi
    cases hz : xStr[i]? with
    | none => rw [hz] at this; cases this
    | some z =>
      rw [hz] at this
      have e : z.2.2.2 = i := Option.some.inj this
      have h2 := (had i z hz).2
      rw [e] at h2
      exact h2

  obtain ⟨ea, hea, hTe⟩ := va_Tof (args := #[Value.ref b]) (s := s) (tm := Term.static "java/util/ArrayList" "DEFAULTCAPACITY_EMPTY_ELEMENTDATA" "[Ljava/lang/Object;") (ty := .object "java/lang/Object") (N := 0) (f := fun _ => .null) (A := fun q => s.heap.size ≤ q) (by omega) (hs (Jvm.Cond.arrayOf (Jvm.Term.static "java/util/ArrayList" "DEFAULTCAPACITY_EMPTY_ELEMENTDATA" "[Ljava/lang/Object;") (Jvm.ClassFile.FieldType.object "java/lang/Object")) (List.mem_of_getElem? (i := 218) (by decide +kernel))) (va_eqt (hs (Jvm.Cond.eq (Jvm.Term.length (Jvm.Term.static "java/util/ArrayList" "DEFAULTCAPACITY_EMPTY_ELEMENTDATA" "[Ljava/lang/Object;")) (Jvm.Term.int (0 : Int32))) (List.mem_of_getElem? (i := 220) (by decide +kernel)))) (fun j hj => by omega) hA
  obtain ⟨v0, hv0, hr0⟩ := Cond.isRef_spec (args := #[Value.ref b]) (first := s) (o := none) (s := s) (idx := []) (hs (Jvm.Cond.isRef (Jvm.Term.static "jdk/internal/util/Preconditions" "SIOOBE_FORMATTER" "Ljava/util/function/BiFunction;")) (List.mem_of_getElem? (i := 5) (by decide +kernel)))
  obtain ⟨v1, hv1, hr1⟩ := Cond.isRef_spec (args := #[Value.ref b]) (first := s) (o := none) (s := s) (idx := []) (hs (Jvm.Cond.isRef (Jvm.Term.static "java/lang/Throwable" "UNASSIGNED_STACK" "[Ljava/lang/StackTraceElement;")) (List.mem_of_getElem? (i := 9) (by decide +kernel)))
  obtain ⟨v2, hv2, hr2⟩ := Cond.isRef_spec (args := #[Value.ref b]) (first := s) (o := none) (s := s) (idx := []) (hs (Jvm.Cond.isRef (Jvm.Term.static "java/lang/Throwable" "SUPPRESSED_SENTINEL" "Ljava/util/List;")) (List.mem_of_getElem? (i := 10) (by decide +kernel)))
  obtain ⟨mi, hmi⟩ := va_Mi.of (args := #[Value.ref b]) (s := s) (C := "[Ljava/lang/Object;") (hs (Jvm.Cond.isRef (Jvm.Term.mirror "[Ljava/lang/Object;")) (List.mem_of_getElem? (i := 267) (by decide +kernel)))
  have i1 : s.vm.findClass "java/lang/IllegalStateException" = some (D.1 k_IllegalStateException) := (hK k_IllegalStateException _ rfl : u_Kn s _ _ _ (D.1 k_IllegalStateException) (D.2 k_IllegalStateException)).2.1
  have i2 : s.vm.findClass "java/lang/IllegalArgumentException" = some (D.1 k_IllegalArgumentException) := (hK k_IllegalArgumentException _ rfl : u_Kn s _ _ _ (D.1 k_IllegalArgumentException) (D.2 k_IllegalArgumentException)).2.1
  have hnc : s.vm.assignable (D.1 k_IllegalStateException) (D.1 k_IllegalArgumentException) = false := by
    have h9 := (hs (Jvm.Cond.not (Jvm.Cond.castable "java/lang/IllegalStateException" "java/lang/IllegalArgumentException")) (List.mem_of_getElem? (i := 227) (by decide +kernel)))
    simpa [Cond.before, Cond.holds, Cond.value, i1, i2] using h9
  obtain ⟨scr, x1, x2, x3, x4, x5⟩ := hX
  obtain ⟨ce, t1, t2, t3, t4, t5, t6, t7⟩ := hTe
  -- the places are apart
  have n1 : ∀ i j, i < xnstr → j < xnstr → (ad i).2 ≠ (ad j).1 := by
    intro i j hi hj e
    obtain ⟨cell, o1, -, o3, -⟩ := (hst j hj).1
    obtain ⟨cell', p1, p2, -⟩ := (hst i hi).2.2.2
    rw [e] at p1
    cases o1.symm.trans p1
    exact st_noarr hK o3 p2
  have nb1 : ∀ j, j < xnstr → b ≠ (ad j).1 := by
    intro j hj e
    obtain ⟨cell, o1, -, o3, -⟩ := (hst j hj).1
    rw [← e] at o1
    cases o1.symm.trans x1
    exact st_noarr hK o3 x2
  have nb2 : ∀ j, j < xnstr → b ≠ (ad j).2 := by
    intro j hj e
    obtain ⟨cell', p1, p2, -⟩ := (hst j hj).2.2.2
    rw [← e] at p1
    cases p1.symm.trans x1
    cases st_two p2 x2
  have ne1 : ∀ j, j < xnstr → ea ≠ (ad j).1 := by
    intro j hj e
    obtain ⟨cell, o1, -, o3, -⟩ := (hst j hj).1
    rw [← e] at o1
    cases o1.symm.trans t1
    exact st_noarr hK o3 t2
  have ne2 : ∀ j, j < xnstr → ea ≠ (ad j).2 := by
    intro j hj e
    obtain ⟨cell', p1, p2, -⟩ := (hst j hj).2.2.2
    rw [← e] at p1
    cases p1.symm.trans t1
    cases st_two p2 t2
  have neb : ea ≠ b := by
    intro e
    rw [e] at t1
    cases t1.symm.trans x1
    cases st_two t2 x2
  -- one cell, one text
  have same1 : ∀ i j, i < xnstr → j < xnstr → (ad i).1 = (ad j).1 → (ad i).2 = (ad j).2 := by
    intro i j hi hj e
    obtain ⟨cf, k, fi, f, cell, p1, -, p3, -, p5, -⟩ := (hst i hi).2.2.1
    obtain ⟨cf', k', fi', f', cell', p1', -, p3', -, p5', -⟩ := (hst j hj).2.2.1
    cases p1.symm.trans p1'
    rw [e] at p3
    cases p3.symm.trans p3'
    exact Value.ref.inj (Option.some.inj (p5.symm.trans p5'))
  have same2 : ∀ i j, i < xnstr → j < xnstr → (ad i).2 = (ad j).2 → xby (xtx i) = xby (xtx j) := by
    intro i j hi hj e
    obtain ⟨cell, p1, -, -, -, p5, p6, -⟩ := (hst i hi).2.2.2
    obtain ⟨cell', p1', -, -, -, p5', p6', -⟩ := (hst j hj).2.2.2
    rw [e] at p1
    cases p1.symm.trans p1'
    exact st_xby (st_len i hi) (st_len j hj) p5 p5' p6 p6'
  refine ⟨(D, s.heap.size, stK ad b L xs ea, fun i => if i < xnstr then (ad i).1 else if i = 100 then ea else mi, fun j => if j = 0 then v0 else if j = 1 then v1 else if j = 2 then v2 else .null), rfl, ⟨hK, fun w hw => xT_same hw rfl (hT w hw), ⟨fun q hq => ?_, ⟨hmi, hnc⟩, fun q hq => ?_⟩, fun q hq => ?_, fun a k vs ha => ?_⟩, ⟨fun j => ?_, fun i hi => ?_, ?_⟩, ?_⟩
  · obtain ⟨i1, i2⟩ := st_ix2 q hq
    refine vk_R.of (A := #[Value.ref b]) (hts _ (st_ref q hq)) ?_
    show (Term.string q.1 q.2.1).eval #[Value.ref b] s none [] s = some (.ref (if q.2.2.2 < xnstr then (ad q.2.2.2).1 else if q.2.2.2 = 100 then ea else mi))
    rw [if_pos i1]
    exact (had _ q i2).1
  · have hq2 : q = ("java/lang/Throwable", "UNASSIGNED_STACK", "[Ljava/lang/StackTraceElement;") ∨ q = ("java/lang/Throwable", "SUPPRESSED_SENTINEL", "Ljava/util/List;") := by
      simpa [xThS] using hq
    rcases hq2 with rfl | rfl
    · obtain ⟨c, k, i, f, a, cell, g1, g2, g3, g4, g5, g6, g7, g8, g9⟩ := Cond.laysStatic_spec (args := #[Value.ref b]) (first := s) (o := none) (s := s) (idx := []) (hts (Jvm.Cond.laysStatic "java/lang/Throwable" "UNASSIGNED_STACK" "[Ljava/lang/StackTraceElement;") (List.mem_append_right _ (List.mem_of_getElem? (i := 517) (by decide +kernel))))
      exact ⟨c, k, i, f, a, cell, g1, g2, g3, g4, g5, g6, g7, g8, g9, hA a (Array.getElem?_eq_some_iff.mp g5).1⟩
    · obtain ⟨c, k, i, f, a, cell, g1, g2, g3, g4, g5, g6, g7, g8, g9⟩ := Cond.laysStatic_spec (args := #[Value.ref b]) (first := s) (o := none) (s := s) (idx := []) (hts (Jvm.Cond.laysStatic "java/lang/Throwable" "SUPPRESSED_SENTINEL" "Ljava/util/List;") (List.mem_append_right _ (List.mem_of_getElem? (i := 519) (by decide +kernel))))
      exact ⟨c, k, i, f, a, cell, g1, g2, g3, g4, g5, g6, g7, g8, g9, hA a (Array.getElem?_eq_some_iff.mp g5).1⟩
  · revert q hq
    exact List.forall_mem_cons.mpr ⟨va_Zof (hts (Jvm.Cond.laysStatic "java/lang/String" "COMPACT_STRINGS" "Z") (List.mem_append_right _ (List.mem_of_getElem? (i := 52) (by decide +kernel)))) (hts (Jvm.Cond.initialized "java/lang/String") (List.mem_append_right _ (List.mem_of_getElem? (i := 4) (by decide +kernel)))) (va_eqi (hs (Jvm.Cond.eq (Jvm.Term.static "java/lang/String" "COMPACT_STRINGS" "Z") (Jvm.Term.int (1 : Int32))) (List.mem_of_getElem? (i := 4) (by decide +kernel)))) hA, List.forall_mem_cons.mpr ⟨va_Zof (hts (Jvm.Cond.laysStatic "java/lang/StringUTF16" "$assertionsDisabled" "Z") (List.mem_append_right _ (List.mem_of_getElem? (i := 257) (by decide +kernel)))) (hts (Jvm.Cond.initialized "java/lang/StringUTF16") (List.mem_append_right _ (List.mem_of_getElem? (i := 5) (by decide +kernel)))) (va_eqi (hs (Jvm.Cond.eq (Jvm.Term.static "java/lang/StringUTF16" "$assertionsDisabled" "Z") (Jvm.Term.int (1 : Int32))) (List.mem_of_getElem? (i := 6) (by decide +kernel)))) hA, List.forall_mem_cons.mpr ⟨va_Zof (hts (Jvm.Cond.laysStatic "java/lang/StringUTF16" "HI_BYTE_SHIFT" "I") (List.mem_append_right _ (List.mem_of_getElem? (i := 259) (by decide +kernel)))) (hts (Jvm.Cond.initialized "java/lang/StringUTF16") (List.mem_append_right _ (List.mem_of_getElem? (i := 5) (by decide +kernel)))) (va_eqi (hs (Jvm.Cond.eq (Jvm.Term.static "java/lang/StringUTF16" "HI_BYTE_SHIFT" "I") (Jvm.Term.int (0 : Int32))) (List.mem_of_getElem? (i := 7) (by decide +kernel)))) hA, List.forall_mem_cons.mpr ⟨va_Zof (hts (Jvm.Cond.laysStatic "java/lang/StringUTF16" "LO_BYTE_SHIFT" "I") (List.mem_append_right _ (List.mem_of_getElem? (i := 261) (by decide +kernel)))) (hts (Jvm.Cond.initialized "java/lang/StringUTF16") (List.mem_append_right _ (List.mem_of_getElem? (i := 5) (by decide +kernel)))) (va_eqi (hs (Jvm.Cond.eq (Jvm.Term.static "java/lang/StringUTF16" "LO_BYTE_SHIFT" "I") (Jvm.Term.int (8 : Int32))) (List.mem_of_getElem? (i := 8) (by decide +kernel)))) hA, List.forall_mem_cons.mpr ⟨va_Zof (hts (Jvm.Cond.laysStatic "java/util/ArrayList" "DEFAULTCAPACITY_EMPTY_ELEMENTDATA" "[Ljava/lang/Object;") (List.mem_append_right _ (List.mem_of_getElem? (i := 842) (by decide +kernel)))) (hts (Jvm.Cond.initialized "java/util/ArrayList") (List.mem_append_right _ (List.mem_of_getElem? (i := 26) (by decide +kernel)))) hea hA, List.forall_mem_cons.mpr ⟨va_Zof (hts (Jvm.Cond.laysStatic "jdk/internal/util/Preconditions" "SIOOBE_FORMATTER" "Ljava/util/function/BiFunction;") (List.mem_append_right _ (List.mem_of_getElem? (i := 249) (by decide +kernel)))) (hts (Jvm.Cond.initialized "jdk/internal/util/Preconditions") (List.mem_append_right _ (List.mem_of_getElem? (i := 14) (by decide +kernel)))) hv0 hA, List.forall_mem_cons.mpr ⟨va_Zof (hts (Jvm.Cond.laysStatic "java/lang/Throwable" "UNASSIGNED_STACK" "[Ljava/lang/StackTraceElement;") (List.mem_append_right _ (List.mem_of_getElem? (i := 517) (by decide +kernel)))) (hts (Jvm.Cond.initialized "java/lang/Throwable") (List.mem_append_right _ (List.mem_of_getElem? (i := 15) (by decide +kernel)))) hv1 hA, List.forall_mem_cons.mpr ⟨va_Zof (hts (Jvm.Cond.laysStatic "java/lang/Throwable" "SUPPRESSED_SENTINEL" "Ljava/util/List;") (List.mem_append_right _ (List.mem_of_getElem? (i := 519) (by decide +kernel)))) (hts (Jvm.Cond.initialized "java/lang/Throwable") (List.mem_append_right _ (List.mem_of_getElem? (i := 15) (by decide +kernel)))) hv2 hA, fun _ hz => by cases hz⟩⟩⟩⟩⟩⟩⟩⟩
  · rcases stK_or ha with ⟨j, hj, rfl, rfl, rfl⟩ | ⟨j, hj, rfl, rfl, rfl⟩ | ⟨rfl, rfl, rfl⟩ | ⟨rfl, rfl, rfl⟩
    · obtain ⟨⟨cell, o1, o2, o3, o4⟩, ⟨cf, kf, fi, f, cell1, p1, p2, p3, p4, p5, p6⟩, ⟨cf', kf', fi', f', cell2, q1, q2, q3, q4, q5, q6⟩, -⟩ := hst j hj
      cases o1.symm.trans p3
      cases o1.symm.trans q3
      have hKn := (hK k_String _ rfl : u_Kn s _ _ _ (D.1 k_String) (D.2 k_String))
      refine ⟨(Array.getElem?_eq_some_iff.mp o1).1, cell, o1, p4, o2, fun _ => Option.some.inj (o3.symm.trans hKn.2.1), fun i w hw => ?_, fun ty hty => by cases hty⟩
      match i, hw with
      | 0, hw =>
        cases hw
        obtain ⟨a1, a2, a3, a4, a5, a6⟩ := hKn.1 0 (by decide)
        have : s.fieldFound? "java/lang/String" "value" "[B" = some (a1, a2, a3, a4) := a5
        cases this.symm.trans q1
        exact ⟨Or.inr (by decide), by show cell.slots[D.2 k_String 0]? = _; rw [← a6]; exact q5⟩
      | 1, hw =>
        cases hw
        obtain ⟨a1, a2, a3, a4, a5, a6⟩ := hKn.1 1 (by decide)
        have : s.fieldFound? "java/lang/String" "coder" "B" = some (a1, a2, a3, a4) := a5
        cases this.symm.trans p1
        exact ⟨Or.inr (by decide), by show cell.slots[D.2 k_String 1]? = _; rw [← a6]; exact p5⟩
      | i + 2, hw => simp at hw
    · obtain ⟨cell, p1, p2, p3, p4, p5, p6, p7⟩ := (hst j hj).2.2.2
      have hid := (hK k_asbyte _ rfl : ArrOfT s (D.1 k_asbyte) .byte ∧ va_RA s (D.1 k_asbyte) .byte ∧ ∀ j : Nat, D.2 k_asbyte j = j).2.2
      refine ⟨(Array.getElem?_eq_some_iff.mp p1).1, cell, p1, p3, ?_, fun hz => (by cases hz), fun i w hw => ⟨Or.inl rfl, ?_⟩, fun ty hty => ?_⟩
      · cases hv : cell.vm.isStatics with
        | false => rfl
        | true =>
          cases hvm : cell.vm with
          | statics k => exact absurd hvm (p2.1 k)
          | _ => rw [hvm] at hv; cases hv
      · show cell.slots[D.2 k_asbyte i]? = _
        rw [hid i]
        have hi : i < (xtx j).length := by
          have := (List.getElem?_eq_some_iff.mp hw).1
          rwa [xby_len] at this
        rw [p6 i hi, ← hw]
        unfold xby
        rw [List.getElem?_map, List.getElem?_eq_getElem hi]
        simp [hi]
        rfl
      · cases hty
        refine ⟨p2, by rw [xby_len]; exact p4, by rw [xby_len]; exact p5⟩
    · have hid := (hK k_aint _ rfl : ArrOfT s (D.1 k_aint) .int ∧ va_RA s (D.1 k_aint) .int ∧ ∀ j : Nat, D.2 k_aint j = j).2.2
      refine ⟨hbl, scr, x1, x3, ?_, fun hz => (by cases hz), fun i w hw => ⟨Or.inl rfl, ?_⟩, fun ty hty => ?_⟩
      · cases hv : scr.vm.isStatics with
        | false => rfl
        | true =>
          cases hvm : scr.vm with
          | statics k => exact absurd hvm (x2.1 k)
          | _ => rw [hvm] at hv; cases hv
      · show scr.slots[D.2 k_aint i]? = _
        rw [hid i]
        have hi : i < L := by
          have := (List.getElem?_eq_some_iff.mp hw).1
          simpa using this
        rw [x5 i hi, ← hw]
        simp [hi]
      · cases hty
        refine ⟨x2, by rw [x4]; simp, by rw [x4]; simp⟩
    · refine ⟨(Array.getElem?_eq_some_iff.mp t1).1, ce, t1, t3, ?_, fun hz => (by cases hz), fun i w hw => (by simp at hw), fun ty hty => ?_⟩
      · cases hv : ce.vm.isStatics with
        | false => rfl
        | true =>
          cases hvm : ce.vm with
          | statics k => exact absurd hvm (t2.1 k)
          | _ => rw [hvm] at hv; cases hv
      · cases hty
        exact ⟨t2, Nat.zero_le _, t5⟩
  · show xisr (if j = 0 then v0 else if j = 1 then v1 else if j = 2 then v2 else .null) = true
    have isr : ∀ v : Value, v.isRef = true → xisr v = true := fun v hv => by cases v <;> first | rfl | cases hv
    split
    · exact isr _ hr0
    · split
      · exact isr _ hr1
      · split
        · exact isr _ hr2
        · rfl
  · show ∃ va, stK ad b L xs ea (if i < xnstr then (ad i).1 else if i = 100 then ea else mi) = some (k_String, [.ref va, .int 0]) ∧ stK ad b L xs ea va = some (k_asbyte, xby (xtx i))
    rw [if_pos hi]
    obtain ⟨j, hj, e1, e2⟩ := stK_1 (ad := ad) (b := b) (L := L) (ea := ea) (xs := xs) hi
    obtain ⟨j2, hj2, e3, e4⟩ := stK_2 (ad := ad) (b := b) (L := L) (ea := ea) (xs := xs) hj (fun z hz => n1 j z hj hz)
    refine ⟨_, e2, ?_⟩
    rw [e4, same2 j2 i hj2 hi (by rw [← e3]; exact (same1 i j hi hj e1).symm)]
  · show stK ad b L xs ea (if 100 < xnstr then (ad 100).1 else if 100 = 100 then ea else mi) = some (k_aObject, [])
    rw [if_neg (by decide), if_pos rfl, stK_3 ne1 ne2, if_neg neb, if_pos rfl]
  · show stK ad b L xs ea b = _
    rw [stK_3 nb1 nb2, if_pos rfl]
end START2
