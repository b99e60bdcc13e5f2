/-! A SMALL MACHINE OVER THE KIT'S: cells as lists of values, a heap as a function, budgets as two numbers. XW: from this frame the method comes to its end with P. XM: a method's contract at one start. -/
section XC
/-- our cells: address to kind and contents -/
abbrev XH : Type := Nat → Option (Nat × List Value)
/-- class numbers and slots; where our cells begin; the cells that stay as they are; the places of strings and statics -/
abbrev XG : Type := va_G × Nat × XH × (Nat → Nat) × (Nat → Value)
/-- a method: its name, its code, how many locals, what it returns -/
abbrev XMt : Type := MethodName × ByteArray × Nat × Option FieldType
/-- the statics that are read: class, name, descriptor, value -/
def xSta (G : XG) : List (String × String × String × Value) := [("java/lang/String", "COMPACT_STRINGS", "Z", .int 1), ("java/lang/StringUTF16", "$assertionsDisabled", "Z", .int 1), ("java/lang/StringUTF16", "HI_BYTE_SHIFT", "I", .int 0), ("java/lang/StringUTF16", "LO_BYTE_SHIFT", "I", .int 8), ("java/util/ArrayList", "DEFAULTCAPACITY_EMPTY_ELEMENTDATA", "[Ljava/lang/Object;", .ref (G.2.2.2.1 100)), ("jdk/internal/util/Preconditions", "SIOOBE_FORMATTER", "Ljava/util/function/BiFunction;", G.2.2.2.2 0), ("java/lang/Throwable", "UNASSIGNED_STACK", "[Ljava/lang/StackTraceElement;", G.2.2.2.2 1), ("java/lang/Throwable", "SUPPRESSED_SENTINEL", "Ljava/util/List;", G.2.2.2.2 2)]
abbrev xA (G : XG) : Nat → Prop := fun q => G.2.1 ≤ q
def xarr (k : Nat) : Bool := match xk[k]? with
  | some (.inr _) => true
  | _ => false
def xN (k : Nat) : Nat := match xk[k]? with
  | some (.inl q) => q.2.2
  | _ => 0
def xcell (D : va_G) (k : Nat) (vs : List Value) (cell : Cell) : Prop := cell.cls = D.1 k ∧ (∀ (j : Nat) (v : Value), vs[j]? = some v → (xarr k = true ∨ j < xN k) ∧ cell.slots[D.2 k j]? = some v) ∧ (xarr k = true → cell.slots.size = vs.length)
/-- a cell that stays: of an array's class and size no more is known than what an instruction asks -/
def xcellW (D : va_G) (U : State) (k : Nat) (vs : List Value) (cell : Cell) : Prop := (xarr k = false → cell.cls = D.1 k) ∧ (∀ (j : Nat) (v : Value), vs[j]? = some v → (xarr k = true ∨ j < xN k) ∧ cell.slots[D.2 k j]? = some v) ∧ (∀ ty, xk[k]? = some (.inr ty) → U.isArrayOf cell ty ∧ vs.length ≤ cell.slots.size ∧ cell.slots.size.toInt32 = Int32.ofNat vs.length)
theorem xcellW.moved {D : va_G} {u U : State} {k : Nat} {vs : List Value} {cell : Cell} (hvm : u.vm.Alike U.vm) (h : xcellW D u k vs cell) : xcellW D U k vs cell := ⟨h.1, h.2.1, fun ty ht => ⟨State.isArrayOf_alike hvm (h.2.2 ty ht).1, (h.2.2 ty ht).2⟩⟩
def xhp (G : XG) (h : XH) (H : Heap) : Prop := ∀ (a k : Nat) (vs : List Value), h a = some (k, vs) → G.2.1 ≤ a ∧ ∃ cell : Cell, H[a]? = some cell ∧ cell.vm = .none ∧ xcell G.1 k vs cell
def xkh (G : XG) (U : State) (H : Heap) : Prop := ∀ (a k : Nat) (vs : List Value), G.2.2.1 a = some (k, vs) → a < G.2.1 ∧ ∃ cell : Cell, H[a]? = some cell ∧ cell.vm ≠ .unknown ∧ cell.vm.isStatics = false ∧ xcellW G.1 U k vs cell
/-- the kinds: what the tables say of each -/
def xK (D : va_G) (U : State) : Prop := ∀ (k : Nat) (r : vw_C ⊕ FieldType), xk[k]? = some r → match r with
  | .inl q => u_Kn U q.1 q.2.1 q.2.2 (D.1 k) (D.2 k)
  | .inr ty => ArrOfT U (D.1 k) ty ∧ va_RA U (D.1 k) ty ∧ ∀ j : Nat, D.2 k j = j
/-- a static field, as its class lays it -/
def xLs (A : Nat → Prop) (U : State) (H : Heap) (q : String × String × String) : Prop := ∃ (c : ClassId) (k : Class) (i : Nat) (f : Field) (a : Nat) (cell : Cell), U.vm.findClass q.1 = some c ∧ U.fieldFound? q.1 q.2.1 q.2.2 = some (c, k, i, f) ∧ f.isStatic = true ∧ k.statics = some a ∧ H[a]? = some cell ∧ cell.vm.isStatics = true ∧ cell.cls = c ∧ f.slot < cell.slots.size ∧ k.staticTypes[f.slot]? = some f.type ∧ ¬ A a
theorem xLs.moved {A : Nat → Prop} {u U : State} {H : Heap} {q : String × String × String} (hvm : u.vm.Alike U.vm) (h : xLs A u H q) : xLs A U H q := by
  obtain ⟨c, k, i, f, a, cell, h1, h2, h3, h4, h5, h6, h7, h8, h9, h10⟩ := h
  obtain ⟨k', hi', he⟩ := State.fieldFound?_setVm hvm h2
  exact ⟨c, k', i, f, a, cell, by rw [hvm.findClass]; exact h1, hi', h3, by rw [he]; exact h4, h5, h6, h7, h8, by rw [he]; exact h9, h10⟩
theorem xLs.kept {A : Nat → Prop} {U : State} {H H1 : Heap} {q : String × String × String} (h : xLs A U H q) (hq : ∀ a : Nat, a < H.size → ¬ A a → H1[a]? = H[a]?) : xLs A U H1 q := by
  obtain ⟨c, k, i, f, a, cell, h1, h2, h3, h4, h5, h6, h7, h8, h9, h10⟩ := h
  exact ⟨c, k, i, f, a, cell, h1, h2, h3, h4, by rw [hq a (Array.getElem?_eq_some_iff.mp h5).1 h10]; exact h5, h6, h7, h8, h9, h10⟩
theorem xLs.use {A : Nat → Prop} {s : State} {H : Heap} {locs : List Loc} {args : Array Value} {q : String × String × String} (h : xLs A s H q) (hN : va_S A s.heap H locs) (hA : ∀ a, ¬ A a → a < s.heap.size) : (Cond.laysStatic q.1 q.2.1 q.2.2).before args s = true := by
  obtain ⟨c, k, i, f, a, cell, h1, h2, h3, h4, h5, h6, h7, h8, h9, h10⟩ := h
  have h5' : s.heap[a]? = some cell := by rw [← hN.2.1 a (hA a h10) h10]; exact h5
  simp [Cond.before, Cond.holds, Cond.value, h1, h2, h3, h4, h5', h6, h7, h8, h9]
abbrev xThS : List (String × String × String) := [("java/lang/Throwable", "UNASSIGNED_STACK", "[Ljava/lang/StackTraceElement;"), ("java/lang/Throwable", "SUPPRESSED_SENTINEL", "Ljava/util/List;")]
/-- no IllegalStateException is an IllegalArgumentException -/
def xnc (G : XG) (U : State) : Prop := U.vm.assignable (G.1.1 k_IllegalStateException) (G.1.1 k_IllegalArgumentException) = false
theorem xnc.moved {G : XG} {u U : State} (hvm : u.vm.Alike U.vm) (h : xnc G u) : xnc G U := (hvm.assignable _ _).trans h
/-- what the tables say, at any state of the run -/
def xV (G : XG) (U : State) (H : Heap) : Prop := xK G.1 U ∧ (∀ w ∈ xT, va_Nw w U) ∧ ((∀ q ∈ xStr, vk_R q.1 q.2.1 q.2.2.1 (G.2.2.2.1 q.2.2.2) U) ∧ (va_Mi "[Ljava/lang/Object;" (G.2.2.2.1 101) U ∧ xnc G U) ∧ ∀ q ∈ xThS, xLs (xA G) U H q) ∧ (∀ q ∈ xSta G, va_Z q.1 q.2.1 q.2.2.1 q.2.2.2 (xA G) U H) ∧ xkh G U H
def xU (z : Nat) (H : Heap) : Nat := ((H.toList.drop z).map (fun q : Cell => q.slots.size)).sum
/-- what the heap holds -/
def xS (G : XG) (h : XH) (c n : Nat) (H : Heap) : Prop := xhp G h H ∧ G.2.1 ≤ H.size ∧ H.size ≤ G.2.1 + c ∧ xU G.2.1 H ≤ n ∧ c ≤ xCB ∧ n ≤ xSB
def xQ (G : XG) (P : Option Value → XH → Nat → Nat → Prop) : Array Value → State → Outcome → State → Prop := fun _ st o t => (∃ (v : Option Value) (h : XH) (c n : Nat), o = .returned v ∧ P v h c n ∧ xS G h c n t.heap) ∧ va_F (xA G) st t
def xRm (d c0 n0 : Nat) : Room := { frames := d, cells := xCB - c0, slots := xSB - n0, locals := d * 60 + 11000 }
def xPre (G : XG) (h : XH) (c n c0 n0 : Nat) (U : State) : Prop := U.heap.size = G.2.1 + c0 ∧ xU G.2.1 U.heap = n0 ∧ xV G U U.heap ∧ xS G h c n U.heap
/-- A CONTRACT AT ONE START: from the arguments, the heap h and the budgets used, with d frames of room, the method returns with P -/
def XM (l : Launch) (G : XG) (d : Nat) (M : XMt) (args : List Value) (h : XH) (c n : Nat) (P : Option Value → XH → Nat → Nat → Prop) : Prop :=
  ∀ c0 n0 : Nat, Met l M.1 [Cond.code M.1 M.2.1 M.2.2.1 M.2.2.2] (xRm d c0 n0) (va_Pc args (xPre G h c n c0 n0)) (xQ G P) (xCB - c0) (xSB - n0) (xA G)
/-! locals -/
def xpr (L : List (Option Value)) : List (Nat × Value) := (List.range L.length).filterMap fun i => match L[i]? with
  | some (some v) => some (i, v)
  | _ => none
theorem xpr_mem {L : List (Option Value)} {i : Nat} {v : Value} : (i, v) ∈ xpr L ↔ L[i]? = some (some v) := by
  unfold xpr
  rw [List.mem_filterMap]
  constructor
  · rintro ⟨j, -, hj⟩
    split at hj
    · rename_i w hw
      cases hj
      exact hw
    · cases hj
  · intro h
    refine ⟨i, List.mem_range.mpr (List.getElem?_eq_some_iff.mp h).1, ?_⟩
    simp [h]
def xlr (ls : Array Slot) (L : List (Option Value)) : Prop := lv_has ls L.length (xpr L)
theorem xlr.at {ls : Array Slot} {L : List (Option Value)} (h : xlr ls L) {i : Nat} {v : Value} (hi : L[i]? = some (some v)) : ls[i]? = some (.val v) := h.2.2 (i, v) (xpr_mem.mpr hi)
def xc2 : Option (Option Value) → Bool
  | some (some (.long _)) => true
  | some (some (.double _)) => true
  | _ => false
theorem xc2_of {L : List (Option Value)} {j : Nat} {v : Value} (h : L[j]? = some (some v)) (hc : v.category = 2) : xc2 L[j]? = true := by
  rw [h]
  cases v <;> first | rfl | (simp [Value.category] at hc)
/-- a store of one slot -/
def xset1 (L : List (Option Value)) (i : Nat) (v : Value) : List (Option Value) := match i with
  | 0 => L.set 0 (some v)
  | j + 1 => bif xc2 L[j]? then (L.set j none).set (j + 1) (some v) else L.set (j + 1) (some v)
def xset2 (L : List (Option Value)) (i : Nat) (v : Value) : List (Option Value) := (xset1 L i v).set (i + 1) none
theorem xset1_len (L : List (Option Value)) (i : Nat) (v : Value) : (xset1 L i v).length = L.length := by
  unfold xset1
  split
  · simp
  · cases xc2 _ <;> simp
theorem xset1_at {L : List (Option Value)} {i k : Nat} {v w : Value} (h : (xset1 L i v)[k]? = some (some w)) : (k = i ∧ w = v) ∨ (k ≠ i ∧ L[k]? = some (some w) ∧ ¬ (k + 1 = i ∧ w.category = 2)) := by
  unfold xset1 at h
  split at h
  · by_cases hk : k = 0
    · subst hk
      rw [List.getElem?_set] at h
      simp at h
      exact Or.inl ⟨rfl, h.2.symm⟩
    · rw [List.getElem?_set_ne (Ne.symm hk)] at h
      exact Or.inr ⟨hk, h, fun q => by omega⟩
  · rename_i j
    by_cases hk : k = j + 1
    · subst hk
      left
      refine ⟨rfl, ?_⟩
      cases hc : xc2 L[j]? <;> simp only [hc, cond_true, cond_false] at h <;> rw [List.getElem?_set] at h <;> simp at h <;> exact h.2.symm
    · right
      refine ⟨hk, ?_⟩
      cases hc : xc2 L[j]? with
      | true =>
        simp only [hc, cond_true] at h
        rw [List.getElem?_set_ne (Ne.symm hk)] at h
        by_cases hj : k = j
        · subst hj
          rw [List.getElem?_set] at h
          simp at h
        · rw [List.getElem?_set_ne (Ne.symm hj)] at h
          exact ⟨h, fun q => hj (by omega)⟩
      | false =>
        simp only [hc, cond_false] at h
        rw [List.getElem?_set_ne (Ne.symm hk)] at h
        refine ⟨h, fun q => ?_⟩
        have e : k = j := by omega
        subst e
        rw [xc2_of h q.2] at hc
        cases hc
theorem xlr.st1 {ls : Array Slot} {L : List (Option Value)} {i : Nat} {v : Value} (h : lv_has ls L.length ((i, v) :: (xpr L).filter (fun q => !(q.1 == i) && !(q.1 + 1 == i && q.2.category == 2)))) : xlr ls (xset1 L i v) := by
  refine ⟨by rw [xset1_len]; exact h.1, h.2.1, fun q hq => ?_⟩
  obtain ⟨k, w⟩ := q
  rcases xset1_at (xpr_mem.mp hq) with ⟨rfl, rfl⟩ | ⟨h1, h2, h3⟩
  · exact h.2.2 _ List.mem_cons_self
  · refine h.2.2 (k, w) (List.mem_cons_of_mem _ (List.mem_filter.mpr ⟨xpr_mem.mpr h2, ?_⟩))
    simp only [Bool.and_eq_true, Bool.not_eq_true', beq_eq_false_iff_ne, ne_eq, Bool.and_eq_false_iff]
    refine ⟨h1, ?_⟩
    by_cases hk : k + 1 = i
    · exact Or.inr (fun q => h3 ⟨hk, q⟩)
    · exact Or.inl hk
theorem xlr.st2 {ls : Array Slot} {L : List (Option Value)} {i : Nat} {v : Value} (h : lv_has ls L.length ((i, v) :: (xpr L).filter (fun q => !(q.1 == i) && (!(q.1 == i + 1) && !(q.1 + 1 == i && q.2.category == 2))))) : xlr ls (xset2 L i v) := by
  unfold xset2
  refine ⟨by rw [List.length_set, xset1_len]; exact h.1, h.2.1, fun q hq => ?_⟩
  obtain ⟨k, w⟩ := q
  have hk := xpr_mem.mp hq
  by_cases hki : k = i + 1
  · subst hki
    rw [List.getElem?_set] at hk
    simp at hk
  · rw [List.getElem?_set_ne (Ne.symm hki)] at hk
    rcases xset1_at hk with ⟨rfl, rfl⟩ | ⟨h1, h2, h3⟩
    · exact h.2.2 _ List.mem_cons_self
    · refine h.2.2 (k, w) (List.mem_cons_of_mem _ (List.mem_filter.mpr ⟨xpr_mem.mpr h2, ?_⟩))
      simp only [Bool.and_eq_true, Bool.not_eq_true', beq_eq_false_iff_ne, ne_eq, Bool.and_eq_false_iff]
      refine ⟨h1, hki, ?_⟩
      by_cases hk : k + 1 = i
      · exact Or.inr (fun q => h3 ⟨hk, q⟩)
      · exact Or.inl hk
/-- the locals with which a method begins -/
def xin : List Value → List (Option Value)
  | [] => []
  | .long x :: vs => some (.long x) :: none :: xin vs
  | .double x :: vs => some (.double x) :: none :: xin vs
  | v :: vs => some v :: xin vs
theorem xin_at (vs : List Value) : ∀ (i k : Nat) (w : Value), (xin vs)[k]? = some (some w) → (i + k, w) ∈ lv_args i vs := by
  induction vs with
  | nil => intro i k w h; simp [xin] at h
  | cons v vs ih =>
    intro i k w h
    have two : ∀ (z : Value), z.category = 2 → (some z :: none :: xin vs)[k]? = some (some w) → (i + k, w) ∈ lv_args i (z :: vs) := by
      intro z hz h
      simp only [lv_args, hz, if_true]
      match k, h with
      | 0, h => simp at h; subst h; simp
      | 1, h => simp at h
      | k + 2, h =>
        simp at h
        have := ih (i + 2) k w h
        exact List.mem_cons_of_mem _ (by rw [show i + (k + 2) = i + 2 + k by omega]; exact this)
    have one : ∀ (z : Value), z.category = 1 → (some z :: xin vs)[k]? = some (some w) → (i + k, w) ∈ lv_args i (z :: vs) := by
      intro z hz h
      simp only [lv_args, hz]
      match k, h with
      | 0, h => simp at h; subst h; simp
      | k + 1, h =>
        simp at h
        have := ih (i + 1) k w h
        exact List.mem_cons_of_mem _ (by rw [show i + (k + 1) = i + 1 + k by omega]; exact this)
    cases v with
    | long x => exact two _ rfl h
    | double x => exact two _ rfl h
    | int x => exact one _ rfl h
    | float x => exact one _ rfl h
    | null => exact one _ rfl h
    | ref x => exact one _ rfl h
    | retAddr x => exact one _ rfl h
theorem xin_len (vs : List Value) : (xin vs).length = (lg_sl vs).length := by
  induction vs with
  | nil => rfl
  | cons v vs ih => cases v <;> simp [xin, lg_sl, Value.category] at ih ⊢ <;> omega
theorem xlr.entry (vs : List Value) {n : Nat} (hn : (xin vs).length ≤ n) : xlr ((lg_sl vs ++ List.replicate (n - (lg_sl vs).length) Slot.unset).toArray) (xin vs ++ List.replicate (n - (xin vs).length) none) := by
  have h := lv_entry vs (n := n) (by rw [← xin_len]; exact hn)
  refine ⟨by rw [h.1]; simp; omega, h.2.1, fun q hq => ?_⟩
  obtain ⟨k, w⟩ := q
  have hk := xpr_mem.mp hq
  refine h.2.2 (k, w) ?_
  rw [List.getElem?_append] at hk
  split at hk
  · have := xin_at vs 0 k w hk
    rwa [Nat.zero_add] at this
  · rw [List.getElem?_replicate] at hk
    split at hk <;> cases hk
/-! the heap's size -/
theorem xU_eq {z : Nat} {H H' : Heap} (h : H'.toList.map (fun q : Cell => q.slots.size) = H.toList.map (fun q : Cell => q.slots.size)) : xU z H' = xU z H := by
  unfold xU
  rw [List.map_drop, List.map_drop, h]
theorem xU_put {z a : Nat} {H H' : Heap} {cell cell' : Cell} (hz : H'.size = H.size) (ha : H[a]? = some cell) (ha' : H'[a]? = some cell') (hs : cell'.slots.size = cell.slots.size) (ho : ∀ q : Nat, q ≠ a → H'[q]? = H[q]?) : xU z H' = xU z H := by
  refine xU_eq (List.ext_getElem? fun i => ?_)
  rw [List.getElem?_map, List.getElem?_map, Array.getElem?_toList, Array.getElem?_toList]
  by_cases hi : i = a
  · subst hi
    rw [ha, ha']
    simp [hs]
  · rw [ho i hi]
theorem xU_push {z : Nat} {H : Heap} {cell : Cell} (hz : z ≤ H.size) : xU z (H.push cell) = xU z H + cell.slots.size := by
  unfold xU
  rw [Array.toList_push, List.drop_append_of_le_length (by simpa using hz)]
  simp
theorem xU_grow {z : Nat} {s T : State} {locs : List Loc} {cells slots : Nat} (hz : z ≤ s.heap.size) (h : s.sameButNew T locs cells slots) : xU z T.heap = xU z s.heap + ((T.heap.toList.drop s.heap.size).map (fun q : Cell => q.slots.size)).sum := by
  obtain ⟨-, h2, -, -, -, h6⟩ := h
  have e : (T.heap.toList.map (fun q : Cell => q.slots.size)).take s.heap.size = s.heap.toList.map (fun q : Cell => q.slots.size) := by
    refine List.ext_getElem? fun i => ?_
    rw [List.getElem?_take]
    by_cases hi : i < s.heap.size
    · rw [if_pos hi, List.getElem?_map, List.getElem?_map, Array.getElem?_toList, Array.getElem?_toList]
      obtain ⟨c', g1, -, g3, -⟩ := h6 i s.heap[i] (Array.getElem?_eq_getElem hi)
      rw [g1, Array.getElem?_eq_getElem hi]
      simp [g3]
    · rw [if_neg hi, List.getElem?_eq_none (by simp; omega)]
  unfold xU
  rw [List.map_drop, List.map_drop, List.map_drop, ← e]
  generalize T.heap.toList.map (fun q : Cell => q.slots.size) = f
  conv => lhs; rw [← List.take_append_drop s.heap.size f]
  by_cases hf : z ≤ (f.take s.heap.size).length
  · rw [List.drop_append_of_le_length hf, List.sum_append]
  · have hl : f.length ≤ z := by
      rw [List.length_take] at hf
      omega
    rw [List.drop_eq_nil_of_le (show (f.take s.heap.size ++ f.drop s.heap.size).length ≤ z by rw [List.take_append_drop]; exact hl), List.drop_eq_nil_of_le (show (f.take s.heap.size).length ≤ z by rw [List.length_take]; omega), List.drop_eq_nil_of_le (show f.length ≤ s.heap.size by omega)]
    rfl
end XC
