section XHP
variable {l : Launch} {G : XG} {M : XMt} {d pc : Nat} {L : List (Option Value)} {rest : List Value} {h : XH} {c n : Nat} {P : XPo}
def xup (h : XH) (a : Nat) (e : Nat × List Value) : XH := fun q => if q = a then some e else h q
theorem xup_self {h : XH} {a : Nat} {e : Nat × List Value} : xup h a e a = some e := if_pos rfl
theorem xup_ne {h : XH} {a q : Nat} {e : Nat × List Value} (hq : q ≠ a) : xup h a e q = h q := if_neg hq
/-- a cell that is there: ours, or one that stays -/
def xr (G : XG) (h : XH) (a k : Nat) (vs : List Value) : Prop := h a = some (k, vs) ∨ G.2.2.1 a = some (k, vs)
theorem xarr_of {k : Nat} {ty : FieldType} (hk : xk[k]? = some (.inr ty)) : xarr k = true := by unfold xarr; rw [hk]
theorem xcell.w {D : va_G} {s : State} {k : Nat} {vs : List Value} {cell : Cell} (hK : xK D s) (hs : cell.vm.isStatics = false) (h : xcell D k vs cell) : xcellW D s k vs cell := by
  refine ⟨fun _ => h.1, h.2.1, fun ty ht => ⟨?_, Nat.le_of_eq (h.2.2 (xarr_of ht)).symm, congrArg Nat.toInt32 (h.2.2 (xarr_of ht))⟩⟩
  obtain ⟨h1, -, -⟩ := (hK k _ ht : ArrOfT s (D.1 k) ty ∧ va_RA s (D.1 k) ty ∧ ∀ j : Nat, D.2 k j = j)
  obtain ⟨-, h2⟩ := h1 0 (fun _ => .null)
  rw [← h.1] at h2
  exact ⟨fun q hq => (by rw [hq] at hs; cases hs), h2⟩
theorem xcw_cls {D : va_G} {s : State} {k : Nat} {vs : List Value} {cell : Cell} {q : vw_C} (hk : xk[k]? = some (.inl q)) (h : xcellW D s k vs cell) : cell.cls = D.1 k := h.1 (by unfold xarr; rw [hk])
theorem xr_cell {s : State} {H : Heap} {a k : Nat} {vs : List Value} (ha : xr G h a k vs) (hV : xV G s H) (hS : xS G h c n H) : ∃ cell : Cell, H[a]? = some cell ∧ cell.vm ≠ .unknown ∧ cell.vm.isStatics = false ∧ xcellW G.1 s k vs cell := by
  rcases ha with ha | ha
  · obtain ⟨-, cell, g1, g2, g3⟩ := hS.1 a k vs ha
    have g2' : cell.vm.isStatics = false := by rw [g2]; rfl
    exact ⟨cell, g1, (by rw [g2]; exact fun q => (by cases q)), g2', g3.w hV.1 g2'⟩
  · exact (hV.2.2.2.2 a k vs ha).2
theorem xV.ts {s : State} {H : Heap} (hV : xV G s H) (args : Array Value) : ∀ w ∈ xT, w.before args s = true := fun w hw => xT_same hw rfl (hV.2.1 w hw)
theorem xkh.kept {U : State} {H H1 : Heap} (hk : xkh G U H) (hq : ∀ a : Nat, a < H.size → ¬ xA G a → H1[a]? = H[a]?) : xkh G U H1 := by
  intro a k vs ha
  obtain ⟨g1, cell, g2, g3⟩ := hk a k vs ha
  exact ⟨g1, cell, by rw [hq a (Array.getElem?_eq_some_iff.mp g2).1 (Nat.not_le.mpr g1)]; exact g2, g3⟩
theorem xV.kept {s : State} {H H1 : Heap} (hV : xV G s H) (hq : ∀ a : Nat, a < H.size → ¬ xA G a → H1[a]? = H[a]?) : xV G s H1 := ⟨hV.1, hV.2.1, ⟨hV.2.2.1.1, hV.2.2.1.2.1, fun q hm => (hV.2.2.1.2.2 q hm).kept hq⟩, fun q hm => (hV.2.2.2.1 q hm).kept hq, hV.2.2.2.2.kept hq⟩
/-- a write into one of our cells -/
theorem xS.put {H H1 : Heap} {a k : Nat} {vs vs' : List Value} {cell cell' : Cell} (hS : xS G h c n H) (ha : h a = some (k, vs)) (g1 : H[a]? = some cell) (e1 : H1[a]? = some cell') (e2 : H1.size = H.size) (e3 : ∀ q : Nat, q ≠ a → H1[q]? = H[q]?) (es : cell'.slots.size = cell.slots.size) (ev : cell'.vm = .none) (ec : xcell G.1 k vs' cell') : xS G (xup h a (k, vs')) c n H1 := by
  obtain ⟨h1, h2, h3, h4, h5⟩ := hS
  refine ⟨fun q kq vq hq => ?_, by rw [e2]; exact h2, by rw [e2]; exact h3, by rw [xU_put e2 g1 e1 es e3]; exact h4, h5⟩
  by_cases hqa : q = a
  · subst hqa
    rw [xup_self] at hq
    cases hq
    exact ⟨(h1 q k vs ha).1, cell', e1, ev, ec⟩
  · rw [xup_ne hqa] at hq
    obtain ⟨q1, q2, q3⟩ := h1 q kq vq hq
    exact ⟨q1, q2, by rw [e3 q hqa]; exact q3⟩
theorem xS.ge {H : Heap} {a k : Nat} {vs : List Value} (hS : xS G h c n H) (ha : h a = some (k, vs)) : xA G a := (hS.1 a k vs ha).1
theorem va_S.put1 {H0 H H1 : Heap} {locs : List Loc} {a i : Nat} (hN : va_S (xA G) H0 H locs) (ha : xA G a) (e2 : H1.size = H.size) (e3 : ∀ q : Nat, q ≠ a → H1[q]? = H[q]?) : va_S (xA G) H0 H1 (locs ++ [⟨a, i⟩]) := hN.put e2 e3 ha
theorem xV.put {s : State} {H H1 : Heap} {a : Nat} (hV : xV G s H) (ha : xA G a) (e3 : ∀ q : Nat, q ≠ a → H1[q]? = H[q]?) : xV G s H1 := hV.kept (fun q _ hq => e3 q (fun e => hq (by rw [e]; exact ha)))
/-- a new cell -/
theorem xS.new {H : Heap} {k z : Nat} {vs : List Value} {cell : Cell} (hS : xS G h c n H) (ev : cell.vm = .none) (ez : cell.slots.size = z) (ec : xcell G.1 k vs cell) (hc : c + 1 ≤ xCB) (hn : n + z ≤ xSB) : xS G (xup h H.size (k, vs)) (c + 1) (n + z) (H.push cell) ∧ h H.size = none := by
  obtain ⟨h1, h2, h3, h4, h5, h6⟩ := hS
  have hnone : h H.size = none := by
    cases hh : h H.size with
    | none => rfl
    | some e =>
      obtain ⟨-, cell, g1, -⟩ := h1 H.size e.1 e.2 hh
      exact absurd (Array.getElem?_eq_some_iff.mp g1).1 (Nat.lt_irrefl _)
  refine ⟨⟨fun q kq vq hq => ?_, by rw [Array.size_push]; omega, by rw [Array.size_push]; omega, by rw [xU_push h2, ez]; omega, hc, hn⟩, hnone⟩
  by_cases hqa : q = H.size
  · subst hqa
    rw [xup_self] at hq
    cases hq
    exact ⟨h2, cell, Array.getElem?_push_size, ev, ec⟩
  · rw [xup_ne hqa] at hq
    obtain ⟨q1, c1, q2, q3⟩ := h1 q kq vq hq
    exact ⟨q1, c1, by rw [Array.getElem?_push, if_neg hqa]; exact q2, q3⟩
theorem xV.new {s : State} {H : Heap} {cell : Cell} (hV : xV G s H) : xV G s (H.push cell) := hV.kept (fun q hq _ => by rw [Array.getElem?_push, if_neg (Nat.ne_of_lt hq)])
theorem va_S.new {H0 H : Heap} {locs : List Loc} {cell : Cell} (hN : va_S (xA G) H0 H locs) : va_S (xA G) H0 (H.push cell) locs := ⟨by rw [Array.size_push]; exact Nat.le_succ_of_le hN.1, fun q h1 h2 => by rw [Array.getElem?_push, if_neg (Nat.ne_of_lt (Nat.lt_of_lt_of_le h1 hN.1))]; exact hN.2.1 q h1 h2, hN.2.2⟩
theorem xkh.none {s : State} {H : Heap} (hV : xV G s H) (hS : xS G h c n H) : G.2.2.1 H.size = none := by
  cases hh : G.2.2.1 H.size with
  | none => rfl
  | some e =>
    obtain ⟨g1, -⟩ := hV.2.2.2.2 H.size e.1 e.2 hh
    exact absurd (Nat.lt_of_lt_of_le g1 hS.2.1) (Nat.lt_irrefl _)
/-! fields -/
/-- what an instruction that names a field links: kind k's field number j -/
def xF (own : String) (idx k j : Nat) : Prop := ∃ (C : String) (T : u_T) (N : Nat) (ref : String), xk[k]? = some (.inl (C, T, N)) ∧ j < N ∧ (Cond.fieldLink own idx ref (T j).2.1 (T j).2.2.1 ∈ xT ∨ ∃ host, Cond.fieldLinkNest own idx ref (T j).2.1 (T j).2.2.1 host ∈ xT) ∧ (ref = (T j).1 ∨ Cond.sameField ref (T j).1 (T j).2.1 (T j).2.2.1 ∈ xT)
/-- the type of a field that isn't final; of one that is -/
def xP (k j : Nat) (fin : Bool) (ty : FieldType) : Prop := ∃ (C : String) (T : u_T) (N : Nat), xk[k]? = some (.inl (C, T, N)) ∧ (T j).2.2.2 = fin ∧ parseFieldDescriptor (T j).2.2.1 = some ty
theorem x_get {a k j idx : Nat} {vs : List Value} {v : Value} (hx : xF M.1.cls idx k j) (ha : xr G h a k vs) (hv : vs[j]? = some v) (hd : decode M.2.1 pc = .ok (.getfield idx, 3)) (kk : XX l G M d (pc + 3) L (v :: rest) h c n P) : XX l G M d pc L (.ref a :: rest) h c n P := by
  intro p e R s m args below meth cd H locs cells slots ls hF hR hl hL hV hS hN
  obtain ⟨C, T, N, ref, hk, hj, hlk, hsm⟩ := hx
  have hts := hV.ts args
  obtain ⟨cell, g1, g2, -, g3⟩ := xr_cell ha hV hS
  obtain ⟨hSl, hfc, kC, hkC, hkind⟩ := (hV.1 k _ hk : u_Kn s C T N (G.1.1 k) (G.1.2 k))
  obtain ⟨cf, kf, fi, f, hi, hsl⟩ := hSl j hj
  have hi' : s.fieldFound? ref (T j).2.1 (T j).2.2.1 = some (cf, kf, fi, f) := by
    rcases hsm with rfl | hsm
    · exact hi
    · exact u_same (hts _ hsm) _ hi
  have hst := (u_facts hfc hkC (u_lays hts (xk_lay hk) hj) hi).1
  have hv' : cell.slots[f.slot]? = some v := by rw [hsl]; exact (g3.2.1 j v hv).2
  rcases hlk with hlk | ⟨host, hlk⟩
  · exact W.getf hF.1 hF.2.1 hF.2.2.2.2.1 (hts _ hlk) hi' hst g1 g2 (v := v) hv' rfl rfl hd (kk p e R s m args below meth cd H locs cells slots ls hF hR hl hL hV hS hN)
  · exact va_Wgetf hF.1 hF.2.1 hF.2.2.2.2.1 (hts _ hlk) hi' hst g1 g2 (v := v) hv' rfl rfl hd (kk p e R s m args below meth cd H locs cells slots ls hF hR hl hL hV hS hN)
theorem xcell_set {D : va_G} {s : State} {args : Array Value} {cell : Cell} {k j : Nat} {vs : List Value} {v v0 : Value} {C : String} {T : u_T} {N : Nat} (hts : ∀ w ∈ xT, w.before args s = true) (hK : xK D s) (hk : xk[k]? = some (.inl (C, T, N))) (hj : j < N) (g3 : xcell D k vs cell) (h0 : vs[j]? = some v0) : xcell D k (vs.set j v) (cell.setSlot (D.2 k j) v) := by
  have hnk : xN k = N := by unfold xN; rw [hk]
  have hak : xarr k = false := by unfold xarr; rw [hk]
  have hap : ∀ x y, x < N → y < N → x ≠ y → (D.2 k) x ≠ (D.2 k) y := by
    intro x y hx hy hne
    obtain ⟨hS, -⟩ := (hK k _ hk : u_Kn s C T N (D.1 k) (D.2 k))
    obtain ⟨_, _, _, fa, hia, ea⟩ := hS x hx
    obtain ⟨_, _, _, fb, hib, eb⟩ := hS y hy
    rw [← ea, ← eb]
    refine u_apart (u_lays hts (xk_lay hk) hx) (u_lays hts (xk_lay hk) hy) hia hib ?_
    obtain ⟨ty, hty⟩ := xk_ty hk x hx
    obtain ⟨ty', hty'⟩ := xk_ty hk y hy
    rw [(State.fieldFound?_type hia hty).1, (State.fieldFound?_type hib hty').1]
    exact xk_nm hk x hx y hy hne
  have hjl : j < vs.length := (List.getElem?_eq_some_iff.mp h0).1
  refine ⟨g3.1, fun i w hw => ?_, fun q => by rw [hak] at q; cases q⟩
  by_cases hij : i = j
  · subst hij
    rw [List.getElem?_set_self hjl] at hw
    cases hw
    exact ⟨Or.inr (by rw [hnk]; exact hj), Cell.slots_setSlot_self _ (k2_hasslot (g3.2.1 i v0 h0).2)⟩
  · rw [List.getElem?_set_ne (Ne.symm hij)] at hw
    obtain ⟨q1, q2⟩ := g3.2.1 i w hw
    have hi : i < N := by
      rcases q1 with q | q
      · rw [hak] at q; cases q
      · rw [hnk] at q; exact q
    exact ⟨q1, by rw [slot_ne _ _ (hap j i hj hi (Ne.symm hij))]; exact q2⟩
theorem x_put {a k j idx : Nat} {vs vs' : List Value} {v v0 : Value} {ty : FieldType} (hx : xF M.1.cls idx k j) (hp : xP k j false ty) (hn : narrow ty v = v) (hf : fits ty v = true) (ha : h a = some (k, vs)) (h0 : vs[j]? = some v0) (hs : vs.set j v = vs') (hd : decode M.2.1 pc = .ok (.putfield idx, 3)) (kk : XX l G M d (pc + 3) L rest (xup h a (k, vs')) c n P) : XX l G M d pc L (v :: .ref a :: rest) h c n P := by
  intro p e R s m args below meth cd H locs cells slots ls hF hR hl hL hV hS hN
  subst hs
  obtain ⟨C, T, N, ref, hk, hj, hlk, hsm⟩ := hx
  obtain ⟨C', T', N', hk', hfin, hpt⟩ := hp
  cases hk.symm.trans hk'
  have hts := hV.ts args
  obtain ⟨ga, cell, g1, g2, g3⟩ := hS.1 a k vs ha
  obtain ⟨hSl, hfc, kC, hkC, hkind⟩ := (hV.1 k _ hk : u_Kn s C T N (G.1.1 k) (G.1.2 k))
  obtain ⟨cf, kf, fi, f, hi, hsl⟩ := hSl j hj
  have hi' : s.fieldFound? ref (T j).2.1 (T j).2.2.1 = some (cf, kf, fi, f) := by
    rcases hsm with rfl | hsm
    · exact hi
    · exact u_same (hts _ hsm) _ hi
  have hlay := hts _ (xk_lay hk _ (u_in_lay hj))
  unfold u_lay at hlay
  rw [if_neg (by rw [hfin]; decide)] at hlay
  have hst := (u_facts hfc hkC (u_lays hts (xk_lay hk) hj) hi).1
  have h6 := u_store hfc hkC hkind hlay hi hpt hn hf
  have hlt : f.slot < cell.slots.size := by rw [hsl]; exact k2_hasslot (g3.2.1 j v0 h0).2
  have fin : ∀ H' : Heap, H'[a]? = some (cell.setSlot f.slot v) → H'.size = H.size → (∀ q, q ≠ a → H'[q]? = H[q]?) → W p l e R s m args below meth cd H' (locs ++ [⟨a, f.slot⟩]) cells slots (P below args s R) (F0 m (pc + 3) ls rest) := by
    intro H' e1 e2 e3
    rw [hsl] at e1 ⊢
    exact kk p e R s m args below meth cd H' _ cells slots ls hF hR hl hL (hV.put ga e3) (hS.put ha g1 e1 e2 e3 (k2_slotsz _ _ _) g2 (xcell_set hts hV.1 hk hj g3 h0)) (va_S.put1 hN ga e2 e3)
  rcases hlk with hlk | ⟨host, hlk⟩
  · exact W.putK hF.1 hF.2.1 (f := f) ⟨hF.2.2.2.2.1, hts _ hlk, ⟨_, _, _, hi'⟩, hst⟩ (by rw [g3.1]; exact h6) g1 g2 hlt rfl rfl hd fin
  · exact va_WputK hF.1 hF.2.1 (f := f) hF.2.2.2.2.1 (hts _ hlk) hi' hst (by rw [g3.1]; exact h6) g1 g2 hlt rfl rfl hd fin
theorem x_putF {a k j idx : Nat} {vs vs' : List Value} {v v0 : Value} {ty : FieldType} (hx : xF M.1.cls idx k j) (hp : xP k j true ty) (hdc : ∃ (C : String) (T : u_T) (N : Nat), xk[k]? = some (.inl (C, T, N)) ∧ (T j).1 = M.1.cls ∧ Cond.fieldLink M.1.cls idx (T j).1 (T j).2.1 (T j).2.2.1 ∈ xT) (hin : M.1.name = "<init>") (hn : narrow ty v = v) (hf : fits ty v = true) (ha : h a = some (k, vs)) (h0 : vs[j]? = some v0) (hs : vs.set j v = vs') (hd : decode M.2.1 pc = .ok (.putfield idx, 3)) (kk : XX l G M d (pc + 3) L rest (xup h a (k, vs')) c n P) : XX l G M d pc L (v :: .ref a :: rest) h c n P := by
  intro p e R s m args below meth cd H locs cells slots ls hF hR hl hL hV hS hN
  subst hs
  obtain ⟨C, T, N, ref, hk, hj, -, -⟩ := hx
  obtain ⟨C', T', N', hk', hfin, hpt⟩ := hp
  cases hk.symm.trans hk'
  obtain ⟨C'', T'', N'', hk'', hdecl, hlk⟩ := hdc
  cases hk.symm.trans hk''
  have hts := hV.ts args
  obtain ⟨ga, cell, g1, g2, g3⟩ := hS.1 a k vs ha
  obtain ⟨hSl, hfc, kC, hkC, hkind⟩ := (hV.1 k _ hk : u_Kn s C T N (G.1.1 k) (G.1.2 k))
  obtain ⟨cf, kf, fi, f, hi, hsl⟩ := hSl j hj
  have hlay := hts _ (xk_lay hk _ (u_in_lay hj))
  unfold u_lay at hlay
  rw [if_pos hfin] at hlay
  have hst := (u_facts hfc hkC (u_lays hts (xk_lay hk) hj) hi).1
  have hcf : m.cls = cf := by
    obtain ⟨_, _, c', _, _, _, -, -, hf', -, -, -, hown2, -⟩ := Cond.laysFinal_spec hlay
    have e1 : c' = cf := by have := hi.symm.trans hf'; simp at this; exact this.1.symm
    rw [hdecl] at hown2
    rw [← e1]; exact Option.some.inj (hF.2.2.2.2.1.symm.trans hown2)
  have h6 := u_fits hfc hkC hkind (Or.inr hlay) hi hpt hn hf
  have hlt : f.slot < cell.slots.size := by rw [hsl]; exact k2_hasslot (g3.2.1 j v0 h0).2
  refine W.putFinK hF.1 hF.2.1 hF.2.2.2.2.1 (hts _ hlk) hi hst hcf (hF.2.2.2.2.2.2.1.trans hin) (by rw [g3.1]; exact h6) g1 g2 hlt rfl rfl hd fun H' e1 e2 e3 => ?_
  rw [hsl] at e1 ⊢
  exact kk p e R s m args below meth cd H' _ cells slots ls hF hR hl hL (hV.put ga e3) (hS.put ha g1 e1 e2 e3 (k2_slotsz _ _ _) g2 (xcell_set hts hV.1 hk hj g3 h0)) (va_S.put1 hN ga e2 e3)
/-- what 'new' links: kind k, how many slots, the fields' first values -/
def xNw (own : String) (idx k z : Nat) (vs : List Value) : Prop := ∃ (C : String) (T : u_T) (N : Nat), xk[k]? = some (.inl (C, T, N)) ∧ vs.length = N ∧ (∀ j, j < N → (parseFieldDescriptor (T j).2.2.1).map defaultValue = vs[j]?) ∧ Cond.classLink own idx C ∈ xT ∧ Cond.instantiable C z ∈ xT ∧ Cond.initialized C ∈ xT
theorem x_new {k z idx : Nat} {vs : List Value} (hx : xNw M.1.cls idx k z vs) (hc : c + 1 ≤ xCB) (hn : n + z ≤ xSB) (hd : decode M.2.1 pc = .ok (.new idx, 3)) (kk : ∀ q : Nat, h q = none → G.2.2.1 q = none → XX l G M d (pc + 3) L (.ref q :: rest) (xup h q (k, vs)) (c + 1) (n + z) P) : XX l G M d pc L rest h c n P := by
  intro p e R s m args below meth cd H locs cells slots ls hF hR hl hL hV hS hN
  obtain ⟨C, T, N, hk, hlen, hdef, h1, h2, h3⟩ := hx
  have hts := hV.ts args
  have hKn := (hV.1 k _ hk : u_Kn s C T N (G.1.1 k) (G.1.2 k))
  obtain ⟨r1, r2, r3, r4, r5⟩ := hR
  obtain ⟨s1, s2, s3, s4, s5, s6⟩ := hS
  refine x_mono r5 fun m1 m2 => ?_
  refine x_tight (k := R.cells - 1) (j := R.slots - z) r5 (by rw [r3]; omega) (by rw [r4]; omega) ?_
  refine W.newc hF.1 hF.2.1 hF.2.2.2.2.1 (hts _ h1) (hts _ h2) (hts _ h3) rfl hd (by rw [r3]; omega) (by rw [r4]; omega) fun cC kC f1 f2 f3 f4 => ?_
  have hcC : cC = G.1.1 k := Option.some.inj (f1.symm.trans hKn.2.1)
  subst hcC
  have hnk : xN k = N := by unfold xN; rw [hk]
  have hak : xarr k = false := by unfold xarr; rw [hk]
  have hb : t_OB H.size (G.1.1 k) N (G.1.2 k) (H.push { cls := G.1.1 k, slots := kC.instanceTypes.map defaultValue, vm := .none }) (fun j => defaultValue ((parseFieldDescriptor (T j).2.2.1).getD .int)) := by
    refine u_born (fun j => (parseFieldDescriptor (T j).2.2.1).getD .int) hts (xk_lay hk) hKn f2 Array.getElem?_push_size (fun j hj => ?_)
    obtain ⟨ty, hty⟩ := xk_ty hk j hj
    rw [hty]; rfl
  obtain ⟨cell, b1, b2, b3, b4⟩ := hb
  rw [Array.getElem?_push_size] at b1
  cases b1
  have hcell : xcell G.1 k vs { cls := G.1.1 k, slots := kC.instanceTypes.map defaultValue, vm := .none } := by
    refine ⟨rfl, fun j v hv => ?_, fun q => by rw [hak] at q; cases q⟩
    have hj : j < N := by rw [← hlen]; exact (List.getElem?_eq_some_iff.mp hv).1
    refine ⟨Or.inr (by rw [hnk]; exact hj), ?_⟩
    rw [b4 j hj]
    have hdj := hdef j hj
    obtain ⟨ty, hty⟩ := xk_ty hk j hj
    rw [hv, hty] at hdj
    dsimp only
    rw [hty]
    exact hdj
  obtain ⟨hS', hno⟩ := xS.new (k := k) (z := z) (vs := vs) (cell := { cls := G.1.1 k, slots := kC.instanceTypes.map defaultValue, vm := .none }) ⟨s1, s2, s3, s4, s5, s6⟩ rfl (by simp [f4]) hcell hc hn
  exact kk H.size hno (xkh.none hV ⟨s1, s2, s3, s4, s5, s6⟩) p e R s m args below meth cd _ locs _ _ ls hF ⟨r1, r2, r3, r4, r5⟩ hl hL hV.new hS' (va_S.new hN)
/-! arrays -/
theorem xarr_ok {s : State} {k : Nat} {ty : FieldType} {D : va_G} {cell : Cell} {vs : List Value} (hK : xK D s) (hk : xk[k]? = some (.inr ty)) (hc : xcell D k vs cell) (hs : cell.vm.isStatics = false) : s.isArrayOf cell ty := by
  obtain ⟨h1, -, -⟩ := (hK k _ hk : ArrOfT s (D.1 k) ty ∧ va_RA s (D.1 k) ty ∧ ∀ j : Nat, D.2 k j = j)
  obtain ⟨-, h2⟩ := h1 0 (fun _ => .null)
  rw [← hc.1] at h2
  exact ⟨fun q hq => (by rw [hq] at hs; cases hs), h2⟩
theorem xarr_at {s : State} {k j : Nat} {ty : FieldType} {D : va_G} {cell : Cell} {vs : List Value} {v : Value} (hK : xK D s) (hk : xk[k]? = some (.inr ty)) (hc : ∀ (j : Nat) (v : Value), vs[j]? = some v → (xarr k = true ∨ j < xN k) ∧ cell.slots[D.2 k j]? = some v) (hv : vs[j]? = some v) : cell.slots[j]? = some v := by
  obtain ⟨-, -, h3⟩ := (hK k _ hk : ArrOfT s (D.1 k) ty ∧ va_RA s (D.1 k) ty ∧ ∀ j : Nat, D.2 k j = j)
  have := (hc j v hv).2
  rwa [h3 j] at this
theorem xarr_sz {k : Nat} {ty : FieldType} {D : va_G} {cell : Cell} {vs : List Value} (hk : xk[k]? = some (.inr ty)) (hc : xcell D k vs cell) : cell.slots.size = vs.length := hc.2.2 (xarr_of hk)
theorem xarr_okw {s : State} {k : Nat} {ty : FieldType} {D : va_G} {cell : Cell} {vs : List Value} (hk : xk[k]? = some (.inr ty)) (hc : xcellW D s k vs cell) : s.isArrayOf cell ty := (hc.2.2 ty hk).1
theorem xarr_szw {s : State} {k : Nat} {ty : FieldType} {D : va_G} {cell : Cell} {vs : List Value} (hk : xk[k]? = some (.inr ty)) (hc : xcellW D s k vs cell) : vs.length ≤ cell.slots.size := (hc.2.2 ty hk).2.1
theorem xarr_szi {s : State} {k : Nat} {ty : FieldType} {D : va_G} {cell : Cell} {vs : List Value} (hk : xk[k]? = some (.inr ty)) (hc : xcellW D s k vs cell) : cell.slots.size.toInt32 = Int32.ofNat vs.length := (hc.2.2 ty hk).2.2
theorem xarr_in {i : Int32} {vs : List Value} {v : Value} (h0 : ¬ i < 0) (hv : vs[i.toNatClampNeg]? = some v) {cell : Cell} (hz : vs.length ≤ cell.slots.size) : ¬ (i < 0 ∨ cell.slots.size ≤ i.toNatClampNeg) := by
  rintro (q | q)
  · exact h0 q
  · have := (List.getElem?_eq_some_iff.mp hv).1
    omega
theorem xarr_set {s : State} {k j : Nat} {ty : FieldType} {D : va_G} {cell : Cell} {vs : List Value} {v v0 : Value} (hK : xK D s) (hk : xk[k]? = some (.inr ty)) (hc : xcell D k vs cell) (h0 : vs[j]? = some v0) : xcell D k (vs.set j v) (cell.setSlot j v) := by
  have h3 := (hK k _ hk : ArrOfT s (D.1 k) ty ∧ va_RA s (D.1 k) ty ∧ ∀ j : Nat, D.2 k j = j).2.2
  have hjl : j < vs.length := (List.getElem?_eq_some_iff.mp h0).1
  refine ⟨hc.1, fun i w hw => ⟨Or.inl (xarr_of hk), ?_⟩, fun q => by rw [k2_slotsz, hc.2.2 q, List.length_set]⟩
  rw [h3 i]
  by_cases hij : i = j
  · subst hij
    rw [List.getElem?_set_self hjl] at hw
    cases hw
    exact Cell.slots_setSlot_self _ (k2_hasslot (xarr_at hK hk hc.2.1 h0))
  · rw [List.getElem?_set_ne (Ne.symm hij)] at hw
    rw [slot_ne _ _ (Ne.symm hij)]
    exact xarr_at hK hk hc.2.1 hw
theorem x_alen {a k : Nat} {vs : List Value} {ty : FieldType} {v : Int32} (hk : xk[k]? = some (.inr ty)) (ha : xr G h a k vs) (hv : Int32.ofNat vs.length = v) (hd : decode M.2.1 pc = .ok (.arraylength, 1)) (kk : XX l G M d (pc + 1) L (.int v :: rest) h c n P) : XX l G M d pc L (.ref a :: rest) h c n P := by
  intro p e R s m args below meth cd H locs cells slots ls hF hR hl hL hV hS hN
  obtain ⟨cell, g1, g2, g2', g3⟩ := xr_cell ha hV hS
  exact W.alen hF.1 hF.2.1 g1 (xarr_okw hk g3) ((xarr_szi hk g3).trans hv) rfl rfl hd (kk p e R s m args below meth cd H locs cells slots ls hF hR hl hL hV hS hN)
theorem x_iald {a k : Nat} {vs : List Value} {i : Int32} {v : Value} (hk : xk[k]? = some (.inr .int)) (ha : xr G h a k vs) (h0 : ¬ i < 0) (hv : vs[i.toNatClampNeg]? = some v) (hd : decode M.2.1 pc = .ok (.iaload, 1)) (kk : XX l G M d (pc + 1) L (v :: rest) h c n P) : XX l G M d pc L (.int i :: .ref a :: rest) h c n P := by
  intro p e R s m args below meth cd H locs cells slots ls hF hR hl hL hV hS hN
  obtain ⟨cell, g1, g2, g2', g3⟩ := xr_cell ha hV hS
  exact W.iald hF.1 hF.2.1 g1 (xarr_okw hk g3) g2 (xarr_in h0 hv (xarr_szw hk g3)) (xarr_at hV.1 hk g3.2.1 hv) rfl rfl hd (kk p e R s m args below meth cd H locs cells slots ls hF hR hl hL hV hS hN)
theorem x_bald {a k : Nat} {vs : List Value} {i : Int32} {v : Value} (hk : xk[k]? = some (.inr .byte)) (ha : xr G h a k vs) (h0 : ¬ i < 0) (hv : vs[i.toNatClampNeg]? = some v) (hd : decode M.2.1 pc = .ok (.baload, 1)) (kk : XX l G M d (pc + 1) L (v :: rest) h c n P) : XX l G M d pc L (.int i :: .ref a :: rest) h c n P := by
  intro p e R s m args below meth cd H locs cells slots ls hF hR hl hL hV hS hN
  obtain ⟨cell, g1, g2, g2', g3⟩ := xr_cell ha hV hS
  exact W.bald hF.1 hF.2.1 g1 (xarr_okw hk g3) g2 (xarr_in h0 hv (xarr_szw hk g3)) (xarr_at hV.1 hk g3.2.1 hv) rfl rfl hd (kk p e R s m args below meth cd H locs cells slots ls hF hR hl hL hV hS hN)
theorem x_zald {a k : Nat} {vs : List Value} {i : Int32} {v : Value} (hk : xk[k]? = some (.inr .boolean)) (ha : xr G h a k vs) (h0 : ¬ i < 0) (hv : vs[i.toNatClampNeg]? = some v) (hd : decode M.2.1 pc = .ok (.baload, 1)) (kk : XX l G M d (pc + 1) L (v :: rest) h c n P) : XX l G M d pc L (.int i :: .ref a :: rest) h c n P := by
  intro p e R s m args below meth cd H locs cells slots ls hF hR hl hL hV hS hN
  obtain ⟨cell, g1, g2, g2', g3⟩ := xr_cell ha hV hS
  exact W.zald hF.1 hF.2.1 g1 (xarr_okw hk g3) g2 (xarr_in h0 hv (xarr_szw hk g3)) (xarr_at hV.1 hk g3.2.1 hv) rfl rfl hd (kk p e R s m args below meth cd H locs cells slots ls hF hR hl hL hV hS hN)
theorem x_cald {a k : Nat} {vs : List Value} {i : Int32} {v : Value} (hk : xk[k]? = some (.inr .char)) (ha : xr G h a k vs) (h0 : ¬ i < 0) (hv : vs[i.toNatClampNeg]? = some v) (hd : decode M.2.1 pc = .ok (.caload, 1)) (kk : XX l G M d (pc + 1) L (v :: rest) h c n P) : XX l G M d pc L (.int i :: .ref a :: rest) h c n P := by
  intro p e R s m args below meth cd H locs cells slots ls hF hR hl hL hV hS hN
  obtain ⟨cell, g1, g2, g2', g3⟩ := xr_cell ha hV hS
  exact W.cald hF.1 hF.2.1 g1 (xarr_okw hk g3) g2 (xarr_in h0 hv (xarr_szw hk g3)) (xarr_at hV.1 hk g3.2.1 hv) rfl rfl hd (kk p e R s m args below meth cd H locs cells slots ls hF hR hl hL hV hS hN)
theorem x_lald {a k : Nat} {vs : List Value} {i : Int32} {v : Value} (hk : xk[k]? = some (.inr .long)) (ha : xr G h a k vs) (h0 : ¬ i < 0) (hv : vs[i.toNatClampNeg]? = some v) (hd : decode M.2.1 pc = .ok (.laload, 1)) (kk : XX l G M d (pc + 1) L (v :: rest) h c n P) : XX l G M d pc L (.int i :: .ref a :: rest) h c n P := by
  intro p e R s m args below meth cd H locs cells slots ls hF hR hl hL hV hS hN
  obtain ⟨cell, g1, g2, g2', g3⟩ := xr_cell ha hV hS
  exact W.lald hF.1 hF.2.1 g1 (xarr_okw hk g3) g2 (xarr_in h0 hv (xarr_szw hk g3)) (xarr_at hV.1 hk g3.2.1 hv) rfl rfl hd (kk p e R s m args below meth cd H locs cells slots ls hF hR hl hL hV hS hN)
theorem x_aald {a k : Nat} {vs : List Value} {i : Int32} {v : Value} {ty : FieldType} (hk : xk[k]? = some (.inr ty)) (hty : ty.isReference = true) (ha : xr G h a k vs) (h0 : ¬ i < 0) (hv : vs[i.toNatClampNeg]? = some v) (hd : decode M.2.1 pc = .ok (.aaload, 1)) (kk : XX l G M d (pc + 1) L (v :: rest) h c n P) : XX l G M d pc L (.int i :: .ref a :: rest) h c n P := by
  intro p e R s m args below meth cd H locs cells slots ls hF hR hl hL hV hS hN
  obtain ⟨cell, g1, g2, g2', g3⟩ := xr_cell ha hV hS
  exact W.aald hF.1 hF.2.1 g1 (xarr_okw hk g3) hty g2 (xarr_in h0 hv (xarr_szw hk g3)) (xarr_at hV.1 hk g3.2.1 hv) rfl rfl hd (kk p e R s m args below meth cd H locs cells slots ls hF hR hl hL hV hS hN)
theorem x_iast {a k : Nat} {vs : List Value} {i : Int32} {x : Int32} {v0 : Value} (hk : xk[k]? = some (.inr .int)) (ha : h a = some (k, vs)) (h0 : ¬ i < 0) (hv : vs[i.toNatClampNeg]? = some v0) (hd : decode M.2.1 pc = .ok (.iastore, 1)) (kk : XX l G M d (pc + 1) L rest (xup h a (k, vs.set i.toNatClampNeg (.int x))) c n P) : XX l G M d pc L (.int x :: .int i :: .ref a :: rest) h c n P := by
  intro p e R s m args below meth cd H locs cells slots ls hF hR hl hL hV hS hN
  obtain ⟨ga, cell, g1, g2, g3⟩ := hS.1 a k vs ha
  have g2' : cell.vm.isStatics = false := by rw [g2]; rfl
  refine W.iast hF.1 hF.2.1 g1 (xarr_ok hV.1 hk g3 g2') (by rw [g2]; exact fun q => (by cases q)) (xarr_in h0 hv (Nat.le_of_eq (xarr_sz hk g3).symm)) rfl rfl hd fun H' e1 e2 e3 => ?_
  exact kk p e R s m args below meth cd H' _ cells slots ls hF hR hl hL (hV.put ga e3) (hS.put ha g1 e1 e2 e3 (k2_slotsz _ _ _) g2 (xarr_set hV.1 hk g3 hv)) (va_S.put1 hN ga e2 e3)
theorem x_last {a k : Nat} {vs : List Value} {i : Int32} {x : Int64} {v0 : Value} (hk : xk[k]? = some (.inr .long)) (ha : h a = some (k, vs)) (h0 : ¬ i < 0) (hv : vs[i.toNatClampNeg]? = some v0) (hd : decode M.2.1 pc = .ok (.lastore, 1)) (kk : XX l G M d (pc + 1) L rest (xup h a (k, vs.set i.toNatClampNeg (.long x))) c n P) : XX l G M d pc L (.long x :: .int i :: .ref a :: rest) h c n P := by
  intro p e R s m args below meth cd H locs cells slots ls hF hR hl hL hV hS hN
  obtain ⟨ga, cell, g1, g2, g3⟩ := hS.1 a k vs ha
  have g2' : cell.vm.isStatics = false := by rw [g2]; rfl
  refine W.last hF.1 hF.2.1 g1 (xarr_ok hV.1 hk g3 g2') (by rw [g2]; exact fun q => (by cases q)) (xarr_in h0 hv (Nat.le_of_eq (xarr_sz hk g3).symm)) rfl rfl hd fun H' e1 e2 e3 => ?_
  exact kk p e R s m args below meth cd H' _ cells slots ls hF hR hl hL (hV.put ga e3) (hS.put ha g1 e1 e2 e3 (k2_slotsz _ _ _) g2 (xarr_set hV.1 hk g3 hv)) (va_S.put1 hN ga e2 e3)
/-- a new array of numbers -/
theorem x_newa {k : Nat} {atype : ArrayType} {ty : FieldType} {i : Int32} {z : Nat} (hk : xk[k]? = some (.inr ty)) (hty : newarray.typeOf atype = ty) (hno : ∀ C, ty ≠ .object C) (hw : Cond.arrayClass ty ∈ xT) (h0 : ¬ i < 0) (hz : i.toNatClampNeg = z) (hb : z * componentBytes ty ≤ 536870912) (hc : c + 1 ≤ xCB) (hn : n + z ≤ xSB) (hd : decode M.2.1 pc = .ok (.newarray atype, 2))
    (kk : ∀ q : Nat, h q = none → G.2.2.1 q = none → XX l G M d (pc + 2) L (.ref q :: rest) (xup h q (k, List.replicate z (defaultValue ty))) (c + 1) (n + z) P) : XX l G M d pc L (.int i :: rest) h c n P := by
  intro p e R s m args below meth cd H locs cells slots ls hF hR hl hL hV hS hN
  subst hty
  subst hz
  have hts := hV.ts args
  obtain ⟨q1, q2, q3⟩ := (hV.1 k _ hk : ArrOfT s (G.1.1 k) (newarray.typeOf atype) ∧ va_RA s (G.1.1 k) (newarray.typeOf atype) ∧ ∀ j : Nat, G.1.2 k j = j)
  obtain ⟨r1, r2, r3, r4, r5⟩ := hR
  obtain ⟨s1, s2, s3, s4, s5, s6⟩ := hS
  refine x_mono r5 fun m1 m2 => ?_
  refine x_tight (k := R.cells - 1) (j := R.slots - i.toNatClampNeg) r5 (by rw [r3]; omega) (by rw [r4]; omega) ?_
  refine W.newa hF.1 hF.2.1 (hts _ hw) rfl hd rfl h0 hb (by rw [r3]; omega) (by rw [r4]; omega) fun cA kA comp f1 f2 f3 => ?_
  have hcA : s.vm.findClass ("[" ++ (newarray.typeOf atype).toString) = some (G.1.1 k) := by
    revert q2 hno
    generalize newarray.typeOf atype = ty
    intro hno q2
    cases ty <;> first | exact q2 | exact absurd rfl (hno _)
  have hcC : cA = G.1.1 k := Option.some.inj (f1.symm.trans hcA)
  subst hcC
  have hcell : xcell G.1 k (List.replicate i.toNatClampNeg (defaultValue (newarray.typeOf atype))) { cls := G.1.1 k, slots := Array.replicate i.toNatClampNeg (defaultValue (newarray.typeOf atype)), vm := .none } := by
    refine ⟨rfl, fun j v hv => ⟨Or.inl (xarr_of hk), ?_⟩, fun _ => by simp⟩
    rw [q3 j]
    rw [List.getElem?_replicate] at hv
    simp only [Array.getElem?_replicate]
    exact hv
  obtain ⟨hS', hno'⟩ := xS.new (k := k) (z := i.toNatClampNeg) (cell := { cls := G.1.1 k, slots := Array.replicate i.toNatClampNeg (defaultValue (newarray.typeOf atype)), vm := .none }) ⟨s1, s2, s3, s4, s5, s6⟩ rfl (by simp) hcell hc hn
  exact kk H.size hno' (xkh.none hV ⟨s1, s2, s3, s4, s5, s6⟩) p e R s m args below meth cd _ locs _ _ ls hF ⟨r1, r2, r3, r4, r5⟩ hl hL hV.new hS' (va_S.new hN)
end XHP
