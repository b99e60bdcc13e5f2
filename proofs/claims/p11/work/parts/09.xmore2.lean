section XM2
variable {l : Launch} {G : XG} {M : XMt} {d pc : Nat} {L : List (Option Value)} {rest : List Value} {h : XH} {c n : Nat} {P : XPo}
theorem x_bast {a k : Nat} {vs : List Value} {i x y : Int32} {v0 : Value} (hk : xk[k]? = some (.inr .byte)) (ha : h a = some (k, vs)) (h0 : ¬ i < 0) (hv : vs[i.toNatClampNeg]? = some v0) (hy : narrow .byte (.int x) = .int y) (hd : decode M.2.1 pc = .ok (.bastore, 1)) (kk : XX l G M d (pc + 1) L rest (xup h a (k, vs.set i.toNatClampNeg (.int y))) c n P) : XX l G M d pc L (.int x :: .int i :: .ref a :: rest) h c n P := by
  intro p e R s m args below meth cd H locs cells slots ls hF hR hl hL hV hS hN
  obtain ⟨ga, cell, g1, g2, g3⟩ := hS.1 a k vs ha
  have g2' : cell.vm.isStatics = false := by rw [g2]; rfl
  refine W.bast hF.1 hF.2.1 g1 (xarr_ok hV.1 hk g3 g2') (by rw [g2]; exact fun q => (by cases q)) (xarr_in h0 hv (Nat.le_of_eq (xarr_sz hk g3).symm)) rfl rfl hd fun H' e1 e2 e3 => ?_
  rw [hy] at e1
  exact kk p e R s m args below meth cd H' _ cells slots ls hF hR hl hL (hV.put ga e3) (hS.put ha g1 e1 e2 e3 (k2_slotsz _ _ _) g2 (xarr_set hV.1 hk g3 hv)) (va_S.put1 hN ga e2 e3)
theorem x_zast {a k : Nat} {vs : List Value} {i x y : Int32} {v0 : Value} (hk : xk[k]? = some (.inr .boolean)) (ha : h a = some (k, vs)) (h0 : ¬ i < 0) (hv : vs[i.toNatClampNeg]? = some v0) (hy : narrow .boolean (.int x) = .int y) (hd : decode M.2.1 pc = .ok (.bastore, 1)) (kk : XX l G M d (pc + 1) L rest (xup h a (k, vs.set i.toNatClampNeg (.int y))) c n P) : XX l G M d pc L (.int x :: .int i :: .ref a :: rest) h c n P := by
  intro p e R s m args below meth cd H locs cells slots ls hF hR hl hL hV hS hN
  obtain ⟨ga, cell, g1, g2, g3⟩ := hS.1 a k vs ha
  have g2' : cell.vm.isStatics = false := by rw [g2]; rfl
  refine W.zast hF.1 hF.2.1 g1 (xarr_ok hV.1 hk g3 g2') (by rw [g2]; exact fun q => (by cases q)) (xarr_in h0 hv (Nat.le_of_eq (xarr_sz hk g3).symm)) rfl rfl hd fun H' e1 e2 e3 => ?_
  rw [hy] at e1
  exact kk p e R s m args below meth cd H' _ cells slots ls hF hR hl hL (hV.put ga e3) (hS.put ha g1 e1 e2 e3 (k2_slotsz _ _ _) g2 (xarr_set hV.1 hk g3 hv)) (va_S.put1 hN ga e2 e3)
/-- super.m(..) -/
def xCU (own : String) (idx : Nat) (Mc : XMt) (nn : Nat) : Prop := xcb Mc nn ∧ Mc.1.name ≠ "<init>" ∧ Cond.instanceMethod Mc.1 ∈ xT ∧ Cond.methodLink own idx Mc.1 ∈ xT ∧ Cond.sameMethod Mc.1.cls Mc.1.cls Mc.1.name Mc.1.desc ∈ xT ∧ Cond.superclass own Mc.1.cls ∈ xT
theorem x_callU {Mc : XMt} {As st vs : List Value} {b k idx nn N : Nat} {C : String} {T : u_T} {P' : Option Value → XH → Nat → Nat → Prop} (hk : xk[k]? = some (.inl (C, T, N))) (hx : xCU M.1.cls idx Mc nn) (ha : xr G h b k vs) (hM : XM l G d Mc (.ref b :: As) h c n P') (hn : As.length = nn) (hst : st = As.reverse ++ .ref b :: rest) (hr : (rest.map fun v => v.category).sum ≤ 8) (hd : decode M.2.1 pc = .ok (.invokespecial idx, 3))
    (kk : ∀ (v : Option Value) (h' : XH) (c' n' : Nat), P' v h' c' n' → XX l G M (d + 1) (pc + 3) L (v.toList ++ rest) h' c' n' P) : XX l G M (d + 1) pc L st h c n P := by
  intro p e R s m args below meth cd H locs cells slots ls hF hR hl hL hV hS hN
  obtain ⟨hb, hno, hins, hlk, hsm, hsu⟩ := hx
  have hts := hV.ts args
  have hR0 := hR
  obtain ⟨r1, r2, r3, r4, r5⟩ := hR
  have hS0 := hS
  obtain ⟨s1, s2, s3, s4, s5, s6⟩ := hS
  have h41 := hb.2.2.1
  refine x_mono r5 fun m1 m2 => ?_
  refine x_tight (k := H.size - s.heap.size) (j := xU G.2.1 H - xU G.2.1 s.heap) r5 (by omega) (by omega) ?_
  have fin := fun (v : Option Value) (h' : XH) (c' n' : Nat) (H1 : Heap) (locs1 : List Loc) (hp : P' v h' c' n') (hS1 : xS G h' c' n' H1) (hN1 : va_S (xA G) s.heap H1 locs1) (hk1 : ∀ q : Nat, q < H.size → ¬ xA G q → H1[q]? = H[q]?) =>
    kk v h' c' n' hp p e R s m args below meth cd H1 locs1 (H.size - s.heap.size + (xCB - (H.size - G.2.1))) (xU G.2.1 H - xU G.2.1 s.heap + (xSB - xU G.2.1 H)) ls hF hR0 hl hL (hV.kept hk1) hS1 hN1
  obtain ⟨cellB, b1, -, b2, b3⟩ := xr_cell ha hV hS0
  have hKn := (hV.1 k _ hk : u_Kn s C T N (G.1.1 k) (G.1.2 k)).2
  have hcB : s.vm.findClass C = some cellB.cls := by rw [xcw_cls hk b3]; exact hKn.1
  have hp : PreV s H C b (va_Pc (.ref b :: As) (xPre G h c n (H.size - G.2.1) (xU G.2.1 H))) As := ⟨xPre.blind, ⟨cellB, b1, b2, hcB⟩, fun U hU hW => xPre.at hV hS0 hU hW⟩
  have hf : H.size - s.heap.size + (xCB - (H.size - G.2.1)) ≤ R.cells ∧ xU G.2.1 H - xU G.2.1 s.heap + (xSB - xU G.2.1 H) ≤ R.slots := ⟨by rw [r3]; omega, by rw [r4]; omega⟩
  have hRR : (xRm d (H.size - G.2.1) (xU G.2.1 H)).frames + 1 ≤ R.frames ∧ 8 + (Mc.2.2.1 + 11) + (xRm d (H.size - G.2.1) (xU G.2.1 H)).locals ≤ R.locals := ⟨by rw [r1]; exact Nat.le_refl _, by rw [r2]; show 8 + (Mc.2.2.1 + 11) + (d * 60 + 11000) ≤ _; omega⟩
  have hcs : va_CS R s args M.1.cls idx Mc.1 Mc.2.1 Mc.2.2.1 Mc.2.2.2 [Cond.code Mc.1 Mc.2.1 Mc.2.2.1 Mc.2.2.2] (xRm d (H.size - G.2.1) (xU G.2.1 H)) (xCB - (H.size - G.2.1)) (xSB - xU G.2.1 H) nn := by
    refine ⟨⟨rfl, rfl, hRR.1, hRR.2, pay_in hts (xcb_good hb), List.mem_singleton.mpr rfl⟩, hts _ hlk, hts _ hsm, hts _ hsu, hts _ hins, hts _ hb.2.1, hts _ hb.1, hno, fun sig hsig => ?_⟩
    have h2 := hb.2.2.2.2.2
    rw [hsig] at h2
    exact (Option.some.inj h2).symm
  exact x_cont (va_runSU (Ts := xT) (C := C) hKn (bytes := Mc.2.1) (maxL := Mc.2.2.1) (ret := Mc.2.2.2) ⟨hF.1, hF.2.1, hF.2.2.1, hF.2.2.2.2.1, hts⟩ (hM (H.size - G.2.1) (xU G.2.1 H)) hcs hp rfl hn (hl.1.trans hL) hst (by show 2 * 0 + _ ≤ 8; omega) hd hf) hN fin
/-- a contract with less room needs no more -/
theorem xr_h {a k : Nat} {vs : List Value} (ha : h a = some (k, vs)) : xr G h a k vs := Or.inl ha
theorem xr_up {a q k : Nat} {vs : List Value} {e : Nat × List Value} (ha : xr G h a k vs) (hq : h q = none) : xr G (xup h q e) a k vs := by
  rcases ha with ha | ha
  · refine Or.inl ?_
    rw [xup_ne (fun z => by rw [z, hq] at ha; cases ha)]
    exact ha
  · exact Or.inr ha
theorem xup_old {a q k : Nat} {vs : List Value} {e : Nat × List Value} (ha : h a = some (k, vs)) (hq : h q = none) : xup h q e a = some (k, vs) := by
  rw [xup_ne (fun z => by rw [z, hq] at ha; cases ha)]
  exact ha
theorem xup_up {q : Nat} {e e' : Nat × List Value} : xup (xup h q e) q e' = xup h q e' := by
  funext z
  by_cases hz : z = q
  · subst hz; rw [xup_self, xup_self]
  · rw [xup_ne hz, xup_ne hz, xup_ne hz]
theorem xup_cm {q r : Nat} {e e' : Nat × List Value} (hqr : q ≠ r) : xup (xup h q e) r e' = xup (xup h r e') q e := by
  funext z
  by_cases hz : z = q
  · subst hz; rw [xup_ne hqr, xup_self, xup_self]
  · rw [xup_ne hz]
    by_cases hr : z = r
    · subst hr; rw [xup_self, xup_self]
    · rw [xup_ne hr, xup_ne hr, xup_ne hz]
theorem x_top {v w : Value} (e : v = w) (k : XX l G M d pc L (w :: rest) h c n P) : XX l G M d pc L (v :: rest) h c n P := by rw [e]; exact k
theorem x_st {st st' : List Value} (e : st = st') (k : XX l G M d pc L st' h c n P) : XX l G M d pc L st h c n P := by rw [e]; exact k
theorem x_lo {L' : List (Option Value)} {st : List Value} (e : L = L') (k : XX l G M d pc L' st h c n P) : XX l G M d pc L st h c n P := by rw [e]; exact k
theorem x_hp {st : List Value} {h' : XH} (e : h = h') (k : XX l G M d pc L st h' c n P) : XX l G M d pc L st h c n P := by rw [e]; exact k
theorem xarr_nm {s : State} {cA : ClassId} {ty : FieldType} (hno : ∀ C, ty ≠ .object C) (h : va_RA s cA ty) : s.vm.findClass ("[" ++ ty.toString) = some cA := by
  cases ty <;> first | exact h | exact absurd rfl (hno _)
/-- a[].clone() of an array of numbers -/
theorem x_clone {a k k1 idx : Nat} {vs : List Value} {ty : FieldType} {ad : String} (hk : xk[k]? = some (.inr ty)) (hk1 : xk[k1]? = some (.inr ty)) (hno : ∀ C, ty ≠ .object C) (had : "[" ++ ty.toString = ad)
    (w1 : Cond.methodLink M.1.cls idx ⟨ad, "clone", "()Ljava/lang/Object;"⟩ ∈ xT) (w2 : Cond.sameMethod ad "java/lang/Object" "clone" "()Ljava/lang/Object;" ∈ xT) (w3 : Cond.native ⟨"java/lang/Object", "clone", "()Ljava/lang/Object;"⟩ ∈ xT) (w4 : Cond.instanceMethod ⟨"java/lang/Object", "clone", "()Ljava/lang/Object;"⟩ ∈ xT) (w5 : Cond.selects ad ⟨ad, "clone", "()Ljava/lang/Object;"⟩ ⟨"java/lang/Object", "clone", "()Ljava/lang/Object;"⟩ ∈ xT) (w6 : Cond.castable ad "java/lang/Cloneable" ∈ xT)
    (ha : h a = some (k, vs)) (hfit : ∀ v ∈ vs, fits ty v = true) (hc : c + 1 ≤ xCB) (hn : n + vs.length ≤ xSB) (hr : (rest.map fun v => v.category).sum ≤ 8) (hd : decode M.2.1 pc = .ok (.invokevirtual idx, 3))
    (kk : ∀ q : Nat, h q = none → G.2.2.1 q = none → XX l G M (d + 1) (pc + 3) L (.ref q :: rest) (xup h q (k1, vs)) (c + 1) (n + vs.length) P) : XX l G M (d + 1) pc L (.ref a :: rest) h c n P := by
  intro p e R s m args below meth cd H locs cells slots ls hF hR hl hL hV hS hN
  have hts := hV.ts args
  have hS0 := hS
  obtain ⟨r1, r2, r3, r4, r5⟩ := hR
  obtain ⟨s1, s2, s3, s4, s5, s6⟩ := hS
  obtain ⟨-, cell, g1, g2o, g3⟩ := hS0.1 a k vs ha
  have g2 : cell.vm ≠ .unknown := by rw [g2o]; exact fun q => (by cases q)
  have g2' : cell.vm.isStatics = false := by rw [g2o]; rfl
  have hA := (hV.1 k _ hk : ArrOfT s (G.1.1 k) ty ∧ va_RA s (G.1.1 k) ty ∧ ∀ j : Nat, G.1.2 k j = j)
  have hnm : s.vm.findClass ad = some (G.1.1 k) := by rw [← had]; exact xarr_nm hno hA.2.1
  have hz := xarr_sz hk g3
  have hat : ∀ (i : Nat) (v : Value), cell.slots[i]? = some v → v ∈ vs := fun i v hv => by
    have hi : i < vs.length := by rw [← hz]; exact (Array.getElem?_eq_some_iff.mp hv).1
    have := xarr_at hV.1 hk g3.2.1 (List.getElem?_eq_getElem hi)
    rw [hv] at this
    cases this
    exact List.getElem_mem hi
  refine x_mono r5 fun m1 m2 => ?_
  refine x_tight (k := R.cells - 1) (j := R.slots - vs.length) r5 (by rw [r3]; omega) (by rw [r4]; omega) ?_
  obtain ⟨c0, t0', f1, f2, f3⟩ := Cond.castable_spec (va_Nw.use (A := args) rfl (hV.2.1 _ w6))
  cases hnm.symm.trans f1
  intro T hT X
  obtain ⟨-, kA, hkA, comp, hkind⟩ := State.isArrayOf_alike X.warmed.alike (hA.1 0 (fun _ => .null))
  obtain ⟨-, kS, hkS, compS, hkindS⟩ := hA.1 0 (fun _ => .null)
  obtain ⟨vm', X', st⟩ := X.cloneArray hF.1 hF.2.2.2.2.1 (hts _ w1) (hts _ w2) (hts _ w3) (hts _ w4) (hts _ w5) (a := a) (cell := cell) (by rw [hT]; exact g1) (fun q hq => (by rw [hq] at g2'; cases g2')) g2 (by rw [g3.1]; exact hnm) f2 (by rw [g3.1]; exact f3)
    (fun i v hv => by
      rw [g3.1]
      have hk' : T.vm.classes[G.1.1 k]? = some kA := hkA
      simpa [State.fitsSlot, State.slotType?, hk', hkind] using hfit v (hat i v hv))
    (g := F0 m pc ls (.ref a :: rest)) rfl (by show ls.size = _; rw [hl.1, hL, hF.2.2.1]) rfl (by rw [hF.2.1]; exact hd) (by rw [r1]; omega) (by show 2 * 0 + _ + 14 ≤ _; rw [r2]; omega) (by rw [r3]; omega) (by rw [r4, hz]; omega) (hloader := by rw [g3.1]; exact Vm.clonesLoader_of_array hkS hkindS)
  have hA1 := (hV.1 k1 _ hk1 : ArrOfT s (G.1.1 k1) ty ∧ va_RA s (G.1.1 k1) ty ∧ ∀ j : Nat, G.1.2 k1 j = j)
  have hkk1 : G.1.1 k = G.1.1 k1 := Option.some.inj ((xarr_nm hno hA.2.1).symm.trans (xarr_nm hno hA1.2.1))
  have hcell : xcell G.1 k1 vs ({ cls := cell.cls, slots := cell.slots } : Cell) := ⟨g3.1.trans hkk1, fun j v hv => ⟨Or.inl (xarr_of hk1), by rw [hA1.2.2 j]; exact xarr_at hV.1 hk g3.2.1 hv⟩, fun _ => hz⟩
  obtain ⟨hS', hno'⟩ := xS.new (k := k1) (z := vs.length) (cell := { cls := cell.cls, slots := cell.slots }) hS0 rfl hz hcell hc hn
  obtain ⟨t, b1, b2⟩ := kk H.size hno' (xkh.none hV hS0) p e R s m args below meth cd _ locs _ _ ls hF ⟨r1, r2, r3, r4, r5⟩ hl hL hV.new hS' (va_S.new hN) _ (by rw [← hT]; rfl) X'
  refine ⟨t, st t ?_, b2⟩
  rw [hT]
  exact b1
theorem x_castA {a k idx : Nat} {vs : List Value} {ty : FieldType} {nm : String} (hk : xk[k]? = some (.inr ty)) (hno : ∀ C, ty ≠ .object C) (had : "[" ++ ty.toString = nm) (hlk : Cond.classLink M.1.cls idx nm ∈ xT) (ha : h a = some (k, vs)) (hd : decode M.2.1 pc = .ok (.checkcast idx, 3)) (kk : XX l G M d (pc + 3) L (.ref a :: rest) h c n P) : XX l G M d pc L (.ref a :: rest) h c n P := by
  intro p e R s m args below meth cd H locs cells slots ls hF hR hl hL hV hS hN
  obtain ⟨-, cell, g1, g2, g3⟩ := hS.1 a k vs ha
  have g2' : cell.vm.isStatics = false := by rw [g2]; rfl
  have hA := (hV.1 k _ hk : ArrOfT s (G.1.1 k) ty ∧ va_RA s (G.1.1 k) ty ∧ ∀ j : Nat, G.1.2 k j = j)
  exact va_castE hF.1 hF.2.1 hF.2.2.2.2.1 (hV.ts args _ hlk) ⟨cell, g1, g2', by rw [g3.1, ← had]; exact xarr_nm hno hA.2.1⟩ hd (kk p e R s m args below meth cd H locs cells slots ls hF hR hl hL hV hS hN)
end XM2
