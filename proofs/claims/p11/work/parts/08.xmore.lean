section XMO
variable {l : Launch} {G : XG} {M : XMt} {d pc : Nat} {L : List (Option Value)} {rest : List Value} {h : XH} {c n : Nat} {P : XPo}
theorem xisr_rf {v : Value} (hv : xisr v = true) : ∃ r : Option Nat, v = va_rf r := by
  rcases xisr_or hv with rfl | ⟨a, rfl⟩
  · exact ⟨none, rfl⟩
  · exact ⟨some a, rfl⟩
theorem x_acmp_eq {v w : Value} {off : Int} {tgt : Nat} (hv : xisr v = true) (hw : xisr w = true) (hd : decode M.2.1 pc = .ok (.if_acmp .eq off, 3)) (ht : (pc : Int) + off = (tgt : Int)) (kt : v = w → XX l G M d tgt L rest h c n P) (kf : ¬ v = w → XX l G M d (pc + 3) L rest h c n P) : XX l G M d pc L (w :: v :: rest) h c n P := by
  intro p e R s m args below meth cd H locs cells slots ls hF hR hl hL hV hS hN
  obtain ⟨r, rfl⟩ := xisr_rf hv
  obtain ⟨q, rfl⟩ := xisr_rf hw
  exact lv_acmp_eq hF.1 hF.2.1 hd ht (fun e1 => kt (by rw [e1]) p e R s m args below meth cd H locs cells slots ls hF hR hl hL hV hS hN) (fun e1 => kf (fun e2 => e1 (by cases r <;> cases q <;> first | rfl | cases e2 <;> rfl)) p e R s m args below meth cd H locs cells slots ls hF hR hl hL hV hS hN)
theorem x_acmp_ne {v w : Value} {off : Int} {tgt : Nat} (hv : xisr v = true) (hw : xisr w = true) (hd : decode M.2.1 pc = .ok (.if_acmp .ne off, 3)) (ht : (pc : Int) + off = (tgt : Int)) (kt : ¬ v = w → XX l G M d tgt L rest h c n P) (kf : v = w → XX l G M d (pc + 3) L rest h c n P) : XX l G M d pc L (w :: v :: rest) h c n P := by
  intro p e R s m args below meth cd H locs cells slots ls hF hR hl hL hV hS hN
  obtain ⟨r, rfl⟩ := xisr_rf hv
  obtain ⟨q, rfl⟩ := xisr_rf hw
  exact lv_acmp_ne hF.1 hF.2.1 hd ht (fun e1 => kt (fun e2 => e1 (by cases r <;> cases q <;> first | rfl | cases e2 <;> rfl)) p e R s m args below meth cd H locs cells slots ls hF hR hl hL hV hS hN) (fun e1 => kf (by rw [e1]) p e R s m args below meth cd H locs cells slots ls hF hR hl hL hV hS hN)
/-- the class of a cell whose kind is known -/
theorem xr_cls {s : State} {H : Heap} {a k N : Nat} {vs : List Value} {C : String} {T : u_T} (hk : xk[k]? = some (.inl (C, T, N))) (ha : xr G h a k vs) (hV : xV G s H) (hS : xS G h c n H) : ∃ cell : Cell, H[a]? = some cell ∧ cell.vm.isStatics = false ∧ s.vm.findClass C = some cell.cls := by
  obtain ⟨cell, b1, -, b2, b3⟩ := xr_cell ha hV hS
  exact ⟨cell, b1, b2, by rw [xcw_cls hk b3]; exact (hV.1 k _ hk : u_Kn s C T N (G.1.1 k) (G.1.2 k)).2.1⟩
theorem x_castY {a k N idx : Nat} {vs : List Value} {C nm : String} {T : u_T} (hk : xk[k]? = some (.inl (C, T, N))) (hlk : Cond.classLink M.1.cls idx nm ∈ xT) (hcs : C = nm ∨ Cond.castable C nm ∈ xT) (ha : xr G h a k vs) (hd : decode M.2.1 pc = .ok (.checkcast idx, 3)) (kk : XX l G M d (pc + 3) L (.ref a :: rest) h c n P) : XX l G M d pc L (.ref a :: rest) h c n P := by
  intro p e R s m args below meth cd H locs cells slots ls hF hR hl hL hV hS hN
  rcases hcs with rfl | hcs
  · exact va_castS hF.1 hF.2.1 hF.2.2.2.2.1 (hV.ts args _ hlk) (hV.1 k _ hk : u_Kn s C T N (G.1.1 k) (G.1.2 k)).2 (xr_cls hk ha hV hS) hd (kk p e R s m args below meth cd H locs cells slots ls hF hR hl hL hV hS hN)
  · exact va_castY hF.1 hF.2.1 hF.2.2.2.2.1 (hV.ts args _ hlk) (hV.2.1 _ hcs) (xr_cls hk ha hV hS) hd (kk p e R s m args below meth cd H locs cells slots ls hF hR hl hL hV hS hN)
theorem x_instY {a k N idx : Nat} {vs : List Value} {C nm : String} {T : u_T} (hk : xk[k]? = some (.inl (C, T, N))) (hlk : Cond.classLink M.1.cls idx nm ∈ xT) (hcs : C = nm ∨ Cond.castable C nm ∈ xT) (ha : xr G h a k vs) (hd : decode M.2.1 pc = .ok (.instanceof idx, 3)) (kk : XX l G M d (pc + 3) L (.int 1 :: rest) h c n P) : XX l G M d pc L (.ref a :: rest) h c n P := by
  intro p e R s m args below meth cd H locs cells slots ls hF hR hl hL hV hS hN
  rcases hcs with rfl | hcs
  · exact va_instS hF.1 hF.2.1 hF.2.2.2.2.1 (hV.ts args _ hlk) (hV.1 k _ hk : u_Kn s C T N (G.1.1 k) (G.1.2 k)).2 (xr_cls hk ha hV hS) hd (kk p e R s m args below meth cd H locs cells slots ls hF hR hl hL hV hS hN)
  · exact va_instY hF.1 hF.2.1 hF.2.2.2.2.1 (hV.ts args _ hlk) (hV.2.1 _ hcs) (xr_cls hk ha hV hS) hd (kk p e R s m args below meth cd H locs cells slots ls hF hR hl hL hV hS hN)
theorem x_castN {idx : Nat} (hd : decode M.2.1 pc = .ok (.checkcast idx, 3)) (kk : XX l G M d (pc + 3) L (.null :: rest) h c n P) : XX l G M d pc L (.null :: rest) h c n P := by
  intro p e R s m args below meth cd H locs cells slots ls hF hR hl hL hV hS hN
  exact lv_castN hF.1 hF.2.1 hd (kk p e R s m args below meth cd H locs cells slots ls hF hR hl hL hV hS hN)
/-- arrays of references -/
theorem x_anew {k idx z : Nat} {C : String} {i : Int32} (hk : xk[k]? = some (.inr (.object C))) (hlk : Cond.classLink M.1.cls idx C ∈ xT) (hov : Cond.arrayOver (.object C) ∈ xT) (h0 : ¬ i < 0) (hz : i.toNatClampNeg = z) (hb : z * 4 ≤ 536870912) (hc : c + 1 ≤ xCB) (hn : n + z ≤ xSB) (hd : decode M.2.1 pc = .ok (.anewarray idx, 3))
    (kk : ∀ q : Nat, h q = none → G.2.2.1 q = none → XX l G M d (pc + 3) L (.ref q :: rest) (xup h q (k, List.replicate z .null)) (c + 1) (n + z) P) : XX l G M d pc L (.int i :: rest) h c n P := by
  intro p e R s m args below meth cd H locs cells slots ls hF hR hl hL hV hS hN
  subst hz
  have hts := hV.ts args
  obtain ⟨q1, ⟨kA0, comp0, q21, q22, q23, q24⟩, q3⟩ := (hV.1 k _ hk : ArrOfT s (G.1.1 k) (.object C) ∧ va_RA s (G.1.1 k) (.object C) ∧ ∀ j : Nat, G.1.2 k j = j)
  obtain ⟨r1, r2, r3, r4, r5⟩ := hR
  obtain ⟨s1, s2, s3, s4, s5, s6⟩ := hS
  refine x_mono r5 fun m1 m2 => ?_
  refine x_tight (k := R.cells - 1) (j := R.slots - i.toNatClampNeg) r5 (by rw [r3]; omega) (by rw [r4]; omega) ?_
  refine W.anew hF.1 hF.2.1 hF.2.2.2.2.1 (hts _ hlk) (hts _ hov) rfl hd rfl h0 hb (by rw [r3]; omega) (by rw [r4]; omega) fun cA kA comp f1 f2 f3 f4 => ?_
  have hcC : cA = G.1.1 k := Option.some.inj (f1.symm.trans q24)
  subst hcC
  have hcell : xcell G.1 k (List.replicate i.toNatClampNeg .null) { cls := G.1.1 k, slots := Array.replicate i.toNatClampNeg .null, vm := .none } := by
    refine ⟨rfl, fun j v hv => ⟨Or.inl (xarr_of hk), ?_⟩, fun _ => by simp⟩
    rw [q3 j]
    rw [List.getElem?_replicate] at hv
    simp only [Array.getElem?_replicate]
    exact hv
  obtain ⟨hS', hno'⟩ := xS.new (k := k) (z := i.toNatClampNeg) (cell := { cls := G.1.1 k, slots := Array.replicate i.toNatClampNeg .null, vm := .none }) ⟨s1, s2, s3, s4, s5, s6⟩ rfl (by simp) hcell hc hn
  exact kk H.size hno' (xkh.none hV ⟨s1, s2, s3, s4, s5, s6⟩) p e R s m args below meth cd _ locs _ _ ls hF ⟨r1, r2, r3, r4, r5⟩ hl hL hV.new hS' (va_S.new hN)
theorem x_aast {a b k kb N : Nat} {vs vb : List Value} {i : Int32} {v0 : Value} {E C : String} {T : u_T} (hk : xk[k]? = some (.inr (.object E))) (hkb : xk[kb]? = some (.inl (C, T, N))) (hcs : C = E ∨ Cond.castable C E ∈ xT) (ha : h a = some (k, vs)) (hb : xr G h b kb vb) (h0 : ¬ i < 0) (hv : vs[i.toNatClampNeg]? = some v0) (hd : decode M.2.1 pc = .ok (.aastore, 1)) (kk : XX l G M d (pc + 1) L rest (xup h a (k, vs.set i.toNatClampNeg (.ref b))) c n P) : XX l G M d pc L (.ref b :: .int i :: .ref a :: rest) h c n P := by
  intro p e R s m args below meth cd H locs cells slots ls hF hR hl hL hV hS hN
  obtain ⟨ga, cell, g1, g2, g3⟩ := hS.1 a k vs ha
  obtain ⟨cellB, b1, -, b2, b3⟩ := xr_cell hb hV hS
  obtain ⟨q1, ⟨kA, comp, q21, q22, q23, q24⟩, q3⟩ := (hV.1 k _ hk : ArrOfT s (G.1.1 k) (.object E) ∧ va_RA s (G.1.1 k) (.object E) ∧ ∀ j : Nat, G.1.2 k j = j)
  have hKb := (hV.1 kb _ hkb : u_Kn s C T N (G.1.1 kb) (G.1.2 kb)).2
  obtain ⟨kC, hkC, hkind⟩ := hKb.2
  obtain ⟨kcomp, hkcomp, -⟩ := Vm.findClass_spec q23
  have hass : s.vm.assignable cellB.cls comp = true := by
    rw [xcw_cls hkb b3]
    rcases hcs with rfl | hcs
    · have e1 : comp = G.1.1 kb := Option.some.inj (q23.symm.trans hKb.1)
      rw [e1]
      exact va_assign hKb
    · obtain ⟨c0, t0, f1, f2, f3⟩ := Cond.castable_spec (va_Nw.use (A := args) rfl (hV.2.1 _ hcs))
      cases hKb.1.symm.trans f1
      cases q23.symm.trans f2
      exact f3
  have hz := xarr_sz hk g3
  have hlt : i.toNatClampNeg < vs.length := (List.getElem?_eq_some_iff.mp hv).1
  refine W.aast hF.1 hF.2.1 g1 (fun q hq => by rw [g2] at hq; cases hq) (by rw [g2]; exact fun q => (by cases q)) (by rw [g3.1]; exact q21) q22 rfl hkcomp ⟨h0, by omega⟩ b1 (fun q hq => by rw [hq] at b2; cases b2) (by rw [xcw_cls hkb b3]; exact hkC) hass rfl rfl hd fun H' e1 e2 e3 => ?_
  exact kk p e R s m args below meth cd H' _ cells slots ls hF hR hl hL (hV.put ga e3) (hS.put ha g1 e1 e2 e3 (k2_slotsz _ _ _) g2 (xarr_set hV.1 hk g3 hv)) (va_S.put1 hN ga e2 e3)
/-- System.arraycopy of numbers -/
def xcopy (vs0 vs1 : List Value) (sp dp n : Nat) : List Value := vs1.take dp ++ ((vs0.drop sp).take n ++ vs1.drop (dp + n))
theorem xcopy_len {vs0 vs1 : List Value} {sp dp n : Nat} (h4 : sp + n ≤ vs0.length) (h5 : dp + n ≤ vs1.length) : (xcopy vs0 vs1 sp dp n).length = vs1.length := by
  unfold xcopy
  simp
  omega
theorem xcopy_at {vs0 vs1 : List Value} {sp dp n j : Nat} (h4 : sp + n ≤ vs0.length) (h5 : dp + n ≤ vs1.length) : (xcopy vs0 vs1 sp dp n)[j]? = if dp ≤ j ∧ j < dp + n then vs0[sp + (j - dp)]? else vs1[j]? := by
  unfold xcopy
  rw [List.getElem?_append]
  have l1 : (vs1.take dp).length = dp := by rw [List.length_take]; omega
  rw [l1]
  by_cases hj : j < dp
  · rw [if_pos hj, if_neg (by omega), List.getElem?_take, if_pos hj]
  · rw [if_neg hj, List.getElem?_append]
    have l2 : ((vs0.drop sp).take n).length = n := by rw [List.length_take, List.length_drop]; omega
    rw [l2]
    by_cases hj2 : j - dp < n
    · rw [if_pos hj2, if_pos (by omega), List.getElem?_take, if_pos hj2, List.getElem?_drop]
    · rw [if_neg hj2, if_neg (by omega), List.getElem?_drop]
      congr 1
      omega
theorem xnn {z : Int32} (hz : ¬ z < 0) : z.toInt = (z.toNatClampNeg : Int) := by
  have hz0 : (0 : Int) ≤ z.toInt := by
    have := Int32.not_lt.mp hz
    simpa using Int32.le_iff_toInt_le.mp this
  show z.toInt = ((z.toInt.toNat : Nat) : Int)
  omega
set_option maxRecDepth 20000 in
theorem x_copyP {a0 a1 k0 k idx : Nat} {vs0 vs1 : List Value} {ty : FieldType} {sp dp nn : Int32} (hk0 : xk[k0]? = some (.inr ty)) (hk : xk[k]? = some (.inr ty)) (hpr : refKind ty = false) (hlk : Cond.methodLink M.1.cls idx arraycopyName ∈ xT) (hna : Cond.native arraycopyName ∈ xT) (hsta : Cond.static arraycopyName ∈ xT) (hini : Cond.initialized "java/lang/System" ∈ xT)
    (ha0 : xr G h a0 k0 vs0) (ha1 : h a1 = some (k, vs1)) (h1 : ¬ sp < 0) (h2 : ¬ dp < 0) (h3 : ¬ nn < 0) (h4 : sp.toNatClampNeg + nn.toNatClampNeg ≤ vs0.length) (h5 : dp.toNatClampNeg + nn.toNatClampNeg ≤ vs1.length) (hfit : ∀ v ∈ vs0, fits ty v = true) (hr : (rest.map fun v => v.category).sum ≤ 8) (hd : decode M.2.1 pc = .ok (.invokestatic idx, 3))
    (kk : XX l G M (d + 1) (pc + 3) L rest (xup h a1 (k, xcopy vs0 vs1 sp.toNatClampNeg dp.toNatClampNeg nn.toNatClampNeg)) c n P) : XX l G M (d + 1) pc L (.int nn :: .int dp :: .ref a1 :: .int sp :: .ref a0 :: rest) h c n P := by
  intro p e R s m args below meth cd H locs cells slots ls hF hR hl hL hV hS hN
  have hts := hV.ts args
  have hR0 := hR
  obtain ⟨r1, r2, r3, r4, r5⟩ := hR
  obtain ⟨cs, g1, g2, g2', g3⟩ := xr_cell ha0 hV hS
  obtain ⟨ga, cd1, e1, e2, e3⟩ := hS.1 a1 k vs1 ha1
  have hA := (hV.1 k _ hk : ArrOfT s (G.1.1 k) ty ∧ va_RA s (G.1.1 k) ty ∧ ∀ j : Nat, G.1.2 k j = j)
  obtain ⟨-, kA, hkA, cmA, hkk⟩ := hA.1 0 (fun _ => .null)
  have hkA' : s.vm.classes[G.1.1 k]? = some kA := hkA
  obtain ⟨-, kA0, hkA0', cmA0, hkk0⟩ := xarr_okw hk0 g3
  have z0 := xarr_szw hk0 g3
  have z1 := xarr_sz hk e3
  have hat : ∀ j, j < vs0.length → cs.slots[j]? = vs0[j]? := fun j hj => by
    rw [List.getElem?_eq_getElem hj]
    exact xarr_at hV.1 hk0 g3.2.1 (List.getElem?_eq_getElem hj)
  have hgd : ∀ j (hj : j < vs0.length), cs.slots.getD j .null = vs0[j] := fun j hj => by
    rw [Array.getD_eq_getD_getElem?, hat j hj, List.getElem?_eq_getElem hj]
    rfl
  have hnw : nativeFrameWords "java/lang/System" "arraycopy" 5 ≤ 1000 := by decide +kernel
  intro T hT X
  obtain ⟨vm', X', step⟩ := X.arraycopy hF.1 hF.2.2.2.2.1 (hts _ hlk) (hts _ hna) (hts _ hsta) (hts _ hini) (src := a0) (dst := a1) (cs := cs) (cd := cd1) (srcPos := sp) (destPos := dp) (n := nn) (by rw [hT]; exact g1) (by rw [hT]; exact e1)
    (fun q hq => by rw [hq] at g2'; cases g2') (fun q hq => by rw [e2] at hq; cases hq) g2 (by rw [e2]; exact fun q => (by cases q)) hkA0' (by rw [e3.1]; exact hkA') hkk0 hkk (by simp [hpr]) h1 h2 h3
    (by rw [xnn h1, xnn h3]; omega) (by rw [xnn h2, xnn h3, z1]; omega)
    (fun vm₁ _ i hi => by
      have hj : sp.toNatClampNeg + i < vs0.length := by omega
      have hf := hfit _ (List.getElem_mem hj)
      rw [hgd _ hj]
      refine ⟨hf, ?_⟩
      revert hf
      generalize vs0[sp.toNatClampNeg + i] = v
      intro hf
      cases v <;> first | exact True.intro | (exfalso; cases ty <;> simp [refKind] at hpr <;> simp [fits] at hf))
    (g := F0 m pc ls (.int nn :: .int dp :: .ref a1 :: .int sp :: .ref a0 :: rest)) rfl (by show ls.size = _; rw [hl.1, hL, hF.2.2.1]) (rest := rest) rfl (by rw [hF.2.1]; exact hd) (by rw [r1]; omega) (by show 2 * 0 + _ + _ ≤ _; rw [r2]; omega)
  have hlt : a1 < H.size := (Array.getElem?_eq_some_iff.mp e1).1
  have hheap : ((T.setVm vm').setCell a1 (copied cs cd1 sp dp nn)).heap = H.setIfInBounds a1 (copied cs cd1 sp dp nn) := by rw [← hT]; rfl
  have oq : ∀ q : Nat, q ≠ a1 → (H.setIfInBounds a1 (copied cs cd1 sp dp nn))[q]? = H[q]? := fun q hq => by simp [Array.getElem?_setIfInBounds, Ne.symm hq]
  have oa : (H.setIfInBounds a1 (copied cs cd1 sp dp nn))[a1]? = some (copied cs cd1 sp dp nn) := by simp [Array.getElem?_setIfInBounds, hlt]
  obtain ⟨f1, f2, f3, -, -⟩ := Cell.storeRun_facts cd1 dp.toNatClampNeg (cs.stretch sp.toNatClampNeg nn.toNatClampNeg)
  have hsl : (cs.stretch sp.toNatClampNeg nn.toNatClampNeg).length = nn.toNatClampNeg := by simp [Cell.stretch]
  have hcell : xcell G.1 k (xcopy vs0 vs1 sp.toNatClampNeg dp.toNatClampNeg nn.toNatClampNeg) (copied cs cd1 sp dp nn) := by
    refine ⟨f1.trans e3.1, fun j v hv => ⟨Or.inl (xarr_of hk), ?_⟩, fun _ => by rw [f3, z1, xcopy_len h4 h5]⟩
    rw [hA.2.2 j]
    show (cd1.storeRun dp.toNatClampNeg (cs.stretch sp.toNatClampNeg nn.toNatClampNeg)).slots[j]? = some v
    rw [Cell.storeRun_get _ _ _ _ (by rw [hsl, z1]; exact h5), hsl]
    rw [xcopy_at h4 h5] at hv
    by_cases hj : dp.toNatClampNeg ≤ j ∧ j < dp.toNatClampNeg + nn.toNatClampNeg
    · rw [if_pos hj] at hv ⊢
      unfold Cell.stretch
      rw [List.getElem?_map, List.getElem?_range (by omega)]
      have hj' : sp.toNatClampNeg + (j - dp.toNatClampNeg) < vs0.length := by omega
      rw [List.getElem?_eq_getElem hj'] at hv
      simp only [Option.map_some]
      rw [hgd _ hj']
      exact hv
    · rw [if_neg hj] at hv ⊢
      exact xarr_at hV.1 hk e3.2.1 hv
  obtain ⟨t, a1', b1⟩ := kk p e R s m args below meth cd _ _ cells slots ls hF hR0 hl hL (hV.put ga oq) (hS.put ha1 e1 oa (by simp) oq f3 (f2.trans e2) hcell) ⟨by simp; exact hN.1, fun q q1 q2 => by
      rw [oq q (fun e => q2 (by rw [e]; exact ga))]
      exact hN.2.1 q q1 q2, fun q hq => by
      rcases List.mem_append.mp hq with hh | hh
      · exact hN.2.2 q hh
      · obtain ⟨z, -, hz⟩ := List.mem_map.mp hh
        rw [← hz]
        exact ga⟩ _ hheap X'
  exact ⟨t, step t a1', b1⟩
/-- Math.min, Math.max -/
theorem x_mmin {idx : Nat} {x y : Int32} (hlk : Cond.methodLink M.1.cls idx Lib.Math.min.name ∈ xT) (hsta : Cond.static Lib.Math.min.name ∈ xT) (hini : Cond.initialized "java/lang/Math" ∈ xT) (hco : Cond.code Lib.Math.min.name Lib.Math.min.code 2 (some .int) ∈ xT) (hr : (rest.map fun v => v.category).sum ≤ 8) (hd : decode M.2.1 pc = .ok (.invokestatic idx, 3)) (kk : XX l G M (d + 1) (pc + 3) L (.int (if y < x then y else x) :: rest) h c n P) : XX l G M (d + 1) pc L (.int y :: .int x :: rest) h c n P := by
  intro p e R s m args below meth cd H locs cells slots ls hF hR hl hL hV hS hN
  have hts := hV.ts args
  have hR0 := hR
  obtain ⟨r1, r2, r3, r4, r5⟩ := hR
  refine x_end hR0 hS ?_
  exact va_mmin hF.1 hF.2.1 (by rw [hl.1, hL, hF.2.2.1]) hF.2.2.2.2.1 (hts _ hlk) (hts _ hsta) (hts _ hini) (hts _ hco) (by rw [r1]; omega) (by rw [r2]; omega) (Nat.le_refl _) (Nat.le_refl _) hd (kk p e R s m args below meth cd H locs _ _ ls hF hR0 hl hL hV hS hN)
theorem x_mmax {idx : Nat} {x y : Int32} (hlk : Cond.methodLink M.1.cls idx Lib.Math.max.name ∈ xT) (hsta : Cond.static Lib.Math.max.name ∈ xT) (hini : Cond.initialized "java/lang/Math" ∈ xT) (hco : Cond.code Lib.Math.max.name Lib.Math.max.code 2 (some .int) ∈ xT) (hr : (rest.map fun v => v.category).sum ≤ 8) (hd : decode M.2.1 pc = .ok (.invokestatic idx, 3)) (kk : XX l G M (d + 1) (pc + 3) L (.int (if x < y then y else x) :: rest) h c n P) : XX l G M (d + 1) pc L (.int y :: .int x :: rest) h c n P := by
  intro p e R s m args below meth cd H locs cells slots ls hF hR hl hL hV hS hN
  have hts := hV.ts args
  have hR0 := hR
  obtain ⟨r1, r2, r3, r4, r5⟩ := hR
  refine x_end hR0 hS ?_
  exact va_mmax hF.1 hF.2.1 (by rw [hl.1, hL, hF.2.2.1]) hF.2.2.2.2.1 (hts _ hlk) (hts _ hsta) (hts _ hini) (hts _ hco) (by rw [r1]; omega) (by rw [r2]; omega) (Nat.le_refl _) (Nat.le_refl _) hd (kk p e R s m args below meth cd H locs _ _ ls hF hR0 hl hL hV hS hN)
end XMO
