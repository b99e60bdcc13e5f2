section XM3
variable {l : Launch} {G : XG} {M : XMt} {d pc : Nat} {L : List (Option Value)} {rest : List Value} {h : XH} {c n : Nat} {P : XPo}
/-- Object[].class -/
theorem x_ldcM {idx : Nat} (hlk : Cond.classLink M.1.cls idx "[Ljava/lang/Object;" ∈ xT) (hd : decode M.2.1 pc = .ok (.ldc idx, 2)) (kk : XX l G M d (pc + 2) L (.ref (G.2.2.2.1 101) :: rest) h c n P) : XX l G M d pc L rest h c n P := by
  intro p e R s m args below meth cd H locs cells slots ls hF hR hl hL hV hS hN
  exact va_ldcM hF.1 hF.2.1 hF.2.2.2.2.1 (hV.ts args _ hlk) hV.2.2.1.2.1.1 hd (kk p e R s m args below meth cd H locs cells slots ls hF hR hl hL hV hS hN)
/-- getClass() of an Object[] -/
theorem x_getC {a k idx : Nat} {vs : List Value} (hk : xk[k]? = some (.inr (.object "java/lang/Object"))) (w1 : Cond.methodLink M.1.cls idx ⟨"java/lang/Object", "getClass", "()Ljava/lang/Class;"⟩ ∈ xT) (w2 : Cond.declares ⟨"java/lang/Object", "getClass", "()Ljava/lang/Class;"⟩ ∈ xT) (w3 : Cond.selects "[Ljava/lang/Object;" ⟨"java/lang/Object", "getClass", "()Ljava/lang/Class;"⟩ ⟨"java/lang/Object", "getClass", "()Ljava/lang/Class;"⟩ ∈ xT) (w4 : Cond.instanceMethod ⟨"java/lang/Object", "getClass", "()Ljava/lang/Class;"⟩ ∈ xT) (w5 : Cond.native ⟨"java/lang/Object", "getClass", "()Ljava/lang/Class;"⟩ ∈ xT)
    (ha : h a = some (k, vs)) (hr : (rest.map fun v => v.category).sum ≤ 8) (hd : decode M.2.1 pc = .ok (.invokevirtual idx, 3)) (kk : XX l G M (d + 1) (pc + 3) L (.ref (G.2.2.2.1 101) :: rest) h c n P) : XX l G M (d + 1) pc L (.ref a :: rest) h c n P := by
  intro p e R s m args below meth cd H locs cells slots ls hF hR hl hL hV hS hN
  have hts := hV.ts args
  have hR0 := hR
  obtain ⟨r1, r2, r3, r4, r5⟩ := hR
  obtain ⟨-, cell, g1, g2, g3⟩ := hS.1 a k vs ha
  have g2' : cell.vm.isStatics = false := by rw [g2]; rfl
  have hA := (hV.1 k _ hk : ArrOfT s (G.1.1 k) (.object "java/lang/Object") ∧ va_RA s (G.1.1 k) (.object "java/lang/Object") ∧ ∀ j : Nat, G.1.2 k j = j)
  exact va_getC hF.1 hF.2.1 (by rw [hl.1, hL, hF.2.2.1]) hF.2.2.2.2.1 (hts _ w1) (hts _ w2) (hts _ w3) (hts _ w4) (hts _ w5) hV.2.2.1.2.1.1 ⟨cell, g1, g2', by rw [g3.1]; exact va_nmO hA.2.1 (by decide +kernel)⟩ (by rw [r1]; omega) (by rw [r2]; omega) hd (kk p e R s m args below meth cd H locs cells slots ls hF hR0 hl hL hV hS hN)
/-- a value that an Object[] may hold -/
def xel (G : XG) (h : XH) (E : String) (v : Value) : Prop := v = .null ∨ ∃ (a k N : Nat) (vs : List Value) (C : String) (T : u_T), v = .ref a ∧ xr G h a k vs ∧ xk[k]? = some (.inl (C, T, N)) ∧ Cond.castable C E ∈ xT
theorem x_copyR {a0 a1 k idx : Nat} {vs0 vs1 : List Value} {E : String} {sp dp nn : Int32} (hk : xk[k]? = some (.inr (.object E))) (hlk : Cond.methodLink M.1.cls idx arraycopyName ∈ xT) (hna : Cond.native arraycopyName ∈ xT) (hsta : Cond.static arraycopyName ∈ xT) (hini : Cond.initialized "java/lang/System" ∈ xT)
    (ha0 : h a0 = some (k, vs0)) (ha1 : h a1 = some (k, vs1)) (h1 : ¬ sp < 0) (h2 : ¬ dp < 0) (h3 : ¬ nn < 0) (h4 : sp.toNatClampNeg + nn.toNatClampNeg ≤ vs0.length) (h5 : dp.toNatClampNeg + nn.toNatClampNeg ≤ vs1.length) (hel : ∀ v ∈ vs0, xel G h E v) (hr : (rest.map fun v => v.category).sum ≤ 8) (hd : decode M.2.1 pc = .ok (.invokestatic idx, 3))
    (kk : XX l G M (d + 1) (pc + 3) L rest (xup h a1 (k, xcopy vs0 vs1 sp.toNatClampNeg dp.toNatClampNeg nn.toNatClampNeg)) c n P) : XX l G M (d + 1) pc L (.int nn :: .int dp :: .ref a1 :: .int sp :: .ref a0 :: rest) h c n P := by
  intro p e R s m args below meth cd H locs cells slots ls hF hR hl hL hV hS hN
  have hts := hV.ts args
  have hR0 := hR
  obtain ⟨r1, r2, r3, r4, r5⟩ := hR
  obtain ⟨-, cs, g1, g2o, g3⟩ := hS.1 a0 k vs0 ha0
  have g2 : cs.vm ≠ .unknown := by rw [g2o]; exact fun q => (by cases q)
  have g2' : cs.vm.isStatics = false := by rw [g2o]; rfl
  obtain ⟨ga, cd1, e1, e2, e3⟩ := hS.1 a1 k vs1 ha1
  have hA := (hV.1 k _ hk : ArrOfT s (G.1.1 k) (.object E) ∧ va_RA s (G.1.1 k) (.object E) ∧ ∀ j : Nat, G.1.2 k j = j)
  obtain ⟨kA, comp, hkA', hkk, hcomp, -⟩ := hA.2.1
  have z0 := xarr_sz hk g3
  have z1 := xarr_sz hk e3
  have hat : ∀ j, j < vs0.length → cs.slots[j]? = vs0[j]? := fun j hj => by
    rw [List.getElem?_eq_getElem hj]
    exact xarr_at hV.1 hk g3.2.1 (List.getElem?_eq_getElem hj)
  have hgd : ∀ j (hj : j < vs0.length), cs.slots.getD j .null = vs0[j] := fun j hj => by
    rw [Array.getD_eq_getD_getElem?, hat j hj, List.getElem?_eq_getElem hj]
    rfl
  obtain ⟨kcomp, hkcomp, -⟩ := Vm.findClass_spec hcomp
  have hnw : nativeFrameWords "java/lang/System" "arraycopy" 5 ≤ 1000 := by decide +kernel
  intro T hT X
  obtain ⟨vm', X', step⟩ := X.arraycopy hF.1 hF.2.2.2.2.1 (hts _ hlk) (hts _ hna) (hts _ hsta) (hts _ hini) (src := a0) (dst := a1) (cs := cs) (cd := cd1) (srcPos := sp) (destPos := dp) (n := nn) (by rw [hT]; exact g1) (by rw [hT]; exact e1)
    (fun q hq => by rw [hq] at g2'; cases g2') (fun q hq => by rw [e2] at hq; cases hq) g2 (by rw [e2]; exact fun q => (by cases q)) (by rw [g3.1]; exact hkA') (by rw [e3.1]; exact hkA') hkk hkk (by simp [refKind]) h1 h2 h3
    (by rw [xnn h1, xnn h3]; omega) (by rw [xnn h2, xnn h3, z1]; omega)
    (fun vm₁ hal i hi => by
      have hj : sp.toNatClampNeg + i < vs0.length := by omega
      have hf := hel _ (List.getElem_mem hj)
      rw [hgd _ hj]
      revert hf
      generalize vs0[sp.toNatClampNeg + i] = v
      rintro (rfl | ⟨a, k', N, vs, C, Tt, rfl, har, hkk', hcas⟩)
      · exact ⟨rfl, trivial⟩
      · refine ⟨rfl, ?_⟩
        obtain ⟨cell, b1, b2, b3, b4⟩ := xr_cell har hV hS
        have hKb := (hV.1 k' _ hkk' : u_Kn s C Tt N (G.1.1 k') (G.1.2 k')).2
        obtain ⟨kC, hkC, -⟩ := hKb.2
        obtain ⟨c0, t0, f1, f2, f3⟩ := Cond.castable_spec (va_Nw.use (A := args) rfl (hV.2.1 _ hcas))
        cases hKb.1.symm.trans f1
        cases hcomp.symm.trans f2
        obtain ⟨kC', hkC', -⟩ := hal.2.2 _ _ hkC
        obtain ⟨kc', hkc', -⟩ := hal.2.2 _ _ hkcomp
        refine ⟨cell, (by show T.heap[a]? = _; rw [hT]; exact b1), (fun q hq => (by rw [hq] at b3; cases b3)), ⟨kC', (by rw [xcw_cls hkk' b4]; exact hkC')⟩, ⟨kc', hkc'⟩, ?_⟩
        rw [xcw_cls hkk' b4]
        show vm₁.assignable _ _ = true
        rw [hal.assignable]
        exact f3)
    (g := F0 m pc ls (.int nn :: .int dp :: .ref a1 :: .int sp :: .ref a0 :: rest)) rfl (by show ls.size = _; rw [hl.1, hL, hF.2.2.1]) (rest := rest) rfl (by rw [hF.2.1]; exact hd) (by rw [r1]; omega) (by show 2 * 0 + _ + _ ≤ _; rw [r2]; omega)
  have hlt : a1 < H.size := (Array.getElem?_eq_some_iff.mp e1).1
  have hheap : ((T.setVm vm').setCell a1 (copied cs cd1 sp dp nn)).heap = H.setIfInBounds a1 (copied cs cd1 sp dp nn) := by rw [← hT]; rfl
  have oq : ∀ q : Nat, q ≠ a1 → (H.setIfInBounds a1 (copied cs cd1 sp dp nn))[q]? = H[q]? := fun q hq => by simp [Array.getElem?_setIfInBounds, Ne.symm hq]
  have oa : (H.setIfInBounds a1 (copied cs cd1 sp dp nn))[a1]? = some (copied cs cd1 sp dp nn) := by simp [Array.getElem?_setIfInBounds, hlt]
  obtain ⟨f1, f2, f3, -, -⟩ := Cell.storeRun_facts cd1 dp.toNatClampNeg (cs.stretch sp.toNatClampNeg nn.toNatClampNeg)
  have hsl : (cs.stretch sp.toNatClampNeg nn.toNatClampNeg).length = nn.toNatClampNeg := by simp [Cell.stretch]
  have hcell : xcell G.1 k (xcopy vs0 vs1 sp.toNatClampNeg dp.toNatClampNeg nn.toNatClampNeg) (copied cs cd1 sp dp nn) := by
    refine ⟨f1.trans e3.1, fun j v hv => ⟨Or.inl (xarr_of hk), ?_⟩, fun _ => by rw [f3, z1, xcopy_len h4 h5]⟩
    rw [hA.2.2 j]
    show (cd1.storeRun dp.toNatClampNeg (cs.stretch sp.toNatClampNeg nn.toNatClampNeg)).slots[j]? = some v
    rw [Cell.storeRun_get _ _ _ _ (by rw [hsl, z1]; exact h5), hsl]
    rw [xcopy_at h4 h5] at hv
    by_cases hj : dp.toNatClampNeg ≤ j ∧ j < dp.toNatClampNeg + nn.toNatClampNeg
    · rw [if_pos hj] at hv ⊢
      unfold Cell.stretch
      rw [List.getElem?_map, List.getElem?_range (by omega)]
      have hj' : sp.toNatClampNeg + (j - dp.toNatClampNeg) < vs0.length := by omega
      rw [List.getElem?_eq_getElem hj'] at hv
      simp only [Option.map_some]
      rw [hgd _ hj']
      exact hv
    · rw [if_neg hj] at hv ⊢
      exact xarr_at hV.1 hk e3.2.1 hv
  obtain ⟨t, a1', b1⟩ := kk p e R s m args below meth cd _ _ cells slots ls hF hR0 hl hL (hV.put ga oq) (hS.put ha1 e1 oa (by simp) oq f3 (f2.trans e2) hcell) ⟨by simp; exact hN.1, fun q q1 q2 => by
      rw [oq q (fun e => q2 (by rw [e]; exact ga))]
      exact hN.2.1 q q1 q2, fun q hq => by
      rcases List.mem_append.mp hq with hh | hh
      · exact hN.2.2 q hh
      · obtain ⟨z, -, hz⟩ := List.mem_map.mp hh
        rw [← hz]
        exact ga⟩ _ hheap X'
  exact ⟨t, step t a1', b1⟩
end XM3
