/-! new X("..") and its throw, in one row -/
section XTN
variable {l : Launch} {G : XG} {M : XMt} {d pc : Nat} {L : List (Option Value)} {rest : List Value} {h : XH} {c n : Nat} {P : Option Value → XH → Nat → Nat → Prop}
def xThr (own : String) (ic : Nat) (X : String) (names : List String) : List Cond :=
  Bundle.throwableAtoms ++ (Bundle.throwableSAtoms ++ (Bundle.chainSAtoms X names ++
  [.methodLink own ic (Bundle.initS X), .instantiable X 6, .selects X Bundle.tFill0 Bundle.tFill0, .selects X Bundle.tFill Bundle.tFill,
   .lays X Bundle.tN "cause" "Ljava/lang/Throwable;", .lays X Bundle.tN "stackTrace" Bundle.steD, .lays X Bundle.tN "suppressedExceptions" Bundle.listD, .lays X Bundle.tN "detailMessage" "Ljava/lang/String;",
   .fieldLink Bundle.tN 198 Bundle.tN "backtrace" "Ljava/lang/Object;", .lays Bundle.tN Bundle.tN "backtrace" "Ljava/lang/Object;", .lays X Bundle.tN "backtrace" "Ljava/lang/Object;"]))
theorem xisr_ref {v : Value} (h : xisr v = true) : v.isRef = true := by cases v <;> first | rfl | cases h
set_option maxHeartbeats 2000000 in
theorem x_throwS {k idx ic si i : Nat} {X tx : String} {names : List String} {vs : List Value} {T : u_T} {N : Nat} (hG : ∀ j, xisr (G.2.2.2.2 j) = true) (htr : l.stackTraces = false) (hco : Cond.code M.1 M.2.1 M.2.2.1 M.2.2.2 ∈ xT)
    (hk : xk[k]? = some (.inl (X, T, N))) (hX : Bundle.fit X = true) (hnames : ∀ q ∈ names, Bundle.fit q = true) (hnl : names.length ≤ 4) (hx : xNw M.1.cls idx k 6 vs) (hat : ∀ w ∈ xThr M.1.cls ic X names, w ∈ xT ∨ ∃ q ∈ xThS, w = Cond.laysStatic q.1 q.2.1 q.2.2) (hstr : (M.1.cls, si, tx, i) ∈ xStr)
    (hdd : 8 ≤ d) (hr : (rest.map fun v => v.category).sum ≤ 8) (hc : c + 1 ≤ xCB) (hn : n + 6 ≤ xSB)
    (hd0 : decode M.2.1 pc = .ok (.new idx, 3)) (hd1 : decode M.2.1 (pc + 3) = .ok (.dup, 1)) (hd2 : decode M.2.1 (pc + 3 + 1) = .ok (.ldc si, 2)) (hd3 : decode M.2.1 (pc + 3 + 1 + 2) = .ok (.invokespecial ic, 3)) (hd4 : decode M.2.1 (pc + 3 + 1 + 2 + 3) = .ok (.athrow, 1))
    (hP : ∀ a, h a = none → G.2.2.1 a = none → P (some (.retAddr a)) (xup h a (k, [])) (c + 1) (n + 6)) : XX l G M d pc L rest h c n (xret2 G P) := by
  intro p e R s m args below meth cd H locs cells slots ls hF hR hl hL hV hS hN
  have hts := hV.ts args
  have hS0 := hS
  obtain ⟨r1, r2, r3, r4, r5⟩ := id hR
  obtain ⟨s1, s2, s3, s4, s5, s6⟩ := hS
  obtain ⟨C, T', N', hk', hlen, hdef, h1, h2, h3⟩ := hx
  cases hk.symm.trans hk'
  have hKn := (hV.1 k _ hk : u_Kn s X T N (G.1.1 k) (G.1.2 k))
  refine x_mono r5 fun m1 m2 => ?_
  refine x_tight (k := R.cells - 1) (j := R.slots - 6) r5 (by rw [r3]; omega) (by rw [r4]; omega) ?_
  refine W.newc hF.1 hF.2.1 hF.2.2.2.2.1 (hts _ h1) (hts _ h2) (hts _ h3) rfl hd0 (by rw [r3]; omega) (by rw [r4]; omega) fun cC kC f1 f2 f3 f4 => ?_
  have hcC : cC = G.1.1 k := Option.some.inj (f1.symm.trans hKn.2.1)
  refine lv_dup hF.1 hF.2.1 hd1 rfl ?_
  refine va_ldcS hF.1 hF.2.1 hF.2.2.2.2.1 (hV.2.2.1.1 _ hstr) hd2 ?_
  intro U hU Y0
  have hts' : ∀ w ∈ xThr M.1.cls ic X names, w.before args s = true := fun w hw => by
    rcases hat w hw with hw | ⟨q, hq, rfl⟩
    · exact hts _ hw
    · exact (hV.2.2.1.2.2 q hq).use hN (fun a ha => Nat.lt_of_lt_of_le (Nat.not_le.mp ha) r5)
  have howns : e.platform.frameOwnsMonitors = true := by rw [Y0.admits.platform]
  have hfin : e.platform.finalization = false := by rw [Y0.admits.platform]
  have hpl : e.platform.magicAccessors = ({} : Platform).magicAccessors := by rw [Y0.admits.platform]
  have htr' : e.platform.stackTraces = false := by rw [Y0.admits.platform]; exact htr
  have a' : ∀ x, x ∈ xThr M.1.cls ic X names → x.holds args s none s [] = true := fun x hx => hts' x hx
  obtain ⟨Tc, Z0, Lk, -, Y⟩ := ThrowableC.of_atoms (args := args) howns hfin hpl (fun x hx => hts' x (by simp [xThr, hx]))
  obtain ⟨Z, Mm, LZ, LM, hnZ⟩ := Init0T.ofS_atoms (args := args) hpl Lk Y (fun x hx => hts' x (by simp [xThr, hx]))
  obtain ⟨P1, Ps, hlenP, L1, hLP, hP1m, hlink1, hlink⟩ := Bundle.chainS (args := args) hpl hnZ names X hX hnames (fun x hx => hts' x (by simp [xThr, hx]))
  have hfound : s.vm.findClass X = some P1.m.cls := findClass_of_methodNamed hP1m
  have hcP : cC = P1.m.cls := Option.some.inj (f1.symm.trans hfound)
  have hsel0 : selectMethod e.platform s.vm cC Tc.fill0 = .method Tc.fill0 := by
    obtain ⟨c2, r2, m2, q1, q2, q3, q4, -⟩ := Cond.selects_spec (a' (.selects X Bundle.tFill0 Bundle.tFill0) (by simp [xThr]))
    cases Option.some.inj (q1.symm.trans f1)
    cases Option.some.inj (q2.symm.trans (State.methodFound?_of_named Y.fill0 (by decide)))
    cases Option.some.inj (q3.symm.trans Y.fill0)
    rw [Launch.admits_selectMethod Y0.admits]; exact q4
  have hselF : selectMethod e.platform s.vm cC Tc.fill = .method Tc.fill := by
    obtain ⟨c2, r2, m2, q1, q2, q3, q4, -⟩ := Cond.selects_spec (a' (.selects X Bundle.tFill Bundle.tFill) (by simp [xThr]))
    cases Option.some.inj (q1.symm.trans f1)
    cases Option.some.inj (q2.symm.trans (State.methodFound?_of_named Y.fill (by decide)))
    cases Option.some.inj (q3.symm.trans Y.fill)
    rw [Launch.admits_selectMethod Y0.admits]; exact q4
  obtain ⟨uf, uk, ui, ug, ua, ucell, z1, z2, z3, z4, z5, z6, z7, z8⟩ := hV.2.2.2.1 ("java/lang/Throwable", "UNASSIGNED_STACK", "[Ljava/lang/StackTraceElement;", G.2.2.2.2 1) (List.mem_of_getElem? (i := 6) rfl)
  obtain ⟨vf, vk, vi, vg, va, vcell, y1, y2, y3, y4, y5, y6, y7, y8⟩ := hV.2.2.2.1 ("java/lang/Throwable", "SUPPRESSED_SENTINEL", "Ljava/util/List;", G.2.2.2.2 2) (List.mem_of_getElem? (i := 7) rfl)
  cases Option.some.inj (z1.symm.trans Y.unassigned)
  cases Option.some.inj (y1.symm.trans Y.sentinel)
  cases Option.some.inj (z4.symm.trans Lk.statics)
  cases Option.some.inj (y4.symm.trans Lk.statics)
  cases Option.some.inj (z5.symm.trans y5)
  have haS : Tc.aS < H.size := (Array.getElem?_eq_some_iff.mp z5).1
  have hUh : U.heap = H.push { cls := cC, slots := kC.instanceTypes.map defaultValue, vm := .none } := hU
  have hcellS : U.heap[Tc.aS]? = some ucell := by rw [hUh, Array.getElem?_push, if_neg (Nat.ne_of_lt haS)]; exact z5
  have hcell : U.heap[H.size]? = some (freshCell cC kC) := by rw [hUh]; exact Array.getElem?_push_size
  obtain ⟨ci198, i198, fB, hk198, hg198, ha198, hsB, -, hnB, htB, hffB⟩ := Cond.ownField (t := .object "java/lang/Object") Y.found Lk.cls (by decide +kernel) (a' (.fieldLink Bundle.tN 198 Bundle.tN "backtrace" "Ljava/lang/Object;") (by simp [xThr])) (a' (.lays Bundle.tN Bundle.tN "backtrace" "Ljava/lang/Object;") (by simp [xThr])) e.platform hpl
  obtain ⟨iM, hffM⟩ := Y.msg
  obtain ⟨tyC, dC, hdC, hdnC⟩ := Cond.laysAt f1 f2 Y.cause (a' (.lays X Bundle.tN "cause" "Ljava/lang/Throwable;") (by simp [xThr]))
  obtain ⟨tyS, dS, hdS, hdnS⟩ := Cond.laysAt f1 f2 Y.stack (a' (.lays X Bundle.tN "stackTrace" Bundle.steD) (by simp [xThr]))
  obtain ⟨tyP, dP, hdP, hdnP⟩ := Cond.laysAt f1 f2 Y.supp (a' (.lays X Bundle.tN "suppressedExceptions" Bundle.listD) (by simp [xThr]))
  obtain ⟨tyM, dM, hdM, hdnM⟩ := Cond.laysAt f1 f2 hffM (a' (.lays X Bundle.tN "detailMessage" "Ljava/lang/String;") (by simp [xThr]))
  obtain ⟨tyB, dB, hdB, hdnB⟩ := Cond.laysAt f1 f2 hffB (a' (.lays X Bundle.tN "backtrace" "Ljava/lang/Object;") (by simp [xThr]))
  have bC := Cond.laysApart hdB hdC hdnB hdnC (by rw [hnB, Y.causeName]; decide)
  have bS := Cond.laysApart hdB hdS hdnB hdnS (by rw [hnB, Y.stackName]; decide)
  have bP := Cond.laysApart hdB hdP hdnB hdnP (by rw [hnB, Y.suppName]; decide)
  have hskip : SkipFacts Tc e.platform s (fun u => u) ⟨G.2.2.2.2 1, xisr_ref (hG 1)⟩ ((preparedCellV Tc.toThrowableT (freshCell cC kC) H.size ⟨G.2.2.2.2 1, xisr_ref (hG 1)⟩ ⟨G.2.2.2.2 2, xisr_ref (hG 2)⟩).withEntry U.cur) :=
    ⟨{ ci198 := ci198, i198 := i198, fBack := fB }, ⟨hk198, hg198, ha198, hsB⟩, by
      have := fresh_default (c := cC) tyB
      rw [htB] at this
      simpa [preparedCellV, Cell.setSlot, Cell.withEntry, Array.getElem?_setIfInBounds, bC, bS, bP, bC.symm, bS.symm, bP.symm, defaultValue] using this, fun _ _ => rfl⟩
  obtain ⟨tm, methC, cdC, kC', vm₁, hnC, -, -, -, -, -, -, -, hW₁, st1⟩ := Steps.initColdS (tb := p.tables) (e := e) (below := below) (s := s) (U := U) Y0.here hF.1 Y0.warmed hpl hF.2.2.2.2.1 (t := Bundle.initS X) rfl rfl (Bundle.fit_spec hX).2
    (a' (.methodLink M.1.cls ic (Bundle.initS X)) (by simp [xThr])) (hts' (.instanceMethod (Bundle.initS X)) (by cases names <;> simp [xThr, Bundle.chainSAtoms, Bundle.passSAtoms])) (bytes := Bundle.six) (maxL := 2) (hts' (.code (Bundle.initS X) Bundle.six 2 none) (by cases names <;> simp [xThr, Bundle.chainSAtoms, Bundle.passSAtoms]))
    (f := F0 m (pc + 3 + 1 + 2) ls (.ref (G.2.2.2.1 i) :: .ref H.size :: .ref H.size :: rest)) rfl (a := H.size) (msg := .ref (G.2.2.2.1 i)) (rest := .ref H.size :: rest) rfl (by rw [hF.2.1]; exact hd3)
  cases Option.some.inj (hnC.symm.trans hP1m)
  have X₁ := Y0.noted hW₁
  obtain ⟨vm₂, X₂, st2⟩ := X₁.ctorMessageOffV hF.1 (g := F0 m (pc + 3 + 1 + 2) ls (.ref H.size :: rest)) rfl (by show ls.size = _; rw [hl.1, hL, hF.2.2.1]) Tc Lk Z LZ Mm LM (P1 :: Ps)
    (fun Pq hPq => by rcases List.mem_cons.mp hPq with rfl | hPq; exact L1; exact hLP Pq hPq) ⟨hlink1, hlink⟩ (u0 := ⟨G.2.2.2.2 1, xisr_ref (hG 1)⟩) (sen := ⟨G.2.2.2.2 2, xisr_ref (hG 2)⟩) (self := H.size) (msg := .ref (G.2.2.2.1 i)) rfl (cell := freshCell cC kC) (cellS := ucell)
    hcell (fun _ => by simp) (by simp) rfl rfl hsel0 hselF hcellS (Nat.ne_of_lt haS) (fun q => by rw [q] at z6; cases z6) z7 y7
    (Takes.of_laid f2 f3 tyC (by rw [Y.causeType]; rfl)) (Takes.of_laid f2 f3 tyS (by rw [Y.stackType]; exact fits_refV_array _ _)) (Takes.of_laid f2 f3 tyP (by rw [Y.suppType]; exact fits_refV_object _ _))
    (Takes.of_laid f2 f3 tyM (by rw [Y.msgType]; rfl)) Y.objLocals hskip htr' [] (ig := .invokespecial ic) (len := 3) (by rw [hF.2.1]; exact hd3)
    (by simp only [List.length_cons, hlenP]; rw [r1]; omega) (by
      have hca : (Value.ref H.size).category = 1 := rfl
      show 2 * 0 + ((Value.ref H.size).category + (rest.map fun v => v.category).sum) + (13 * (Ps.length + 1) + 42) ≤ R.locals
      rw [r2]
      omega)
  obtain ⟨meth9, cd9, hm9, hc9, -, -, -, -, he9, -⟩ := Cond.code_spec hF.2.2.2.2.2.2.2 (hts _ hco)
  cases Y0.method.symm.trans hm9
  cases Y0.code.symm.trans hc9
  obtain ⟨hwalk, hrun, hended, hWU, hsame⟩ := X₂.athrowLeaves hF.1 (g := F0 m (pc + 3 + 1 + 2 + 3) ls (.ref H.size :: rest)) rfl rfl rfl (covers_of_empty he9 _) (a := H.size) (rest := rest) rfl (by rw [hF.2.1]; exact hd4) (hlocks := hF.2.2.2.2.2.1)
  have hlt : H.size < U.heap.size := by rw [hUh]; simp
  have hheap : ((((U.setVm vm₁).setVm vm₂).setCell H.size (plainBareV Tc.toThrowableT (freshCell cC kC) H.size ⟨G.2.2.2.2 1, xisr_ref (hG 1)⟩ ⟨G.2.2.2.2 2, xisr_ref (hG 2)⟩ (.ref (G.2.2.2.1 i)))).setFrames (.throwing H.size :: below)).heap = H.push (plainBareV Tc.toThrowableT (freshCell cC kC) H.size ⟨G.2.2.2.2 1, xisr_ref (hG 1)⟩ ⟨G.2.2.2.2 2, xisr_ref (hG 2)⟩ (.ref (G.2.2.2.1 i))) := by
    show U.heap.setIfInBounds H.size _ = _
    rw [hUh]
    refine Array.ext_getElem? fun q => ?_
    rw [Array.getElem?_setIfInBounds, Array.getElem?_push, Array.getElem?_push]
    by_cases hq : H.size = q
    · subst hq; simp
    · simp [hq, Ne.symm hq]
  have hcl : xcell G.1 k [] (plainBareV Tc.toThrowableT (freshCell cC kC) H.size ⟨G.2.2.2.2 1, xisr_ref (hG 1)⟩ ⟨G.2.2.2.2 2, xisr_ref (hG 2)⟩ (.ref (G.2.2.2.1 i))) := by
    refine ⟨hcC, fun j v hv => by simp at hv, fun q => ?_⟩
    unfold xarr at q
    rw [hk] at q
    cases q
  obtain ⟨hS', hno⟩ := xS.new (k := k) (z := 6) (vs := []) (cell := plainBareV Tc.toThrowableT (freshCell cC kC) H.size ⟨G.2.2.2.2 1, xisr_ref (hG 1)⟩ ⟨G.2.2.2.2 2, xisr_ref (hG 2)⟩ (.ref (G.2.2.2.1 i))) hS0 rfl (by simp [plainBareV, preparedCellV, Cell.setSlot, f4]) hcl hc hn
  refine ⟨_, st1 _ (fun acts => ?_), .threw H.size, hrun, hended, ⟨⟨xup h H.size (k, []), c + 1, n + 6, hP _ hno (xkh.none hV hS0), by rw [hheap]; exact hS'⟩, (va_S.new hN).F hheap, fun v a hv => by cases hv⟩, _, hWU, hsame.mono (by rw [r3]; omega) (by rw [r4]; omega), fun q hq => ?_⟩
  · rw [doInvoke_state]
    exact st2 _ hwalk
  · rcases List.mem_append.mp hq with hh | hh
    · exact hN.2.2 q hh
    · have hb : q.base = H.size := by
        simp only [List.mem_cons, List.not_mem_nil, or_false] at hh
        rcases hh with rfl | rfl | rfl | rfl | rfl <;> rfl
      rw [hb]
      exact s2
end XTN
