section XW1
/-- what stays through a method's run -/
def xFix (p : Program) (s : State) (m : MethodId) (meth : Method) (cd : Code) (M : XMt) : Prop := p.tables.exec = Jvm.exec ∧ cd.code = M.2.1 ∧ cd.maxLocals = M.2.2.1 ∧ meth.sig.returnType = M.2.2.2 ∧ s.vm.findClass M.1.cls = some m.cls ∧ meth.locks = false ∧ meth.name = M.1.name ∧ s.methodNamed? M.1 = some m
def xRo (G : XG) (R : Room) (d : Nat) (s : State) : Prop := R.frames = d ∧ R.locals = d * 60 + 11000 ∧ R.cells = xCB - (s.heap.size - G.2.1) ∧ R.slots = xSB - xU G.2.1 s.heap ∧ G.2.1 ≤ s.heap.size
/-- an end: of a method's run over 'below', from 'args' and the state at its beginning -/
abbrev XPo : Type := List Frame → Array Value → State → Room → State → Prop
/-- FROM THE FRAME AT pc WITH LOCALS L AND STACK st, over the heap h, THE METHOD M COMES TO AN END Q -/
def XX (l : Launch) (G : XG) (M : XMt) (d pc : Nat) (L : List (Option Value)) (st : List Value) (h : XH) (c n : Nat) (Q : XPo) : Prop :=
  ∀ (p : Program) (e : Env) (R : Room) (s : State) (m : MethodId) (args : Array Value) (below : List Frame) (meth : Method) (cd : Code) (H : Heap) (locs : List Loc) (cells slots : Nat) (ls : Array Slot),
    xFix p s m meth cd M → xRo G R d s → xlr ls L → L.length = M.2.2.1 → xV G s H → xS G h c n H → va_S (xA G) s.heap H locs →
    W p l e R s m args below meth cd H locs cells slots (Q below args s R) (F0 m pc ls st)
/-- the end: it returns with P -/
def xret (G : XG) (P : Option Value → XH → Nat → Nat → Prop) : XPo := fun below args s R => MQ below (xQ G P) args s R.cells R.slots (xA G)
/-- FROM THE FRAME AT pc .., THE METHOD M RETURNS WITH P -/
abbrev XW (l : Launch) (G : XG) (M : XMt) (d pc : Nat) (L : List (Option Value)) (st : List Value) (h : XH) (c n : Nat) (P : Option Value → XH → Nat → Nat → Prop) : Prop := XX l G M d pc L st h c n (xret G P)
variable {l : Launch} {G : XG} {M : XMt} {d pc : Nat} {L : List (Option Value)} {rest : List Value} {h : XH} {c n : Nat} {P : Option Value → XH → Nat → Nat → Prop}
/-- the numbers of cells and slots follow from the heap -/
theorem x_tight {p : Program} {e : Env} {R : Room} {s : State} {m : MethodId} {args : Array Value} {below : List Frame} {meth : Method} {cd : Code} {H : Heap} {locs : List Loc} {cells slots : Nat} {Q : State → Prop} {g : JFrame} {z k j : Nat} (hz : z ≤ s.heap.size) (hk : H.size ≤ s.heap.size + k) (hj : xU z H ≤ xU z s.heap + j)
    (kk : W p l e R s m args below meth cd H locs k j Q g) : W p l e R s m args below meth cd H locs cells slots Q g := by
  intro T hT X
  refine kk T hT { X with same := ?_ }
  have hs := X.same
  have e := xU_grow hz hs
  obtain ⟨h1, h2, h3, h4, h5, h6⟩ := hs
  have hH : (T.setVm s.vm).heap = H := hT
  rw [hH] at e
  refine ⟨h1, h2, by rw [hH]; exact hk, h4, ?_, h6⟩
  rw [hH]
  show ((H.toList.drop s.heap.size).map (fun q : Cell => q.slots.size)).sum ≤ j
  omega
theorem x_mono {p : Program} {e : Env} {R : Room} {s : State} {m : MethodId} {args : Array Value} {below : List Frame} {meth : Method} {cd : Code} {H : Heap} {locs : List Loc} {cells slots : Nat} {Q : State → Prop} {g : JFrame} {z : Nat} (hz : z ≤ s.heap.size)
    (kk : xU z s.heap ≤ xU z H → s.heap.size ≤ H.size → W p l e R s m args below meth cd H locs cells slots Q g) : W p l e R s m args below meth cd H locs cells slots Q g := by
  intro T hT X
  have e := xU_grow hz X.same
  have hH : (T.setVm s.vm).heap = H := hT
  have h2 := X.same.2.1
  rw [hH] at e h2
  exact kk (by omega) h2 T hT X
/-- a method's end -/
theorem x_end {p : Program} {e : Env} {R : Room} {s : State} {m : MethodId} {args : Array Value} {below : List Frame} {meth : Method} {cd : Code} {H : Heap} {locs : List Loc} {cells slots : Nat} {Q : State → Prop} {g : JFrame} (hR : xRo G R d s) (hS : xS G h c n H)
    (kk : W p l e R s m args below meth cd H locs R.cells R.slots Q g) : W p l e R s m args below meth cd H locs cells slots Q g := by
  obtain ⟨-, -, h3, h4, h5⟩ := hR
  obtain ⟨-, -, g1, g2, g3, g4⟩ := hS
  exact x_tight h5 (by rw [h3]; omega) (by rw [h4]; omega) kk
theorem x_q {s t : State} {args : Array Value} {H : Heap} {locs : List Loc} {v : Option Value} (hP : P v h c n) (hS : xS G h c n H) (hF : va_S (xA G) s.heap H locs) (ht : t.heap = H) : xQ G P args s (.returned v) t := ⟨⟨v, h, c, n, rfl, hP, by rw [ht]; exact hS⟩, hF.F ht⟩
theorem x_iret {x : Int32} (hd : decode M.2.1 pc = .ok (.ireturn, 1)) (hr : M.2.2.2 = some .int) (hP : P (some (.int x)) h c n) : XW l G M d pc L [.int x] h c n P := by
  intro p e R s m args below meth cd H locs cells slots ls hF hR hl hL hV hS hN
  refine x_end hR hS ?_
  exact W.iret hF.1 hF.2.1 (hF.2.2.2.1.trans hr) (fun t ht hW => x_q hP hS hN ht) hN.2.2 hd hF.2.2.2.2.2.1
theorem x_zret {x : Int32} {ty : FieldType} (hd : decode M.2.1 pc = .ok (.ireturn, 1)) (hr : M.2.2.2 = some ty) (hn : narrow ty (.int x) = .int x) (hP : P (some (.int x)) h c n) : XW l G M d pc L [.int x] h c n P := by
  intro p e R s m args below meth cd H locs cells slots ls hF hR hl hL hV hS hN
  refine x_end hR hS ?_
  exact W.zret hF.1 hF.2.1 (hF.2.2.2.1.trans hr) hn (fun t ht hW => x_q hP hS hN ht) hN.2.2 hd hF.2.2.2.2.2.1
theorem x_lret {x : Int64} (hd : decode M.2.1 pc = .ok (.lreturn, 1)) (hr : M.2.2.2 = some .long) (hP : P (some (.long x)) h c n) : XW l G M d pc L [.long x] h c n P := by
  intro p e R s m args below meth cd H locs cells slots ls hF hR hl hL hV hS hN
  refine x_end hR hS ?_
  exact W.lret hF.1 hF.2.1 (hF.2.2.2.1.trans hr) (fun t ht hW => x_q hP hS hN ht) hN.2.2 hd hF.2.2.2.2.2.1
theorem x_vret (hd : decode M.2.1 pc = .ok (.return_, 1)) (hr : M.2.2.2 = none) (hP : P none h c n) : XW l G M d pc L [] h c n P := by
  intro p e R s m args below meth cd H locs cells slots ls hF hR hl hL hV hS hN
  refine x_end hR hS ?_
  exact W.vret hF.1 hF.2.1 (hF.2.2.2.1.trans hr) (fun t ht hW => x_q hP hS hN ht) hN.2.2 hd hF.2.2.2.2.2.1
def xisr : Value → Bool
  | .null => true
  | .ref _ => true
  | _ => false
theorem xisr_or {v : Value} (h : xisr v = true) : v = .null ∨ ∃ a, v = .ref a := by
  cases v <;> first | exact Or.inl rfl | exact Or.inr ⟨_, rfl⟩ | cases h
def xrty : Option FieldType → Bool
  | some (.object _) => true
  | some (.array _) => true
  | _ => false
theorem x_aret {v : Value} (hd : decode M.2.1 pc = .ok (.areturn, 1)) (hr : xrty M.2.2.2 = true) (hv : xisr v = true) (hP : P (some v) h c n) : XW l G M d pc L [v] h c n P := by
  intro p e R s m args below meth cd H locs cells slots ls hF hR hl hL hV hS hN
  refine x_end hR hS ?_
  obtain ⟨rt, hrt, hrs⟩ : ∃ rt, M.2.2.2 = some rt ∧ ((∃ n, rt = .object n) ∨ ∃ t, rt = .array t) := by
    cases hm : M.2.2.2 with
    | none => rw [hm] at hr; cases hr
    | some rt =>
      rw [hm] at hr
      refine ⟨rt, rfl, ?_⟩
      cases rt <;> first | exact Or.inl ⟨_, rfl⟩ | exact Or.inr ⟨_, rfl⟩ | cases hr
  exact W.aret hF.1 hF.2.1 (hF.2.2.2.1.trans hrt) hrs (xisr_or hv) (fun t ht hW => x_q hP hS hN ht) hN.2.2 hd hF.2.2.2.2.2.1
/-- a contract out of a walk -/
theorem XM.of {args : List Value} (hy : plainName M.1.cls = true) (hn : (xin args).length ≤ M.2.2.1) (hw : XW l G M d 0 (xin args ++ List.replicate (M.2.2.1 - (xin args).length) none) [] h c n P) : XM l G d M args h c n P := by
  intro c0 n0
  refine Met.ofW (cc := M.2.1) (maxL := M.2.2.1) (ret := M.2.2.2) (ws' := []) hy rfl ?_
  intro p e s m args' below meth cd s₁ B hml hv
  obtain ⟨rfl, hz, hu, hV, hS⟩ := hv
  rw [lg_entry_eq]
  have hR : xRo G (xRm d c0 n0) d s := ⟨rfl, rfl, by rw [hz, Nat.add_sub_cancel_left]; rfl, by rw [hu]; rfl, by rw [hz]; exact Nat.le_add_right _ _⟩
  exact hw p e (xRm d c0 n0) s m _ below meth cd s.heap [] 0 0 _ ⟨B.exec, B.bytes, hml, B.returns, findClass_of_methodNamed B.named, B.notSynchronized, (name_of_methodNamed B.named B.method).1, B.named⟩ hR (xlr.entry args hn) (by simp; omega) hV hS va_S.rf
/-- a weaker end -/
theorem XM.mono {args : List Value} {P' : Option Value → XH → Nat → Nat → Prop} (h0 : XM l G d M args h c n P) (hP : ∀ v h' c' n', P v h' c' n' → P' v h' c' n') : XM l G d M args h c n P' := by
  intro c0 n0 p e ha hc hk s m as below hf happ hPc hKc
  obtain ⟨k, o, h1, h2, h3, ⟨⟨⟨v, h', c', n', e1, e2, e3⟩, e4⟩, e5⟩⟩ := h0 c0 n0 p e ha hc hk s m as below hf happ hPc hKc
  exact ⟨k, o, h1, h2, h3, ⟨⟨v, h', c', n', e1, hP _ _ _ _ e2, e3⟩, e4⟩, e5⟩
end XW1
