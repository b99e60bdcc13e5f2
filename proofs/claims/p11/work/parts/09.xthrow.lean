/-! THROWS: methods that may throw, callers that catch. A thrown object is told to P as some (.retAddr its address). -/
section XTH
variable {l : Launch} {G : XG} {M : XMt} {d pc : Nat} {L : List (Option Value)} {rest : List Value} {h : XH} {c n : Nat} {P : Option Value → XH → Nat → Nat → Prop}
def xo : Outcome → Option Value
  | .returned v => v
  | .threw a => some (.retAddr a)
def xQT (G : XG) (P : Option Value → XH → Nat → Nat → Prop) (st : State) (o : Outcome) (t : State) : Prop := (∃ (h : XH) (c n : Nat), P (xo o) h c n ∧ xS G h c n t.heap) ∧ va_F (xA G) st t ∧ ∀ (v : Option Value) (a : Nat), o = .returned v → v ≠ some (.retAddr a)
def xFE (G : XG) (st t : State) (mc ms : Nat) : Prop := ∃ Lo : List Loc, st.WarmedH t.vm ∧ st.sameButNew ({ t with vm := st.vm } : State) Lo mc ms ∧ ∀ q ∈ Lo, xA G q.base
/-- the end: it returns with P, or throws -/
def xret2 (G : XG) (P : Option Value → XH → Nat → Nat → Prop) : XPo := fun below _ s R t => ∃ o, t.status = .running ∧ Ended t below o ∧ xQT G P s o t ∧ xFE G s t R.cells R.slots
theorem x_ret2 {st : List Value} (k : XW l G M d pc L st h c n (fun v h' c' n' => (∀ a, v ≠ some (.retAddr a)) ∧ P v h' c' n')) : XX l G M d pc L st h c n (xret2 G P) := by
  intro p e R s m args below meth cd H locs cells slots ls hF hR hl hL hV hS hN T hT X
  obtain ⟨t, a1, o, b1, b2, ⟨⟨v, h', c', n', e1, e2, e3⟩, e4⟩, Lo, ⟨-, w1, w2⟩, w3⟩ := k p e R s m args below meth cd H locs cells slots ls hF hR hl hL hV hS hN T hT X
  subst e1
  exact ⟨t, a1, .returned v, b1, b2, ⟨⟨h', c', n', e2.2, e3⟩, e4, fun w a hw => by cases hw; exact e2.1 a⟩, Lo, w1, w2, w3⟩
/-- A CONTRACT AT ONE START of a method that may throw -/
def XMT (l : Launch) (G : XG) (d : Nat) (M : XMt) (args : List Value) (h : XH) (c n : Nat) (P : Option Value → XH → Nat → Nat → Prop) : Prop :=
  ∀ c0 n0 : Nat, MetFree l M.1 (headSpec [Cond.code M.1 M.2.1 M.2.2.1 M.2.2.2] (xRm d c0 n0)) (va_Pc args (xPre G h c n c0 n0)) (fun _ _ _ _ _ => True) (fun _ st o t => xQT G P st o t ∧ xFE G st t (xCB - c0) (xSB - n0))
theorem XMT.of {args : List Value} (hy : plainName M.1.cls = true) (hn : (xin args).length ≤ M.2.2.1) (hw : XX l G M d 0 (xin args ++ List.replicate (M.2.2.1 - (xin args).length) none) [] h c n (xret2 G P)) : XMT l G d M args h c n P := by
  intro c0 n0
  refine MetFree.of_bodyS (code := M.2.1) (maxLocals := M.2.2.1) (ret := M.2.2.2) hy ?_ ?_
  · intro args s m hb hnm
    obtain ⟨meth, cd, h1, h2, h3, h4, h5, h6, -, -⟩ := Cond.code_spec hnm (atoms_spec (ws := [Cond.code M.1 M.2.1 M.2.2.1 M.2.2.2]) hb _ List.mem_cons_self)
    exact ⟨meth, cd, h1, h2, h3, h4, h5, h6⟩
  · intro p e s m args' below meth cd s₁ B hml hv _
    have hh0 : s₁.heap = s.heap := by rw [B.state]; rfl
    obtain ⟨rfl, hz, hu, hV, hS⟩ := hv
    have hR : xRo G (xRm d c0 n0) d s := ⟨rfl, rfl, by rw [hz, Nat.add_sub_cancel_left]; rfl, by rw [hu]; rfl, by rw [hz]; exact Nat.le_add_right _ _⟩
    have hk : W p l e (xRm d c0 n0) s m args.toArray below meth cd s.heap [] 0 0 (xret2 G P below args.toArray s (xRm d c0 n0)) (entryFrame m args.toArray M.2.2.1) := by
      rw [lg_entry_eq]
      exact hw p e (xRm d c0 n0) s m _ below meth cd s.heap [] 0 0 _ ⟨B.exec, B.bytes, hml, B.returns, findClass_of_methodNamed B.named, B.notSynchronized, (name_of_methodNamed B.named B.method).1, B.named⟩ hR (xlr.entry args hn) (by simp; omega) hV hS va_S.rf
    obtain ⟨t, a1, o, b1, b2, b3⟩ := hk s₁ hh0 (Stand.of_body B)
    exact ⟨t, o, a1, b1, b2, b3⟩
theorem XMT.mono {args : List Value} {P' : Option Value → XH → Nat → Nat → Prop} (h0 : XMT l G d M args h c n P) (hP : ∀ v h' c' n', P v h' c' n' → P' v h' c' n') : XMT l G d M args h c n P' := by
  intro c0 n0 p e ha hc hk s m as below hf happ hPc hKc
  obtain ⟨k, o, h1, h2, h3, ⟨⟨⟨h', c', n', e2, e3⟩, e4⟩, e5⟩⟩ := h0 c0 n0 p e ha hc hk s m as below hf happ hPc hKc
  exact ⟨k, o, h1, h2, h3, ⟨⟨⟨h', c', n', hP _ _ _ _ e2, e3⟩, e4⟩, e5⟩⟩
end XTH
/-! a call that may come back by a throw -/
section XTB
variable {l : Launch} {R : Room} {p : Program} {e : Env} {below : List Frame} {s : State} {sargs : Array Value} {y : MethodName} {len Wd : Nat} {m : MethodId} {meth : Method} {cd : Code} {U : State} {Ls : List Loc} {c0 s0 mc ms : Nat} {F : Addr → Prop}
def xback (V : State) (g : JFrame) (len : Nat) : Outcome → State
  | .returned v => V.setTop { g with pc := g.pc + len, stack := v.toList ++ g.stack }
  | .threw b => (V.setTop g).pushFrame (.throwing b)
theorem xt_free {S : Spec} {Pp : Array Value → State → Prop} {Q : Array Value → State → Outcome → State → Prop} {bytes : ByteArray} {maxL : Nat} {ret : Option FieldType} {mk : MethodId} {a : Array Value} {g : JFrame} {ig : Instr}
    (hM : MetFree l y S Pp (fun _ _ _ _ _ => True) Q) (X : Stand p l e R s m sargs below meth cd U Ls c0 s0) (hg : g.method = m) (hsize : g.locals.size = cd.maxLocals) (hdg : decode cd.code g.pc = .ok (ig, len)) (hW : 2 * g.monitorRoom + (g.stack.map fun v => v.category).sum ≤ Wd) (hn : U.methodNamed? y = some mk)
    (hframes : S.room.frames + 1 ≤ R.frames) (hlocals : Wd + (maxL + 11) + S.room.locals ≤ R.locals) (h1 : S.pre.before a U = true) (h2 : (Cond.code y bytes maxL ret).before a U = true) (h3 : (Cond.initialized y.cls).before a U = true) (h4 : c0 + S.room.cells ≤ R.cells) (h5 : s0 + S.room.slots ≤ R.slots)
    (hP : Pp a (U.calling g mk a)) (hQ : ∀ o t, Q a (U.calling g mk a) o t → ∃ L : List Loc, (U.calling g mk a).WarmedH t.vm ∧ (U.calling g mk a).sameButNew ({ t with vm := (U.calling g mk a).vm } : State) L mc ms ∧ ∀ q ∈ L, F q.base) :
    ∃ (o : Outcome) (t V : State) (L : List Loc), Q a (U.calling g mk a) o t ∧ V.heap = t.heap ∧ V.vm = t.vm ∧ (∀ q ∈ L, F q.base) ∧ Stand p l e R s m sargs below meth cd V (Ls ++ L) (c0 + mc) (s0 + ms) ∧
      Steps p.tables e below (doInvoke e (U.setTop g) [] mk a).1 (xback V g len o) := by
  obtain ⟨methY, cY, hmY, hcY, -, hlY, -, -, -, -⟩ := Cond.code_spec hn h2
  obtain ⟨kY, hkY, -⟩ := className_of_methodNamed hn
  have hinitY : kY.init = .initialized := Cond.initialized_spec (findClass_of_methodNamed hn) hkY h3
  have h : At U g.method cd below := by rw [hg]; exact X.here
  have happ : S.appliesLoose y e.platform (U.calling g mk a) = true :=
    Spec.appliesLoose_calling (g := g) h hdg hn hkY hinitY
      (X.room_calling (g := g) (R' := S.room) hsize hmY hcY hframes (by rw [hlY]; omega) h4 h5) h1
  obtain ⟨mid, hmid⟩ := h.above
  have hfr : (U.setTop g).frames = (.java g :: mid) ++ below := by rw [State.frames_setTop' g h.top, hmid]; rfl
  obtain ⟨o, s₂, hsteps, -, hend, hq⟩ := Steps.callFree hM p X.admits X.cas X.clock (acts := []) hfr happ hP trivial
  have hq' : Q a (U.calling g mk a) o s₂ := hq
  rw [State.frames_setTop' g h.top] at hend
  obtain ⟨L, hW₂, ⟨e2, q2, q3, q4, q5, q6⟩, hFr⟩ := hQ _ _ hq'
  have e3 : s₂ = ({ (U.calling g mk a).setFrames s₂.frames with heap := s₂.heap, slotsUsed := s₂.slotsUsed } : State).setVm s₂.vm := by
    have : s₂ = ({ s₂ with vm := (U.calling g mk a).vm } : State).setVm s₂.vm := rfl
    rw [e2] at this
    exact this
  have hW' : U.WarmedH s₂.vm := hW₂
  obtain ⟨g₀, hg0⟩ := Option.isSome_iff_exists.mp h.top
  obtain ⟨r, hr⟩ := State.topJava?_eq_some.mp hg0
  have hr' : (({ U with heap := s₂.heap, slotsUsed := s₂.slotsUsed } : State).setVm s₂.vm).frames = .java g₀ :: r := hr
  have hs₂ : s₂ = xback (({ U with heap := s₂.heap, slotsUsed := s₂.slotsUsed } : State).setVm s₂.vm) g len o := by
    cases o with
    | returned v =>
      obtain ⟨c₂, i₂, len₂, hc₂, hd₂, hf₂⟩ := hend
      have hcc : c₂ = cd := by
        have h1 : s₂.code? g.method = U.code? g.method := by
          rw [State.code?_eq, State.code?_eq, hW'.alike.method?]
        exact Option.some.inj (hc₂.symm.trans (h1.trans h.code))
      subst hcc
      have hlen : len₂ = len := by rw [hdg] at hd₂; cases hd₂; rfl
      subst hlen
      refine e3.trans ?_
      show _ = (({ U with heap := s₂.heap, slotsUsed := s₂.slotsUsed } : State).setVm s₂.vm).setTop { g with pc := g.pc + len₂, stack := v.toList ++ g.stack }
      rw [hf₂, State.calling_eq h.top, State.setFrames_setFrames, State.setTop_of_frames _ hr', hr]
      rfl
    | threw b =>
      have hf₂ : s₂.frames = .throwing b :: .java g :: U.frames.tail := hend
      refine e3.trans ?_
      show _ = ((({ U with heap := s₂.heap, slotsUsed := s₂.slotsUsed } : State).setVm s₂.vm).setTop g).pushFrame (.throwing b)
      rw [hf₂, State.calling_eq h.top, State.setFrames_setFrames, State.pushFrame, State.frames_setTop _ hr', State.setTop_of_frames _ hr', State.setFrames_setFrames, hr]
      rfl
  have hsame : U.sameButNew ({ U with heap := s₂.heap, slotsUsed := s₂.slotsUsed } : State) L mc ms := by
    refine ⟨?_, q2, q3, q4, q5, q6⟩
    obtain ⟨t, ht, -⟩ := State.frames_cons hr
    show ({ U with heap := s₂.heap, slotsUsed := s₂.slotsUsed } : State) = { U.setFrames U.frames with heap := s₂.heap, slotsUsed := s₂.slotsUsed }
    rw [State.setFrames_self ht]
  subst hg
  refine ⟨o, s₂, (({ U with heap := s₂.heap, slotsUsed := s₂.slotsUsed } : State).setVm s₂.vm), L, hq', rfl, rfl, hFr,
    ⟨X.admits, X.cas, X.clock, X.frames, X.room, X.hears, X.method, X.code, (X.here.setHeapUsed s₂.heap s₂.slotsUsed).setVm hW'.alike, X.tail, State.WarmedH.trans X.warmed hW', X.limits, X.bytes, X.same.trans (hsame.setVm s.vm)⟩, ?_⟩
  rw [← hs₂]
  exact hsteps
end XTB
/-! into a handler whose class isn't resolved yet -/
section XTC
variable {e : Env} {s : State} {f : JFrame} {a : Addr}
theorem xh_go {Q : Handler → Pre} {E : CtlPost} {d : Bool} {acts : List Action} {x : ExceptionTableEntry} {t : List ExceptionTableEntry} {c : ClassId} {cell : Cell} {vm' : Vm} (hx : covers x f.pc = true) (h0 : x.catchType ≠ 0)
    (hg : (Jvm.resolveClass f.method.cls x.catchType).Gives e.toSetting s.vm (.ok c) vm') (hsz : vm'.classes.size ≤ s.vm.classes.size) (hcell : s.heap[a]? = some cell) (hobj : ∀ k, cell.vm ≠ .statics k)
    (hk : ∃ k, vm'.classes[cell.cls]? = some k) (hc : ∃ k, vm'.classes[c]? = some k) :
    wp (findHandler.go f a (x :: t)) Q E e d acts s ↔ if vm'.assignable cell.cls c = true then Q (.found x.handlerPc) d acts (s.setVm vm') else wp (findHandler.go f a t) Q E e d acts (s.setVm vm') := by
  simp only [covers] at hx
  obtain ⟨ha, ht⟩ := hg.op (op := VmOp.resolveClass f.method.cls x.catchType) rfl
  cases hfit : vm'.assignable cell.cls c <;>
    simp [findHandler.go, hx, h0, ha, ht, hsz, hcell, hobj, hk, hc, hfit, VmOp.dirties, VmOp.acts]
def FindsV (e : Env) (s : State) (f : JFrame) (a : Addr) (h : Handler) (vm' : Vm) : Prop :=
  ∀ (Q : Handler → Pre) (E : CtlPost) (d : Bool) (acts : List Action), wp (findHandler f a) Q E e d acts s ↔ Q h d acts (s.setVm vm')
theorem stepThrowing_catchV {r : List Frame} {pc : Nat} {vm' : Vm} (hfind : FindsV e s f a (.found pc) vm') :
    (stepThrowing e s a (.java f :: r)).Is ((s.setVm vm').setFrames (.java { f with pc := pc, stack := [.ref a] } :: r)) [] := by
  simp only [stepThrowing, searchFrame, vmDo]
  generalize hr : Sem.go _ e false [] s = res
  obtain ⟨as, rfl, ha⟩ := Sem.eq_ok_of hr (a := Handler.found pc) (s' := s.setVm vm') (acts' := []) (by simp [hfind _ _ _ _])
  exact ⟨rfl, ha⟩
theorem Steps.caughtV {tb : Tables} {g : JFrame} {c : Code} {below : List Frame} {target : State} (h : At s g.method c below) {pc : Nat} {vm' : Vm} (hfind : FindsV e ((s.setTop g).pushFrame (.throwing a)) g a (.found pc) vm')
    (hrest : Steps tb e below ((s.setVm vm').setTop { g with pc := pc, stack := [.ref a] }) target) :
    Steps tb e below ((s.setTop g).pushFrame (.throwing a)) target := by
  obtain ⟨hgo, hw⟩ := h.throwing a
  refine Steps.head hgo hw ?_
  rw [stepThread_throwing (frames_entered h.top _), (stepThrowing_catchV (s := (s.setTop g).pushFrame (.throwing a)) hfind).1]
  obtain ⟨g₀, hg⟩ := Option.isSome_iff_exists.mp h.top
  obtain ⟨r, hr⟩ := State.topJava?_eq_some.mp hg
  have hr' : (s.setVm vm').frames = .java g₀ :: r := hr
  rw [State.setTop_of_frames _ hr'] at hrest
  rw [hr]
  have e1 : (((s.setTop g).pushFrame (.throwing a)).setVm vm').setFrames (.java { g with pc := pc, stack := [.ref a] } :: r) = (s.setVm vm').setFrames (.java { g with pc := pc, stack := [.ref a] } :: r) := by
    rw [State.setTop_of_frames _ hr, State.pushFrame, State.setFrames_setFrames]
    show (((s.setVm vm').setFrames _).setFrames _) = _
    rw [State.setFrames_setFrames]
  show Steps tb e below ((((s.setTop g).pushFrame (.throwing a)).setVm vm').setFrames (.java { g with pc := pc, stack := [.ref a] } :: r)) target
  rw [e1]
  exact hrest
end XTC
section XTV
variable {l : Launch} {G : XG} {M : XMt} {d pc : Nat} {L : List (Option Value)} {rest : List Value} {h : XH} {c n : Nat} {Q : XPo}
/-- a call that may throw an object of one class, which the first row of the caller's table catches -/
theorem x_callVT {Mc : XMt} {As st vs : List Value} {b k idx nn N s1 e1 ct hpc kE NE : Nat} {C CE : String} {T TE : u_T} {P' : Option Value → XH → Nat → Nat → Prop} {hh : List (Nat × Nat × Nat × Nat)}
    (hk : xk[k]? = some (.inl (C, T, N))) (hb : xcb Mc nn) (hins : Cond.instanceMethod Mc.1 ∈ xT) (hlk : Cond.methodLink M.1.cls idx Mc.1 ∈ xT) (hsel : Cond.selects C Mc.1 Mc.1 ∈ xT)
    (hcw : Cond.codeWith M.1 M.2.1 M.2.2.1 M.2.2.2 ((s1, e1, hpc, ct) :: hh) ∈ xT) (hcov : s1 ≤ pc ∧ pc < e1) (hct : ct ≠ 0) (hkE : xk[kE]? = some (.inl (CE, TE, NE))) (hcl : Cond.classLink M.1.cls ct CE ∈ xT)
    (ha : xr G h b k vs) (hM : XMT l G d Mc (.ref b :: As) h c n P') (hn : As.length = nn) (hst : st = As.reverse ++ .ref b :: rest) (hr : (rest.map fun v => v.category).sum ≤ 8) (hd : decode M.2.1 pc = .ok (.invokevirtual idx, 3))
    (kk : ∀ (v : Option Value) (h' : XH) (c' n' : Nat), P' v h' c' n' → (∀ a, v ≠ some (.retAddr a)) → XX l G M (d + 1) (pc + 3) L (v.toList ++ rest) h' c' n' Q)
    (kt : ∀ (a : Nat) (h' : XH) (c' n' : Nat), P' (some (.retAddr a)) h' c' n' → (∃ ws, h' a = some (kE, ws)) ∧ XX l G M (d + 1) hpc L [.ref a] h' c' n' Q) : XX l G M (d + 1) pc L st h c n Q := by
  intro p e R s m args below meth cd H locs cells slots ls hF hR hl hL hV hS hN
  have hts := hV.ts args
  have hR0 := hR
  obtain ⟨r1, r2, r3, r4, r5⟩ := hR
  have hS0 := hS
  obtain ⟨s1', s2, s3, s4, s5, s6⟩ := hS
  have h41 := hb.2.2.1
  have hy : Mc.1.cls ≠ "java/lang/invoke/MethodHandle" ∧ Mc.1.cls ≠ "java/lang/invoke/VarHandle" := ⟨hb.2.2.2.1, hb.2.2.2.2.1⟩
  refine x_mono r5 fun m1 m2 => ?_
  refine x_tight (k := H.size - s.heap.size) (j := xU G.2.1 H - xU G.2.1 s.heap) r5 (by omega) (by omega) ?_
  obtain ⟨cellB, b1, -, b2, b3⟩ := xr_cell ha hV hS0
  have hcB : s.vm.findClass C = some cellB.cls := by rw [xcw_cls hk b3]; exact (hV.1 k _ hk : u_Kn s C T N (G.1.1 k) (G.1.2 k)).2.1
  intro T' hT X
  obtain ⟨mk, methM, hnamed, hmethM, hstM, habM⟩ := Cond.instanceMethod_spec (hts _ hins)
  obtain ⟨methM', cM, hmethM', -, -, -, -, -, -, hsigM⟩ := Cond.code_spec hnamed (hts _ hb.1)
  cases hmethM.symm.trans hmethM'
  obtain ⟨c2, r2', m2', q1, q2, q3, q4, kP, hkP, hkPi⟩ := Cond.selects_spec (hts _ hsel)
  cases hcB.symm.trans q1
  cases (State.methodFound?_of_named hnamed hy).symm.trans q2
  cases hnamed.symm.trans q3
  have hselP : selectMethod e.platform s.vm cellB.cls mk = .method mk := by rw [Launch.admits_selectMethod X.admits]; exact q4
  have hlen : As.length = methM.sig.parameters.length := by
    have h2 := hb.2.2.2.2.2
    rw [hsigM] at h2
    exact hn.trans (Option.some.inj h2).symm
  obtain ⟨vm₁, X₁, hstep₁⟩ := X.invokevirtual hF.1 hF.2.2.2.2.1 (hts _ hlk) hnamed hmethM hstM hkP hkPi hy (a := b) (cell := cellB) (by rw [hT]; exact b1)
    (fun z hz => by rw [hz] at b2; cases b2) hselP hmethM habM hkP hkPi (g := F0 m pc ls st) rfl (argsL := As) (rest := rest) hlen hst (by rw [hF.2.1]; exact hd)
  have hU : (T'.setVm vm₁).heap = H := hT
  have hpre : va_Pc (.ref b :: As) (xPre G h c n (H.size - G.2.1) (xU G.2.1 H)) (Value.ref b :: As).toArray (T'.setVm vm₁) := xPre.at hV hS0 hU X₁.warmed
  have hgood := xcb_good hb
  obtain ⟨o, t, V, Lo, ⟨⟨⟨h', c', n', hp, hS1⟩, hFm, hne⟩, -⟩, ev1, ev2, hLo, X', hst'⟩ := xt_free (bytes := Mc.2.1) (maxL := Mc.2.2.1) (ret := Mc.2.2.2) (mc := xCB - (H.size - G.2.1)) (ms := xSB - xU G.2.1 H) (F := xA G) (Wd := 8) (len := 3) (hM (H.size - G.2.1) (xU G.2.1 H)) X₁ (g := (F0 m pc ls rest)) (a := (Value.ref b :: As).toArray) rfl (by show ls.size = _; rw [hl.1, hL, hF.2.2.1]) (by rw [hF.2.1]; exact hd) (by show 2 * 0 + (rest.map fun v => v.category).sum ≤ 8; omega) (X₁.named hnamed)
    (by show d + 1 ≤ R.frames; rw [r1]; exact Nat.le_refl _) (by show 8 + (Mc.2.2.1 + 11) + (d * 60 + 11000) ≤ _; rw [r2]; omega)
    (atoms_intro fun w hw => pay_in hts hgood w hw _ _ X₁.warmed) (pay_in hts hgood _ List.mem_cons_self _ _ X₁.warmed) (word_at X₁.warmed (Or.inl (by first | rfl | simp [Cond.onTables, Cond.keeps, Cond.steady])) (hts _ hb.2.1))
    (by show H.size - s.heap.size + (xCB - (H.size - G.2.1)) ≤ _; rw [r3]; omega) (by show xU G.2.1 H - xU G.2.1 s.heap + (xSB - xU G.2.1 H) ≤ _; rw [r4]; omega)
    (xPre.blind _ _ _ _ hpre) (fun o t hq => hq.2)
  have hz : H.size ≤ t.heap.size := by have := hFm.1; rwa [show ((T'.setVm vm₁).calling (F0 m pc ls rest) mk (Value.ref b :: As).toArray).heap = H from hU] at this
  have hkp : ∀ q : Nat, q < H.size → ¬ xA G q → t.heap[q]? = H[q]? := fun q h1 h2 => by have := hFm.2 q (by rw [show ((T'.setVm vm₁).calling (F0 m pc ls rest) mk (Value.ref b :: As).toArray).heap = H from hU]; exact h1) h2; rwa [show ((T'.setVm vm₁).calling (F0 m pc ls rest) mk (Value.ref b :: As).toArray).heap = H from hU] at this
  have hN1 : va_S (xA G) s.heap t.heap (locs ++ Lo) := ⟨Nat.le_trans hN.1 hz, fun q h1 h2 => by rw [hkp q (Nat.lt_of_lt_of_le h1 hN.1) h2]; exact hN.2.1 q h1 h2, fun q hq => by
    rcases List.mem_append.mp hq with hh | hh
    · exact hN.2.2 q hh
    · exact hLo q hh⟩
  have hV1 := hV.kept hkp
  cases o with
  | returned v =>
    obtain ⟨t2, a1, a2⟩ := kk v h' c' n' hp (fun a => hne v a rfl) p e R s m args below meth cd t.heap (locs ++ Lo) _ _ ls hF hR0 hl hL hV1 hS1 hN1 V ev1 X'
    exact ⟨t2, hstep₁ _ fun acts => by rw [doInvoke_state]; exact hst'.trans a1, a2⟩
  | threw a =>
    obtain ⟨⟨ws, hws⟩, kx⟩ := kt a h' c' n' hp
    have hpl : e.platform.magicAccessors = ({} : Platform).magicAccessors := by rw [X.admits.platform]
    obtain ⟨cE, hfE, hclE⟩ := Cond.classLink_spec hF.2.2.2.2.1 (hts _ hcl) e.platform hpl
    have hKE := (hV.1 kE _ hkE : u_Kn s CE TE NE (G.1.1 kE) (G.1.2 kE))
    cases hfE.symm.trans hKE.2.1
    obtain ⟨hg₁, hwarm₁, hready₁⟩ := State.classEntry (e := e) X'.warmed hclE
    have hsz : (V.vm.noted m.cls ct (.cls (G.1.1 kE))).classes.size ≤ V.vm.classes.size := by no_record
    generalize V.vm.noted m.cls ct (.cls (G.1.1 kE)) = vm₂ at hg₁ hwarm₁ hready₁ hsz
    obtain ⟨-, cell, g1, g2, g3⟩ := hS1.1 a kE ws hws
    obtain ⟨kC, hkC, -⟩ := hKE.2.2
    obtain ⟨k₂, hk₂, -⟩ := hwarm₁.alike.2.2 _ _ hkC
    obtain ⟨m9, meth9, cd9, hn9, hm9, hc9, -, -, ht9, -, -, -⟩ := Cond.codeWith_spec (hts _ hcw)
    cases hF.2.2.2.2.2.2.2.symm.trans hn9
    cases X.method.symm.trans hm9
    cases X.code.symm.trans hc9
    obtain ⟨x, tl, hx, hx1, -⟩ : ∃ (x : ExceptionTableEntry) (tl : List ExceptionTableEntry), cd.exceptionTable.toList = x :: tl ∧ (x.startPc, x.endPc, x.handlerPc, x.catchType) = (s1, e1, hpc, ct) ∧ True := by
      cases hq : cd.exceptionTable.toList with
      | nil => rw [hq] at ht9; cases ht9
      | cons x tl =>
        rw [hq] at ht9
        exact ⟨x, tl, rfl, (List.cons.inj ht9).1, trivial⟩
    simp only [Prod.mk.injEq] at hx1
    obtain ⟨x1, x2, x3, x4⟩ := hx1
    have hvmV : ((V.setTop (F0 m pc ls rest)).pushFrame (.throwing a)).vm = V.vm := Stand.throwing_vm _ _ _
    have hhpV : ((V.setTop (F0 m pc ls rest)).pushFrame (.throwing a)).heap = V.heap := Stand.throwing_heap _ _ _
    have hfind : FindsV e ((V.setTop (F0 m pc ls rest)).pushFrame (.throwing a)) (F0 m pc ls rest) a (.found hpc) vm₂ := by
      intro Qh E dd acts
      rw [W.findHandler_eq (meth := meth) (code := cd) (by rw [hvmV]; exact X'.method') X'.code, hx]
      rw [xh_go (c := G.1.1 kE) (cell := cell) (vm' := vm₂) (by simp only [covers, x1, x2]; simp [hcov.1, hcov.2]) (by rw [x4]; exact hct) (by rw [hvmV, x4]; exact hg₁) (by rw [hvmV]; exact hsz) (by rw [hhpV, ev1]; exact g1) (fun k hk => by rw [g2] at hk; cases hk) ⟨k₂, by rw [g3.1]; exact hk₂⟩ ⟨k₂, hk₂⟩]
      rw [if_pos (by rw [g3.1]; exact va_asg _ _), x3]
    have X₂ := X'.noted hwarm₁
    obtain ⟨t2, a1, a2⟩ := kx p e R s m args below meth cd t.heap (locs ++ Lo) _ _ ls hF hR0 hl hL hV1 hS1 hN1 (V.setVm vm₂) ev1 X₂
    refine ⟨t2, hstep₁ _ fun acts => ?_, a2⟩
    rw [doInvoke_state]
    refine hst'.trans ?_
    exact Steps.caughtV (s := V) (g := (F0 m pc ls rest)) X'.here hfind a1
/-- a call that may throw objects of two classes, which the first two rows of the caller's table catch -/
theorem x_callVT2 {Mc : XMt} {As st vs : List Value} {b k idx nn N s1 e1 ct hpc NE s9 e9 ct9 hpc9 NE9 : Nat} {C CE CE9 : String} {T TE TE9 : u_T} {P' : Option Value → XH → Nat → Nat → Prop} {hh : List (Nat × Nat × Nat × Nat)}
    (hk : xk[k]? = some (.inl (C, T, N))) (hb : xcb Mc nn) (hins : Cond.instanceMethod Mc.1 ∈ xT) (hlk : Cond.methodLink M.1.cls idx Mc.1 ∈ xT) (hsel : Cond.selects C Mc.1 Mc.1 ∈ xT)
    (hcw : Cond.codeWith M.1 M.2.1 M.2.2.1 M.2.2.2 ((s1, e1, hpc, ct) :: (s9, e9, hpc9, ct9) :: hh) ∈ xT) (hcov : s1 ≤ pc ∧ pc < e1) (hcov9 : s9 ≤ pc ∧ pc < e9) (hct : ct ≠ 0) (hct9 : ct9 ≠ 0) (hkE : xk[k_IllegalArgumentException]? = some (.inl (CE, TE, NE))) (hcl : Cond.classLink M.1.cls ct CE ∈ xT) (hkE9 : xk[k_IllegalStateException]? = some (.inl (CE9, TE9, NE9))) (hcl9 : Cond.classLink M.1.cls ct9 CE9 ∈ xT)
    (ha : xr G h b k vs) (hM : XMT l G d Mc (.ref b :: As) h c n P') (hn : As.length = nn) (hst : st = As.reverse ++ .ref b :: rest) (hr : (rest.map fun v => v.category).sum ≤ 8) (hd : decode M.2.1 pc = .ok (.invokevirtual idx, 3))
    (kk : ∀ (v : Option Value) (h' : XH) (c' n' : Nat), P' v h' c' n' → (∀ a, v ≠ some (.retAddr a)) → XX l G M (d + 1) (pc + 3) L (v.toList ++ rest) h' c' n' Q)
    (kt : ∀ (a : Nat) (h' : XH) (c' n' : Nat), P' (some (.retAddr a)) h' c' n' → ((∃ ws, h' a = some (k_IllegalArgumentException, ws)) ∧ XX l G M (d + 1) hpc L [.ref a] h' c' n' Q) ∨ ((∃ ws, h' a = some (k_IllegalStateException, ws)) ∧ XX l G M (d + 1) hpc9 L [.ref a] h' c' n' Q)) : XX l G M (d + 1) pc L st h c n Q := by
  intro p e R s m args below meth cd H locs cells slots ls hF hR hl hL hV hS hN
  have hts := hV.ts args
  have hR0 := hR
  obtain ⟨r1, r2, r3, r4, r5⟩ := hR
  have hS0 := hS
  obtain ⟨s1', s2, s3, s4, s5, s6⟩ := hS
  have h41 := hb.2.2.1
  have hy : Mc.1.cls ≠ "java/lang/invoke/MethodHandle" ∧ Mc.1.cls ≠ "java/lang/invoke/VarHandle" := ⟨hb.2.2.2.1, hb.2.2.2.2.1⟩
  refine x_mono r5 fun m1 m2 => ?_
  refine x_tight (k := H.size - s.heap.size) (j := xU G.2.1 H - xU G.2.1 s.heap) r5 (by omega) (by omega) ?_
  obtain ⟨cellB, b1, -, b2, b3⟩ := xr_cell ha hV hS0
  have hcB : s.vm.findClass C = some cellB.cls := by rw [xcw_cls hk b3]; exact (hV.1 k _ hk : u_Kn s C T N (G.1.1 k) (G.1.2 k)).2.1
  intro T' hT X
  obtain ⟨mk, methM, hnamed, hmethM, hstM, habM⟩ := Cond.instanceMethod_spec (hts _ hins)
  obtain ⟨methM', cM, hmethM', -, -, -, -, -, -, hsigM⟩ := Cond.code_spec hnamed (hts _ hb.1)
  cases hmethM.symm.trans hmethM'
  obtain ⟨c2, r2', m2', q1, q2, q3, q4, kP, hkP, hkPi⟩ := Cond.selects_spec (hts _ hsel)
  cases hcB.symm.trans q1
  cases (State.methodFound?_of_named hnamed hy).symm.trans q2
  cases hnamed.symm.trans q3
  have hselP : selectMethod e.platform s.vm cellB.cls mk = .method mk := by rw [Launch.admits_selectMethod X.admits]; exact q4
  have hlen : As.length = methM.sig.parameters.length := by
    have h2 := hb.2.2.2.2.2
    rw [hsigM] at h2
    exact hn.trans (Option.some.inj h2).symm
  obtain ⟨vm₁, X₁, hstep₁⟩ := X.invokevirtual hF.1 hF.2.2.2.2.1 (hts _ hlk) hnamed hmethM hstM hkP hkPi hy (a := b) (cell := cellB) (by rw [hT]; exact b1)
    (fun z hz => by rw [hz] at b2; cases b2) hselP hmethM habM hkP hkPi (g := F0 m pc ls st) rfl (argsL := As) (rest := rest) hlen hst (by rw [hF.2.1]; exact hd)
  have hU : (T'.setVm vm₁).heap = H := hT
  have hpre : va_Pc (.ref b :: As) (xPre G h c n (H.size - G.2.1) (xU G.2.1 H)) (Value.ref b :: As).toArray (T'.setVm vm₁) := xPre.at hV hS0 hU X₁.warmed
  have hgood := xcb_good hb
  obtain ⟨o, t, V, Lo, ⟨⟨⟨h', c', n', hp, hS1⟩, hFm, hne⟩, -⟩, ev1, ev2, hLo, X', hst'⟩ := xt_free (bytes := Mc.2.1) (maxL := Mc.2.2.1) (ret := Mc.2.2.2) (mc := xCB - (H.size - G.2.1)) (ms := xSB - xU G.2.1 H) (F := xA G) (Wd := 8) (len := 3) (hM (H.size - G.2.1) (xU G.2.1 H)) X₁ (g := (F0 m pc ls rest)) (a := (Value.ref b :: As).toArray) rfl (by show ls.size = _; rw [hl.1, hL, hF.2.2.1]) (by rw [hF.2.1]; exact hd) (by show 2 * 0 + (rest.map fun v => v.category).sum ≤ 8; omega) (X₁.named hnamed)
    (by show d + 1 ≤ R.frames; rw [r1]; exact Nat.le_refl _) (by show 8 + (Mc.2.2.1 + 11) + (d * 60 + 11000) ≤ _; rw [r2]; omega)
    (atoms_intro fun w hw => pay_in hts hgood w hw _ _ X₁.warmed) (pay_in hts hgood _ List.mem_cons_self _ _ X₁.warmed) (word_at X₁.warmed (Or.inl (by first | rfl | simp [Cond.onTables, Cond.keeps, Cond.steady])) (hts _ hb.2.1))
    (by show H.size - s.heap.size + (xCB - (H.size - G.2.1)) ≤ _; rw [r3]; omega) (by show xU G.2.1 H - xU G.2.1 s.heap + (xSB - xU G.2.1 H) ≤ _; rw [r4]; omega)
    (xPre.blind _ _ _ _ hpre) (fun o t hq => hq.2)
  have hz : H.size ≤ t.heap.size := by have := hFm.1; rwa [show ((T'.setVm vm₁).calling (F0 m pc ls rest) mk (Value.ref b :: As).toArray).heap = H from hU] at this
  have hkp : ∀ q : Nat, q < H.size → ¬ xA G q → t.heap[q]? = H[q]? := fun q h1 h2 => by have := hFm.2 q (by rw [show ((T'.setVm vm₁).calling (F0 m pc ls rest) mk (Value.ref b :: As).toArray).heap = H from hU]; exact h1) h2; rwa [show ((T'.setVm vm₁).calling (F0 m pc ls rest) mk (Value.ref b :: As).toArray).heap = H from hU] at this
  have hN1 : va_S (xA G) s.heap t.heap (locs ++ Lo) := ⟨Nat.le_trans hN.1 hz, fun q h1 h2 => by rw [hkp q (Nat.lt_of_lt_of_le h1 hN.1) h2]; exact hN.2.1 q h1 h2, fun q hq => by
    rcases List.mem_append.mp hq with hh | hh
    · exact hN.2.2 q hh
    · exact hLo q hh⟩
  have hV1 := hV.kept hkp
  cases o with
  | returned v =>
    obtain ⟨t2, a1, a2⟩ := kk v h' c' n' hp (fun a => hne v a rfl) p e R s m args below meth cd t.heap (locs ++ Lo) _ _ ls hF hR0 hl hL hV1 hS1 hN1 V ev1 X'
    exact ⟨t2, hstep₁ _ fun acts => by rw [doInvoke_state]; exact hst'.trans a1, a2⟩
  | threw a =>
    have hpl : e.platform.magicAccessors = ({} : Platform).magicAccessors := by rw [X.admits.platform]
    obtain ⟨cE, hfE, hclE⟩ := Cond.classLink_spec hF.2.2.2.2.1 (hts _ hcl) e.platform hpl
    have hKE := (hV.1 k_IllegalArgumentException _ hkE : u_Kn s CE TE NE (G.1.1 k_IllegalArgumentException) (G.1.2 k_IllegalArgumentException))
    cases hfE.symm.trans hKE.2.1
    obtain ⟨hg₁, hwarm₁, hready₁⟩ := State.classEntry (e := e) X'.warmed hclE
    have hsz : (V.vm.noted m.cls ct (.cls (G.1.1 k_IllegalArgumentException))).classes.size ≤ V.vm.classes.size := by no_record
    generalize V.vm.noted m.cls ct (.cls (G.1.1 k_IllegalArgumentException)) = vm₂ at hg₁ hwarm₁ hready₁ hsz
    obtain ⟨kC, hkC, -⟩ := hKE.2.2
    obtain ⟨k₂, hk₂, -⟩ := hwarm₁.alike.2.2 _ _ hkC
    obtain ⟨m9, meth9, cd9, hn9, hm9, hc9, -, -, ht9, -, -, -⟩ := Cond.codeWith_spec (hts _ hcw)
    cases hF.2.2.2.2.2.2.2.symm.trans hn9
    cases X.method.symm.trans hm9
    cases X.code.symm.trans hc9
    obtain ⟨x, y, tl, hx, hx1, hy1⟩ : ∃ (x y : ExceptionTableEntry) (tl : List ExceptionTableEntry), cd.exceptionTable.toList = x :: y :: tl ∧ (x.startPc, x.endPc, x.handlerPc, x.catchType) = (s1, e1, hpc, ct) ∧ (y.startPc, y.endPc, y.handlerPc, y.catchType) = (s9, e9, hpc9, ct9) := by
      cases hq : cd.exceptionTable.toList with
      | nil => rw [hq] at ht9; cases ht9
      | cons x tl =>
        rw [hq] at ht9
        cases tl with
        | nil => cases (List.cons.inj ht9).2
        | cons y tl => exact ⟨x, y, tl, rfl, (List.cons.inj ht9).1, (List.cons.inj (List.cons.inj ht9).2).1⟩
    simp only [Prod.mk.injEq] at hx1 hy1
    obtain ⟨x1, x2, x3, x4⟩ := hx1
    obtain ⟨y1, y2, y3, y4⟩ := hy1
    have hvmV : ((V.setTop (F0 m pc ls rest)).pushFrame (.throwing a)).vm = V.vm := Stand.throwing_vm _ _ _
    have hhpV : ((V.setTop (F0 m pc ls rest)).pushFrame (.throwing a)).heap = V.heap := Stand.throwing_heap _ _ _
    have X₂ := X'.noted hwarm₁
    rcases kt a h' c' n' hp with ⟨⟨ws, hws⟩, kx⟩ | ⟨⟨ws, hws⟩, kx⟩
    · obtain ⟨-, cell, g1, g2, g3⟩ := hS1.1 a k_IllegalArgumentException ws hws
      have hfind : FindsV e ((V.setTop (F0 m pc ls rest)).pushFrame (.throwing a)) (F0 m pc ls rest) a (.found hpc) vm₂ := by
        intro Qh E dd acts
        rw [W.findHandler_eq (meth := meth) (code := cd) (by rw [hvmV]; exact X'.method') X'.code, hx]
        rw [xh_go (c := G.1.1 k_IllegalArgumentException) (cell := cell) (vm' := vm₂) (by simp only [covers, x1, x2]; simp [hcov.1, hcov.2]) (by rw [x4]; exact hct) (by rw [hvmV, x4]; exact hg₁) (by rw [hvmV]; exact hsz) (by rw [hhpV, ev1]; exact g1) (fun k hk => by rw [g2] at hk; cases hk) ⟨k₂, by rw [g3.1]; exact hk₂⟩ ⟨k₂, hk₂⟩]
        rw [if_pos (by rw [g3.1]; exact va_asg _ _), x3]
      obtain ⟨t2, a1, a2⟩ := kx p e R s m args below meth cd t.heap (locs ++ Lo) _ _ ls hF hR0 hl hL hV1 hS1 hN1 (V.setVm vm₂) ev1 X₂
      refine ⟨t2, hstep₁ _ fun acts => ?_, a2⟩
      rw [doInvoke_state]
      refine hst'.trans ?_
      exact Steps.caughtV (s := V) (g := (F0 m pc ls rest)) X'.here hfind a1
    · obtain ⟨-, cell, g1, g2, g3⟩ := hS1.1 a k_IllegalStateException ws hws
      obtain ⟨cE9, hfE9, hclE9⟩ := Cond.classLink_spec hF.2.2.2.2.1 (hts _ hcl9) e.platform hpl
      have hKE9 := (hV.1 k_IllegalStateException _ hkE9 : u_Kn s CE9 TE9 NE9 (G.1.1 k_IllegalStateException) (G.1.2 k_IllegalStateException))
      cases hfE9.symm.trans hKE9.2.1
      obtain ⟨hg₉, hwarm₉, hready₉⟩ := State.classEntry (e := e) X₂.warmed hclE9
      have hsz9 : ((V.setVm vm₂).vm.noted m.cls ct9 (.cls (G.1.1 k_IllegalStateException))).classes.size ≤ (V.setVm vm₂).vm.classes.size := by no_record
      generalize (V.setVm vm₂).vm.noted m.cls ct9 (.cls (G.1.1 k_IllegalStateException)) = vm₃ at hg₉ hwarm₉ hready₉ hsz9
      have X₃ := X₂.noted hwarm₉
      obtain ⟨kC9, hkC9, -⟩ := hKE9.2.2
      obtain ⟨k₉, hk₉, -⟩ := hwarm₉.alike.2.2 _ _ hkC9
      obtain ⟨k₈, hk₈, -⟩ := hwarm₁.alike.2.2 _ _ hkC9
      have hnc : vm₂.assignable (G.1.1 k_IllegalStateException) (G.1.1 k_IllegalArgumentException) = false := (hV.2.2.1.2.1.2.moved (U := V.setVm vm₂) hwarm₁.alike : xnc G (V.setVm vm₂))
      have hfind : FindsV e ((V.setTop (F0 m pc ls rest)).pushFrame (.throwing a)) (F0 m pc ls rest) a (.found hpc9) vm₃ := by
        intro Qh E dd acts
        rw [W.findHandler_eq (meth := meth) (code := cd) (by rw [hvmV]; exact X'.method') X'.code, hx]
        rw [xh_go (c := G.1.1 k_IllegalArgumentException) (cell := cell) (vm' := vm₂) (by simp only [covers, x1, x2]; simp [hcov.1, hcov.2]) (by rw [x4]; exact hct) (by rw [hvmV, x4]; exact hg₁) (by rw [hvmV]; exact hsz) (by rw [hhpV, ev1]; exact g1) (fun k hk => by rw [g2] at hk; cases hk) ⟨k₈, by rw [g3.1]; exact hk₈⟩ ⟨k₂, hk₂⟩]
        rw [if_neg (by rw [g3.1, hnc]; simp)]
        rw [xh_go (s := ((V.setTop (F0 m pc ls rest)).pushFrame (.throwing a)).setVm vm₂) (c := G.1.1 k_IllegalStateException) (cell := cell) (vm' := vm₃) (by simp only [covers, y1, y2]; simp [hcov9.1, hcov9.2]) (by rw [y4]; exact hct9) (by rw [y4]; exact hg₉) hsz9 (by show ((V.setTop (F0 m pc ls rest)).pushFrame (.throwing a)).heap[a]? = _; rw [hhpV, ev1]; exact g1) (fun k hk => by rw [g2] at hk; cases hk) ⟨k₉, by rw [g3.1]; exact hk₉⟩ ⟨k₉, hk₉⟩]
        rw [if_pos (by rw [g3.1]; exact va_asg _ _), y3]
        exact Iff.rfl
      obtain ⟨t2, a1, a2⟩ := kx p e R s m args below meth cd t.heap (locs ++ Lo) _ _ ls hF hR0 hl hL hV1 hS1 hN1 ((V.setVm vm₂).setVm vm₃) ev1 X₃
      refine ⟨t2, hstep₁ _ fun acts => ?_, a2⟩
      rw [doInvoke_state]
      refine hst'.trans ?_
      exact Steps.caughtV (s := V) (g := (F0 m pc ls rest)) X'.here hfind a1
end XTV
/-! methods with a table of handlers, that return -/
section XTW
variable {l : Launch} {G : XG} {M : XMt} {d pc : Nat} {L : List (Option Value)} {rest : List Value} {h : XH} {c n : Nat} {P : Option Value → XH → Nat → Nat → Prop} {Q : XPo} {hh : List (Nat × Nat × Nat × Nat)}
def XMW (l : Launch) (G : XG) (d : Nat) (M : XMt) (hh : List (Nat × Nat × Nat × Nat)) (args : List Value) (h : XH) (c n : Nat) (P : Option Value → XH → Nat → Nat → Prop) : Prop :=
  ∀ c0 n0 : Nat, Met l M.1 [Cond.codeWith M.1 M.2.1 M.2.2.1 M.2.2.2 hh] (xRm d c0 n0) (va_Pc args (xPre G h c n c0 n0)) (xQ G P) (xCB - c0) (xSB - n0) (xA G)
theorem XMW.of {args : List Value} (hy : plainName M.1.cls = true) (hn : (xin args).length ≤ M.2.2.1) (hw : XW l G M d 0 (xin args ++ List.replicate (M.2.2.1 - (xin args).length) none) [] h c n P) : XMW l G d M hh args h c n P := by
  intro c0 n0
  refine va_MetW (cc := M.2.1) (maxL := M.2.2.1) (ret := M.2.2.2) (hh := hh) (ws' := []) hy rfl ?_
  intro p e s m args' below meth cd s₁ B hml hv
  obtain ⟨rfl, hz, hu, hV, hS⟩ := hv
  rw [lg_entry_eq]
  have hR : xRo G (xRm d c0 n0) d s := ⟨rfl, rfl, by rw [hz, Nat.add_sub_cancel_left]; rfl, by rw [hu]; rfl, by rw [hz]; exact Nat.le_add_right _ _⟩
  exact hw p e (xRm d c0 n0) s m _ below meth cd s.heap [] 0 0 _ ⟨B.exec, B.bytes, hml, B.returns, findClass_of_methodNamed B.named, B.notSynchronized, (name_of_methodNamed B.named B.method).1, B.named⟩ hR (xlr.entry args hn) (by simp; omega) hV hS va_S.rf
def xcbW (Mc : XMt) (hh : List (Nat × Nat × Nat × Nat)) (nn : Nat) : Prop := Cond.codeWith Mc.1 Mc.2.1 Mc.2.2.1 Mc.2.2.2 hh ∈ xT ∧ Cond.initialized Mc.1.cls ∈ xT ∧ Mc.2.2.1 ≤ 41 ∧ (Mc.1.cls ≠ "java/lang/invoke/MethodHandle" ∧ Mc.1.cls ≠ "java/lang/invoke/VarHandle" ∧ (parseMethodDescriptor Mc.1.desc).map (fun d => d.parameters.length) = some nn)
theorem x_callSW {Mc : XMt} {As st : List Value} {idx nn : Nat} {P' : Option Value → XH → Nat → Nat → Prop} (hb : xcbW Mc hh nn) (hsta : Cond.static Mc.1 ∈ xT) (hlk : Cond.methodLink M.1.cls idx Mc.1 ∈ xT) (hM : XMW l G d Mc hh As h c n P') (hn : As.length = nn) (hst : st = As.reverse ++ rest) (hr : (rest.map fun v => v.category).sum ≤ 8) (hd : decode M.2.1 pc = .ok (.invokestatic idx, 3))
    (kk : ∀ (v : Option Value) (h' : XH) (c' n' : Nat), P' v h' c' n' → XX l G M (d + 1) (pc + 3) L (v.toList ++ rest) h' c' n' Q) : XX l G M (d + 1) pc L st h c n Q := by
  intro p e R s m args below meth cd H locs cells slots ls hF hR hl hL hV hS hN
  have hts := hV.ts args
  have hR0 := hR
  obtain ⟨r1, r2, r3, r4, r5⟩ := hR
  have hS0 := hS
  obtain ⟨s1, s2, s3, s4, s5, s6⟩ := hS
  have h41 := hb.2.2.1
  refine x_mono r5 fun m1 m2 => ?_
  refine x_tight (k := H.size - s.heap.size) (j := xU G.2.1 H - xU G.2.1 s.heap) r5 (by omega) (by omega) ?_
  have fin := fun (v : Option Value) (h' : XH) (c' n' : Nat) (H1 : Heap) (locs1 : List Loc) (hp : P' v h' c' n') (hS1 : xS G h' c' n' H1) (hN1 : va_S (xA G) s.heap H1 locs1) (hk1 : ∀ q : Nat, q < H.size → ¬ xA G q → H1[q]? = H[q]?) =>
    kk v h' c' n' hp p e R s m args below meth cd H1 locs1 (H.size - s.heap.size + (xCB - (H.size - G.2.1))) (xU G.2.1 H - xU G.2.1 s.heap + (xSB - xU G.2.1 H)) ls hF hR0 hl hL (hV.kept hk1) hS1 hN1
  have hp : PreS s H (va_Pc As (xPre G h c n (H.size - G.2.1) (xU G.2.1 H))) As := ⟨xPre.blind, fun U hU hW => xPre.at hV hS0 hU hW⟩
  have hgood : GoodIn xT [Cond.codeWith Mc.1 Mc.2.1 Mc.2.2.1 Mc.2.2.2 hh] := by
    intro w hw
    rw [List.mem_singleton] at hw
    subst hw
    exact ⟨hb.1, Or.inl (by first | rfl | simp [Cond.onTables, Cond.keeps, Cond.steady])⟩
  refine x_cont (P' := P') (a := As.toArray) (mc := xCB - (H.size - G.2.1)) (ms := xSB - xU G.2.1 H) ?_ hN fin
  have hK : Back l R p e below s args Mc.1 3 8 (PreOf R (xCB - (H.size - G.2.1)) (xSB - xU G.2.1 H) (va_Pc As (xPre G h c n (H.size - G.2.1) (xU G.2.1 H)))) (PostOf (xQ G P') (xCB - (H.size - G.2.1)) (xSB - xU G.2.1 H) (xA G)) :=
    va_backW (hh := hh) (bytes := Mc.2.1) (maxL := Mc.2.2.1) (ret := Mc.2.2.2) (hM (H.size - G.2.1) (xU G.2.1 H)) hp.1 rfl rfl (by show d + 1 ≤ R.frames; rw [r1]; exact Nat.le_refl _) (by show 8 + (Mc.2.2.1 + 11) + (d * 60 + 11000) ≤ _; rw [r2]; omega) (pay_in hts hgood) List.mem_cons_self (fun a' U hW => word_at hW (Or.inl (by first | rfl | simp [Cond.onTables, Cond.keeps, Cond.steady])) (hts _ hb.2.1))
  intro T hT X
  obtain ⟨mk, methM, cM, hnamed, hmethM, -, -, -, -, -, -, hsigM⟩ := Cond.codeWith_spec (hts _ hb.1)
  have hstatic : methM.isStatic = true := Cond.static_spec hnamed hmethM (hts _ hsta)
  obtain ⟨kP, hkP, -⟩ := className_of_methodNamed hnamed
  have hinitP : kP.init = .initialized := Cond.initialized_spec (findClass_of_methodNamed hnamed) hkP (hts _ hb.2.1)
  have hlen : As.length = methM.sig.parameters.length := by
    have h2 := hb.2.2.2.2.2
    rw [hsigM] at h2
    exact hn.trans (Option.some.inj h2).symm
  obtain ⟨vm₁, X₁, hstep₁⟩ := X.invokestatic hF.1 hF.2.2.2.2.1 (hts _ hlk) hnamed hmethM hstatic hkP hinitP ⟨hb.2.2.2.1, hb.2.2.2.2.1⟩ (g := F0 m pc ls st) rfl (argsL := As) (rest := rest) hlen hst (by rw [hF.2.1]; exact hd)
  obtain ⟨v, ⟨U', l2, c2, s2'⟩, X', ⟨g', mk', t, Lo, e1, e2, hq, h1, hL', h2, h3⟩, hsteps⟩ := hK m meth cd ⟨T.setVm vm₁, locs, H.size - s.heap.size, xU G.2.1 H - xU G.2.1 s.heap⟩ (F0 m pc ls rest) (.invokestatic idx) mk As.toArray X₁ rfl (by show ls.size = _; rw [hl.1, hL, hF.2.2.1]) (by rw [hF.2.1]; exact hd) (by show 2 * 0 + (rest.map fun v => v.category).sum ≤ 8; omega) (X₁.named hnamed) ⟨(by show H.size - s.heap.size + (xCB - (H.size - G.2.1)) ≤ _; rw [r3]; omega), (by show xU G.2.1 H - xU G.2.1 s.heap + (xSB - xU G.2.1 H) ≤ _; rw [r4]; omega), hp.2 (T.setVm vm₁) hT X₁.warmed⟩
  dsimp only [Pt.U, Pt.locs, Pt.cells, Pt.slots] at X' e1 e2 h1 h2 h3 hsteps
  subst h1; subst h2; subst h3
  exact ⟨v, (T.setVm vm₁).calling g' mk' As.toArray, t, U', Lo, hT, X', hL', e1, e2, hq, fun target hh => hstep₁ _ fun acts => by rw [doInvoke_state]; exact hsteps.trans hh⟩
end XTW
