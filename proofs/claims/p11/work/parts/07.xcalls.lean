section XCL
variable {l : Launch} {G : XG} {M : XMt} {d pc : Nat} {L : List (Option Value)} {rest : List Value} {h : XH} {c n : Nat} {P : XPo}
theorem xNw_warm {w : Cond} (hT : w ∈ xT) {s U : State} (hW : s.WarmedH U.vm) (h : va_Nw w s) : va_Nw w U := by
  rcases (xT_or hT).symm with (⟨ty, rfl⟩ | ⟨C, rfl⟩) | ⟨-, hg⟩
  · exact word_at hW (Or.inr ⟨_, rfl⟩) h
  · exact va_AO.moved hW.alike h
  unfold xgw at hg
  rcases Bool.or_eq_true_iff.mp hg with hg | hg
  · exact word_at hW (Or.inl hg) h
  · split at hg
    · exact word_at hW (Or.inr ⟨_, rfl⟩) h
    · exact va_Nw.warmF hW h
    · exact va_Nw.warmM hW h
    · exact va_Nw.warmD hW h
    · exact va_Nw.warmC hW h
    · exact va_AO.moved hW.alike h
    · cases hg
theorem xK.moved {D : va_G} {u U : State} (hvm : u.vm.Alike U.vm) (hK : xK D u) : xK D U := by
  intro k r hr
  have h1 := hK k r hr
  cases r with
  | inl q => exact u_Kn_moved hvm h1
  | inr ty => exact ⟨arrOfT_moved hvm h1.1, h1.2.1.moved hvm, h1.2.2⟩
theorem xkh.moved {u U : State} {H : Heap} (hvm : u.vm.Alike U.vm) (hk : xkh G u H) : xkh G U H := by
  intro a k vs ha
  obtain ⟨g1, cell, g2, g3, g4, g5⟩ := hk a k vs ha
  exact ⟨g1, cell, g2, g3, g4, g5.moved hvm⟩
theorem xV.warm {s U : State} {H : Heap} (hW : s.WarmedH U.vm) (hV : xV G s H) : xV G U H :=
  ⟨hV.1.moved hW.alike, fun w hw => xNw_warm hw hW (hV.2.1 w hw), ⟨fun q hq => (hV.2.2.1.1 q hq).warm hW, ⟨hV.2.2.1.2.1.1.moved hW.alike, hV.2.2.1.2.1.2.moved hW.alike⟩, fun q hq => (hV.2.2.1.2.2 q hq).moved hW.alike⟩, fun q hq => (hV.2.2.2.1 q hq).moved hW.alike, hV.2.2.2.2.moved hW.alike⟩
theorem xV.same {s U : State} {H : Heap} (hv : s.vm = U.vm) (hV : xV G s H) : xV G U H := by
  have hA : s.vm.Alike U.vm := by rw [hv]; exact Vm.Alike.refl _
  exact ⟨hV.1.moved hA, fun w hw => xT_same hw hv (hV.2.1 w hw), ⟨fun q hq => (hV.2.2.1.1 q hq).same hv.symm, ⟨hV.2.2.1.2.1.1.moved hA, hV.2.2.1.2.1.2.moved hA⟩, fun q hq => (hV.2.2.1.2.2 q hq).moved hA⟩, fun q hq => (hV.2.2.2.1 q hq).moved hA, hV.2.2.2.2.moved hA⟩
theorem xPre.blind {c0 n0 : Nat} {av : List Value} : FrameBlind (va_Pc av (xPre G h c n c0 n0)) := by
  intro a U g mk hq
  obtain ⟨q0, q1, q2, q3, q4⟩ := hq
  exact ⟨q0, q1, q2, xV.same (s := U) (U := U.calling g mk a) rfl q3, q4⟩
theorem xPre.at {s U : State} {H : Heap} {av : List Value} (hV : xV G s H) (hS : xS G h c n H) (hU : U.heap = H) (hW : s.WarmedH U.vm) : va_Pc av (xPre G h c n (H.size - G.2.1) (xU G.2.1 H)) av.toArray U :=
  ⟨rfl, by rw [hU]; have := hS.2.1; omega, by rw [hU], by rw [hU]; exact hV.warm hW, by rw [hU]; exact hS⟩
/-- behind a call -/
theorem x_cont {p : Program} {e : Env} {R : Room} {s : State} {m : MethodId} {args a : Array Value} {below : List Frame} {meth : Method} {cd : Code} {H : Heap} {locs : List Loc} {cells slots mc ms : Nat} {Q : State → Prop} {ls : Array Slot} {st0 : List Value} {P' : Option Value → XH → Nat → Nat → Prop}
    (hr : va_Run p l e R s m args below meth cd H locs cells slots mc ms (F0 m pc ls st0) rest (xQ G P' a) (xA G)) (hN : va_S (xA G) s.heap H locs)
    (kk : ∀ (v : Option Value) (h' : XH) (c' n' : Nat) (H1 : Heap) (locs1 : List Loc), P' v h' c' n' → xS G h' c' n' H1 → va_S (xA G) s.heap H1 locs1 → (∀ q : Nat, q < H.size → ¬ xA G q → H1[q]? = H[q]?) → W p l e R s m args below meth cd H1 locs1 (cells + mc) (slots + ms) Q (F0 m (pc + 3) ls (v.toList ++ rest))) : W p l e R s m args below meth cd H locs cells slots Q (F0 m pc ls st0) := by
  intro T hT X
  obtain ⟨v, st₀, t, T', L, h0, X', hL, e1, e2, ⟨⟨v', h', c', n', hv, hp, hb⟩, hz, hk⟩, st⟩ := hr T hT X
  cases hv
  rw [h0] at hz hk
  obtain ⟨t2, a1, b1⟩ := kk v h' c' n' T'.heap (locs ++ L) hp (by rw [e1]; exact hb)
    ⟨Nat.le_trans hN.1 (by rw [e1]; exact hz), fun q h1 h2 => by rw [e1, hk q (Nat.lt_of_lt_of_le h1 hN.1) h2]; exact hN.2.1 q h1 h2, fun q hq => by
      rcases List.mem_append.mp hq with h | h
      · exact hN.2.2 q h
      · exact hL q h⟩ (fun q h1 h2 => by rw [e1]; exact hk q h1 h2) T' rfl X'
  exact ⟨t2, st t2 a1, b1⟩
/-- what a callee's words are -/
def xcb (Mc : XMt) (nn : Nat) : Prop := Cond.code Mc.1 Mc.2.1 Mc.2.2.1 Mc.2.2.2 ∈ xT ∧ Cond.initialized Mc.1.cls ∈ xT ∧ Mc.2.2.1 ≤ 41 ∧ (Mc.1.cls ≠ "java/lang/invoke/MethodHandle" ∧ Mc.1.cls ≠ "java/lang/invoke/VarHandle" ∧ (parseMethodDescriptor Mc.1.desc).map (fun d => d.parameters.length) = some nn)
theorem xcb_good {Mc : XMt} {nn : Nat} (hx : xcb Mc nn) : GoodIn xT [Cond.code Mc.1 Mc.2.1 Mc.2.2.1 Mc.2.2.2] := by
  intro w hw
  rw [List.mem_singleton] at hw
  subst hw
  exact ⟨hx.1, Or.inl (by first | rfl | simp [Cond.onTables, Cond.keeps, Cond.steady])⟩
def xCS (own : String) (idx : Nat) (Mc : XMt) (nn : Nat) : Prop := xcb Mc nn ∧ Cond.static Mc.1 ∈ xT ∧ (Cond.methodLink own idx Mc.1 ∈ xT ∨ ∃ host, Cond.methodLinkNest own idx Mc.1 host ∈ xT)
theorem x_callS {Mc : XMt} {As st : List Value} {idx nn : Nat} {P' : Option Value → XH → Nat → Nat → Prop} (hx : xCS M.1.cls idx Mc nn) (hM : XM l G d Mc As h c n P') (hn : As.length = nn) (hst : st = As.reverse ++ rest) (hr : (rest.map fun v => v.category).sum ≤ 8) (hd : decode M.2.1 pc = .ok (.invokestatic idx, 3))
    (kk : ∀ (v : Option Value) (h' : XH) (c' n' : Nat), P' v h' c' n' → XX l G M (d + 1) (pc + 3) L (v.toList ++ rest) h' c' n' P) : XX l G M (d + 1) pc L st h c n P := by
  intro p e R s m args below meth cd H locs cells slots ls hF hR hl hL hV hS hN
  obtain ⟨hb, hsta, hlk⟩ := hx
  have hts := hV.ts args
  have hR0 := hR
  obtain ⟨r1, r2, r3, r4, r5⟩ := hR
  have hS0 := hS
  obtain ⟨s1, s2, s3, s4, s5, s6⟩ := hS
  have h41 := hb.2.2.1
  refine x_mono r5 fun m1 m2 => ?_
  refine x_tight (k := H.size - s.heap.size) (j := xU G.2.1 H - xU G.2.1 s.heap) r5 (by omega) (by omega) ?_
  have fin := fun (v : Option Value) (h' : XH) (c' n' : Nat) (H1 : Heap) (locs1 : List Loc) (hp : P' v h' c' n') (hS1 : xS G h' c' n' H1) (hN1 : va_S (xA G) s.heap H1 locs1) (hk1 : ∀ q : Nat, q < H.size → ¬ xA G q → H1[q]? = H[q]?) =>
    kk v h' c' n' hp p e R s m args below meth cd H1 locs1 (H.size - s.heap.size + (xCB - (H.size - G.2.1))) (xU G.2.1 H - xU G.2.1 s.heap + (xSB - xU G.2.1 H)) ls hF hR0 hl hL (hV.kept hk1) hS1 hN1
  have hp : PreS s H (va_Pc As (xPre G h c n (H.size - G.2.1) (xU G.2.1 H))) As := ⟨xPre.blind, fun U hU hW => xPre.at hV hS0 hU hW⟩
  have hf : H.size - s.heap.size + (xCB - (H.size - G.2.1)) ≤ R.cells ∧ xU G.2.1 H - xU G.2.1 s.heap + (xSB - xU G.2.1 H) ≤ R.slots := ⟨by rw [r3]; omega, by rw [r4]; omega⟩
  have hRR : (xRm d (H.size - G.2.1) (xU G.2.1 H)).frames + 1 ≤ R.frames ∧ 8 + (Mc.2.2.1 + 11) + (xRm d (H.size - G.2.1) (xU G.2.1 H)).locals ≤ R.locals := ⟨by rw [r1]; exact Nat.le_refl _, by rw [r2]; show 8 + (Mc.2.2.1 + 11) + (d * 60 + 11000) ≤ _; omega⟩
  rcases hlk with hlk | ⟨host, hlk⟩
  · exact x_cont (va_runS (Ts := xT) (bytes := Mc.2.1) (maxL := Mc.2.2.1) (ret := Mc.2.2.2) ⟨hF.1, hF.2.1, hF.2.2.1, hF.2.2.2.2.1, hts⟩ (hM (H.size - G.2.1) (xU G.2.1 H)) ⟨callB_of nn hts (xcb_good hb) rfl rfl rfl (hts _ hb.2.1) (hts _ hlk) hb.2.2.2 hRR, hts _ hsta⟩ hp rfl hn (hl.1.trans hL) hst (by show 2 * 0 + _ ≤ 8; omega) hd hf) hN fin
  · exact x_cont (va_runSN (Ts := xT) (bytes := Mc.2.1) (maxL := Mc.2.2.1) (ret := Mc.2.2.2) ⟨hF.1, hF.2.1, hF.2.2.1, hF.2.2.2.2.1, hts⟩ (hM (H.size - G.2.1) (xU G.2.1 H)) ⟨va_cnB nn hts (xcb_good hb) rfl rfl rfl (hV.2.1 _ hlk) (hts _ hb.2.1) hb.2.2.2 hRR, hts _ hsta, trivial⟩ hp rfl hn (hl.1.trans hL) hst (by show 2 * 0 + _ ≤ 8; omega) hd hf) hN fin
def xCI (own : String) (idx : Nat) (Mc : XMt) (nn : Nat) : Prop := xcb Mc nn ∧ Mc.2.2.2 = none ∧ Mc.1.name = "<init>" ∧ Cond.instanceMethod Mc.1 ∈ xT ∧ (Cond.methodLink own idx Mc.1 ∈ xT ∨ ∃ host, Cond.methodLinkNest own idx Mc.1 host ∈ xT)
theorem x_callI {Mc : XMt} {As st : List Value} {b idx nn : Nat} {P' : Option Value → XH → Nat → Nat → Prop} (hx : xCI M.1.cls idx Mc nn) (hM : XM l G d Mc (.ref b :: As) h c n P') (hn : As.length = nn) (hst : st = As.reverse ++ .ref b :: rest) (hr : (rest.map fun v => v.category).sum ≤ 8) (hd : decode M.2.1 pc = .ok (.invokespecial idx, 3))
    (kk : ∀ (v : Option Value) (h' : XH) (c' n' : Nat), P' v h' c' n' → XX l G M (d + 1) (pc + 3) L (v.toList ++ rest) h' c' n' P) : XX l G M (d + 1) pc L st h c n P := by
  intro p e R s m args below meth cd H locs cells slots ls hF hR hl hL hV hS hN
  obtain ⟨hb, hret, hin, hins, hlk⟩ := hx
  have hts := hV.ts args
  have hR0 := hR
  obtain ⟨r1, r2, r3, r4, r5⟩ := hR
  have hS0 := hS
  obtain ⟨s1, s2, s3, s4, s5, s6⟩ := hS
  have h41 := hb.2.2.1
  have hgood := xcb_good hb
  refine x_mono r5 fun m1 m2 => ?_
  refine x_tight (k := H.size - s.heap.size) (j := xU G.2.1 H - xU G.2.1 s.heap) r5 (by omega) (by omega) ?_
  have fin := fun (v : Option Value) (h' : XH) (c' n' : Nat) (H1 : Heap) (locs1 : List Loc) (hp : P' v h' c' n') (hS1 : xS G h' c' n' H1) (hN1 : va_S (xA G) s.heap H1 locs1) (hk1 : ∀ q : Nat, q < H.size → ¬ xA G q → H1[q]? = H[q]?) =>
    kk v h' c' n' hp p e R s m args below meth cd H1 locs1 (H.size - s.heap.size + (xCB - (H.size - G.2.1))) (xU G.2.1 H - xU G.2.1 s.heap + (xSB - xU G.2.1 H)) ls hF hR0 hl hL (hV.kept hk1) hS1 hN1
  have hp : PreS s H (va_Pc (.ref b :: As) (xPre G h c n (H.size - G.2.1) (xU G.2.1 H))) (.ref b :: As) := ⟨xPre.blind, fun U hU hW => xPre.at hV hS0 hU hW⟩
  have hf : H.size - s.heap.size + (xCB - (H.size - G.2.1)) ≤ R.cells ∧ xU G.2.1 H - xU G.2.1 s.heap + (xSB - xU G.2.1 H) ≤ R.slots := ⟨by rw [r3]; omega, by rw [r4]; omega⟩
  have hRR : (xRm d (H.size - G.2.1) (xU G.2.1 H)).frames + 1 ≤ R.frames ∧ 8 + (Mc.2.2.1 + 11) + (xRm d (H.size - G.2.1) (xU G.2.1 H)).locals ≤ R.locals := ⟨by rw [r1]; exact Nat.le_refl _, by rw [r2]; show 8 + (Mc.2.2.1 + 11) + (d * 60 + 11000) ≤ _; omega⟩
  have hM0 := hM (H.size - G.2.1) (xU G.2.1 H)
  rw [hret] at hM0 hgood
  rcases hlk with hlk | ⟨host, hlk⟩
  · exact x_cont (va_runI (Ts := xT) (bytes := Mc.2.1) (maxL := Mc.2.2.1) ⟨hF.1, hF.2.1, hF.2.2.1, hF.2.2.2.2.1, hts⟩ hM0 ⟨callB_of nn hts hgood rfl rfl rfl (hts _ hb.2.1) (hts _ hlk) hb.2.2.2 hRR, hin, hts _ hins⟩ hp rfl hn (hl.1.trans hL) hst (by show 2 * 0 + _ ≤ 8; omega) hd hf) hN fin
  · exact x_cont (va_runIN (Ts := xT) (bytes := Mc.2.1) (maxL := Mc.2.2.1) ⟨hF.1, hF.2.1, hF.2.2.1, hF.2.2.2.2.1, hts⟩ hM0 ⟨va_cnB nn hts hgood rfl rfl rfl (hV.2.1 _ hlk) (hts _ hb.2.1) hb.2.2.2 hRR, hin, hts _ hins⟩ hp rfl hn (hl.1.trans hL) hst (by show 2 * 0 + _ ≤ 8; omega) hd hf) hN fin
/-- which method a receiver of class C selects -/
def xsl (C : String) (y : MethodName) : Prop := Cond.selects C y y ∈ xT ∨ False
theorem xsl_at {C : String} {y : MethodName} {s : State} {args : Array Value} (h : xsl C y) (hts : ∀ w ∈ xT, w.before args s = true) : (Cond.selects C y y).before args s = true := hts _ (h.elim id False.elim)
/-- a call on a receiver whose kind is known -/
def xCV (own : String) (idx : Nat) (C : String) (Mc : XMt) (nn : Nat) : Prop := xcb Mc nn ∧ Cond.instanceMethod Mc.1 ∈ xT ∧
  ((Cond.methodLink own idx Mc.1 ∈ xT ∧ xsl C Mc.1) ∨ (∃ host, Cond.methodLinkNest own idx Mc.1 host ∈ xT ∧ xsl C Mc.1) ∨
   (∃ (x : MethodName) (owner : String), Cond.methodLink own idx x ∈ xT ∧ Cond.sameMethod x.cls owner x.name x.desc ∈ xT ∧ Cond.selects C x Mc.1 ∈ xT ∧ x.desc = Mc.1.desc ∧ (owner ≠ "java/lang/invoke/MethodHandle" ∧ owner ≠ "java/lang/invoke/VarHandle") ∧ (Cond.declares ⟨owner, x.name, x.desc⟩ ∈ xT ∨ (Cond.instanceMethod ⟨owner, x.name, x.desc⟩ ∈ xT ∧ ∃ b m r, Cond.code ⟨owner, x.name, x.desc⟩ b m r ∈ xT))))
theorem x_callV {Mc : XMt} {As st vs : List Value} {b k idx nn N : Nat} {C : String} {T : u_T} {P' : Option Value → XH → Nat → Nat → Prop} (hk : xk[k]? = some (.inl (C, T, N))) (hx : xCV M.1.cls idx C Mc nn) (ha : xr G h b k vs) (hM : XM l G d Mc (.ref b :: As) h c n P') (hn : As.length = nn) (hst : st = As.reverse ++ .ref b :: rest) (hr : (rest.map fun v => v.category).sum ≤ 8) (hd : decode M.2.1 pc = .ok (.invokevirtual idx, 3))
    (kk : ∀ (v : Option Value) (h' : XH) (c' n' : Nat), P' v h' c' n' → XX l G M (d + 1) (pc + 3) L (v.toList ++ rest) h' c' n' P) : XX l G M (d + 1) pc L st h c n P := by
  intro p e R s m args below meth cd H locs cells slots ls hF hR hl hL hV hS hN
  obtain ⟨hb, hins, hlk⟩ := hx
  have hts := hV.ts args
  have hR0 := hR
  obtain ⟨r1, r2, r3, r4, r5⟩ := hR
  have hS0 := hS
  obtain ⟨s1, s2, s3, s4, s5, s6⟩ := hS
  have h41 := hb.2.2.1
  refine x_mono r5 fun m1 m2 => ?_
  refine x_tight (k := H.size - s.heap.size) (j := xU G.2.1 H - xU G.2.1 s.heap) r5 (by omega) (by omega) ?_
  have fin := fun (v : Option Value) (h' : XH) (c' n' : Nat) (H1 : Heap) (locs1 : List Loc) (hp : P' v h' c' n') (hS1 : xS G h' c' n' H1) (hN1 : va_S (xA G) s.heap H1 locs1) (hk1 : ∀ q : Nat, q < H.size → ¬ xA G q → H1[q]? = H[q]?) =>
    kk v h' c' n' hp p e R s m args below meth cd H1 locs1 (H.size - s.heap.size + (xCB - (H.size - G.2.1))) (xU G.2.1 H - xU G.2.1 s.heap + (xSB - xU G.2.1 H)) ls hF hR0 hl hL (hV.kept hk1) hS1 hN1
  obtain ⟨cellB, b1, -, b2, b3⟩ := xr_cell ha hV hS0
  have hcB : s.vm.findClass C = some cellB.cls := by rw [xcw_cls hk b3]; exact (hV.1 k _ hk : u_Kn s C T N (G.1.1 k) (G.1.2 k)).2.1
  have hp : PreV s H C b (va_Pc (.ref b :: As) (xPre G h c n (H.size - G.2.1) (xU G.2.1 H))) As := ⟨xPre.blind, ⟨cellB, b1, b2, hcB⟩, fun U hU hW => xPre.at hV hS0 hU hW⟩
  have hf : H.size - s.heap.size + (xCB - (H.size - G.2.1)) ≤ R.cells ∧ xU G.2.1 H - xU G.2.1 s.heap + (xSB - xU G.2.1 H) ≤ R.slots := ⟨by rw [r3]; omega, by rw [r4]; omega⟩
  have hRR : (xRm d (H.size - G.2.1) (xU G.2.1 H)).frames + 1 ≤ R.frames ∧ 8 + (Mc.2.2.1 + 11) + (xRm d (H.size - G.2.1) (xU G.2.1 H)).locals ≤ R.locals := ⟨by rw [r1]; exact Nat.le_refl _, by rw [r2]; show 8 + (Mc.2.2.1 + 11) + (d * 60 + 11000) ≤ _; omega⟩
  rcases hlk with ⟨hlk, hsel⟩ | ⟨host, hlk, hsel⟩ | ⟨x, owner, hlk, hsm, hsel, hde, how, hdecl⟩
  · exact x_cont (va_runV (Ts := xT) (C := C) (bytes := Mc.2.1) (maxL := Mc.2.2.1) (ret := Mc.2.2.2) ⟨hF.1, hF.2.1, hF.2.2.1, hF.2.2.2.2.1, hts⟩ (hM (H.size - G.2.1) (xU G.2.1 H)) ⟨callB_of nn hts (xcb_good hb) rfl rfl rfl (hts _ hb.2.1) (hts _ hlk) hb.2.2.2 hRR, hts _ hins, xsl_at hsel hts⟩ hp rfl hn (hl.1.trans hL) hst (by show 2 * 0 + _ ≤ 8; omega) hd hf) hN fin
  · exact x_cont (va_runVN (Ts := xT) (C := C) (bytes := Mc.2.1) (maxL := Mc.2.2.1) (ret := Mc.2.2.2) ⟨hF.1, hF.2.1, hF.2.2.1, hF.2.2.2.2.1, hts⟩ (hM (H.size - G.2.1) (xU G.2.1 H)) ⟨va_cnB nn hts (xcb_good hb) rfl rfl rfl (hV.2.1 _ hlk) (hts _ hb.2.1) hb.2.2.2 hRR, hts _ hins, xsl_at hsel hts⟩ hp rfl hn (hl.1.trans hL) hst (by show 2 * 0 + _ ≤ 8; omega) hd hf) hN fin
  · have hD : va_Decl s ⟨owner, x.name, x.desc⟩ := by
      rcases hdecl with q | ⟨q, b0, m0, r0, q'⟩
      · exact va_Decl.abs (hV.2.1 _ q)
      · exact va_Decl.of (hts _ q) (hts _ q')
    have hcu : va_CU R s args M.1.cls C owner idx x Mc.1 Mc.2.1 Mc.2.2.1 Mc.2.2.2 [Cond.code Mc.1 Mc.2.1 Mc.2.2.1 Mc.2.2.2] (xRm d (H.size - G.2.1) (xU G.2.1 H)) (xCB - (H.size - G.2.1)) (xSB - xU G.2.1 H) nn := by
      refine ⟨⟨rfl, rfl, hRR.1, hRR.2, pay_in hts (xcb_good hb), List.mem_singleton.mpr rfl⟩, hts _ hb.1, hts _ hb.2.1, how, fun sig hsig => ?_, hts _ hlk, hts _ hsm, hD, hts _ hsel, hts _ hins⟩
      have h2 := hb.2.2.2.2.2
      rw [← hde, hsig] at h2
      exact (Option.some.inj h2).symm
    exact x_cont (va_runU (Ts := xT) (C := C) (owner := owner) (bytes := Mc.2.1) (maxL := Mc.2.2.1) (ret := Mc.2.2.2) ⟨hF.1, hF.2.1, hF.2.2.1, hF.2.2.2.2.1, hts⟩ (hM (H.size - G.2.1) (xU G.2.1 H)) hcu hp rfl hn (hl.1.trans hL) hst (by show 2 * 0 + _ ≤ 8; omega) hd hf) hN fin
/-- Object.<init> -/
theorem x_objInit {a idx : Nat} (hlk : Cond.methodLink M.1.cls idx Lib.objectInit ∈ xT) (hin : Cond.instanceMethod Lib.objectInit ∈ xT) (hco : Cond.code Lib.objectInit ⟨#[0xb1]⟩ 1 none ∈ xT) (hr : (rest.map fun v => v.category).sum ≤ 8) (hd : decode M.2.1 pc = .ok (.invokespecial idx, 3)) (kk : XX l G M (d + 1) (pc + 3) L rest h c n P) : XX l G M (d + 1) pc L (.ref a :: rest) h c n P := by
  intro p e R s m args below meth cd H locs cells slots ls hF hR hl hL hV hS hN
  have hts := hV.ts args
  obtain ⟨r1, r2, r3, r4, r5⟩ := hR
  exact W.objInit hF.1 hF.2.1 hF.2.2.2.2.1 (hts _ hlk) (hts _ hin) (hts _ hco) rfl (by show ls.size = _; rw [hl.1, hL, hF.2.2.1]) rfl hd (by rw [r1]; omega) (by rw [r2]; show 2 * 0 + _ + 12 ≤ _; omega) (kk p e R s m args below meth cd H locs cells slots ls hF ⟨r1, r2, r3, r4, r5⟩ hl hL hV hS hN)
/-- constants of the pool -/
theorem x_ldc {idx : Nat} {v : Int32} (hw : Cond.constant M.1.cls idx v ∈ xT) (hd : decode M.2.1 pc = .ok (.ldc idx, 2)) (kk : XX l G M d (pc + 2) L (.int v :: rest) h c n P) : XX l G M d pc L rest h c n P := by
  intro p e R s m args below meth cd H locs cells slots ls hF hR hl hL hV hS hN
  exact lv_ldc hF.1 hF.2.1 hF.2.2.2.2.1 (hV.ts args _ hw) hd (kk p e R s m args below meth cd H locs cells slots ls hF hR hl hL hV hS hN)
theorem x_ldc2 {idx : Nat} {v : Int64} (hw : Cond.constantLong M.1.cls idx v ∈ xT) (hd : decode M.2.1 pc = .ok (.ldc2_w idx, 3)) (kk : XX l G M d (pc + 3) L (.long v :: rest) h c n P) : XX l G M d pc L rest h c n P := by
  intro p e R s m args below meth cd H locs cells slots ls hF hR hl hL hV hS hN
  exact lv_ldc2 hF.1 hF.2.1 hF.2.2.2.2.1 (hV.ts args _ hw) hd (kk p e R s m args below meth cd H locs cells slots ls hF hR hl hL hV hS hN)
theorem x_ldcS {idx i : Nat} {tx : String} (hw : (M.1.cls, idx, tx, i) ∈ xStr) (hd : decode M.2.1 pc = .ok (.ldc idx, 2)) (kk : XX l G M d (pc + 2) L (.ref (G.2.2.2.1 i) :: rest) h c n P) : XX l G M d pc L rest h c n P := by
  intro p e R s m args below meth cd H locs cells slots ls hF hR hl hL hV hS hN
  exact va_ldcS hF.1 hF.2.1 hF.2.2.2.2.1 (hV.2.2.1.1 _ hw) hd (kk p e R s m args below meth cd H locs cells slots ls hF hR hl hL hV hS hN)
theorem x_gets {idx : Nat} {C nm ds : String} {v : Value} (hw : Cond.fieldLink M.1.cls idx C nm ds ∈ xT) (hz : (C, nm, ds, v) ∈ xSta G) (hd : decode M.2.1 pc = .ok (.getstatic idx, 3)) (kk : XX l G M d (pc + 3) L (v :: rest) h c n P) : XX l G M d pc L rest h c n P := by
  intro p e R s m args below meth cd H locs cells slots ls hF hR hl hL hV hS hN
  obtain ⟨cf, kf, fi, f, a, cell, h1, h2, h3, h4, h5, h6, h7, h8⟩ := hV.2.2.2.1 _ hz
  exact W.gets hF.1 hF.2.1 hF.2.2.2.2.1 (hV.ts args _ hw) h1 h2 h3 h4 h5 (fun q => by rw [q] at h6; cases h6) h7 rfl hd (kk p e R s m args below meth cd H locs cells slots ls hF hR hl hL hV hS hN)
end XCL
