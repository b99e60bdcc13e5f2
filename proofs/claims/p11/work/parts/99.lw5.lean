section

end
section LAWC
/-- from the entry, for every script of at most N ints, the law comes to its end with true -/
theorem law_start {p : Program} {e : Env} {s : State} {m : MethodId} {below : List Frame} {meth : Method} {c : Code} (l : Launch) (htr : l.stackTraces = false) {b L : Nat} {xs : Nat → Int32} (hL : L ≤ 1536) (hnm : s.methodNamed? x = some m) (C0 : lw_At p s m meth c b L xs) : W p l e room_1 s m #[Value.ref b] below meth c s.heap [] 0 0 (lw_Z below #[Value.ref b] s) (entryFrame m ([Value.ref b] : List Value).toArray 7) := by
  obtain ⟨hexec, hcode, hret, hml, hown, hts, hX, hbl, hlk, hgv⟩ := C0
  obtain ⟨G, hG1, hV, hGk, hb⟩ := st_G hts hX hbl hgv
  have hbody := law_all (l := l) hGk htr hL hb
  have hU0 : xU G.2.1 s.heap = 0 := by
    unfold xU
    rw [hG1, List.drop_eq_nil_of_le (by simp)]
    rfl
  intro T hT X
  have hname := (name_of_methodNamed hnm X.method).1
  have hroom : s.hasRoom e.platform { frames := 1216, cells := xCB, slots := xSB, locals := 1216 * 60 + 11000 } = true := by
    have hr := X.room
    have e1 : room_1.frames = 2048 := rfl
    have e2 : room_1.cells = xCB := rfl
    have e3 : room_1.slots = xSB := rfl
    have e4 : room_1.locals = 84000 := rfl
    simp only [State.hasRoom, Bool.and_eq_true, decide_eq_true_eq] at hr ⊢
    rw [e1, e2, e3, e4] at hr
    obtain ⟨⟨⟨⟨h1, h2⟩, h3⟩, h4⟩, h5⟩ := hr
    exact ⟨⟨⟨⟨by omega, by omega⟩, h3⟩, h4⟩, h5⟩
  have hw := hbody p e { frames := 1216, cells := xCB, slots := xSB, locals := 1216 * 60 + 11000 } s m #[Value.ref b] below meth c s.heap [] 0 0 _
    ⟨hexec, hcode, hml, hret, hown, hlk, hname, hnm⟩ ⟨rfl, rfl, by rw [hG1, Nat.sub_self]; rfl, by rw [hU0]; rfl, Nat.le_of_eq hG1⟩ (xlr.entry [Value.ref b] (Nat.le_of_ble_eq_true rfl)) rfl hV
    ⟨fun a k vs hz => (by cases hz), Nat.le_of_eq hG1, by rw [hG1]; exact Nat.le_refl _, Nat.le_of_eq hU0, Nat.zero_le _, Nat.zero_le _⟩ va_S.rf
  rw [lg_entry_eq]
  obtain ⟨t, a1, a2⟩ := hw T hT { X with room := hroom }
  exact ⟨t, a1, a2 ⟨hG1.symm, b, rfl⟩⟩
end LAWC
