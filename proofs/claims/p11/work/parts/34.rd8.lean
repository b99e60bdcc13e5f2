section

end
section RD8
variable {l : Launch} {G : XG} {h : XH} {c n d : Nat}
theorem isL.kn {a ea : Nat} {es ks : List Nat} (hL : isL G h a ea es) (hG : xGk G) (hw : xwf G h) (h1 : k_ArrayList ∉ ks) (h2 : k_aObject ∉ ks) : xno h [a, ea] ks := by
  obtain ⟨mc, e1, e2⟩ := hL
  refine (xno1 e1 h1).ap (fun q hq e he => ?_)
  rw [List.mem_singleton] at hq
  subst hq
  rcases e2 with ⟨-, e2⟩ | ⟨k, y1, -⟩
  · have := hw _ _ he
    rw [e2, hG.2.2] at this
    cases this
  · rw [y1] at he
    cases he
    exact h2
theorem isNs.fr {h' : XH} {F : List Nat} {r : Nat} {as kas : List Nat} {Ns : List NmT} (hN : isNs G h r as kas Ns) (hf : xfr h h' F) (hn : xno h F [k_aName, k_Name, k_aknown, k_String, k_asbyte]) : isNs G h' r as kas Ns := by
  obtain ⟨e1, e2, e3, e4, e5, e6, e7⟩ := hN
  refine ⟨hf.1 _ _ e1 (hn.at e1 (by decide)), e2, e3, e4, e5, e6, fun i x a ka g1 g2 g3 => ?_⟩
  obtain ⟨y, y2⟩ := e7 i x a ka g1 g2 g3
  obtain ⟨sa, z1, -, z3, -⟩ := id y
  exact ⟨y.fr hf (hn.sub (by decide)) (hn.at z1 (by decide)) (hn.at z3 (by decide)), y2⟩
/-- the tests that a reader has read -/
def okT (G : XG) (h : XH) (es : List Nat) (ts : List TsT) : Prop := es.length = ts.length ∧ ∀ (i a : Nat) (x : TsT), es[i]? = some a → ts[i]? = some x → isTs G h a x
theorem okT.fr {h' : XH} {F es : List Nat} {ts : List TsT} (ho : okT G h es ts) (hf : xfr h h' F) (hn : xno h F kNd) : okT G h' es ts := ⟨ho.1, fun i a x h1 h2 => (ho.2 i a x h1 h2).fr hf hn⟩
theorem okT.el {es : List Nat} {ts : List TsT} (ho : okT G h es ts) : ∀ y ∈ es, xel G h "java/lang/Object" (.ref y) := by
  intro y hy
  obtain ⟨i, h1, h2⟩ := List.getElem_of_mem hy
  have h3 : i < ts.length := by rw [← ho.1]; exact h1
  obtain ⟨va, sa, e1, -⟩ := ho.2 i y ts[i] (by rw [List.getElem?_eq_getElem h1, h2]) (List.getElem?_eq_getElem h3)
  exact xelT e1
theorem okT.push {es : List Nat} {ts : List TsT} {a : Nat} {x : TsT} (ho : okT G h es ts) (hx : isTs G h a x) : okT G h (es ++ [a]) (ts ++ [x]) := by
  refine ⟨by simp [ho.1], fun i b y h1 h2 => ?_⟩
  by_cases hi : i < es.length
  · rw [List.getElem?_append_left hi] at h1
    rw [List.getElem?_append_left (by rw [← ho.1]; exact hi)] at h2
    exact ho.2 i b y h1 h2
  · rw [List.getElem?_append_right (by omega)] at h1
    rw [List.getElem?_append_right (by rw [← ho.1]; omega), ← ho.1] at h2
    by_cases hi2 : i - es.length = 0
    · rw [hi2] at h1 h2
      cases h1
      cases h2
      exact hx
    · rw [List.getElem?_eq_none (by simp; omega)] at h1
      cases h1
/-- a Reader -/
def isRd (G : XG) (h : XH) (r ta na la ba : Nat) (t as kas : List Nat) (Ns : List NmT) (ea va p o tc : Nat) (es : List Nat) (ts : List TsT) (ln : List Nat) (m : Nat) : Prop :=
  h r = some (rdO ta na la ba p o tc) ∧ isS G h ta t ∧ isNs G h na as kas Ns ∧ isL G h la ea es ∧ okT G h es ts ∧ isB h ba va ln m
abbrev kRd : List Nat := [k_aName, k_Name, k_aknown, k_String, k_asbyte, k_ArrayList, k_aObject, k_Test, k_Join, k_Negation, k_Constant, k_avals]
theorem isRd.ofR {C N K r ta na la ba ea va p o tc p' o' tc' m c' n' : Nat} {t as kas es ln ln' : List Nat} {Ns : List NmT} {ts : List TsT} {h' : XH} (hR : isRd G h r ta na la ba t as kas Ns ea va p o tc es ts ln m) (q : pR C N K r ba va (rdO ta na la ba p' o' tc') ln' m h c n h' c' n') :
    ∃ va' m', isRd G h' r ta na la ba t as kas Ns ea va' p' o' tc' es ts ln' m' ∧ xfr h h' [r, ba, va] ∧ (va' = va ∨ h va' = none) ∧ xgs C N K m m' c n c' n' := by
  obtain ⟨va', m', q0, q1, q2, q3, q4⟩ := q
  obtain ⟨e1, e2, e3, e4, e5, e6⟩ := hR
  have hk : xno h [r, ba, va] kRd := e6.kR e1 (by decide) (by decide) (by decide)
  exact ⟨va', m', ⟨q0, e2.fr q2 (hk.sub (by decide)), e3.fr q2 (hk.sub (by decide)), e4.fr q2 (hk.sub (by decide)), e5.fr q2 (hk.sub (by decide)), q1⟩, q2, q3, q4⟩
/-- the same, or new -/
def djN (h : XH) (a b : Nat) : Prop := a = b ∨ h a = none
/-- what becomes of a Reader: where it is, and the tests that it has read then -/
def pT (G : XG) (C N K r ta na la ba : Nat) (t as kas : List Nat) (Ns : List NmT) (ea va p' o' tc' : Nat) (ts' : List TsT) (m : Nat) (h : XH) (c n : Nat) (h' : XH) (c' n' : Nat) : Prop := ∃ ea' va' es' ln' m', isRd G h' r ta na la ba t as kas Ns ea' va' p' o' tc' es' ts' ln' m' ∧ xfr h h' [r, la, ea, ba, va] ∧ djN h ea' ea ∧ djN h va' va ∧ xgs C N K m m' c n c' n'
theorem pT.ofR {C N K r ta na la ba ea va p o tc p' o' tc' m c' n' : Nat} {t as kas es ln ln' : List Nat} {Ns : List NmT} {ts : List TsT} {h' : XH} (hR : isRd G h r ta na la ba t as kas Ns ea va p o tc es ts ln m) (q : pR C N K r ba va (rdO ta na la ba p' o' tc') ln' m h c n h' c' n') : pT G C N K r ta na la ba t as kas Ns ea va p' o' tc' ts m h c n h' c' n' := by
  obtain ⟨va', m', q0, q1, q2, q3⟩ := hR.ofR q
  exact ⟨ea, va', es, ln', m', q0, q1.mono (by simp), Or.inl rfl, q2, q3⟩
theorem pR.ofS {K r ba va m : Nat} {vs : List Value} {t t' : List Nat} {h' : XH} (hr : h r = some (k_Reader, vs)) (hb : isB h ba va t m) (hm : m ≤ K) (hb' : isB h' ba va t' m) (hf : xfr h h' [ba]) : pR 0 0 K r ba va (k_Reader, vs) t' m h c n h' c n := by
  have hn := hb.neR hr
  exact ⟨va, m, hf.1 _ _ hr (fun z => hn (by simp at z; simp [z])), hb', hf.mono (by simp), Or.inl rfl, by omega⟩
/-- a comparison, or in, behind its name -/
def rcm (t : List Nat) (k : Nat) (w : List Nat) (kd p : Nat) : Nat × Option TsT :=
  if wrd t (skp t p) = xtx 22 then ((rlist t kd (tkW t p (xtx 22))).1, (rlist t kd (tkW t p (xtx 22))).2.1.map (fun us => (k, 2, us, (((w ++ [32]) ++ xtx 22) ++ [32]) ++ (rlist t kd (tkW t p (xtx 22))).2.2)))
  else match (opr t (skp t p)).2.1 with
    | none => ((opr t (skp t p)).1, none)
    | some acc => ((rvl t kd (opr t (skp t p)).1).1, (rsg t kd (opr t (skp t p)).1).map (fun us => (k, acc, us, (((w ++ [32]) ++ (opr t (skp t p)).2.2) ++ [32]) ++ (rvl t kd (opr t (skp t p)).1).2.2)))
/-- what reading a test gives -/
abbrev pX (G : XG) (C N K r ta na la ba : Nat) (t as kas : List Nat) (Ns : List NmT) (ea va p' o tc : Nat) (ts : List TsT) (m : Nat) (h : XH) (c n : Nat) : Option TsT → Option Value → XH → Nat → Nat → Prop
  | none, v, h', c', n' => v = some .null ∧ pT G C N K r ta na la ba t as kas Ns ea va p' o tc ts m h c n h' c' n'
  | some x, v, h', c', n' => ∃ a, v = some (.ref a) ∧ h a = none ∧ isTs G h' a x ∧ pT G C N K r ta na la ba t as kas Ns ea va p' o tc (ts ++ [x]) m h c n h' c' n'
end RD8
