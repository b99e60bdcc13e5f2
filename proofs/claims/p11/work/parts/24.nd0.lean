section
abbrev y_Test_isTrueAt : MethodName := ⟨"MarkerText$Test", "isTrueAt", "([J)Z"⟩
abbrev M_Test_isTrueAt : XMt := (y_Test_isTrueAt, prog_11_method_2_code, 5, (some .boolean))
abbrev y_Join_isTrueAt : MethodName := ⟨"MarkerText$Join", "isTrueAt", "([J)Z"⟩
abbrev M_Join_isTrueAt : XMt := (y_Join_isTrueAt, prog_5_method_2_code, 2, (some .boolean))
abbrev y_Negation_isTrueAt : MethodName := ⟨"MarkerText$Negation", "isTrueAt", "([J)Z"⟩
abbrev M_Negation_isTrueAt : XMt := (y_Negation_isTrueAt, prog_7_method_2_code, 2, (some .boolean))
abbrev y_Constant_isTrueAt : MethodName := ⟨"MarkerText$Constant", "isTrueAt", "([J)Z"⟩
abbrev M_Constant_isTrueAt : XMt := (y_Constant_isTrueAt, prog_4_method_2_code, 2, (some .boolean))
abbrev y_Test_show : MethodName := ⟨"MarkerText$Test", "show", "(Ljava/lang/StringBuilder;)V"⟩
abbrev M_Test_show : XMt := (y_Test_show, prog_11_method_4_code, 2, none)
abbrev y_Join_show : MethodName := ⟨"MarkerText$Join", "show", "(Ljava/lang/StringBuilder;)V"⟩
abbrev M_Join_show : XMt := (y_Join_show, prog_5_method_3_code, 2, none)
abbrev y_Negation_show : MethodName := ⟨"MarkerText$Negation", "show", "(Ljava/lang/StringBuilder;)V"⟩
abbrev M_Negation_show : XMt := (y_Negation_show, prog_7_method_3_code, 2, none)
abbrev y_Constant_show : MethodName := ⟨"MarkerText$Constant", "show", "(Ljava/lang/StringBuilder;)V"⟩
abbrev M_Constant_show : XMt := (y_Constant_show, prog_4_method_3_code, 2, none)
abbrev y_Node_showInside : MethodName := ⟨"MarkerText$Node", "showInside", "(Ljava/lang/StringBuilder;Z)V"⟩
abbrev M_Node_showInside : XMt := (y_Node_showInside, prog_8_method_4_code, 3, none)
end
section ND0
variable {l : Launch} {G : XG} {M : XMt} {d pc : Nat} {L : List (Option Value)} {rest : List Value} {h : XH} {c n : Nat} {P : XPo}
/-- a contract of a receiver of one of several kinds -/
def XD (l : Launch) (G : XG) (d : Nat) (ms : List (Nat × XMt)) (a : Nat) (As : List Value) (h : XH) (c n : Nat) (P : Option Value → XH → Nat → Nat → Prop) : Prop := ∃ q ∈ ms, ∃ vs, xr G h a q.1 vs ∧ XM l G d q.2 (.ref a :: As) h c n P
abbrev msT : List (Nat × XMt) := [(k_Test, M_Test_isTrueAt), (k_Join, M_Join_isTrueAt), (k_Negation, M_Negation_isTrueAt), (k_Constant, M_Constant_isTrueAt)]
abbrev msS : List (Nat × XMt) := [(k_Test, M_Test_show), (k_Join, M_Join_show), (k_Negation, M_Negation_show), (k_Constant, M_Constant_show)]
abbrev msI : List (Nat × XMt) := [(k_Test, M_Node_showInside), (k_Join, M_Node_showInside), (k_Negation, M_Node_showInside), (k_Constant, M_Node_showInside)]
theorem x_callD {ms : List (Nat × XMt)} {As st : List Value} {b idx nn : Nat} {P' : Option Value → XH → Nat → Nat → Prop} (hms : ∀ q ∈ ms, ∃ C T N, xk[q.1]? = some (.inl (C, T, N)) ∧ xCV M.1.cls idx C q.2 nn) (hM : XD l G d ms b As h c n P') (hn : As.length = nn) (hst : st = As.reverse ++ .ref b :: rest) (hr : (rest.map fun v => v.category).sum ≤ 8) (hd : decode M.2.1 pc = .ok (.invokevirtual idx, 3))
    (kk : ∀ (v : Option Value) (h' : XH) (c' n' : Nat), P' v h' c' n' → XX l G M (d + 1) (pc + 3) L (v.toList ++ rest) h' c' n' P) : XX l G M (d + 1) pc L st h c n P := by
  obtain ⟨q, hq, vs, ha, hX⟩ := hM
  obtain ⟨C, T, N, h1, h2⟩ := hms q hq
  exact x_callV h1 h2 ha hX hn hst hr hd kk
def xGD (own : String) (idx : Nat) : Prop := xF own idx k_Test 4 ∧ xF own idx k_Join 2 ∧ xF own idx k_Negation 1 ∧ xF own idx k_Constant 1
/-- a part of a condition has a strength -/
def hasSt (G : XG) (h : XH) (a : Nat) (v : Value) : Prop := (∃ x y z w, xr G h a k_Test [x, y, z, w, v]) ∨ (∃ x y, xr G h a k_Join [x, y, v]) ∨ (∃ x, xr G h a k_Negation [x, v]) ∨ (∃ x, xr G h a k_Constant [x, v])
theorem x_getD {a idx : Nat} {v : Value} (hx : xGD M.1.cls idx) (hs : hasSt G h a v) (hd : decode M.2.1 pc = .ok (.getfield idx, 3)) (kk : XX l G M d (pc + 3) L (v :: rest) h c n P) : XX l G M d pc L (.ref a :: rest) h c n P := by
  rcases hs with ⟨x, y, z, w, ha⟩ | ⟨x, y, ha⟩ | ⟨x, ha⟩ | ⟨x, ha⟩
  · exact x_get hx.1 ha rfl hd kk
  · exact x_get hx.2.1 ha rfl hd kk
  · exact x_get hx.2.2.1 ha rfl hd kk
  · exact x_get hx.2.2.2 ha rfl hd kk
/-- two growths of a builder after another -/
theorem pB.tr {K a va va1 m m1 c1 n1 c2 n2 : Nat} {t1 t2 : List Nat} {h1 h2 : XH} (hb : isB h1 a va1 t1 m1) (f1 : xfr h h1 [a, va]) (e1 : va1 = va ∨ h va1 = none) (g1 : xgr K m m1 c n c1 n1) (p : pB K a va1 t2 m1 h1 c1 n1 h2 c2 n2) : pB K a va t2 m h c n h2 c2 n2 := by
  obtain ⟨va2, m2, p1, p2, p3, p4⟩ := p
  refine ⟨va2, m2, p1, f1.tr p2 (fun q hq hq2 => ?_), ?_, by omega⟩
  · simp only [List.mem_cons, List.not_mem_nil, or_false] at hq2 ⊢
    rcases hq2 with rfl | rfl
    · exact Or.inl rfl
    · rcases e1 with rfl | e1
      · exact Or.inr rfl
      · exact absurd e1 hq
  · rcases p3 with rfl | p3
    · exact e1
    · exact Or.inr (f1.2 _ p3)
theorem pB.rf {K a va m : Nat} {t : List Nat} (hb : isB h a va t m) (hK : m ≤ K) : pB K a va t m h c n h c n := ⟨va, m, hb, xfr.rf, Or.inl rfl, by omega⟩
end ND0
