section
abbrev y_Reader_readTest : MethodName := ⟨"MarkerText$Reader", "readTest", "()LMarkerText$Node;"⟩
abbrev M_Reader_readTest : XMt := (y_Reader_readTest, prog_10_method_4_code, 5, (some (.object "MarkerText$Node")))
abbrev y_Reader_readJoined : MethodName := ⟨"MarkerText$Reader", "readJoined", "(I)LMarkerText$Node;"⟩
abbrev M_Reader_readJoined : XMt := (y_Reader_readJoined, prog_10_method_3_code, 6, (some (.object "MarkerText$Node")))
abbrev y_Reader_readOpened : MethodName := ⟨"MarkerText$Reader", "readOpened", "(Z)LMarkerText$Node;"⟩
abbrev M_Reader_readOpened : XMt := (y_Reader_readOpened, prog_10_method_5_code, 3, (some (.object "MarkerText$Node")))
theorem d_Reader_readOpened_0 : decode M_Reader_readOpened.2.1 0 = .ok (.aload_n 0, 1) := by decide +kernel
theorem d_Reader_readOpened_1 : decode M_Reader_readOpened.2.1 1 = .ok (.dup, 1) := by decide +kernel
theorem d_Reader_readOpened_2 : decode M_Reader_readOpened.2.1 2 = .ok (.getfield 25, 3) := by decide +kernel
theorem d_Reader_readOpened_5 : decode M_Reader_readOpened.2.1 5 = .ok (.iload_n 1, 1) := by decide +kernel
theorem d_Reader_readOpened_6 : decode M_Reader_readOpened.2.1 6 = .ok (.ifCond .eq 11, 3) := by decide +kernel
theorem d_Reader_readOpened_9 : decode M_Reader_readOpened.2.1 9 = .ok (.ldc 95, 2) := by decide +kernel
theorem d_Reader_readOpened_11 : decode M_Reader_readOpened.2.1 11 = .ok (.invokevirtual 52, 3) := by decide +kernel
theorem d_Reader_readOpened_14 : decode M_Reader_readOpened.2.1 14 = .ok (.goto 4, 3) := by decide +kernel
theorem d_Reader_readOpened_18 : decode M_Reader_readOpened.2.1 18 = .ok (.iadd, 1) := by decide +kernel
theorem d_Reader_readOpened_19 : decode M_Reader_readOpened.2.1 19 = .ok (.putfield 25, 3) := by decide +kernel
theorem d_Reader_readOpened_22 : decode M_Reader_readOpened.2.1 22 = .ok (.aload_n 0, 1) := by decide +kernel
theorem d_Reader_readOpened_23 : decode M_Reader_readOpened.2.1 23 = .ok (.dup, 1) := by decide +kernel
theorem d_Reader_readOpened_24 : decode M_Reader_readOpened.2.1 24 = .ok (.getfield 29, 3) := by decide +kernel
theorem xw_863 : (Jvm.Cond.fieldLink "MarkerText$Reader" (29 : Nat) "MarkerText$Reader" "open" "I") ∈ xT := xT_at 863 (by decide +kernel) (by decide +kernel)
theorem xf_Reader_29_Reader : xF "MarkerText$Reader" 29 k_Reader 5 := ⟨_, _, _, "MarkerText$Reader", rfl, by decide, Or.inl xw_863, Or.inl rfl⟩
theorem d_Reader_readOpened_27 : decode M_Reader_readOpened.2.1 27 = .ok (.iconst 1, 1) := by decide +kernel
theorem d_Reader_readOpened_28 : decode M_Reader_readOpened.2.1 28 = .ok (.iadd, 1) := by decide +kernel
theorem d_Reader_readOpened_29 : decode M_Reader_readOpened.2.1 29 = .ok (.putfield 29, 3) := by decide +kernel
theorem xp_Reader_5 : xP k_Reader 5 false .int := ⟨_, _, _, rfl, rfl, by decide +kernel⟩
theorem d_Reader_readOpened_32 : decode M_Reader_readOpened.2.1 32 = .ok (.iload_n 1, 1) := by decide +kernel
theorem d_Reader_readOpened_33 : decode M_Reader_readOpened.2.1 33 = .ok (.ifCond .eq 10, 3) := by decide +kernel
theorem d_Reader_readOpened_36 : decode M_Reader_readOpened.2.1 36 = .ok (.aload_n 0, 1) := by decide +kernel
theorem d_Reader_readOpened_37 : decode M_Reader_readOpened.2.1 37 = .ok (.invokevirtual 75, 3) := by decide +kernel
theorem xw_891 : (Jvm.Cond.code ({ cls := "MarkerText$Reader", name := "readTest", desc := "()LMarkerText$Node;" } : Jvm.MethodName) prog_10_method_4_code (5 : Nat) (Option.some (Jvm.ClassFile.FieldType.object "MarkerText$Node"))) ∈ xT := xT_at 891 (by decide +kernel) (by decide +kernel)
theorem xcb_Reader_readTest : xcb M_Reader_readTest 0 := ⟨xw_891, xw_23, by decide, by decide, by decide, by decide +kernel⟩
theorem xw_890 : (Jvm.Cond.instanceMethod ({ cls := "MarkerText$Reader", name := "readTest", desc := "()LMarkerText$Node;" } : Jvm.MethodName)) ∈ xT := xT_at 890 (by decide +kernel) (by decide +kernel)
theorem xw_888 : (Jvm.Cond.methodLink "MarkerText$Reader" (75 : Nat) ({ cls := "MarkerText$Reader", name := "readTest", desc := "()LMarkerText$Node;" } : Jvm.MethodName)) ∈ xT := xT_at 888 (by decide +kernel) (by decide +kernel)
theorem xsel_Reader_readTest : Cond.selects "MarkerText$Reader" y_Reader_readTest y_Reader_readTest ∈ xT := xT_sel (q := (y_Reader_readTest, 7)) (by decide +kernel) (by decide +kernel)
theorem xcv_Reader_75_Reader : xCV "MarkerText$Reader" 75 "MarkerText$Reader" M_Reader_readTest 0 := ⟨xcb_Reader_readTest, xw_890, Or.inl ⟨xw_888, Or.inl xsel_Reader_readTest⟩⟩
theorem d_Reader_readOpened_40 : decode M_Reader_readOpened.2.1 40 = .ok (.goto 8, 3) := by decide +kernel
theorem d_Reader_readOpened_48 : decode M_Reader_readOpened.2.1 48 = .ok (.astore_n 2, 1) := by decide +kernel
theorem d_Reader_readOpened_49 : decode M_Reader_readOpened.2.1 49 = .ok (.aload_n 0, 1) := by decide +kernel
theorem d_Reader_readOpened_50 : decode M_Reader_readOpened.2.1 50 = .ok (.dup, 1) := by decide +kernel
theorem d_Reader_readOpened_51 : decode M_Reader_readOpened.2.1 51 = .ok (.getfield 29, 3) := by decide +kernel
theorem d_Reader_readOpened_54 : decode M_Reader_readOpened.2.1 54 = .ok (.iconst 1, 1) := by decide +kernel
theorem d_Reader_readOpened_55 : decode M_Reader_readOpened.2.1 55 = .ok (.isub, 1) := by decide +kernel
theorem d_Reader_readOpened_56 : decode M_Reader_readOpened.2.1 56 = .ok (.putfield 29, 3) := by decide +kernel
theorem d_Reader_readOpened_59 : decode M_Reader_readOpened.2.1 59 = .ok (.aload_n 2, 1) := by decide +kernel
theorem d_Reader_readOpened_60 : decode M_Reader_readOpened.2.1 60 = .ok (.ifnonnull 5, 3) := by decide +kernel
theorem d_Reader_readOpened_63 : decode M_Reader_readOpened.2.1 63 = .ok (.aconst_null, 1) := by decide +kernel
theorem d_Reader_readOpened_64 : decode M_Reader_readOpened.2.1 64 = .ok (.areturn, 1) := by decide +kernel
theorem d_Reader_readOpened_65 : decode M_Reader_readOpened.2.1 65 = .ok (.iload_n 1, 1) := by decide +kernel
theorem d_Reader_readOpened_66 : decode M_Reader_readOpened.2.1 66 = .ok (.ifCond .eq 12, 3) := by decide +kernel
theorem d_Reader_readOpened_69 : decode M_Reader_readOpened.2.1 69 = .ok (.new 125, 3) := by decide +kernel
theorem xw_936 : (Jvm.Cond.classLink "MarkerText$Reader" (125 : Nat) "MarkerText$Negation") ∈ xT := xT_at 936 (by decide +kernel) (by decide +kernel)
theorem xw_937 : (Jvm.Cond.instantiable "MarkerText$Negation" (2 : Nat)) ∈ xT := xT_at 937 (by decide +kernel) (by decide +kernel)
theorem xnw_Reader_125 : xNw "MarkerText$Reader" 125 k_Negation 2 [.null, .int 0] := ⟨_, _, _, rfl, rfl, by decide +kernel, xw_936, xw_937, xw_28⟩
theorem d_Reader_readOpened_72 : decode M_Reader_readOpened.2.1 72 = .ok (.dup, 1) := by decide +kernel
theorem d_Reader_readOpened_73 : decode M_Reader_readOpened.2.1 73 = .ok (.aload_n 2, 1) := by decide +kernel
theorem d_Reader_readOpened_74 : decode M_Reader_readOpened.2.1 74 = .ok (.invokespecial 127, 3) := by decide +kernel
theorem xw_940 : (Jvm.Cond.code ({ cls := "MarkerText$Negation", name := "<init>", desc := "(LMarkerText$Node;)V" } : Jvm.MethodName) prog_7_method_1_code (2 : Nat) (Option.none : Option Jvm.ClassFile.FieldType)) ∈ xT := xT_at 940 (by decide +kernel) (by decide +kernel)
theorem xcb_Negation_init : xcb M_Negation_init 1 := ⟨xw_940, xw_28, by decide, by decide, by decide, by decide +kernel⟩
theorem xw_938 : (Jvm.Cond.methodLink "MarkerText$Reader" (127 : Nat) ({ cls := "MarkerText$Negation", name := "<init>", desc := "(LMarkerText$Node;)V" } : Jvm.MethodName)) ∈ xT := xT_at 938 (by decide +kernel) (by decide +kernel)
theorem xw_939 : (Jvm.Cond.instanceMethod ({ cls := "MarkerText$Negation", name := "<init>", desc := "(LMarkerText$Node;)V" } : Jvm.MethodName)) ∈ xT := xT_at 939 (by decide +kernel) (by decide +kernel)
theorem xci_Reader_127 : xCI "MarkerText$Reader" 127 M_Negation_init 1 := ⟨xcb_Negation_init, rfl, rfl, xw_939, Or.inl xw_938⟩
theorem d_Reader_readOpened_77 : decode M_Reader_readOpened.2.1 77 = .ok (.areturn, 1) := by decide +kernel
theorem d_Reader_readOpened_17 : decode M_Reader_readOpened.2.1 17 = .ok (.iconst 1, 1) := by decide +kernel
theorem d_Reader_readOpened_43 : decode M_Reader_readOpened.2.1 43 = .ok (.aload_n 0, 1) := by decide +kernel
theorem d_Reader_readOpened_44 : decode M_Reader_readOpened.2.1 44 = .ok (.iconst 1, 1) := by decide +kernel
theorem d_Reader_readOpened_45 : decode M_Reader_readOpened.2.1 45 = .ok (.invokevirtual 45, 3) := by decide +kernel
theorem xw_887 : (Jvm.Cond.code ({ cls := "MarkerText$Reader", name := "readJoined", desc := "(I)LMarkerText$Node;" } : Jvm.MethodName) prog_10_method_3_code (6 : Nat) (Option.some (Jvm.ClassFile.FieldType.object "MarkerText$Node"))) ∈ xT := xT_at 887 (by decide +kernel) (by decide +kernel)
theorem xcb_Reader_readJoined : xcb M_Reader_readJoined 1 := ⟨xw_887, xw_23, by decide, by decide, by decide, by decide +kernel⟩
theorem xw_886 : (Jvm.Cond.instanceMethod ({ cls := "MarkerText$Reader", name := "readJoined", desc := "(I)LMarkerText$Node;" } : Jvm.MethodName)) ∈ xT := xT_at 886 (by decide +kernel) (by decide +kernel)
theorem xw_884 : (Jvm.Cond.methodLink "MarkerText$Reader" (45 : Nat) ({ cls := "MarkerText$Reader", name := "readJoined", desc := "(I)LMarkerText$Node;" } : Jvm.MethodName)) ∈ xT := xT_at 884 (by decide +kernel) (by decide +kernel)
theorem xsel_Reader_readJoined : Cond.selects "MarkerText$Reader" y_Reader_readJoined y_Reader_readJoined ∈ xT := xT_sel (q := (y_Reader_readJoined, 7)) (by decide +kernel) (by decide +kernel)
theorem xcv_Reader_45_Reader : xCV "MarkerText$Reader" 45 "MarkerText$Reader" M_Reader_readJoined 1 := ⟨xcb_Reader_readJoined, xw_886, Or.inl ⟨xw_884, Or.inl xsel_Reader_readJoined⟩⟩
theorem d_Reader_readOpened_78 : decode M_Reader_readOpened.2.1 78 = .ok (.aload_n 0, 1) := by decide +kernel
theorem d_Reader_readOpened_79 : decode M_Reader_readOpened.2.1 79 = .ok (.bipush 41, 2) := by decide +kernel
theorem d_Reader_readOpened_81 : decode M_Reader_readOpened.2.1 81 = .ok (.invokevirtual 130, 3) := by decide +kernel
theorem d_Reader_readOpened_84 : decode M_Reader_readOpened.2.1 84 = .ok (.ifCond .eq 7, 3) := by decide +kernel
theorem d_Reader_readOpened_87 : decode M_Reader_readOpened.2.1 87 = .ok (.aload_n 2, 1) := by decide +kernel
theorem d_Reader_readOpened_88 : decode M_Reader_readOpened.2.1 88 = .ok (.goto 4, 3) := by decide +kernel
theorem d_Reader_readOpened_92 : decode M_Reader_readOpened.2.1 92 = .ok (.areturn, 1) := by decide +kernel
theorem d_Reader_readOpened_91 : decode M_Reader_readOpened.2.1 91 = .ok (.aconst_null, 1) := by decide +kernel
end
section RE2
variable {l : Launch} {G : XG} {h : XH} {c n d : Nat}
theorem pT.tr {C1 N1 C2 N2 K r ta na la ba ea va ea1 va1 p1 o1 tc1 p2 o2 tc2 m m1 c1 n1 c2 n2 : Nat} {t as kas es1 ln1 : List Nat} {Ns : List NmT} {ts1 ts2 : List TsT} {h1 h2 : XH} (R1 : isRd G h1 r ta na la ba t as kas Ns ea1 va1 p1 o1 tc1 es1 ts1 ln1 m1) (f1 : xfr h h1 [r, la, ea, ba, va]) (u1 : ea1 = ea ∨ h ea1 = none) (w1 : va1 = va ∨ h va1 = none) (g1 : xgs C1 N1 K m m1 c n c1 n1) (q : pT G C2 N2 K r ta na la ba t as kas Ns ea1 va1 p2 o2 tc2 ts2 m1 h1 c1 n1 h2 c2 n2) : pT G (C1 + C2) (N1 + N2) K r ta na la ba t as kas Ns ea va p2 o2 tc2 ts2 m h c n h2 c2 n2 := by
  obtain ⟨ea2, va2, es2, ln2, m2, R2, f2, u2, w2, g2⟩ := q
  refine ⟨ea2, va2, es2, ln2, m2, R2, f1.tr f2 (fun q hq hq2 => ?_), ?_, ?_, by omega⟩
  · simp only [List.mem_cons, List.not_mem_nil, or_false] at hq2 ⊢
    rcases hq2 with z | z | z | z | z
    · exact Or.inl z
    · exact Or.inr (Or.inl z)
    · rcases u1 with u | u
      · exact Or.inr (Or.inr (Or.inl (z.trans u)))
      · rw [z] at hq; exact absurd u hq
    · exact Or.inr (Or.inr (Or.inr (Or.inl z)))
    · rcases w1 with u | u
      · exact Or.inr (Or.inr (Or.inr (Or.inr (z.trans u))))
      · rw [z] at hq; exact absurd u hq
  · rcases u2 with u | u
    · rw [u]; exact u1
    · exact Or.inr (f1.2 _ u)
  · rcases w2 with u | u
    · rw [u]; exact w1
    · exact Or.inr (f1.2 _ u)
theorem pT.mono {C N C' N' K r ta na la ba ea va p' o' tc' m c' n' : Nat} {t as kas : List Nat} {Ns : List NmT} {ts' : List TsT} {h' : XH} (q : pT G C N K r ta na la ba t as kas Ns ea va p' o' tc' ts' m h c n h' c' n') (hC : C ≤ C') (hN : N ≤ N') : pT G C' N' K r ta na la ba t as kas Ns ea va p' o' tc' ts' m h c n h' c' n' := by
  obtain ⟨ea2, va2, es2, ln2, m2, R2, f2, u2, w2, g2⟩ := q
  exact ⟨ea2, va2, es2, ln2, m2, R2, f2, u2, w2, by omega⟩
theorem pR.ofW {C N K r ba va m c' n' : Nat} {vs : List Value} {e : Nat × List Value} {t : List Nat} {h' : XH} (hr : h r = some (k_Reader, vs)) (hb : isB h ba va t m) (hm : m ≤ K) (hr' : h' r = some e) (hf : xfr h h' [r]) (hc : c' ≤ c + C) (hn : n' ≤ n + N) : pR C N K r ba va e t m h c n h' c' n' := by
  have hne := hb.neR hr
  simp only [List.mem_cons, List.not_mem_nil, or_false, not_or] at hne
  exact ⟨va, m, hr', hb.fr hf (by simpa using Ne.symm hne.1) (by simpa using Ne.symm hne.2), hf.mono (by simp), Or.inl rfl, by omega⟩
/-- a cell that is made beside the Reader -/
theorem pT.up {C N K r ta na la ba ea va p' o' tc' m c' n' a dc dn : Nat} {e : Nat × List Value} {t as kas : List Nat} {Ns : List NmT} {ts' : List TsT} {h' : XH} (q : pT G C N K r ta na la ba t as kas Ns ea va p' o' tc' ts' m h c n h' c' n') (ha : h' a = none) : pT G (C + dc) (N + dn) K r ta na la ba t as kas Ns ea va p' o' tc' ts' m h c n (xup h' a e) (c' + dc) (n' + dn) := by
  obtain ⟨ea2, va2, es2, ln2, m2, R2, f2, u2, w2, g2⟩ := q
  obtain ⟨q1, q2, q3, q4, q5, q6⟩ := R2
  have hf : xfr h' (xup h' a e) [] := xfr.rf.up (Or.inr ha)
  have hno : ∀ ks, xno h' [] ks := fun ks q hq => by cases hq
  exact ⟨ea2, va2, es2, ln2, m2, ⟨hf.1 _ _ q1 (by simp), q2.fr hf (hno _), q3.fr hf (hno _), q4.fr hf (hno _), q5.fr hf (hno _), q6.fr hf (by simp) (by simp)⟩, f2.tr hf (fun _ _ z => by cases z), u2, w2, by omega⟩
theorem isNode.mono {k k' a : Nat} {D : Den} (hN : isNode G h k a D) (hk : k ≤ k') : isNode G h k' a D := by
  induction hk with
  | refl => exact hN
  | step _ ih => exact Or.inl ih
/-- what reading gives: null, or a part of a condition -/
abbrev pN (G : XG) (sl sn K r ta na la ba : Nat) (t as kas : List Nat) (Ns : List NmT) (ea va p o m : Nat) (h : XH) (c n : Nat) (R : RO) (v : Option Value) (h' : XH) (c' n' : Nat) : Prop :=
  match R.2 with
  | none => v = some .null ∧ pT G (40 * (R.1.1 - p) + 40) (2000 * (R.1.1 - p) + 2000) K r ta na la ba t as kas Ns ea va R.1.1 o R.1.2.1 R.1.2.2 m h c n h' c' n'
  | some D => ∃ a, v = some (.ref a) ∧ isNode G h' (R.1.1 - p) a D ∧ pT G (40 * (R.1.1 - p) - sl) (2000 * (R.1.1 - p) - sn) K r ta na la ba t as kas Ns ea va R.1.1 o R.1.2.1 R.1.2.2 m h c n h' c' n'
/-- a method of the Reader that reads as F says -/
def CRd (l : Launch) (G : XG) (K : Nat) (t as kas : List Nat) (Ns : List NmT) (M : XMt) (xs : List Value) (dd o sl sn : Nat) (F : RS → RO) : Prop :=
  ∀ (h : XH) (c n d r ta na la ba ea va p tc m : Nat) (es : List Nat) (ts : List TsT) (ln : List Nat), dd ≤ d → isRd G h r ta na la ba t as kas Ns ea va p o tc es ts ln m → p ≤ t.length → ts.length ≤ tc → tc ≤ 40 → m ≤ K → c + K + 40 * (t.length - p) + 40 ≤ xCB + m → n + 2 * K + 2000 * (t.length - p) + 2000 ≤ xSB + 2 * m →
    XM l G d M (.ref r :: xs) h c n (pN G sl sn K r ta na la ba t as kas Ns ea va p o m h c n (F (p, tc, ts)))
/-- the same of readOpened, which leaves a part of the cost to its caller -/
abbrev pO (G : XG) (K r ta na la ba : Nat) (t as kas : List Nat) (Ns : List NmT) (ea va p o m : Nat) (h : XH) (c n : Nat) (R : RO) (v : Option Value) (h' : XH) (c' n' : Nat) : Prop :=
  match R.2 with
  | none => v = some .null ∧ pT G (40 * (R.1.1 - p)) (2000 * (R.1.1 - p)) K r ta na la ba t as kas Ns ea va R.1.1 o R.1.2.1 R.1.2.2 m h c n h' c' n'
  | some D => ∃ a, v = some (.ref a) ∧ isNode G h' (R.1.1 - p) a D ∧ pT G (40 * (R.1.1 - p) - 36) (2000 * (R.1.1 - p) - 1900) K r ta na la ba t as kas Ns ea va R.1.1 o R.1.2.1 R.1.2.2 m h c n h' c' n'
theorem rOp_t {t : List Nat} {F J : RS → RO} {st st' : RS} {D : Den} (hF : F (st.1 + 3, st.2) = (st', some D)) : rOp t F J true st = (st', some (dNot D)) := by
  unfold rOp
  rw [if_pos rfl, hF]
theorem rOp_tn {t : List Nat} {F J : RS → RO} {st st' : RS} (hF : F (st.1 + 3, st.2) = (st', none)) : rOp t F J true st = (st', none) := by
  unfold rOp
  rw [if_pos rfl, hF]
theorem rOp_f {t : List Nat} {F J : RS → RO} {st st' : RS} {D : Den} (hF : J (st.1 + 1, st.2) = (st', some D)) : rOp t F J false st = if chr t (skp t st'.1) = 41 then ((skp t st'.1 + 1, st'.2), some D) else ((skp t st'.1, st'.2), none) := by
  unfold rOp
  rw [if_neg (by decide), hF]
theorem rOp_fn {t : List Nat} {F J : RS → RO} {st st' : RS} (hF : J (st.1 + 1, st.2) = (st', none)) : rOp t F J false st = (st', none) := by
  unfold rOp
  rw [if_neg (by decide), hF]
theorem c_readOpened (hG : xGk G) {K dd o : Nat} {t as kas : List Nat} {Ns : List NmT} {F J : RS → RO} {b : Bool} (hl : t.length ≤ 160) (hK : K < 2 ^ 16) (ho : o < 12) (hgF : gF t 3 F) (hgJ : gF t 1 J) (hF : CRd l G K t as kas Ns M_Reader_readTest [] dd (o + 1) 0 0 F) (hJ : CRd l G K t as kas Ns M_Reader_readJoined [.int 1] dd (o + 1) 0 0 J)
    {h : XH} {c n d r ta na la ba ea va p tc m : Nat} {es : List Nat} {ts : List TsT} {ln : List Nat} (hd : dd + 1 ≤ d) (hd5 : 6 ≤ d) (hR : isRd G h r ta na la ba t as kas Ns ea va p o tc es ts ln m) (hp : p + (if b then 3 else 1) ≤ t.length) (h1 : ts.length ≤ tc) (h2 : tc ≤ 40) (hm : m ≤ K) (hc : c + K + 40 * (t.length - p) ≤ xCB + m) (hn : n + 2 * K + 2000 * (t.length - p) ≤ xSB + 2 * m) :
    XM l G d M_Reader_readOpened [.ref r, .int (bI b)] h c n (pO G K r ta na la ba t as kas Ns ea va p o m h c n (rOp t F J b (p, tc, ts))) := by
  obtain ⟨d, rfl⟩ : ∃ q, d = q + 1 := ⟨d - 1, by omega⟩
  obtain ⟨hr, hS, hNs, hLi, hT, hB⟩ := id hR
  refine XM.of (by decide +kernel) (Nat.le_of_ble_eq_true rfl) ?_
  cases b with
  | true =>
    have hp : p + 3 ≤ t.length := hp
    obtain ⟨vn, en, hna, -⟩ := id (hG.str (h := h) (i := 19) (by decide))
    refine x_aload_n d_Reader_readOpened_0 rfl rfl ?_
    refine x_dup d_Reader_readOpened_1 rfl ?_
    refine x_get xf_Reader_25_Reader (Or.inl hr) rfl d_Reader_readOpened_2 ?_
    refine x_iload_n d_Reader_readOpened_5 rfl ?_
    refine x_if_eq (tgt := 17) d_Reader_readOpened_6 (by decide) (fun ht => absurd ht (by decide)) (fun _ => ?_)
    refine x_ldcS (i := 19) (tx := "not") (by decide +kernel) d_Reader_readOpened_9 ?_
    refine x_callV (As := []) (k := k_String) rfl xcv_Reader_52_String hna (c_String_length (by omega) (hG.str (by decide))) rfl rfl (Nat.le_of_ble_eq_true rfl) d_Reader_readOpened_11 ?_
    rintro v h' c' n' ⟨rfl, rfl, rfl, rfl⟩
    refine x_goto (tgt := 18) d_Reader_readOpened_14 (by decide) ?_
    refine x_iadd d_Reader_readOpened_18 ?_
    refine x_top (w := .int (nI (p + 3))) (by rw [show (xtx 19).length = 3 from rfl, nI_add]) ?_
    refine x_put xf_Reader_25_Reader xp_Reader_4 rfl rfl hr rfl rfl d_Reader_readOpened_19 ?_
    refine x_aload_n d_Reader_readOpened_22 rfl rfl ?_
    refine x_dup d_Reader_readOpened_23 rfl ?_
    refine x_get xf_Reader_29_Reader (Or.inl xup_self) rfl d_Reader_readOpened_24 ?_
    refine x_iconst (v := 1) d_Reader_readOpened_27 (by decide) ?_
    refine x_iadd d_Reader_readOpened_28 ?_
    refine x_top (w := .int (nI (o + 1))) (by rw [show (1 : Int32) = nI 1 from rfl, nI_add]) ?_
    refine x_put xf_Reader_29_Reader xp_Reader_5 rfl rfl xup_self rfl rfl d_Reader_readOpened_29 ?_
    refine x_hp (h' := xup h' r (rdO ta na la ba (p + 3) (o + 1) tc)) (by rw [xup_up]; rfl) ?_
    obtain ⟨va1, m1, R1, f1, w1, g1⟩ := hR.ofR (pR.ofU (c := c') (n := n') (e := rdO ta na la ba (p + 3) (o + 1) tc) hr hB hm)
    obtain ⟨hr1, -⟩ := id R1
    have hg := hgF (p + 3) tc ts hp h1 h2
    have hX := hF _ c' n' d r ta na la ba ea va1 (p + 3) tc m1 es ts ln (by omega) R1 hp h1 h2 g1.2.1 (by omega) (by omega)
    rcases hFe : F (p + 3, tc, ts) with ⟨⟨p', tc', ts'⟩, oD⟩
    rw [hFe] at hg hX
    have hg1 : p + 3 ≤ p' := hg.1
    have hg3 : p' ≤ t.length := hg.2.1
    cases oD with
    | none =>
      rw [show rOp t F J true (p, tc, ts) = ((p', tc', ts'), none) from rOp_tn hFe]
      refine x_iload_n d_Reader_readOpened_32 rfl ?_
      refine x_if_eq (tgt := 43) d_Reader_readOpened_33 (by decide) (fun ht => absurd ht (by decide)) (fun _ => ?_)
      refine x_aload_n d_Reader_readOpened_36 rfl rfl ?_
      refine x_callV (As := []) (k := k_Reader) rfl xcv_Reader_75_Reader (Or.inl hr1) hX rfl rfl (Nat.le_of_ble_eq_true rfl) d_Reader_readOpened_37 ?_
      intro v h2 c2 n2 hv
      obtain ⟨rfl, q2⟩ : v = some .null ∧ pT G (40 * (p' - (p + 3)) + 40) (2000 * (p' - (p + 3)) + 2000) K r ta na la ba t as kas Ns ea va1 p' (o + 1) tc' ts' m1 _ c' n' h2 c2 n2 := hv
      obtain ⟨ea2, va2, es2, ln2, m2, R2, f2, u2, w2, g2⟩ := pT.tr R1 (f1.mono (by simp)) (Or.inl rfl) w1 g1 q2
      obtain ⟨hr2, hS2, hNs2, hLi2, hT2, hB2⟩ := id R2
      refine x_goto (tgt := 48) d_Reader_readOpened_40 (by decide) ?_
      refine x_astore_n (L' := [_, _, _]) d_Reader_readOpened_48 rfl rfl rfl ?_
      refine x_aload_n d_Reader_readOpened_49 rfl rfl ?_
      refine x_dup d_Reader_readOpened_50 rfl ?_
      refine x_get xf_Reader_29_Reader (Or.inl hr2) rfl d_Reader_readOpened_51 ?_
      refine x_iconst (v := 1) d_Reader_readOpened_54 (by decide) ?_
      refine x_isub d_Reader_readOpened_55 ?_
      refine x_top (w := .int (nI o)) (by rw [show (1 : Int32) = nI 1 from rfl, pk_sub (by omega)]; rfl) ?_
      refine x_put xf_Reader_29_Reader xp_Reader_5 rfl rfl hr2 rfl rfl d_Reader_readOpened_56 ?_
      have q3 := pT.tr R2 f2 u2 w2 g2 (pT.ofR R2 (pR.ofU (c := c2) (n := n2) (e := rdO ta na la ba p' o tc') hr2 hB2 g2.2.1))
      refine x_aload_n d_Reader_readOpened_59 rfl rfl ?_
      refine x_ifnonnullN d_Reader_readOpened_60 ?_
      refine x_null d_Reader_readOpened_63 ?_
      refine x_aret d_Reader_readOpened_64 rfl rfl ?_
      exact ⟨rfl, q3.mono (by show _ ≤ 40 * (p' - p); omega) (by show _ ≤ 2000 * (p' - p); omega)⟩
    | some D =>
      rw [show rOp t F J true (p, tc, ts) = ((p', tc', ts'), some (dNot D)) from rOp_t hFe]
      refine x_iload_n d_Reader_readOpened_32 rfl ?_
      refine x_if_eq (tgt := 43) d_Reader_readOpened_33 (by decide) (fun ht => absurd ht (by decide)) (fun _ => ?_)
      refine x_aload_n d_Reader_readOpened_36 rfl rfl ?_
      refine x_callV (As := []) (k := k_Reader) rfl xcv_Reader_75_Reader (Or.inl hr1) hX rfl rfl (Nat.le_of_ble_eq_true rfl) d_Reader_readOpened_37 ?_
      intro v h2 c2 n2 hv
      obtain ⟨a, rfl, nd, q2⟩ : ∃ a, v = some (.ref a) ∧ isNode G h2 (p' - (p + 3)) a D ∧ pT G (40 * (p' - (p + 3))) (2000 * (p' - (p + 3))) K r ta na la ba t as kas Ns ea va1 p' (o + 1) tc' ts' m1 _ c' n' h2 c2 n2 := hv
      obtain ⟨ea2, va2, es2, ln2, m2, R2, f2, u2, w2, g2⟩ := pT.tr R1 (f1.mono (by simp)) (Or.inl rfl) w1 g1 q2
      obtain ⟨hr2, hS2, hNs2, hLi2, hT2, hB2⟩ := id R2
      refine x_goto (tgt := 48) d_Reader_readOpened_40 (by decide) ?_
      refine x_astore_n (L' := [_, _, _]) d_Reader_readOpened_48 rfl rfl rfl ?_
      refine x_aload_n d_Reader_readOpened_49 rfl rfl ?_
      refine x_dup d_Reader_readOpened_50 rfl ?_
      refine x_get xf_Reader_29_Reader (Or.inl hr2) rfl d_Reader_readOpened_51 ?_
      refine x_iconst (v := 1) d_Reader_readOpened_54 (by decide) ?_
      refine x_isub d_Reader_readOpened_55 ?_
      refine x_top (w := .int (nI o)) (by rw [show (1 : Int32) = nI 1 from rfl, pk_sub (by omega)]; rfl) ?_
      refine x_put xf_Reader_29_Reader xp_Reader_5 rfl rfl hr2 rfl rfl d_Reader_readOpened_56 ?_
      have q3 := pT.tr R2 f2 u2 w2 g2 (pT.ofR R2 (pR.ofU (c := c2) (n := n2) (e := rdO ta na la ba p' o tc') hr2 hB2 g2.2.1))
      have nd3 : isNode G (xup h2 r (rdO ta na la ba p' o tc')) (p' - (p + 3)) a D := isNode.fr (F := [r]) (xfr.rf.up (Or.inl (by simp))) (xno1 hr2 (by decide)) nd
      refine x_hp (h' := xup h2 r (rdO ta na la ba p' o tc')) rfl ?_
      generalize xup h2 r (rdO ta na la ba p' o tc') = h3 at q3 nd3 ⊢
      obtain ⟨ea3, va3, es3, ln3, m3, R3, f3, u3, w3, g3⟩ := id q3
      refine x_aload_n d_Reader_readOpened_59 rfl rfl ?_
      refine x_ifnonnull (tgt := 65) d_Reader_readOpened_60 (by decide) ?_
      refine x_iload_n d_Reader_readOpened_65 rfl ?_
      refine x_if_eq (tgt := 78) d_Reader_readOpened_66 (by decide) (fun ht => absurd ht (by decide)) (fun _ => ?_)
      refine x_new xnw_Reader_125 (by omega) (by omega) d_Reader_readOpened_69 (fun y hn_y hk_y => ?_)
      refine x_dup d_Reader_readOpened_72 rfl ?_
      refine x_aload_n d_Reader_readOpened_73 rfl rfl ?_
      refine x_callI (As := [_]) xci_Reader_127 (c_Negation_init (by omega) xup_self) rfl rfl (Nat.le_of_ble_eq_true rfl) d_Reader_readOpened_74 ?_
      rintro v h4 c4 n4 ⟨rfl, rfl, rfl, rfl⟩
      refine x_aret d_Reader_readOpened_77 rfl rfl ?_
      rw [xup_up]
      have nd4 : isNode G (xup h3 y (k_Negation, [.ref a, .int 3])) (p' - (p + 3)) a D := isNode.fr (F := []) (xfr.rf.up (Or.inr hn_y)) (fun _ z => by cases z) nd3
      refine ⟨y, rfl, ?_, (q3.up (dc := 1) (dn := 2) hn_y).mono (by show _ ≤ 40 * (p' - p) - 36; omega) (by show _ ≤ 2000 * (p' - p) - 1900; omega)⟩
      exact isNode.mono (k := p' - (p + 3) + 1) (Or.inr (Or.inl ⟨a, D, xup_self, nd4, rfl⟩)) (by show _ ≤ p' - p; omega)
  | false =>
    have hp : p + 1 ≤ t.length := hp
    refine x_aload_n d_Reader_readOpened_0 rfl rfl ?_
    refine x_dup d_Reader_readOpened_1 rfl ?_
    refine x_get xf_Reader_25_Reader (Or.inl hr) rfl d_Reader_readOpened_2 ?_
    refine x_iload_n d_Reader_readOpened_5 rfl ?_
    refine x_if_eq (tgt := 17) d_Reader_readOpened_6 (by decide) (fun _ => ?_) (fun hn => absurd rfl hn)
    refine x_iconst (v := 1) d_Reader_readOpened_17 (by decide) ?_
    refine x_iadd d_Reader_readOpened_18 ?_
    refine x_top (w := .int (nI (p + 1))) (by rw [show (1 : Int32) = nI 1 from rfl, nI_add]) ?_
    refine x_put xf_Reader_25_Reader xp_Reader_4 rfl rfl hr rfl rfl d_Reader_readOpened_19 ?_
    refine x_aload_n d_Reader_readOpened_22 rfl rfl ?_
    refine x_dup d_Reader_readOpened_23 rfl ?_
    refine x_get xf_Reader_29_Reader (Or.inl xup_self) rfl d_Reader_readOpened_24 ?_
    refine x_iconst (v := 1) d_Reader_readOpened_27 (by decide) ?_
    refine x_iadd d_Reader_readOpened_28 ?_
    refine x_top (w := .int (nI (o + 1))) (by rw [show (1 : Int32) = nI 1 from rfl, nI_add]) ?_
    refine x_put xf_Reader_29_Reader xp_Reader_5 rfl rfl xup_self rfl rfl d_Reader_readOpened_29 ?_
    refine x_hp (h' := xup h r (rdO ta na la ba (p + 1) (o + 1) tc)) (by rw [xup_up]; rfl) ?_
    obtain ⟨va1, m1, R1, f1, w1, g1⟩ := hR.ofR (pR.ofU (c := c) (n := n) (e := rdO ta na la ba (p + 1) (o + 1) tc) hr hB hm)
    obtain ⟨hr1, -⟩ := id R1
    have hg := hgJ (p + 1) tc ts hp h1 h2
    have hX := hJ _ c n d r ta na la ba ea va1 (p + 1) tc m1 es ts ln (by omega) R1 hp h1 h2 g1.2.1 (by omega) (by omega)
    rcases hFe : J (p + 1, tc, ts) with ⟨⟨p', tc', ts'⟩, oD⟩
    rw [hFe] at hg hX
    have hg1 : p + 1 ≤ p' := hg.1
    have hg3 : p' ≤ t.length := hg.2.1
    cases oD with
    | none =>
      rw [show rOp t F J false (p, tc, ts) = ((p', tc', ts'), none) from rOp_fn hFe]
      refine x_iload_n d_Reader_readOpened_32 rfl ?_
      refine x_if_eq (tgt := 43) d_Reader_readOpened_33 (by decide) (fun _ => ?_) (fun hn => absurd rfl hn)
      refine x_aload_n d_Reader_readOpened_43 rfl rfl ?_
      refine x_iconst (v := 1) d_Reader_readOpened_44 (by decide) ?_
      refine x_callV (As := [_]) (k := k_Reader) rfl xcv_Reader_45_Reader (Or.inl hr1) hX rfl rfl (Nat.le_of_ble_eq_true rfl) d_Reader_readOpened_45 ?_
      intro v h2 c2 n2 hv
      obtain ⟨rfl, q2⟩ : v = some .null ∧ pT G (40 * (p' - (p + 1)) + 40) (2000 * (p' - (p + 1)) + 2000) K r ta na la ba t as kas Ns ea va1 p' (o + 1) tc' ts' m1 _ c n h2 c2 n2 := hv
      obtain ⟨ea2, va2, es2, ln2, m2, R2, f2, u2, w2, g2⟩ := pT.tr R1 (f1.mono (by simp)) (Or.inl rfl) w1 g1 q2
      obtain ⟨hr2, hS2, hNs2, hLi2, hT2, hB2⟩ := id R2
      refine x_astore_n (L' := [_, _, _]) d_Reader_readOpened_48 rfl rfl rfl ?_
      refine x_aload_n d_Reader_readOpened_49 rfl rfl ?_
      refine x_dup d_Reader_readOpened_50 rfl ?_
      refine x_get xf_Reader_29_Reader (Or.inl hr2) rfl d_Reader_readOpened_51 ?_
      refine x_iconst (v := 1) d_Reader_readOpened_54 (by decide) ?_
      refine x_isub d_Reader_readOpened_55 ?_
      refine x_top (w := .int (nI o)) (by rw [show (1 : Int32) = nI 1 from rfl, pk_sub (by omega)]; rfl) ?_
      refine x_put xf_Reader_29_Reader xp_Reader_5 rfl rfl hr2 rfl rfl d_Reader_readOpened_56 ?_
      have q3 := pT.tr R2 f2 u2 w2 g2 (pT.ofR R2 (pR.ofU (c := c2) (n := n2) (e := rdO ta na la ba p' o tc') hr2 hB2 g2.2.1))
      refine x_aload_n d_Reader_readOpened_59 rfl rfl ?_
      refine x_ifnonnullN d_Reader_readOpened_60 ?_
      refine x_null d_Reader_readOpened_63 ?_
      refine x_aret d_Reader_readOpened_64 rfl rfl ?_
      exact ⟨rfl, q3.mono (by show _ ≤ 40 * (p' - p); omega) (by show _ ≤ 2000 * (p' - p); omega)⟩
    | some D =>
      have hg6 : p + 1 < p' := (hg.2.2.2.2 D rfl).1
      have h3 := skp_le hg3
      have h4 : p' ≤ skp t p' := scn_ge
      refine x_iload_n d_Reader_readOpened_32 rfl ?_
      refine x_if_eq (tgt := 43) d_Reader_readOpened_33 (by decide) (fun _ => ?_) (fun hn => absurd rfl hn)
      refine x_aload_n d_Reader_readOpened_43 rfl rfl ?_
      refine x_iconst (v := 1) d_Reader_readOpened_44 (by decide) ?_
      refine x_callV (As := [_]) (k := k_Reader) rfl xcv_Reader_45_Reader (Or.inl hr1) hX rfl rfl (Nat.le_of_ble_eq_true rfl) d_Reader_readOpened_45 ?_
      intro v h2 c2 n2 hv
      obtain ⟨a, rfl, nd, q2⟩ : ∃ a, v = some (.ref a) ∧ isNode G h2 (p' - (p + 1)) a D ∧ pT G (40 * (p' - (p + 1))) (2000 * (p' - (p + 1))) K r ta na la ba t as kas Ns ea va1 p' (o + 1) tc' ts' m1 _ c n h2 c2 n2 := hv
      obtain ⟨ea2, va2, es2, ln2, m2, R2, f2, u2, w2, g2⟩ := pT.tr R1 (f1.mono (by simp)) (Or.inl rfl) w1 g1 q2
      obtain ⟨hr2, hS2, hNs2, hLi2, hT2, hB2⟩ := id R2
      refine x_astore_n (L' := [_, _, _]) d_Reader_readOpened_48 rfl rfl rfl ?_
      refine x_aload_n d_Reader_readOpened_49 rfl rfl ?_
      refine x_dup d_Reader_readOpened_50 rfl ?_
      refine x_get xf_Reader_29_Reader (Or.inl hr2) rfl d_Reader_readOpened_51 ?_
      refine x_iconst (v := 1) d_Reader_readOpened_54 (by decide) ?_
      refine x_isub d_Reader_readOpened_55 ?_
      refine x_top (w := .int (nI o)) (by rw [show (1 : Int32) = nI 1 from rfl, pk_sub (by omega)]; rfl) ?_
      refine x_put xf_Reader_29_Reader xp_Reader_5 rfl rfl hr2 rfl rfl d_Reader_readOpened_56 ?_
      have q3 := pT.tr R2 f2 u2 w2 g2 (pT.ofR R2 (pR.ofU (c := c2) (n := n2) (e := rdO ta na la ba p' o tc') hr2 hB2 g2.2.1))
      have nd3 : isNode G (xup h2 r (rdO ta na la ba p' o tc')) (p' - (p + 1)) a D := isNode.fr (F := [r]) (xfr.rf.up (Or.inl (by simp))) (xno1 hr2 (by decide)) nd
      refine x_hp (h' := xup h2 r (rdO ta na la ba p' o tc')) rfl ?_
      generalize xup h2 r (rdO ta na la ba p' o tc') = h3' at q3 nd3 ⊢
      obtain ⟨ea3, va3, es3, ln3, m3, R3, f3, u3, w3, g3⟩ := id q3
      obtain ⟨hr3, hS3, hNs3, hLi3, hT3, hB3⟩ := id R3
      refine x_aload_n d_Reader_readOpened_59 rfl rfl ?_
      refine x_ifnonnull (tgt := 65) d_Reader_readOpened_60 (by decide) ?_
      refine x_iload_n d_Reader_readOpened_65 rfl ?_
      refine x_if_eq (tgt := 78) d_Reader_readOpened_66 (by decide) (fun _ => ?_) (fun hn => absurd rfl hn)
      refine x_aload_n d_Reader_readOpened_78 rfl rfl ?_
      refine x_bipush (v := 41) d_Reader_readOpened_79 (by decide) ?_
      refine x_callV (As := [_]) (k := k_Reader) rfl xcv_Reader_130_Reader (Or.inl hr3) (c_takesSign (ch := 41) hG (by omega) hr3 hS3 (by omega) hg3 (by decide)) rfl rfl (Nat.le_of_ble_eq_true rfl) d_Reader_readOpened_81 ?_
      rintro v h4' c4 n4 ⟨rfl, rfl, rfl, rfl⟩
      have q4 := pT.tr R3 f3 u3 w3 g3 (pT.ofR R3 (pR.ofU (c := c4) (n := n4) (e := rdO ta na la ba (tkS t p' 41) o tc') hr3 hB3 g3.2.1))
      have nd4 : isNode G (xup h3' r (rdO ta na la ba (tkS t p' 41) o tc')) (p' - (p + 1)) a D := isNode.fr (F := [r]) (xfr.rf.up (Or.inl (by simp))) (xno1 hr3 (by decide)) nd3
      by_cases h41 : chr t (skp t p') = 41
      · rw [show tkS t p' 41 = skp t p' + 1 from if_pos h41] at q4 nd4 ⊢
        rw [show rOp t F J false (p, tc, ts) = ((skp t p' + 1, tc', ts'), some D) from (rOp_f hFe).trans (if_pos h41)]
        refine x_if_eq (tgt := 91) d_Reader_readOpened_84 (by decide) (fun ht => absurd ht (by rw [decide_eq_true h41]; decide)) (fun _ => ?_)
        refine x_aload_n d_Reader_readOpened_87 rfl rfl ?_
        refine x_goto (tgt := 92) d_Reader_readOpened_88 (by decide) ?_
        refine x_aret d_Reader_readOpened_92 rfl rfl ?_
        exact ⟨a, rfl, nd4.mono (by show _ ≤ skp t p' + 1 - p; omega), q4.mono (by show _ ≤ 40 * (skp t p' + 1 - p) - 36; omega) (by show _ ≤ 2000 * (skp t p' + 1 - p) - 1900; omega)⟩
      · rw [show tkS t p' 41 = skp t p' from if_neg h41] at q4 nd4 ⊢
        rw [show rOp t F J false (p, tc, ts) = ((skp t p', tc', ts'), none) from (rOp_f hFe).trans (if_neg h41)]
        refine x_if_eq (tgt := 91) d_Reader_readOpened_84 (by decide) (fun _ => ?_) (fun hn => absurd (by rw [decide_eq_false h41]; rfl) hn)
        refine x_null d_Reader_readOpened_91 ?_
        refine x_aret d_Reader_readOpened_92 rfl rfl ?_
        exact ⟨rfl, q4.mono (by show _ ≤ 40 * (skp t p' - p); omega) (by show _ ≤ 2000 * (skp t p' - p); omega)⟩
end RE2
