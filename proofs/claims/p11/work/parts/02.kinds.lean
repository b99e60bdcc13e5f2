section XK
/-- which words go along when the tables warm -/
def xgw (w : Cond) : Bool := (w.onTables && w.keeps) || match w with
  | .arrayClass _ => true
  | .fieldLinkNest _ _ _ _ _ _ => true
  | .methodLinkNest _ _ _ _ => true
  | .declares _ => true
  | .castable _ _ => true
  | .arrayOver (.object _) => true
  | _ => false
/-- the words of the tables that a contract carries -/
def xok (w : Cond) : Bool := match w with
  | .arrayClass _ => true
  | .arrayOver (.object _) => true
  | w => w.onTables && xgw w
/-- private methods of a superclass: a receiver of the subclass selects them too -/
def xpriv : List (String × MethodName × MethodName) := [("java/lang/StringBuilder", ⟨"java/lang/AbstractStringBuilder", "isLatin1", "()Z"⟩, ⟨"java/lang/AbstractStringBuilder", "ensureCapacityInternal", "(I)V"⟩), ("java/lang/StringBuilder", ⟨"java/lang/AbstractStringBuilder", "isLatin1", "()Z"⟩, ⟨"java/lang/AbstractStringBuilder", "newCapacity", "(I)I"⟩), ("java/lang/StringBuilder", ⟨"java/lang/AbstractStringBuilder", "isLatin1", "()Z"⟩, ⟨"java/lang/AbstractStringBuilder", "inflate", "()V"⟩), ("java/lang/StringBuilder", ⟨"java/lang/AbstractStringBuilder", "isLatin1", "()Z"⟩, ⟨"java/lang/AbstractStringBuilder", "appendNull", "()Ljava/lang/AbstractStringBuilder;"⟩), ("java/lang/StringBuilder", ⟨"java/lang/AbstractStringBuilder", "isLatin1", "()Z"⟩, ⟨"java/lang/AbstractStringBuilder", "putStringAt", "(ILjava/lang/String;)V"⟩), ("java/lang/StringBuilder", ⟨"java/lang/AbstractStringBuilder", "isLatin1", "()Z"⟩, ⟨"java/lang/AbstractStringBuilder", "inflateIfNeededFor", "(Ljava/lang/String;)V"⟩)]
def xpsel : List Cond := xpriv.map (fun q => Cond.selects q.1 q.2.2 q.2.2)
def xpok (q : String × MethodName × MethodName) : Prop := q.2.1.cls = q.2.2.cls ∧ (q.2.2.cls ≠ "java/lang/invoke/MethodHandle" ∧ q.2.2.cls ≠ "java/lang/invoke/VarHandle") ∧ Cond.selects q.1 q.2.1 q.2.1 ∈ tables_1 ∧ Cond.privateMethod q.2.2 ∈ tables_1 ∧ Cond.instanceMethod q.2.2 ∈ tables_1
theorem xpp0 : xpok ("java/lang/StringBuilder", ⟨"java/lang/AbstractStringBuilder", "isLatin1", "()Z"⟩, ⟨"java/lang/AbstractStringBuilder", "ensureCapacityInternal", "(I)V"⟩) := ⟨rfl, ⟨by decide, by decide⟩, List.mem_of_getElem? (i := 224) (by decide +kernel), List.mem_of_getElem? (i := 187) (by decide +kernel), List.mem_of_getElem? (i := 188) (by decide +kernel)⟩
theorem xpp1 : xpok ("java/lang/StringBuilder", ⟨"java/lang/AbstractStringBuilder", "isLatin1", "()Z"⟩, ⟨"java/lang/AbstractStringBuilder", "newCapacity", "(I)I"⟩) := ⟨rfl, ⟨by decide, by decide⟩, List.mem_of_getElem? (i := 224) (by decide +kernel), List.mem_of_getElem? (i := 191) (by decide +kernel), List.mem_of_getElem? (i := 192) (by decide +kernel)⟩
theorem xpp2 : xpok ("java/lang/StringBuilder", ⟨"java/lang/AbstractStringBuilder", "isLatin1", "()Z"⟩, ⟨"java/lang/AbstractStringBuilder", "inflate", "()V"⟩) := ⟨rfl, ⟨by decide, by decide⟩, List.mem_of_getElem? (i := 224) (by decide +kernel), List.mem_of_getElem? (i := 230) (by decide +kernel), List.mem_of_getElem? (i := 231) (by decide +kernel)⟩
theorem xpp3 : xpok ("java/lang/StringBuilder", ⟨"java/lang/AbstractStringBuilder", "isLatin1", "()Z"⟩, ⟨"java/lang/AbstractStringBuilder", "appendNull", "()Ljava/lang/AbstractStringBuilder;"⟩) := ⟨rfl, ⟨by decide, by decide⟩, List.mem_of_getElem? (i := 224) (by decide +kernel), List.mem_of_getElem? (i := 575) (by decide +kernel), List.mem_of_getElem? (i := 576) (by decide +kernel)⟩
theorem xpp4 : xpok ("java/lang/StringBuilder", ⟨"java/lang/AbstractStringBuilder", "isLatin1", "()Z"⟩, ⟨"java/lang/AbstractStringBuilder", "putStringAt", "(ILjava/lang/String;)V"⟩) := ⟨rfl, ⟨by decide, by decide⟩, List.mem_of_getElem? (i := 224) (by decide +kernel), List.mem_of_getElem? (i := 583) (by decide +kernel), List.mem_of_getElem? (i := 584) (by decide +kernel)⟩
theorem xpp5 : xpok ("java/lang/StringBuilder", ⟨"java/lang/AbstractStringBuilder", "isLatin1", "()Z"⟩, ⟨"java/lang/AbstractStringBuilder", "inflateIfNeededFor", "(Ljava/lang/String;)V"⟩) := ⟨rfl, ⟨by decide, by decide⟩, List.mem_of_getElem? (i := 224) (by decide +kernel), List.mem_of_getElem? (i := 587) (by decide +kernel), List.mem_of_getElem? (i := 588) (by decide +kernel)⟩
theorem xpriv_ok : ∀ q ∈ xpriv, xpok q := List.forall_mem_cons.mpr ⟨xpp0, List.forall_mem_cons.mpr ⟨xpp1, List.forall_mem_cons.mpr ⟨xpp2, List.forall_mem_cons.mpr ⟨xpp3, List.forall_mem_cons.mpr ⟨xpp4, List.forall_mem_cons.mpr ⟨xpp5, fun _ h => absurd h List.not_mem_nil⟩⟩⟩⟩⟩⟩
theorem xpsel_ok {args : Array Value} {s : State} (hts : ∀ w ∈ tables_1, w.before args s = true) : ∀ w ∈ xpsel, w.before args s = true := by
  intro w hw
  obtain ⟨q, hq, rfl⟩ := List.mem_map.mp hw
  obtain ⟨e, hy, h0, hp, hi⟩ := xpriv_ok q hq
  obtain ⟨mk, methM, hnamed, hmethM, -, -⟩ := Cond.instanceMethod_spec (hts _ hi)
  obtain ⟨c2, r2, m2, q1, q2, q3, q4, kP, hkP, hkPi⟩ := Cond.selects_spec (hts _ h0)
  have hfound : s.methodFound? q.2.2.cls q.2.2.name q.2.2.desc = some mk := State.methodFound?_of_named hnamed hy
  have hm2 : m2.cls = mk.cls := Option.some.inj ((findClass_of_methodNamed q3).symm.trans (by rw [e]; exact findClass_of_methodNamed hnamed))
  rw [hm2] at hkP
  have hsel : selectMethod {} s.vm c2 mk = .method mk := selectMethod_private hmethM (Cond.privateMethod_at (hts _ hp) mk methM hnamed hmethM)
  simp only [Cond.before, Cond.holds, Cond.value, q1, hfound, hnamed, hsel, hkP]
  simp; exact hkPi
def xT : List Cond := (xpsel ++ lw_tbl).filter xok
theorem xok_or {w : Cond} (h : xok w = true) : (w.onTables = true ∧ xgw w = true) ∨ (∃ ty, w = .arrayClass ty) ∨ ∃ C, w = .arrayOver (.object C) := by
  unfold xok at h
  split at h
  · exact Or.inr (Or.inl ⟨_, rfl⟩)
  · exact Or.inr (Or.inr ⟨_, rfl⟩)
  · exact Or.inl (Bool.and_eq_true_iff.mp h)
theorem xT_or {w : Cond} (h : w ∈ xT) : (w.onTables = true ∧ xgw w = true) ∨ (∃ ty, w = .arrayClass ty) ∨ ∃ C, w = .arrayOver (.object C) := xok_or (List.mem_filter.mp h).2
/-- a word at the same tables, whatever the arguments -/
theorem xT_same {w : Cond} (h : w ∈ xT) {s U : State} {a b : Array Value} (hv : s.vm = U.vm) (hw : w.before a s = true) : w.before b U = true := by
  rcases xT_or h with ⟨q, -⟩ | ⟨ty, rfl⟩ | ⟨C, rfl⟩
  · exact va_tabs q hv hw
  · exact word_at (by rw [← hv]; exact State.WarmedH.refl s) (Or.inr ⟨_, rfl⟩) hw
  · exact va_AO.moved (by rw [hv]; exact Vm.Alike.refl _) hw
theorem xT_tbl {w : Cond} (h : w ∈ tables_1) (hg : xok w = true) : w ∈ xT := List.mem_filter.mpr ⟨List.mem_append_right _ (List.mem_append_right _ h), hg⟩
theorem xT_ps {w : Cond} (h : w ∈ xpsel) (hg : xok w = true) : w ∈ xT := List.mem_filter.mpr ⟨List.mem_append_left _ h, hg⟩
theorem xT_at {w : Cond} (i : Nat) (h : tables_1[i]? = some w) (hg : xok w = true) : w ∈ xT := xT_tbl (List.mem_of_getElem? h) hg
theorem xT_sel {q : MethodName × Nat} (h : q ∈ lw_privs) (hg : xok (Cond.selects q.1.cls q.1 q.1) = true) : Cond.selects q.1.cls q.1 q.1 ∈ xT := List.mem_filter.mpr ⟨List.mem_append_right _ (List.mem_append_left _ (List.mem_map.mpr ⟨q, h, rfl⟩)), hg⟩
theorem xT_many (ps : List Nat) (ws : List Cond) (h : ws.map some = ps.map (fun i => tables_1[i]?)) (hg : ws.all xok = true) : ∀ w ∈ ws, w ∈ xT := by
  intro w hw
  refine xT_tbl ?_ (List.all_eq_true.mp hg w hw)
  have h1 : some w ∈ ps.map (fun i => tables_1[i]?) := by rw [← h]; exact List.mem_map.mpr ⟨w, hw, rfl⟩
  obtain ⟨i, -, hi⟩ := List.mem_map.mp h1
  exact List.mem_of_getElem? hi
abbrev R_MarkerText : String := "MarkerText"
def T_MarkerText : u_T := fun k => match k with
  | 0 => ("MarkerText", "text", "Ljava/lang/StringBuilder;", true)
  | 1 => ("MarkerText", "names", "[LMarkerText$Name;", true)
  | 2 => ("MarkerText", "nameCount", "I", false)
  | 3 => ("MarkerText", "conditions", "[LMarkerText$Condition;", true)
  | 4 => ("MarkerText", "conditionCount", "I", false)
  | 5 => ("MarkerText", "illPlace", "I", false)
  | 6 => ("MarkerText", "environment", "[J", true)
  | 7 => ("MarkerText", "choices", "LMarkerText$Choices;", true)
  | _ => ("MarkerText", "parting", "LMarkerText$Parting;", true)
abbrev k_MarkerText : Nat := 0
abbrev R_StringBuilder : String := "java/lang/StringBuilder"
def T_StringBuilder : u_T := fun k => match k with
  | 0 => ("java/lang/AbstractStringBuilder", "value", "[B", false)
  | 1 => ("java/lang/AbstractStringBuilder", "coder", "B", false)
  | 2 => ("java/lang/AbstractStringBuilder", "maybeLatin1", "Z", false)
  | _ => ("java/lang/AbstractStringBuilder", "count", "I", false)
abbrev k_StringBuilder : Nat := 1
abbrev R_Choices : String := "MarkerText$Choices"
def T_Choices : u_T := fun k => match k with
  | 0 => ("MarkerText$Choices", "values", "[J", true)
  | 1 => ("MarkerText$Choices", "used", "I", false)
  | 2 => ("MarkerText$Choices", "starts", "[I", true)
  | 3 => ("MarkerText$Choices", "samples", "[I", true)
  | 4 => ("MarkerText$Choices", "picks", "[I", true)
  | 5 => ("MarkerText$Choices", "levels", "[J", true)
  | _ => ("MarkerText$Choices", "count", "I", false)
abbrev k_Choices : Nat := 2
abbrev R_Parting : String := "MarkerText$Parting"
def T_Parting : u_T := fun k => match k with
  | 0 => ("MarkerText$Parting", "count", "I", false)
  | 1 => ("MarkerText$Parting", "truths", "[I", true)
  | 2 => ("MarkerText$Parting", "sizes", "[I", true)
  | 3 => ("MarkerText$Parting", "firsts", "[I", true)
  | 4 => ("MarkerText$Parting", "classOfTruths", "[I", true)
  | _ => ("MarkerText$Parting", "samples", "[I", true)
abbrev k_Parting : Nat := 3
abbrev R_String : String := "java/lang/String"
def T_String : u_T := fun k => match k with
  | 0 => ("java/lang/String", "value", "[B", true)
  | 1 => ("java/lang/String", "coder", "B", true)
  | 2 => ("java/lang/String", "hash", "I", false)
  | _ => ("java/lang/String", "hashIsZero", "Z", false)
abbrev k_String : Nat := 4
abbrev R_IllegalArgumentException : String := "java/lang/IllegalArgumentException"
def T_IllegalArgumentException : u_T := fun k => match k with
  | 0 => ("java/lang/Throwable", "cause", "Ljava/lang/Throwable;", false)
  | 1 => ("java/lang/Throwable", "stackTrace", "[Ljava/lang/StackTraceElement;", false)
  | 2 => ("java/lang/Throwable", "suppressedExceptions", "Ljava/util/List;", false)
  | 3 => ("java/lang/Throwable", "detailMessage", "Ljava/lang/String;", false)
  | 4 => ("java/lang/Throwable", "backtrace", "Ljava/lang/Object;", false)
  | _ => ("java/lang/Throwable", "depth", "I", false)
abbrev k_IllegalArgumentException : Nat := 5
abbrev R_IllegalStateException : String := "java/lang/IllegalStateException"
def T_IllegalStateException : u_T := fun k => match k with
  | 0 => ("java/lang/Throwable", "cause", "Ljava/lang/Throwable;", false)
  | 1 => ("java/lang/Throwable", "stackTrace", "[Ljava/lang/StackTraceElement;", false)
  | 2 => ("java/lang/Throwable", "suppressedExceptions", "Ljava/util/List;", false)
  | 3 => ("java/lang/Throwable", "detailMessage", "Ljava/lang/String;", false)
  | 4 => ("java/lang/Throwable", "backtrace", "Ljava/lang/Object;", false)
  | _ => ("java/lang/Throwable", "depth", "I", false)
abbrev k_IllegalStateException : Nat := 6
abbrev R_Name : String := "MarkerText$Name"
def T_Name : u_T := fun k => match k with
  | 0 => ("MarkerText$Name", "spelling", "Ljava/lang/String;", true)
  | 1 => ("MarkerText$Name", "kind", "I", true)
  | 2 => ("MarkerText$Name", "known", "[J", true)
  | _ => ("MarkerText$Name", "knownCount", "I", false)
abbrev k_Name : Nat := 7
abbrev R_Reader : String := "MarkerText$Reader"
def T_Reader : u_T := fun k => match k with
  | 0 => ("MarkerText$Reader", "text", "Ljava/lang/String;", true)
  | 1 => ("MarkerText$Reader", "names", "[LMarkerText$Name;", true)
  | 2 => ("MarkerText$Reader", "tests", "Ljava/util/ArrayList;", true)
  | 3 => ("MarkerText$Reader", "line", "Ljava/lang/StringBuilder;", true)
  | 4 => ("MarkerText$Reader", "at", "I", false)
  | 5 => ("MarkerText$Reader", "open", "I", false)
  | _ => ("MarkerText$Reader", "testCount", "I", false)
abbrev k_Reader : Nat := 8
abbrev R_ArrayList : String := "java/util/ArrayList"
def T_ArrayList : u_T := fun k => match k with
  | 0 => ("java/util/ArrayList", "elementData", "[Ljava/lang/Object;", false)
  | 1 => ("java/util/ArrayList", "size", "I", false)
  | _ => ("java/util/AbstractList", "modCount", "I", false)
abbrev k_ArrayList : Nat := 9
abbrev R_Negation : String := "MarkerText$Negation"
def T_Negation : u_T := fun k => match k with
  | 0 => ("MarkerText$Negation", "inner", "LMarkerText$Node;", true)
  | _ => ("MarkerText$Node", "strength", "I", true)
abbrev k_Negation : Nat := 10
abbrev R_Constant : String := "MarkerText$Constant"
def T_Constant : u_T := fun k => match k with
  | 0 => ("MarkerText$Constant", "truth", "Z", true)
  | _ => ("MarkerText$Node", "strength", "I", true)
abbrev k_Constant : Nat := 11
abbrev R_Test : String := "MarkerText$Test"
def T_Test : u_T := fun k => match k with
  | 0 => ("MarkerText$Test", "name", "I", true)
  | 1 => ("MarkerText$Test", "accepted", "I", true)
  | 2 => ("MarkerText$Test", "values", "[J", true)
  | 3 => ("MarkerText$Test", "shown", "Ljava/lang/String;", true)
  | _ => ("MarkerText$Node", "strength", "I", true)
abbrev k_Test : Nat := 12
abbrev R_Join : String := "MarkerText$Join"
def T_Join : u_T := fun k => match k with
  | 0 => ("MarkerText$Join", "first", "LMarkerText$Node;", true)
  | 1 => ("MarkerText$Join", "second", "LMarkerText$Node;", true)
  | _ => ("MarkerText$Node", "strength", "I", true)
abbrev k_Join : Nat := 13
abbrev R_Condition : String := "MarkerText$Condition"
def T_Condition : u_T := fun k => match k with
  | 0 => ("MarkerText$Condition", "root", "LMarkerText$Node;", true)
  | 1 => ("MarkerText$Condition", "tests", "Ljava/util/ArrayList;", true)
  | _ => ("MarkerText$Condition", "shown", "Ljava/lang/String;", true)
abbrev k_Condition : Nat := 14
abbrev R_MarkerTextModel : String := "MarkerTextModel"
def T_MarkerTextModel : u_T := fun k => match k with
  | 0 => ("MarkerTextModel", "thrown", "I", false)
  | 1 => ("MarkerTextModel", "text", "[I", true)
  | 2 => ("MarkerTextModel", "size", "I", false)
  | 3 => ("MarkerTextModel", "names", "I", false)
  | 4 => ("MarkerTextModel", "letters", "[I", true)
  | 5 => ("MarkerTextModel", "lengths", "[I", true)
  | 6 => ("MarkerTextModel", "kinds", "[I", true)
  | 7 => ("MarkerTextModel", "knownMany", "[I", true)
  | 8 => ("MarkerTextModel", "known", "[J", true)
  | 9 => ("MarkerTextModel", "given", "[Z", true)
  | 10 => ("MarkerTextModel", "gives", "[J", true)
  | 11 => ("MarkerTextModel", "conditions", "I", false)
  | 12 => ("MarkerTextModel", "nodeKinds", "[I", true)
  | 13 => ("MarkerTextModel", "lefts", "[I", true)
  | 14 => ("MarkerTextModel", "rights", "[I", true)
  | 15 => ("MarkerTextModel", "nodes", "[I", true)
  | 16 => ("MarkerTextModel", "tops", "[I", true)
  | 17 => ("MarkerTextModel", "testNames", "[I", true)
  | 18 => ("MarkerTextModel", "operators", "[I", true)
  | 19 => ("MarkerTextModel", "firsts", "[I", true)
  | 20 => ("MarkerTextModel", "manies", "[I", true)
  | 21 => ("MarkerTextModel", "tests", "[I", true)
  | 22 => ("MarkerTextModel", "keys", "[J", true)
  | 23 => ("MarkerTextModel", "written", "[I", true)
  | 24 => ("MarkerTextModel", "writtenSizes", "[I", true)
  | 25 => ("MarkerTextModel", "places", "[I", true)
  | 26 => ("MarkerTextModel", "values", "[I", true)
  | 27 => ("MarkerTextModel", "at", "I", false)
  | 28 => ("MarkerTextModel", "slot", "I", false)
  | 29 => ("MarkerTextModel", "wrong", "I", false)
  | 30 => ("MarkerTextModel", "place", "I", false)
  | 31 => ("MarkerTextModel", "piles", "[I", true)
  | 32 => ("MarkerTextModel", "pile", "I", false)
  | 33 => ("MarkerTextModel", "opens", "I", false)
  | 34 => ("MarkerTextModel", "ready", "[I", true)
  | 35 => ("MarkerTextModel", "readyMany", "I", false)
  | 36 => ("MarkerTextModel", "key", "J", false)
  | 37 => ("MarkerTextModel", "sorted", "[J", true)
  | 38 => ("MarkerTextModel", "many", "[I", true)
  | 39 => ("MarkerTextModel", "asked", "[Z", true)
  | 40 => ("MarkerTextModel", "choice", "[I", true)
  | 41 => ("MarkerTextModel", "truths", "[Z", true)
  | 42 => ("MarkerTextModel", "classes", "I", false)
  | 43 => ("MarkerTextModel", "classSet", "I", false)
  | 44 => ("MarkerTextModel", "classNames", "I", false)
  | 45 => ("MarkerTextModel", "classBits", "[I", true)
  | 46 => ("MarkerTextModel", "classMany", "[I", true)
  | 47 => ("MarkerTextModel", "classSamples", "[I", true)
  | 48 => ("MarkerTextModel", "print", "[I", true)
  | 49 => ("MarkerTextModel", "printed", "I", false)
  | 50 => ("MarkerTextModel", "todo", "[I", true)
  | _ => ("MarkerTextModel", "todoMany", "I", false)
abbrev k_MarkerTextModel : Nat := 15
abbrev k_abyte : Nat := 16
abbrev k_aint : Nat := 17
abbrev k_along : Nat := 18
abbrev k_aboolean : Nat := 19
abbrev k_aName : Nat := 20
abbrev k_aCondition : Nat := 21
abbrev k_aObject : Nat := 22
abbrev k_asbyte : Nat := 23
abbrev k_aenv : Nat := 24
abbrev k_aknown : Nat := 25
abbrev k_avals : Nat := 26
abbrev k_achv : Nat := 27
abbrev k_achl : Nat := 28
abbrev k_astarts : Nat := 29
abbrev k_asamples : Nat := 30
abbrev k_apicks : Nat := 31
abbrev k_aptr : Nat := 32
abbrev k_apsz : Nat := 33
abbrev k_apfi : Nat := 34
abbrev k_apcl : Nat := 35
abbrev k_apsa : Nat := 36
abbrev k_ar1 : Nat := 37
abbrev k_ar4 : Nat := 38
abbrev k_ar5 : Nat := 39
abbrev k_ar6 : Nat := 40
abbrev k_ar7 : Nat := 41
abbrev k_ar8 : Nat := 42
abbrev k_ar9 : Nat := 43
abbrev k_ar10 : Nat := 44
abbrev k_ar12 : Nat := 45
abbrev k_ar13 : Nat := 46
abbrev k_ar14 : Nat := 47
abbrev k_ar15 : Nat := 48
abbrev k_ar16 : Nat := 49
abbrev k_ar17 : Nat := 50
abbrev k_ar18 : Nat := 51
abbrev k_ar19 : Nat := 52
abbrev k_ar20 : Nat := 53
abbrev k_ar21 : Nat := 54
abbrev k_ar22 : Nat := 55
abbrev k_ar23 : Nat := 56
abbrev k_ar24 : Nat := 57
abbrev k_ar25 : Nat := 58
abbrev k_ar26 : Nat := 59
abbrev k_ar31 : Nat := 60
abbrev k_ar34 : Nat := 61
abbrev k_ar37 : Nat := 62
abbrev k_ar38 : Nat := 63
abbrev k_ar39 : Nat := 64
abbrev k_ar40 : Nat := 65
abbrev k_ar41 : Nat := 66
abbrev k_ar45 : Nat := 67
abbrev k_ar46 : Nat := 68
abbrev k_ar47 : Nat := 69
abbrev k_ar48 : Nat := 70
abbrev k_ar50 : Nat := 71
/-- the kinds of the reference's arrays -/
abbrev xrk : List Nat := [k_ar1, k_ar4, k_ar5, k_ar6, k_ar7, k_ar8, k_ar9, k_ar10, k_ar12, k_ar13, k_ar14, k_ar15, k_ar16, k_ar17, k_ar18, k_ar19, k_ar20, k_ar21, k_ar22, k_ar23, k_ar24, k_ar25, k_ar26, k_ar31, k_ar34, k_ar37, k_ar38, k_ar39, k_ar40, k_ar41, k_ar45, k_ar46, k_ar47, k_ar48, k_ar50]
def xk : List (vw_C ⊕ FieldType) := [.inl (R_MarkerText, T_MarkerText, 9), .inl (R_StringBuilder, T_StringBuilder, 4), .inl (R_Choices, T_Choices, 7), .inl (R_Parting, T_Parting, 6), .inl (R_String, T_String, 4), .inl (R_IllegalArgumentException, T_IllegalArgumentException, 6), .inl (R_IllegalStateException, T_IllegalStateException, 6), .inl (R_Name, T_Name, 4), .inl (R_Reader, T_Reader, 7), .inl (R_ArrayList, T_ArrayList, 3), .inl (R_Negation, T_Negation, 2), .inl (R_Constant, T_Constant, 2), .inl (R_Test, T_Test, 5), .inl (R_Join, T_Join, 3), .inl (R_Condition, T_Condition, 3), .inl (R_MarkerTextModel, T_MarkerTextModel, 52), .inr (.byte), .inr (.int), .inr (.long), .inr (.boolean), .inr (.object "MarkerText$Name"), .inr (.object "MarkerText$Condition"), .inr (.object "java/lang/Object"), .inr (.byte), .inr (.long), .inr (.long), .inr (.long), .inr (.long), .inr (.long), .inr (.int), .inr (.int), .inr (.int), .inr (.int), .inr (.int), .inr (.int), .inr (.int), .inr (.int), .inr (.int), .inr (.int), .inr (.int), .inr (.int), .inr (.int), .inr (.long), .inr (.boolean), .inr (.long), .inr (.int), .inr (.int), .inr (.int), .inr (.int), .inr (.int), .inr (.int), .inr (.int), .inr (.int), .inr (.int), .inr (.int), .inr (.long), .inr (.int), .inr (.int), .inr (.int), .inr (.int), .inr (.int), .inr (.int), .inr (.long), .inr (.int), .inr (.boolean), .inr (.int), .inr (.boolean), .inr (.int), .inr (.int), .inr (.int), .inr (.int), .inr (.int)]
def xkP : vw_C ⊕ FieldType → Prop
  | .inl q => (∀ w ∈ u_ws q.1 q.2.1 q.2.2, w ∈ xT) ∧ (∀ j, j < q.2.2 → (parseFieldDescriptor (q.2.1 j).2.2.1).isSome = true) ∧ (∀ a, a < q.2.2 → ∀ b, b < q.2.2 → a ≠ b → (q.2.1 a).2.1 ≠ (q.2.1 b).2.1)
  | .inr _ => True
theorem xkp_MarkerText : xkP (.inl (R_MarkerText, T_MarkerText, 9)) := ⟨xT_many [149, 151, 153, 155, 157, 159, 161, 163, 165] _ (by decide +kernel) (by decide +kernel), by decide +kernel, by decide +kernel⟩
theorem xkp_StringBuilder : xkP (.inl (R_StringBuilder, T_StringBuilder, 4)) := ⟨xT_many [65, 67, 69, 71] _ (by decide +kernel) (by decide +kernel), by decide +kernel, by decide +kernel⟩
theorem xkp_Choices : xkP (.inl (R_Choices, T_Choices, 7)) := ⟨xT_many [95, 97, 99, 101, 103, 105, 107] _ (by decide +kernel) (by decide +kernel), by decide +kernel, by decide +kernel⟩
theorem xkp_Parting : xkP (.inl (R_Parting, T_Parting, 6)) := ⟨xT_many [127, 129, 131, 133, 135, 137] _ (by decide +kernel) (by decide +kernel), by decide +kernel, by decide +kernel⟩
theorem xkp_String : xkP (.inl (R_String, T_String, 4)) := ⟨xT_many [635, 637, 639, 641] _ (by decide +kernel) (by decide +kernel), by decide +kernel, by decide +kernel⟩
theorem xkp_IllegalArgumentException : xkP (.inl (R_IllegalArgumentException, T_IllegalArgumentException, 6)) := ⟨xT_many [501, 503, 505, 507, 509, 619] _ (by decide +kernel) (by decide +kernel), by decide +kernel, by decide +kernel⟩
theorem xkp_IllegalStateException : xkP (.inl (R_IllegalStateException, T_IllegalStateException, 6)) := ⟨xT_many [702, 703, 704, 705, 706, 712] _ (by decide +kernel) (by decide +kernel), by decide +kernel, by decide +kernel⟩
theorem xkp_Name : xkP (.inl (R_Name, T_Name, 4)) := ⟨xT_many [728, 730, 732, 734] _ (by decide +kernel) (by decide +kernel), by decide +kernel, by decide +kernel⟩
theorem xkp_Reader : xkP (.inl (R_Reader, T_Reader, 7)) := ⟨xT_many [865, 867, 869, 871, 873, 875, 877] _ (by decide +kernel) (by decide +kernel), by decide +kernel, by decide +kernel⟩
theorem xkp_ArrayList : xkP (.inl (R_ArrayList, T_ArrayList, 3)) := ⟨xT_many [848, 850, 852] _ (by decide +kernel) (by decide +kernel), by decide +kernel, by decide +kernel⟩
theorem xkp_Negation : xkP (.inl (R_Negation, T_Negation, 2)) := ⟨xT_many [951, 953] _ (by decide +kernel) (by decide +kernel), by decide +kernel, by decide +kernel⟩
theorem xkp_Constant : xkP (.inl (R_Constant, T_Constant, 2)) := ⟨xT_many [970, 972] _ (by decide +kernel) (by decide +kernel), by decide +kernel, by decide +kernel⟩
theorem xkp_Test : xkP (.inl (R_Test, T_Test, 5)) := ⟨xT_many [1025, 1027, 1029, 1031, 1033] _ (by decide +kernel) (by decide +kernel), by decide +kernel, by decide +kernel⟩
theorem xkp_Join : xkP (.inl (R_Join, T_Join, 3)) := ⟨xT_many [1093, 1095, 1097] _ (by decide +kernel) (by decide +kernel), by decide +kernel, by decide +kernel⟩
theorem xkp_Condition : xkP (.inl (R_Condition, T_Condition, 3)) := ⟨xT_many [1147, 1149, 1151] _ (by decide +kernel) (by decide +kernel), by decide +kernel, by decide +kernel⟩
theorem xkp_MarkerTextModel : xkP (.inl (R_MarkerTextModel, T_MarkerTextModel, 52)) := ⟨xT_many [1222, 1224, 1226, 1228, 1230, 1232, 1234, 1236, 1238, 1240, 1242, 1244, 1246, 1248, 1250, 1252, 1254, 1256, 1258, 1260, 1262, 1264, 1266, 1268, 1270, 1272, 1274, 1276, 1278, 1280, 1282, 1284, 1286, 1288, 1290, 1292, 1294, 1296, 1298, 1300, 1302, 1304, 1306, 1308, 1310, 1312, 1314, 1316, 1318, 1320, 1322, 1324] _ (by decide +kernel) (by decide +kernel), by decide +kernel, by decide +kernel⟩
theorem xk_all : ∀ e ∈ xk, xkP e := List.forall_mem_cons.mpr ⟨xkp_MarkerText, List.forall_mem_cons.mpr ⟨xkp_StringBuilder, List.forall_mem_cons.mpr ⟨xkp_Choices, List.forall_mem_cons.mpr ⟨xkp_Parting, List.forall_mem_cons.mpr ⟨xkp_String, List.forall_mem_cons.mpr ⟨xkp_IllegalArgumentException, List.forall_mem_cons.mpr ⟨xkp_IllegalStateException, List.forall_mem_cons.mpr ⟨xkp_Name, List.forall_mem_cons.mpr ⟨xkp_Reader, List.forall_mem_cons.mpr ⟨xkp_ArrayList, List.forall_mem_cons.mpr ⟨xkp_Negation, List.forall_mem_cons.mpr ⟨xkp_Constant, List.forall_mem_cons.mpr ⟨xkp_Test, List.forall_mem_cons.mpr ⟨xkp_Join, List.forall_mem_cons.mpr ⟨xkp_Condition, List.forall_mem_cons.mpr ⟨xkp_MarkerTextModel, List.forall_mem_cons.mpr ⟨trivial, List.forall_mem_cons.mpr ⟨trivial, List.forall_mem_cons.mpr ⟨trivial, List.forall_mem_cons.mpr ⟨trivial, List.forall_mem_cons.mpr ⟨trivial, List.forall_mem_cons.mpr ⟨trivial, List.forall_mem_cons.mpr ⟨trivial, List.forall_mem_cons.mpr ⟨trivial, List.forall_mem_cons.mpr ⟨trivial, List.forall_mem_cons.mpr ⟨trivial, List.forall_mem_cons.mpr ⟨trivial, List.forall_mem_cons.mpr ⟨trivial, List.forall_mem_cons.mpr ⟨trivial, List.forall_mem_cons.mpr ⟨trivial, List.forall_mem_cons.mpr ⟨trivial, List.forall_mem_cons.mpr ⟨trivial, List.forall_mem_cons.mpr ⟨trivial, List.forall_mem_cons.mpr ⟨trivial, List.forall_mem_cons.mpr ⟨trivial, List.forall_mem_cons.mpr ⟨trivial, List.forall_mem_cons.mpr ⟨trivial, List.forall_mem_cons.mpr ⟨trivial, List.forall_mem_cons.mpr ⟨trivial, List.forall_mem_cons.mpr ⟨trivial, List.forall_mem_cons.mpr ⟨trivial, List.forall_mem_cons.mpr ⟨trivial, List.forall_mem_cons.mpr ⟨trivial, List.forall_mem_cons.mpr ⟨trivial, List.forall_mem_cons.mpr ⟨trivial, List.forall_mem_cons.mpr ⟨trivial, List.forall_mem_cons.mpr ⟨trivial, List.forall_mem_cons.mpr ⟨trivial, List.forall_mem_cons.mpr ⟨trivial, List.forall_mem_cons.mpr ⟨trivial, List.forall_mem_cons.mpr ⟨trivial, List.forall_mem_cons.mpr ⟨trivial, List.forall_mem_cons.mpr ⟨trivial, List.forall_mem_cons.mpr ⟨trivial, List.forall_mem_cons.mpr ⟨trivial, List.forall_mem_cons.mpr ⟨trivial, List.forall_mem_cons.mpr ⟨trivial, List.forall_mem_cons.mpr ⟨trivial, List.forall_mem_cons.mpr ⟨trivial, List.forall_mem_cons.mpr ⟨trivial, List.forall_mem_cons.mpr ⟨trivial, List.forall_mem_cons.mpr ⟨trivial, List.forall_mem_cons.mpr ⟨trivial, List.forall_mem_cons.mpr ⟨trivial, List.forall_mem_cons.mpr ⟨trivial, List.forall_mem_cons.mpr ⟨trivial, List.forall_mem_cons.mpr ⟨trivial, List.forall_mem_cons.mpr ⟨trivial, List.forall_mem_cons.mpr ⟨trivial, List.forall_mem_cons.mpr ⟨trivial, List.forall_mem_cons.mpr ⟨trivial, List.forall_mem_cons.mpr ⟨trivial, fun _ h => absurd h List.not_mem_nil⟩⟩⟩⟩⟩⟩⟩⟩⟩⟩⟩⟩⟩⟩⟩⟩⟩⟩⟩⟩⟩⟩⟩⟩⟩⟩⟩⟩⟩⟩⟩⟩⟩⟩⟩⟩⟩⟩⟩⟩⟩⟩⟩⟩⟩⟩⟩⟩⟩⟩⟩⟩⟩⟩⟩⟩⟩⟩⟩⟩⟩⟩⟩⟩⟩⟩⟩⟩⟩⟩⟩⟩
theorem xk_lay {k : Nat} {C : String} {T : u_T} {N : Nat} (h : xk[k]? = some (.inl (C, T, N))) : ∀ w ∈ u_ws C T N, w ∈ xT := (xk_all _ (List.mem_of_getElem? h)).1
theorem xk_ty {k : Nat} {C : String} {T : u_T} {N : Nat} (h : xk[k]? = some (.inl (C, T, N))) : ∀ j, j < N → ∃ ty, parseFieldDescriptor (T j).2.2.1 = some ty := fun j hj => Option.isSome_iff_exists.mp ((xk_all _ (List.mem_of_getElem? h)).2.1 j hj)
theorem xk_nm {k : Nat} {C : String} {T : u_T} {N : Nat} (h : xk[k]? = some (.inl (C, T, N))) : ∀ a, a < N → ∀ b, b < N → a ≠ b → (T a).2.1 ≠ (T b).2.1 := (xk_all _ (List.mem_of_getElem? h)).2.2
/-- the String constants: whose pool, which entry, the text, our number for it -/
def xStr : List (String × Nat × String × Nat) := [("java/util/Arrays", 337, " > ", 0), ("java/util/Arrays", 48, "fromIndex(", 1), ("java/util/Arrays", 57, ") > toIndex(", 2), ("java/util/Arrays", 59, ")", 3), ("MarkerText", 216, "or", 4), ("MarkerText", 222, "and", 5), ("MarkerText", 224, "not", 6), ("MarkerText", 226, "in", 7), ("MarkerText", 228, "true", 8), ("MarkerText", 230, "false", 9), ("MarkerText", 78, "no new name", 10), ("MarkerText", 83, "no such kind", 11), ("MarkerText", 87, "too many names", 12), ("MarkerText", 97, "no such name", 13), ("MarkerText$Name", 33, ".0123456789abcdefghijklmnopqrstuvwxyz", 14), ("MarkerText", 110, "no new value of the name's kind", 15), ("MarkerText", 115, "too many known values", 16), ("java/lang/StringLatin1", 151, "", 17), ("java/lang/StringUTF16", 295, "", 18), ("MarkerText$Reader", 95, "not", 19), ("MarkerText$Reader", 109, "true", 20), ("MarkerText$Reader", 111, "false", 21), ("MarkerText$Reader", 146, "in", 22), ("MarkerText$Reader", 176, ", ", 23), ("MarkerText$Reader", 79, "or", 24), ("MarkerText$Reader", 81, "and", 25), ("MarkerText$Constant", 13, "true", 26), ("MarkerText$Constant", 15, "false", 27), ("MarkerText$Negation", 17, "not ", 28), ("MarkerText$Join", 29, " or ", 29), ("MarkerText$Join", 31, " and ", 30), ("MarkerText", 133, "the text is ill", 31), ("MarkerText", 135, "too many conditions", 32), ("MarkerText", 141, "no value of the name's kind", 33)]
/-- the texts of the String constants, by their numbers -/
def xtx : Nat → List Nat
  | 0 => [32, 62, 32]
  | 1 => [102, 114, 111, 109, 73, 110, 100, 101, 120, 40]
  | 2 => [41, 32, 62, 32, 116, 111, 73, 110, 100, 101, 120, 40]
  | 3 => [41]
  | 4 => [111, 114]
  | 5 => [97, 110, 100]
  | 6 => [110, 111, 116]
  | 7 => [105, 110]
  | 8 => [116, 114, 117, 101]
  | 9 => [102, 97, 108, 115, 101]
  | 10 => [110, 111, 32, 110, 101, 119, 32, 110, 97, 109, 101]
  | 11 => [110, 111, 32, 115, 117, 99, 104, 32, 107, 105, 110, 100]
  | 12 => [116, 111, 111, 32, 109, 97, 110, 121, 32, 110, 97, 109, 101, 115]
  | 13 => [110, 111, 32, 115, 117, 99, 104, 32, 110, 97, 109, 101]
  | 14 => [46, 48, 49, 50, 51, 52, 53, 54, 55, 56, 57, 97, 98, 99, 100, 101, 102, 103, 104, 105, 106, 107, 108, 109, 110, 111, 112, 113, 114, 115, 116, 117, 118, 119, 120, 121, 122]
  | 15 => [110, 111, 32, 110, 101, 119, 32, 118, 97, 108, 117, 101, 32, 111, 102, 32, 116, 104, 101, 32, 110, 97, 109, 101, 39, 115, 32, 107, 105, 110, 100]
  | 16 => [116, 111, 111, 32, 109, 97, 110, 121, 32, 107, 110, 111, 119, 110, 32, 118, 97, 108, 117, 101, 115]
  | 17 => []
  | 18 => []
  | 19 => [110, 111, 116]
  | 20 => [116, 114, 117, 101]
  | 21 => [102, 97, 108, 115, 101]
  | 22 => [105, 110]
  | 23 => [44, 32]
  | 24 => [111, 114]
  | 25 => [97, 110, 100]
  | 26 => [116, 114, 117, 101]
  | 27 => [102, 97, 108, 115, 101]
  | 28 => [110, 111, 116, 32]
  | 29 => [32, 111, 114, 32]
  | 30 => [32, 97, 110, 100, 32]
  | 31 => [116, 104, 101, 32, 116, 101, 120, 116, 32, 105, 115, 32, 105, 108, 108]
  | 32 => [116, 111, 111, 32, 109, 97, 110, 121, 32, 99, 111, 110, 100, 105, 116, 105, 111, 110, 115]
  | 33 => [110, 111, 32, 118, 97, 108, 117, 101, 32, 111, 102, 32, 116, 104, 101, 32, 110, 97, 109, 101, 39, 115, 32, 107, 105, 110, 100]
  | _ => []
abbrev xnstr : Nat := 34
abbrev xCB : Nat := 601024
abbrev xSB : Nat := 7293034
end XK
