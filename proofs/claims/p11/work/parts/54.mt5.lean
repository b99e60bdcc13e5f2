section
abbrev y_MT_value : MethodName := ⟨"MarkerText", "value", "(I)I"⟩
abbrev M_MT_value : XMt := (y_MT_value, prog_1_method_4_code, 6, (some .int))
theorem d_MT_value_0 : decode M_MT_value.2.1 0 = .ok (.aload_n 0, 1) := by decide +kernel
theorem d_MT_value_1 : decode M_MT_value.2.1 1 = .ok (.invokevirtual 64, 3) := by decide +kernel
theorem d_MT_value_4 : decode M_MT_value.2.1 4 = .ok (.astore_n 2, 1) := by decide +kernel
theorem d_MT_value_5 : decode M_MT_value.2.1 5 = .ok (.aload_n 0, 1) := by decide +kernel
theorem d_MT_value_6 : decode M_MT_value.2.1 6 = .ok (.iload_n 1, 1) := by decide +kernel
theorem d_MT_value_7 : decode M_MT_value.2.1 7 = .ok (.invokevirtual 93, 3) := by decide +kernel
theorem d_MT_value_10 : decode M_MT_value.2.1 10 = .ok (.astore_n 3, 1) := by decide +kernel
theorem d_MT_value_11 : decode M_MT_value.2.1 11 = .ok (.aload_n 3, 1) := by decide +kernel
theorem d_MT_value_12 : decode M_MT_value.2.1 12 = .ok (.ifnonnull 13, 3) := by decide +kernel
theorem d_MT_value_15 : decode M_MT_value.2.1 15 = .ok (.new 76, 3) := by decide +kernel
theorem d_MT_value_18 : decode M_MT_value.2.1 18 = .ok (.dup, 1) := by decide +kernel
theorem d_MT_value_19 : decode M_MT_value.2.1 19 = .ok (.ldc 97, 2) := by decide +kernel
theorem d_MT_value_21 : decode M_MT_value.2.1 21 = .ok (.invokespecial 80, 3) := by decide +kernel
theorem d_MT_value_24 : decode M_MT_value.2.1 24 = .ok (.athrow, 1) := by decide +kernel
theorem xw_743 : (Jvm.Cond.code ({ cls := "MarkerText", name := "value", desc := "(I)I" } : Jvm.MethodName) prog_1_method_4_code (6 : Nat) (Option.some Jvm.ClassFile.FieldType.int)) ∈ xT := xT_at 743 (by decide +kernel) (by decide +kernel)
theorem d_MT_value_25 : decode M_MT_value.2.1 25 = .ok (.aload_n 3, 1) := by decide +kernel
theorem d_MT_value_26 : decode M_MT_value.2.1 26 = .ok (.aload_n 2, 1) := by decide +kernel
theorem d_MT_value_27 : decode M_MT_value.2.1 27 = .ok (.iconst 0, 1) := by decide +kernel
theorem d_MT_value_28 : decode M_MT_value.2.1 28 = .ok (.aload_n 2, 1) := by decide +kernel
theorem d_MT_value_29 : decode M_MT_value.2.1 29 = .ok (.invokevirtual 99, 3) := by decide +kernel
theorem d_MT_value_32 : decode M_MT_value.2.1 32 = .ok (.invokevirtual 102, 3) := by decide +kernel
theorem d_MT_value_35 : decode M_MT_value.2.1 35 = .ok (.lstore 4, 2) := by decide +kernel
theorem d_MT_value_37 : decode M_MT_value.2.1 37 = .ok (.lload 4, 2) := by decide +kernel
theorem d_MT_value_39 : decode M_MT_value.2.1 39 = .ok (.lconst 0, 1) := by decide +kernel
theorem d_MT_value_40 : decode M_MT_value.2.1 40 = .ok (.lcmp, 1) := by decide +kernel
theorem d_MT_value_41 : decode M_MT_value.2.1 41 = .ok (.ifCond .eq 12, 3) := by decide +kernel
theorem d_MT_value_53 : decode M_MT_value.2.1 53 = .ok (.new 76, 3) := by decide +kernel
theorem d_MT_value_56 : decode M_MT_value.2.1 56 = .ok (.dup, 1) := by decide +kernel
theorem d_MT_value_57 : decode M_MT_value.2.1 57 = .ok (.ldc 110, 2) := by decide +kernel
theorem d_MT_value_59 : decode M_MT_value.2.1 59 = .ok (.invokespecial 80, 3) := by decide +kernel
theorem d_MT_value_62 : decode M_MT_value.2.1 62 = .ok (.athrow, 1) := by decide +kernel
theorem d_MT_value_44 : decode M_MT_value.2.1 44 = .ok (.aload_n 3, 1) := by decide +kernel
theorem d_MT_value_45 : decode M_MT_value.2.1 45 = .ok (.lload 4, 2) := by decide +kernel
theorem d_MT_value_47 : decode M_MT_value.2.1 47 = .ok (.invokevirtual 106, 3) := by decide +kernel
theorem xw_809 : (Jvm.Cond.code ({ cls := "MarkerText$Name", name := "knows", desc := "(J)Z" } : Jvm.MethodName) prog_6_method_2_code (4 : Nat) (Option.some Jvm.ClassFile.FieldType.boolean)) ∈ xT := xT_at 809 (by decide +kernel) (by decide +kernel)
theorem xcb_Name_knows : xcb M_Name_knows 1 := ⟨xw_809, xw_21, by decide, by decide, by decide, by decide +kernel⟩
theorem xw_807 : (Jvm.Cond.instanceMethod ({ cls := "MarkerText$Name", name := "knows", desc := "(J)Z" } : Jvm.MethodName)) ∈ xT := xT_at 807 (by decide +kernel) (by decide +kernel)
theorem xw_806 : (Jvm.Cond.methodLink "MarkerText" (106 : Nat) ({ cls := "MarkerText$Name", name := "knows", desc := "(J)Z" } : Jvm.MethodName)) ∈ xT := xT_at 806 (by decide +kernel) (by decide +kernel)
theorem xw_808 : (Jvm.Cond.selects "MarkerText$Name" ({ cls := "MarkerText$Name", name := "knows", desc := "(J)Z" } : Jvm.MethodName) ({ cls := "MarkerText$Name", name := "knows", desc := "(J)Z" } : Jvm.MethodName)) ∈ xT := xT_at 808 (by decide +kernel) (by decide +kernel)
theorem xcv_MT_106_Name : xCV "MarkerText" 106 "MarkerText$Name" M_Name_knows 1 := ⟨xcb_Name_knows, xw_807, Or.inl ⟨xw_806, Or.inl xw_808⟩⟩
theorem d_MT_value_50 : decode M_MT_value.2.1 50 = .ok (.ifCond .eq 13, 3) := by decide +kernel
theorem d_MT_value_63 : decode M_MT_value.2.1 63 = .ok (.aload_n 3, 1) := by decide +kernel
theorem d_MT_value_64 : decode M_MT_value.2.1 64 = .ok (.getfield 112, 3) := by decide +kernel
theorem xw_727 : (Jvm.Cond.fieldLinkNest "MarkerText" (112 : Nat) "MarkerText$Name" "knownCount" "I" "MarkerText") ∈ xT := xT_at 727 (by decide +kernel) (by decide +kernel)
theorem xf_MT_112_Name : xF "MarkerText" 112 k_Name 3 := ⟨_, _, _, "MarkerText$Name", rfl, by decide, Or.inr ⟨_, xw_727⟩, Or.inl rfl⟩
theorem d_MT_value_67 : decode M_MT_value.2.1 67 = .ok (.bipush 6, 2) := by decide +kernel
theorem d_MT_value_69 : decode M_MT_value.2.1 69 = .ok (.if_icmp .lt 13, 3) := by decide +kernel
theorem d_MT_value_72 : decode M_MT_value.2.1 72 = .ok (.new 85, 3) := by decide +kernel
theorem xw_698 : (Jvm.Cond.classLink "MarkerText" (85 : Nat) "java/lang/IllegalStateException") ∈ xT := xT_at 698 (by decide +kernel) (by decide +kernel)
theorem xw_699 : (Jvm.Cond.instantiable "java/lang/IllegalStateException" (6 : Nat)) ∈ xT := xT_at 699 (by decide +kernel) (by decide +kernel)
theorem xw_20 : (Jvm.Cond.initialized "java/lang/IllegalStateException") ∈ xT := xT_at 20 (by decide +kernel) (by decide +kernel)
theorem xnw_MT_85 : xNw "MarkerText" 85 k_IllegalStateException 6 [.null, .null, .null, .null, .null, .int 0] := ⟨_, _, _, rfl, rfl, by decide +kernel, xw_698, xw_699, xw_20⟩
theorem xw_709 : (Jvm.Cond.instanceMethod ({ cls := "java/lang/IllegalStateException", name := "<init>", desc := "(Ljava/lang/String;)V" } : Jvm.MethodName)) ∈ xT := xT_at 709 (by decide +kernel) (by decide +kernel)
theorem xw_710 : (Jvm.Cond.code ({ cls := "java/lang/IllegalStateException", name := "<init>", desc := "(Ljava/lang/String;)V" } : Jvm.MethodName) prog_20_method_2_code (2 : Nat) (Option.none : Option Jvm.ClassFile.FieldType)) ∈ xT := xT_at 710 (by decide +kernel) (by decide +kernel)
theorem xw_711 : (Jvm.Cond.methodLink "java/lang/IllegalStateException" (7 : Nat) ({ cls := "java/lang/RuntimeException", name := "<init>", desc := "(Ljava/lang/String;)V" } : Jvm.MethodName)) ∈ xT := xT_at 711 (by decide +kernel) (by decide +kernel)
theorem xw_708 : (Jvm.Cond.methodLink "MarkerText" (89 : Nat) ({ cls := "java/lang/IllegalStateException", name := "<init>", desc := "(Ljava/lang/String;)V" } : Jvm.MethodName)) ∈ xT := xT_at 708 (by decide +kernel) (by decide +kernel)
theorem xw_701 : (Jvm.Cond.selects "java/lang/IllegalStateException" ({ cls := "java/lang/Throwable", name := "fillInStackTrace", desc := "(I)Ljava/lang/Throwable;" } : Jvm.MethodName) ({ cls := "java/lang/Throwable", name := "fillInStackTrace", desc := "(I)Ljava/lang/Throwable;" } : Jvm.MethodName)) ∈ xT := xT_at 701 (by decide +kernel) (by decide +kernel)
theorem xw_523 : (Jvm.Cond.selects "java/lang/IllegalStateException" ({ cls := "java/lang/Throwable", name := "fillInStackTrace", desc := "()Ljava/lang/Throwable;" } : Jvm.MethodName) ({ cls := "java/lang/Throwable", name := "fillInStackTrace", desc := "()Ljava/lang/Throwable;" } : Jvm.MethodName)) ∈ xT := xT_at 523 (by decide +kernel) (by decide +kernel)
theorem xw_702 : (Jvm.Cond.lays "java/lang/IllegalStateException" "java/lang/Throwable" "cause" "Ljava/lang/Throwable;") ∈ xT := xT_at 702 (by decide +kernel) (by decide +kernel)
theorem xw_703 : (Jvm.Cond.lays "java/lang/IllegalStateException" "java/lang/Throwable" "stackTrace" "[Ljava/lang/StackTraceElement;") ∈ xT := xT_at 703 (by decide +kernel) (by decide +kernel)
theorem xw_704 : (Jvm.Cond.lays "java/lang/IllegalStateException" "java/lang/Throwable" "suppressedExceptions" "Ljava/util/List;") ∈ xT := xT_at 704 (by decide +kernel) (by decide +kernel)
theorem xw_705 : (Jvm.Cond.lays "java/lang/IllegalStateException" "java/lang/Throwable" "detailMessage" "Ljava/lang/String;") ∈ xT := xT_at 705 (by decide +kernel) (by decide +kernel)
theorem xw_706 : (Jvm.Cond.lays "java/lang/IllegalStateException" "java/lang/Throwable" "backtrace" "Ljava/lang/Object;") ∈ xT := xT_at 706 (by decide +kernel) (by decide +kernel)
theorem xthr_MT_89 : ∀ w ∈ xThr "MarkerText" 89 "java/lang/IllegalStateException" ["java/lang/RuntimeException", "java/lang/Exception"], w ∈ xT ∨ ∃ q ∈ xThS, w = Cond.laysStatic q.1 q.2.1 q.2.2 := List.forall_mem_cons.mpr ⟨Or.inl xw_15, List.forall_mem_cons.mpr ⟨Or.inl xw_512, List.forall_mem_cons.mpr ⟨Or.inl xw_521, List.forall_mem_cons.mpr ⟨Or.inl xw_524, List.forall_mem_cons.mpr ⟨Or.inl xw_527, List.forall_mem_cons.mpr ⟨Or.inl xw_529, List.forall_mem_cons.mpr ⟨Or.inl xw_513, List.forall_mem_cons.mpr ⟨Or.inl xw_514, List.forall_mem_cons.mpr ⟨Or.inl xw_40, List.forall_mem_cons.mpr ⟨Or.inl xw_41, List.forall_mem_cons.mpr ⟨Or.inl xw_515, List.forall_mem_cons.mpr ⟨Or.inl xw_520, List.forall_mem_cons.mpr ⟨Or.inl xw_525, List.forall_mem_cons.mpr ⟨Or.inl xw_612, List.forall_mem_cons.mpr ⟨Or.inl xw_502, List.forall_mem_cons.mpr ⟨Or.inl xw_613, List.forall_mem_cons.mpr ⟨Or.inl xw_504, List.forall_mem_cons.mpr ⟨Or.inl xw_614, List.forall_mem_cons.mpr ⟨Or.inl xw_506, List.forall_mem_cons.mpr ⟨Or.inl xw_516, List.forall_mem_cons.mpr ⟨Or.inr ⟨_, List.mem_of_getElem? (i := 0) rfl, rfl⟩, List.forall_mem_cons.mpr ⟨Or.inl xw_518, List.forall_mem_cons.mpr ⟨Or.inr ⟨_, List.mem_of_getElem? (i := 1) rfl, rfl⟩, List.forall_mem_cons.mpr ⟨Or.inl xw_508, List.forall_mem_cons.mpr ⟨Or.inl xw_608, List.forall_mem_cons.mpr ⟨Or.inl xw_609, List.forall_mem_cons.mpr ⟨Or.inl xw_611, List.forall_mem_cons.mpr ⟨Or.inl xw_508, List.forall_mem_cons.mpr ⟨Or.inl xw_709, List.forall_mem_cons.mpr ⟨Or.inl xw_710, List.forall_mem_cons.mpr ⟨Or.inl xw_711, List.forall_mem_cons.mpr ⟨Or.inl xw_602, List.forall_mem_cons.mpr ⟨Or.inl xw_494, List.forall_mem_cons.mpr ⟨Or.inl xw_602, List.forall_mem_cons.mpr ⟨Or.inl xw_603, List.forall_mem_cons.mpr ⟨Or.inl xw_604, List.forall_mem_cons.mpr ⟨Or.inl xw_605, List.forall_mem_cons.mpr ⟨Or.inl xw_496, List.forall_mem_cons.mpr ⟨Or.inl xw_605, List.forall_mem_cons.mpr ⟨Or.inl xw_606, List.forall_mem_cons.mpr ⟨Or.inl xw_607, List.forall_mem_cons.mpr ⟨Or.inl xw_608, List.forall_mem_cons.mpr ⟨Or.inl xw_498, List.forall_mem_cons.mpr ⟨Or.inl xw_708, List.forall_mem_cons.mpr ⟨Or.inl xw_699, List.forall_mem_cons.mpr ⟨Or.inl xw_701, List.forall_mem_cons.mpr ⟨Or.inl xw_523, List.forall_mem_cons.mpr ⟨Or.inl xw_702, List.forall_mem_cons.mpr ⟨Or.inl xw_703, List.forall_mem_cons.mpr ⟨Or.inl xw_704, List.forall_mem_cons.mpr ⟨Or.inl xw_705, List.forall_mem_cons.mpr ⟨Or.inl xw_511, List.forall_mem_cons.mpr ⟨Or.inl xw_510, List.forall_mem_cons.mpr ⟨Or.inl xw_706, fun _ hz => by cases hz⟩⟩⟩⟩⟩⟩⟩⟩⟩⟩⟩⟩⟩⟩⟩⟩⟩⟩⟩⟩⟩⟩⟩⟩⟩⟩⟩⟩⟩⟩⟩⟩⟩⟩⟩⟩⟩⟩⟩⟩⟩⟩⟩⟩⟩⟩⟩⟩⟩⟩⟩⟩⟩⟩
theorem d_MT_value_75 : decode M_MT_value.2.1 75 = .ok (.dup, 1) := by decide +kernel
theorem d_MT_value_76 : decode M_MT_value.2.1 76 = .ok (.ldc 115, 2) := by decide +kernel
theorem d_MT_value_78 : decode M_MT_value.2.1 78 = .ok (.invokespecial 89, 3) := by decide +kernel
theorem d_MT_value_81 : decode M_MT_value.2.1 81 = .ok (.athrow, 1) := by decide +kernel
theorem d_MT_value_82 : decode M_MT_value.2.1 82 = .ok (.aload_n 3, 1) := by decide +kernel
theorem d_MT_value_83 : decode M_MT_value.2.1 83 = .ok (.lload 4, 2) := by decide +kernel
theorem d_MT_value_85 : decode M_MT_value.2.1 85 = .ok (.invokevirtual 117, 3) := by decide +kernel
theorem xw_815 : (Jvm.Cond.code ({ cls := "MarkerText$Name", name := "learn", desc := "(J)V" } : Jvm.MethodName) prog_6_method_3_code (3 : Nat) (Option.none : Option Jvm.ClassFile.FieldType)) ∈ xT := xT_at 815 (by decide +kernel) (by decide +kernel)
theorem xcb_Name_learn : xcb M_Name_learn 1 := ⟨xw_815, xw_21, by decide, by decide, by decide, by decide +kernel⟩
theorem xw_813 : (Jvm.Cond.instanceMethod ({ cls := "MarkerText$Name", name := "learn", desc := "(J)V" } : Jvm.MethodName)) ∈ xT := xT_at 813 (by decide +kernel) (by decide +kernel)
theorem xw_812 : (Jvm.Cond.methodLink "MarkerText" (117 : Nat) ({ cls := "MarkerText$Name", name := "learn", desc := "(J)V" } : Jvm.MethodName)) ∈ xT := xT_at 812 (by decide +kernel) (by decide +kernel)
theorem xw_814 : (Jvm.Cond.selects "MarkerText$Name" ({ cls := "MarkerText$Name", name := "learn", desc := "(J)V" } : Jvm.MethodName) ({ cls := "MarkerText$Name", name := "learn", desc := "(J)V" } : Jvm.MethodName)) ∈ xT := xT_at 814 (by decide +kernel) (by decide +kernel)
theorem xcv_MT_117_Name : xCV "MarkerText" 117 "MarkerText$Name" M_Name_learn 1 := ⟨xcb_Name_learn, xw_813, Or.inl ⟨xw_812, Or.inl xw_814⟩⟩
theorem d_MT_value_88 : decode M_MT_value.2.1 88 = .ok (.aload_n 3, 1) := by decide +kernel
theorem d_MT_value_89 : decode M_MT_value.2.1 89 = .ok (.getfield 112, 3) := by decide +kernel
theorem d_MT_value_92 : decode M_MT_value.2.1 92 = .ok (.ireturn, 1) := by decide +kernel
end
section MT5
variable {l : Launch} {G : XG} {h : XH} {c n d : Nat}
def exK (b : Bool) : Nat := if b then k_IllegalArgumentException else k_IllegalStateException
/-- what value() answers: an exception, or a number and what is known then -/
def vlu (Ns : List NmT) (t : List Nat) (k : Int32) : Bool ⊕ (Nat × List NmT) := match iAt k Ns with
  | none => .inl true
  | some x => if klv x.2.1 t = 0 ∨ klv x.2.1 t ∈ x.2.2 then .inl true else if 6 ≤ x.2.2.length then .inl false else .inr (x.2.2.length + 1, Ns.set k.toNatClampNeg (x.1, x.2.1, x.2.2 ++ [klv x.2.1 t]))
theorem isNs.set {h' : XH} {r j a ka : Nat} {as kas ks : List Nat} {Ns : List NmT} {x : NmT} (hN : isNs G h r as kas Ns) (h1 : as[j]? = some a) (h2 : kas[j]? = some ka) (h3 : Ns[j]? = some x) (hf : xfr h h' [a, ka]) (hx : isN G h a ka x.1 x.2.1 x.2.2) (hx' : isN G h' a ka x.1 x.2.1 ks) : isNs G h' r as kas (Ns.set j (x.1, x.2.1, ks)) := by
  obtain ⟨e1, e2, e3, e4, e5, e6, e7⟩ := hN
  obtain ⟨sa, z1, z2, z3, -⟩ := id hx
  have hno : xno h [a, ka] [k_aName, k_String, k_asbyte] := xno2 z1 z3 (by decide) (by decide)
  refine ⟨hf.1 _ _ e1 (hno.at e1 (by decide)), by simpa using e2, by simpa using e3, by simpa using e4, e5, e6, fun i y b kb g1 g2 g3 => ?_⟩
  by_cases hij : i = j
  · subst hij
    have hi : i < Ns.length := by
      have := (List.getElem?_eq_some_iff.mp h3).1
      exact this
    rw [List.getElem?_set_self hi] at g1
    rw [h1] at g2
    rw [h2] at g3
    cases g1
    cases g2
    cases g3
    exact ⟨hx', (e7 i x a ka h3 h1 h2).2⟩
  · rw [List.getElem?_set_ne (Ne.symm hij)] at g1
    obtain ⟨y1, y2⟩ := e7 i y b kb g1 g2 g3
    obtain ⟨sb, w1, w2, w3, -⟩ := id y1
    have nab : b ≠ a := fun z => by
      subst z
      obtain ⟨p1, p2⟩ := List.getElem?_eq_some_iff.mp g2
      obtain ⟨p3, p4⟩ := List.getElem?_eq_some_iff.mp h1
      exact hij ((List.getElem_inj e5).mp (p2.trans p4.symm))
    have nkb : kb ≠ ka := fun z => by
      subst z
      obtain ⟨p1, p2⟩ := List.getElem?_eq_some_iff.mp g3
      obtain ⟨p3, p4⟩ := List.getElem?_eq_some_iff.mp h2
      exact hij ((List.getElem_inj e6).mp (p2.trans p4.symm))
    refine ⟨y1.fr hf (hno.sub (by decide)) ?_ ?_, y2⟩
    · simp only [List.mem_cons, List.not_mem_nil, or_false, not_or]
      exact ⟨nab, xne w1 z3 (by decide)⟩
    · simp only [List.mem_cons, List.not_mem_nil, or_false, not_or]
      exact ⟨xne w3 z1 (by decide), nkb⟩
/-- all but the names stays -/
theorem isMT.frN {h' : XH} {F : List Nat} {x ta va m na ca ea ch pa : Nat} {as kas cas t : List Nat} {Ns Ns' : List NmT} {Cs : List CnT} {il : Option Nat} {lv : Nat → Nat} {Pt : PtT} (hM : isMT G h x ta va m na ca ea ch pa as kas cas t Ns Cs il lv Pt) (hf : xfr h h' F) (hn : xno h F [k_MarkerText, k_String, k_asbyte, k_aCondition, k_Condition, k_Test, k_Join, k_Negation, k_Constant, k_avals, k_ArrayList, k_aObject, k_aenv, k_Choices, k_achv, k_astarts, k_asamples, k_apicks, k_achl, k_Parting, k_aptr, k_apsz, k_apfi, k_apcl, k_apsa, k_StringBuilder, k_abyte]) (hN : isNs G h' na as kas Ns') (hl : Ns'.length = Ns.length) : isMT G h' x ta va m na ca ea ch pa as kas cas t Ns' Cs il lv Pt := by
  obtain ⟨e1, e2, e3, e4, e5, e6, e7, e8, e9, e10⟩ := hM
  obtain ⟨z, bs, b1, b2, -⟩ := id e2
  exact ⟨by rw [hl]; exact hf.1 _ _ e1 (hn.at e1 (by decide)), e2.fr hf (hn.at b1 (by decide)) (hn.at b2 (by decide)), e3, e4, hN, e6.fr hf (hn.sub (by decide)), e7.fr' hf (hn.sub (by decide)), e8.fr hf (hn.sub (by decide)), e9.fr hf (hn.sub (by decide)), e10⟩
theorem c_value (hG : xGk G) (htr : l.stackTraces = false) (hd : 12 ≤ d) {x ta va m na ca ea ch pa : Nat} {as kas cas t : List Nat} {Ns : List NmT} {Cs : List CnT} {il : Option Nat} {lv : Nat → Nat} {Pt : PtT} {k : Int32} (hM : isMT G h x ta va m na ca ea ch pa as kas cas t Ns Cs il lv Pt) (hc : c + 3 ≤ xCB) (hn : n + t.length + 10 ≤ xSB) :
    XMT l G d M_MT_value [.ref x, .int k] h c n (fun v h' c' n' => c' ≤ c + 3 ∧ n' ≤ n + t.length + 10 ∧ xap h h' ∧ match vlu Ns t k with
      | .inl b => (∃ a, v = some (.retAddr a) ∧ h' a = some (exK b, [])) ∧ isMT G h' x ta va m na ca ea ch pa as kas cas [] Ns Cs il lv Pt
      | .inr (r, Ns') => v = some (.int (nI r)) ∧ isMT G h' x ta va m na ca ea ch pa as kas cas [] Ns' Cs il lv Pt) := by
  obtain ⟨d, rfl⟩ : ∃ q, d = q + 1 := ⟨d - 1, by omega⟩
  obtain ⟨e0, hB, hm, hl, -⟩ := id hM
  obtain ⟨z, bs, b1, b2, -⟩ := id hB
  refine XMT.of (by decide +kernel) (Nat.le_of_ble_eq_true rfl) ?_
  refine x_aload_n d_MT_value_0 rfl rfl ?_
  refine x_callV (As := []) (k := k_MarkerText) rfl xcv_MT_64_MT (Or.inl e0) (c_takeText (by omega) e0 hB (by omega) (by omega) (by omega)) rfl rfl (Nat.le_of_ble_eq_true rfl) d_MT_value_1 ?_
  rintro v h1 c1 n1 ⟨q, rfl, hS, hB1, f1, hc1, hn1⟩
  have hM1 := hM.frB f1 (xno1 b1 (by decide)) hB1 hm (by simp)
  obtain ⟨e1, -, -, -, hN1, hC1, hL1, -⟩ := id hM1
  have xa1 : xap h h1 := ⟨[ta], f1, xno1 b1 (by decide)⟩
  have hthr : ∀ a w, h1 a = none → xap h (xup h1 a w) ∧ isMT G (xup h1 a w) x ta va m na ca ea ch pa as kas cas [] Ns Cs il lv Pt := fun a w ha => ⟨⟨[ta], f1.up (Or.inr (f1.2 _ ha)), xno1 b1 (by decide)⟩, hM1.frB (F := []) (xfr.rf.up (Or.inr ha)) (fun q hq => by cases hq) (hB1.up ha) hm (by simp)⟩
  refine x_astore_n (L' := [_, _, _, _, _, _]) d_MT_value_4 rfl rfl rfl ?_
  refine x_aload_n d_MT_value_5 rfl rfl ?_
  refine x_iload_n d_MT_value_6 rfl ?_
  refine x_callV (As := [_]) (k := k_MarkerText) rfl xcv_MT_93_MT (Or.inl e1) (c_nameAt e1 hN1) rfl rfl (Nat.le_of_ble_eq_true rfl) d_MT_value_7 ?_
  rintro v h2 c2 n2 ⟨rfl, rfl, rfl, rfl⟩
  rcases hN1.at (k := k) with ⟨g1, g2⟩ | ⟨a, ka, X, j, hj, rfl, g1, g1', g1'', g2, g2', g3, g4⟩
  · rw [g1, show vlu Ns t k = .inl true by unfold vlu; rw [g2]]
    refine x_astore_n (L' := [_, _, _, _, _, _]) d_MT_value_10 rfl rfl rfl ?_
    refine x_aload_n d_MT_value_11 rfl rfl ?_
    refine x_ifnonnullN d_MT_value_12 ?_
    refine x_throwS (k := k_IllegalArgumentException) (i := 13) (tx := "no such name") hG.1 htr xw_743 rfl (by decide +kernel) (by decide +kernel) (by decide) xnw_MT_76 xthr_MT_80 (by decide +kernel) (by omega) (Nat.le_of_ble_eq_true rfl) (by omega) (by omega) d_MT_value_15 d_MT_value_18 d_MT_value_19 d_MT_value_21 d_MT_value_24 (fun a hn_a hk_a => ?_)
    exact ⟨by omega, by omega, (hthr a _ hn_a).1, ⟨a, rfl, xup_self⟩, (hthr a _ hn_a).2⟩
  · have hN6 : Ns.length ≤ 6 := hN1.2.2.2.1
    rw [g1, show vlu Ns t (nI j) = if klv X.2.1 t = 0 ∨ klv X.2.1 t ∈ X.2.2 then .inl true else if 6 ≤ X.2.2.length then .inl false else .inr (X.2.2.length + 1, Ns.set j (X.1, X.2.1, X.2.2 ++ [klv X.2.1 t])) by unfold vlu; rw [g2, nI_clamp (by omega)]]
    obtain ⟨vq, eq, hqa, -⟩ := id hS
    obtain ⟨sw, ha1, -, ha2, hks, -, -⟩ := id g3
    refine x_astore_n (L' := [_, _, _, _, _, _]) d_MT_value_10 rfl rfl rfl ?_
    refine x_aload_n d_MT_value_11 rfl rfl ?_
    refine x_ifnonnull (tgt := 25) d_MT_value_12 (by decide) ?_
    refine x_aload_n d_MT_value_25 rfl rfl ?_
    refine x_aload_n d_MT_value_26 rfl rfl ?_
    refine x_iconst (v := 0) d_MT_value_27 (by decide) ?_
    refine x_aload_n d_MT_value_28 rfl rfl ?_
    refine x_callV (As := []) (k := k_String) rfl xcv_MT_99_String hqa (c_String_length (by omega) hS) rfl rfl (Nat.le_of_ble_eq_true rfl) d_MT_value_29 ?_
    rintro v h3 c3 n3 ⟨rfl, rfl, rfl, rfl⟩
    refine x_top (w := .int (nI (0 + t.length))) (by rw [Nat.zero_add]) ?_
    refine x_callV (As := [_, _, _]) (k := k_Name) rfl xcv_MT_102_Name (Or.inl ha1) (c_levelOf (f := 0) (m := t.length) hG (by omega) g3 hS (by omega) (by omega)) rfl rfl (Nat.le_of_ble_eq_true rfl) d_MT_value_32 ?_
    rintro v h4 c4 n4 ⟨rfl, rfl, rfl, rfl⟩
    rw [List.drop_zero, List.take_length]
    have hx := klv_lt (kd := X.2.1) hS.asc
    by_cases hz : klv X.2.1 t = 0
    · rw [if_pos (Or.inl hz)]
      refine x_lstore (L' := [_, _, _, _, _, _]) d_MT_value_35 rfl rfl ?_
      refine x_lload d_MT_value_37 rfl ?_
      refine x_lconst (v := 0) d_MT_value_39 (by decide) ?_
      refine x_lcmp d_MT_value_40 ?_
      refine x_if_eq (tgt := 53) d_MT_value_41 (by decide) (fun _ => ?_) (fun hn => absurd ((lg_cmp_eq _ _).mpr (by rw [hz]; rfl)) hn)
      refine x_throwS (k := k_IllegalArgumentException) (i := 15) (tx := "no new value of the name's kind") hG.1 htr xw_743 rfl (by decide +kernel) (by decide +kernel) (by decide) xnw_MT_76 xthr_MT_80 (by decide +kernel) (by omega) (Nat.le_of_ble_eq_true rfl) (by omega) (by omega) d_MT_value_53 d_MT_value_56 d_MT_value_57 d_MT_value_59 d_MT_value_62 (fun b hn_b hk_b => ?_)
      exact ⟨by omega, by omega, (hthr b _ hn_b).1, ⟨b, rfl, xup_self⟩, (hthr b _ hn_b).2⟩
    · refine x_lstore (L' := [_, _, _, _, _, _]) d_MT_value_35 rfl rfl ?_
      refine x_lload d_MT_value_37 rfl ?_
      refine x_lconst (v := 0) d_MT_value_39 (by decide) ?_
      refine x_lcmp d_MT_value_40 ?_
      refine x_if_eq (tgt := 53) d_MT_value_41 (by decide) (fun ht => absurd ht (fun z => hz ((pk_lEQ (b := 0) hx (by decide)).mp ((lg_cmp_eq _ _).mp z)))) (fun _ => ?_)
      refine x_aload_n d_MT_value_44 rfl rfl ?_
      refine x_lload d_MT_value_45 rfl ?_
      refine x_callV (As := [_]) (k := k_Name) rfl xcv_MT_106_Name (Or.inl ha1) (c_knows g3 hx) rfl rfl (Nat.le_of_ble_eq_true rfl) d_MT_value_47 ?_
      rintro v h5 c5 n5 ⟨rfl, rfl, rfl, rfl⟩
      by_cases hkn : klv X.2.1 t ∈ X.2.2
      · rw [if_pos hkn, if_pos (Or.inr hkn)]
        refine x_if_eq (tgt := 63) d_MT_value_50 (by decide) (fun ht => absurd ht (by decide)) (fun _ => ?_)
        refine x_throwS (k := k_IllegalArgumentException) (i := 15) (tx := "no new value of the name's kind") hG.1 htr xw_743 rfl (by decide +kernel) (by decide +kernel) (by decide) xnw_MT_76 xthr_MT_80 (by decide +kernel) (by omega) (Nat.le_of_ble_eq_true rfl) (by omega) (by omega) d_MT_value_53 d_MT_value_56 d_MT_value_57 d_MT_value_59 d_MT_value_62 (fun b hn_b hk_b => ?_)
        exact ⟨by omega, by omega, (hthr b _ hn_b).1, ⟨b, rfl, xup_self⟩, (hthr b _ hn_b).2⟩
      · rw [if_neg hkn, if_neg (fun z => z.elim hz hkn)]
        by_cases h6 : 6 ≤ X.2.2.length
        · rw [if_pos h6]
          refine x_if_eq (tgt := 63) d_MT_value_50 (by decide) (fun _ => ?_) (fun hn => absurd rfl hn)
          refine x_aload_n d_MT_value_63 rfl rfl ?_
          refine x_get xf_MT_112_Name (Or.inl ha1) rfl d_MT_value_64 ?_
          refine x_bipush (v := 6) d_MT_value_67 (by decide) ?_
          refine x_icmp_lt (tgt := 82) d_MT_value_69 (by decide) (fun ht => absurd ht (nI_nlt (b := 6) h6 (by omega))) (fun _ => ?_)
          refine x_throwS (k := k_IllegalStateException) (i := 16) (tx := "too many known values") hG.1 htr xw_743 rfl (by decide +kernel) (by decide +kernel) (by decide) xnw_MT_85 xthr_MT_89 (by decide +kernel) (by omega) (Nat.le_of_ble_eq_true rfl) (by omega) (by omega) d_MT_value_72 d_MT_value_75 d_MT_value_76 d_MT_value_78 d_MT_value_81 (fun b hn_b hk_b => ?_)
          exact ⟨by omega, by omega, (hthr b _ hn_b).1, ⟨b, rfl, xup_self⟩, (hthr b _ hn_b).2⟩
        · rw [if_neg h6]
          refine x_if_eq (tgt := 63) d_MT_value_50 (by decide) (fun _ => ?_) (fun hn => absurd rfl hn)
          refine x_aload_n d_MT_value_63 rfl rfl ?_
          refine x_get xf_MT_112_Name (Or.inl ha1) rfl d_MT_value_64 ?_
          refine x_bipush (v := 6) d_MT_value_67 (by decide) ?_
          refine x_icmp_lt (tgt := 82) d_MT_value_69 (by decide) (fun _ => ?_) (fun hn => absurd (nI_lt (b := 6) (by omega) (by omega)) hn)
          refine x_aload_n d_MT_value_82 rfl rfl ?_
          refine x_lload d_MT_value_83 rfl ?_
          refine x_callV (As := [_]) (k := k_Name) rfl xcv_MT_117_Name (Or.inl ha1) (c_learn g3 hx (by omega)) rfl rfl (Nat.le_of_ble_eq_true rfl) d_MT_value_85 ?_
          rintro v h6' c6 n6 ⟨rfl, hL6, f6, rfl, rfl⟩
          obtain ⟨sw6, ha6, -⟩ := id hL6
          refine x_aload_n d_MT_value_88 rfl rfl ?_
          refine x_get xf_MT_112_Name (Or.inl ha6) rfl d_MT_value_89 ?_
          refine x_ret2 ?_
          refine x_iret d_MT_value_92 rfl ?_
          refine ⟨fun a z => (by cases z), by omega, by omega, xq.tr xa1 ⟨[a, ka], f6, xno2 ha1 ha2 (by decide) (by decide)⟩, by rw [List.length_append]; rfl, ?_⟩
          exact hM1.frN f6 (xno2 ha1 ha2 (by decide) (by decide)) (hN1.set g1' g1'' g2' f6 g3 hL6) (by simp)
end MT5
