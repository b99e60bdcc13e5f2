section
abbrev y_AL_add_ObjectaObjectI : MethodName := ⟨"java/util/ArrayList", "add", "(Ljava/lang/Object;[Ljava/lang/Object;I)V"⟩
abbrev M_AL_add_ObjectaObjectI : XMt := (y_AL_add_ObjectaObjectI, prog_33_method_24_code, 4, none)
theorem d_AL_add_ObjectaObjectI_11 : decode M_AL_add_ObjectaObjectI.2.1 11 = .ok (.aload_n 2, 1) := by decide +kernel
theorem d_AL_add_ObjectaObjectI_12 : decode M_AL_add_ObjectaObjectI.2.1 12 = .ok (.iload_n 3, 1) := by decide +kernel
theorem d_AL_add_ObjectaObjectI_13 : decode M_AL_add_ObjectaObjectI.2.1 13 = .ok (.aload_n 1, 1) := by decide +kernel
theorem d_AL_add_ObjectaObjectI_14 : decode M_AL_add_ObjectaObjectI.2.1 14 = .ok (.aastore, 1) := by decide +kernel
theorem xw_1627 : (Jvm.Cond.castable "MarkerText$Test" "java/lang/Object") ∈ xT := xT_at 1627 (by decide +kernel) (by decide +kernel)
theorem d_AL_add_ObjectaObjectI_15 : decode M_AL_add_ObjectaObjectI.2.1 15 = .ok (.aload_n 0, 1) := by decide +kernel
theorem d_AL_add_ObjectaObjectI_16 : decode M_AL_add_ObjectaObjectI.2.1 16 = .ok (.iload_n 3, 1) := by decide +kernel
theorem d_AL_add_ObjectaObjectI_17 : decode M_AL_add_ObjectaObjectI.2.1 17 = .ok (.iconst 1, 1) := by decide +kernel
theorem d_AL_add_ObjectaObjectI_18 : decode M_AL_add_ObjectaObjectI.2.1 18 = .ok (.iadd, 1) := by decide +kernel
theorem d_AL_add_ObjectaObjectI_19 : decode M_AL_add_ObjectaObjectI.2.1 19 = .ok (.putfield 48, 3) := by decide +kernel
theorem xp_AL_1 : xP k_ArrayList 1 false .int := ⟨_, _, _, rfl, rfl, by decide +kernel⟩
theorem d_AL_add_ObjectaObjectI_22 : decode M_AL_add_ObjectaObjectI.2.1 22 = .ok (.return_, 1) := by decide +kernel
theorem d_AL_add_ObjectaObjectI_6 : decode M_AL_add_ObjectaObjectI.2.1 6 = .ok (.aload_n 0, 1) := by decide +kernel
theorem d_AL_add_ObjectaObjectI_7 : decode M_AL_add_ObjectaObjectI.2.1 7 = .ok (.invokevirtual 129, 3) := by decide +kernel
theorem xw_1046 : (Jvm.Cond.code ({ cls := "java/util/ArrayList", name := "grow", desc := "()[Ljava/lang/Object;" } : Jvm.MethodName) prog_33_method_7_code (1 : Nat) (Option.some (Jvm.ClassFile.FieldType.array (Jvm.ClassFile.FieldType.object "java/lang/Object")))) ∈ xT := xT_at 1046 (by decide +kernel) (by decide +kernel)
theorem xcb_AL_grow_ : xcb M_AL_grow_ 0 := ⟨xw_1046, xw_26, by decide, by decide, by decide, by decide +kernel⟩
theorem xw_1045 : (Jvm.Cond.instanceMethod ({ cls := "java/util/ArrayList", name := "grow", desc := "()[Ljava/lang/Object;" } : Jvm.MethodName)) ∈ xT := xT_at 1045 (by decide +kernel) (by decide +kernel)
theorem xw_1043 : (Jvm.Cond.methodLink "java/util/ArrayList" (129 : Nat) ({ cls := "java/util/ArrayList", name := "grow", desc := "()[Ljava/lang/Object;" } : Jvm.MethodName)) ∈ xT := xT_at 1043 (by decide +kernel) (by decide +kernel)
theorem xsel_AL_grow_ : Cond.selects "java/util/ArrayList" y_AL_grow_ y_AL_grow_ ∈ xT := xT_sel (q := (y_AL_grow_, 3)) (by decide +kernel) (by decide +kernel)
theorem xcv_AL_129_AL : xCV "java/util/ArrayList" 129 "java/util/ArrayList" M_AL_grow_ 0 := ⟨xcb_AL_grow_, xw_1045, Or.inl ⟨xw_1043, Or.inl xsel_AL_grow_⟩⟩
theorem d_AL_add_ObjectaObjectI_10 : decode M_AL_add_ObjectaObjectI.2.1 10 = .ok (.astore_n 2, 1) := by decide +kernel
theorem d_AL_add_ObjectaObjectI_0 : decode M_AL_add_ObjectaObjectI.2.1 0 = .ok (.iload_n 3, 1) := by decide +kernel
theorem d_AL_add_ObjectaObjectI_1 : decode M_AL_add_ObjectaObjectI.2.1 1 = .ok (.aload_n 2, 1) := by decide +kernel
theorem d_AL_add_ObjectaObjectI_2 : decode M_AL_add_ObjectaObjectI.2.1 2 = .ok (.arraylength, 1) := by decide +kernel
theorem d_AL_add_ObjectaObjectI_3 : decode M_AL_add_ObjectaObjectI.2.1 3 = .ok (.if_icmp .ne 8, 3) := by decide +kernel
abbrev y_AL_add_Object : MethodName := ⟨"java/util/ArrayList", "add", "(Ljava/lang/Object;)Z"⟩
abbrev M_AL_add_Object : XMt := (y_AL_add_Object, prog_33_method_25_code, 2, (some .boolean))
theorem d_AL_add_Object_0 : decode M_AL_add_Object.2.1 0 = .ok (.aload_n 0, 1) := by decide +kernel
theorem d_AL_add_Object_1 : decode M_AL_add_Object.2.1 1 = .ok (.dup, 1) := by decide +kernel
theorem d_AL_add_Object_2 : decode M_AL_add_Object.2.1 2 = .ok (.getfield 63, 3) := by decide +kernel
theorem xw_847 : (Jvm.Cond.sameField "java/util/ArrayList" "java/util/AbstractList" "modCount" "I") ∈ xT := xT_at 847 (by decide +kernel) (by decide +kernel)
theorem xw_846 : (Jvm.Cond.fieldLink "java/util/ArrayList" (63 : Nat) "java/util/ArrayList" "modCount" "I") ∈ xT := xT_at 846 (by decide +kernel) (by decide +kernel)
theorem xf_AL_63_AL : xF "java/util/ArrayList" 63 k_ArrayList 2 := ⟨_, _, _, "java/util/ArrayList", rfl, by decide, Or.inl xw_846, Or.inr xw_847⟩
theorem d_AL_add_Object_5 : decode M_AL_add_Object.2.1 5 = .ok (.iconst 1, 1) := by decide +kernel
theorem d_AL_add_Object_6 : decode M_AL_add_Object.2.1 6 = .ok (.iadd, 1) := by decide +kernel
theorem d_AL_add_Object_7 : decode M_AL_add_Object.2.1 7 = .ok (.putfield 63, 3) := by decide +kernel
theorem d_AL_add_Object_10 : decode M_AL_add_Object.2.1 10 = .ok (.aload_n 0, 1) := by decide +kernel
theorem d_AL_add_Object_11 : decode M_AL_add_Object.2.1 11 = .ok (.aload_n 1, 1) := by decide +kernel
theorem d_AL_add_Object_12 : decode M_AL_add_Object.2.1 12 = .ok (.aload_n 0, 1) := by decide +kernel
theorem d_AL_add_Object_13 : decode M_AL_add_Object.2.1 13 = .ok (.getfield 9, 3) := by decide +kernel
theorem d_AL_add_Object_16 : decode M_AL_add_Object.2.1 16 = .ok (.aload_n 0, 1) := by decide +kernel
theorem d_AL_add_Object_17 : decode M_AL_add_Object.2.1 17 = .ok (.getfield 48, 3) := by decide +kernel
theorem d_AL_add_Object_20 : decode M_AL_add_Object.2.1 20 = .ok (.invokevirtual 131, 3) := by decide +kernel
theorem xw_1042 : (Jvm.Cond.code ({ cls := "java/util/ArrayList", name := "add", desc := "(Ljava/lang/Object;[Ljava/lang/Object;I)V" } : Jvm.MethodName) prog_33_method_24_code (4 : Nat) (Option.none : Option Jvm.ClassFile.FieldType)) ∈ xT := xT_at 1042 (by decide +kernel) (by decide +kernel)
theorem xcb_AL_add_ObjectaObjectI : xcb M_AL_add_ObjectaObjectI 3 := ⟨xw_1042, xw_26, by decide, by decide, by decide, by decide +kernel⟩
theorem xw_1041 : (Jvm.Cond.instanceMethod ({ cls := "java/util/ArrayList", name := "add", desc := "(Ljava/lang/Object;[Ljava/lang/Object;I)V" } : Jvm.MethodName)) ∈ xT := xT_at 1041 (by decide +kernel) (by decide +kernel)
theorem xw_1039 : (Jvm.Cond.methodLink "java/util/ArrayList" (131 : Nat) ({ cls := "java/util/ArrayList", name := "add", desc := "(Ljava/lang/Object;[Ljava/lang/Object;I)V" } : Jvm.MethodName)) ∈ xT := xT_at 1039 (by decide +kernel) (by decide +kernel)
theorem xsel_AL_add_ObjectaObjectI : Cond.selects "java/util/ArrayList" y_AL_add_ObjectaObjectI y_AL_add_ObjectaObjectI ∈ xT := xT_sel (q := (y_AL_add_ObjectaObjectI, 3)) (by decide +kernel) (by decide +kernel)
theorem xcv_AL_131_AL : xCV "java/util/ArrayList" 131 "java/util/ArrayList" M_AL_add_ObjectaObjectI 3 := ⟨xcb_AL_add_ObjectaObjectI, xw_1041, Or.inl ⟨xw_1039, Or.inl xsel_AL_add_ObjectaObjectI⟩⟩
theorem d_AL_add_Object_23 : decode M_AL_add_Object.2.1 23 = .ok (.iconst 1, 1) := by decide +kernel
theorem d_AL_add_Object_24 : decode M_AL_add_Object.2.1 24 = .ok (.ireturn, 1) := by decide +kernel
end
section AL2
variable {l : Launch} {G : XG} {h : XH} {c n d : Nat}
theorem c_AL_add3 (hG : xGk G) (hd : 5 ≤ d) {a ea x : Nat} {es : List Nat} {vx : List Value} (hL : isL G h a ea es) (hx : xr G h x k_Test vx) (hel : ∀ y ∈ es, xel G h "java/lang/Object" (.ref y)) (h60 : es.length ≤ 60) (hc : c + 1 ≤ xCB) (hn : n + 100 ≤ xSB) :
    XM l G d M_AL_add_ObjectaObjectI [.ref a, .ref x, .ref ea, .int (nI es.length)] h c n (fun v h' c' n' => v = none ∧ ∃ ea', isL G h' a ea' (es ++ [x]) ∧ xfr h h' [a, ea] ∧ (ea' = ea ∨ h ea' = none) ∧ c' ≤ c + 1 ∧ n' ≤ n + 100) := by
  obtain ⟨d, rfl⟩ : ∃ q, d = q + 1 := ⟨d - 1, by omega⟩
  obtain ⟨mc, ha, he⟩ := hL
  have fin : ∀ (h1 : XH) (q k c1 n1 : Nat), h1 a = some (k_ArrayList, [.ref q, .int (nI es.length), .int mc]) → h1 q = some (k_aObject, es.map (.ref ·) ++ List.replicate (k + 1) .null) → 10 ≤ es.length + (k + 1) → es.length + (k + 1) ≤ 100 → xr G h1 x k_Test vx → a ≠ q → xfr h h1 [a, ea] → (q = ea ∨ h q = none) → c1 ≤ c + 1 → n1 ≤ n + 100 →
      XW l G M_AL_add_ObjectaObjectI (d + 1) 11 [some (.ref a), some (.ref x), some (.ref q), some (.int (nI es.length))] [] h1 c1 n1 (fun v h' c' n' => v = none ∧ ∃ ea', isL G h' a ea' (es ++ [x]) ∧ xfr h h' [a, ea] ∧ (ea' = ea ∨ h ea' = none) ∧ c' ≤ c + 1 ∧ n' ≤ n + 100) := by
    intro h1 q k c1 n1 e1 e2 e3 e3' e4 e5 e6 e7 e8 e9
    have hat : (es.map (Value.ref ·) ++ List.replicate (k + 1) .null)[(nI es.length).toNatClampNeg]? = some .null := by
      rw [nI_clamp (by omega), List.getElem?_append_right (by simp)]
      simp
    refine x_aload_n d_AL_add_ObjectaObjectI_11 rfl rfl ?_
    refine x_iload_n d_AL_add_ObjectaObjectI_12 rfl ?_
    refine x_aload_n d_AL_add_ObjectaObjectI_13 rfl rfl ?_
    refine x_aast (k := k_aObject) (kb := k_Test) rfl rfl (Or.inr xw_1627) e2 e4 (nI_pos (by omega)) hat d_AL_add_ObjectaObjectI_14 ?_
    refine x_aload_n d_AL_add_ObjectaObjectI_15 rfl rfl ?_
    refine x_iload_n d_AL_add_ObjectaObjectI_16 rfl ?_
    refine x_iconst (v := 1) d_AL_add_ObjectaObjectI_17 (by decide) ?_
    refine x_iadd d_AL_add_ObjectaObjectI_18 ?_
    refine x_top (w := .int (nI (es ++ [x]).length)) (by rw [show (1 : Int32) = nI 1 from rfl, nI_add]; simp) ?_
    refine x_put xf_AL_48_AL xp_AL_1 rfl rfl (by rw [xup_ne e5]; exact e1) rfl rfl d_AL_add_ObjectaObjectI_19 ?_
    refine x_vret d_AL_add_ObjectaObjectI_22 rfl ?_
    refine ⟨rfl, q, ⟨mc, xup_self, Or.inr ⟨k, ?_, by simp; omega, by simp; omega⟩⟩, (e6.up ?_).up (Or.inl (by simp)), e7, e8, e9⟩
    · rw [xup_ne (Ne.symm e5), xup_self, nI_clamp (by omega), List.set_append_right _ _ (by simp)]
      simp [List.replicate_succ]
    · rcases e7 with rfl | z
      · exact Or.inl (by simp)
      · exact Or.inr z
  refine XM.of (by decide +kernel) (Nat.le_of_ble_eq_true rfl) ?_
  have grow : ∀ (_ : (es = [] ∧ ea = G.2.2.2.1 100) ∨ (h ea = some (k_aObject, es.map (.ref ·)) ∧ 10 ≤ es.length ∧ es.length ≤ 60)), XW l G M_AL_add_ObjectaObjectI (d + 1) 6 [some (.ref a), some (.ref x), some (.ref ea), some (.int (nI es.length))] [] h c n (fun v h' c' n' => v = none ∧ ∃ ea', isL G h' a ea' (es ++ [x]) ∧ xfr h h' [a, ea] ∧ (ea' = ea ∨ h ea' = none) ∧ c' ≤ c + 1 ∧ n' ≤ n + 100) := by
    intro hh
    refine x_aload_n d_AL_add_ObjectaObjectI_6 rfl rfl ?_
    refine x_callV (As := []) (k := k_ArrayList) rfl xcv_AL_129_AL (Or.inl ha) (c_AL_grow hG (by omega) ha hh hel hc hn) rfl rfl (Nat.le_of_ble_eq_true rfl) d_AL_add_ObjectaObjectI_7 ?_
    rintro v h' c' n' ⟨q, k, rfl, hq, rfl, g1, g2, rfl, g3⟩
    have haq : a ≠ q := fun e => by rw [e, hq] at ha; cases ha
    refine x_astore_n (L' := [_, _, _, _]) d_AL_add_ObjectaObjectI_10 rfl rfl rfl ?_
    refine fin _ q k _ _ xup_self (by rw [xup_ne (Ne.symm haq), xup_self]) g1 g2 ?_ haq ((xfr.rf.up (Or.inr hq)).up (Or.inl (by simp))) (Or.inr hq) (by omega) g3
    refine (xr_up hx hq).fr (F := [a]) (xfr.rf.up (Or.inl (by simp))) (fun q' hq' e' he' => ?_)
    rw [List.mem_singleton] at hq'
    subst hq'
    rw [xup_ne haq, ha] at he'
    cases he'
    show ¬ k_ArrayList ∈ [k_Test]
    decide
  rcases he with ⟨h1, h2⟩ | ⟨k, h1, h2, h3⟩
  · subst h1; subst h2
    refine x_iload_n d_AL_add_ObjectaObjectI_0 rfl ?_
    refine x_aload_n d_AL_add_ObjectaObjectI_1 rfl rfl ?_
    refine x_alen (k := k_aObject) rfl (Or.inr hG.2.2) (v := nI 0) rfl d_AL_add_ObjectaObjectI_2 ?_
    refine x_icmp_ne (tgt := 11) d_AL_add_ObjectaObjectI_3 (by decide) (fun ht => absurd rfl ht) (fun _ => ?_)
    exact grow (Or.inl ⟨rfl, rfl⟩)
  · cases k with
    | zero =>
      have h1' : h ea = some (k_aObject, es.map (.ref ·)) := by simpa using h1
      refine x_iload_n d_AL_add_ObjectaObjectI_0 rfl ?_
      refine x_aload_n d_AL_add_ObjectaObjectI_1 rfl rfl ?_
      refine x_alen (k := k_aObject) rfl (Or.inl h1') (v := nI es.length) (by simp [nI]) d_AL_add_ObjectaObjectI_2 ?_
      refine x_icmp_ne (tgt := 11) d_AL_add_ObjectaObjectI_3 (by decide) (fun ht => absurd rfl ht) (fun _ => ?_)
      exact grow (Or.inr ⟨h1', by omega, h60⟩)
    | succ k =>
      have hae : a ≠ ea := fun e => by rw [e, h1] at ha; cases ha
      refine x_iload_n d_AL_add_ObjectaObjectI_0 rfl ?_
      refine x_aload_n d_AL_add_ObjectaObjectI_1 rfl rfl ?_
      refine x_alen (k := k_aObject) rfl (Or.inl h1) (v := nI (es.length + (k + 1))) (by simp [nI]) d_AL_add_ObjectaObjectI_2 ?_
      refine x_icmp_ne (tgt := 11) d_AL_add_ObjectaObjectI_3 (by decide) (fun _ => ?_) (fun hn => absurd hn (by rw [nI_eq (by omega) (by omega)]; omega))
      exact fin h ea k c n ha h1 h2 h3 hx hae xfr.rf (Or.inl rfl) (by omega) (by omega)
/-- ArrayList.add of a Test -/
theorem c_AL_add (hG : xGk G) (hd : 6 ≤ d) {a ea x : Nat} {es : List Nat} {vx : List Value} (hL : isL G h a ea es) (hx : xr G h x k_Test vx) (hel : ∀ y ∈ es, xel G h "java/lang/Object" (.ref y)) (h60 : es.length ≤ 60) (hc : c + 1 ≤ xCB) (hn : n + 100 ≤ xSB) :
    XM l G d M_AL_add_Object [.ref a, .ref x] h c n (fun v h' c' n' => v = some (.int 1) ∧ ∃ ea', isL G h' a ea' (es ++ [x]) ∧ xfr h h' [a, ea] ∧ (ea' = ea ∨ h ea' = none) ∧ c' ≤ c + 1 ∧ n' ≤ n + 100) := by
  obtain ⟨d, rfl⟩ : ∃ q, d = q + 1 := ⟨d - 1, by omega⟩
  obtain ⟨mc, ha, he⟩ := id hL
  have hfa : xno h [a] [k_Test, k_aObject] := by
    intro q hq e he'
    rw [List.mem_singleton] at hq
    subst hq
    rw [ha] at he'
    cases he'
    show ¬ k_ArrayList ∈ [k_Test, k_aObject]
    decide
  refine XM.of (by decide +kernel) (Nat.le_of_ble_eq_true rfl) ?_
  refine x_aload_n d_AL_add_Object_0 rfl rfl ?_
  refine x_dup d_AL_add_Object_1 rfl ?_
  refine x_get xf_AL_63_AL (Or.inl ha) rfl d_AL_add_Object_2 ?_
  refine x_iconst (v := 1) d_AL_add_Object_5 (by decide) ?_
  refine x_iadd d_AL_add_Object_6 ?_
  refine x_put xf_AL_63_AL xp_AL_2 rfl rfl ha rfl rfl d_AL_add_Object_7 ?_
  have hf : xfr h (xup h a (k_ArrayList, [.ref ea, .int (nI es.length), .int (mc + 1)])) [a] := xfr.rf.up (Or.inl (by simp))
  have hL' : isL G (xup h a (k_ArrayList, [.ref ea, .int (nI es.length), .int (mc + 1)])) a ea es := by
    refine ⟨mc + 1, xup_self, he.imp id (fun ⟨k, h1, h2⟩ => ⟨k, hf.1 _ _ h1 (fun z => hfa ea z _ h1 (show k_aObject ∈ [k_Test, k_aObject] by decide)), h2⟩)⟩
  have hel' : ∀ y ∈ es, xel G (xup h a (k_ArrayList, [.ref ea, .int (nI es.length), .int (mc + 1)])) "java/lang/Object" (.ref y) := by
    intro y hy
    rcases hel y hy with z | ⟨a', k', N, vs', C, T, z1, z2, z3, z4⟩
    · cases z
    · cases z1
      refine Or.inr ⟨y, ?_⟩
      by_cases hya : y = a
      · subst hya
        rcases z2 with z2 | z2
        · rw [ha] at z2
          cases z2
          exact ⟨_, _, _, _, _, rfl, Or.inl xup_self, z3, z4⟩
        · exact ⟨_, _, _, _, _, rfl, Or.inr z2, z3, z4⟩
      · refine ⟨_, _, _, _, _, rfl, z2.imp (fun q => ?_) id, z3, z4⟩
        rw [xup_ne hya]
        exact q
  refine x_aload_n d_AL_add_Object_10 rfl rfl ?_
  refine x_aload_n d_AL_add_Object_11 rfl rfl ?_
  refine x_aload_n d_AL_add_Object_12 rfl rfl ?_
  refine x_get xf_AL_9_AL (Or.inl xup_self) rfl d_AL_add_Object_13 ?_
  refine x_aload_n d_AL_add_Object_16 rfl rfl ?_
  refine x_get xf_AL_48_AL (Or.inl xup_self) rfl d_AL_add_Object_17 ?_
  refine x_callV (As := [_, _, _]) (k := k_ArrayList) rfl xcv_AL_131_AL (Or.inl xup_self) (c_AL_add3 hG (by omega) hL' (hx.fr hf (hfa.sub (by simp))) hel' h60 hc hn) rfl rfl (Nat.le_of_ble_eq_true rfl) d_AL_add_Object_20 ?_
  rintro v h' c' n' ⟨rfl, ea', g1, g2, g3, g4, g5⟩
  refine x_iconst (v := 1) d_AL_add_Object_23 (by decide) ?_
  refine x_zret d_AL_add_Object_24 rfl rfl ?_
  refine ⟨rfl, ea', g1, (hf.mono (by simp)).tr g2 (fun _ _ z => z), g3.imp id (fun z => ?_), g4, g5⟩
  by_cases hz : ea' = a
  · subst hz; rw [xup_self] at z; cases z
  · rw [xup_ne hz] at z; exact z
end AL2
