section
abbrev y_MT_name : MethodName := ⟨"MarkerText", "name", "(I)I"⟩
abbrev M_MT_name : XMt := (y_MT_name, prog_1_method_3_code, 3, (some .int))
theorem d_MT_name_0 : decode M_MT_name.2.1 0 = .ok (.aload_n 0, 1) := by decide +kernel
theorem d_MT_name_1 : decode M_MT_name.2.1 1 = .ok (.invokevirtual 64, 3) := by decide +kernel
theorem d_MT_name_4 : decode M_MT_name.2.1 4 = .ok (.astore_n 2, 1) := by decide +kernel
theorem d_MT_name_5 : decode M_MT_name.2.1 5 = .ok (.aload_n 2, 1) := by decide +kernel
theorem d_MT_name_6 : decode M_MT_name.2.1 6 = .ok (.invokestatic 68, 3) := by decide +kernel
theorem xw_669 : (Jvm.Cond.code ({ cls := "MarkerText", name := "isSpelledAsName", desc := "(Ljava/lang/String;)Z" } : Jvm.MethodName) prog_1_method_23_code (2 : Nat) (Option.some Jvm.ClassFile.FieldType.boolean)) ∈ xT := xT_at 669 (by decide +kernel) (by decide +kernel)
theorem xcb_MT_isSpelledAsName : xcb M_MT_isSpelledAsName 1 := ⟨xw_669, xw_1, by decide, by decide, by decide, by decide +kernel⟩
theorem xw_667 : (Jvm.Cond.methodLink "MarkerText" (68 : Nat) ({ cls := "MarkerText", name := "isSpelledAsName", desc := "(Ljava/lang/String;)Z" } : Jvm.MethodName)) ∈ xT := xT_at 667 (by decide +kernel) (by decide +kernel)
theorem xw_668 : (Jvm.Cond.static ({ cls := "MarkerText", name := "isSpelledAsName", desc := "(Ljava/lang/String;)Z" } : Jvm.MethodName)) ∈ xT := xT_at 668 (by decide +kernel) (by decide +kernel)
theorem xcs_MT_68 : xCS "MarkerText" 68 M_MT_isSpelledAsName 1 := ⟨xcb_MT_isSpelledAsName, xw_668, Or.inl xw_667⟩
theorem d_MT_name_9 : decode M_MT_name.2.1 9 = .ok (.ifCond .eq 15, 3) := by decide +kernel
theorem d_MT_name_12 : decode M_MT_name.2.1 12 = .ok (.aload_n 0, 1) := by decide +kernel
theorem d_MT_name_13 : decode M_MT_name.2.1 13 = .ok (.getfield 18, 3) := by decide +kernel
theorem d_MT_name_16 : decode M_MT_name.2.1 16 = .ok (.aload_n 2, 1) := by decide +kernel
theorem d_MT_name_17 : decode M_MT_name.2.1 17 = .ok (.invokestatic 72, 3) := by decide +kernel
theorem xw_691 : (Jvm.Cond.methodLink "MarkerText" (72 : Nat) ({ cls := "MarkerText", name := "numberOf", desc := "([LMarkerText$Name;Ljava/lang/String;)I" } : Jvm.MethodName)) ∈ xT := xT_at 691 (by decide +kernel) (by decide +kernel)
theorem xcs_MT_72 : xCS "MarkerText" 72 M_MT_numberOf 2 := ⟨xcb_MT_numberOf, xw_692, Or.inl xw_691⟩
theorem d_MT_name_20 : decode M_MT_name.2.1 20 = .ok (.iconst (-1), 1) := by decide +kernel
theorem d_MT_name_21 : decode M_MT_name.2.1 21 = .ok (.if_icmp .eq 13, 3) := by decide +kernel
theorem d_MT_name_24 : decode M_MT_name.2.1 24 = .ok (.new 76, 3) := by decide +kernel
theorem d_MT_name_27 : decode M_MT_name.2.1 27 = .ok (.dup, 1) := by decide +kernel
theorem d_MT_name_28 : decode M_MT_name.2.1 28 = .ok (.ldc 78, 2) := by decide +kernel
theorem d_MT_name_30 : decode M_MT_name.2.1 30 = .ok (.invokespecial 80, 3) := by decide +kernel
theorem d_MT_name_33 : decode M_MT_name.2.1 33 = .ok (.athrow, 1) := by decide +kernel
theorem xw_456 : (Jvm.Cond.code ({ cls := "MarkerText", name := "name", desc := "(I)I" } : Jvm.MethodName) prog_1_method_3_code (3 : Nat) (Option.some Jvm.ClassFile.FieldType.int)) ∈ xT := xT_at 456 (by decide +kernel) (by decide +kernel)
theorem d_MT_name_34 : decode M_MT_name.2.1 34 = .ok (.iload_n 1, 1) := by decide +kernel
theorem d_MT_name_35 : decode M_MT_name.2.1 35 = .ok (.ifCond .eq 18, 3) := by decide +kernel
theorem d_MT_name_38 : decode M_MT_name.2.1 38 = .ok (.iload_n 1, 1) := by decide +kernel
theorem d_MT_name_39 : decode M_MT_name.2.1 39 = .ok (.iconst 1, 1) := by decide +kernel
theorem d_MT_name_40 : decode M_MT_name.2.1 40 = .ok (.if_icmp .eq 13, 3) := by decide +kernel
theorem d_MT_name_43 : decode M_MT_name.2.1 43 = .ok (.new 76, 3) := by decide +kernel
theorem d_MT_name_46 : decode M_MT_name.2.1 46 = .ok (.dup, 1) := by decide +kernel
theorem d_MT_name_47 : decode M_MT_name.2.1 47 = .ok (.ldc 83, 2) := by decide +kernel
theorem d_MT_name_49 : decode M_MT_name.2.1 49 = .ok (.invokespecial 80, 3) := by decide +kernel
theorem d_MT_name_52 : decode M_MT_name.2.1 52 = .ok (.athrow, 1) := by decide +kernel
theorem d_MT_name_53 : decode M_MT_name.2.1 53 = .ok (.aload_n 0, 1) := by decide +kernel
theorem d_MT_name_54 : decode M_MT_name.2.1 54 = .ok (.getfield 22, 3) := by decide +kernel
theorem d_MT_name_57 : decode M_MT_name.2.1 57 = .ok (.bipush 6, 2) := by decide +kernel
theorem d_MT_name_59 : decode M_MT_name.2.1 59 = .ok (.if_icmp .lt 13, 3) := by decide +kernel
theorem d_MT_name_62 : decode M_MT_name.2.1 62 = .ok (.new 85, 3) := by decide +kernel
theorem d_MT_name_65 : decode M_MT_name.2.1 65 = .ok (.dup, 1) := by decide +kernel
theorem d_MT_name_66 : decode M_MT_name.2.1 66 = .ok (.ldc 87, 2) := by decide +kernel
theorem d_MT_name_68 : decode M_MT_name.2.1 68 = .ok (.invokespecial 89, 3) := by decide +kernel
theorem d_MT_name_71 : decode M_MT_name.2.1 71 = .ok (.athrow, 1) := by decide +kernel
theorem d_MT_name_72 : decode M_MT_name.2.1 72 = .ok (.aload_n 0, 1) := by decide +kernel
theorem d_MT_name_73 : decode M_MT_name.2.1 73 = .ok (.getfield 18, 3) := by decide +kernel
theorem d_MT_name_76 : decode M_MT_name.2.1 76 = .ok (.aload_n 0, 1) := by decide +kernel
theorem d_MT_name_77 : decode M_MT_name.2.1 77 = .ok (.getfield 22, 3) := by decide +kernel
theorem d_MT_name_80 : decode M_MT_name.2.1 80 = .ok (.new 16, 3) := by decide +kernel
theorem xw_714 : (Jvm.Cond.instantiable "MarkerText$Name" (4 : Nat)) ∈ xT := xT_at 714 (by decide +kernel) (by decide +kernel)
theorem xnw_MT_16 : xNw "MarkerText" 16 k_Name 4 [.null, .int 0, .null, .int 0] := ⟨_, _, _, rfl, rfl, by decide +kernel, xw_75, xw_714, xw_21⟩
theorem d_MT_name_83 : decode M_MT_name.2.1 83 = .ok (.dup, 1) := by decide +kernel
theorem d_MT_name_84 : decode M_MT_name.2.1 84 = .ok (.aload_n 2, 1) := by decide +kernel
theorem d_MT_name_85 : decode M_MT_name.2.1 85 = .ok (.iload_n 1, 1) := by decide +kernel
theorem d_MT_name_86 : decode M_MT_name.2.1 86 = .ok (.invokespecial 90, 3) := by decide +kernel
theorem xw_717 : (Jvm.Cond.code ({ cls := "MarkerText$Name", name := "<init>", desc := "(Ljava/lang/String;I)V" } : Jvm.MethodName) prog_6_method_1_code (3 : Nat) (Option.none : Option Jvm.ClassFile.FieldType)) ∈ xT := xT_at 717 (by decide +kernel) (by decide +kernel)
theorem xcb_Name_init : xcb M_Name_init 2 := ⟨xw_717, xw_21, by decide, by decide, by decide, by decide +kernel⟩
theorem xw_715 : (Jvm.Cond.methodLink "MarkerText" (90 : Nat) ({ cls := "MarkerText$Name", name := "<init>", desc := "(Ljava/lang/String;I)V" } : Jvm.MethodName)) ∈ xT := xT_at 715 (by decide +kernel) (by decide +kernel)
theorem xw_716 : (Jvm.Cond.instanceMethod ({ cls := "MarkerText$Name", name := "<init>", desc := "(Ljava/lang/String;I)V" } : Jvm.MethodName)) ∈ xT := xT_at 716 (by decide +kernel) (by decide +kernel)
theorem xci_MT_90 : xCI "MarkerText" 90 M_Name_init 2 := ⟨xcb_Name_init, rfl, rfl, xw_716, Or.inl xw_715⟩
theorem d_MT_name_89 : decode M_MT_name.2.1 89 = .ok (.aastore, 1) := by decide +kernel
theorem d_MT_name_90 : decode M_MT_name.2.1 90 = .ok (.aload_n 0, 1) := by decide +kernel
theorem d_MT_name_91 : decode M_MT_name.2.1 91 = .ok (.dup, 1) := by decide +kernel
theorem d_MT_name_92 : decode M_MT_name.2.1 92 = .ok (.getfield 22, 3) := by decide +kernel
theorem d_MT_name_95 : decode M_MT_name.2.1 95 = .ok (.iconst 1, 1) := by decide +kernel
theorem d_MT_name_96 : decode M_MT_name.2.1 96 = .ok (.iadd, 1) := by decide +kernel
theorem d_MT_name_97 : decode M_MT_name.2.1 97 = .ok (.putfield 22, 3) := by decide +kernel
theorem d_MT_name_100 : decode M_MT_name.2.1 100 = .ok (.aload_n 0, 1) := by decide +kernel
theorem d_MT_name_101 : decode M_MT_name.2.1 101 = .ok (.getfield 22, 3) := by decide +kernel
theorem d_MT_name_104 : decode M_MT_name.2.1 104 = .ok (.iconst 1, 1) := by decide +kernel
theorem d_MT_name_105 : decode M_MT_name.2.1 105 = .ok (.isub, 1) := by decide +kernel
theorem d_MT_name_106 : decode M_MT_name.2.1 106 = .ok (.ireturn, 1) := by decide +kernel
end
section MT6
variable {l : Launch} {G : XG} {h : XH} {c n d : Nat}
/-- what name() answers -/
def nmu (Ns : List NmT) (t : List Nat) (k : Int32) : Bool ⊕ (Nat × List NmT) :=
  if ¬ spl t ∨ ¬ nof Ns t = none then .inl true else if ¬ k = 0 ∧ ¬ k = 1 then .inl true else if 6 ≤ Ns.length then .inl false else .inr (Ns.length, Ns ++ [(t, k.toNatClampNeg, [])])
theorem set_app {as : List Nat} {N y : Nat} (hl : as.length < N) : (as.map (Value.ref ·) ++ List.replicate (N - as.length) Value.null).set as.length (.ref y) = (as ++ [y]).map (Value.ref ·) ++ List.replicate (N - (as ++ [y]).length) Value.null := by
  obtain ⟨k, hk⟩ : ∃ k, N - as.length = k + 1 := ⟨N - as.length - 1, by omega⟩
  rw [hk, List.length_append, show N - (as.length + [y].length) = k by simp; omega, List.set_append_right _ _ (by simp), List.length_map, Nat.sub_self, List.replicate_succ, List.set_cons_zero, List.map_append, List.append_assoc]
  rfl
theorem isNs.push {h' : XH} {F : List Nat} {r y ka kd : Nat} {as kas t : List Nat} {Ns : List NmT} (hN : isNs G h r as kas Ns) (hf : xfr h h' F) (hn : xno h F [k_Name, k_aknown, k_String, k_asbyte]) (hr : h' r = some (k_aName, (as ++ [y]).map (.ref ·) ++ List.replicate (6 - (as ++ [y]).length) .null)) (hy : h y = none) (hk : h ka = none) (hx : isN G h' y ka t kd []) (h8 : t.length ≤ 8) (h6 : Ns.length < 6) : isNs G h' r (as ++ [y]) (kas ++ [ka]) (Ns ++ [(t, kd, [])]) := by
  obtain ⟨e1, e2, e3, e4, e5, e6, e7⟩ := hN
  have hat : ∀ (i : Nat) (x : NmT) (a ka : Nat), Ns[i]? = some x → as[i]? = some a → kas[i]? = some ka → isN G h' a ka x.1 x.2.1 x.2.2 ∧ x.1.length ≤ 8 ∧ h a ≠ none ∧ h ka ≠ none := fun i x a ka g1 g2 g3 => by
    obtain ⟨y1, y2⟩ := e7 i x a ka g1 g2 g3
    obtain ⟨sa, z1, -, z3, -⟩ := id y1
    exact ⟨y1.fr hf (hn.sub (by decide)) (hn.at z1 (by decide)) (hn.at z3 (by decide)), y2, fun z => (by rw [z1] at z; cases z), fun z => (by rw [z3] at z; cases z)⟩
  have hin : ∀ i, i < Ns.length → ∃ x a ka, Ns[i]? = some x ∧ as[i]? = some a ∧ kas[i]? = some ka := fun i hi => ⟨_, _, _, List.getElem?_eq_getElem hi, List.getElem?_eq_getElem (by omega), List.getElem?_eq_getElem (by omega)⟩
  refine ⟨hr, by simp [e2], by simp [e3], by simp; omega, ?_, ?_, fun i x a kb g1 g2 g3 => ?_⟩
  · rw [List.nodup_append]
    refine ⟨e5, by simp, fun u hu v hv z => ?_⟩
    rw [List.mem_singleton] at hv
    subst hv
    subst z
    obtain ⟨i, hi, hiu⟩ := List.getElem_of_mem hu
    obtain ⟨x, a, kb, w1, w2, w3⟩ := hin i (by omega)
    rw [List.getElem?_eq_getElem hi, hiu] at w2
    cases w2
    exact (hat i x _ kb w1 (by rw [List.getElem?_eq_getElem hi, hiu]) w3).2.2.1 hy
  · rw [List.nodup_append]
    refine ⟨e6, by simp, fun u hu v hv z => ?_⟩
    rw [List.mem_singleton] at hv
    subst hv
    subst z
    obtain ⟨i, hi, hiu⟩ := List.getElem_of_mem hu
    obtain ⟨x, a, kb, w1, w2, w3⟩ := hin i (by omega)
    rw [List.getElem?_eq_getElem hi, hiu] at w3
    cases w3
    exact (hat i x a _ w1 w2 (by rw [List.getElem?_eq_getElem hi, hiu])).2.2.2 hk
  · by_cases hi : i < Ns.length
    · rw [List.getElem?_append_left hi] at g1
      rw [List.getElem?_append_left (by omega)] at g2
      rw [List.getElem?_append_left (by omega)] at g3
      obtain ⟨y1, y2, -⟩ := hat i x a kb g1 g2 g3
      exact ⟨y1, y2⟩
    · rw [List.getElem?_append_right (by omega)] at g1
      rw [List.getElem?_append_right (by omega)] at g2
      rw [List.getElem?_append_right (by omega)] at g3
      have hz : i - Ns.length = 0 := by
        have := (List.getElem?_eq_some_iff.mp g1).1
        simp at this
        omega
      rw [e2, hz] at g2
      rw [e3, hz] at g3
      rw [hz] at g1
      cases g1
      cases g2
      cases g3
      exact ⟨hx, h8⟩
theorem c_name (hG : xGk G) (htr : l.stackTraces = false) (hd : 12 ≤ d) {x ta va m na ca ea ch pa : Nat} {as kas cas t : List Nat} {Ns : List NmT} {Cs : List CnT} {il : Option Nat} {lv : Nat → Nat} {Pt : PtT} {k : Int32} (hM : isMT G h x ta va m na ca ea ch pa as kas cas t Ns Cs il lv Pt) (hc : c + 4 ≤ xCB) (hn : n + t.length + 16 ≤ xSB) :
    XMT l G d M_MT_name [.ref x, .int k] h c n (fun v h' c' n' => c' ≤ c + 4 ∧ n' ≤ n + t.length + 16 ∧ xap h h' ∧ match nmu Ns t k with
      | .inl b => (∃ a, v = some (.retAddr a) ∧ h' a = some (exK b, [])) ∧ isMT G h' x ta va m na ca ea ch pa as kas cas [] Ns Cs il lv Pt
      | .inr (r, Ns') => v = some (.int (nI r)) ∧ ∃ as' kas', isMT G h' x ta va m na ca ea ch pa as' kas' cas [] Ns' Cs il lv Pt) := by
  obtain ⟨d, rfl⟩ : ∃ q, d = q + 1 := ⟨d - 1, by omega⟩
  obtain ⟨e0, hB, hm, hl, -⟩ := id hM
  obtain ⟨z, bs, b1, b2, -⟩ := id hB
  refine XMT.of (by decide +kernel) (Nat.le_of_ble_eq_true rfl) ?_
  refine x_aload_n d_MT_name_0 rfl rfl ?_
  refine x_callV (As := []) (k := k_MarkerText) rfl xcv_MT_64_MT (Or.inl e0) (c_takeText (by omega) e0 hB (by omega) (by omega) (by omega)) rfl rfl (Nat.le_of_ble_eq_true rfl) d_MT_name_1 ?_
  rintro v h1 c1 n1 ⟨q, rfl, hS, hB1, f1, hc1, hn1⟩
  have hM1 := hM.frB f1 (xno1 b1 (by decide)) hB1 hm (by simp)
  obtain ⟨e1, -, -, -, hN1, hC1, hL1, hCh1, hPa1, hP1⟩ := id hM1
  have xa1 : xap h h1 := ⟨[ta], f1, xno1 b1 (by decide)⟩
  have hthr : ∀ a w, h1 a = none → xap h (xup h1 a w) ∧ isMT G (xup h1 a w) x ta va m na ca ea ch pa as kas cas [] Ns Cs il lv Pt := fun a w ha => ⟨⟨[ta], f1.up (Or.inr (f1.2 _ ha)), xno1 b1 (by decide)⟩, hM1.frB (F := []) (xfr.rf.up (Or.inr ha)) (fun q hq => by cases hq) (hB1.up ha) hm (by simp)⟩
  refine x_astore_n (L' := [_, _, _]) d_MT_name_4 rfl rfl rfl ?_
  refine x_aload_n d_MT_name_5 rfl rfl ?_
  refine x_callS (As := [_]) xcs_MT_68 (c_isSpelled hG (by omega) hS (by omega)) rfl rfl (Nat.le_of_ble_eq_true rfl) d_MT_name_6 ?_
  rintro v h2 c2 n2 ⟨rfl, rfl, rfl, rfl⟩
  by_cases hsp : spl t
  · rw [if_pos hsp]
    refine x_if_eq (tgt := 24) d_MT_name_9 (by decide) (fun ht => absurd ht (by decide)) (fun _ => ?_)
    refine x_aload_n d_MT_name_12 rfl rfl ?_
    refine x_get xf_MT_18_MT (Or.inl e1) rfl d_MT_name_13 ?_
    refine x_aload_n d_MT_name_16 rfl rfl ?_
    refine x_callS (As := [_, _]) xcs_MT_72 (c_numberOf (by omega) hN1 hS (by omega)) rfl rfl (Nat.le_of_ble_eq_true rfl) d_MT_name_17 ?_
    rintro v h3 c3 n3 ⟨rfl, rfl, rfl, rfl⟩
    cases hno : nof Ns t with
    | some i =>
      rw [show nmu Ns t k = .inl true from if_pos (Or.inr (by rw [hno]; exact fun z => by cases z))]
      have hi := (nof_some hno).1
      have hN6 : Ns.length ≤ 6 := hN1.2.2.2.1
      have hne1 : ¬ (nI i = -1) := fun z => by
        have : ¬ (nI i < 0) := nI_pos (by omega)
        rw [z] at this
        exact this (by decide)
      refine x_iconst (v := (-1)) d_MT_name_20 (by decide) ?_
      refine x_icmp_eq (tgt := 34) d_MT_name_21 (by decide) (fun ht => absurd ht hne1) (fun _ => ?_)
      refine x_throwS (k := k_IllegalArgumentException) (i := 10) (tx := "no new name") hG.1 htr xw_456 rfl (by decide +kernel) (by decide +kernel) (by decide) xnw_MT_76 xthr_MT_80 (by decide +kernel) (by omega) (Nat.le_of_ble_eq_true rfl) (by omega) (by omega) d_MT_name_24 d_MT_name_27 d_MT_name_28 d_MT_name_30 d_MT_name_33 (fun b hn_b hk_b => ?_)
      exact ⟨by omega, by omega, (hthr b _ hn_b).1, ⟨b, rfl, xup_self⟩, (hthr b _ hn_b).2⟩
    | none =>
      have hnm : nmu Ns t k = if ¬ k = 0 ∧ ¬ k = 1 then .inl true else if 6 ≤ Ns.length then .inl false else .inr (Ns.length, Ns ++ [(t, k.toNatClampNeg, [])]) := if_neg (fun z => z.elim (fun z => z hsp) (fun z => z hno))
      rw [hnm]
      by_cases hk : ¬ k = 0 ∧ ¬ k = 1
      · rw [if_pos hk]
        refine x_iconst (v := (-1)) d_MT_name_20 (by decide) ?_
        refine x_icmp_eq (tgt := 34) d_MT_name_21 (by decide) (fun _ => ?_) (fun hn => absurd rfl hn)
        refine x_iload_n d_MT_name_34 rfl ?_
        refine x_if_eq (tgt := 53) d_MT_name_35 (by decide) (fun ht => absurd ht hk.1) (fun _ => ?_)
        refine x_iload_n d_MT_name_38 rfl ?_
        refine x_iconst (v := 1) d_MT_name_39 (by decide) ?_
        refine x_icmp_eq (tgt := 53) d_MT_name_40 (by decide) (fun ht => absurd ht hk.2) (fun _ => ?_)
        refine x_throwS (k := k_IllegalArgumentException) (i := 11) (tx := "no such kind") hG.1 htr xw_456 rfl (by decide +kernel) (by decide +kernel) (by decide) xnw_MT_76 xthr_MT_80 (by decide +kernel) (by omega) (Nat.le_of_ble_eq_true rfl) (by omega) (by omega) d_MT_name_43 d_MT_name_46 d_MT_name_47 d_MT_name_49 d_MT_name_52 (fun b hn_b hk_b => ?_)
        exact ⟨by omega, by omega, (hthr b _ hn_b).1, ⟨b, rfl, xup_self⟩, (hthr b _ hn_b).2⟩
      · rw [if_neg hk]
        by_cases hk0 : k = 0
        · subst hk0
          refine x_iconst (v := (-1)) d_MT_name_20 (by decide) ?_
          refine x_icmp_eq (tgt := 34) d_MT_name_21 (by decide) (fun _ => ?_) (fun hn => absurd rfl hn)
          refine x_iload_n d_MT_name_34 rfl ?_
          refine x_if_eq (tgt := 53) d_MT_name_35 (by decide) (fun _ => ?_) (fun hn => absurd rfl hn)
          have hN6 : Ns.length ≤ 6 := hN1.2.2.2.1
          by_cases h6 : 6 ≤ Ns.length
          · rw [if_pos h6]
            refine x_aload_n d_MT_name_53 rfl rfl ?_
            refine x_get xf_MT_22_MT (Or.inl e1) rfl d_MT_name_54 ?_
            refine x_bipush (v := 6) d_MT_name_57 (by decide) ?_
            refine x_icmp_lt (tgt := 72) d_MT_name_59 (by decide) (fun ht => absurd ht (nI_nlt (b := 6) h6 (by omega))) (fun _ => ?_)
            refine x_throwS (k := k_IllegalStateException) (i := 12) (tx := "too many names") hG.1 htr xw_456 rfl (by decide +kernel) (by decide +kernel) (by decide) xnw_MT_85 xthr_MT_89 (by decide +kernel) (by omega) (Nat.le_of_ble_eq_true rfl) (by omega) (by omega) d_MT_name_62 d_MT_name_65 d_MT_name_66 d_MT_name_68 d_MT_name_71 (fun b hn_b hk_b => ?_)
            exact ⟨by omega, by omega, (hthr b _ hn_b).1, ⟨b, rfl, xup_self⟩, (hthr b _ hn_b).2⟩
          · rw [if_neg h6]
            obtain ⟨hna, w2, w3, w4, -⟩ := id hN1
            refine x_aload_n d_MT_name_53 rfl rfl ?_
            refine x_get xf_MT_22_MT (Or.inl e1) rfl d_MT_name_54 ?_
            refine x_bipush (v := 6) d_MT_name_57 (by decide) ?_
            refine x_icmp_lt (tgt := 72) d_MT_name_59 (by decide) (fun _ => ?_) (fun hn => absurd (nI_lt (b := 6) (by omega) (by omega)) hn)
            refine x_aload_n d_MT_name_72 rfl rfl ?_
            refine x_get xf_MT_18_MT (Or.inl e1) rfl d_MT_name_73 ?_
            refine x_aload_n d_MT_name_76 rfl rfl ?_
            refine x_get xf_MT_22_MT (Or.inl e1) rfl d_MT_name_77 ?_
            refine x_new xnw_MT_16 (by omega) (by omega) d_MT_name_80 (fun y hn_y hk_y => ?_)
            refine x_dup d_MT_name_83 rfl ?_
            have f3y : xfr h3 (xup h3 y (k_Name, [.null, .int 0, .null, .int 0])) [] := xfr.rf.up (Or.inr hn_y)
            have hS4 : isS G (xup h3 y (k_Name, [.null, .int 0, .null, .int 0])) q t := hS.fr f3y (fun _ z => by cases z)
            refine x_aload_n d_MT_name_84 rfl rfl ?_
            refine x_iload_n d_MT_name_85 rfl ?_
            refine x_callI (As := [_, _]) xci_MT_90 (c_Name_init (kd := 0) (by omega) xup_self hS4 (by omega) (by omega) (by omega)) rfl rfl (Nat.le_of_ble_eq_true rfl) d_MT_name_86 ?_
            rintro v h5 c5 n5 ⟨rfl, ka, hka, hN5, f5, rfl, rfl⟩
            have hka3 : h3 ka = none := f3y.2 _ hka
            have f35 : xfr h3 h5 [] := f3y.tr f5 (fun q hq hq2 => by rw [List.mem_singleton] at hq2; subst hq2; exact absurd hn_y hq)
            have e5 := f35.1 _ _ e1 (by simp)
            have hna5 := f35.1 _ _ hna (by simp)
            obtain ⟨sa5, hy5, -⟩ := id hN5
            refine x_aast (k := k_aName) (kb := k_Name) rfl rfl (Or.inl rfl) hna5 (Or.inl hy5) (nI_pos (by omega)) (by rw [nI_clamp (by omega)]; exact or_at (by omega) (by omega)) d_MT_name_89 ?_
            refine x_hp (h' := xup h5 na (k_aName, (as ++ [y]).map (.ref ·) ++ List.replicate (6 - (as ++ [y]).length) .null)) (by rw [nI_clamp (by omega), ← w2, set_app (by omega)]) ?_
            have e6 : xup h5 na (k_aName, (as ++ [y]).map (.ref ·) ++ List.replicate (6 - (as ++ [y]).length) .null) x = some (mtS ta na ca ea ch pa Ns.length Cs.length il) := by rw [xup_ne (xne e5 hna5 (by decide))]; exact e5
            refine x_aload_n d_MT_name_90 rfl rfl ?_
            refine x_dup d_MT_name_91 rfl ?_
            refine x_get xf_MT_22_MT (Or.inl e6) rfl d_MT_name_92 ?_
            refine x_iconst (v := 1) d_MT_name_95 (by decide) ?_
            refine x_iadd d_MT_name_96 ?_
            refine x_top (w := .int (nI (Ns.length + 1))) (by rw [show (1 : Int32) = nI 1 from rfl, nI_add]) ?_
            refine x_put xf_MT_22_MT xp_MT_2 rfl rfl e6 rfl rfl d_MT_name_97 ?_
            refine x_aload_n d_MT_name_100 rfl rfl ?_
            refine x_get xf_MT_22_MT (Or.inl xup_self) rfl d_MT_name_101 ?_
            refine x_iconst (v := 1) d_MT_name_104 (by decide) ?_
            refine x_isub d_MT_name_105 ?_
            refine x_top (w := .int (nI Ns.length)) (by rw [show (1 : Int32) = nI 1 from rfl, pk_sub (by omega)]; rfl) ?_
            refine x_ret2 ?_
            refine x_iret d_MT_name_106 rfl ?_
            have f59 : ∀ w w', xfr h5 (xup (xup h5 na w) x w') [na, x] := fun w w' => (xfr.rf.up (Or.inl (by simp))).up (Or.inl (by simp))
            have f39 : ∀ w w', xfr h3 (xup (xup h5 na w) x w') [na, x] := fun w w' => (f35.mono (by simp)).tr (f59 w w') (fun q _ hq => hq)
            have hno2 : ∀ ks, k_aName ∉ ks → k_MarkerText ∉ ks → xno h3 [na, x] ks := fun ks z1 z2 => xno2 hna e1 z1 z2
            obtain ⟨zb, bsb, bb1, bb2, -⟩ := id hB1
            refine ⟨fun a z => (by cases z), by omega, by omega, xq.tr xa1 ⟨[na, x], f39 _ _, hno2 _ (by decide) (by decide)⟩, rfl, as ++ [y], kas ++ [ka], ?_, hB1.fr (f39 _ _) ((hno2 [k_StringBuilder] (by decide) (by decide)).at bb1 (by decide)) ((hno2 [k_abyte] (by decide) (by decide)).at bb2 (by decide)), hm, by simp, ?_, hC1.fr (f39 _ _) (hno2 _ (by decide) (by decide)), hL1.fr' (f39 _ _) (hno2 _ (by decide) (by decide)), hCh1.fr (f39 _ _) (hno2 _ (by decide) (by decide)), hPa1.fr (f39 _ _) (hno2 _ (by decide) (by decide)), hP1⟩
            · rw [xup_self, List.length_append]
              rfl
            · refine hN1.push (f39 _ _) (hno2 _ (by decide) (by decide)) (by rw [xup_ne (xne hna5 e5 (by decide)), xup_self]) hn_y hka3 (hN5.fr (f59 _ _) (xno2 hna5 e5 (by decide) (by decide)) ?_ ?_) hsp.1.2 (by omega)
              · simp only [List.mem_cons, List.not_mem_nil, or_false, not_or]
                exact ⟨Ne.symm (xneN hna hn_y), Ne.symm (xneN e1 hn_y)⟩
              · simp only [List.mem_cons, List.not_mem_nil, or_false, not_or]
                exact ⟨Ne.symm (xneN hna hka3), Ne.symm (xneN e1 hka3)⟩
        · have hk1 : k = 1 := Classical.byContradiction (fun z => hk ⟨hk0, z⟩)
          subst hk1
          refine x_iconst (v := (-1)) d_MT_name_20 (by decide) ?_
          refine x_icmp_eq (tgt := 34) d_MT_name_21 (by decide) (fun _ => ?_) (fun hn => absurd rfl hn)
          refine x_iload_n d_MT_name_34 rfl ?_
          refine x_if_eq (tgt := 53) d_MT_name_35 (by decide) (fun ht => absurd ht (by decide)) (fun _ => ?_)
          refine x_iload_n d_MT_name_38 rfl ?_
          refine x_iconst (v := 1) d_MT_name_39 (by decide) ?_
          refine x_icmp_eq (tgt := 53) d_MT_name_40 (by decide) (fun _ => ?_) (fun hn => absurd rfl hn)
          have hN6 : Ns.length ≤ 6 := hN1.2.2.2.1
          by_cases h6 : 6 ≤ Ns.length
          · rw [if_pos h6]
            refine x_aload_n d_MT_name_53 rfl rfl ?_
            refine x_get xf_MT_22_MT (Or.inl e1) rfl d_MT_name_54 ?_
            refine x_bipush (v := 6) d_MT_name_57 (by decide) ?_
            refine x_icmp_lt (tgt := 72) d_MT_name_59 (by decide) (fun ht => absurd ht (nI_nlt (b := 6) h6 (by omega))) (fun _ => ?_)
            refine x_throwS (k := k_IllegalStateException) (i := 12) (tx := "too many names") hG.1 htr xw_456 rfl (by decide +kernel) (by decide +kernel) (by decide) xnw_MT_85 xthr_MT_89 (by decide +kernel) (by omega) (Nat.le_of_ble_eq_true rfl) (by omega) (by omega) d_MT_name_62 d_MT_name_65 d_MT_name_66 d_MT_name_68 d_MT_name_71 (fun b hn_b hk_b => ?_)
            exact ⟨by omega, by omega, (hthr b _ hn_b).1, ⟨b, rfl, xup_self⟩, (hthr b _ hn_b).2⟩
          · rw [if_neg h6]
            obtain ⟨hna, w2, w3, w4, -⟩ := id hN1
            refine x_aload_n d_MT_name_53 rfl rfl ?_
            refine x_get xf_MT_22_MT (Or.inl e1) rfl d_MT_name_54 ?_
            refine x_bipush (v := 6) d_MT_name_57 (by decide) ?_
            refine x_icmp_lt (tgt := 72) d_MT_name_59 (by decide) (fun _ => ?_) (fun hn => absurd (nI_lt (b := 6) (by omega) (by omega)) hn)
            refine x_aload_n d_MT_name_72 rfl rfl ?_
            refine x_get xf_MT_18_MT (Or.inl e1) rfl d_MT_name_73 ?_
            refine x_aload_n d_MT_name_76 rfl rfl ?_
            refine x_get xf_MT_22_MT (Or.inl e1) rfl d_MT_name_77 ?_
            refine x_new xnw_MT_16 (by omega) (by omega) d_MT_name_80 (fun y hn_y hk_y => ?_)
            refine x_dup d_MT_name_83 rfl ?_
            have f3y : xfr h3 (xup h3 y (k_Name, [.null, .int 0, .null, .int 0])) [] := xfr.rf.up (Or.inr hn_y)
            have hS4 : isS G (xup h3 y (k_Name, [.null, .int 0, .null, .int 0])) q t := hS.fr f3y (fun _ z => by cases z)
            refine x_aload_n d_MT_name_84 rfl rfl ?_
            refine x_iload_n d_MT_name_85 rfl ?_
            refine x_callI (As := [_, _]) xci_MT_90 (c_Name_init (kd := 1) (by omega) xup_self hS4 (by omega) (by omega) (by omega)) rfl rfl (Nat.le_of_ble_eq_true rfl) d_MT_name_86 ?_
            rintro v h5 c5 n5 ⟨rfl, ka, hka, hN5, f5, rfl, rfl⟩
            have hka3 : h3 ka = none := f3y.2 _ hka
            have f35 : xfr h3 h5 [] := f3y.tr f5 (fun q hq hq2 => by rw [List.mem_singleton] at hq2; subst hq2; exact absurd hn_y hq)
            have e5 := f35.1 _ _ e1 (by simp)
            have hna5 := f35.1 _ _ hna (by simp)
            obtain ⟨sa5, hy5, -⟩ := id hN5
            refine x_aast (k := k_aName) (kb := k_Name) rfl rfl (Or.inl rfl) hna5 (Or.inl hy5) (nI_pos (by omega)) (by rw [nI_clamp (by omega)]; exact or_at (by omega) (by omega)) d_MT_name_89 ?_
            refine x_hp (h' := xup h5 na (k_aName, (as ++ [y]).map (.ref ·) ++ List.replicate (6 - (as ++ [y]).length) .null)) (by rw [nI_clamp (by omega), ← w2, set_app (by omega)]) ?_
            have e6 : xup h5 na (k_aName, (as ++ [y]).map (.ref ·) ++ List.replicate (6 - (as ++ [y]).length) .null) x = some (mtS ta na ca ea ch pa Ns.length Cs.length il) := by rw [xup_ne (xne e5 hna5 (by decide))]; exact e5
            refine x_aload_n d_MT_name_90 rfl rfl ?_
            refine x_dup d_MT_name_91 rfl ?_
            refine x_get xf_MT_22_MT (Or.inl e6) rfl d_MT_name_92 ?_
            refine x_iconst (v := 1) d_MT_name_95 (by decide) ?_
            refine x_iadd d_MT_name_96 ?_
            refine x_top (w := .int (nI (Ns.length + 1))) (by rw [show (1 : Int32) = nI 1 from rfl, nI_add]) ?_
            refine x_put xf_MT_22_MT xp_MT_2 rfl rfl e6 rfl rfl d_MT_name_97 ?_
            refine x_aload_n d_MT_name_100 rfl rfl ?_
            refine x_get xf_MT_22_MT (Or.inl xup_self) rfl d_MT_name_101 ?_
            refine x_iconst (v := 1) d_MT_name_104 (by decide) ?_
            refine x_isub d_MT_name_105 ?_
            refine x_top (w := .int (nI Ns.length)) (by rw [show (1 : Int32) = nI 1 from rfl, pk_sub (by omega)]; rfl) ?_
            refine x_ret2 ?_
            refine x_iret d_MT_name_106 rfl ?_
            have f59 : ∀ w w', xfr h5 (xup (xup h5 na w) x w') [na, x] := fun w w' => (xfr.rf.up (Or.inl (by simp))).up (Or.inl (by simp))
            have f39 : ∀ w w', xfr h3 (xup (xup h5 na w) x w') [na, x] := fun w w' => (f35.mono (by simp)).tr (f59 w w') (fun q _ hq => hq)
            have hno2 : ∀ ks, k_aName ∉ ks → k_MarkerText ∉ ks → xno h3 [na, x] ks := fun ks z1 z2 => xno2 hna e1 z1 z2
            obtain ⟨zb, bsb, bb1, bb2, -⟩ := id hB1
            refine ⟨fun a z => (by cases z), by omega, by omega, xq.tr xa1 ⟨[na, x], f39 _ _, hno2 _ (by decide) (by decide)⟩, rfl, as ++ [y], kas ++ [ka], ?_, hB1.fr (f39 _ _) ((hno2 [k_StringBuilder] (by decide) (by decide)).at bb1 (by decide)) ((hno2 [k_abyte] (by decide) (by decide)).at bb2 (by decide)), hm, by simp, ?_, hC1.fr (f39 _ _) (hno2 _ (by decide) (by decide)), hL1.fr' (f39 _ _) (hno2 _ (by decide) (by decide)), hCh1.fr (f39 _ _) (hno2 _ (by decide) (by decide)), hPa1.fr (f39 _ _) (hno2 _ (by decide) (by decide)), hP1⟩
            · rw [xup_self, List.length_append]
              rfl
            · refine hN1.push (f39 _ _) (hno2 _ (by decide) (by decide)) (by rw [xup_ne (xne hna5 e5 (by decide)), xup_self]) hn_y hka3 (hN5.fr (f59 _ _) (xno2 hna5 e5 (by decide) (by decide)) ?_ ?_) hsp.1.2 (by omega)
              · simp only [List.mem_cons, List.not_mem_nil, or_false, not_or]
                exact ⟨Ne.symm (xneN hna hn_y), Ne.symm (xneN e1 hn_y)⟩
              · simp only [List.mem_cons, List.not_mem_nil, or_false, not_or]
                exact ⟨Ne.symm (xneN hna hka3), Ne.symm (xneN e1 hka3)⟩
  · rw [if_neg hsp, show nmu Ns t k = .inl true from if_pos (Or.inl hsp)]
    refine x_if_eq (tgt := 24) d_MT_name_9 (by decide) (fun _ => ?_) (fun hn => absurd rfl hn)
    refine x_throwS (k := k_IllegalArgumentException) (i := 10) (tx := "no new name") hG.1 htr xw_456 rfl (by decide +kernel) (by decide +kernel) (by decide) xnw_MT_76 xthr_MT_80 (by decide +kernel) (by omega) (Nat.le_of_ble_eq_true rfl) (by omega) (by omega) d_MT_name_24 d_MT_name_27 d_MT_name_28 d_MT_name_30 d_MT_name_33 (fun b hn_b hk_b => ?_)
    exact ⟨by omega, by omega, (hthr b _ hn_b).1, ⟨b, rfl, xup_self⟩, (hthr b _ hn_b).2⟩
end MT6
