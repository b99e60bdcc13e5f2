section
theorem d_MT_holds_10 : decode M_MT_holds.2.1 10 = .ok (.aload_n 2, 1) := by decide +kernel
theorem d_MT_holds_11 : decode M_MT_holds.2.1 11 = .ok (.getfield 147, 3) := by decide +kernel
theorem xw_1141 : (Jvm.Cond.fieldLinkNest "MarkerText" (147 : Nat) "MarkerText$Condition" "root" "LMarkerText$Node;" "MarkerText") ∈ xT := xT_at 1141 (by decide +kernel) (by decide +kernel)
theorem xf_MT_147_Condition : xF "MarkerText" 147 k_Condition 0 := ⟨_, _, _, "MarkerText$Condition", rfl, by decide, Or.inr ⟨_, xw_1141⟩, Or.inl rfl⟩
theorem d_MT_holds_14 : decode M_MT_holds.2.1 14 = .ok (.aload_n 0, 1) := by decide +kernel
theorem d_MT_holds_15 : decode M_MT_holds.2.1 15 = .ok (.getfield 38, 3) := by decide +kernel
theorem d_MT_holds_18 : decode M_MT_holds.2.1 18 = .ok (.invokevirtual 151, 3) := by decide +kernel
theorem xw_286 : (Jvm.Cond.methodLink "MarkerText" (151 : Nat) ({ cls := "MarkerText$Node", name := "isTrueAt", desc := "([J)Z" } : Jvm.MethodName)) ∈ xT := xT_at 286 (by decide +kernel) (by decide +kernel)
theorem xcv_MT_151_Test : xCV "MarkerText" 151 "MarkerText$Test" M_Test_isTrueAt 1 := ⟨xcb_Test_isTrueAt, xw_299, Or.inr (Or.inr ⟨⟨"MarkerText$Node", "isTrueAt", "([J)Z"⟩, "MarkerText$Node", xw_286, xw_288, xw_305, rfl, ⟨by decide, by decide⟩, Or.inl xw_287⟩)⟩
theorem xcv_MT_151_Join : xCV "MarkerText" 151 "MarkerText$Join" M_Join_isTrueAt 1 := ⟨xcb_Join_isTrueAt, xw_293, Or.inr (Or.inr ⟨⟨"MarkerText$Node", "isTrueAt", "([J)Z"⟩, "MarkerText$Node", xw_286, xw_288, xw_292, rfl, ⟨by decide, by decide⟩, Or.inl xw_287⟩)⟩
theorem xcv_MT_151_Negation : xCV "MarkerText" 151 "MarkerText$Negation" M_Negation_isTrueAt 1 := ⟨xcb_Negation_isTrueAt, xw_296, Or.inr (Or.inr ⟨⟨"MarkerText$Node", "isTrueAt", "([J)Z"⟩, "MarkerText$Node", xw_286, xw_288, xw_304, rfl, ⟨by decide, by decide⟩, Or.inl xw_287⟩)⟩
theorem xcv_MT_151_Constant : xCV "MarkerText" 151 "MarkerText$Constant" M_Constant_isTrueAt 1 := ⟨xcb_Constant_isTrueAt, xw_290, Or.inr (Or.inr ⟨⟨"MarkerText$Node", "isTrueAt", "([J)Z"⟩, "MarkerText$Node", xw_286, xw_288, xw_289, rfl, ⟨by decide, by decide⟩, Or.inl xw_287⟩)⟩
theorem xD_MT_151 : ∀ q ∈ ([(k_Test, M_Test_isTrueAt), (k_Join, M_Join_isTrueAt), (k_Negation, M_Negation_isTrueAt), (k_Constant, M_Constant_isTrueAt)] : List (Nat × XMt)), ∃ C T N, xk[q.1]? = some (.inl (C, T, N)) ∧ xCV "MarkerText" 151 C q.2 1 := List.forall_mem_cons.mpr ⟨⟨_, _, _, rfl, xcv_MT_151_Test⟩, List.forall_mem_cons.mpr ⟨⟨_, _, _, rfl, xcv_MT_151_Join⟩, List.forall_mem_cons.mpr ⟨⟨_, _, _, rfl, xcv_MT_151_Negation⟩, List.forall_mem_cons.mpr ⟨⟨_, _, _, rfl, xcv_MT_151_Constant⟩, fun _ hz => by cases hz⟩⟩⟩⟩
theorem d_MT_holds_21 : decode M_MT_holds.2.1 21 = .ok (.ifCond .eq 7, 3) := by decide +kernel
theorem d_MT_holds_24 : decode M_MT_holds.2.1 24 = .ok (.iconst 1, 1) := by decide +kernel
theorem d_MT_holds_25 : decode M_MT_holds.2.1 25 = .ok (.goto 4, 3) := by decide +kernel
end
section MT3
variable {l : Launch} {G : XG} {h : XH} {c n d : Nat}
def xiv (us : List Nat) : List Value := us.map (fun v => .int (nI v))
/-- the CHOICES: VALUES, how many, starts, samples, picks, levels, count -/
def isCh (h : XH) (o : Nat) (vs : List Nat) (us : Nat) (st sa pk lv : List Nat) (co : Nat) : Prop := ∃ cv cs ca cp cl : Nat, h o = some (k_Choices, [.ref cv, .int (nI us), .ref cs, .ref ca, .ref cp, .ref cl, .int (nI co)]) ∧ h cv = some (k_achv, vs.map (fun v => .long (lN v))) ∧ h cs = some (k_astarts, xiv st) ∧ h ca = some (k_asamples, xiv sa) ∧ h cp = some (k_apicks, xiv pk) ∧ h cl = some (k_achl, lv.map (fun v => .long (lN v)))
theorem isCh.fr {h' : XH} {F : List Nat} {o us co : Nat} {vs st sa pk lv : List Nat} (hc : isCh h o vs us st sa pk lv co) (hf : xfr h h' F) (hn : xno h F [k_Choices, k_achv, k_astarts, k_asamples, k_apicks, k_achl]) : isCh h' o vs us st sa pk lv co := by
  obtain ⟨a, b, e, f, g, e0, e1, e2, e3, e4, e5⟩ := hc
  exact ⟨a, b, e, f, g, hf.1 _ _ e0 (hn.at e0 (by decide)), hf.1 _ _ e1 (hn.at e1 (by decide)), hf.1 _ _ e2 (hn.at e2 (by decide)), hf.1 _ _ e3 (hn.at e3 (by decide)), hf.1 _ _ e4 (hn.at e4 (by decide)), hf.1 _ _ e5 (hn.at e5 (by decide))⟩
/-- CHOICES of any content -/
def okCh (h : XH) (o : Nat) : Prop := ∃ (vs : List Nat) (us : Nat) (st sa pk lv : List Nat) (co : Nat), isCh h o vs us st sa pk lv co ∧ vs.length = 356 ∧ us ≤ 356 ∧ st.length = 6 ∧ sa.length = 6 ∧ pk.length = 6 ∧ lv.length = 6
theorem okCh.fr {h' : XH} {F : List Nat} {o : Nat} (hc : okCh h o) (hf : xfr h h' F) (hn : xno h F [k_Choices, k_achv, k_astarts, k_asamples, k_apicks, k_achl]) : okCh h' o := by
  obtain ⟨vs, us, st, sa, pk, lv, co, e, e1⟩ := hc
  exact ⟨vs, us, st, sa, pk, lv, co, e.fr hf hn, e1⟩
/-- the PARTING: how many classes, their truths, sizes, first CHOICES, the class of each truth; how many SAMPLES each name has -/
abbrev PtT : Type := Nat × List Nat × List Nat × List Nat × List Nat × List Nat
def isPa (h : XH) (o : Nat) (p : PtT) : Prop := ∃ pt ps pf pc pa : Nat, h o = some (k_Parting, [.int (nI p.1), .ref pt, .ref ps, .ref pf, .ref pc, .ref pa]) ∧ h pt = some (k_aptr, xiv p.2.1) ∧ h ps = some (k_apsz, xiv p.2.2.1) ∧ h pf = some (k_apfi, xiv p.2.2.2.1) ∧ h pc = some (k_apcl, xiv p.2.2.2.2.1) ∧ h pa = some (k_apsa, xiv p.2.2.2.2.2)
def okP (p : PtT) : Prop := p.1 ≤ 256 ∧ p.2.1.length = 256 ∧ p.2.2.1.length = 256 ∧ p.2.2.2.1.length = 256 ∧ p.2.2.2.2.1.length = 256 ∧ p.2.2.2.2.2.length = 6 ∧ (∀ v ∈ p.2.1, v < 256) ∧ (∀ v ∈ p.2.2.1, v ≤ 20000) ∧ (∀ v ∈ p.2.2.2.1, v < 20000) ∧ (∀ v ∈ p.2.2.2.2.1, v ≤ p.1) ∧ ∀ v ∈ p.2.2.2.2.2, v ≤ 20001
theorem isPa.fr {h' : XH} {F : List Nat} {o : Nat} {p : PtT} (hc : isPa h o p) (hf : xfr h h' F) (hn : xno h F [k_Parting, k_aptr, k_apsz, k_apfi, k_apcl, k_apsa]) : isPa h' o p := by
  obtain ⟨a, b, e, f, g, e0, e1, e2, e3, e4, e5⟩ := hc
  exact ⟨a, b, e, f, g, hf.1 _ _ e0 (hn.at e0 (by decide)), hf.1 _ _ e1 (hn.at e1 (by decide)), hf.1 _ _ e2 (hn.at e2 (by decide)), hf.1 _ _ e3 (hn.at e3 (by decide)), hf.1 _ _ e4 (hn.at e4 (by decide)), hf.1 _ _ e5 (hn.at e5 (by decide))⟩
abbrev mtS (ta na ca ea ch pa nn nc : Nat) (il : Option Nat) : Nat × List Value := (k_MarkerText, [.ref ta, .ref na, .int (nI nn), .ref ca, .int (nI nc), .int (oI il), .ref ea, .ref ch, .ref pa])
/-- a MarkerText's parts -/
def isMT (G : XG) (h : XH) (x ta va m na ca ea ch pa : Nat) (as kas cas t : List Nat) (Ns : List NmT) (Cs : List CnT) (il : Option Nat) (lv : Nat → Nat) (Pt : PtT) : Prop := h x = some (mtS ta na ca ea ch pa Ns.length Cs.length il) ∧ isB h ta va t m ∧ m ≤ 400 ∧ t.length ≤ 160 ∧ isNs G h na as kas Ns ∧ isCs G h ca cas Cs ∧ isLv h k_aenv ea lv ∧ okCh h ch ∧ isPa h pa Pt ∧ okP Pt
abbrev kMT : List Nat := [k_MarkerText, k_aName, k_Name, k_aknown, k_String, k_asbyte, k_aCondition, k_Condition, k_Test, k_Join, k_Negation, k_Constant, k_avals, k_ArrayList, k_aObject, k_aenv, k_Choices, k_achv, k_astarts, k_asamples, k_apicks, k_achl, k_Parting, k_aptr, k_apsz, k_apfi, k_apcl, k_apsa]
theorem isLv.fr' {h' : XH} {F : List Nat} {kl r : Nat} {lv : Nat → Nat} (hL : isLv h kl r lv) (hf : xfr h h' F) (hn : xno h F [kl]) : isLv h' kl r lv := by
  obtain ⟨e1, e2, e3⟩ := hL
  exact ⟨e1, hf.1 _ _ e2 (hn.at e2 (by simp)), e3⟩
/-- all but the builder stays -/
theorem isMT.frB {h' : XH} {F : List Nat} {x ta va m na ca ea ch pa va' m' : Nat} {as kas cas t t' : List Nat} {Ns : List NmT} {Cs : List CnT} {il : Option Nat} {lv : Nat → Nat} {Pt : PtT} (hM : isMT G h x ta va m na ca ea ch pa as kas cas t Ns Cs il lv Pt) (hf : xfr h h' F) (hn : xno h F kMT) (hb : isB h' ta va' t' m') (hm : m' ≤ 400) (ht : t'.length ≤ 160) : isMT G h' x ta va' m' na ca ea ch pa as kas cas t' Ns Cs il lv Pt := by
  obtain ⟨e1, e2, e3, e4, e5, e6, e7, e8, e9, e10⟩ := hM
  exact ⟨hf.1 _ _ e1 (hn.at e1 (by decide)), hb, hm, ht, e5.fr hf (hn.sub (by decide)), e6.fr hf (hn.sub (by decide)), e7.fr' hf (hn.sub (by decide)), e8.fr hf (hn.sub (by decide)), e9.fr hf (hn.sub (by decide)), e10⟩
/-- a character is typed -/
abbrev tyOk (t : List Nat) (ch : Nat) : Prop := 32 ≤ ch ∧ ch ≤ 126 ∧ t.length < 160
theorem c_type (hd : 6 ≤ d) {x ta va m na ca ea ch pa cc : Nat} {as kas cas t : List Nat} {Ns : List NmT} {Cs : List CnT} {il : Option Nat} {lv : Nat → Nat} {Pt : PtT} (hM : isMT G h x ta va m na ca ea ch pa as kas cas t Ns Cs il lv Pt) (hch : cc < 65536) (hc : c + 400 ≤ xCB + m) (hn : n + 800 ≤ xSB + 2 * m) :
    XM l G d M_MT_type [.ref x, .int (nI cc)] h c n (fun v h' c' n' => v = some (.int (bI (decide (tyOk t cc)))) ∧ ∃ va' m', isMT G h' x ta va' m' na ca ea ch pa as kas cas (if tyOk t cc then t ++ [cc] else t) Ns Cs il lv Pt ∧ xfr h h' [ta, va] ∧ (va' = va ∨ h va' = none) ∧ xgr 400 m m' c n c' n') := by
  obtain ⟨d, rfl⟩ : ∃ q, d = q + 1 := ⟨d - 1, by omega⟩
  obtain ⟨e0, hB, hm, hl, -⟩ := id hM
  obtain ⟨z, bs, b1, b2, -⟩ := id hB
  refine XM.of (by decide +kernel) (Nat.le_of_ble_eq_true rfl) ?_
  by_cases g1 : 32 ≤ cc
  · by_cases g2 : cc ≤ 126
    · by_cases g3 : t.length < 160
      · rw [if_pos ⟨g1, g2, g3⟩, decide_eq_true (⟨g1, g2, g3⟩ : tyOk t cc)]
        refine x_iload_n d_MT_type_0 rfl ?_
        refine x_bipush (v := 32) d_MT_type_1 (by decide) ?_
        refine x_icmp_lt (tgt := 25) d_MT_type_3 (by decide) (fun ht => absurd ht (nI_nlt (b := 32) g1 (by omega))) (fun _ => ?_)
        refine x_iload_n d_MT_type_6 rfl ?_
        refine x_bipush (v := 126) d_MT_type_7 (by decide) ?_
        refine x_icmp_gt (tgt := 25) d_MT_type_9 (by decide) (fun ht => absurd ht (nI_nlt (a := 126) g2 (by omega))) (fun _ => ?_)
        refine x_aload_n d_MT_type_12 rfl rfl ?_
        refine x_get xf_MT_12_MT (Or.inl e0) rfl d_MT_type_13 ?_
        refine x_callV (As := []) (k := k_StringBuilder) rfl xcv_MT_56_SB (Or.inl b1) (c_SB_length (by omega) b1) rfl rfl (Nat.le_of_ble_eq_true rfl) d_MT_type_16 ?_
        rintro v h1 c1 n1 ⟨rfl, rfl, rfl, rfl⟩
        refine x_sipush (v := 160) d_MT_type_19 (by decide) ?_
        refine x_icmp_lt (tgt := 27) d_MT_type_22 (by decide) (fun _ => ?_) (fun hn => absurd (nI_lt (b := 160) g3 (by omega)) hn)
        refine x_aload_n d_MT_type_27 rfl rfl ?_
        refine x_get xf_MT_12_MT (Or.inl e0) rfl d_MT_type_28 ?_
        refine x_iload_n d_MT_type_31 rfl ?_
        refine x_callV (As := [_]) (k := k_StringBuilder) rfl xcv_MT_60_SB (Or.inl b1) (c_SB_append_C (K := 400) (by omega) hB (by omega) (by omega) hm (by omega) (by omega) (by omega)) rfl rfl (Nat.le_of_ble_eq_true rfl) d_MT_type_32 ?_
        rintro v h2 c2 n2 ⟨rfl, va', m', b', f1, w1, g4⟩
        refine x_pop d_MT_type_35 rfl ?_
        refine x_iconst (v := 1) d_MT_type_36 (by decide) ?_
        refine x_zret d_MT_type_37 rfl rfl ?_
        exact ⟨rfl, va', m', hM.frB f1 (xno2 b1 b2 (by decide) (by decide)) b' g4.2.1 (by simp; omega), f1, w1, g4⟩
      · rw [if_neg (fun z => g3 z.2.2), decide_eq_false (fun z : tyOk t cc => g3 z.2.2)]
        refine x_iload_n d_MT_type_0 rfl ?_
        refine x_bipush (v := 32) d_MT_type_1 (by decide) ?_
        refine x_icmp_lt (tgt := 25) d_MT_type_3 (by decide) (fun ht => absurd ht (nI_nlt (b := 32) g1 (by omega))) (fun _ => ?_)
        refine x_iload_n d_MT_type_6 rfl ?_
        refine x_bipush (v := 126) d_MT_type_7 (by decide) ?_
        refine x_icmp_gt (tgt := 25) d_MT_type_9 (by decide) (fun ht => absurd ht (nI_nlt (a := 126) g2 (by omega))) (fun _ => ?_)
        refine x_aload_n d_MT_type_12 rfl rfl ?_
        refine x_get xf_MT_12_MT (Or.inl e0) rfl d_MT_type_13 ?_
        refine x_callV (As := []) (k := k_StringBuilder) rfl xcv_MT_56_SB (Or.inl b1) (c_SB_length (by omega) b1) rfl rfl (Nat.le_of_ble_eq_true rfl) d_MT_type_16 ?_
        rintro v h1 c1 n1 ⟨rfl, rfl, rfl, rfl⟩
        refine x_sipush (v := 160) d_MT_type_19 (by decide) ?_
        refine x_icmp_lt (tgt := 27) d_MT_type_22 (by decide) (fun ht => absurd ht (nI_nlt (b := 160) (by omega) (by omega))) (fun _ => ?_)
        refine x_iconst (v := 0) d_MT_type_25 (by decide) ?_
        refine x_zret d_MT_type_26 rfl rfl ?_
        exact ⟨rfl, va, m, hM, xfr.rf, Or.inl rfl, by omega⟩
    · rw [if_neg (fun z => g2 z.2.1), decide_eq_false (fun z : tyOk t cc => g2 z.2.1)]
      refine x_iload_n d_MT_type_0 rfl ?_
      refine x_bipush (v := 32) d_MT_type_1 (by decide) ?_
      refine x_icmp_lt (tgt := 25) d_MT_type_3 (by decide) (fun ht => absurd ht (nI_nlt (b := 32) g1 (by omega))) (fun _ => ?_)
      refine x_iload_n d_MT_type_6 rfl ?_
      refine x_bipush (v := 126) d_MT_type_7 (by decide) ?_
      refine x_icmp_gt (tgt := 25) d_MT_type_9 (by decide) (fun _ => ?_) (fun hn => absurd (nI_lt (a := 126) (by omega) (by omega)) hn)
      refine x_iconst (v := 0) d_MT_type_25 (by decide) ?_
      refine x_zret d_MT_type_26 rfl rfl ?_
      exact ⟨rfl, va, m, hM, xfr.rf, Or.inl rfl, by omega⟩
  · rw [if_neg (fun z => g1 z.1), decide_eq_false (fun z : tyOk t cc => g1 z.1)]
    refine x_iload_n d_MT_type_0 rfl ?_
    refine x_bipush (v := 32) d_MT_type_1 (by decide) ?_
    refine x_icmp_lt (tgt := 25) d_MT_type_3 (by decide) (fun _ => ?_) (fun hn => absurd (nI_lt (b := 32) (by omega) (by omega)) hn)
    refine x_iconst (v := 0) d_MT_type_25 (by decide) ?_
    refine x_zret d_MT_type_26 rfl rfl ?_
    exact ⟨rfl, va, m, hM, xfr.rf, Or.inl rfl, by omega⟩
theorem c_place {x ta va m na ca ea ch pa : Nat} {as kas cas t : List Nat} {Ns : List NmT} {Cs : List CnT} {il : Option Nat} {lv : Nat → Nat} {Pt : PtT} (hM : isMT G h x ta va m na ca ea ch pa as kas cas t Ns Cs il lv Pt) : XM l G d M_MT_place [.ref x] h c n (xSame (.int (oI il)) h c n) := by
  obtain ⟨e0, -⟩ := hM
  refine XM.of (by decide +kernel) (Nat.le_of_ble_eq_true rfl) ?_
  refine x_aload_n d_MT_place_0 rfl rfl ?_
  refine x_get xf_MT_35_MT (Or.inl e0) rfl d_MT_place_1 ?_
  refine x_iret d_MT_place_4 rfl ?_
  exact ⟨rfl, rfl, rfl, rfl⟩
/-- what a condition of a number means -/
theorem isCs.at {r : Nat} {k : Int32} {cas : List Nat} {Cs : List CnT} (hC : isCs G h r cas Cs) : (iAt k cas = none ∧ iAt k Cs = none) ∨ ∃ a D, iAt k cas = some a ∧ iAt k Cs = some D ∧ isC G h a D.1 D.2 := by
  obtain ⟨e1, e2, e3, e4⟩ := hC
  by_cases h0 : k < 0
  · exact Or.inl ⟨iAt_lt h0, iAt_lt h0⟩
  · rw [iAt_ge h0, iAt_ge h0]
    by_cases h1 : k.toNatClampNeg < cas.length
    · exact Or.inr ⟨_, _, List.getElem?_eq_getElem h1, List.getElem?_eq_getElem (by omega), e4 _ _ _ (List.getElem?_eq_getElem (by omega)) (List.getElem?_eq_getElem h1)⟩
    · exact Or.inl ⟨List.getElem?_eq_none (by omega), List.getElem?_eq_none (by omega)⟩
def hld (Cs : List CnT) (lv : Nat → Nat) (k : Int32) : Bool := match iAt k Cs with
  | none => false
  | some D => D.1.2.1 lv
theorem c_holds (hd : 162 ≤ d) {x ta va m na ca ea ch pa : Nat} {as kas cas t : List Nat} {Ns : List NmT} {Cs : List CnT} {il : Option Nat} {lv : Nat → Nat} {Pt : PtT} {k : Int32} (hM : isMT G h x ta va m na ca ea ch pa as kas cas t Ns Cs il lv Pt) : XM l G d M_MT_holds [.ref x, .int k] h c n (xSame (.int (bI (hld Cs lv k))) h c n) := by
  obtain ⟨d, rfl⟩ : ∃ q, d = q + 1 := ⟨d - 1, by omega⟩
  obtain ⟨e0, hB, hm, hl, hN, hC, hL, -⟩ := id hM
  refine XM.of (by decide +kernel) (Nat.le_of_ble_eq_true rfl) ?_
  refine x_aload_n d_MT_holds_0 rfl rfl ?_
  refine x_iload_n d_MT_holds_1 rfl ?_
  refine x_callV (As := [_]) (k := k_MarkerText) rfl xcv_MT_143_MT (Or.inl e0) (c_conditionAt e0 hC) rfl rfl (Nat.le_of_ble_eq_true rfl) d_MT_holds_2 ?_
  rintro v h1 c1 n1 ⟨rfl, rfl, rfl, rfl⟩
  rcases hC.at (k := k) with ⟨g1, g2⟩ | ⟨a, D, g1, g2, g3⟩
  · rw [g1, show hld Cs lv k = false by unfold hld; rw [g2]]
    refine x_astore_n (L' := [_, _, _]) d_MT_holds_5 rfl rfl rfl ?_
    refine x_aload_n d_MT_holds_6 rfl rfl ?_
    refine x_ifnullN (tgt := 28) d_MT_holds_7 (by decide) ?_
    refine x_iconst (v := 0) d_MT_holds_28 (by decide) ?_
    refine x_zret d_MT_holds_29 rfl rfl ?_
    exact ⟨rfl, rfl, rfl, rfl⟩
  · rw [g1, show hld Cs lv k = D.1.2.1 lv by unfold hld; rw [g2]]
    obtain ⟨ra, la, sa, ea', es, y1, y2, y3, y4, y5, y6⟩ := id g3
    refine x_astore_n (L' := [_, _, _]) d_MT_holds_5 rfl rfl rfl ?_
    refine x_aload_n d_MT_holds_6 rfl rfl ?_
    refine x_ifnull d_MT_holds_7 ?_
    refine x_aload_n d_MT_holds_10 rfl rfl ?_
    refine x_get xf_MT_147_Condition (Or.inl y1) rfl d_MT_holds_11 ?_
    refine x_aload_n d_MT_holds_14 rfl rfl ?_
    refine x_get xf_MT_38_MT (Or.inl e0) rfl d_MT_holds_15 ?_
    refine x_callD (As := [_]) xD_MT_151 (c_isTrueAt hL (by omega) y2) rfl rfl (Nat.le_of_ble_eq_true rfl) d_MT_holds_18 ?_
    rintro v h2 c2 n2 ⟨rfl, rfl, rfl, rfl⟩
    cases hb : D.1.2.1 lv with
    | false =>
      refine x_if_eq (tgt := 28) d_MT_holds_21 (by decide) (fun _ => ?_) (fun hn => absurd rfl hn)
      refine x_iconst (v := 0) d_MT_holds_28 (by decide) ?_
      refine x_zret d_MT_holds_29 rfl rfl ?_
      exact ⟨rfl, rfl, rfl, rfl⟩
    | true =>
      refine x_if_eq (tgt := 28) d_MT_holds_21 (by decide) (fun ht => absurd ht (by decide)) (fun _ => ?_)
      refine x_iconst (v := 1) d_MT_holds_24 (by decide) ?_
      refine x_goto (tgt := 29) d_MT_holds_25 (by decide) ?_
      refine x_zret d_MT_holds_29 rfl rfl ?_
      exact ⟨rfl, rfl, rfl, rfl⟩
end MT3
