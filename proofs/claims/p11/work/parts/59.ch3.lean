section
abbrev y_Choices_truths : MethodName := ⟨"MarkerText$Choices", "truths", "([LMarkerText$Condition;I)I"⟩
abbrev M_Choices_truths : XMt := (y_Choices_truths, prog_2_method_8_code, 5, (some .int))
theorem d_Choices_truths_5 : decode M_Choices_truths.2.1 5 = .ok (.iload 4, 2) := by decide +kernel
theorem d_Choices_truths_7 : decode M_Choices_truths.2.1 7 = .ok (.aload_n 1, 1) := by decide +kernel
theorem d_Choices_truths_8 : decode M_Choices_truths.2.1 8 = .ok (.arraylength, 1) := by decide +kernel
theorem d_Choices_truths_9 : decode M_Choices_truths.2.1 9 = .ok (.if_icmp .ge 50, 3) := by decide +kernel
theorem d_Choices_truths_59 : decode M_Choices_truths.2.1 59 = .ok (.iload_n 3, 1) := by decide +kernel
theorem d_Choices_truths_60 : decode M_Choices_truths.2.1 60 = .ok (.ireturn, 1) := by decide +kernel
theorem d_Choices_truths_12 : decode M_Choices_truths.2.1 12 = .ok (.iload_n 2, 1) := by decide +kernel
theorem d_Choices_truths_13 : decode M_Choices_truths.2.1 13 = .ok (.iload 4, 2) := by decide +kernel
theorem d_Choices_truths_15 : decode M_Choices_truths.2.1 15 = .ok (.ishr, 1) := by decide +kernel
theorem d_Choices_truths_16 : decode M_Choices_truths.2.1 16 = .ok (.iconst 1, 1) := by decide +kernel
theorem d_Choices_truths_17 : decode M_Choices_truths.2.1 17 = .ok (.iand, 1) := by decide +kernel
theorem d_Choices_truths_18 : decode M_Choices_truths.2.1 18 = .ok (.iconst 1, 1) := by decide +kernel
theorem d_Choices_truths_19 : decode M_Choices_truths.2.1 19 = .ok (.if_icmp .ne 34, 3) := by decide +kernel
theorem d_Choices_truths_22 : decode M_Choices_truths.2.1 22 = .ok (.aload_n 1, 1) := by decide +kernel
theorem d_Choices_truths_23 : decode M_Choices_truths.2.1 23 = .ok (.iload 4, 2) := by decide +kernel
theorem d_Choices_truths_25 : decode M_Choices_truths.2.1 25 = .ok (.aaload, 1) := by decide +kernel
theorem d_Choices_truths_26 : decode M_Choices_truths.2.1 26 = .ok (.ifnull 27, 3) := by decide +kernel
theorem d_Choices_truths_53 : decode M_Choices_truths.2.1 53 = .ok (.iinc 4 1, 3) := by decide +kernel
theorem d_Choices_truths_56 : decode M_Choices_truths.2.1 56 = .ok (.goto (-51), 3) := by decide +kernel
theorem d_Choices_truths_29 : decode M_Choices_truths.2.1 29 = .ok (.aload_n 1, 1) := by decide +kernel
theorem d_Choices_truths_30 : decode M_Choices_truths.2.1 30 = .ok (.iload 4, 2) := by decide +kernel
theorem d_Choices_truths_32 : decode M_Choices_truths.2.1 32 = .ok (.aaload, 1) := by decide +kernel
theorem d_Choices_truths_33 : decode M_Choices_truths.2.1 33 = .ok (.getfield 96, 3) := by decide +kernel
theorem xw_1142 : (Jvm.Cond.fieldLinkNest "MarkerText$Choices" (96 : Nat) "MarkerText$Condition" "root" "LMarkerText$Node;" "MarkerText") ∈ xT := xT_at 1142 (by decide +kernel) (by decide +kernel)
theorem xf_Choices_96_Condition : xF "MarkerText$Choices" 96 k_Condition 0 := ⟨_, _, _, "MarkerText$Condition", rfl, by decide, Or.inr ⟨_, xw_1142⟩, Or.inl rfl⟩
theorem d_Choices_truths_36 : decode M_Choices_truths.2.1 36 = .ok (.aload_n 0, 1) := by decide +kernel
theorem d_Choices_truths_37 : decode M_Choices_truths.2.1 37 = .ok (.getfield 29, 3) := by decide +kernel
theorem d_Choices_truths_40 : decode M_Choices_truths.2.1 40 = .ok (.invokevirtual 100, 3) := by decide +kernel
theorem xw_353 : (Jvm.Cond.methodLink "MarkerText$Choices" (100 : Nat) ({ cls := "MarkerText$Node", name := "isTrueAt", desc := "([J)Z" } : Jvm.MethodName)) ∈ xT := xT_at 353 (by decide +kernel) (by decide +kernel)
theorem xcv_Choices_100_Test : xCV "MarkerText$Choices" 100 "MarkerText$Test" M_Test_isTrueAt 1 := ⟨xcb_Test_isTrueAt, xw_299, Or.inr (Or.inr ⟨⟨"MarkerText$Node", "isTrueAt", "([J)Z"⟩, "MarkerText$Node", xw_353, xw_288, xw_305, rfl, ⟨by decide, by decide⟩, Or.inl xw_287⟩)⟩
theorem xcv_Choices_100_Join : xCV "MarkerText$Choices" 100 "MarkerText$Join" M_Join_isTrueAt 1 := ⟨xcb_Join_isTrueAt, xw_293, Or.inr (Or.inr ⟨⟨"MarkerText$Node", "isTrueAt", "([J)Z"⟩, "MarkerText$Node", xw_353, xw_288, xw_292, rfl, ⟨by decide, by decide⟩, Or.inl xw_287⟩)⟩
theorem xcv_Choices_100_Negation : xCV "MarkerText$Choices" 100 "MarkerText$Negation" M_Negation_isTrueAt 1 := ⟨xcb_Negation_isTrueAt, xw_296, Or.inr (Or.inr ⟨⟨"MarkerText$Node", "isTrueAt", "([J)Z"⟩, "MarkerText$Node", xw_353, xw_288, xw_304, rfl, ⟨by decide, by decide⟩, Or.inl xw_287⟩)⟩
theorem xcv_Choices_100_Constant : xCV "MarkerText$Choices" 100 "MarkerText$Constant" M_Constant_isTrueAt 1 := ⟨xcb_Constant_isTrueAt, xw_290, Or.inr (Or.inr ⟨⟨"MarkerText$Node", "isTrueAt", "([J)Z"⟩, "MarkerText$Node", xw_353, xw_288, xw_289, rfl, ⟨by decide, by decide⟩, Or.inl xw_287⟩)⟩
theorem xD_Choices_100 : ∀ q ∈ ([(k_Test, M_Test_isTrueAt), (k_Join, M_Join_isTrueAt), (k_Negation, M_Negation_isTrueAt), (k_Constant, M_Constant_isTrueAt)] : List (Nat × XMt)), ∃ C T N, xk[q.1]? = some (.inl (C, T, N)) ∧ xCV "MarkerText$Choices" 100 C q.2 1 := List.forall_mem_cons.mpr ⟨⟨_, _, _, rfl, xcv_Choices_100_Test⟩, List.forall_mem_cons.mpr ⟨⟨_, _, _, rfl, xcv_Choices_100_Join⟩, List.forall_mem_cons.mpr ⟨⟨_, _, _, rfl, xcv_Choices_100_Negation⟩, List.forall_mem_cons.mpr ⟨⟨_, _, _, rfl, xcv_Choices_100_Constant⟩, fun _ hz => by cases hz⟩⟩⟩⟩
theorem d_Choices_truths_43 : decode M_Choices_truths.2.1 43 = .ok (.ifCond .eq 10, 3) := by decide +kernel
theorem d_Choices_truths_46 : decode M_Choices_truths.2.1 46 = .ok (.iload_n 3, 1) := by decide +kernel
theorem d_Choices_truths_47 : decode M_Choices_truths.2.1 47 = .ok (.iconst 1, 1) := by decide +kernel
theorem d_Choices_truths_48 : decode M_Choices_truths.2.1 48 = .ok (.iload 4, 2) := by decide +kernel
theorem d_Choices_truths_50 : decode M_Choices_truths.2.1 50 = .ok (.ishl, 1) := by decide +kernel
theorem d_Choices_truths_51 : decode M_Choices_truths.2.1 51 = .ok (.ior, 1) := by decide +kernel
theorem d_Choices_truths_52 : decode M_Choices_truths.2.1 52 = .ok (.istore_n 3, 1) := by decide +kernel
theorem d_Choices_truths_0 : decode M_Choices_truths.2.1 0 = .ok (.iconst 0, 1) := by decide +kernel
theorem d_Choices_truths_1 : decode M_Choices_truths.2.1 1 = .ok (.istore_n 3, 1) := by decide +kernel
theorem d_Choices_truths_2 : decode M_Choices_truths.2.1 2 = .ok (.iconst 0, 1) := by decide +kernel
theorem d_Choices_truths_3 : decode M_Choices_truths.2.1 3 = .ok (.istore 4, 2) := by decide +kernel
end
section CH3
variable {l : Launch} {G : XG} {h : XH} {c n d : Nat}
theorem bit_or0 : ∀ b, b < 256 → ∀ j, j < 8 → nI b ||| ((1 : Int32) <<< (nI j &&& 31)) = nI (b ||| 2 ^ j) ∧ b ||| 2 ^ j < 256 := by decide +kernel
/-- whether a condition of a set is true at levels -/
def trB (Cs : List CnT) (S : Nat) (lv : Nat → Nat) (i : Nat) : Bool := S.testBit i && (match Cs[i]? with
  | none => false
  | some D => D.1.2.1 lv)
/-- the bits of those that are -/
def trs (Cs : List CnT) (S : Nat) (lv : Nat → Nat) : Nat → Nat
  | 0 => 0
  | i + 1 => if trB Cs S lv i then trs Cs S lv i ||| 2 ^ i else trs Cs S lv i
theorem trs_lt {Cs : List CnT} {S : Nat} {lv : Nat → Nat} : ∀ i, i ≤ 8 → trs Cs S lv i < 256 := by
  intro i
  induction i with
  | zero => intro _; exact (by decide : 0 < 256)
  | succ i ih =>
    intro hi
    have := ih (by omega)
    unfold trs
    split
    · exact (bit_or0 _ this i (by omega)).2
    · exact this
theorem c_truths (hd : 162 ≤ d) {o ca cl S : Nat} {v1 v2 v3 v4 v5 v7 : Value} {cas : List Nat} {Cs : List CnT} {lv : Nat → Nat} (ho : h o = some (k_Choices, [v1, v2, v3, v4, v5, .ref cl, v7])) (hC : isCs G h ca cas Cs) (hL : isLv h k_achl cl lv) (hS : S < 256) : XM l G d M_Choices_truths [.ref o, .ref ca, .int (nI S)] h c n (xSame (.int (nI (trs Cs S lv 8))) h c n) := by
  obtain ⟨d, rfl⟩ : ∃ q, d = q + 1 := ⟨d - 1, by omega⟩
  obtain ⟨e1, e2, e3, e4⟩ := id hC
  have hlen : (cas.map (Value.ref ·) ++ List.replicate (8 - cas.length) Value.null).length = 8 := by simp; omega
  refine XM.of (by decide +kernel) (Nat.le_of_ble_eq_true rfl) ?_
  have lp : ∀ (k i : Nat), i + k = 8 → XW l G M_Choices_truths (d + 1) 5 [some (.ref o), some (.ref ca), some (.int (nI S)), some (.int (nI (trs Cs S lv i))), some (.int (nI i))] [] h c n (xSame (.int (nI (trs Cs S lv 8))) h c n) := by
    intro k
    induction k with
    | zero =>
      intro i hi
      obtain rfl : i = 8 := by omega
      refine x_iload d_Choices_truths_5 rfl ?_
      refine x_aload_n d_Choices_truths_7 rfl rfl ?_
      refine x_alen (k := k_aCondition) rfl (Or.inl e1) (v := nI 8) (by rw [hlen]; rfl) d_Choices_truths_8 ?_
      refine x_icmp_ge (tgt := 59) d_Choices_truths_9 (by decide) (fun _ => ?_) (fun hn => absurd (by decide) hn)
      refine x_iload_n d_Choices_truths_59 rfl ?_
      refine x_iret d_Choices_truths_60 rfl ?_
      exact ⟨rfl, rfl, rfl, rfl⟩
    | succ k ih =>
      intro i hi
      have hgo := ih (i + 1) (by omega)
      have hb := bit_at0 S hS i (by omega)
      have hat := or_at (cas := cas) (N := 8) (i := i) (by omega) (by omega)
      have hat' : (cas.map (Value.ref ·) ++ List.replicate (8 - cas.length) Value.null)[(nI i).toNatClampNeg]? = some (oR cas[i]?) := by rw [nI_clamp (by omega)]; exact hat
      by_cases hz : (nI S >>> (nI i &&& 31)) &&& 1 = 1
      · rw [decide_eq_true hz] at hb
        cases hca : cas[i]? with
        | none =>
          rw [hca] at hat'
          have hcs : Cs[i]? = none := by
            have := List.getElem?_eq_none_iff.mp hca
            exact List.getElem?_eq_none (by omega)
          rw [show trs Cs S lv (i + 1) = trs Cs S lv i from if_neg (by unfold trB; rw [hcs, Bool.and_false]; exact fun z => by cases z)] at hgo
          refine x_iload d_Choices_truths_5 rfl ?_
          refine x_aload_n d_Choices_truths_7 rfl rfl ?_
          refine x_alen (k := k_aCondition) rfl (Or.inl e1) (v := nI 8) (by rw [hlen]; rfl) d_Choices_truths_8 ?_
          refine x_icmp_ge (tgt := 59) d_Choices_truths_9 (by decide) (fun ht => absurd ht (nI_ge (b := 8) (by omega) (by omega))) (fun _ => ?_)
          refine x_iload_n d_Choices_truths_12 rfl ?_
          refine x_iload d_Choices_truths_13 rfl ?_
          refine x_ishr d_Choices_truths_15 ?_
          refine x_iconst (v := 1) d_Choices_truths_16 (by decide) ?_
          refine x_iand d_Choices_truths_17 ?_
          refine x_iconst (v := 1) d_Choices_truths_18 (by decide) ?_
          refine x_icmp_ne (tgt := 53) d_Choices_truths_19 (by decide) (fun ht => absurd hz ht) (fun _ => ?_)
          refine x_aload_n d_Choices_truths_22 rfl rfl ?_
          refine x_iload d_Choices_truths_23 rfl ?_
          refine x_aald (k := k_aCondition) rfl rfl (Or.inl e1) (nI_pos (by omega)) hat' d_Choices_truths_25 ?_
          refine x_ifnullN (tgt := 53) d_Choices_truths_26 (by decide) ?_
          refine x_iinc (v := nI (i + 1)) (L' := [_, _, _, _, _]) d_Choices_truths_53 rfl (by exact xw_iinc1) rfl rfl ?_
          refine x_goto (tgt := 5) d_Choices_truths_56 (by decide) ?_
          exact hgo
        | some a =>
          rw [hca] at hat'
          have hil : i < Cs.length := by
            have := (List.getElem?_eq_some_iff.mp hca).1
            omega
          have hcs : Cs[i]? = some Cs[i] := List.getElem?_eq_getElem hil
          obtain ⟨ra, la, sa, ea', es, y1, y2, -⟩ := e4 i _ a hcs hca
          refine x_iload d_Choices_truths_5 rfl ?_
          refine x_aload_n d_Choices_truths_7 rfl rfl ?_
          refine x_alen (k := k_aCondition) rfl (Or.inl e1) (v := nI 8) (by rw [hlen]; rfl) d_Choices_truths_8 ?_
          refine x_icmp_ge (tgt := 59) d_Choices_truths_9 (by decide) (fun ht => absurd ht (nI_ge (b := 8) (by omega) (by omega))) (fun _ => ?_)
          refine x_iload_n d_Choices_truths_12 rfl ?_
          refine x_iload d_Choices_truths_13 rfl ?_
          refine x_ishr d_Choices_truths_15 ?_
          refine x_iconst (v := 1) d_Choices_truths_16 (by decide) ?_
          refine x_iand d_Choices_truths_17 ?_
          refine x_iconst (v := 1) d_Choices_truths_18 (by decide) ?_
          refine x_icmp_ne (tgt := 53) d_Choices_truths_19 (by decide) (fun ht => absurd hz ht) (fun _ => ?_)
          refine x_aload_n d_Choices_truths_22 rfl rfl ?_
          refine x_iload d_Choices_truths_23 rfl ?_
          refine x_aald (k := k_aCondition) rfl rfl (Or.inl e1) (nI_pos (by omega)) hat' d_Choices_truths_25 ?_
          refine x_ifnull d_Choices_truths_26 ?_
          refine x_aload_n d_Choices_truths_29 rfl rfl ?_
          refine x_iload d_Choices_truths_30 rfl ?_
          refine x_aald (k := k_aCondition) rfl rfl (Or.inl e1) (nI_pos (by omega)) hat' d_Choices_truths_32 ?_
          refine x_get xf_Choices_96_Condition (Or.inl y1) rfl d_Choices_truths_33 ?_
          refine x_aload_n d_Choices_truths_36 rfl rfl ?_
          refine x_get xf_Choices_29_Choices (Or.inl ho) rfl d_Choices_truths_37 ?_
          refine x_callD (As := [_]) xD_Choices_100 (c_isTrueAt hL (by omega) y2) rfl rfl (Nat.le_of_ble_eq_true rfl) d_Choices_truths_40 ?_
          rintro v h2 c2 n2 ⟨rfl, rfl, rfl, rfl⟩
          cases htv : Cs[i].1.2.1 lv with
          | false =>
            rw [show trs Cs S lv (i + 1) = trs Cs S lv i from if_neg (by unfold trB; rw [hcs]; show ¬ (S.testBit i && Cs[i].1.2.1 lv) = true; rw [htv, Bool.and_false]; exact fun z => by cases z)] at hgo
            refine x_if_eq (tgt := 53) d_Choices_truths_43 (by decide) (fun _ => ?_) (fun hn => absurd rfl hn)
            refine x_iinc (v := nI (i + 1)) (L' := [_, _, _, _, _]) d_Choices_truths_53 rfl (by exact xw_iinc1) rfl rfl ?_
            refine x_goto (tgt := 5) d_Choices_truths_56 (by decide) ?_
            exact hgo
          | true =>
            have hbo := bit_or0 _ (trs_lt (Cs := Cs) (S := S) (lv := lv) i (by omega)) i (by omega)
            rw [show trs Cs S lv (i + 1) = trs Cs S lv i ||| 2 ^ i from if_pos (by unfold trB; rw [hcs]; show (S.testBit i && Cs[i].1.2.1 lv) = true; rw [htv, ← hb]; rfl)] at hgo
            refine x_if_eq (tgt := 53) d_Choices_truths_43 (by decide) (fun ht => absurd ht (by decide)) (fun _ => ?_)
            refine x_iload_n d_Choices_truths_46 rfl ?_
            refine x_iconst (v := 1) d_Choices_truths_47 (by decide) ?_
            refine x_iload d_Choices_truths_48 rfl ?_
            refine x_ishl d_Choices_truths_50 ?_
            refine x_ior d_Choices_truths_51 ?_
            refine x_top (w := .int (nI (trs Cs S lv i ||| 2 ^ i))) (by rw [← hbo.1]) ?_
            refine x_istore_n (L' := [_, _, _, _, _]) d_Choices_truths_52 rfl rfl ?_
            refine x_iinc (v := nI (i + 1)) (L' := [_, _, _, _, _]) d_Choices_truths_53 rfl (by exact xw_iinc1) rfl rfl ?_
            refine x_goto (tgt := 5) d_Choices_truths_56 (by decide) ?_
            exact hgo
      · rw [decide_eq_false hz] at hb
        rw [show trs Cs S lv (i + 1) = trs Cs S lv i from if_neg (by unfold trB; rw [← hb, Bool.false_and]; exact fun z => by cases z)] at hgo
        refine x_iload d_Choices_truths_5 rfl ?_
        refine x_aload_n d_Choices_truths_7 rfl rfl ?_
        refine x_alen (k := k_aCondition) rfl (Or.inl e1) (v := nI 8) (by rw [hlen]; rfl) d_Choices_truths_8 ?_
        refine x_icmp_ge (tgt := 59) d_Choices_truths_9 (by decide) (fun ht => absurd ht (nI_ge (b := 8) (by omega) (by omega))) (fun _ => ?_)
        refine x_iload_n d_Choices_truths_12 rfl ?_
        refine x_iload d_Choices_truths_13 rfl ?_
        refine x_ishr d_Choices_truths_15 ?_
        refine x_iconst (v := 1) d_Choices_truths_16 (by decide) ?_
        refine x_iand d_Choices_truths_17 ?_
        refine x_iconst (v := 1) d_Choices_truths_18 (by decide) ?_
        refine x_icmp_ne (tgt := 53) d_Choices_truths_19 (by decide) (fun _ => ?_) (fun hn => absurd hn hz)
        refine x_iinc (v := nI (i + 1)) (L' := [_, _, _, _, _]) d_Choices_truths_53 rfl (by exact xw_iinc1) rfl rfl ?_
        refine x_goto (tgt := 5) d_Choices_truths_56 (by decide) ?_
        exact hgo
  refine x_iconst (v := 0) d_Choices_truths_0 (by decide) ?_
  refine x_istore_n (L' := [_, _, _, _, _]) d_Choices_truths_1 rfl rfl ?_
  refine x_iconst (v := 0) d_Choices_truths_2 (by decide) ?_
  refine x_istore (L' := [_, _, _, _, _]) d_Choices_truths_3 rfl rfl ?_
  exact lp 8 0 rfl
end CH3
