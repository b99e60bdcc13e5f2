section
theorem d_Reader_readTest_72 : decode M_Reader_readTest.2.1 72 = .ok (.aload_n 0, 1) := by decide +kernel
theorem d_Reader_readTest_73 : decode M_Reader_readTest.2.1 73 = .ok (.getfield 39, 3) := by decide +kernel
theorem d_Reader_readTest_76 : decode M_Reader_readTest.2.1 76 = .ok (.aload_n 1, 1) := by decide +kernel
theorem d_Reader_readTest_77 : decode M_Reader_readTest.2.1 77 = .ok (.invokestatic 113, 3) := by decide +kernel
theorem xw_693 : (Jvm.Cond.code ({ cls := "MarkerText", name := "numberOf", desc := "([LMarkerText$Name;Ljava/lang/String;)I" } : Jvm.MethodName) prog_1_method_24_code (3 : Nat) (Option.some Jvm.ClassFile.FieldType.int)) ∈ xT := xT_at 693 (by decide +kernel) (by decide +kernel)
theorem xcb_MT_numberOf : xcb M_MT_numberOf 2 := ⟨xw_693, xw_1, by decide, by decide, by decide, by decide +kernel⟩
theorem xw_962 : (Jvm.Cond.methodLinkNest "MarkerText$Reader" (113 : Nat) ({ cls := "MarkerText", name := "numberOf", desc := "([LMarkerText$Name;Ljava/lang/String;)I" } : Jvm.MethodName) "MarkerText") ∈ xT := xT_at 962 (by decide +kernel) (by decide +kernel)
theorem xw_692 : (Jvm.Cond.static ({ cls := "MarkerText", name := "numberOf", desc := "([LMarkerText$Name;Ljava/lang/String;)I" } : Jvm.MethodName)) ∈ xT := xT_at 692 (by decide +kernel) (by decide +kernel)
theorem xcs_Reader_113 : xCS "MarkerText$Reader" 113 M_MT_numberOf 2 := ⟨xcb_MT_numberOf, xw_692, Or.inr ⟨_, xw_962⟩⟩
theorem d_Reader_readTest_80 : decode M_Reader_readTest.2.1 80 = .ok (.istore 4, 2) := by decide +kernel
theorem d_Reader_readTest_82 : decode M_Reader_readTest.2.1 82 = .ok (.aload_n 0, 1) := by decide +kernel
theorem d_Reader_readTest_83 : decode M_Reader_readTest.2.1 83 = .ok (.getfield 32, 3) := by decide +kernel
theorem xw_864 : (Jvm.Cond.fieldLink "MarkerText$Reader" (32 : Nat) "MarkerText$Reader" "testCount" "I") ∈ xT := xT_at 864 (by decide +kernel) (by decide +kernel)
theorem xf_Reader_32_Reader : xF "MarkerText$Reader" 32 k_Reader 6 := ⟨_, _, _, "MarkerText$Reader", rfl, by decide, Or.inl xw_864, Or.inl rfl⟩
theorem d_Reader_readTest_86 : decode M_Reader_readTest.2.1 86 = .ok (.bipush 40, 2) := by decide +kernel
theorem d_Reader_readTest_88 : decode M_Reader_readTest.2.1 88 = .ok (.if_icmp .ge 13, 3) := by decide +kernel
theorem d_Reader_readTest_101 : decode M_Reader_readTest.2.1 101 = .ok (.aconst_null, 1) := by decide +kernel
theorem d_Reader_readTest_102 : decode M_Reader_readTest.2.1 102 = .ok (.areturn, 1) := by decide +kernel
theorem d_Reader_readTest_91 : decode M_Reader_readTest.2.1 91 = .ok (.iload_n 3, 1) := by decide +kernel
theorem d_Reader_readTest_92 : decode M_Reader_readTest.2.1 92 = .ok (.ifCond .ne 11, 3) := by decide +kernel
theorem d_Reader_readTest_103 : decode M_Reader_readTest.2.1 103 = .ok (.aload_n 0, 1) := by decide +kernel
theorem d_Reader_readTest_104 : decode M_Reader_readTest.2.1 104 = .ok (.dup, 1) := by decide +kernel
theorem d_Reader_readTest_105 : decode M_Reader_readTest.2.1 105 = .ok (.getfield 32, 3) := by decide +kernel
theorem d_Reader_readTest_108 : decode M_Reader_readTest.2.1 108 = .ok (.iconst 1, 1) := by decide +kernel
theorem d_Reader_readTest_109 : decode M_Reader_readTest.2.1 109 = .ok (.iadd, 1) := by decide +kernel
theorem d_Reader_readTest_110 : decode M_Reader_readTest.2.1 110 = .ok (.putfield 32, 3) := by decide +kernel
theorem xp_Reader_6 : xP k_Reader 6 false .int := ⟨_, _, _, rfl, rfl, by decide +kernel⟩
theorem d_Reader_readTest_113 : decode M_Reader_readTest.2.1 113 = .ok (.aload_n 0, 1) := by decide +kernel
theorem d_Reader_readTest_114 : decode M_Reader_readTest.2.1 114 = .ok (.dup, 1) := by decide +kernel
theorem d_Reader_readTest_115 : decode M_Reader_readTest.2.1 115 = .ok (.getfield 25, 3) := by decide +kernel
theorem d_Reader_readTest_118 : decode M_Reader_readTest.2.1 118 = .ok (.aload_n 1, 1) := by decide +kernel
theorem d_Reader_readTest_119 : decode M_Reader_readTest.2.1 119 = .ok (.invokevirtual 52, 3) := by decide +kernel
theorem d_Reader_readTest_122 : decode M_Reader_readTest.2.1 122 = .ok (.iadd, 1) := by decide +kernel
theorem d_Reader_readTest_123 : decode M_Reader_readTest.2.1 123 = .ok (.putfield 25, 3) := by decide +kernel
theorem d_Reader_readTest_126 : decode M_Reader_readTest.2.1 126 = .ok (.iload_n 3, 1) := by decide +kernel
theorem d_Reader_readTest_127 : decode M_Reader_readTest.2.1 127 = .ok (.ifCond .eq 19, 3) := by decide +kernel
theorem d_Reader_readTest_130 : decode M_Reader_readTest.2.1 130 = .ok (.new 117, 3) := by decide +kernel
theorem xw_963 : (Jvm.Cond.classLink "MarkerText$Reader" (117 : Nat) "MarkerText$Constant") ∈ xT := xT_at 963 (by decide +kernel) (by decide +kernel)
theorem xw_964 : (Jvm.Cond.instantiable "MarkerText$Constant" (2 : Nat)) ∈ xT := xT_at 964 (by decide +kernel) (by decide +kernel)
theorem xnw_Reader_117 : xNw "MarkerText$Reader" 117 k_Constant 2 [.int 0, .int 0] := ⟨_, _, _, rfl, rfl, by decide +kernel, xw_963, xw_964, xw_29⟩
theorem d_Reader_readTest_133 : decode M_Reader_readTest.2.1 133 = .ok (.dup, 1) := by decide +kernel
theorem d_Reader_readTest_134 : decode M_Reader_readTest.2.1 134 = .ok (.aload_n 1, 1) := by decide +kernel
theorem d_Reader_readTest_135 : decode M_Reader_readTest.2.1 135 = .ok (.ldc 109, 2) := by decide +kernel
theorem d_Reader_readTest_137 : decode M_Reader_readTest.2.1 137 = .ok (.invokevirtual 97, 3) := by decide +kernel
theorem d_Reader_readTest_140 : decode M_Reader_readTest.2.1 140 = .ok (.invokespecial 119, 3) := by decide +kernel
theorem xw_967 : (Jvm.Cond.code ({ cls := "MarkerText$Constant", name := "<init>", desc := "(Z)V" } : Jvm.MethodName) prog_4_method_1_code (2 : Nat) (Option.none : Option Jvm.ClassFile.FieldType)) ∈ xT := xT_at 967 (by decide +kernel) (by decide +kernel)
theorem xcb_Constant_init : xcb M_Constant_init 1 := ⟨xw_967, xw_29, by decide, by decide, by decide, by decide +kernel⟩
theorem xw_965 : (Jvm.Cond.methodLink "MarkerText$Reader" (119 : Nat) ({ cls := "MarkerText$Constant", name := "<init>", desc := "(Z)V" } : Jvm.MethodName)) ∈ xT := xT_at 965 (by decide +kernel) (by decide +kernel)
theorem xw_966 : (Jvm.Cond.instanceMethod ({ cls := "MarkerText$Constant", name := "<init>", desc := "(Z)V" } : Jvm.MethodName)) ∈ xT := xT_at 966 (by decide +kernel) (by decide +kernel)
theorem xci_Reader_119 : xCI "MarkerText$Reader" 119 M_Constant_init 1 := ⟨xcb_Constant_init, rfl, rfl, xw_966, Or.inl xw_965⟩
theorem d_Reader_readTest_143 : decode M_Reader_readTest.2.1 143 = .ok (.goto 9, 3) := by decide +kernel
theorem d_Reader_readTest_152 : decode M_Reader_readTest.2.1 152 = .ok (.areturn, 1) := by decide +kernel
theorem d_Reader_readTest_95 : decode M_Reader_readTest.2.1 95 = .ok (.iload 4, 2) := by decide +kernel
theorem d_Reader_readTest_97 : decode M_Reader_readTest.2.1 97 = .ok (.iconst (-1), 1) := by decide +kernel
theorem d_Reader_readTest_98 : decode M_Reader_readTest.2.1 98 = .ok (.if_icmp .ne 5, 3) := by decide +kernel
theorem d_Reader_readTest_146 : decode M_Reader_readTest.2.1 146 = .ok (.aload_n 0, 1) := by decide +kernel
theorem d_Reader_readTest_147 : decode M_Reader_readTest.2.1 147 = .ok (.iload 4, 2) := by decide +kernel
theorem d_Reader_readTest_149 : decode M_Reader_readTest.2.1 149 = .ok (.invokevirtual 122, 3) := by decide +kernel
theorem xw_977 : (Jvm.Cond.code ({ cls := "MarkerText$Reader", name := "readComparison", desc := "(I)LMarkerText$Node;" } : Jvm.MethodName) prog_10_method_6_code (7 : Nat) (Option.some (Jvm.ClassFile.FieldType.object "MarkerText$Node"))) ∈ xT := xT_at 977 (by decide +kernel) (by decide +kernel)
theorem xcb_Reader_readComparison : xcb M_Reader_readComparison 1 := ⟨xw_977, xw_23, by decide, by decide, by decide, by decide +kernel⟩
theorem xw_976 : (Jvm.Cond.instanceMethod ({ cls := "MarkerText$Reader", name := "readComparison", desc := "(I)LMarkerText$Node;" } : Jvm.MethodName)) ∈ xT := xT_at 976 (by decide +kernel) (by decide +kernel)
theorem xw_974 : (Jvm.Cond.methodLink "MarkerText$Reader" (122 : Nat) ({ cls := "MarkerText$Reader", name := "readComparison", desc := "(I)LMarkerText$Node;" } : Jvm.MethodName)) ∈ xT := xT_at 974 (by decide +kernel) (by decide +kernel)
theorem xsel_Reader_readComparison : Cond.selects "MarkerText$Reader" y_Reader_readComparison y_Reader_readComparison ∈ xT := xT_sel (q := (y_Reader_readComparison, 7)) (by decide +kernel) (by decide +kernel)
theorem xcv_Reader_122_Reader : xCV "MarkerText$Reader" 122 "MarkerText$Reader" M_Reader_readComparison 1 := ⟨xcb_Reader_readComparison, xw_976, Or.inl ⟨xw_974, Or.inl xsel_Reader_readComparison⟩⟩
theorem d_Reader_readTest_48 : decode M_Reader_readTest.2.1 48 = .ok (.aload_n 1, 1) := by decide +kernel
theorem d_Reader_readTest_49 : decode M_Reader_readTest.2.1 49 = .ok (.ldc 109, 2) := by decide +kernel
theorem d_Reader_readTest_51 : decode M_Reader_readTest.2.1 51 = .ok (.invokevirtual 97, 3) := by decide +kernel
theorem d_Reader_readTest_54 : decode M_Reader_readTest.2.1 54 = .ok (.ifCond .ne 12, 3) := by decide +kernel
theorem d_Reader_readTest_66 : decode M_Reader_readTest.2.1 66 = .ok (.iconst 1, 1) := by decide +kernel
theorem d_Reader_readTest_67 : decode M_Reader_readTest.2.1 67 = .ok (.goto 4, 3) := by decide +kernel
theorem d_Reader_readTest_71 : decode M_Reader_readTest.2.1 71 = .ok (.istore_n 3, 1) := by decide +kernel
theorem d_Reader_readTest_57 : decode M_Reader_readTest.2.1 57 = .ok (.aload_n 1, 1) := by decide +kernel
theorem d_Reader_readTest_58 : decode M_Reader_readTest.2.1 58 = .ok (.ldc 111, 2) := by decide +kernel
theorem d_Reader_readTest_60 : decode M_Reader_readTest.2.1 60 = .ok (.invokevirtual 97, 3) := by decide +kernel
theorem d_Reader_readTest_63 : decode M_Reader_readTest.2.1 63 = .ok (.ifCond .eq 7, 3) := by decide +kernel
theorem d_Reader_readTest_70 : decode M_Reader_readTest.2.1 70 = .ok (.iconst 0, 1) := by decide +kernel
end
section RE5
variable {l : Launch} {G : XG} {h : XH} {c n d : Nat}
theorem rvl_pos {t : List Nat} {kd p : Nat} (h0 : ¬ (rvl t kd p).2.1 = 0) : p + 2 ≤ (rvl t kd p).1 := by
  have h2 : p ≤ skp t p := scn_ge
  have h3 := scn_ge (q := qV) (t := t) (p := skp t p + 1)
  unfold rvl at h0 ⊢
  split
  · rename_i hc
    rw [if_pos hc] at h0
    split
    · rename_i hl
      rw [if_pos hl] at h0
      exact absurd rfl h0
    · rename_i hl
      rw [if_neg hl] at h0
      split
      · rename_i hk
        rw [if_pos hk] at h0
        exact absurd rfl h0
      · show p + 2 ≤ scn qV t (skp t p + 1) + 1
        omega
  · rename_i hc
    rw [if_neg hc] at h0
    exact absurd rfl h0
theorem rcm_pos {t : List Nat} {k : Nat} {w : List Nat} {kd p : Nat} (hp : p ≤ t.length) {x : TsT} (hx : (rcm t k w kd p).2 = some x) : p + 2 ≤ (rcm t k w kd p).1 := by
  have h1 := skp_le hp
  have h2 : p ≤ skp t p := scn_ge
  by_cases hwd : wrd t (skp t p) = xtx 22
  · have htk : tkW t p (xtx 22) = skp t p + 2 := if_pos hwd
    have hle : tkW t p (xtx 22) ≤ t.length := tkW_le hp
    obtain ⟨l1, l2⟩ := rlist_le (kd := kd) hle
    unfold rcm
    rw [if_pos hwd]
    show p + 2 ≤ (rlist t kd (tkW t p (xtx 22))).1
    omega
  · obtain ⟨o1, o2, o3⟩ := opr_le h1
    cases hop : (opr t (skp t p)).2.1 with
    | none =>
      have hrc : rcm t k w kd p = ((opr t (skp t p)).1, none) := by
        unfold rcm
        rw [if_neg hwd, hop]
      rw [hrc] at hx
      cases hx
    | some acc =>
      have hrc : rcm t k w kd p = ((rvl t kd (opr t (skp t p)).1).1, (rsg t kd (opr t (skp t p)).1).map (fun us => (k, acc, us, (((w ++ [32]) ++ (opr t (skp t p)).2.2) ++ [32]) ++ (rvl t kd (opr t (skp t p)).1).2.2))) := by
        unfold rcm
        rw [if_neg hwd, hop]
      rw [hrc] at hx ⊢
      show p + 2 ≤ (rvl t kd (opr t (skp t p)).1).1
      have hx : (rsg t kd (opr t (skp t p)).1).map (fun us => (k, acc, us, (((w ++ [32]) ++ (opr t (skp t p)).2.2) ++ [32]) ++ (rvl t kd (opr t (skp t p)).1).2.2)) = some x := hx
      simp only [Option.map_eq_some_iff] at hx
      obtain ⟨us, hus, -⟩ := hx
      unfold rsg at hus
      by_cases h0 : (rvl t kd (opr t (skp t p)).1).2.1 = 0
      · rw [if_pos h0] at hus
        cases hus
      · have := rvl_pos h0
        omega
/-- what a leaf gives -/
abbrev pLf (G : XG) (K r ta na la ba : Nat) (t as kas : List Nat) (Ns : List NmT) (ea va p o m : Nat) (h : XH) (c n : Nat) (R : RO) (v : Option Value) (h' : XH) (c' n' : Nat) : Prop :=
  match R.2 with
  | none => v = some .null ∧ pT G 20 (9 * t.length + 200) K r ta na la ba t as kas Ns ea va R.1.1 o R.1.2.1 R.1.2.2 m h c n h' c' n'
  | some D => p + 2 ≤ R.1.1 ∧ ∃ a, v = some (.ref a) ∧ isNode G h' 0 a D ∧ pT G 20 (9 * t.length + 200) K r ta na la ba t as kas Ns ea va R.1.1 o R.1.2.1 R.1.2.2 m h c n h' c' n'
theorem rLf_40 {t : List Nat} {Ns : List NmT} {st : RS} (h1 : 40 ≤ st.2.1) : rLf t Ns st = (st, none) := by unfold rLf; rw [if_pos h1]
theorem rLf_c {t : List Nat} {Ns : List NmT} {st : RS} (h1 : ¬ 40 ≤ st.2.1) (h2 : wrd t st.1 = xtx 20 ∨ wrd t st.1 = xtx 21) : rLf t Ns st = ((st.1 + (wrd t st.1).length, st.2.1 + 1, st.2.2), some (dCon (decide (wrd t st.1 = xtx 20)))) := by unfold rLf; rw [if_neg h1, if_pos h2]
theorem rLf_n {t : List Nat} {Ns : List NmT} {st : RS} (h1 : ¬ 40 ≤ st.2.1) (h2 : ¬ (wrd t st.1 = xtx 20 ∨ wrd t st.1 = xtx 21)) (h3 : nof Ns (wrd t st.1) = none) : rLf t Ns st = (st, none) := by unfold rLf; rw [if_neg h1, if_neg h2, h3]
theorem rLf_s {t : List Nat} {Ns : List NmT} {st : RS} {i : Nat} {x : NmT} {R : Nat × Option TsT} (h1 : ¬ 40 ≤ st.2.1) (h2 : ¬ (wrd t st.1 = xtx 20 ∨ wrd t st.1 = xtx 21)) (h3 : nof Ns (wrd t st.1) = some i) (h4 : Ns.getD i ([], 0, []) = x) (h5 : rcm t i x.1 x.2.1 (st.1 + (wrd t st.1).length) = R) : rLf t Ns st = ((R.1, st.2.1 + 1, st.2.2 ++ R.2.toList), R.2.map dTst) := by
  subst h4
  subst h5
  unfold rLf
  rw [if_neg h1, if_neg h2, h3]
theorem rt_leaf2 (hG : xGk G) {K r ta na la ba ea va p o tc m q : Nat} {t as kas es ln : List Nat} {Ns : List NmT} {ts : List TsT} {e2 e4 : Option Value} {b : Bool} {P : Option Value → XH → Nat → Nat → Prop} (hl : t.length ≤ 160) (hK : K < 2 ^ 16) (hK2 : 4 * t.length + 60 ≤ K) (hd : 10 ≤ d) (hR : isRd G h r ta na la ba t as kas Ns ea va p o tc es ts ln m) (hp : p ≤ t.length) (h1 : ts.length ≤ tc) (h2 : tc ≤ 40) (hm : m ≤ K) (hW : isS G h q (wrd t p)) (hb : b = decide (wrd t p = xtx 20 ∨ wrd t p = xtx 21)) (hc : c + K + 20 ≤ xCB + m) (hn : n + 2 * K + (9 * t.length + 200) ≤ xSB + 2 * m)
    (hP : ∀ v h' c' n', pLf G K r ta na la ba t as kas Ns ea va p o m h c n (rLf t Ns (p, tc, ts)) v h' c' n' → P v h' c' n') : XW l G M_Reader_readTest (d + 1) 72 [some (.ref r), some (.ref q), e2, some (.int (bI b)), e4] [] h c n P := by
  obtain ⟨hr, hS, hNs, hLi, hT, hB⟩ := id hR
  have hw := wrd_le hp
  obtain ⟨vq, eq, hqa, -⟩ := id hW
  refine x_aload_n d_Reader_readTest_72 rfl rfl ?_
  refine x_get xf_Reader_39_Reader (Or.inl hr) rfl d_Reader_readTest_73 ?_
  refine x_aload_n d_Reader_readTest_76 rfl rfl ?_
  refine x_callS (As := [_, _]) xcs_Reader_113 (c_numberOf (by omega) hNs hW (by omega)) rfl rfl (Nat.le_of_ble_eq_true rfl) d_Reader_readTest_77 ?_
  rintro v h' c' n' ⟨rfl, rfl, rfl, rfl⟩
  by_cases h40 : 40 ≤ tc
  · refine x_istore (L' := [_, _, _, _, _]) d_Reader_readTest_80 rfl rfl ?_
    refine x_aload_n d_Reader_readTest_82 rfl rfl ?_
    refine x_get xf_Reader_32_Reader (Or.inl hr) rfl d_Reader_readTest_83 ?_
    refine x_bipush (v := 40) d_Reader_readTest_86 (by decide) ?_
    refine x_icmp_ge (tgt := 101) d_Reader_readTest_88 (by decide) (fun _ => ?_) (fun hn => absurd (nI_le (a := 40) (by omega) (by omega)) hn)
    refine x_null d_Reader_readTest_101 ?_
    refine x_aret d_Reader_readTest_102 rfl rfl ?_
    refine hP _ _ _ _ ?_
    rw [rLf_40 (st := (p, tc, ts)) h40]
    exact ⟨rfl, ea, va, es, ln, m, hR, xfr.rf, Or.inl rfl, Or.inl rfl, by omega⟩
  · have hR1 := hR.ofR (pR.ofU (c := c') (n := n') (e := rdO ta na la ba (p + (wrd t p).length) o (tc + 1)) hr hB hm)
    have hW1 : isS G (xup h' r (rdO ta na la ba p o (tc + 1))) q (wrd t p) := hW.upR hr (by decide)
    have hW2 : isS G (xup h' r (rdO ta na la ba (p + (wrd t p).length) o (tc + 1))) q (wrd t p) := hW.upR hr (by decide)
    obtain ⟨vq1, eq1, hqa1, -⟩ := id hW1
    obtain ⟨vq2, eq2, hqa2, -⟩ := id hW2
    by_cases hcon : wrd t p = xtx 20 ∨ wrd t p = xtx 21
    · have hbt : b = true := by rw [hb]; exact decide_eq_true hcon
      subst hbt
      refine x_istore (L' := [_, _, _, _, _]) d_Reader_readTest_80 rfl rfl ?_
      refine x_aload_n d_Reader_readTest_82 rfl rfl ?_
      refine x_get xf_Reader_32_Reader (Or.inl hr) rfl d_Reader_readTest_83 ?_
      refine x_bipush (v := 40) d_Reader_readTest_86 (by decide) ?_
      refine x_icmp_ge (tgt := 101) d_Reader_readTest_88 (by decide) (fun ht => absurd ht (nI_ge (b := 40) (by omega) (by omega))) (fun _ => ?_)
      refine x_iload_n d_Reader_readTest_91 rfl ?_
      refine x_if_ne (tgt := 103) d_Reader_readTest_92 (by decide) (fun _ => ?_) (fun hn => absurd hn (by decide))
      refine x_aload_n d_Reader_readTest_103 rfl rfl ?_
      refine x_dup d_Reader_readTest_104 rfl ?_
      refine x_get xf_Reader_32_Reader (Or.inl hr) rfl d_Reader_readTest_105 ?_
      refine x_iconst (v := 1) d_Reader_readTest_108 (by decide) ?_
      refine x_iadd d_Reader_readTest_109 ?_
      refine x_top (w := .int (nI (tc + 1))) (by rw [show (1 : Int32) = nI 1 from rfl, nI_add]) ?_
      refine x_put xf_Reader_32_Reader xp_Reader_6 rfl rfl hr rfl rfl d_Reader_readTest_110 ?_
      refine x_aload_n d_Reader_readTest_113 rfl rfl ?_
      refine x_dup d_Reader_readTest_114 rfl ?_
      refine x_get xf_Reader_25_Reader (Or.inl xup_self) rfl d_Reader_readTest_115 ?_
      refine x_aload_n d_Reader_readTest_118 rfl rfl ?_
      refine x_callV (As := []) (k := k_String) rfl xcv_Reader_52_String hqa1 (c_String_length (by omega) hW1) rfl rfl (Nat.le_of_ble_eq_true rfl) d_Reader_readTest_119 ?_
      rintro v h3 c3 n3 ⟨rfl, rfl, rfl, rfl⟩
      refine x_iadd d_Reader_readTest_122 ?_
      refine x_top (w := .int (nI (p + (wrd t p).length))) (by rw [nI_add]) ?_
      refine x_put xf_Reader_25_Reader xp_Reader_4 rfl rfl xup_self rfl rfl d_Reader_readTest_123 ?_
      refine x_hp (h' := xup h' r (rdO ta na la ba (p + (wrd t p).length) o (tc + 1))) (by rw [xup_up]; rfl) ?_
      have q1 := pT.ofR hR (pR.ofU (c := c3) (n := n3) (e := rdO ta na la ba (p + (wrd t p).length) o (tc + 1)) hr hB hm)
      revert q1 hW2 hqa2
      generalize xup h' r (rdO ta na la ba (p + (wrd t p).length) o (tc + 1)) = h5
      intro hW2 hqa2 q1
      refine x_iload_n d_Reader_readTest_126 rfl ?_
      refine x_if_eq (tgt := 146) d_Reader_readTest_127 (by decide) (fun ht => absurd ht (by decide)) (fun _ => ?_)
      refine x_new xnw_Reader_117 (by omega) (by omega) d_Reader_readTest_130 (fun y hn_y hk_y => ?_)
      refine x_dup d_Reader_readTest_133 rfl ?_
      have hW3 : isS G (xup h5 y (k_Constant, [.int 0, .int 0])) q (wrd t p) := hW2.fr (F := []) (xfr.rf.up (Or.inr hn_y)) (fun _ z => by cases z)
      obtain ⟨vq3, eq3, hqa3, -⟩ := id hW3
      refine x_aload_n d_Reader_readTest_134 rfl rfl ?_
      refine x_ldcS (i := 20) (tx := "true") (by decide +kernel) d_Reader_readTest_135 ?_
      refine x_callV (As := [_]) (k := k_String) rfl xcv_Reader_97_String hqa3 (c_String_equals (t := wrd t p) (by omega) hW3 (hG.str (by decide)) (by omega) (by decide)) rfl rfl (Nat.le_of_ble_eq_true rfl) d_Reader_readTest_137 ?_
      rintro v h6 c6 n6 ⟨rfl, rfl, rfl, rfl⟩
      refine x_top (w := .int (bI (decide (wrd t p = xtx 20)))) (by
        by_cases he : wrd t p = xtx 20
        · rw [if_pos he, decide_eq_true he]; rfl
        · rw [if_neg he, decide_eq_false he]; rfl) ?_
      refine x_callI (As := [_]) xci_Reader_119 (c_Constant_init (by omega) xup_self) rfl rfl (Nat.le_of_ble_eq_true rfl) d_Reader_readTest_140 ?_
      rintro v h7 c7 n7 ⟨rfl, rfl, rfl, rfl⟩
      refine x_goto (tgt := 152) d_Reader_readTest_143 (by decide) ?_
      refine x_aret d_Reader_readTest_152 rfl rfl ?_
      refine hP _ _ _ _ ?_
      rw [rLf_c (st := (p, tc, ts)) h40 hcon, xup_up]
      refine ⟨?_, y, rfl, Or.inr ⟨_, xup_self, rfl⟩, (q1.up (dc := 1) (dn := 2) hn_y).mono (by omega) (by omega)⟩
      show p + 2 ≤ p + (wrd t p).length
      rcases hcon with hcc | hcc
      · rw [hcc]; show p + 2 ≤ p + 4; omega
      · rw [hcc]; show p + 2 ≤ p + 5; omega
    · have hbf : b = false := by rw [hb]; exact decide_eq_false hcon
      subst hbf
      cases hi : nof Ns (wrd t p) with
      | none =>
        refine x_istore (L' := [_, _, _, _, _]) d_Reader_readTest_80 rfl rfl ?_
        refine x_aload_n d_Reader_readTest_82 rfl rfl ?_
        refine x_get xf_Reader_32_Reader (Or.inl hr) rfl d_Reader_readTest_83 ?_
        refine x_bipush (v := 40) d_Reader_readTest_86 (by decide) ?_
        refine x_icmp_ge (tgt := 101) d_Reader_readTest_88 (by decide) (fun ht => absurd ht (nI_ge (b := 40) (by omega) (by omega))) (fun _ => ?_)
        refine x_iload_n d_Reader_readTest_91 rfl ?_
        refine x_if_ne (tgt := 103) d_Reader_readTest_92 (by decide) (fun ht => absurd rfl ht) (fun _ => ?_)
        refine x_iload d_Reader_readTest_95 rfl ?_
        refine x_iconst (v := (-1)) d_Reader_readTest_97 (by decide) ?_
        refine x_icmp_ne (tgt := 103) d_Reader_readTest_98 (by decide) (fun ht => absurd rfl ht) (fun _ => ?_)
        refine x_null d_Reader_readTest_101 ?_
        refine x_aret d_Reader_readTest_102 rfl rfl ?_
        refine hP _ _ _ _ ?_
        rw [rLf_n (st := (p, tc, ts)) h40 hcon hi]
        exact ⟨rfl, ea, va, es, ln, m, hR, xfr.rf, Or.inl rfl, Or.inl rfl, by omega⟩
      | some i =>
        obtain ⟨i1, i2, i3⟩ := nof_some hi
        generalize hgx : Ns.getD i ([], 0, []) = nx at i2 i3
        obtain ⟨w', kd', ks'⟩ := nx
        have hNl : Ns.length ≤ 6 := hNs.2.2.2.1
        rw [show oI (some i) = nI i from rfl]
        have hne1 : ¬ (nI i = -1) := fun z => by
          have : ¬ (nI i < 0) := nI_pos (by omega)
          rw [z] at this
          exact this (by decide)
        refine x_istore (L' := [_, _, _, _, _]) d_Reader_readTest_80 rfl rfl ?_
        refine x_aload_n d_Reader_readTest_82 rfl rfl ?_
        refine x_get xf_Reader_32_Reader (Or.inl hr) rfl d_Reader_readTest_83 ?_
        refine x_bipush (v := 40) d_Reader_readTest_86 (by decide) ?_
        refine x_icmp_ge (tgt := 101) d_Reader_readTest_88 (by decide) (fun ht => absurd ht (nI_ge (b := 40) (by omega) (by omega))) (fun _ => ?_)
        refine x_iload_n d_Reader_readTest_91 rfl ?_
        refine x_if_ne (tgt := 103) d_Reader_readTest_92 (by decide) (fun ht => absurd rfl ht) (fun _ => ?_)
        refine x_iload d_Reader_readTest_95 rfl ?_
        refine x_iconst (v := (-1)) d_Reader_readTest_97 (by decide) ?_
        refine x_icmp_ne (tgt := 103) d_Reader_readTest_98 (by decide) (fun _ => ?_) (fun hn => absurd hn hne1)
        refine x_aload_n d_Reader_readTest_103 rfl rfl ?_
        refine x_dup d_Reader_readTest_104 rfl ?_
        refine x_get xf_Reader_32_Reader (Or.inl hr) rfl d_Reader_readTest_105 ?_
        refine x_iconst (v := 1) d_Reader_readTest_108 (by decide) ?_
        refine x_iadd d_Reader_readTest_109 ?_
        refine x_top (w := .int (nI (tc + 1))) (by rw [show (1 : Int32) = nI 1 from rfl, nI_add]) ?_
        refine x_put xf_Reader_32_Reader xp_Reader_6 rfl rfl hr rfl rfl d_Reader_readTest_110 ?_
        refine x_aload_n d_Reader_readTest_113 rfl rfl ?_
        refine x_dup d_Reader_readTest_114 rfl ?_
        refine x_get xf_Reader_25_Reader (Or.inl xup_self) rfl d_Reader_readTest_115 ?_
        refine x_aload_n d_Reader_readTest_118 rfl rfl ?_
        refine x_callV (As := []) (k := k_String) rfl xcv_Reader_52_String hqa1 (c_String_length (by omega) hW1) rfl rfl (Nat.le_of_ble_eq_true rfl) d_Reader_readTest_119 ?_
        rintro v h3 c3 n3 ⟨rfl, rfl, rfl, rfl⟩
        refine x_iadd d_Reader_readTest_122 ?_
        refine x_top (w := .int (nI (p + (wrd t p).length))) (by rw [nI_add]) ?_
        refine x_put xf_Reader_25_Reader xp_Reader_4 rfl rfl xup_self rfl rfl d_Reader_readTest_123 ?_
        refine x_hp (h' := xup h' r (rdO ta na la ba (p + (wrd t p).length) o (tc + 1))) (by rw [xup_up]; rfl) ?_
        obtain ⟨va1, m1, R1, f1, w1, g1⟩ := hR.ofR (pR.ofU (c := c3) (n := n3) (e := rdO ta na la ba (p + (wrd t p).length) o (tc + 1)) hr hB hm)
        have f1 := f1.mono (F' := [r, la, ea, ba, va]) (by simp)
        revert R1 f1 hW2 hqa2
        generalize xup h' r (rdO ta na la ba (p + (wrd t p).length) o (tc + 1)) = h5
        intro hW2 hqa2 R1 f1
        obtain ⟨hr1, -⟩ := id R1
        have hel : es.length ≤ 60 := by have := hT.1; omega
        refine x_iload_n d_Reader_readTest_126 rfl ?_
        refine x_if_eq (tgt := 146) d_Reader_readTest_127 (by decide) (fun _ => ?_) (fun hn => absurd rfl hn)
        refine x_aload_n d_Reader_readTest_146 rfl rfl ?_
        refine x_iload d_Reader_readTest_147 rfl ?_
        refine x_callV (As := [_]) (k := k_Reader) rfl xcv_Reader_122_Reader (Or.inl hr1) (c_readComparison (K := K) hG (by omega) R1 (by omega) hw i2 hel hK hK2 g1.2.1 (by omega) (by omega)) rfl rfl (Nat.le_of_ble_eq_true rfl) d_Reader_readTest_149 ?_
        intro v h6 c6 n6 hv
        have hpos := fun x => rcm_pos (k := i) (w := w') (kd := kd') (x := x) hw
        rcases hrc : rcm t i w' kd' (p + (wrd t p).length) with ⟨p', ox⟩
        rw [hrc] at hv hpos
        cases ox with
        | none =>
          obtain ⟨rfl, q2⟩ : v = some .null ∧ pT G 20 (9 * t.length + 200) K r ta na la ba t as kas Ns ea va1 p' o (tc + 1) ts m1 h5 c3 n3 h6 c6 n6 := hv
          refine x_aret d_Reader_readTest_152 rfl rfl ?_
          refine hP _ _ _ _ ?_
          rw [rLf_s (st := (p, tc, ts)) h40 hcon hi hgx hrc]
          refine ⟨rfl, ?_⟩
          show pT G 20 (9 * t.length + 200) K r ta na la ba t as kas Ns ea va p' o (tc + 1) (ts ++ []) m h' c3 n3 h6 c6 n6
          rw [List.append_nil]
          exact (pT.tr R1 f1 (Or.inl rfl) w1 g1 q2).mono (by omega) (by omega)
        | some x =>
          obtain ⟨a, rfl, ha, hx, q2⟩ : ∃ a, v = some (.ref a) ∧ h5 a = none ∧ isTs G h6 a x ∧ pT G 20 (9 * t.length + 200) K r ta na la ba t as kas Ns ea va1 p' o (tc + 1) (ts ++ [x]) m1 h5 c3 n3 h6 c6 n6 := hv
          have hpx : p + (wrd t p).length + 2 ≤ p' := hpos x rfl
          refine x_aret d_Reader_readTest_152 rfl rfl ?_
          refine hP _ _ _ _ ?_
          rw [rLf_s (st := (p, tc, ts)) h40 hcon hi hgx hrc]
          exact ⟨by show p + 2 ≤ p'; omega, a, rfl, Or.inl ⟨x, hx, rfl⟩, (pT.tr R1 f1 (Or.inl rfl) w1 g1 q2).mono (by omega) (by omega)⟩
theorem rt_leaf (hG : xGk G) {K r ta na la ba ea va p o tc m q : Nat} {t as kas es ln : List Nat} {Ns : List NmT} {ts : List TsT} {x2 : Int32} {e3 e4 : Option Value} {P : Option Value → XH → Nat → Nat → Prop} (hl : t.length ≤ 160) (hK : K < 2 ^ 16) (hK2 : 4 * t.length + 60 ≤ K) (hd : 10 ≤ d) (hR : isRd G h r ta na la ba t as kas Ns ea va p o tc es ts ln m) (hp : p ≤ t.length) (h1 : ts.length ≤ tc) (h2 : tc ≤ 40) (hm : m ≤ K) (hW : isS G h q (wrd t p)) (hc : c + K + 20 ≤ xCB + m) (hn : n + 2 * K + (9 * t.length + 200) ≤ xSB + 2 * m)
    (hP : ∀ v h' c' n', pLf G K r ta na la ba t as kas Ns ea va p o m h c n (rLf t Ns (p, tc, ts)) v h' c' n' → P v h' c' n') : XW l G M_Reader_readTest (d + 1) 48 [some (.ref r), some (.ref q), some (.int x2), e3, e4] [] h c n P := by
  have hw := wrd_le hp
  obtain ⟨vq, eq, hqa, -⟩ := id hW
  refine x_aload_n d_Reader_readTest_48 rfl rfl ?_
  refine x_ldcS (i := 20) (tx := "true") (by decide +kernel) d_Reader_readTest_49 ?_
  refine x_callV (As := [_]) (k := k_String) rfl xcv_Reader_97_String hqa (c_String_equals (by omega) hW (hG.str (by decide)) (by omega) (by decide)) rfl rfl (Nat.le_of_ble_eq_true rfl) d_Reader_readTest_51 ?_
  rintro v h' c' n' ⟨rfl, rfl, rfl, rfl⟩
  by_cases htr : wrd t p = xtx 20
  · refine x_if_ne (tgt := 66) d_Reader_readTest_54 (by decide) (fun _ => ?_) (fun hn => absurd hn (by rw [if_pos htr]; decide))
    refine x_iconst (v := 1) d_Reader_readTest_66 (by decide) ?_
    refine x_goto (tgt := 71) d_Reader_readTest_67 (by decide) ?_
    refine x_istore_n (L' := [_, _, _, _, _]) d_Reader_readTest_71 rfl rfl ?_
    exact rt_leaf2 (b := true) hG hl hK hK2 hd hR hp h1 h2 hm hW (decide_eq_true (Or.inl htr)).symm hc hn hP
  · refine x_if_ne (tgt := 66) d_Reader_readTest_54 (by decide) (fun ht => absurd (by rw [if_neg htr]) ht) (fun _ => ?_)
    refine x_aload_n d_Reader_readTest_57 rfl rfl ?_
    refine x_ldcS (i := 21) (tx := "false") (by decide +kernel) d_Reader_readTest_58 ?_
    refine x_callV (As := [_]) (k := k_String) rfl xcv_Reader_97_String hqa (c_String_equals (by omega) hW (hG.str (by decide)) (by omega) (by decide)) rfl rfl (Nat.le_of_ble_eq_true rfl) d_Reader_readTest_60 ?_
    rintro v h' c' n' ⟨rfl, rfl, rfl, rfl⟩
    by_cases hfa : wrd t p = xtx 21
    · refine x_if_eq (tgt := 70) d_Reader_readTest_63 (by decide) (fun ht => absurd ht (by rw [if_pos hfa]; decide)) (fun _ => ?_)
      refine x_iconst (v := 1) d_Reader_readTest_66 (by decide) ?_
      refine x_goto (tgt := 71) d_Reader_readTest_67 (by decide) ?_
      refine x_istore_n (L' := [_, _, _, _, _]) d_Reader_readTest_71 rfl rfl ?_
      exact rt_leaf2 (b := true) hG hl hK hK2 hd hR hp h1 h2 hm hW (decide_eq_true (Or.inr hfa)).symm hc hn hP
    · refine x_if_eq (tgt := 70) d_Reader_readTest_63 (by decide) (fun _ => ?_) (fun hn => absurd (by rw [if_neg hfa]) hn)
      refine x_iconst (v := 0) d_Reader_readTest_70 (by decide) ?_
      refine x_istore_n (L' := [_, _, _, _, _]) d_Reader_readTest_71 rfl rfl ?_
      exact rt_leaf2 (b := false) hG hl hK hK2 hd hR hp h1 h2 hm hW (decide_eq_false (fun z => z.elim htr hfa)).symm hc hn hP
end RE5
