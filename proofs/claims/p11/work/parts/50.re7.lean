section
abbrev y_Reader_readWhole : MethodName := ⟨"MarkerText$Reader", "readWhole", "()LMarkerText$Condition;"⟩
abbrev M_Reader_readWhole : XMt := (y_Reader_readWhole, prog_10_method_2_code, 2, (some (.object "MarkerText$Condition")))
theorem d_Reader_readWhole_0 : decode M_Reader_readWhole.2.1 0 = .ok (.aload_n 0, 1) := by decide +kernel
theorem d_Reader_readWhole_1 : decode M_Reader_readWhole.2.1 1 = .ok (.iconst 1, 1) := by decide +kernel
theorem d_Reader_readWhole_2 : decode M_Reader_readWhole.2.1 2 = .ok (.invokevirtual 45, 3) := by decide +kernel
theorem d_Reader_readWhole_5 : decode M_Reader_readWhole.2.1 5 = .ok (.astore_n 1, 1) := by decide +kernel
theorem d_Reader_readWhole_6 : decode M_Reader_readWhole.2.1 6 = .ok (.aload_n 1, 1) := by decide +kernel
theorem d_Reader_readWhole_7 : decode M_Reader_readWhole.2.1 7 = .ok (.ifnonnull 5, 3) := by decide +kernel
theorem d_Reader_readWhole_10 : decode M_Reader_readWhole.2.1 10 = .ok (.aconst_null, 1) := by decide +kernel
theorem d_Reader_readWhole_11 : decode M_Reader_readWhole.2.1 11 = .ok (.areturn, 1) := by decide +kernel
theorem d_Reader_readWhole_12 : decode M_Reader_readWhole.2.1 12 = .ok (.aload_n 0, 1) := by decide +kernel
theorem d_Reader_readWhole_13 : decode M_Reader_readWhole.2.1 13 = .ok (.invokevirtual 49, 3) := by decide +kernel
theorem d_Reader_readWhole_16 : decode M_Reader_readWhole.2.1 16 = .ok (.aload_n 0, 1) := by decide +kernel
theorem d_Reader_readWhole_17 : decode M_Reader_readWhole.2.1 17 = .ok (.getfield 25, 3) := by decide +kernel
theorem d_Reader_readWhole_20 : decode M_Reader_readWhole.2.1 20 = .ok (.aload_n 0, 1) := by decide +kernel
theorem d_Reader_readWhole_21 : decode M_Reader_readWhole.2.1 21 = .ok (.getfield 35, 3) := by decide +kernel
theorem d_Reader_readWhole_24 : decode M_Reader_readWhole.2.1 24 = .ok (.invokevirtual 52, 3) := by decide +kernel
theorem d_Reader_readWhole_27 : decode M_Reader_readWhole.2.1 27 = .ok (.if_icmp .ge 5, 3) := by decide +kernel
theorem d_Reader_readWhole_30 : decode M_Reader_readWhole.2.1 30 = .ok (.aconst_null, 1) := by decide +kernel
theorem d_Reader_readWhole_31 : decode M_Reader_readWhole.2.1 31 = .ok (.areturn, 1) := by decide +kernel
theorem d_Reader_readWhole_32 : decode M_Reader_readWhole.2.1 32 = .ok (.aload_n 0, 1) := by decide +kernel
theorem d_Reader_readWhole_33 : decode M_Reader_readWhole.2.1 33 = .ok (.getfield 21, 3) := by decide +kernel
theorem d_Reader_readWhole_36 : decode M_Reader_readWhole.2.1 36 = .ok (.iconst 0, 1) := by decide +kernel
theorem d_Reader_readWhole_37 : decode M_Reader_readWhole.2.1 37 = .ok (.invokevirtual 58, 3) := by decide +kernel
theorem d_Reader_readWhole_40 : decode M_Reader_readWhole.2.1 40 = .ok (.aload_n 1, 1) := by decide +kernel
theorem d_Reader_readWhole_41 : decode M_Reader_readWhole.2.1 41 = .ok (.aload_n 0, 1) := by decide +kernel
theorem d_Reader_readWhole_42 : decode M_Reader_readWhole.2.1 42 = .ok (.getfield 21, 3) := by decide +kernel
theorem d_Reader_readWhole_45 : decode M_Reader_readWhole.2.1 45 = .ok (.invokevirtual 62, 3) := by decide +kernel
theorem xw_1099 : (Jvm.Cond.methodLink "MarkerText$Reader" (62 : Nat) ({ cls := "MarkerText$Node", name := "show", desc := "(Ljava/lang/StringBuilder;)V" } : Jvm.MethodName)) ∈ xT := xT_at 1099 (by decide +kernel) (by decide +kernel)
theorem xcv_Reader_62_Test : xCV "MarkerText$Reader" 62 "MarkerText$Test" M_Test_show 1 := ⟨xcb_Test_show, xw_1126, Or.inr (Or.inr ⟨⟨"MarkerText$Node", "show", "(Ljava/lang/StringBuilder;)V"⟩, "MarkerText$Node", xw_1099, xw_1101, xw_1133, rfl, ⟨by decide, by decide⟩, Or.inl xw_1100⟩)⟩
theorem xcv_Reader_62_Join : xCV "MarkerText$Reader" 62 "MarkerText$Join" M_Join_show 1 := ⟨xcb_Join_show, xw_1109, Or.inr (Or.inr ⟨⟨"MarkerText$Node", "show", "(Ljava/lang/StringBuilder;)V"⟩, "MarkerText$Node", xw_1099, xw_1101, xw_1108, rfl, ⟨by decide, by decide⟩, Or.inl xw_1100⟩)⟩
theorem xcv_Reader_62_Negation : xCV "MarkerText$Reader" 62 "MarkerText$Negation" M_Negation_show 1 := ⟨xcb_Negation_show, xw_1121, Or.inr (Or.inr ⟨⟨"MarkerText$Node", "show", "(Ljava/lang/StringBuilder;)V"⟩, "MarkerText$Node", xw_1099, xw_1101, xw_1132, rfl, ⟨by decide, by decide⟩, Or.inl xw_1100⟩)⟩
theorem xcv_Reader_62_Constant : xCV "MarkerText$Reader" 62 "MarkerText$Constant" M_Constant_show 1 := ⟨xcb_Constant_show, xw_1103, Or.inr (Or.inr ⟨⟨"MarkerText$Node", "show", "(Ljava/lang/StringBuilder;)V"⟩, "MarkerText$Node", xw_1099, xw_1101, xw_1102, rfl, ⟨by decide, by decide⟩, Or.inl xw_1100⟩)⟩
theorem xD_Reader_62 : ∀ q ∈ ([(k_Test, M_Test_show), (k_Join, M_Join_show), (k_Negation, M_Negation_show), (k_Constant, M_Constant_show)] : List (Nat × XMt)), ∃ C T N, xk[q.1]? = some (.inl (C, T, N)) ∧ xCV "MarkerText$Reader" 62 C q.2 1 := List.forall_mem_cons.mpr ⟨⟨_, _, _, rfl, xcv_Reader_62_Test⟩, List.forall_mem_cons.mpr ⟨⟨_, _, _, rfl, xcv_Reader_62_Join⟩, List.forall_mem_cons.mpr ⟨⟨_, _, _, rfl, xcv_Reader_62_Negation⟩, List.forall_mem_cons.mpr ⟨⟨_, _, _, rfl, xcv_Reader_62_Constant⟩, fun _ hz => by cases hz⟩⟩⟩⟩
theorem d_Reader_readWhole_48 : decode M_Reader_readWhole.2.1 48 = .ok (.new 66, 3) := by decide +kernel
theorem xw_1134 : (Jvm.Cond.classLink "MarkerText$Reader" (66 : Nat) "MarkerText$Condition") ∈ xT := xT_at 1134 (by decide +kernel) (by decide +kernel)
theorem xw_1135 : (Jvm.Cond.instantiable "MarkerText$Condition" (3 : Nat)) ∈ xT := xT_at 1135 (by decide +kernel) (by decide +kernel)
theorem xw_32 : (Jvm.Cond.initialized "MarkerText$Condition") ∈ xT := xT_at 32 (by decide +kernel) (by decide +kernel)
theorem xnw_Reader_66 : xNw "MarkerText$Reader" 66 k_Condition 3 [.null, .null, .null] := ⟨_, _, _, rfl, rfl, by decide +kernel, xw_1134, xw_1135, xw_32⟩
theorem d_Reader_readWhole_51 : decode M_Reader_readWhole.2.1 51 = .ok (.dup, 1) := by decide +kernel
theorem d_Reader_readWhole_52 : decode M_Reader_readWhole.2.1 52 = .ok (.aload_n 1, 1) := by decide +kernel
theorem d_Reader_readWhole_53 : decode M_Reader_readWhole.2.1 53 = .ok (.aload_n 0, 1) := by decide +kernel
theorem d_Reader_readWhole_54 : decode M_Reader_readWhole.2.1 54 = .ok (.getfield 12, 3) := by decide +kernel
theorem d_Reader_readWhole_57 : decode M_Reader_readWhole.2.1 57 = .ok (.aload_n 0, 1) := by decide +kernel
theorem d_Reader_readWhole_58 : decode M_Reader_readWhole.2.1 58 = .ok (.getfield 21, 3) := by decide +kernel
theorem d_Reader_readWhole_61 : decode M_Reader_readWhole.2.1 61 = .ok (.invokevirtual 68, 3) := by decide +kernel
theorem d_Reader_readWhole_64 : decode M_Reader_readWhole.2.1 64 = .ok (.invokespecial 72, 3) := by decide +kernel
theorem xw_1138 : (Jvm.Cond.code ({ cls := "MarkerText$Condition", name := "<init>", desc := "(LMarkerText$Node;Ljava/util/ArrayList;Ljava/lang/String;)V" } : Jvm.MethodName) prog_3_method_1_code (4 : Nat) (Option.none : Option Jvm.ClassFile.FieldType)) ∈ xT := xT_at 1138 (by decide +kernel) (by decide +kernel)
theorem xcb_Condition_init : xcb M_Condition_init 3 := ⟨xw_1138, xw_32, by decide, by decide, by decide, by decide +kernel⟩
theorem xw_1136 : (Jvm.Cond.methodLink "MarkerText$Reader" (72 : Nat) ({ cls := "MarkerText$Condition", name := "<init>", desc := "(LMarkerText$Node;Ljava/util/ArrayList;Ljava/lang/String;)V" } : Jvm.MethodName)) ∈ xT := xT_at 1136 (by decide +kernel) (by decide +kernel)
theorem xw_1137 : (Jvm.Cond.instanceMethod ({ cls := "MarkerText$Condition", name := "<init>", desc := "(LMarkerText$Node;Ljava/util/ArrayList;Ljava/lang/String;)V" } : Jvm.MethodName)) ∈ xT := xT_at 1137 (by decide +kernel) (by decide +kernel)
theorem xci_Reader_72 : xCI "MarkerText$Reader" 72 M_Condition_init 3 := ⟨xcb_Condition_init, rfl, rfl, xw_1137, Or.inl xw_1136⟩
theorem d_Reader_readWhole_67 : decode M_Reader_readWhole.2.1 67 = .ok (.areturn, 1) := by decide +kernel
end
section RE7
variable {l : Launch} {G : XG} {h : XH} {c n d : Nat}
/-- a whole text: where the reader is then, what the text means, its tests -/
def rW (t : List Nat) (Ns : List NmT) : Nat × Option (Den × List TsT) :=
  match jOr t (rT t Ns 12) (0, 0, []) with
  | (st, none) => (st.1, none)
  | (st, some D) => if skp t st.1 < t.length then (skp t st.1, none) else (skp t st.1, some (D, st.2.2))
theorem rW_n {t : List Nat} {Ns : List NmT} {st : RS} (e : jOr t (rT t Ns 12) (0, 0, []) = (st, none)) : rW t Ns = (st.1, none) := by unfold rW; rw [e]
theorem rW_s {t : List Nat} {Ns : List NmT} {st : RS} {D : Den} (e : jOr t (rT t Ns 12) (0, 0, []) = (st, some D)) : rW t Ns = if skp t st.1 < t.length then (skp t st.1, none) else (skp t st.1, some (D, st.2.2)) := by unfold rW; rw [e]
theorem rT_gO {t : List Nat} {Ns : List NmT} (k : Nat) : gF t 1 (jOr t (rT t Ns k)) := jnd_g (Or.inl rfl) (by decide) (jnd_g (Or.inr rfl) (by decide) (rT_g k))
theorem rW_le {t : List Nat} {Ns : List NmT} : (rW t Ns).1 ≤ t.length := by
  have hg := rT_gO (t := t) (Ns := Ns) 12 0 0 [] (Nat.zero_le _) (Nat.le_refl _) (by omega)
  rcases hFe : jOr t (rT t Ns 12) (0, 0, []) with ⟨⟨p', tc', ts'⟩, oD⟩
  rw [hFe] at hg
  have hp : p' ≤ t.length := hg.2.1
  have := skp_le hp
  cases oD with
  | none => rw [rW_n hFe]; exact hp
  | some D =>
    rw [rW_s hFe]
    split
    · exact this
    · exact this
/-- a Condition: what it means, its tests -/
def isC (G : XG) (h : XH) (a : Nat) (D : Den) (ts : List TsT) : Prop := ∃ ra la sa ea es, h a = some (k_Condition, [.ref ra, .ref la, .ref sa]) ∧ isNode G h 160 ra D ∧ isL G h la ea es ∧ okT G h es ts ∧ isS G h sa D.2.2 ∧ D.2.2.length ≤ 480 ∧ ts.length ≤ 40
abbrev pW (G : XG) (C N r ta na la ba : Nat) (F : List Nat) (h : XH) (c n : Nat) (R : Nat × Option (Den × List TsT)) (v : Option Value) (h' : XH) (c' n' : Nat) : Prop :=
  (∃ tc, h' r = some (rdO ta na la ba R.1 0 tc)) ∧ xfr h h' F ∧ c' ≤ c + C ∧ n' ≤ n + N ∧ match R.2 with
    | none => v = some .null
    | some (D, ts) => ∃ a, v = some (.ref a) ∧ h a = none ∧ isC G h' a D ts
theorem c_readWhole (hG : xGk G) (hd : 340 ≤ d) {K r ta na la ba ea va m : Nat} {t as kas ln : List Nat} {Ns : List NmT} (hl : t.length ≤ 160) (hK : K < 2 ^ 16) (hK2 : 6 * t.length + 60 ≤ K) (hR : isRd G h r ta na la ba t as kas Ns ea va 0 0 0 [] [] ln m) (hm : m ≤ K) (hc : c + K + 40 * t.length + 50 ≤ xCB + m) (hn : n + 2 * K + 2000 * t.length + 2600 ≤ xSB + 2 * m) :
    XM l G d M_Reader_readWhole [.ref r] h c n (pW G (K + 40 * t.length + 50) (2 * K + 2000 * t.length + 2600) r ta na la ba [r, la, ea, ba, va] h c n (rW t Ns)) := by
  obtain ⟨d, rfl⟩ : ∃ q, d = q + 1 := ⟨d - 1, by omega⟩
  obtain ⟨hr, -⟩ := id hR
  have gT := rT_g (t := t) (Ns := Ns) 12
  have gA : gF t 2 (jAnd t (rT t Ns 12)) := jnd_g (Or.inr rfl) (by decide) gT
  have gO := rT_gO (t := t) (Ns := Ns) 12
  have iT := c_readTest (l := l) (as := as) (kas := kas) (Ns := Ns) hG hl hK (by omega) 12 0 rfl
  have iA := c_joinAnd hG hl hK (by omega) (by omega) gT iT (by omega)
  have iO : CRd l G K t as kas Ns M_Reader_readJoined [.int 1] 61 0 16 660 (jOr t (rT t Ns 12)) := c_joinOr hG hl hK (by omega) (by omega) gA iA (by omega)
  have hX := iO h c n d r ta na la ba ea va 0 0 m [] [] ln (by omega) hR (Nat.zero_le _) (Nat.le_refl _) (by omega) hm (by omega) (by omega)
  have hg := gO 0 0 [] (Nat.zero_le _) (Nat.le_refl _) (by omega)
  clear iT iA iO gT gA gO
  refine XM.of (by decide +kernel) (Nat.le_of_ble_eq_true rfl) ?_
  rcases hFe : jOr t (rT t Ns 12) (0, 0, []) with ⟨⟨p', tc', ts'⟩, oD⟩
  rw [hFe] at hX hg
  have hg2 : p' ≤ t.length := hg.2.1
  have hg3 : ts'.length ≤ tc' := hg.2.2.1
  have hg4 : tc' ≤ 40 := hg.2.2.2.1
  have hs1 := skp_le hg2
  cases oD with
  | none =>
    rw [rW_n hFe]
    refine x_aload_n d_Reader_readWhole_0 rfl rfl ?_
    refine x_iconst (v := 1) d_Reader_readWhole_1 (by decide) ?_
    refine x_callV (As := [_]) (k := k_Reader) rfl xcv_Reader_45_Reader (Or.inl hr) hX rfl rfl (Nat.le_of_ble_eq_true rfl) d_Reader_readWhole_2 ?_
    intro v h2 c2 n2 hv
    obtain ⟨rfl, ea2, va2, es2, ln2, m2, R2, f2, u2, w2, g2⟩ : v = some .null ∧ pT G (40 * (p' - 0) + 40) (2000 * (p' - 0) + 2000) K r ta na la ba t as kas Ns ea va p' 0 tc' ts' m h c n h2 c2 n2 := hv
    refine x_astore_n (L' := [_, _]) d_Reader_readWhole_5 rfl rfl rfl ?_
    refine x_aload_n d_Reader_readWhole_6 rfl rfl ?_
    refine x_ifnonnullN d_Reader_readWhole_7 ?_
    refine x_null d_Reader_readWhole_10 ?_
    refine x_aret d_Reader_readWhole_11 rfl rfl ?_
    exact ⟨⟨tc', R2.1⟩, f2, by omega, by omega, rfl⟩
  | some D =>
    have hg5 : D.2.2.length + (if D.1 < 1 then 2 else 0) ≤ 3 * (p' - 0) := (hg.2.2.2.2 D rfl).2
    have hDl : D.2.2.length ≤ 3 * p' := by omega
    rw [rW_s hFe]
    refine x_aload_n d_Reader_readWhole_0 rfl rfl ?_
    refine x_iconst (v := 1) d_Reader_readWhole_1 (by decide) ?_
    refine x_callV (As := [_]) (k := k_Reader) rfl xcv_Reader_45_Reader (Or.inl hr) hX rfl rfl (Nat.le_of_ble_eq_true rfl) d_Reader_readWhole_2 ?_
    intro v h2 c2 n2 hv
    obtain ⟨a, rfl, nd, q2⟩ : ∃ a, v = some (.ref a) ∧ isNode G h2 (p' - 0) a D ∧ pT G (40 * (p' - 0) - 16) (2000 * (p' - 0) - 660) K r ta na la ba t as kas Ns ea va p' 0 tc' ts' m h c n h2 c2 n2 := hv
    obtain ⟨ea2, va2, es2, ln2, m2, R2, f2, u2, w2, g2⟩ := pT.mono (C' := 40 * t.length) (N' := 2000 * t.length) q2 (by omega) (by omega)
    clear q2
    obtain ⟨hr2, hS2, hNs2, hLi2, hT2, hB2⟩ := id R2
    have nd := nd.mono (k' := 160) (by omega)
    refine x_astore_n (L' := [_, _]) d_Reader_readWhole_5 rfl rfl rfl ?_
    refine x_aload_n d_Reader_readWhole_6 rfl rfl ?_
    refine x_ifnonnull (tgt := 12) d_Reader_readWhole_7 (by decide) ?_
    refine x_aload_n d_Reader_readWhole_12 rfl rfl ?_
    refine x_callV (As := []) (k := k_Reader) rfl xcv_Reader_49_Reader (Or.inl hr2) (c_skipBlanks hG (by omega) hr2 hS2 (by omega) hg2) rfl rfl (Nat.le_of_ble_eq_true rfl) d_Reader_readWhole_13 ?_
    rintro v h3 c3 n3 ⟨rfl, rfl, rfl, rfl⟩
    have nd3 : isNode G (xup h2 r (rdO ta na la ba (skp t p') 0 tc')) 160 a D := isNode.fr (F := [r]) (xfr.rf.up (Or.inl (by simp))) (xno1 hr2 (by decide)) nd
    obtain ⟨ea3, va3, es3, ln3, m3, R3, f3, u3, w3, g3⟩ := pT.tr R2 f2 u2 w2 g2 (pT.ofR R2 (pR.ofU (c := c3) (n := n3) (e := rdO ta na la ba (skp t p') 0 tc') hr2 hB2 g2.2.1))
    revert nd3 R3 f3
    generalize xup h2 r (rdO ta na la ba (skp t p') 0 tc') = h3
    intro nd3 R3 f3
    clear R2 f2 u2 w2 g2 hr2 hS2 hNs2 hLi2 hT2 hB2 nd
    obtain ⟨hr3, hS3, hNs3, hLi3, hT3, hB3⟩ := id R3
    obtain ⟨vt, et, hta, -⟩ := id hS3
    obtain ⟨z3, bs3, hb3, -⟩ := id hB3
    refine x_aload_n d_Reader_readWhole_16 rfl rfl ?_
    refine x_get xf_Reader_25_Reader (Or.inl hr3) rfl d_Reader_readWhole_17 ?_
    refine x_aload_n d_Reader_readWhole_20 rfl rfl ?_
    refine x_get xf_Reader_35_Reader (Or.inl hr3) rfl d_Reader_readWhole_21 ?_
    refine x_callV (As := []) (k := k_String) rfl xcv_Reader_52_String hta (c_String_length (by omega) hS3) rfl rfl (Nat.le_of_ble_eq_true rfl) d_Reader_readWhole_24 ?_
    rintro v h4 c4 n4 ⟨rfl, rfl, rfl, rfl⟩
    by_cases hlt : skp t p' < t.length
    · rw [if_pos hlt]
      refine x_icmp_ge (tgt := 32) d_Reader_readWhole_27 (by decide) (fun ht => absurd ht (nI_ge (b := t.length) (by omega) (by omega))) (fun _ => ?_)
      refine x_null d_Reader_readWhole_30 ?_
      refine x_aret d_Reader_readWhole_31 rfl rfl ?_
      exact ⟨⟨tc', hr3⟩, f3, by omega, by omega, rfl⟩
    · rw [if_neg hlt]
      refine x_icmp_ge (tgt := 32) d_Reader_readWhole_27 (by decide) (fun _ => ?_) (fun hn => absurd (nI_le (a := t.length) (by omega) (by omega)) hn)
      refine x_aload_n d_Reader_readWhole_32 rfl rfl ?_
      refine x_get xf_Reader_21_Reader (Or.inl hr3) rfl d_Reader_readWhole_33 ?_
      refine x_iconst (v := 0) d_Reader_readWhole_36 (by decide) ?_
      refine x_callV (As := [_]) (k := k_StringBuilder) rfl xcv_Reader_58_SB (Or.inl hb3) (c_SB_setLength0 (by omega) hB3 (by omega)) rfl rfl (Nat.le_of_ble_eq_true rfl) d_Reader_readWhole_37 ?_
      rintro v h5 c5 n5 ⟨rfl, y1, y2, rfl, rfl⟩
      have nd5 : isNode G h5 160 a D := nd3.fr y2 (xno1 hb3 (by decide))
      obtain ⟨va5, m5, R5, f5, w5, g5⟩ := R3.ofR (pR.ofS (K := K) (c := c5) (n := n5) hr3 hB3 g3.2.1 y1 y2)
      obtain ⟨hr5, hS5, hNs5, hLi5, hT5, hB5⟩ := id R5
      refine x_aload_n d_Reader_readWhole_40 rfl rfl ?_
      refine x_aload_n d_Reader_readWhole_41 rfl rfl ?_
      refine x_get xf_Reader_21_Reader (Or.inl hr5) rfl d_Reader_readWhole_42 ?_
      refine x_callD (As := [_]) xD_Reader_62 (c_show hG hK (by omega) nd5 hB5 g5.2.1 (by simp; omega) (by omega) (by omega)) rfl rfl (Nat.le_of_ble_eq_true rfl) d_Reader_readWhole_45 ?_
      rintro v h6 c6 n6 ⟨rfl, p6⟩
      have nd6 : isNode G h6 160 a D := by
        obtain ⟨_, _, _, y, _⟩ := p6
        exact nd5.fr y (hB5.k1 (by decide) (by decide))
      have q6 := pR.tr hr5 hB5 f5 w5 g5 (pR.ofB hr5 hB5 p6)
      obtain ⟨va6, m6, R6, f36, w6, g6⟩ := R3.ofR q6
      have f6 : xfr h h6 [r, la, ea, ba, va] := by
        obtain ⟨_, _, _, _, _, _, y, _⟩ := pT.tr R3 f3 u3 w3 g3 (pT.ofR R3 q6)
        exact y
      have k6 : c6 ≤ c + K + 40 * t.length ∧ n6 ≤ n + 2 * K + 2000 * t.length ∧ c6 + m ≤ c + m6 + 40 * t.length ∧ n6 + 2 * m ≤ n + 2 * m6 + 2000 * t.length ∧ m6 ≤ K := by omega
      clear q6 p6 g6 g5 g3
      obtain ⟨hr6, hS6, hNs6, hLi6, hT6, hB6⟩ := id R6
      rw [List.nil_append] at hB6
      refine x_new xnw_Reader_66 (by omega) (by omega) d_Reader_readWhole_48 (fun y hn_y hk_y => ?_)
      have e6 : xfr h6 (xup h6 y (k_Condition, [.null, .null, .null])) [] := xfr.rf.up (Or.inr hn_y)
      have hr7 := e6.1 _ _ hr6 (by simp)
      have hB7 := hB6.up (e := (k_Condition, [.null, .null, .null])) hn_y
      obtain ⟨z7, bs7, hb7, -⟩ := id hB7
      refine x_dup d_Reader_readWhole_51 rfl ?_
      refine x_aload_n d_Reader_readWhole_52 rfl rfl ?_
      refine x_aload_n d_Reader_readWhole_53 rfl rfl ?_
      refine x_get xf_Reader_12_Reader (Or.inl hr7) rfl d_Reader_readWhole_54 ?_
      refine x_aload_n d_Reader_readWhole_57 rfl rfl ?_
      refine x_get xf_Reader_21_Reader (Or.inl hr7) rfl d_Reader_readWhole_58 ?_
      refine x_callV (As := []) (k := k_StringBuilder) rfl xcv_Reader_68_SB (Or.inl hb7) (c_SB_toString (by omega) hB7 (by omega) (by omega) (by omega)) rfl rfl (Nat.le_of_ble_eq_true rfl) d_Reader_readWhole_61 ?_
      rintro v h8 c8 n8 ⟨sa, rfl, s8, f8, k8, k8'⟩
      have hy8 := f8.1 _ _ (xup_self : xup h6 y (k_Condition, [.null, .null, .null]) y = _) (by simp)
      refine x_callI (As := [_, _, _]) xci_Reader_72 (c_Condition_init (by omega) hy8) rfl rfl (Nat.le_of_ble_eq_true rfl) d_Reader_readWhole_64 ?_
      rintro v h9 c9 n9 ⟨rfl, rfl, rfl, rfl⟩
      refine x_aret d_Reader_readWhole_67 rfl rfl ?_
      have e9 : xfr h6 (xup h8 y (k_Condition, [.ref a, .ref la, .ref sa])) [] := (e6.tr f8 (fun _ _ z => by cases z)).up (Or.inr hn_y)
      have hno : ∀ ks, xno h6 [] ks := fun ks q hq => by cases hq
      have hy0 : h y = none := f6.2 _ hn_y
      exact ⟨⟨tc', e9.1 _ _ hr6 (by simp)⟩, f6.tr e9 (fun _ _ z => by cases z), by omega, by omega, y, rfl, hy0, a, la, sa, ea3, es3, xup_self, nd6.fr e9 (hno _), hLi6.fr e9 (hno _), hT6.fr e9 (hno _), s8.upR hy8 (by decide), by omega, by show ts'.length ≤ 40; omega⟩
theorem isC.fr {h' : XH} {F : List Nat} {a : Nat} {D : Den} {ts : List TsT} (hC : isC G h a D ts) (hf : xfr h h' F) (hn : xno h F [k_Condition, k_Test, k_Join, k_Negation, k_Constant, k_avals, k_String, k_asbyte, k_ArrayList, k_aObject]) : isC G h' a D ts := by
  obtain ⟨ra, la, sa, ea, es, e1, e2, e3, e4, e5, e6⟩ := hC
  exact ⟨ra, la, sa, ea, es, hf.1 _ _ e1 (hn.at e1 (by decide)), e2.fr hf (hn.sub (by decide)), e3.fr hf (hn.sub (by decide)), e4.fr hf (hn.sub (by decide)), e5.fr hf (hn.sub (by decide)), e6⟩
end RE7
