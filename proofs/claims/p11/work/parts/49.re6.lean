section
theorem d_Reader_readTest_0 : decode M_Reader_readTest.2.1 0 = .ok (.aload_n 0, 1) := by decide +kernel
theorem d_Reader_readTest_1 : decode M_Reader_readTest.2.1 1 = .ok (.invokevirtual 49, 3) := by decide +kernel
theorem d_Reader_readTest_4 : decode M_Reader_readTest.2.1 4 = .ok (.aload_n 0, 1) := by decide +kernel
theorem d_Reader_readTest_5 : decode M_Reader_readTest.2.1 5 = .ok (.invokevirtual 92, 3) := by decide +kernel
theorem d_Reader_readTest_8 : decode M_Reader_readTest.2.1 8 = .ok (.astore_n 1, 1) := by decide +kernel
theorem d_Reader_readTest_9 : decode M_Reader_readTest.2.1 9 = .ok (.aload_n 1, 1) := by decide +kernel
theorem d_Reader_readTest_10 : decode M_Reader_readTest.2.1 10 = .ok (.ldc 95, 2) := by decide +kernel
theorem d_Reader_readTest_12 : decode M_Reader_readTest.2.1 12 = .ok (.invokevirtual 97, 3) := by decide +kernel
theorem d_Reader_readTest_15 : decode M_Reader_readTest.2.1 15 = .ok (.istore_n 2, 1) := by decide +kernel
theorem d_Reader_readTest_16 : decode M_Reader_readTest.2.1 16 = .ok (.iload_n 2, 1) := by decide +kernel
theorem d_Reader_readTest_17 : decode M_Reader_readTest.2.1 17 = .ok (.ifCond .ne 12, 3) := by decide +kernel
theorem d_Reader_readTest_20 : decode M_Reader_readTest.2.1 20 = .ok (.aload_n 0, 1) := by decide +kernel
theorem d_Reader_readTest_21 : decode M_Reader_readTest.2.1 21 = .ok (.invokevirtual 101, 3) := by decide +kernel
theorem d_Reader_readTest_24 : decode M_Reader_readTest.2.1 24 = .ok (.bipush 40, 2) := by decide +kernel
theorem d_Reader_readTest_26 : decode M_Reader_readTest.2.1 26 = .ok (.if_icmp .ne 22, 3) := by decide +kernel
theorem d_Reader_readTest_29 : decode M_Reader_readTest.2.1 29 = .ok (.aload_n 0, 1) := by decide +kernel
theorem d_Reader_readTest_30 : decode M_Reader_readTest.2.1 30 = .ok (.getfield 29, 3) := by decide +kernel
theorem d_Reader_readTest_33 : decode M_Reader_readTest.2.1 33 = .ok (.bipush 12, 2) := by decide +kernel
theorem d_Reader_readTest_35 : decode M_Reader_readTest.2.1 35 = .ok (.if_icmp .ge 11, 3) := by decide +kernel
theorem d_Reader_readTest_46 : decode M_Reader_readTest.2.1 46 = .ok (.aconst_null, 1) := by decide +kernel
theorem d_Reader_readTest_47 : decode M_Reader_readTest.2.1 47 = .ok (.areturn, 1) := by decide +kernel
theorem d_Reader_readTest_38 : decode M_Reader_readTest.2.1 38 = .ok (.aload_n 0, 1) := by decide +kernel
theorem d_Reader_readTest_39 : decode M_Reader_readTest.2.1 39 = .ok (.iload_n 2, 1) := by decide +kernel
theorem d_Reader_readTest_40 : decode M_Reader_readTest.2.1 40 = .ok (.invokevirtual 105, 3) := by decide +kernel
theorem xw_935 : (Jvm.Cond.code ({ cls := "MarkerText$Reader", name := "readOpened", desc := "(Z)LMarkerText$Node;" } : Jvm.MethodName) prog_10_method_5_code (3 : Nat) (Option.some (Jvm.ClassFile.FieldType.object "MarkerText$Node"))) ∈ xT := xT_at 935 (by decide +kernel) (by decide +kernel)
theorem xcb_Reader_readOpened : xcb M_Reader_readOpened 1 := ⟨xw_935, xw_23, by decide, by decide, by decide, by decide +kernel⟩
theorem xw_934 : (Jvm.Cond.instanceMethod ({ cls := "MarkerText$Reader", name := "readOpened", desc := "(Z)LMarkerText$Node;" } : Jvm.MethodName)) ∈ xT := xT_at 934 (by decide +kernel) (by decide +kernel)
theorem xw_932 : (Jvm.Cond.methodLink "MarkerText$Reader" (105 : Nat) ({ cls := "MarkerText$Reader", name := "readOpened", desc := "(Z)LMarkerText$Node;" } : Jvm.MethodName)) ∈ xT := xT_at 932 (by decide +kernel) (by decide +kernel)
theorem xsel_Reader_readOpened : Cond.selects "MarkerText$Reader" y_Reader_readOpened y_Reader_readOpened ∈ xT := xT_sel (q := (y_Reader_readOpened, 7)) (by decide +kernel) (by decide +kernel)
theorem xcv_Reader_105_Reader : xCV "MarkerText$Reader" 105 "MarkerText$Reader" M_Reader_readOpened 1 := ⟨xcb_Reader_readOpened, xw_934, Or.inl ⟨xw_932, Or.inl xsel_Reader_readOpened⟩⟩
theorem d_Reader_readTest_43 : decode M_Reader_readTest.2.1 43 = .ok (.goto 4, 3) := by decide +kernel
end
section RE6
variable {l : Launch} {G : XG} {h : XH} {c n d : Nat}
theorem CRd.mono {K dd dd' o sl sl' sn sn' : Nat} {t as kas : List Nat} {Ns : List NmT} {M : XMt} {xs : List Value} {F : RS → RO} (hF : CRd l G K t as kas Ns M xs dd o sl sn F) (hd : dd ≤ dd') (h1 : sl' ≤ sl) (h2 : sn' ≤ sn) : CRd l G K t as kas Ns M xs dd' o sl' sn' F := by
  intro h c n d r ta na la ba ea va p tc m es ts ln gd hR hp e1 e2 hm hc hn
  refine (hF h c n d r ta na la ba ea va p tc m es ts ln (by omega) hR hp e1 e2 hm hc hn).mono ?_
  intro v h' c' n' hv
  rcases hFe : F (p, tc, ts) with ⟨⟨p', tc', ts'⟩, oD⟩
  rw [hFe] at hv
  cases oD with
  | none => exact hv
  | some D =>
    obtain ⟨a, y1, y2, y3⟩ : ∃ a, v = some (.ref a) ∧ isNode G h' (p' - p) a D ∧ pT G (40 * (p' - p) - sl) (2000 * (p' - p) - sn) K r ta na la ba t as kas Ns ea va p' o tc' ts' m h c n h' c' n' := hv
    exact ⟨a, y1, y2, y3.mono (by show _ ≤ 40 * (p' - p) - sl'; omega) (by show _ ≤ 2000 * (p' - p) - sn'; omega)⟩
theorem rt_all (hG : xGk G) {K dd o : Nat} {t as kas : List Nat} {Ns : List NmT} {X : Bool → RS → RO} {F : RS → RO} (hl : t.length ≤ 160) (hK : K < 2 ^ 16) (hK2 : 4 * t.length + 60 ≤ K) (hdd : 10 ≤ dd)
    (hF : ∀ st : RS, F st = if wrd t (skp t st.1) = xtx 19 ∨ chr t (skp t st.1) = 40 then X (decide (wrd t (skp t st.1) = xtx 19)) (skp t st.1, st.2) else rLf t Ns (skp t st.1, st.2))
    (hX : ∀ (b : Bool) (p tc : Nat) (ts : List TsT), p + (if b then 3 else 1) ≤ t.length → ts.length ≤ tc → tc ≤ 40 → gR t 3 p (X b (p, tc, ts)))
    (hO : ∀ (h : XH) (c n d r ta na la ba ea va p tc m q : Nat) (b : Bool) (es : List Nat) (ts : List TsT) (ln : List Nat) (e3 e4 : Option Value) (P : Option Value → XH → Nat → Nat → Prop), dd ≤ d → isRd G h r ta na la ba t as kas Ns ea va p o tc es ts ln m → p + (if b then 3 else 1) ≤ t.length → ts.length ≤ tc → tc ≤ 40 → m ≤ K → c + K + 40 * (t.length - p) ≤ xCB + m → n + 2 * K + 2000 * (t.length - p) ≤ xSB + 2 * m → (∀ v h' c' n', pO G K r ta na la ba t as kas Ns ea va p o m h c n (X b (p, tc, ts)) v h' c' n' → P v h' c' n') →
      XW l G M_Reader_readTest (d + 1) 29 [some (.ref r), some (.ref q), some (.int (bI b)), e3, e4] [] h c n P) :
    CRd l G K t as kas Ns M_Reader_readTest [] (dd + 1) o 20 1000 F := by
  intro h c n d r ta na la ba ea va p tc m es ts ln hd hR hp h1 h2 hm hc hn
  obtain ⟨d, rfl⟩ : ∃ q, d = q + 1 := ⟨d - 1, by omega⟩
  obtain ⟨hr, hS, hNs, hLi, hT, hB⟩ := id hR
  have hq := skp_le hp
  have hg0 : p ≤ skp t p := scn_ge
  have hw := wrd_le hq
  refine XM.of (by decide +kernel) (Nat.le_of_ble_eq_true rfl) ?_
  rw [hF (p, tc, ts)]
  refine x_aload_n d_Reader_readTest_0 rfl rfl ?_
  refine x_callV (As := []) (k := k_Reader) rfl xcv_Reader_49_Reader (Or.inl hr) (c_skipBlanks hG (by omega) hr hS (by omega) hp) rfl rfl (Nat.le_of_ble_eq_true rfl) d_Reader_readTest_1 ?_
  rintro v h' c' n' ⟨rfl, rfl, rfl, rfl⟩
  obtain ⟨va1, m1, R1, f1, w1, g1⟩ := hR.ofR (pR.ofU (c := c') (n := n') (e := rdO ta na la ba (skp t p) o tc) hr hB hm)
  revert R1 f1
  generalize xup h r (rdO ta na la ba (skp t p) o tc) = h5
  intro R1 f1
  have f1 := f1.mono (F' := [r, la, ea, ba, va]) (by simp)
  obtain ⟨hr1, hS1, hNs1, hLi1, hT1, hB1⟩ := id R1
  refine x_aload_n d_Reader_readTest_4 rfl rfl ?_
  refine x_callV (As := []) (k := k_Reader) rfl xcv_Reader_92_Reader (Or.inl hr1) (c_wordHere hG (by omega) hr1 hS1 (by omega) hq (by omega) (by omega)) rfl rfl (Nat.le_of_ble_eq_true rfl) d_Reader_readTest_5 ?_
  rintro v h6 c6 n6 ⟨q, rfl, hW, f6, k1, k2⟩
  obtain ⟨ea2, va2, es2, ln2, m2, R2, f2, u2, w2, g2⟩ := pT.tr R1 f1 (Or.inl rfl) w1 g1 (pT.ofR R1 (pR.ofN (C := 2) (N := t.length + 4) (c := c') (n := n') (c' := c6) (n' := n6) hr1 hB1 g1.2.1 f6 k1 (by omega)))
  clear g1 k1 k2
  obtain ⟨hr2, hS2, hNs2, hLi2, hT2, hB2⟩ := id R2
  obtain ⟨vq, eq, hqa, -⟩ := id hW
  refine x_astore_n (L' := [_, _, _, _, _]) d_Reader_readTest_8 rfl rfl rfl ?_
  refine x_aload_n d_Reader_readTest_9 rfl rfl ?_
  refine x_ldcS (i := 19) (tx := "not") (by decide +kernel) d_Reader_readTest_10 ?_
  refine x_callV (As := [_]) (k := k_String) rfl xcv_Reader_97_String hqa (c_String_equals (by omega) hW (hG.str (by decide)) (by omega) (by decide)) rfl rfl (Nat.le_of_ble_eq_true rfl) d_Reader_readTest_12 ?_
  rintro v h7 c7 n7 ⟨rfl, rfl, rfl, rfl⟩
  have key : ∀ (b : Bool), b = decide (wrd t (skp t p) = xtx 19) → (wrd t (skp t p) = xtx 19 ∨ chr t (skp t p) = 40) → ∀ e3 e4, XW l G M_Reader_readTest (d + 1) 29 [some (.ref r), some (.ref q), some (.int (bI b)), e3, e4] [] h7 c7 n7 (pN G 20 1000 K r ta na la ba t as kas Ns ea va p o m h c' n' (if wrd t (skp t p) = xtx 19 ∨ chr t (skp t p) = 40 then X (decide (wrd t (skp t p) = xtx 19)) (skp t p, tc, ts) else rLf t Ns (skp t p, tc, ts))) := by
    intro b hb hcn e3 e4
    rw [if_pos hcn, ← hb]
    have hpb : skp t p + (if b then 3 else 1) ≤ t.length := by
      by_cases hno : wrd t (skp t p) = xtx 19
      · rw [hb, decide_eq_true hno]
        exact wrd_not hq hno
      · rw [hb, decide_eq_false hno]
        have hc2 := hcn.resolve_left hno
        have : skp t p < t.length := Nat.lt_of_not_le (fun z => by rw [chr_out z] at hc2; omega)
        exact this
    have hgX := hX b (skp t p) tc ts hpb h1 h2
    refine hO h7 c7 n7 d r ta na la ba ea2 va2 (skp t p) tc m2 q b es2 ts ln2 e3 e4 _ (by omega) R2 hpb h1 h2 g2.2.1 (by omega) (by omega) ?_
    intro v h8 c8 n8 hv
    revert hv hgX
    generalize X b (skp t p, tc, ts) = R
    obtain ⟨⟨p', tc', ts'⟩, oD⟩ := R
    intro hgX hv
    have hg1 : skp t p ≤ p' := hgX.1
    cases oD with
    | none =>
      obtain ⟨rfl, q3⟩ : v = some .null ∧ pT G (40 * (p' - skp t p)) (2000 * (p' - skp t p)) K r ta na la ba t as kas Ns ea2 va2 p' o tc' ts' m2 h7 c7 n7 h8 c8 n8 := hv
      exact ⟨rfl, (pT.tr R2 f2 u2 w2 g2 q3).mono (by show _ ≤ 40 * (p' - p) + 40; omega) (by show _ ≤ 2000 * (p' - p) + 2000; omega)⟩
    | some D =>
      have hg6 : skp t p < p' := (hgX.2.2.2.2 D rfl).1
      obtain ⟨a, rfl, nd, q3⟩ : ∃ a, v = some (.ref a) ∧ isNode G h8 (p' - skp t p) a D ∧ pT G (40 * (p' - skp t p) - 36) (2000 * (p' - skp t p) - 1900) K r ta na la ba t as kas Ns ea2 va2 p' o tc' ts' m2 h7 c7 n7 h8 c8 n8 := hv
      exact ⟨a, rfl, nd.mono (by show _ ≤ p' - p; omega), (pT.tr R2 f2 u2 w2 g2 q3).mono (by show _ ≤ 40 * (p' - p) - 20; omega) (by show _ ≤ 2000 * (p' - p) - 1000; omega)⟩
  by_cases hno : wrd t (skp t p) = xtx 19
  · refine x_top (w := .int (bI true)) (by rw [if_pos hno]; rfl) ?_
    refine x_istore_n (L' := [_, _, _, _, _]) d_Reader_readTest_15 rfl rfl ?_
    refine x_iload_n d_Reader_readTest_16 rfl ?_
    refine x_if_ne (tgt := 29) d_Reader_readTest_17 (by decide) (fun _ => ?_) (fun hn => absurd hn (by decide))
    exact key true (decide_eq_true hno).symm (Or.inl hno) _ _
  · refine x_top (w := .int (bI false)) (by rw [if_neg hno]; rfl) ?_
    refine x_istore_n (L' := [_, _, _, _, _]) d_Reader_readTest_15 rfl rfl ?_
    refine x_iload_n d_Reader_readTest_16 rfl ?_
    refine x_if_ne (tgt := 29) d_Reader_readTest_17 (by decide) (fun ht => absurd rfl ht) (fun _ => ?_)
    refine x_aload_n d_Reader_readTest_20 rfl rfl ?_
    refine x_callV (As := []) (k := k_Reader) rfl xcv_Reader_101_Reader (Or.inl hr2) (c_characterHere hG (by omega) hr2 hS2 (by omega) hq) rfl rfl (Nat.le_of_ble_eq_true rfl) d_Reader_readTest_21 ?_
    rintro v h8 c8 n8 ⟨rfl, rfl, rfl, rfl⟩
    have hchr : chr t (skp t p) < 128 := chr_lt hS2.asc
    by_cases h40 : chr t (skp t p) = 40
    · refine x_bipush (v := 40) d_Reader_readTest_24 (by decide) ?_
      refine x_icmp_ne (tgt := 48) d_Reader_readTest_26 (by decide) (fun ht => absurd (by rw [h40]; rfl) ht) (fun _ => ?_)
      exact key false (decide_eq_false hno).symm (Or.inr h40) _ _
    · refine x_bipush (v := 40) d_Reader_readTest_24 (by decide) ?_
      refine x_icmp_ne (tgt := 48) d_Reader_readTest_26 (by decide) (fun _ => ?_) (fun hn => absurd hn (fun z => h40 ((nI_eq (b := 40) (by omega) (by omega)).mp z)))
      rw [if_neg (fun z => z.elim hno h40)]
      have hgL := rLf_g (Ns := Ns) hq h1 h2
      refine rt_leaf hG hl hK hK2 (by omega) R2 hq h1 h2 g2.2.1 hW (by omega) (by omega) ?_
      intro v h9 c9 n9 hv
      revert hv hgL
      generalize rLf t Ns (skp t p, tc, ts) = R
      obtain ⟨⟨p', tc', ts'⟩, oD⟩ := R
      intro hgL hv
      have hg1 : skp t p ≤ p' := hgL.1
      cases oD with
      | none =>
        obtain ⟨rfl, q3⟩ : v = some .null ∧ pT G 20 (9 * t.length + 200) K r ta na la ba t as kas Ns ea2 va2 p' o tc' ts' m2 h8 c8 n8 h9 c9 n9 := hv
        exact ⟨rfl, (pT.tr R2 f2 u2 w2 g2 q3).mono (by show _ ≤ 40 * (p' - p) + 40; omega) (by show _ ≤ 2000 * (p' - p) + 2000; omega)⟩
      | some D =>
        obtain ⟨hpp, a, rfl, nd, q3⟩ : skp t p + 2 ≤ p' ∧ ∃ a, v = some (.ref a) ∧ isNode G h9 0 a D ∧ pT G 20 (9 * t.length + 200) K r ta na la ba t as kas Ns ea2 va2 p' o tc' ts' m2 h8 c8 n8 h9 c9 n9 := hv
        exact ⟨a, rfl, nd.mono (Nat.zero_le _), (pT.tr R2 f2 u2 w2 g2 q3).mono (by show _ ≤ 40 * (p' - p) - 20; omega) (by show _ ≤ 2000 * (p' - p) - 1000; omega)⟩
theorem c_readTest (hG : xGk G) {K : Nat} {t as kas : List Nat} {Ns : List NmT} (hl : t.length ≤ 160) (hK : K < 2 ^ 16) (hK2 : 4 * t.length + 60 ≤ K) : ∀ (k o : Nat), o + k = 12 → CRd l G K t as kas Ns M_Reader_readTest [] (11 + 4 * k) o 20 1000 (rT t Ns k) := by
  intro k
  induction k with
  | zero =>
    intro o ho
    refine rt_all (dd := 10) (X := fun _ st => (st, none)) hG hl hK hK2 (by omega) (fun st => rfl) ?_ ?_
    · intro b p tc ts hp h1 h2
      exact ⟨Nat.le_refl _, Nat.le_trans (Nat.le_add_right _ _) hp, h1, h2, fun D z => by cases z⟩
    · intro h c n d r ta na la ba ea va p tc m q b es ts ln e3 e4 P hd hR hp h1 h2 hm hc hn hP
      obtain ⟨hr, hS, hNs, hLi, hT, hB⟩ := id hR
      refine x_aload_n d_Reader_readTest_29 rfl rfl ?_
      refine x_get xf_Reader_29_Reader (Or.inl hr) rfl d_Reader_readTest_30 ?_
      refine x_bipush (v := 12) d_Reader_readTest_33 (by decide) ?_
      refine x_icmp_ge (tgt := 46) d_Reader_readTest_35 (by decide) (fun _ => ?_) (fun hn => absurd (nI_le (a := 12) (by omega) (by omega)) hn)
      refine x_null d_Reader_readTest_46 ?_
      refine x_aret d_Reader_readTest_47 rfl rfl ?_
      exact hP _ _ _ _ ⟨rfl, ea, va, es, ln, m, hR, xfr.rf, Or.inl rfl, Or.inl rfl, by omega⟩
  | succ k ih =>
    intro o ho
    have iF := ih (o + 1) (by omega)
    have gF' := rT_g (t := t) (Ns := Ns) k
    have gA : gF t 2 (jAnd t (rT t Ns k)) := jnd_g (Or.inr rfl) (by decide) gF'
    have gO : gF t 1 (jOr t (rT t Ns k)) := jnd_g (Or.inl rfl) (by decide) gA
    have iA := c_joinAnd hG hl hK (by omega) (by omega) gF' iF (by omega)
    have iO := c_joinOr hG hl hK (by omega) (by omega) gA iA (by omega)
    rw [show 11 + 4 * (k + 1) = 14 + 4 * k + 1 by omega]
    refine rt_all (dd := 14 + 4 * k) (F := rT t Ns (k + 1)) (X := fun b st => rOp t (rT t Ns k) (jOr t (rT t Ns k)) b st) hG hl hK hK2 (by omega) (fun st => rfl) ?_ ?_
    · intro b p tc ts hp h1 h2
      exact rOp_g gF' gO hp h1 h2
    · intro h c n d r ta na la ba ea va p tc m q b es ts ln e3 e4 P hd hR hp h1 h2 hm hc hn hP
      obtain ⟨hr, hS, hNs, hLi, hT, hB⟩ := id hR
      have hX := c_readOpened (b := b) hG hl hK (by omega) gF' gO (CRd.mono (dd' := 13 + 4 * k) iF (by omega) (Nat.zero_le _) (Nat.zero_le _)) (CRd.mono (dd' := 13 + 4 * k) iO (by omega) (Nat.zero_le _) (Nat.zero_le _)) (d := d) (by omega) (by omega) hR hp h1 h2 hm hc hn
      refine x_aload_n d_Reader_readTest_29 rfl rfl ?_
      refine x_get xf_Reader_29_Reader (Or.inl hr) rfl d_Reader_readTest_30 ?_
      refine x_bipush (v := 12) d_Reader_readTest_33 (by decide) ?_
      refine x_icmp_ge (tgt := 46) d_Reader_readTest_35 (by decide) (fun ht => absurd ht (nI_ge (b := 12) (by omega) (by omega))) (fun _ => ?_)
      refine x_aload_n d_Reader_readTest_38 rfl rfl ?_
      refine x_iload_n d_Reader_readTest_39 rfl ?_
      refine x_callV (As := [_]) (k := k_Reader) rfl xcv_Reader_105_Reader (Or.inl hr) hX rfl rfl (Nat.le_of_ble_eq_true rfl) d_Reader_readTest_40 ?_
      intro v h' c' n' hv
      have hvv : v = some .null ∨ ∃ a, v = some (.ref a) := by
        revert hv
        generalize rOp t (rT t Ns k) (jOr t (rT t Ns k)) b (p, tc, ts) = R
        obtain ⟨st', oD⟩ := R
        cases oD with
        | none => exact fun hv => Or.inl hv.1
        | some D => exact fun ⟨a, ha, _⟩ => Or.inr ⟨a, ha⟩
      rcases hvv with rfl | ⟨a, rfl⟩
      · refine x_goto (tgt := 47) d_Reader_readTest_43 (by decide) ?_
        refine x_aret d_Reader_readTest_47 rfl rfl ?_
        exact hP _ _ _ _ hv
      · refine x_goto (tgt := 47) d_Reader_readTest_43 (by decide) ?_
        refine x_aret d_Reader_readTest_47 rfl rfl ?_
        exact hP _ _ _ _ hv
end RE6
