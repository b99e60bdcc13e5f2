section
theorem d_Reader_readJoined_48 : decode M_Reader_readJoined.2.1 48 = .ok (.ldc 79, 2) := by decide +kernel
theorem d_Reader_readJoined_50 : decode M_Reader_readJoined.2.1 50 = .ok (.goto 5, 3) := by decide +kernel
theorem d_Reader_readJoined_65 : decode M_Reader_readJoined.2.1 65 = .ok (.aload_n 0, 1) := by decide +kernel
theorem d_Reader_readJoined_66 : decode M_Reader_readJoined.2.1 66 = .ok (.iconst 2, 1) := by decide +kernel
theorem d_Reader_readJoined_67 : decode M_Reader_readJoined.2.1 67 = .ok (.invokevirtual 45, 3) := by decide +kernel
theorem d_Reader_readJoined_70 : decode M_Reader_readJoined.2.1 70 = .ok (.goto 7, 3) := by decide +kernel
theorem d_Reader_readJoined_5 : decode M_Reader_readJoined.2.1 5 = .ok (.iconst 1, 1) := by decide +kernel
theorem d_Reader_readJoined_6 : decode M_Reader_readJoined.2.1 6 = .ok (.goto 4, 3) := by decide +kernel
theorem d_Reader_readJoined_15 : decode M_Reader_readJoined.2.1 15 = .ok (.aload_n 0, 1) := by decide +kernel
theorem d_Reader_readJoined_16 : decode M_Reader_readJoined.2.1 16 = .ok (.iconst 2, 1) := by decide +kernel
theorem d_Reader_readJoined_17 : decode M_Reader_readJoined.2.1 17 = .ok (.invokevirtual 45, 3) := by decide +kernel
theorem d_Reader_readJoined_20 : decode M_Reader_readJoined.2.1 20 = .ok (.goto 7, 3) := by decide +kernel
end
section RE4
variable {l : Launch} {G : XG} {h : XH} {c n d : Nat}
theorem c_joinOr (hG : xGk G) {K dd o sl sn : Nat} {t as kas : List Nat} {Ns : List NmT} {F : RS → RO} (hl : t.length ≤ 160) (hK : K < 2 ^ 16) (hsl : 4 ≤ sl ∧ sl ≤ 30) (hsn : 200 ≤ sn ∧ sn ≤ 1500) (hgF : gF t (1 + 1) F) (hF : CRd l G K t as kas Ns M_Reader_readJoined [.int 2] dd o sl sn F) (hdd : 6 ≤ dd) : CRd l G K t as kas Ns M_Reader_readJoined [.int 1] (dd + 1) o (sl - 2) (sn - 170) (jnd t F (xtx 24) 1) := by
  intro h c n d r ta na la ba ea va p tc m es ts ln hd hR hp h1 h2 hm hc hn
  obtain ⟨d, rfl⟩ : ∃ q, d = q + 1 := ⟨d - 1, by omega⟩
  obtain ⟨hr, -⟩ := id hR
  have lp : ∀ (j i p1 tc1 a c1 n1 : Nat) (ts1 : List TsT) (D : Den) (h1 : XH) (e5 : Option Value), i + j = 160 → pT G (40 * (p1 - p) - sl) (2000 * (p1 - p) - sn) K r ta na la ba t as kas Ns ea va p1 o tc1 ts1 m h c n h1 c1 n1 → isNode G h1 (p1 - p) a D → gR t 1 p ((p1, tc1, ts1), some D) →
      XW l G M_Reader_readJoined (d + 1) 31 [some (.ref r), some (.int 1), some (.int (bI true)), some (.ref a), some (.int (nI i)), e5] [] h1 c1 n1 (pN G (sl - 2) (sn - 170) K r ta na la ba t as kas Ns ea va p o m h c n (jn t F (xtx 24) 1 j (p1, tc1, ts1) D)) := by
    intro j
    induction j with
    | zero =>
      intro i p1 tc1 a c1 n1 ts1 D h1 e5 hi q1 nd hg
      refine x_iload d_Reader_readJoined_31 rfl ?_
      refine x_sipush (v := 160) d_Reader_readJoined_33 (by decide) ?_
      refine x_icmp_ge (tgt := 106) d_Reader_readJoined_36 (by decide) (fun _ => ?_) (fun hn => absurd (nI_le (a := 160) (by omega) (by omega)) hn)
      refine x_aload_n d_Reader_readJoined_106 rfl rfl ?_
      refine x_aret d_Reader_readJoined_107 rfl rfl ?_
      exact ⟨a, rfl, nd, q1.mono (by show _ ≤ 40 * (p1 - p) - (sl - 2); omega) (by show _ ≤ 2000 * (p1 - p) - (sn - 170); omega)⟩
    | succ j ih =>
      intro i p1 tc1 a c1 n1 ts1 D h1 e5 hi q1 nd hg
      obtain ⟨g1, g2, g3, g4, g5⟩ := id hg
      have g6 := (g5 D rfl).1
      have g1 : p ≤ p1 := g1
      have g2 : p1 ≤ t.length := g2
      have g3 : ts1.length ≤ tc1 := g3
      have g4 : tc1 ≤ 40 := g4
      have g6 : p < p1 := g6
      obtain ⟨ea1, va1, es1, ln1, m1, R1, f1, u1, w1, k1⟩ := q1
      obtain ⟨hr1, hS1, hNs1, hLi1, hT1, hB1⟩ := id R1
      have hk1 : p1 ≤ skp t p1 := scn_ge
      have hk2 : tkW t p1 (xtx 24) ≤ t.length := tkW_le g2
      have hgj := jn_g (Or.inl rfl) (w := xtx 24) (by decide) hgF p 1 (p1, tc1, ts1) D hg
      refine x_iload d_Reader_readJoined_31 rfl ?_
      refine x_sipush (v := 160) d_Reader_readJoined_33 (by decide) ?_
      refine x_icmp_ge (tgt := 106) d_Reader_readJoined_36 (by decide) (fun ht => absurd ht (nI_ge (b := 160) (by omega) (by omega))) (fun _ => ?_)
      refine x_aload_n d_Reader_readJoined_39 rfl rfl ?_
      refine x_ifnull d_Reader_readJoined_40 ?_
      refine x_aload_n d_Reader_readJoined_43 rfl rfl ?_
      refine x_iload_n d_Reader_readJoined_44 rfl ?_
      refine x_if_eq (tgt := 53) d_Reader_readJoined_45 (by decide) (fun ht => absurd ht (by decide)) (fun _ => ?_)
      refine x_ldcS (i := 24) (tx := "or") (by decide +kernel) d_Reader_readJoined_48 ?_
      refine x_goto (tgt := 55) d_Reader_readJoined_50 (by decide) ?_
      refine x_callV (As := [_]) (k := k_Reader) rfl xcv_Reader_83_Reader (Or.inl hr1) (c_takesWord hG (by omega) hr1 hS1 (by omega) g2 (hG.str (by decide)) (by decide) (by omega) (by omega)) rfl rfl (Nat.le_of_ble_eq_true rfl) d_Reader_readJoined_55 ?_
      rintro v h2' c2 n2 ⟨rfl, r2, f2, k2, k2'⟩
      obtain ⟨ea2, va2, es2, ln2, m2, R2, f2', u2, w2, k2''⟩ := pT.tr R1 f1 u1 w1 k1 (pT.ofR R1 (pR.ofW (K := K) (C := 2) (N := t.length + 4) (c := c1) (n := n1) hr1 hB1 k1.2.1 r2 f2 k2 (by omega)))
      have nd2 : isNode G h2' (p1 - p) a D := isNode.fr f2 (xno1 hr1 (by decide)) nd
      clear f2 k2 k2'
      have f2 := f2'
      have k2 := k2''
      clear f2' k2''
      obtain ⟨hr2, hS2, hNs2, hLi2, hT2, hB2⟩ := id R2
      by_cases hwd : wrd t (skp t p1) = xtx 24
      · have htk : tkW t p1 (xtx 24) = skp t p1 + (xtx 24).length := if_pos hwd
        have hwl : 2 ≤ (xtx 24).length := by decide
        have hgg := hgF (tkW t p1 (xtx 24)) tc1 ts1 hk2 g3 g4
        have hX := hF h2' c2 n2 d r ta na la ba ea2 va2 (tkW t p1 (xtx 24)) tc1 m2 es2 ts1 ln2 (by omega) R2 hk2 g3 g4 k2.2.1 (by omega) (by omega)
        rcases hFe : F (tkW t p1 (xtx 24), tc1, ts1) with ⟨⟨p', tc', ts'⟩, oD⟩
        rw [hFe] at hX hgg
        have hgg1 : tkW t p1 (xtx 24) ≤ p' := hgg.1
        have hgg2 : p' ≤ t.length := hgg.2.1
        cases oD with
        | none =>
          rw [show jn t F (xtx 24) 1 (j + 1) (p1, tc1, ts1) D = ((p', tc', ts'), none) from jn_n hwd hFe]
          refine x_if_eq (tgt := 106) d_Reader_readJoined_58 (by decide) (fun ht => absurd ht (by rw [decide_eq_true hwd]; decide)) (fun _ => ?_)
          refine x_iload_n d_Reader_readJoined_61 rfl ?_
          refine x_if_eq (tgt := 73) d_Reader_readJoined_62 (by decide) (fun ht => absurd ht (by decide)) (fun _ => ?_)
          refine x_aload_n d_Reader_readJoined_65 rfl rfl ?_
          refine x_iconst (v := 2) d_Reader_readJoined_66 (by decide) ?_
          refine x_callV (As := [_]) (k := k_Reader) rfl xcv_Reader_45_Reader (Or.inl hr2) hX rfl rfl (Nat.le_of_ble_eq_true rfl) d_Reader_readJoined_67 ?_
          intro v h3 c3 n3 hv
          obtain ⟨rfl, q3⟩ : v = some .null ∧ pT G (40 * (p' - tkW t p1 (xtx 24)) + 40) (2000 * (p' - tkW t p1 (xtx 24)) + 2000) K r ta na la ba t as kas Ns ea2 va2 p' o tc' ts' m2 h2' c2 n2 h3 c3 n3 := hv
          obtain ⟨ea4, va4, es4, ln4, m4, R4, f4, u4, w4, k4⟩ := pT.tr R2 f2 u2 w2 k2 q3
          clear q3
          have q5 : pT G (40 * (p' - p) + 40) (2000 * (p' - p) + 2000) K r ta na la ba t as kas Ns ea va p' o tc' ts' m h c n h3 c3 n3 := ⟨ea4, va4, es4, ln4, m4, R4, f4, u4, w4, by omega⟩
          have Q5 := Hid.in q5
          clear q5
          refine x_goto (tgt := 77) d_Reader_readJoined_70 (by decide) ?_
          refine x_astore (L' := [_, _, _, _, _, _]) d_Reader_readJoined_77 rfl rfl rfl ?_
          refine x_aload d_Reader_readJoined_79 rfl rfl ?_
          refine x_ifnonnullN d_Reader_readJoined_81 ?_
          refine x_null d_Reader_readJoined_84 ?_
          refine x_goto (tgt := 99) d_Reader_readJoined_85 (by decide) ?_
          refine x_astore_n (L' := [_, _, _, _, _, _]) d_Reader_readJoined_99 rfl rfl rfl ?_
          refine x_iinc (v := nI (i + 1)) (L' := [_, _, _, _, _, _]) d_Reader_readJoined_100 rfl (by exact xw_iinc1) rfl rfl ?_
          refine x_goto (tgt := 31) d_Reader_readJoined_103 (by decide) ?_
          by_cases hj : i + 1 < 160
          · refine x_iload d_Reader_readJoined_31 rfl ?_
            refine x_sipush (v := 160) d_Reader_readJoined_33 (by decide) ?_
            refine x_icmp_ge (tgt := 106) d_Reader_readJoined_36 (by decide) (fun ht => absurd ht (nI_ge (b := 160) (by omega) (by omega))) (fun _ => ?_)
            refine x_aload_n d_Reader_readJoined_39 rfl rfl ?_
            refine x_ifnullN (tgt := 106) d_Reader_readJoined_40 (by decide) ?_
            refine x_aload_n d_Reader_readJoined_106 rfl rfl ?_
            refine x_aret d_Reader_readJoined_107 rfl rfl ?_
            exact ⟨rfl, Q5.out⟩
          · refine x_iload d_Reader_readJoined_31 rfl ?_
            refine x_sipush (v := 160) d_Reader_readJoined_33 (by decide) ?_
            refine x_icmp_ge (tgt := 106) d_Reader_readJoined_36 (by decide) (fun _ => ?_) (fun hn => absurd (nI_le (a := 160) (by omega) (by omega)) hn)
            refine x_aload_n d_Reader_readJoined_106 rfl rfl ?_
            refine x_aret d_Reader_readJoined_107 rfl rfl ?_
            exact ⟨rfl, Q5.out⟩
        | some B =>
          have hgg6 : tkW t p1 (xtx 24) < p' := (hgg.2.2.2.2 B rfl).1
          rw [show jn t F (xtx 24) 1 (j + 1) (p1, tc1, ts1) D = jn t F (xtx 24) 1 j (p', tc', ts') (dJoin 1 D B) from jn_s hwd hFe]
          rw [show jn t F (xtx 24) 1 1 (p1, tc1, ts1) D = ((p', tc', ts'), some (dJoin 1 D B)) from jn_s (j := 0) hwd hFe] at hgj
          refine x_wf fun hwf2 => ?_
          refine x_if_eq (tgt := 106) d_Reader_readJoined_58 (by decide) (fun ht => absurd ht (by rw [decide_eq_true hwd]; decide)) (fun _ => ?_)
          refine x_iload_n d_Reader_readJoined_61 rfl ?_
          refine x_if_eq (tgt := 73) d_Reader_readJoined_62 (by decide) (fun ht => absurd ht (by decide)) (fun _ => ?_)
          refine x_aload_n d_Reader_readJoined_65 rfl rfl ?_
          refine x_iconst (v := 2) d_Reader_readJoined_66 (by decide) ?_
          refine x_callV (As := [_]) (k := k_Reader) rfl xcv_Reader_45_Reader (Or.inl hr2) hX rfl rfl (Nat.le_of_ble_eq_true rfl) d_Reader_readJoined_67 ?_
          intro v h3 c3 n3 hv
          obtain ⟨b, rfl, ndb, q3⟩ : ∃ b, v = some (.ref b) ∧ isNode G h3 (p' - tkW t p1 (xtx 24)) b B ∧ pT G (40 * (p' - tkW t p1 (xtx 24)) - sl) (2000 * (p' - tkW t p1 (xtx 24)) - sn) K r ta na la ba t as kas Ns ea2 va2 p' o tc' ts' m2 h2' c2 n2 h3 c3 n3 := hv
          have f3 : xfr h2' h3 [r, la, ea2, ba, va2] := by
            obtain ⟨_, _, _, _, _, _, y, _⟩ := q3
            exact y
          have hno : xno h2' [r, la, ea2, ba, va2] kNd := (xno1 hr2 (by decide)).ap ((hLi2.kn hG hwf2 (by decide) (by decide)).ap (hB2.k1 (by decide) (by decide)))
          have nd3 : isNode G h3 (p1 - p) a D := isNode.fr f3 hno nd2
          have q4 := pT.tr R2 f2 u2 w2 k2 q3
          clear q3
          have Q4 := Hid.in q4
          obtain ⟨ea4, va4, es4, ln4, m4, R4, f4, u4, w4, k4⟩ := q4
          refine x_goto (tgt := 77) d_Reader_readJoined_70 (by decide) ?_
          refine x_astore (L' := [_, _, _, _, _, _]) d_Reader_readJoined_77 rfl rfl rfl ?_
          refine x_aload d_Reader_readJoined_79 rfl rfl ?_
          refine x_ifnonnull (tgt := 88) d_Reader_readJoined_81 (by decide) ?_
          refine x_new xnw_Reader_87 (by omega) (by omega) d_Reader_readJoined_88 (fun y hn_y hk_y => ?_)
          refine x_dup d_Reader_readJoined_91 rfl ?_
          refine x_iload_n d_Reader_readJoined_92 rfl ?_
          refine x_aload_n d_Reader_readJoined_93 rfl rfl ?_
          refine x_aload d_Reader_readJoined_94 rfl rfl ?_
          refine x_callI (As := [_, _, _]) xci_Reader_89 (c_Join_init (by omega) xup_self) rfl rfl (Nat.le_of_ble_eq_true rfl) d_Reader_readJoined_96 ?_
          rintro v h5 c5 n5 ⟨rfl, rfl, rfl, rfl⟩
          refine x_astore_n (L' := [_, _, _, _, _, _]) d_Reader_readJoined_99 rfl rfl rfl ?_
          refine x_iinc (v := nI (i + 1)) (L' := [_, _, _, _, _, _]) d_Reader_readJoined_100 rfl (by exact xw_iinc1) rfl rfl ?_
          refine x_goto (tgt := 31) d_Reader_readJoined_103 (by decide) ?_
          refine x_hp (h' := xup h3 y (k_Join, [.ref a, .ref b, .int 1])) (by rw [xup_up]) ?_
          have ndf : ∀ {k z : Nat} {E : Den}, isNode G h3 k z E → isNode G (xup h3 y (k_Join, [.ref a, .ref b, .int 1])) k z E := fun q => isNode.fr (F := []) (xfr.rf.up (Or.inr hn_y)) (fun _ z => by cases z) q
          refine ih (i + 1) p' tc' y _ _ ts' (dJoin 1 D B) _ _ (by omega) ((Q4.out.up (dc := 1) (dn := 3) hn_y).mono (by omega) (by omega)) ?_ hgj
          refine isNode.mono (k := (p' - p - 1) + 1) (Or.inr (Or.inr ⟨1, a, b, D, B, Or.inl rfl, xup_self, (ndf nd3).mono (by omega), (ndf ndb).mono (by omega), rfl⟩)) (by omega)
      · have htk : tkW t p1 (xtx 24) = skp t p1 := if_neg hwd
        rw [show jn t F (xtx 24) 1 (j + 1) (p1, tc1, ts1) D = ((tkW t p1 (xtx 24), tc1, ts1), some D) from jn_e hwd]
        refine x_if_eq (tgt := 106) d_Reader_readJoined_58 (by decide) (fun _ => ?_) (fun hn => absurd (by rw [decide_eq_false hwd]; rfl) hn)
        refine x_aload_n d_Reader_readJoined_106 rfl rfl ?_
        refine x_aret d_Reader_readJoined_107 rfl rfl ?_
        exact ⟨a, rfl, nd2.mono (by show _ ≤ tkW t p1 (xtx 24) - p; omega), ea2, va2, es2, ln2, m2, R2, f2, u2, w2, by show xgs (40 * (tkW t p1 (xtx 24) - p) - (sl - 2)) (2000 * (tkW t p1 (xtx 24) - p) - (sn - 170)) K m m2 c n c2 n2; omega⟩
  have hX := hF h c n d r ta na la ba ea va p tc m es ts ln (by omega) hR hp h1 h2 hm hc hn
  have hgg := hgF p tc ts hp h1 h2
  refine XM.of (by decide +kernel) (Nat.le_of_ble_eq_true rfl) ?_
  rcases hFe : F (p, tc, ts) with ⟨⟨p', tc', ts'⟩, oD⟩
  rw [hFe] at hX hgg
  cases oD with
  | none =>
    rw [show jnd t F (xtx 24) 1 (p, tc, ts) = ((p', tc', ts'), none) by unfold jnd; rw [hFe]]
    refine x_iload_n d_Reader_readJoined_0 rfl ?_
    refine x_iconst (v := 1) d_Reader_readJoined_1 (by decide) ?_
    refine x_icmp_ne (tgt := 9) d_Reader_readJoined_2 (by decide) (fun ht => absurd rfl ht) (fun _ => ?_)
    refine x_iconst (v := 1) d_Reader_readJoined_5 (by decide) ?_
    refine x_goto (tgt := 10) d_Reader_readJoined_6 (by decide) ?_
    refine x_istore_n (L' := [_, _, _, _, _, _]) d_Reader_readJoined_10 rfl rfl ?_
    refine x_iload_n d_Reader_readJoined_11 rfl ?_
    refine x_if_eq (tgt := 23) d_Reader_readJoined_12 (by decide) (fun ht => absurd ht (by decide)) (fun _ => ?_)
    refine x_aload_n d_Reader_readJoined_15 rfl rfl ?_
    refine x_iconst (v := 2) d_Reader_readJoined_16 (by decide) ?_
    refine x_callV (As := [_]) (k := k_Reader) rfl xcv_Reader_45_Reader (Or.inl hr) hX rfl rfl (Nat.le_of_ble_eq_true rfl) d_Reader_readJoined_17 ?_
    intro v h3 c3 n3 hv
    obtain ⟨rfl, q3⟩ : v = some .null ∧ pT G (40 * (p' - p) + 40) (2000 * (p' - p) + 2000) K r ta na la ba t as kas Ns ea va p' o tc' ts' m h c n h3 c3 n3 := hv
    refine x_goto (tgt := 27) d_Reader_readJoined_20 (by decide) ?_
    refine x_astore_n (L' := [_, _, _, _, _, _]) d_Reader_readJoined_27 rfl rfl rfl ?_
    refine x_iconst (v := 0) d_Reader_readJoined_28 (by decide) ?_
    refine x_istore (L' := [_, _, _, _, _, _]) d_Reader_readJoined_29 rfl rfl ?_
    refine x_iload d_Reader_readJoined_31 rfl ?_
    refine x_sipush (v := 160) d_Reader_readJoined_33 (by decide) ?_
    refine x_icmp_ge (tgt := 106) d_Reader_readJoined_36 (by decide) (fun ht => absurd ht (by decide)) (fun _ => ?_)
    refine x_aload_n d_Reader_readJoined_39 rfl rfl ?_
    refine x_ifnullN (tgt := 106) d_Reader_readJoined_40 (by decide) ?_
    refine x_aload_n d_Reader_readJoined_106 rfl rfl ?_
    refine x_aret d_Reader_readJoined_107 rfl rfl ?_
    exact ⟨rfl, q3⟩
  | some D =>
    rw [show jnd t F (xtx 24) 1 (p, tc, ts) = jn t F (xtx 24) 1 160 (p', tc', ts') D by unfold jnd; rw [hFe]]
    refine x_iload_n d_Reader_readJoined_0 rfl ?_
    refine x_iconst (v := 1) d_Reader_readJoined_1 (by decide) ?_
    refine x_icmp_ne (tgt := 9) d_Reader_readJoined_2 (by decide) (fun ht => absurd rfl ht) (fun _ => ?_)
    refine x_iconst (v := 1) d_Reader_readJoined_5 (by decide) ?_
    refine x_goto (tgt := 10) d_Reader_readJoined_6 (by decide) ?_
    refine x_istore_n (L' := [_, _, _, _, _, _]) d_Reader_readJoined_10 rfl rfl ?_
    refine x_iload_n d_Reader_readJoined_11 rfl ?_
    refine x_if_eq (tgt := 23) d_Reader_readJoined_12 (by decide) (fun ht => absurd ht (by decide)) (fun _ => ?_)
    refine x_aload_n d_Reader_readJoined_15 rfl rfl ?_
    refine x_iconst (v := 2) d_Reader_readJoined_16 (by decide) ?_
    refine x_callV (As := [_]) (k := k_Reader) rfl xcv_Reader_45_Reader (Or.inl hr) hX rfl rfl (Nat.le_of_ble_eq_true rfl) d_Reader_readJoined_17 ?_
    intro v h3 c3 n3 hv
    obtain ⟨a, rfl, nd, q3⟩ : ∃ a, v = some (.ref a) ∧ isNode G h3 (p' - p) a D ∧ pT G (40 * (p' - p) - sl) (2000 * (p' - p) - sn) K r ta na la ba t as kas Ns ea va p' o tc' ts' m h c n h3 c3 n3 := hv
    refine x_goto (tgt := 27) d_Reader_readJoined_20 (by decide) ?_
    refine x_astore_n (L' := [_, _, _, _, _, _]) d_Reader_readJoined_27 rfl rfl rfl ?_
    refine x_iconst (v := 0) d_Reader_readJoined_28 (by decide) ?_
    refine x_istore (L' := [_, _, _, _, _, _]) d_Reader_readJoined_29 rfl rfl ?_
    refine lp 160 0 p' tc' a c3 n3 ts' D h3 _ rfl q3 nd ⟨hgg.1, hgg.2.1, hgg.2.2.1, hgg.2.2.2.1, fun D' z => ?_⟩
    cases z
    obtain ⟨y1, y2⟩ := hgg.2.2.2.2 D rfl
    refine ⟨y1, Nat.le_trans ?_ y2⟩
    by_cases hb : D.1 < 1
    · rw [if_pos hb, if_pos (by omega)]; exact Nat.le_refl _
    · rw [if_neg hb]; exact Nat.le_add_right _ _
end RE4
