section
abbrev y_Reader_readList : MethodName := ⟨"MarkerText$Reader", "readList", "(LMarkerText$Name;)[J"⟩
abbrev M_Reader_readList : XMt := (y_Reader_readList, prog_10_method_9_code, 4, (some (.array .long)))
theorem d_Reader_readList_28 : decode M_Reader_readList.2.1 28 = .ok (.iload_n 3, 1) := by decide +kernel
theorem d_Reader_readList_29 : decode M_Reader_readList.2.1 29 = .ok (.bipush 6, 2) := by decide +kernel
theorem d_Reader_readList_31 : decode M_Reader_readList.2.1 31 = .ok (.if_icmp .ge 75, 3) := by decide +kernel
theorem d_Reader_readList_106 : decode M_Reader_readList.2.1 106 = .ok (.aload_n 0, 1) := by decide +kernel
theorem d_Reader_readList_107 : decode M_Reader_readList.2.1 107 = .ok (.invokevirtual 49, 3) := by decide +kernel
theorem d_Reader_readList_110 : decode M_Reader_readList.2.1 110 = .ok (.aconst_null, 1) := by decide +kernel
theorem d_Reader_readList_111 : decode M_Reader_readList.2.1 111 = .ok (.areturn, 1) := by decide +kernel
theorem d_Reader_readList_34 : decode M_Reader_readList.2.1 34 = .ok (.aload_n 2, 1) := by decide +kernel
theorem d_Reader_readList_35 : decode M_Reader_readList.2.1 35 = .ok (.iload_n 3, 1) := by decide +kernel
theorem d_Reader_readList_36 : decode M_Reader_readList.2.1 36 = .ok (.aload_n 0, 1) := by decide +kernel
theorem d_Reader_readList_37 : decode M_Reader_readList.2.1 37 = .ok (.aload_n 1, 1) := by decide +kernel
theorem d_Reader_readList_38 : decode M_Reader_readList.2.1 38 = .ok (.invokevirtual 166, 3) := by decide +kernel
theorem d_Reader_readList_41 : decode M_Reader_readList.2.1 41 = .ok (.lastore, 1) := by decide +kernel
theorem d_Reader_readList_42 : decode M_Reader_readList.2.1 42 = .ok (.aload_n 2, 1) := by decide +kernel
theorem d_Reader_readList_43 : decode M_Reader_readList.2.1 43 = .ok (.iload_n 3, 1) := by decide +kernel
theorem d_Reader_readList_44 : decode M_Reader_readList.2.1 44 = .ok (.laload, 1) := by decide +kernel
theorem d_Reader_readList_45 : decode M_Reader_readList.2.1 45 = .ok (.lconst 0, 1) := by decide +kernel
theorem d_Reader_readList_46 : decode M_Reader_readList.2.1 46 = .ok (.lcmp, 1) := by decide +kernel
theorem d_Reader_readList_47 : decode M_Reader_readList.2.1 47 = .ok (.ifCond .ne 5, 3) := by decide +kernel
theorem d_Reader_readList_50 : decode M_Reader_readList.2.1 50 = .ok (.aconst_null, 1) := by decide +kernel
theorem d_Reader_readList_51 : decode M_Reader_readList.2.1 51 = .ok (.areturn, 1) := by decide +kernel
theorem d_Reader_readList_52 : decode M_Reader_readList.2.1 52 = .ok (.aload_n 0, 1) := by decide +kernel
theorem d_Reader_readList_53 : decode M_Reader_readList.2.1 53 = .ok (.bipush 93, 2) := by decide +kernel
theorem d_Reader_readList_55 : decode M_Reader_readList.2.1 55 = .ok (.invokevirtual 130, 3) := by decide +kernel
theorem xw_959 : (Jvm.Cond.code ({ cls := "MarkerText$Reader", name := "takesSign", desc := "(C)Z" } : Jvm.MethodName) prog_10_method_15_code (2 : Nat) (Option.some Jvm.ClassFile.FieldType.boolean)) ∈ xT := xT_at 959 (by decide +kernel) (by decide +kernel)
theorem xcb_Reader_takesSign : xcb M_Reader_takesSign 1 := ⟨xw_959, xw_23, by decide, by decide, by decide, by decide +kernel⟩
theorem xw_958 : (Jvm.Cond.instanceMethod ({ cls := "MarkerText$Reader", name := "takesSign", desc := "(C)Z" } : Jvm.MethodName)) ∈ xT := xT_at 958 (by decide +kernel) (by decide +kernel)
theorem xw_956 : (Jvm.Cond.methodLink "MarkerText$Reader" (130 : Nat) ({ cls := "MarkerText$Reader", name := "takesSign", desc := "(C)Z" } : Jvm.MethodName)) ∈ xT := xT_at 956 (by decide +kernel) (by decide +kernel)
theorem xsel_Reader_takesSign : Cond.selects "MarkerText$Reader" y_Reader_takesSign y_Reader_takesSign ∈ xT := xT_sel (q := (y_Reader_takesSign, 7)) (by decide +kernel) (by decide +kernel)
theorem xcv_Reader_130_Reader : xCV "MarkerText$Reader" 130 "MarkerText$Reader" M_Reader_takesSign 1 := ⟨xcb_Reader_takesSign, xw_958, Or.inl ⟨xw_956, Or.inl xsel_Reader_takesSign⟩⟩
theorem d_Reader_readList_58 : decode M_Reader_readList.2.1 58 = .ok (.ifCond .eq 21, 3) := by decide +kernel
theorem d_Reader_readList_61 : decode M_Reader_readList.2.1 61 = .ok (.aload_n 0, 1) := by decide +kernel
theorem d_Reader_readList_62 : decode M_Reader_readList.2.1 62 = .ok (.getfield 21, 3) := by decide +kernel
theorem d_Reader_readList_65 : decode M_Reader_readList.2.1 65 = .ok (.bipush 93, 2) := by decide +kernel
theorem d_Reader_readList_67 : decode M_Reader_readList.2.1 67 = .ok (.invokevirtual 143, 3) := by decide +kernel
theorem d_Reader_readList_70 : decode M_Reader_readList.2.1 70 = .ok (.pop, 1) := by decide +kernel
theorem d_Reader_readList_71 : decode M_Reader_readList.2.1 71 = .ok (.aload_n 2, 1) := by decide +kernel
theorem d_Reader_readList_72 : decode M_Reader_readList.2.1 72 = .ok (.iload_n 3, 1) := by decide +kernel
theorem d_Reader_readList_73 : decode M_Reader_readList.2.1 73 = .ok (.iconst 1, 1) := by decide +kernel
theorem d_Reader_readList_74 : decode M_Reader_readList.2.1 74 = .ok (.iadd, 1) := by decide +kernel
theorem d_Reader_readList_75 : decode M_Reader_readList.2.1 75 = .ok (.invokestatic 170, 3) := by decide +kernel
theorem xw_1001 : (Jvm.Cond.code ({ cls := "java/util/Arrays", name := "copyOf", desc := "([JI)[J" } : Jvm.MethodName) prog_34_method_124_code (3 : Nat) (Option.some (Jvm.ClassFile.FieldType.array Jvm.ClassFile.FieldType.long))) ∈ xT := xT_at 1001 (by decide +kernel) (by decide +kernel)
theorem xcb_Arrays_copyOf_aJI : xcb M_Arrays_copyOf_aJI 2 := ⟨xw_1001, xw_11, by decide, by decide, by decide, by decide +kernel⟩
theorem xw_999 : (Jvm.Cond.methodLink "MarkerText$Reader" (170 : Nat) ({ cls := "java/util/Arrays", name := "copyOf", desc := "([JI)[J" } : Jvm.MethodName)) ∈ xT := xT_at 999 (by decide +kernel) (by decide +kernel)
theorem xw_1000 : (Jvm.Cond.static ({ cls := "java/util/Arrays", name := "copyOf", desc := "([JI)[J" } : Jvm.MethodName)) ∈ xT := xT_at 1000 (by decide +kernel) (by decide +kernel)
theorem xcs_Reader_170 : xCS "MarkerText$Reader" 170 M_Arrays_copyOf_aJI 2 := ⟨xcb_Arrays_copyOf_aJI, xw_1000, Or.inl xw_999⟩
theorem d_Reader_readList_78 : decode M_Reader_readList.2.1 78 = .ok (.areturn, 1) := by decide +kernel
theorem d_Reader_readList_79 : decode M_Reader_readList.2.1 79 = .ok (.aload_n 0, 1) := by decide +kernel
theorem d_Reader_readList_80 : decode M_Reader_readList.2.1 80 = .ok (.bipush 44, 2) := by decide +kernel
theorem d_Reader_readList_82 : decode M_Reader_readList.2.1 82 = .ok (.invokevirtual 130, 3) := by decide +kernel
theorem d_Reader_readList_85 : decode M_Reader_readList.2.1 85 = .ok (.ifCond .ne 5, 3) := by decide +kernel
theorem d_Reader_readList_90 : decode M_Reader_readList.2.1 90 = .ok (.aload_n 0, 1) := by decide +kernel
theorem d_Reader_readList_91 : decode M_Reader_readList.2.1 91 = .ok (.getfield 21, 3) := by decide +kernel
theorem d_Reader_readList_94 : decode M_Reader_readList.2.1 94 = .ok (.ldc 176, 2) := by decide +kernel
theorem d_Reader_readList_96 : decode M_Reader_readList.2.1 96 = .ok (.invokevirtual 139, 3) := by decide +kernel
theorem d_Reader_readList_99 : decode M_Reader_readList.2.1 99 = .ok (.pop, 1) := by decide +kernel
theorem d_Reader_readList_100 : decode M_Reader_readList.2.1 100 = .ok (.iinc 3 1, 3) := by decide +kernel
theorem d_Reader_readList_103 : decode M_Reader_readList.2.1 103 = .ok (.goto (-75), 3) := by decide +kernel
theorem d_Reader_readList_88 : decode M_Reader_readList.2.1 88 = .ok (.aconst_null, 1) := by decide +kernel
theorem d_Reader_readList_89 : decode M_Reader_readList.2.1 89 = .ok (.areturn, 1) := by decide +kernel
theorem d_Reader_readList_0 : decode M_Reader_readList.2.1 0 = .ok (.aload_n 0, 1) := by decide +kernel
theorem d_Reader_readList_1 : decode M_Reader_readList.2.1 1 = .ok (.bipush 91, 2) := by decide +kernel
theorem d_Reader_readList_3 : decode M_Reader_readList.2.1 3 = .ok (.invokevirtual 130, 3) := by decide +kernel
theorem d_Reader_readList_6 : decode M_Reader_readList.2.1 6 = .ok (.ifCond .ne 5, 3) := by decide +kernel
theorem d_Reader_readList_11 : decode M_Reader_readList.2.1 11 = .ok (.aload_n 0, 1) := by decide +kernel
theorem d_Reader_readList_12 : decode M_Reader_readList.2.1 12 = .ok (.getfield 21, 3) := by decide +kernel
theorem d_Reader_readList_15 : decode M_Reader_readList.2.1 15 = .ok (.bipush 91, 2) := by decide +kernel
theorem d_Reader_readList_17 : decode M_Reader_readList.2.1 17 = .ok (.invokevirtual 143, 3) := by decide +kernel
theorem d_Reader_readList_20 : decode M_Reader_readList.2.1 20 = .ok (.pop, 1) := by decide +kernel
theorem d_Reader_readList_21 : decode M_Reader_readList.2.1 21 = .ok (.bipush 6, 2) := by decide +kernel
theorem d_Reader_readList_23 : decode M_Reader_readList.2.1 23 = .ok (.newarray .long, 2) := by decide +kernel
theorem d_Reader_readList_25 : decode M_Reader_readList.2.1 25 = .ok (.astore_n 2, 1) := by decide +kernel
theorem d_Reader_readList_26 : decode M_Reader_readList.2.1 26 = .ok (.iconst 0, 1) := by decide +kernel
theorem d_Reader_readList_27 : decode M_Reader_readList.2.1 27 = .ok (.istore_n 3, 1) := by decide +kernel
theorem d_Reader_readList_9 : decode M_Reader_readList.2.1 9 = .ok (.aconst_null, 1) := by decide +kernel
theorem d_Reader_readList_10 : decode M_Reader_readList.2.1 10 = .ok (.areturn, 1) := by decide +kernel
end
section RD6
variable {l : Launch} {G : XG} {h : XH} {c n d : Nat}
theorem XW.imp {M : XMt} {pc : Nat} {L : List (Option Value)} {st : List Value} {P Q : Option Value → XH → Nat → Nat → Prop} (k : XW l G M d pc L st h c n P) (hq : ∀ v h' c' n', P v h' c' n' → Q v h' c' n') : XW l G M d pc L st h c n Q := by
  intro p e R s m args below meth cd H locs cells slots ls hF hR hl hL hV hS hN T hT X
  obtain ⟨t, b1, o, o1, o2, ⟨⟨v, h', c', n', q1, q2, q3⟩, q4⟩, o4⟩ := k p e R s m args below meth cd H locs cells slots ls hF hR hl hL hV hS hN T hT X
  exact ⟨t, b1, o, o1, o2, ⟨⟨v, h', c', n', q1, hq _ _ _ _ q2, q3⟩, q4⟩, o4⟩
theorem scn_idem {q : Nat → Bool} {t : List Nat} : ∀ (k p : Nat), p + k = t.length → scn q t (scn q t p) = scn q t p := by
  intro k
  induction k with
  | zero =>
    intro p hp
    rw [scn_end (t := t) (p := p) (by omega), scn_end (by omega)]
  | succ k ih =>
    intro p hp
    have hpl : p < t.length := by omega
    cases hq : q t[p] with
    | true => rw [scn_step hpl hq]; exact ih (p + 1) (by omega)
    | false => rw [scn_stop hpl hq, scn_stop hpl hq]
theorem skp_idem {t : List Nat} {p : Nat} (hp : p ≤ t.length) : skp t (skp t p) = skp t p := scn_idem (t.length - p) p (by omega)
/-- the VALUES of a list, of which at most k more may come -/
def rls (t : List Nat) (kd : Nat) : Nat → Nat → List Nat → Nat × Option (List Nat) × List Nat
  | 0, p, _ => (skp t p, none, [])
  | k + 1, p, us =>
    if (rvl t kd p).2.1 = 0 then ((rvl t kd p).1, none, (rvl t kd p).2.2)
    else if chr t (skp t (rvl t kd p).1) = 93 then (skp t (rvl t kd p).1 + 1, some (us ++ [(rvl t kd p).2.1]), (rvl t kd p).2.2 ++ [93])
    else if chr t (skp t (rvl t kd p).1) = 44 then ((rls t kd k (skp t (rvl t kd p).1 + 1) (us ++ [(rvl t kd p).2.1])).1, (rls t kd k (skp t (rvl t kd p).1 + 1) (us ++ [(rvl t kd p).2.1])).2.1, (rvl t kd p).2.2 ++ (xtx 23 ++ (rls t kd k (skp t (rvl t kd p).1 + 1) (us ++ [(rvl t kd p).2.1])).2.2))
    else (skp t (rvl t kd p).1, none, (rvl t kd p).2.2)
def rlist (t : List Nat) (kd p : Nat) : Nat × Option (List Nat) × List Nat := if chr t (skp t p) = 91 then ((rls t kd 6 (skp t p + 1) []).1, (rls t kd 6 (skp t p + 1) []).2.1, 91 :: (rls t kd 6 (skp t p + 1) []).2.2) else (skp t p, none, [])
theorem c_readList (hG : xGk G) (hd : 8 ≤ d) {K r ta na la ba va p o tc m oa ka kd : Nat} {t ln w ks : List Nat} (hr : h r = some (rdO ta na la ba p o tc)) (hS : isS G h ta t) (hl : t.length < 2 ^ 20) (hp : p ≤ t.length) (hB : isB h ba va ln m) (hN : isN G h oa ka w kd ks) (hK : K < 2 ^ 16) (hm : m ≤ K) (hL : 2 * (ln.length + (rlist t kd p).2.2.length) + 4 ≤ K) (hc : c + K + 14 ≤ xCB + m) (hn : n + 2 * K + (6 * (t.length + 5) + 12) ≤ xSB + 2 * m) :
    XM l G d M_Reader_readList [.ref r, .ref oa] h c n (fun v h' c' n' => pVs h h' v (rlist t kd p).2.1 ∧ pR 14 (6 * (t.length + 5) + 12) K r ba va (rdO ta na la ba (rlist t kd p).1 o tc) (ln ++ (rlist t kd p).2.2) m h c n h' c' n') := by
  obtain ⟨d, rfl⟩ : ∃ q, d = q + 1 := ⟨d - 1, by omega⟩
  have hkr : xno h [r, ba, va] [k_String, k_asbyte, k_Name, k_aknown] := hB.kR hr (by decide) (by decide) (by decide)
  have hSf : ∀ {h1 : XH}, xfr h h1 [r, ba, va] → isS G h1 ta t := fun f => hS.fr f (hkr.sub (by decide))
  have hNf : ∀ {h1 : XH}, xfr h h1 [r, ba, va] → isN G h1 oa ka w kd ks := fun f => by
    obtain ⟨sa, y1, -, y3, -⟩ := id hN
    exact hN.fr f (hkr.sub (by decide)) (hkr.at y1 (by decide)) (hkr.at y3 (by decide))
  have lp : ∀ (arr : Nat), h arr = none → ∀ (k : Nat) (us : List Nat) (p c1 n1 C1 N1 : Nat) (h1 : XH) (ln1 : List Nat), us.length + k = 6 → p ≤ t.length → pR C1 N1 K r ba va (rdO ta na la ba p o tc) ln1 m h c n h1 c1 n1 → h1 arr = some (k_avals, xlv 6 us) → 2 * (ln1.length + (rls t kd k p us).2.2.length) + 4 ≤ K → c + K + C1 + (2 * k + 1) ≤ xCB + m → n + 2 * K + N1 + (k * (t.length + 5) + 6) ≤ xSB + 2 * m →
      XW l G M_Reader_readList (d + 1) 28 [some (.ref r), some (.ref oa), some (.ref arr), some (.int (nI us.length))] [] h1 c1 n1 (fun v h' c' n' => pVs h h' v (rls t kd k p us).2.1 ∧ pR (C1 + (2 * k + 1)) (N1 + (k * (t.length + 5) + 6)) K r ba va (rdO ta na la ba (rls t kd k p us).1 o tc) (ln1 ++ (rls t kd k p us).2.2) m h c n h' c' n') := by
    intro arr harr k
    induction k with
    | zero =>
      intro us p c1 n1 C1 N1 h1 ln1 hk hp p1 ha1 hL1 hc1 hn1
      obtain ⟨va1, m1, r1, b1, f1, w1, g1⟩ := id p1
      refine x_iload_n d_Reader_readList_28 rfl ?_
      refine x_bipush (v := 6) d_Reader_readList_29 (by decide) ?_
      refine x_icmp_ge (tgt := 106) d_Reader_readList_31 (by decide) (fun _ => ?_) (fun hn => absurd (nI_le (a := 6) (by omega) (by omega)) hn)
      refine x_aload_n d_Reader_readList_106 rfl rfl ?_
      refine x_callV (As := []) (k := k_Reader) rfl xcv_Reader_49_Reader (Or.inl r1) (c_skipBlanks hG (by omega) r1 (hSf f1) hl hp) rfl rfl (Nat.le_of_ble_eq_true rfl) d_Reader_readList_107 ?_
      rintro v h2 c2 n2 ⟨rfl, rfl, rfl, rfl⟩
      refine x_null d_Reader_readList_110 ?_
      refine x_aret d_Reader_readList_111 rfl rfl ?_
      refine ⟨rfl, ?_⟩
      show pR _ _ K r ba va (rdO ta na la ba (skp t p) o tc) (ln1 ++ []) m h c n _ _ _
      rw [List.append_nil]
      exact (pR.tr r1 b1 f1 w1 g1 (pR.ofU (c := c2) (n := n2) (e := rdO ta na la ba (skp t p) o tc) r1 b1 g1.2.1)).mono (by omega) (by omega)
    | succ k ih =>
      intro us p c1 n1 C1 N1 h1 ln1 hk hp p1 ha1 hL1 hc1 hn1
      rw [Nat.add_mul k 1, Nat.one_mul] at hn1 ⊢
      generalize hkB : k * (t.length + 5) = kB at hn1 ⊢
      have hv63 := rvl_lt (kd := kd) (p := p) hS.asc
      have hR1 := rvl_le (kd := kd) hp
      have hR2 := skp_le hR1
      obtain ⟨va1, m1, r1, b1, f1, w1, g1⟩ := id p1
      have hlen : (rvl t kd p).2.2.length ≤ (rls t kd (k + 1) p us).2.2.length := by
        unfold rls
        split
        · exact Nat.le_refl _
        · split
          · simp
          · split
            · simp
            · exact Nat.le_refl _
      refine x_iload_n d_Reader_readList_28 rfl ?_
      refine x_bipush (v := 6) d_Reader_readList_29 (by decide) ?_
      refine x_icmp_ge (tgt := 106) d_Reader_readList_31 (by decide) (fun ht => absurd ht (nI_ge (b := 6) (by omega) (by omega))) (fun _ => ?_)
      refine x_aload_n d_Reader_readList_34 rfl rfl ?_
      refine x_iload_n d_Reader_readList_35 rfl ?_
      refine x_aload_n d_Reader_readList_36 rfl rfl ?_
      refine x_aload_n d_Reader_readList_37 rfl rfl ?_
      refine x_callV (As := [_]) (k := k_Reader) rfl xcv_Reader_166_Reader (Or.inl r1) (c_readValue (K := K) hG (by omega) r1 (hSf f1) hl hp b1 (hNf f1) hK g1.2.1 (by omega) (by omega) (by omega)) rfl rfl (Nat.le_of_ble_eq_true rfl) d_Reader_readList_38 ?_
      rintro v h2 c2 n2 ⟨rfl, p2⟩
      obtain ⟨va2, m2, r2, b2, f2, w2, g2⟩ := id p2
      have ha2 : h2 arr = some (k_avals, xlv 6 us) := f2.1 _ _ ha1 ((b1.kR r1 (ks := [k_avals]) (by decide) (by decide) (by decide)).at ha1 (by decide))
      have p2' := pR.tr r1 b1 f1 w1 g1 p2
      refine x_last (k := k_avals) rfl ha2 (nI_pos (by omega)) (by rw [nI_clamp (by omega)]; exact xlv_end (by omega)) d_Reader_readList_41 ?_
      rw [nI_clamp (by omega), xlv_push (by omega)]
      have p3 := p2'.upF (e' := (k_avals, xlv 6 (us ++ [(rvl t kd p).2.1]))) harr ha2 ⟨by show k_avals ≠ k_Reader; decide, by decide, by decide⟩
      have ha3 : xup h2 arr (k_avals, xlv 6 (us ++ [(rvl t kd p).2.1])) arr = some (k_avals, xlv 6 (us ++ [(rvl t kd p).2.1])) := xup_self
      revert p3 ha3
      generalize xup h2 arr (k_avals, xlv 6 (us ++ [(rvl t kd p).2.1])) = h3
      intro p3 ha3
      have hix : (xlv 6 (us ++ [(rvl t kd p).2.1]))[(nI us.length).toNatClampNeg]? = some (.long (lN (rvl t kd p).2.1)) := by
        rw [nI_clamp (by omega), xlv_at (by simp)]
        simp
      obtain ⟨va3, m3, r3, b3, f3, w3, g3⟩ := id p3
      refine x_aload_n d_Reader_readList_42 rfl rfl ?_
      refine x_iload_n d_Reader_readList_43 rfl ?_
      refine x_lald (k := k_avals) rfl (Or.inl ha3) (nI_pos (by omega)) hix d_Reader_readList_44 ?_
      refine x_lconst (v := 0) d_Reader_readList_45 (by decide) ?_
      refine x_lcmp d_Reader_readList_46 ?_
      by_cases hz : (rvl t kd p).2.1 = 0
      · have hrl : rls t kd (k + 1) p us = ((rvl t kd p).1, none, (rvl t kd p).2.2) := if_pos hz
        refine x_if_ne (tgt := 52) d_Reader_readList_47 (by decide) (fun ht => absurd ((lg_cmp_eq _ _).mpr (by rw [hz]; rfl)) ht) (fun _ => ?_)
        refine x_null d_Reader_readList_50 ?_
        refine x_aret d_Reader_readList_51 rfl rfl ?_
        rw [hrl]
        exact ⟨rfl, p3.mono (by omega) (by omega)⟩
      refine x_if_ne (tgt := 52) d_Reader_readList_47 (by decide) (fun _ => ?_) (fun hn => absurd hn (fun z => hz ((pk_lEQ (b := 0) hv63 (by decide)).mp ((lg_cmp_eq _ _).mp z))))
      refine x_aload_n d_Reader_readList_52 rfl rfl ?_
      refine x_bipush (v := 93) d_Reader_readList_53 (by decide) ?_
      refine x_callV (As := [_]) (k := k_Reader) rfl xcv_Reader_130_Reader (Or.inl r3) (c_takesSign (ch := 93) hG (by omega) r3 (hSf f3) hl hR1 (by decide)) rfl rfl (Nat.le_of_ble_eq_true rfl) d_Reader_readList_55 ?_
      rintro v h4 c4 n4 ⟨rfl, rfl, rfl, rfl⟩
      by_cases h93 : chr t (skp t (rvl t kd p).1) = 93
      · have hrl : rls t kd (k + 1) p us = (skp t (rvl t kd p).1 + 1, some (us ++ [(rvl t kd p).2.1]), (rvl t kd p).2.2 ++ [93]) := by
          show (if _ then _ else _) = _
          rw [if_neg hz, if_pos h93]
        have htk : tkS t (rvl t kd p).1 93 = skp t (rvl t kd p).1 + 1 := if_pos h93
        rw [htk, hrl]
        rw [hrl] at hL1
        simp only [List.length_append, List.length_singleton] at hL1
        have ha4 : xup h3 r (rdO ta na la ba (skp t (rvl t kd p).1 + 1) o tc) arr = some (k_avals, xlv 6 (us ++ [(rvl t kd p).2.1])) := by rw [xup_ne (xne ha3 r3 (by decide))]; exact ha3
        obtain ⟨va4, m4, r4, b4, f4, w4, g4⟩ := pR.tr r3 b3 f3 w3 g3 (pR.ofU (c := c4) (n := n4) (e := rdO ta na la ba (skp t (rvl t kd p).1 + 1) o tc) r3 b3 g3.2.1)
        obtain ⟨z4, bs4, hb4, -⟩ := id b4
        refine x_if_eq (tgt := 79) d_Reader_readList_58 (by decide) (fun ht => absurd ht (by rw [decide_eq_true h93]; decide)) (fun _ => ?_)
        refine x_aload_n d_Reader_readList_61 rfl rfl ?_
        refine x_get xf_Reader_21_Reader (Or.inl r4) rfl d_Reader_readList_62 ?_
        refine x_bipush (v := 93) d_Reader_readList_65 (by decide) ?_
        refine x_callV (As := [_]) (k := k_StringBuilder) rfl xcv_Reader_143_SB (Or.inl hb4) (c_SB_append_C (K := K) (ch := 93) (by omega) b4 (by decide) hK g4.2.1 (by simp; omega) (by omega) (by omega)) rfl rfl (Nat.le_of_ble_eq_true rfl) d_Reader_readList_67 ?_
        rintro v h5 c5 n5 ⟨rfl, p5⟩
        have p5' := pR.ofB r4 b4 p5
        obtain ⟨_, _, _, _, f5, _, _⟩ := id p5'
        have ha5 : h5 arr = some (k_avals, xlv 6 (us ++ [(rvl t kd p).2.1])) := f5.1 _ _ ha4 ((b4.kR r4 (ks := [k_avals]) (by decide) (by decide) (by decide)).at ha4 (by decide))
        have p6 := pR.tr r4 b4 f4 w4 g4 p5'
        obtain ⟨va6, m6, r6, b6, f6, w6, g6⟩ := id p6
        refine x_pop d_Reader_readList_70 rfl ?_
        refine x_aload_n d_Reader_readList_71 rfl rfl ?_
        refine x_iload_n d_Reader_readList_72 rfl ?_
        refine x_iconst (v := 1) d_Reader_readList_73 (by decide) ?_
        refine x_iadd d_Reader_readList_74 ?_
        refine x_st (st' := [.int (nI (us ++ [(rvl t kd p).2.1]).length), .ref arr]) (by rw [show (1 : Int32) = nI 1 from rfl, nI_add]; simp) ?_
        refine x_callS (As := [_, _]) xcs_Reader_170 (c_copyOf_aJ (by omega) ha5 (by simp; omega) (by omega) (by omega)) rfl rfl (Nat.le_of_ble_eq_true rfl) d_Reader_readList_75 ?_
        rintro v h7 c7 n7 ⟨q, rfl, hq, rfl, rfl, rfl⟩
        refine x_aret d_Reader_readList_78 rfl rfl ?_
        obtain ⟨p7, hq0⟩ := p6.upN (a := q) (e' := (k_avals, (us ++ [(rvl t kd p).2.1]).map (fun v => Value.long (lN v)))) hq (dc := 1) (dn := ((us ++ [(rvl t kd p).2.1]).map (fun v => Value.long (lN v))).length)
        rw [List.append_assoc] at p7
        exact ⟨⟨q, rfl, hq0, xup_self⟩, p7.mono (by omega) (by simp; omega)⟩
      · have htk : tkS t (rvl t kd p).1 93 = skp t (rvl t kd p).1 := if_neg h93
        rw [htk]
        have ha4 : xup h3 r (rdO ta na la ba (skp t (rvl t kd p).1) o tc) arr = some (k_avals, xlv 6 (us ++ [(rvl t kd p).2.1])) := by rw [xup_ne (xne ha3 r3 (by decide))]; exact ha3
        have p4 := pR.tr r3 b3 f3 w3 g3 (pR.ofU (c := c4) (n := n4) (e := rdO ta na la ba (skp t (rvl t kd p).1) o tc) r3 b3 g3.2.1)
        revert p4 ha4
        generalize xup h3 r (rdO ta na la ba (skp t (rvl t kd p).1) o tc) = h4
        intro ha4 p4
        obtain ⟨va4, m4, r4, b4, f4, w4, g4⟩ := id p4
        refine x_if_eq (tgt := 79) d_Reader_readList_58 (by decide) (fun _ => ?_) (fun hn => absurd (by rw [decide_eq_false h93]; rfl) hn)
        refine x_aload_n d_Reader_readList_79 rfl rfl ?_
        refine x_bipush (v := 44) d_Reader_readList_80 (by decide) ?_
        refine x_callV (As := [_]) (k := k_Reader) rfl xcv_Reader_130_Reader (Or.inl r4) (c_takesSign (ch := 44) hG (by omega) r4 (hSf f4) hl hR2 (by decide)) rfl rfl (Nat.le_of_ble_eq_true rfl) d_Reader_readList_82 ?_
        rintro v h5 c5 n5 ⟨rfl, rfl, rfl, rfl⟩
        unfold tkS
        rw [skp_idem hR1]
        by_cases h44 : chr t (skp t (rvl t kd p).1) = 44
        · have hrl : rls t kd (k + 1) p us = ((rls t kd k (skp t (rvl t kd p).1 + 1) (us ++ [(rvl t kd p).2.1])).1, (rls t kd k (skp t (rvl t kd p).1 + 1) (us ++ [(rvl t kd p).2.1])).2.1, (rvl t kd p).2.2 ++ (xtx 23 ++ (rls t kd k (skp t (rvl t kd p).1 + 1) (us ++ [(rvl t kd p).2.1])).2.2)) := by
            show (if _ then _ else _) = _
            rw [if_neg hz, if_neg h93, if_pos h44]
          have hsl : skp t (rvl t kd p).1 < t.length := Nat.lt_of_not_le (fun z => by rw [chr_out z] at h44; omega)
          rw [if_pos h44, hrl]
          rw [hrl] at hL1
          simp only [List.length_append] at hL1
          have ha5 : xup h4 r (rdO ta na la ba (skp t (rvl t kd p).1 + 1) o tc) arr = some (k_avals, xlv 6 (us ++ [(rvl t kd p).2.1])) := by rw [xup_ne (xne ha4 r4 (by decide))]; exact ha4
          obtain ⟨va5, m5, r5, b5, f5, w5, g5⟩ := pR.tr r4 b4 f4 w4 g4 (pR.ofU (c := c5) (n := n5) (e := rdO ta na la ba (skp t (rvl t kd p).1 + 1) o tc) r4 b4 g4.2.1)
          obtain ⟨z5, bs5, hb5, -⟩ := id b5
          refine x_if_ne (tgt := 90) d_Reader_readList_85 (by decide) (fun _ => ?_) (fun hn => absurd hn (by rw [decide_eq_true h44]; decide))
          refine x_aload_n d_Reader_readList_90 rfl rfl ?_
          refine x_get xf_Reader_21_Reader (Or.inl r5) rfl d_Reader_readList_91 ?_
          refine x_ldcS (i := 23) (tx := ", ") (by decide +kernel) d_Reader_readList_94 ?_
          refine x_callV (As := [_]) (k := k_StringBuilder) rfl xcv_Reader_139_SB (Or.inl hb5) (c_SB_append_S (K := K) (by omega) b5 (hG.str (by decide)) hK g5.2.1 (by simp only [List.length_append]; omega) (by omega) (by omega)) rfl rfl (Nat.le_of_ble_eq_true rfl) d_Reader_readList_96 ?_
          rintro v h6 c6 n6 ⟨rfl, p6⟩
          have p6' := pR.ofB r5 b5 p6
          obtain ⟨_, _, _, _, f6, _, _⟩ := id p6'
          have ha6 : h6 arr = some (k_avals, xlv 6 (us ++ [(rvl t kd p).2.1])) := f6.1 _ _ ha5 ((b5.kR r5 (ks := [k_avals]) (by decide) (by decide) (by decide)).at ha5 (by decide))
          have p7 := pR.tr r5 b5 f5 w5 g5 p6'
          refine x_pop d_Reader_readList_99 rfl ?_
          refine x_iinc (v := nI (us.length + 1)) (L' := [_, _, _, _]) d_Reader_readList_100 rfl (by exact xw_iinc1) rfl rfl ?_
          refine x_goto (tgt := 28) d_Reader_readList_103 (by decide) ?_
          have hus : (us ++ [(rvl t kd p).2.1]).length = us.length + 1 := by simp
          have := ih (us ++ [(rvl t kd p).2.1]) (skp t (rvl t kd p).1 + 1) c6 n6 _ _ h6 _ (by omega) (by omega) p7 ha6 (by simp only [List.length_append]; omega) (by omega) (by omega)
          rw [hus] at this
          refine XW.imp this (fun v h' c' n' hq => ⟨hq.1, ?_⟩)
          have hq2 := hq.2
          rw [List.append_assoc, List.append_assoc] at hq2
          exact hq2.mono (by omega) (by omega)
        · have hrl : rls t kd (k + 1) p us = (skp t (rvl t kd p).1, none, (rvl t kd p).2.2) := by
            show (if _ then _ else _) = _
            rw [if_neg hz, if_neg h93, if_neg h44]
          rw [if_neg h44, hrl, xup_id r4]
          refine x_if_ne (tgt := 90) d_Reader_readList_85 (by decide) (fun ht => absurd (by rw [decide_eq_false h44]; rfl) ht) (fun _ => ?_)
          refine x_null d_Reader_readList_88 ?_
          refine x_aret d_Reader_readList_89 rfl rfl ?_
          exact ⟨rfl, p4.mono (by omega) (by omega)⟩
  refine XM.of (by decide +kernel) (Nat.le_of_ble_eq_true rfl) ?_
  have hq := skp_le hp
  refine x_aload_n d_Reader_readList_0 rfl rfl ?_
  refine x_bipush (v := 91) d_Reader_readList_1 (by decide) ?_
  refine x_callV (As := [_]) (k := k_Reader) rfl xcv_Reader_130_Reader (Or.inl hr) (c_takesSign (ch := 91) hG (by omega) hr hS hl hp (by decide)) rfl rfl (Nat.le_of_ble_eq_true rfl) d_Reader_readList_3 ?_
  rintro v h1 c1 n1 ⟨rfl, rfl, rfl, rfl⟩
  by_cases h91 : chr t (skp t p) = 91
  · have hrl : rlist t kd p = ((rls t kd 6 (skp t p + 1) []).1, (rls t kd 6 (skp t p + 1) []).2.1, 91 :: (rls t kd 6 (skp t p + 1) []).2.2) := if_pos h91
    have hsl : skp t p < t.length := Nat.lt_of_not_le (fun z => by rw [chr_out z] at h91; omega)
    rw [show tkS t p 91 = skp t p + 1 from if_pos h91, hrl]
    rw [hrl] at hL
    simp only [List.length_cons] at hL
    obtain ⟨va1, m1, r1, b1, f1, w1, g1⟩ := pR.ofU (c := c1) (n := n1) (e := rdO ta na la ba (skp t p + 1) o tc) hr hB hm
    obtain ⟨z1, bs1, hb1, -⟩ := id b1
    refine x_if_ne (tgt := 11) d_Reader_readList_6 (by decide) (fun _ => ?_) (fun hn => absurd hn (by rw [decide_eq_true h91]; decide))
    refine x_aload_n d_Reader_readList_11 rfl rfl ?_
    refine x_get xf_Reader_21_Reader (Or.inl r1) rfl d_Reader_readList_12 ?_
    refine x_bipush (v := 91) d_Reader_readList_15 (by decide) ?_
    refine x_callV (As := [_]) (k := k_StringBuilder) rfl xcv_Reader_143_SB (Or.inl hb1) (c_SB_append_C (K := K) (ch := 91) (by omega) b1 (by decide) hK g1.2.1 (by omega) (by omega) (by omega)) rfl rfl (Nat.le_of_ble_eq_true rfl) d_Reader_readList_17 ?_
    rintro v h2 c2 n2 ⟨rfl, p2⟩
    have p2' := pR.tr r1 b1 f1 w1 g1 (pR.ofB r1 b1 p2)
    obtain ⟨va2, m2, r2, b2, f2, w2, g2⟩ := id p2'
    refine x_pop d_Reader_readList_20 rfl ?_
    refine x_bipush (v := 6) d_Reader_readList_21 (by decide) ?_
    refine x_newa (k := k_avals) rfl rfl (fun _ hz => by cases hz) xw_110 (z := 6) (by decide) rfl (by decide) (by omega) (by omega) d_Reader_readList_23 (fun q hn_q hk_q => ?_)
    obtain ⟨p3, hq0⟩ := p2'.upN (a := q) (e' := (k_avals, xlv 6 [])) hn_q (dc := 1) (dn := 6)
    refine x_astore_n (L' := [_, _, _, _]) d_Reader_readList_25 rfl rfl rfl ?_
    refine x_iconst (v := 0) d_Reader_readList_26 (by decide) ?_
    refine x_istore_n (L' := [_, _, _, _]) d_Reader_readList_27 rfl rfl ?_
    have := lp q hq0 6 [] (skp t p + 1) _ _ _ _ _ _ rfl (by omega) p3 xup_self (by simp only [List.length_append, List.length_singleton]; omega) (by omega) (by omega)
    refine XW.imp this (fun v h' c' n' hh => ⟨hh.1, ?_⟩)
    have hq2 := hh.2
    rw [List.append_assoc] at hq2
    exact hq2.mono (by omega) (by omega)
  · have hrl : rlist t kd p = (skp t p, none, []) := if_neg h91
    rw [show tkS t p 91 = skp t p from if_neg h91, hrl]
    refine x_if_ne (tgt := 11) d_Reader_readList_6 (by decide) (fun ht => absurd (by rw [decide_eq_false h91]; rfl) ht) (fun _ => ?_)
    refine x_null d_Reader_readList_9 ?_
    refine x_aret d_Reader_readList_10 rfl rfl ?_
    refine ⟨rfl, ?_⟩
    rw [List.append_nil]
    exact (pR.ofU (c := c1) (n := n1) (e := rdO ta na la ba (skp t p) o tc) hr hB hm).mono (by omega) (by omega)
end RD6
