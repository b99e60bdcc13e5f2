section
abbrev y_Reader_readValue : MethodName := ⟨"MarkerText$Reader", "readValue", "(LMarkerText$Name;)J"⟩
abbrev M_Reader_readValue : XMt := (y_Reader_readValue, prog_10_method_10_code, 5, (some .long))
theorem d_Reader_readValue_0 : decode M_Reader_readValue.2.1 0 = .ok (.aload_n 0, 1) := by decide +kernel
theorem d_Reader_readValue_1 : decode M_Reader_readValue.2.1 1 = .ok (.invokevirtual 49, 3) := by decide +kernel
theorem d_Reader_readValue_4 : decode M_Reader_readValue.2.1 4 = .ok (.aload_n 0, 1) := by decide +kernel
theorem d_Reader_readValue_5 : decode M_Reader_readValue.2.1 5 = .ok (.invokevirtual 101, 3) := by decide +kernel
theorem d_Reader_readValue_8 : decode M_Reader_readValue.2.1 8 = .ok (.bipush 39, 2) := by decide +kernel
theorem d_Reader_readValue_10 : decode M_Reader_readValue.2.1 10 = .ok (.if_icmp .eq 5, 3) := by decide +kernel
theorem d_Reader_readValue_15 : decode M_Reader_readValue.2.1 15 = .ok (.aload_n 0, 1) := by decide +kernel
theorem d_Reader_readValue_16 : decode M_Reader_readValue.2.1 16 = .ok (.getfield 25, 3) := by decide +kernel
theorem d_Reader_readValue_19 : decode M_Reader_readValue.2.1 19 = .ok (.iconst 1, 1) := by decide +kernel
theorem d_Reader_readValue_20 : decode M_Reader_readValue.2.1 20 = .ok (.iadd, 1) := by decide +kernel
theorem d_Reader_readValue_21 : decode M_Reader_readValue.2.1 21 = .ok (.istore_n 2, 1) := by decide +kernel
theorem d_Reader_readValue_52 : decode M_Reader_readValue.2.1 52 = .ok (.iload_n 2, 1) := by decide +kernel
theorem d_Reader_readValue_53 : decode M_Reader_readValue.2.1 53 = .ok (.aload_n 0, 1) := by decide +kernel
theorem d_Reader_readValue_54 : decode M_Reader_readValue.2.1 54 = .ok (.getfield 35, 3) := by decide +kernel
theorem d_Reader_readValue_57 : decode M_Reader_readValue.2.1 57 = .ok (.invokevirtual 52, 3) := by decide +kernel
theorem d_Reader_readValue_60 : decode M_Reader_readValue.2.1 60 = .ok (.if_icmp .lt 16, 3) := by decide +kernel
theorem d_Reader_readValue_63 : decode M_Reader_readValue.2.1 63 = .ok (.aload_n 0, 1) := by decide +kernel
theorem d_Reader_readValue_64 : decode M_Reader_readValue.2.1 64 = .ok (.aload_n 0, 1) := by decide +kernel
theorem d_Reader_readValue_65 : decode M_Reader_readValue.2.1 65 = .ok (.getfield 35, 3) := by decide +kernel
theorem d_Reader_readValue_68 : decode M_Reader_readValue.2.1 68 = .ok (.invokevirtual 52, 3) := by decide +kernel
theorem d_Reader_readValue_71 : decode M_Reader_readValue.2.1 71 = .ok (.putfield 25, 3) := by decide +kernel
theorem d_Reader_readValue_74 : decode M_Reader_readValue.2.1 74 = .ok (.lconst 0, 1) := by decide +kernel
theorem d_Reader_readValue_75 : decode M_Reader_readValue.2.1 75 = .ok (.lreturn, 1) := by decide +kernel
theorem d_Reader_readValue_76 : decode M_Reader_readValue.2.1 76 = .ok (.aload_n 1, 1) := by decide +kernel
theorem d_Reader_readValue_77 : decode M_Reader_readValue.2.1 77 = .ok (.aload_n 0, 1) := by decide +kernel
theorem d_Reader_readValue_78 : decode M_Reader_readValue.2.1 78 = .ok (.getfield 35, 3) := by decide +kernel
theorem d_Reader_readValue_81 : decode M_Reader_readValue.2.1 81 = .ok (.aload_n 0, 1) := by decide +kernel
theorem d_Reader_readValue_82 : decode M_Reader_readValue.2.1 82 = .ok (.getfield 25, 3) := by decide +kernel
theorem d_Reader_readValue_85 : decode M_Reader_readValue.2.1 85 = .ok (.iconst 1, 1) := by decide +kernel
theorem d_Reader_readValue_86 : decode M_Reader_readValue.2.1 86 = .ok (.iadd, 1) := by decide +kernel
theorem d_Reader_readValue_87 : decode M_Reader_readValue.2.1 87 = .ok (.iload_n 2, 1) := by decide +kernel
theorem d_Reader_readValue_88 : decode M_Reader_readValue.2.1 88 = .ok (.invokevirtual 182, 3) := by decide +kernel
theorem xw_748 : (Jvm.Cond.code ({ cls := "MarkerText$Name", name := "levelOf", desc := "(Ljava/lang/String;II)J" } : Jvm.MethodName) prog_6_method_4_code (4 : Nat) (Option.some Jvm.ClassFile.FieldType.long)) ∈ xT := xT_at 748 (by decide +kernel) (by decide +kernel)
theorem xcb_Name_levelOf : xcb M_Name_levelOf 3 := ⟨xw_748, xw_21, by decide, by decide, by decide, by decide +kernel⟩
theorem xw_746 : (Jvm.Cond.instanceMethod ({ cls := "MarkerText$Name", name := "levelOf", desc := "(Ljava/lang/String;II)J" } : Jvm.MethodName)) ∈ xT := xT_at 746 (by decide +kernel) (by decide +kernel)
theorem xw_998 : (Jvm.Cond.methodLink "MarkerText$Reader" (182 : Nat) ({ cls := "MarkerText$Name", name := "levelOf", desc := "(Ljava/lang/String;II)J" } : Jvm.MethodName)) ∈ xT := xT_at 998 (by decide +kernel) (by decide +kernel)
theorem xw_747 : (Jvm.Cond.selects "MarkerText$Name" ({ cls := "MarkerText$Name", name := "levelOf", desc := "(Ljava/lang/String;II)J" } : Jvm.MethodName) ({ cls := "MarkerText$Name", name := "levelOf", desc := "(Ljava/lang/String;II)J" } : Jvm.MethodName)) ∈ xT := xT_at 747 (by decide +kernel) (by decide +kernel)
theorem xcv_Reader_182_Name : xCV "MarkerText$Reader" 182 "MarkerText$Name" M_Name_levelOf 3 := ⟨xcb_Name_levelOf, xw_746, Or.inl ⟨xw_998, Or.inl xw_747⟩⟩
theorem d_Reader_readValue_91 : decode M_Reader_readValue.2.1 91 = .ok (.lstore_n 3, 1) := by decide +kernel
theorem d_Reader_readValue_92 : decode M_Reader_readValue.2.1 92 = .ok (.lload_n 3, 1) := by decide +kernel
theorem d_Reader_readValue_93 : decode M_Reader_readValue.2.1 93 = .ok (.lconst 0, 1) := by decide +kernel
theorem d_Reader_readValue_94 : decode M_Reader_readValue.2.1 94 = .ok (.lcmp, 1) := by decide +kernel
theorem d_Reader_readValue_95 : decode M_Reader_readValue.2.1 95 = .ok (.ifCond .ne 5, 3) := by decide +kernel
theorem d_Reader_readValue_98 : decode M_Reader_readValue.2.1 98 = .ok (.lconst 0, 1) := by decide +kernel
theorem d_Reader_readValue_99 : decode M_Reader_readValue.2.1 99 = .ok (.lreturn, 1) := by decide +kernel
theorem d_Reader_readValue_100 : decode M_Reader_readValue.2.1 100 = .ok (.aload_n 0, 1) := by decide +kernel
theorem d_Reader_readValue_101 : decode M_Reader_readValue.2.1 101 = .ok (.getfield 21, 3) := by decide +kernel
theorem d_Reader_readValue_104 : decode M_Reader_readValue.2.1 104 = .ok (.aload_n 0, 1) := by decide +kernel
theorem d_Reader_readValue_105 : decode M_Reader_readValue.2.1 105 = .ok (.getfield 35, 3) := by decide +kernel
theorem d_Reader_readValue_108 : decode M_Reader_readValue.2.1 108 = .ok (.aload_n 0, 1) := by decide +kernel
theorem d_Reader_readValue_109 : decode M_Reader_readValue.2.1 109 = .ok (.getfield 25, 3) := by decide +kernel
theorem d_Reader_readValue_112 : decode M_Reader_readValue.2.1 112 = .ok (.iload_n 2, 1) := by decide +kernel
theorem d_Reader_readValue_113 : decode M_Reader_readValue.2.1 113 = .ok (.iconst 1, 1) := by decide +kernel
theorem d_Reader_readValue_114 : decode M_Reader_readValue.2.1 114 = .ok (.iadd, 1) := by decide +kernel
theorem d_Reader_readValue_115 : decode M_Reader_readValue.2.1 115 = .ok (.invokevirtual 186, 3) := by decide +kernel
theorem d_Reader_readValue_118 : decode M_Reader_readValue.2.1 118 = .ok (.invokevirtual 139, 3) := by decide +kernel
theorem xw_979 : (Jvm.Cond.methodLink "MarkerText$Reader" (139 : Nat) ({ cls := "java/lang/StringBuilder", name := "append", desc := "(Ljava/lang/String;)Ljava/lang/StringBuilder;" } : Jvm.MethodName)) ∈ xT := xT_at 979 (by decide +kernel) (by decide +kernel)
theorem xcv_Reader_139_SB : xCV "MarkerText$Reader" 139 "java/lang/StringBuilder" M_SB_append_String 1 := ⟨xcb_SB_append_String, xw_568, Or.inl ⟨xw_979, Or.inl xw_569⟩⟩
theorem d_Reader_readValue_121 : decode M_Reader_readValue.2.1 121 = .ok (.pop, 1) := by decide +kernel
theorem d_Reader_readValue_122 : decode M_Reader_readValue.2.1 122 = .ok (.aload_n 0, 1) := by decide +kernel
theorem d_Reader_readValue_123 : decode M_Reader_readValue.2.1 123 = .ok (.iload_n 2, 1) := by decide +kernel
theorem d_Reader_readValue_124 : decode M_Reader_readValue.2.1 124 = .ok (.iconst 1, 1) := by decide +kernel
theorem d_Reader_readValue_125 : decode M_Reader_readValue.2.1 125 = .ok (.iadd, 1) := by decide +kernel
theorem d_Reader_readValue_126 : decode M_Reader_readValue.2.1 126 = .ok (.putfield 25, 3) := by decide +kernel
theorem d_Reader_readValue_129 : decode M_Reader_readValue.2.1 129 = .ok (.lload_n 3, 1) := by decide +kernel
theorem d_Reader_readValue_130 : decode M_Reader_readValue.2.1 130 = .ok (.lreturn, 1) := by decide +kernel
theorem d_Reader_readValue_22 : decode M_Reader_readValue.2.1 22 = .ok (.iload_n 2, 1) := by decide +kernel
theorem d_Reader_readValue_23 : decode M_Reader_readValue.2.1 23 = .ok (.aload_n 0, 1) := by decide +kernel
theorem d_Reader_readValue_24 : decode M_Reader_readValue.2.1 24 = .ok (.getfield 35, 3) := by decide +kernel
theorem d_Reader_readValue_27 : decode M_Reader_readValue.2.1 27 = .ok (.invokevirtual 52, 3) := by decide +kernel
theorem d_Reader_readValue_30 : decode M_Reader_readValue.2.1 30 = .ok (.if_icmp .ge 22, 3) := by decide +kernel
theorem d_Reader_readValue_33 : decode M_Reader_readValue.2.1 33 = .ok (.aload_n 0, 1) := by decide +kernel
theorem d_Reader_readValue_34 : decode M_Reader_readValue.2.1 34 = .ok (.getfield 35, 3) := by decide +kernel
theorem d_Reader_readValue_37 : decode M_Reader_readValue.2.1 37 = .ok (.iload_n 2, 1) := by decide +kernel
theorem d_Reader_readValue_38 : decode M_Reader_readValue.2.1 38 = .ok (.invokevirtual 178, 3) := by decide +kernel
theorem d_Reader_readValue_41 : decode M_Reader_readValue.2.1 41 = .ok (.bipush 39, 2) := by decide +kernel
theorem d_Reader_readValue_43 : decode M_Reader_readValue.2.1 43 = .ok (.if_icmp .eq 9, 3) := by decide +kernel
theorem d_Reader_readValue_46 : decode M_Reader_readValue.2.1 46 = .ok (.iinc 2 1, 3) := by decide +kernel
theorem d_Reader_readValue_49 : decode M_Reader_readValue.2.1 49 = .ok (.goto (-27), 3) := by decide +kernel
theorem d_Reader_readValue_13 : decode M_Reader_readValue.2.1 13 = .ok (.lconst 0, 1) := by decide +kernel
theorem d_Reader_readValue_14 : decode M_Reader_readValue.2.1 14 = .ok (.lreturn, 1) := by decide +kernel
end
section RD4
variable {l : Launch} {G : XG} {h : XH} {c n d : Nat}
/-- a VALUE of a KIND at a place: where the reader is then, its level (0: none), its text -/
def rvl (t : List Nat) (kd p : Nat) : Nat × Nat × List Nat :=
  if chr t (skp t p) = 39 then
    if t.length ≤ scn qV t (skp t p + 1) then (t.length, 0, [])
    else if klv kd ((t.drop (skp t p + 1)).take (scn qV t (skp t p + 1) - (skp t p + 1))) = 0 then (skp t p, 0, [])
    else (scn qV t (skp t p + 1) + 1, klv kd ((t.drop (skp t p + 1)).take (scn qV t (skp t p + 1) - (skp t p + 1))), (t.drop (skp t p)).take (scn qV t (skp t p + 1) + 1 - skp t p))
  else (skp t p, 0, [])
theorem rvl_le {t : List Nat} {kd p : Nat} (hp : p ≤ t.length) : (rvl t kd p).1 ≤ t.length := by
  have := skp_le hp
  unfold rvl
  split
  · split
    · exact Nat.le_refl _
    · split
      · exact this
      · show scn qV t (skp t p + 1) + 1 ≤ t.length
        omega
  · exact this
theorem rvl_ge {t : List Nat} {kd p : Nat} (hp : p ≤ t.length) : p + (rvl t kd p).2.2.length ≤ (rvl t kd p).1 := by
  have h1 := skp_le hp
  have h2 : p ≤ skp t p := scn_ge
  have h3 := scn_ge (q := qV) (t := t) (p := skp t p + 1)
  unfold rvl
  split
  · split
    · exact hp
    · split
      · exact h2
      · show p + ((t.drop (skp t p)).take (scn qV t (skp t p + 1) + 1 - skp t p)).length ≤ scn qV t (skp t p + 1) + 1
        rw [List.length_take, List.length_drop]
        omega
  · exact h2
theorem rvl_lt {t : List Nat} {kd p : Nat} (ht : xasc t) : (rvl t kd p).2.1 < 2 ^ 63 := by
  unfold rvl
  split
  · split
    · exact Nat.two_pow_pos _
    · split
      · exact Nat.two_pow_pos _
      · exact klv_lt (xasc_cut ht)
  · exact Nat.two_pow_pos _
theorem c_readValue (hG : xGk G) (hd : 7 ≤ d) {K r ta na la ba va p o tc m oa ka kd : Nat} {t ln w ks : List Nat} (hr : h r = some (rdO ta na la ba p o tc)) (hS : isS G h ta t) (hl : t.length < 2 ^ 20) (hp : p ≤ t.length) (hB : isB h ba va ln m) (hN : isN G h oa ka w kd ks) (hK : K < 2 ^ 16) (hm : m ≤ K) (hL : 2 * (ln.length + (rvl t kd p).2.2.length) + 4 ≤ K) (hc : c + K + 2 ≤ xCB + m) (hn : n + 2 * K + t.length + 5 ≤ xSB + 2 * m) :
    XM l G d M_Reader_readValue [.ref r, .ref oa] h c n (fun v h' c' n' => v = some (.long (lN (rvl t kd p).2.1)) ∧ pR 2 (t.length + 5) K r ba va (rdO ta na la ba (rvl t kd p).1 o tc) (ln ++ (rvl t kd p).2.2) m h c n h' c' n') := by
  obtain ⟨d, rfl⟩ : ∃ q, d = q + 1 := ⟨d - 1, by omega⟩
  refine XM.of (by decide +kernel) (Nat.le_of_ble_eq_true rfl) ?_
  have hq := skp_le hp
  refine x_aload_n d_Reader_readValue_0 rfl rfl ?_
  refine x_callV (As := []) (k := k_Reader) rfl xcv_Reader_49_Reader (Or.inl hr) (c_skipBlanks hG (by omega) hr hS hl hp) rfl rfl (Nat.le_of_ble_eq_true rfl) d_Reader_readValue_1 ?_
  rintro v h' c' n' ⟨rfl, rfl, rfl, rfl⟩
  have hS0 := hS.upR (e := rdO ta na la ba (skp t p) o tc) hr (by decide)
  obtain ⟨va0, m0, r0, b0, f0, w0, g0⟩ := pR.ofU (c := c') (n := n') (e := rdO ta na la ba (skp t p) o tc) hr hB hm
  have hkr : xno h [r, ba, va] [k_String, k_asbyte, k_Name, k_aknown] := hB.kR hr (by decide) (by decide) (by decide)
  have hN0 : isN G (xup h r (rdO ta na la ba (skp t p) o tc)) oa ka w kd ks := by
    obtain ⟨sa, y1, -, y3, -⟩ := id hN
    exact hN.fr f0 (hkr.sub (by decide)) (hkr.at y1 (by decide)) (hkr.at y3 (by decide))
  revert r0 b0 f0 hS0 hN0
  generalize xup h r (rdO ta na la ba (skp t p) o tc) = h1
  intro hS0 r0 b0 f0 hN0
  obtain ⟨vt, et, hta, -⟩ := id hS0
  refine x_aload_n d_Reader_readValue_4 rfl rfl ?_
  refine x_callV (As := []) (k := k_Reader) rfl xcv_Reader_101_Reader (Or.inl r0) (c_characterHere hG (by omega) r0 hS0 hl hq) rfl rfl (Nat.le_of_ble_eq_true rfl) d_Reader_readValue_5 ?_
  rintro v h' c'' n'' ⟨rfl, rfl, rfl, rfl⟩
  refine x_bipush (v := 39) d_Reader_readValue_8 (by decide) ?_
  have h128 := chr_lt (p := skp t p) hS.asc
  by_cases h39 : chr t (skp t p) = 39
  · have hql : skp t p < t.length := Nat.lt_of_not_le (fun z => by rw [chr_out z] at h39; omega)
    have he1 := scn_ge (q := qV) (t := t) (p := skp t p + 1)
    have he2 := scn_le (q := qV) (t := t) (p := skp t p + 1) (by omega)
    refine x_icmp_eq (tgt := 15) d_Reader_readValue_10 (by decide) (fun _ => ?_) (fun hn => absurd (by rw [h39]; rfl) hn)
    refine x_aload_n d_Reader_readValue_15 rfl rfl ?_
    refine x_get xf_Reader_25_Reader (Or.inl r0) rfl d_Reader_readValue_16 ?_
    refine x_iconst (v := 1) d_Reader_readValue_19 (by decide) ?_
    refine x_iadd d_Reader_readValue_20 ?_
    refine x_top (w := .int (nI (skp t p + 1))) (by rw [show (1 : Int32) = nI 1 from rfl, nI_add]) ?_
    refine x_istore_n (L' := [_, _, _, _, _]) d_Reader_readValue_21 rfl rfl ?_
    -- from the end of the VALUE on
    have at52 : XW l G M_Reader_readValue (d + 1) 52 [some (.ref r), some (.ref oa), some (.int (nI (scn qV t (skp t p + 1)))), none, none] [] h' c'' n'' (fun v h2 c2 n2 => v = some (.long (lN (rvl t kd p).2.1)) ∧ pR 2 (t.length + 5) K r ba va (rdO ta na la ba (rvl t kd p).1 o tc) (ln ++ (rvl t kd p).2.2) m h c'' n'' h2 c2 n2) := by
      refine x_iload_n d_Reader_readValue_52 rfl ?_
      refine x_aload_n d_Reader_readValue_53 rfl rfl ?_
      refine x_get xf_Reader_35_Reader (Or.inl r0) rfl d_Reader_readValue_54 ?_
      refine x_callV (As := []) (k := k_String) rfl xcv_Reader_52_String hta (c_String_length (by omega) hS0) rfl rfl (Nat.le_of_ble_eq_true rfl) d_Reader_readValue_57 ?_
      rintro v h2 c2 n2 ⟨rfl, rfl, rfl, rfl⟩
      by_cases hend : t.length ≤ scn qV t (skp t p + 1)
      · have hrv : rvl t kd p = (t.length, 0, []) := by
          unfold rvl
          rw [if_pos h39, if_pos hend]
        refine x_icmp_lt (tgt := 76) d_Reader_readValue_60 (by decide) (fun ht => absurd ht (nI_nlt hend (by omega))) (fun _ => ?_)
        refine x_aload_n d_Reader_readValue_63 rfl rfl ?_
        refine x_aload_n d_Reader_readValue_64 rfl rfl ?_
        refine x_get xf_Reader_35_Reader (Or.inl r0) rfl d_Reader_readValue_65 ?_
        refine x_callV (As := []) (k := k_String) rfl xcv_Reader_52_String hta (c_String_length (by omega) hS0) rfl rfl (Nat.le_of_ble_eq_true rfl) d_Reader_readValue_68 ?_
        rintro v h2 c2 n2 ⟨rfl, rfl, rfl, rfl⟩
        refine x_put xf_Reader_25_Reader xp_Reader_4 rfl rfl r0 rfl rfl d_Reader_readValue_71 ?_
        refine x_lconst (v := 0) d_Reader_readValue_74 (by decide) ?_
        refine x_lret d_Reader_readValue_75 rfl ?_
        refine ⟨by rw [hrv]; rfl, ?_⟩
        rw [hrv, List.append_nil]
        exact (pR.tr r0 b0 f0 w0 g0 (pR.ofU (c := c2) (n := n2) (e := rdO ta na la ba t.length o tc) r0 b0 g0.2.1)).mono (by omega) (by omega)
      · refine x_icmp_lt (tgt := 76) d_Reader_readValue_60 (by decide) (fun _ => ?_) (fun hn => absurd (nI_lt (by omega) (by omega)) hn)
        refine x_aload_n d_Reader_readValue_76 rfl rfl ?_
        refine x_aload_n d_Reader_readValue_77 rfl rfl ?_
        refine x_get xf_Reader_35_Reader (Or.inl r0) rfl d_Reader_readValue_78 ?_
        refine x_aload_n d_Reader_readValue_81 rfl rfl ?_
        refine x_get xf_Reader_25_Reader (Or.inl r0) rfl d_Reader_readValue_82 ?_
        refine x_iconst (v := 1) d_Reader_readValue_85 (by decide) ?_
        refine x_iadd d_Reader_readValue_86 ?_
        refine x_iload_n d_Reader_readValue_87 rfl ?_
        have hval := klv_lt (kd := kd) (xasc_cut (b := skp t p + 1) (m := scn qV t (skp t p + 1) - (skp t p + 1)) hS.asc)
        refine x_st (st' := [.int (nI (skp t p + 1 + (scn qV t (skp t p + 1) - (skp t p + 1)))), .int (nI (skp t p + 1)), .ref ta, .ref oa]) (by rw [show (1 : Int32) = nI 1 from rfl, nI_add, show skp t p + 1 + (scn qV t (skp t p + 1) - (skp t p + 1)) = scn qV t (skp t p + 1) by omega]) ?_
        obtain ⟨sa, y1, -⟩ := id hN0
        refine x_callV (As := [_, _, _]) (k := k_Name) rfl xcv_Reader_182_Name (Or.inl y1) (c_levelOf hG (by omega) hN0 hS0 (by omega) hl) rfl rfl (Nat.le_of_ble_eq_true rfl) d_Reader_readValue_88 ?_
        rintro v h2 c2 n2 ⟨rfl, rfl, rfl, rfl⟩
        refine x_lstore_n (L' := [_, _, _, _, _]) d_Reader_readValue_91 rfl rfl ?_
        refine x_lload_n d_Reader_readValue_92 rfl ?_
        refine x_lconst (v := 0) d_Reader_readValue_93 (by decide) ?_
        refine x_lcmp d_Reader_readValue_94 ?_
        by_cases hz : klv kd ((t.drop (skp t p + 1)).take (scn qV t (skp t p + 1) - (skp t p + 1))) = 0
        · have hrv : rvl t kd p = (skp t p, 0, []) := by
            unfold rvl
            rw [if_pos h39, if_neg hend, if_pos hz]
          refine x_if_ne (tgt := 100) d_Reader_readValue_95 (by decide) (fun ht => absurd ((lg_cmp_eq _ _).mpr (by rw [hz]; rfl)) ht) (fun _ => ?_)
          refine x_lconst (v := 0) d_Reader_readValue_98 (by decide) ?_
          refine x_lret d_Reader_readValue_99 rfl ?_
          refine ⟨by rw [hrv]; rfl, ?_⟩
          rw [hrv, List.append_nil]
          exact pR.mono ⟨va0, m0, r0, b0, f0, w0, g0⟩ (by omega) (by omega)
        · have hrv : rvl t kd p = (scn qV t (skp t p + 1) + 1, klv kd ((t.drop (skp t p + 1)).take (scn qV t (skp t p + 1) - (skp t p + 1))), (t.drop (skp t p)).take (scn qV t (skp t p + 1) + 1 - skp t p)) := by
            unfold rvl
            rw [if_pos h39, if_neg hend, if_neg hz]
          rw [hrv] at hL ⊢
          dsimp only at hL ⊢
          have hsl : ((t.drop (skp t p)).take (scn qV t (skp t p + 1) + 1 - skp t p)).length ≤ t.length := by
            rw [List.length_take, List.length_drop]; omega
          refine x_if_ne (tgt := 100) d_Reader_readValue_95 (by decide) (fun _ => ?_) (fun hn => absurd hn (fun z => hz ((pk_lEQ (b := 0) hval (by decide)).mp ((lg_cmp_eq _ _).mp z))))
          refine x_aload_n d_Reader_readValue_100 rfl rfl ?_
          refine x_get xf_Reader_21_Reader (Or.inl r0) rfl d_Reader_readValue_101 ?_
          refine x_aload_n d_Reader_readValue_104 rfl rfl ?_
          refine x_get xf_Reader_35_Reader (Or.inl r0) rfl d_Reader_readValue_105 ?_
          refine x_aload_n d_Reader_readValue_108 rfl rfl ?_
          refine x_get xf_Reader_25_Reader (Or.inl r0) rfl d_Reader_readValue_109 ?_
          refine x_iload_n d_Reader_readValue_112 rfl ?_
          refine x_iconst (v := 1) d_Reader_readValue_113 (by decide) ?_
          refine x_iadd d_Reader_readValue_114 ?_
          refine x_st (st' := [.int (nI (scn qV t (skp t p + 1) + 1)), .int (nI (skp t p)), .ref ta, .ref ba]) (by rw [show (1 : Int32) = nI 1 from rfl, nI_add]; rfl) ?_
          refine x_callV (As := [_, _]) (k := k_String) rfl xcv_Reader_186_String hta (c_substring hG (by omega) hS0 (by omega) (by omega) hl (by omega) (by omega)) rfl rfl (Nat.le_of_ble_eq_true rfl) d_Reader_readValue_115 ?_
          rintro v h3 c3 n3 ⟨q3, rfl, s3, f3, k3, k3'⟩
          obtain ⟨va3, m3, r3, b3, f3, w3, g3⟩ := pR.tr r0 b0 f0 w0 g0 (pR.ofN (C := 2) (N := t.length + 4) (c := c2) (n := n2) (c' := c3) (n' := n3) r0 b0 g0.2.1 f3 k3 (by omega))
          obtain ⟨z3, bs3, hb3, -⟩ := id b3
          refine x_callV (As := [_]) (k := k_StringBuilder) rfl xcv_Reader_139_SB (Or.inl hb3) (c_SB_append_S (K := K) (by omega) b3 s3 hK g3.2.1 (by omega) (by omega) (by omega)) rfl rfl (Nat.le_of_ble_eq_true rfl) d_Reader_readValue_118 ?_
          rintro v h4 c4 n4 ⟨rfl, p4⟩
          obtain ⟨va4, m4, r4, b4, f4, w4, g4⟩ := pR.tr r3 b3 f3 w3 g3 (pR.ofB r3 b3 p4)
          refine x_pop d_Reader_readValue_121 rfl ?_
          refine x_aload_n d_Reader_readValue_122 rfl rfl ?_
          refine x_iload_n d_Reader_readValue_123 rfl ?_
          refine x_iconst (v := 1) d_Reader_readValue_124 (by decide) ?_
          refine x_iadd d_Reader_readValue_125 ?_
          refine x_top (w := .int (nI (scn qV t (skp t p + 1) + 1))) (by rw [show (1 : Int32) = nI 1 from rfl, nI_add]) ?_
          refine x_put xf_Reader_25_Reader xp_Reader_4 rfl rfl r4 rfl rfl d_Reader_readValue_126 ?_
          refine x_lload_n d_Reader_readValue_129 rfl ?_
          refine x_lret d_Reader_readValue_130 rfl ?_
          exact ⟨rfl, (pR.tr r4 b4 f4 w4 g4 (pR.ofU (c := c4) (n := n4) (e := rdO ta na la ba (scn qV t (skp t p + 1) + 1) o tc) r4 b4 g4.2.1)).mono (by omega) (by omega)⟩
    have lp : ∀ (k e : Nat), e + k = t.length → scn qV t e = scn qV t (skp t p + 1) → XW l G M_Reader_readValue (d + 1) 22 [some (.ref r), some (.ref oa), some (.int (nI e)), none, none] [] h' c'' n'' (fun v h2 c2 n2 => v = some (.long (lN (rvl t kd p).2.1)) ∧ pR 2 (t.length + 5) K r ba va (rdO ta na la ba (rvl t kd p).1 o tc) (ln ++ (rvl t kd p).2.2) m h c'' n'' h2 c2 n2) := by
      intro k
      induction k with
      | zero =>
        intro e hk hse
        refine x_iload_n d_Reader_readValue_22 rfl ?_
        refine x_aload_n d_Reader_readValue_23 rfl rfl ?_
        refine x_get xf_Reader_35_Reader (Or.inl r0) rfl d_Reader_readValue_24 ?_
        refine x_callV (As := []) (k := k_String) rfl xcv_Reader_52_String hta (c_String_length (by omega) hS0) rfl rfl (Nat.le_of_ble_eq_true rfl) d_Reader_readValue_27 ?_
        rintro v h2 c2 n2 ⟨rfl, rfl, rfl, rfl⟩
        refine x_icmp_ge (tgt := 52) d_Reader_readValue_30 (by decide) (fun _ => ?_) (fun hn => absurd (nI_le (by omega) (by omega)) hn)
        rw [scn_end (by omega)] at hse
        rw [hse]
        exact at52
      | succ k ih =>
        intro e hk hse
        have hel : e < t.length := by omega
        have hch := hS.asc t[e] (List.getElem_mem hel)
        refine x_iload_n d_Reader_readValue_22 rfl ?_
        refine x_aload_n d_Reader_readValue_23 rfl rfl ?_
        refine x_get xf_Reader_35_Reader (Or.inl r0) rfl d_Reader_readValue_24 ?_
        refine x_callV (As := []) (k := k_String) rfl xcv_Reader_52_String hta (c_String_length (by omega) hS0) rfl rfl (Nat.le_of_ble_eq_true rfl) d_Reader_readValue_27 ?_
        rintro v h2 c2 n2 ⟨rfl, rfl, rfl, rfl⟩
        refine x_icmp_ge (tgt := 52) d_Reader_readValue_30 (by decide) (fun ht => absurd ht (nI_ge (by omega) (by omega))) (fun _ => ?_)
        refine x_aload_n d_Reader_readValue_33 rfl rfl ?_
        refine x_get xf_Reader_35_Reader (Or.inl r0) rfl d_Reader_readValue_34 ?_
        refine x_iload_n d_Reader_readValue_37 rfl ?_
        refine x_callV (As := [_]) (k := k_String) rfl xcv_Reader_178_String hta (c_String_charAt hG (by omega) hS0 hel (by omega)) rfl rfl (Nat.le_of_ble_eq_true rfl) d_Reader_readValue_38 ?_
        rintro v h2 c2 n2 ⟨rfl, rfl, rfl, rfl⟩
        refine x_bipush (v := 39) d_Reader_readValue_41 (by decide) ?_
        by_cases hv : t[e] = 39
        · refine x_icmp_eq (tgt := 52) d_Reader_readValue_43 (by decide) (fun _ => ?_) (fun hn => absurd (by rw [hv]; rfl) hn)
          rw [scn_stop hel (by simp [qV, hv])] at hse
          rw [hse]
          exact at52
        · refine x_icmp_eq (tgt := 52) d_Reader_readValue_43 (by decide) (fun ht => absurd ht (fun z => hv ((nI_eq (b := 39) (by omega) (by omega)).mp z))) (fun _ => ?_)
          refine x_iinc (v := nI (e + 1)) (L' := [_, _, _, _, _]) d_Reader_readValue_46 rfl (by exact xw_iinc1) rfl rfl ?_
          refine x_goto (tgt := 22) d_Reader_readValue_49 (by decide) ?_
          exact ih (e + 1) (by omega) (by rw [← scn_step hel (by simp [qV, hv])]; exact hse)
    exact lp (t.length - (skp t p + 1)) (skp t p + 1) (by omega) rfl
  · have hrv : rvl t kd p = (skp t p, 0, []) := by
      unfold rvl
      rw [if_neg h39]
    refine x_icmp_eq (tgt := 15) d_Reader_readValue_10 (by decide) (fun ht => absurd ht (fun z => h39 ((nI_eq (b := 39) (by omega) (by omega)).mp z))) (fun _ => ?_)
    refine x_lconst (v := 0) d_Reader_readValue_13 (by decide) ?_
    refine x_lret d_Reader_readValue_14 rfl ?_
    refine ⟨by rw [hrv]; rfl, ?_⟩
    rw [hrv, List.append_nil]
    exact pR.mono ⟨va0, m0, r0, b0, f0, w0, g0⟩ (by omega) (by omega)
end RD4
