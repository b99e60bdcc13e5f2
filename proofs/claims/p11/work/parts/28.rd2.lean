section
abbrev y_Reader_takesSign : MethodName := ⟨"MarkerText$Reader", "takesSign", "(C)Z"⟩
abbrev M_Reader_takesSign : XMt := (y_Reader_takesSign, prog_10_method_15_code, 2, (some .boolean))
theorem d_Reader_takesSign_0 : decode M_Reader_takesSign.2.1 0 = .ok (.aload_n 0, 1) := by decide +kernel
theorem d_Reader_takesSign_1 : decode M_Reader_takesSign.2.1 1 = .ok (.invokevirtual 49, 3) := by decide +kernel
theorem xw_895 : (Jvm.Cond.code ({ cls := "MarkerText$Reader", name := "skipBlanks", desc := "()V" } : Jvm.MethodName) prog_10_method_11_code (1 : Nat) (Option.none : Option Jvm.ClassFile.FieldType)) ∈ xT := xT_at 895 (by decide +kernel) (by decide +kernel)
theorem xw_23 : (Jvm.Cond.initialized "MarkerText$Reader") ∈ xT := xT_at 23 (by decide +kernel) (by decide +kernel)
theorem xcb_Reader_skipBlanks : xcb M_Reader_skipBlanks 0 := ⟨xw_895, xw_23, by decide, by decide, by decide, by decide +kernel⟩
theorem xw_894 : (Jvm.Cond.instanceMethod ({ cls := "MarkerText$Reader", name := "skipBlanks", desc := "()V" } : Jvm.MethodName)) ∈ xT := xT_at 894 (by decide +kernel) (by decide +kernel)
theorem xw_892 : (Jvm.Cond.methodLink "MarkerText$Reader" (49 : Nat) ({ cls := "MarkerText$Reader", name := "skipBlanks", desc := "()V" } : Jvm.MethodName)) ∈ xT := xT_at 892 (by decide +kernel) (by decide +kernel)
theorem xsel_Reader_skipBlanks : Cond.selects "MarkerText$Reader" y_Reader_skipBlanks y_Reader_skipBlanks ∈ xT := xT_sel (q := (y_Reader_skipBlanks, 7)) (by decide +kernel) (by decide +kernel)
theorem xcv_Reader_49_Reader : xCV "MarkerText$Reader" 49 "MarkerText$Reader" M_Reader_skipBlanks 0 := ⟨xcb_Reader_skipBlanks, xw_894, Or.inl ⟨xw_892, Or.inl xsel_Reader_skipBlanks⟩⟩
theorem d_Reader_takesSign_4 : decode M_Reader_takesSign.2.1 4 = .ok (.aload_n 0, 1) := by decide +kernel
theorem d_Reader_takesSign_5 : decode M_Reader_takesSign.2.1 5 = .ok (.invokevirtual 101, 3) := by decide +kernel
theorem xw_931 : (Jvm.Cond.code ({ cls := "MarkerText$Reader", name := "characterHere", desc := "()C" } : Jvm.MethodName) prog_10_method_12_code (1 : Nat) (Option.some Jvm.ClassFile.FieldType.char)) ∈ xT := xT_at 931 (by decide +kernel) (by decide +kernel)
theorem xcb_Reader_characterHere : xcb M_Reader_characterHere 0 := ⟨xw_931, xw_23, by decide, by decide, by decide, by decide +kernel⟩
theorem xw_930 : (Jvm.Cond.instanceMethod ({ cls := "MarkerText$Reader", name := "characterHere", desc := "()C" } : Jvm.MethodName)) ∈ xT := xT_at 930 (by decide +kernel) (by decide +kernel)
theorem xw_928 : (Jvm.Cond.methodLink "MarkerText$Reader" (101 : Nat) ({ cls := "MarkerText$Reader", name := "characterHere", desc := "()C" } : Jvm.MethodName)) ∈ xT := xT_at 928 (by decide +kernel) (by decide +kernel)
theorem xsel_Reader_characterHere : Cond.selects "MarkerText$Reader" y_Reader_characterHere y_Reader_characterHere ∈ xT := xT_sel (q := (y_Reader_characterHere, 7)) (by decide +kernel) (by decide +kernel)
theorem xcv_Reader_101_Reader : xCV "MarkerText$Reader" 101 "MarkerText$Reader" M_Reader_characterHere 0 := ⟨xcb_Reader_characterHere, xw_930, Or.inl ⟨xw_928, Or.inl xsel_Reader_characterHere⟩⟩
theorem d_Reader_takesSign_8 : decode M_Reader_takesSign.2.1 8 = .ok (.iload_n 1, 1) := by decide +kernel
theorem d_Reader_takesSign_9 : decode M_Reader_takesSign.2.1 9 = .ok (.if_icmp .eq 5, 3) := by decide +kernel
theorem d_Reader_takesSign_14 : decode M_Reader_takesSign.2.1 14 = .ok (.aload_n 0, 1) := by decide +kernel
theorem d_Reader_takesSign_15 : decode M_Reader_takesSign.2.1 15 = .ok (.dup, 1) := by decide +kernel
theorem d_Reader_takesSign_16 : decode M_Reader_takesSign.2.1 16 = .ok (.getfield 25, 3) := by decide +kernel
theorem d_Reader_takesSign_19 : decode M_Reader_takesSign.2.1 19 = .ok (.iconst 1, 1) := by decide +kernel
theorem d_Reader_takesSign_20 : decode M_Reader_takesSign.2.1 20 = .ok (.iadd, 1) := by decide +kernel
theorem d_Reader_takesSign_21 : decode M_Reader_takesSign.2.1 21 = .ok (.putfield 25, 3) := by decide +kernel
theorem d_Reader_takesSign_24 : decode M_Reader_takesSign.2.1 24 = .ok (.iconst 1, 1) := by decide +kernel
theorem d_Reader_takesSign_25 : decode M_Reader_takesSign.2.1 25 = .ok (.ireturn, 1) := by decide +kernel
theorem d_Reader_takesSign_12 : decode M_Reader_takesSign.2.1 12 = .ok (.iconst 0, 1) := by decide +kernel
theorem d_Reader_takesSign_13 : decode M_Reader_takesSign.2.1 13 = .ok (.ireturn, 1) := by decide +kernel
abbrev y_Reader_takesWord : MethodName := ⟨"MarkerText$Reader", "takesWord", "(Ljava/lang/String;)Z"⟩
abbrev M_Reader_takesWord : XMt := (y_Reader_takesWord, prog_10_method_14_code, 2, (some .boolean))
theorem d_Reader_takesWord_0 : decode M_Reader_takesWord.2.1 0 = .ok (.aload_n 0, 1) := by decide +kernel
theorem d_Reader_takesWord_1 : decode M_Reader_takesWord.2.1 1 = .ok (.invokevirtual 49, 3) := by decide +kernel
theorem d_Reader_takesWord_4 : decode M_Reader_takesWord.2.1 4 = .ok (.aload_n 0, 1) := by decide +kernel
theorem d_Reader_takesWord_5 : decode M_Reader_takesWord.2.1 5 = .ok (.invokevirtual 92, 3) := by decide +kernel
theorem xw_901 : (Jvm.Cond.code ({ cls := "MarkerText$Reader", name := "wordHere", desc := "()Ljava/lang/String;" } : Jvm.MethodName) prog_10_method_13_code (2 : Nat) (Option.some (Jvm.ClassFile.FieldType.object "java/lang/String"))) ∈ xT := xT_at 901 (by decide +kernel) (by decide +kernel)
theorem xcb_Reader_wordHere : xcb M_Reader_wordHere 0 := ⟨xw_901, xw_23, by decide, by decide, by decide, by decide +kernel⟩
theorem xw_900 : (Jvm.Cond.instanceMethod ({ cls := "MarkerText$Reader", name := "wordHere", desc := "()Ljava/lang/String;" } : Jvm.MethodName)) ∈ xT := xT_at 900 (by decide +kernel) (by decide +kernel)
theorem xw_898 : (Jvm.Cond.methodLink "MarkerText$Reader" (92 : Nat) ({ cls := "MarkerText$Reader", name := "wordHere", desc := "()Ljava/lang/String;" } : Jvm.MethodName)) ∈ xT := xT_at 898 (by decide +kernel) (by decide +kernel)
theorem xsel_Reader_wordHere : Cond.selects "MarkerText$Reader" y_Reader_wordHere y_Reader_wordHere ∈ xT := xT_sel (q := (y_Reader_wordHere, 7)) (by decide +kernel) (by decide +kernel)
theorem xcv_Reader_92_Reader : xCV "MarkerText$Reader" 92 "MarkerText$Reader" M_Reader_wordHere 0 := ⟨xcb_Reader_wordHere, xw_900, Or.inl ⟨xw_898, Or.inl xsel_Reader_wordHere⟩⟩
theorem d_Reader_takesWord_8 : decode M_Reader_takesWord.2.1 8 = .ok (.aload_n 1, 1) := by decide +kernel
theorem d_Reader_takesWord_9 : decode M_Reader_takesWord.2.1 9 = .ok (.invokevirtual 97, 3) := by decide +kernel
theorem xw_927 : (Jvm.Cond.methodLink "MarkerText$Reader" (97 : Nat) ({ cls := "java/lang/String", name := "equals", desc := "(Ljava/lang/Object;)Z" } : Jvm.MethodName)) ∈ xT := xT_at 927 (by decide +kernel) (by decide +kernel)
theorem xcv_Reader_97_String : xCV "MarkerText$Reader" 97 "java/lang/String" M_String_equals 1 := ⟨xcb_String_equals, xw_679, Or.inl ⟨xw_927, Or.inl xw_680⟩⟩
theorem d_Reader_takesWord_12 : decode M_Reader_takesWord.2.1 12 = .ok (.ifCond .ne 5, 3) := by decide +kernel
theorem d_Reader_takesWord_17 : decode M_Reader_takesWord.2.1 17 = .ok (.aload_n 0, 1) := by decide +kernel
theorem d_Reader_takesWord_18 : decode M_Reader_takesWord.2.1 18 = .ok (.dup, 1) := by decide +kernel
theorem d_Reader_takesWord_19 : decode M_Reader_takesWord.2.1 19 = .ok (.getfield 25, 3) := by decide +kernel
theorem d_Reader_takesWord_22 : decode M_Reader_takesWord.2.1 22 = .ok (.aload_n 1, 1) := by decide +kernel
theorem d_Reader_takesWord_23 : decode M_Reader_takesWord.2.1 23 = .ok (.invokevirtual 52, 3) := by decide +kernel
theorem d_Reader_takesWord_26 : decode M_Reader_takesWord.2.1 26 = .ok (.iadd, 1) := by decide +kernel
theorem d_Reader_takesWord_27 : decode M_Reader_takesWord.2.1 27 = .ok (.putfield 25, 3) := by decide +kernel
theorem d_Reader_takesWord_30 : decode M_Reader_takesWord.2.1 30 = .ok (.iconst 1, 1) := by decide +kernel
theorem d_Reader_takesWord_31 : decode M_Reader_takesWord.2.1 31 = .ok (.ireturn, 1) := by decide +kernel
theorem d_Reader_takesWord_15 : decode M_Reader_takesWord.2.1 15 = .ok (.iconst 0, 1) := by decide +kernel
theorem d_Reader_takesWord_16 : decode M_Reader_takesWord.2.1 16 = .ok (.ireturn, 1) := by decide +kernel
end
section RD2
variable {l : Launch} {G : XG} {h : XH} {c n d : Nat}
/-! levels are below 2^63 -/
def vI (s : Nat × Nat × Nat × Nat) : Prop := s.1 < 1000 ^ (s.2.2.2 - 1) ∧ s.2.1 < 10 ^ s.2.2.1 ∧ s.2.2.1 ≤ 3 ∧ 1 ≤ s.2.2.2 ∧ s.2.2.2 ≤ 3
theorem vI_num {s : Nat × Nat × Nat × Nat} (hs : vI s) : s.2.1 < 1000 := Nat.lt_of_lt_of_le hs.2.1 (Nat.pow_le_pow_right (by omega) hs.2.2.1)
theorem vst_I {s s' : Nat × Nat × Nat × Nat} {ch : Nat} (hs : vI s) (h' : vst s ch = some s') : vI s' := by
  have hn := vI_num hs
  unfold vst at h'
  split at h'
  · rename_i hA
    cases h'
    refine ⟨?_, by show 0 < 10 ^ 0; decide, by show 0 ≤ 3; omega, by show 1 ≤ s.2.2.2 + 1; omega, by show s.2.2.2 + 1 ≤ 3; omega⟩
    show s.1 * 1000 + s.2.1 < 1000 ^ (s.2.2.2 + 1 - 1)
    obtain ⟨k, hk⟩ : ∃ k, s.2.2.2 = k + 1 := ⟨s.2.2.2 - 1, by have := hs.2.2.2.1; omega⟩
    have h1 := hs.1
    rw [hk] at h1 ⊢
    simp only [Nat.add_sub_cancel] at h1 ⊢
    rw [Nat.pow_succ]
    omega
  · split at h'
    · rename_i hB
      cases h'
      refine ⟨hs.1, ?_, by show s.2.2.1 + 1 ≤ 3; omega, hs.2.2.2.1, hs.2.2.2.2⟩
      show s.2.1 * 10 + (ch - 48) < 10 ^ (s.2.2.1 + 1)
      have := hs.2.1
      rw [Nat.pow_succ]
      omega
    · cases h'
theorem vrun_I : ∀ (u : List Nat) {s s' : Nat × Nat × Nat × Nat}, vI s → vrun u s = some s' → vI s'
  | [], s, s', hs, h' => by cases h'; exact hs
  | ch :: u, s, s', hs, h' => by
    simp only [vrun] at h'
    cases hv : vst s ch with
    | none => rw [hv] at h'; cases h'
    | some s1 => rw [hv] at h'; exact vrun_I u (vst_I hs hv) h'
theorem vsl_lt (u : List Nat) : vsl u < 2 ^ 63 := by
  unfold vsl
  cases hv : vrun u (0, 0, 0, 1) with
  | none => decide
  | some s =>
    have hI := vrun_I u ⟨by decide, by decide, by decide, by decide, by decide⟩ hv
    have hn := vI_num hI
    show (if s.2.2.1 = 0 then 0 else 2 * ((s.1 * 1000 + s.2.1) * 1000 ^ (3 - s.2.2.2)) + 2) < 2 ^ 63
    split
    · decide
    · have h1 := hI.1
      obtain ⟨-, -, -, h4, h5⟩ := hI
      have : (s.1 * 1000 + s.2.1) * 1000 ^ (3 - s.2.2.2) < 10 ^ 9 := by
        rcases (show s.2.2.2 = 1 ∨ s.2.2.2 = 2 ∨ s.2.2.2 = 3 by omega) with e | e | e <;> rw [e] at h1 ⊢ <;> simp at h1 ⊢ <;> omega
      omega
theorem txl_lt {u : List Nat} (hu : xasc u) : txl u < 2 ^ 63 := by
  unfold txl
  split
  · have := tkey_lt hu 8
    have h2 : (38 : Nat) ^ 8 < 2 ^ 61 := by decide
    omega
  · decide
theorem klv_lt {kd : Nat} {u : List Nat} (hu : xasc u) : klv kd u < 2 ^ 63 := by
  unfold klv
  split
  · exact vsl_lt u
  · exact txl_lt hu
/-! what a Reader and its builder become -/
abbrev xgs (C N K m m' c n c' n' : Nat) : Prop := m ≤ m' ∧ m' ≤ K ∧ c' + m ≤ c + m' + C ∧ n' + 2 * m ≤ n + 2 * m' + N
/-- C and N: what it costs beside the builder's growth -/
abbrev pR (C N K r ba va : Nat) (e : Nat × List Value) (ln : List Nat) (m : Nat) (h : XH) (c n : Nat) (h' : XH) (c' n' : Nat) : Prop := ∃ va' m', h' r = some e ∧ isB h' ba va' ln m' ∧ xfr h h' [r, ba, va] ∧ (va' = va ∨ h va' = none) ∧ xgs C N K m m' c n c' n'
theorem xfr.tr3 {r ba va va1 : Nat} {h1 h2 : XH} (f1 : xfr h h1 [r, ba, va]) (e1 : va1 = va ∨ h va1 = none) (f2 : xfr h1 h2 [r, ba, va1]) : xfr h h2 [r, ba, va] := f1.tr f2 (fun q hq hq2 => by
  simp only [List.mem_cons, List.not_mem_nil, or_false] at hq2 ⊢
  rcases hq2 with rfl | rfl | rfl
  · exact Or.inl rfl
  · exact Or.inr (Or.inl rfl)
  · rcases e1 with rfl | e1
    · exact Or.inr (Or.inr rfl)
    · exact absurd e1 hq)
theorem pR.tr {C1 N1 C2 N2 K r ba va va1 m m1 c1 n1 c2 n2 : Nat} {e1 e2 : Nat × List Value} {t1 t2 : List Nat} {h1 h2 : XH} (hr : h1 r = some e1) (hb : isB h1 ba va1 t1 m1) (f1 : xfr h h1 [r, ba, va]) (w1 : va1 = va ∨ h va1 = none) (g1 : xgs C1 N1 K m m1 c n c1 n1) (p : pR C2 N2 K r ba va1 e2 t2 m1 h1 c1 n1 h2 c2 n2) : pR (C1 + C2) (N1 + N2) K r ba va e2 t2 m h c n h2 c2 n2 := by
  obtain ⟨va2, m2, p0, p1, p2, p3, p4⟩ := p
  refine ⟨va2, m2, p0, p1, f1.tr3 w1 p2, ?_, by omega⟩
  rcases p3 with rfl | p3
  · exact w1
  · exact Or.inr (f1.2 _ p3)
theorem pR.mono {C N C' N' K r ba va m c' n' : Nat} {e : Nat × List Value} {t : List Nat} {h' : XH} (p : pR C N K r ba va e t m h c n h' c' n') (hC : C ≤ C') (hN : N ≤ N') : pR C' N' K r ba va e t m h c n h' c' n' := by
  obtain ⟨va', m', p0, p1, p2, p3, p4⟩ := p
  exact ⟨va', m', p0, p1, p2, p3, by omega⟩
theorem isB.neR {r ba va m : Nat} {vs : List Value} {t : List Nat} (hb : isB h ba va t m) (hr : h r = some (k_Reader, vs)) : r ∉ [ba, va] := by
  obtain ⟨z, bs, e1, e2, -⟩ := hb
  intro y
  simp only [List.mem_cons, List.not_mem_nil, or_false] at y
  rcases y with rfl | rfl
  · exact xne hr e1 (by decide) rfl
  · exact xne hr e2 (by decide) rfl
theorem pR.ofB {K r ba va m c' n' : Nat} {vs : List Value} {t t' : List Nat} {h' : XH} (hr : h r = some (k_Reader, vs)) (hb : isB h ba va t m) (p : pB K ba va t' m h c n h' c' n') : pR 0 0 K r ba va (k_Reader, vs) t' m h c n h' c' n' := by
  obtain ⟨va', m', p1, p2, p3, p4⟩ := p
  exact ⟨va', m', p2.1 _ _ hr (hb.neR hr), p1, p2.mono (fun q hq => List.mem_cons_of_mem _ hq), p3, by omega⟩
theorem pR.ofU {K r ba va m : Nat} {vs : List Value} {e : Nat × List Value} {t : List Nat} (hr : h r = some (k_Reader, vs)) (hb : isB h ba va t m) (hm : m ≤ K) : pR 0 0 K r ba va e t m h c n (xup h r e) c n := by
  have hf : xfr h (xup h r e) [r] := xfr.rf.up (Or.inl (by simp))
  have hn := hb.neR hr
  simp only [List.mem_cons, List.not_mem_nil, or_false, not_or] at hn
  refine ⟨va, m, xup_self, hb.fr hf ?_ ?_, hf.mono (by simp), Or.inl rfl, by omega⟩
  · simpa using Ne.symm hn.1
  · simpa using Ne.symm hn.2
theorem pR.ofN {C N K r ba va m c' n' : Nat} {e : Nat × List Value} {t : List Nat} {h' : XH} (hr : h r = some e) (hb : isB h ba va t m) (hm : m ≤ K) (hf : xfr h h' []) (hc : c' ≤ c + C) (hn : n' ≤ n + N) : pR C N K r ba va e t m h c n h' c' n' :=
  ⟨va, m, hf.1 _ _ hr (by simp), hb.fr hf (by simp) (by simp), hf.mono (by simp), Or.inl rfl, by omega⟩
theorem isB.kR {r ba va m : Nat} {vs : List Value} {t : List Nat} {ks : List Nat} (hb : isB h ba va t m) (hr : h r = some (k_Reader, vs)) (h0 : k_Reader ∉ ks) (h1 : k_StringBuilder ∉ ks) (h2 : k_abyte ∉ ks) : xno h [r, ba, va] ks := (xno1 hr h0).ap (hb.k1 h1 h2)
/-! takesSign, takesWord -/
def tkS (t : List Nat) (p ch : Nat) : Nat := if chr t (skp t p) = ch then skp t p + 1 else skp t p
theorem skp_le {t : List Nat} {p : Nat} (hp : p ≤ t.length) : skp t p ≤ t.length := scn_le hp
theorem c_takesSign (hG : xGk G) (hd : 5 ≤ d) {r ta na la ba p o tc ch : Nat} {t : List Nat} (hr : h r = some (rdO ta na la ba p o tc)) (hS : isS G h ta t) (hl : t.length < 2 ^ 20) (hp : p ≤ t.length) (hch : ch < 128) : XM l G d M_Reader_takesSign [.ref r, .int (nI ch)] h c n (fun v h' c' n' => v = some (.int (bI (decide (chr t (skp t p) = ch)))) ∧ h' = xup h r (rdO ta na la ba (tkS t p ch) o tc) ∧ c' = c ∧ n' = n) := by
  obtain ⟨d, rfl⟩ : ∃ q, d = q + 1 := ⟨d - 1, by omega⟩
  refine XM.of (by decide +kernel) (Nat.le_of_ble_eq_true rfl) ?_
  have hq := skp_le hp
  refine x_aload_n d_Reader_takesSign_0 rfl rfl ?_
  refine x_callV (As := []) (k := k_Reader) rfl xcv_Reader_49_Reader (Or.inl hr) (c_skipBlanks hG (by omega) hr hS hl hp) rfl rfl (Nat.le_of_ble_eq_true rfl) d_Reader_takesSign_1 ?_
  rintro v h' c' n' ⟨rfl, rfl, rfl, rfl⟩
  refine x_aload_n d_Reader_takesSign_4 rfl rfl ?_
  refine x_callV (As := []) (k := k_Reader) rfl xcv_Reader_101_Reader (Or.inl xup_self) (c_characterHere hG (by omega) xup_self (hS.upR hr (by decide)) hl hq) rfl rfl (Nat.le_of_ble_eq_true rfl) d_Reader_takesSign_5 ?_
  rintro v h' c' n' ⟨rfl, rfl, rfl, rfl⟩
  have hlt := chr_lt (p := skp t p) hS.asc
  refine x_iload_n d_Reader_takesSign_8 rfl ?_
  unfold tkS
  by_cases he : chr t (skp t p) = ch
  · rw [if_pos he]
    refine x_icmp_eq (tgt := 14) d_Reader_takesSign_9 (by decide) (fun _ => ?_) (fun hn => absurd (by rw [he]) hn)
    refine x_aload_n d_Reader_takesSign_14 rfl rfl ?_
    refine x_dup d_Reader_takesSign_15 rfl ?_
    refine x_get xf_Reader_25_Reader (Or.inl xup_self) rfl d_Reader_takesSign_16 ?_
    refine x_iconst (v := 1) d_Reader_takesSign_19 (by decide) ?_
    refine x_iadd d_Reader_takesSign_20 ?_
    refine x_top (w := .int (nI (skp t p + 1))) (by rw [show (1 : Int32) = nI 1 from rfl, nI_add]) ?_
    refine x_put xf_Reader_25_Reader xp_Reader_4 rfl rfl xup_self rfl rfl d_Reader_takesSign_21 ?_
    refine x_iconst (v := 1) d_Reader_takesSign_24 (by decide) ?_
    refine x_zret d_Reader_takesSign_25 rfl rfl ?_
    exact ⟨by rw [decide_eq_true he]; rfl, by rw [xup_up]; rfl, rfl, rfl⟩
  · rw [if_neg he]
    refine x_icmp_eq (tgt := 14) d_Reader_takesSign_9 (by decide) (fun ht => absurd ht (fun z => he ((nI_eq (by omega) (by omega)).mp z))) (fun _ => ?_)
    refine x_iconst (v := 0) d_Reader_takesSign_12 (by decide) ?_
    refine x_zret d_Reader_takesSign_13 rfl rfl ?_
    exact ⟨by rw [decide_eq_false he]; rfl, rfl, rfl, rfl⟩
def tkW (t : List Nat) (p : Nat) (w : List Nat) : Nat := if wrd t (skp t p) = w then skp t p + w.length else skp t p
theorem wrd_le {t : List Nat} {p : Nat} (hp : p ≤ t.length) : p + (wrd t p).length ≤ t.length := scn_le hp
theorem tkW_le {t : List Nat} {p : Nat} {w : List Nat} (hp : p ≤ t.length) : tkW t p w ≤ t.length := by
  have := skp_le hp
  unfold tkW
  split
  · rename_i hc
    rw [← hc]
    exact wrd_le this
  · exact this
theorem c_takesWord (hG : xGk G) (hd : 6 ≤ d) {r ta na la ba p o tc wa : Nat} {t w : List Nat} (hr : h r = some (rdO ta na la ba p o tc)) (hS : isS G h ta t) (hl : t.length < 2 ^ 20) (hp : p ≤ t.length) (hw : isS G h wa w) (hwl : w.length < 2 ^ 20) (hc : c + 2 ≤ xCB) (hn : n + t.length + 4 ≤ xSB) : XM l G d M_Reader_takesWord [.ref r, .ref wa] h c n (fun v h' c' n' => v = some (.int (bI (decide (wrd t (skp t p) = w)))) ∧ h' r = some (rdO ta na la ba (tkW t p w) o tc) ∧ xfr h h' [r] ∧ c' ≤ c + 2 ∧ n' ≤ n + t.length + 4) := by
  obtain ⟨d, rfl⟩ : ∃ q, d = q + 1 := ⟨d - 1, by omega⟩
  refine XM.of (by decide +kernel) (Nat.le_of_ble_eq_true rfl) ?_
  have hq := skp_le hp
  have hwl' := wrd_le hq
  refine x_aload_n d_Reader_takesWord_0 rfl rfl ?_
  refine x_callV (As := []) (k := k_Reader) rfl xcv_Reader_49_Reader (Or.inl hr) (c_skipBlanks hG (by omega) hr hS hl hp) rfl rfl (Nat.le_of_ble_eq_true rfl) d_Reader_takesWord_1 ?_
  rintro v h' c' n' ⟨rfl, rfl, rfl, rfl⟩
  refine x_aload_n d_Reader_takesWord_4 rfl rfl ?_
  refine x_callV (As := []) (k := k_Reader) rfl xcv_Reader_92_Reader (Or.inl xup_self) (c_wordHere hG (by omega) xup_self (hS.upR hr (by decide)) hl hq hc hn) rfl rfl (Nat.le_of_ble_eq_true rfl) d_Reader_takesWord_5 ?_
  rintro v h' c' n' ⟨q, rfl, g1, g2, g3, g4⟩
  obtain ⟨vq, eq, hqa, -⟩ := id g1
  have hw' : isS G h' wa w := (hw.upR hr (by decide)).fr g2 (fun _ z => by cases z)
  obtain ⟨vw, ew, hwa, -⟩ := id hw'
  have hr' : h' r = some (rdO ta na la ba (skp t p) o tc) := g2.1 _ _ xup_self (by simp)
  have hf : xfr h h' [r] := (xfr.rf.up (Or.inl (by simp)) : xfr h (xup h r _) [r]).tr g2 (fun _ _ z => by cases z)
  refine x_aload_n d_Reader_takesWord_8 rfl rfl ?_
  refine x_callV (As := [_]) (k := k_String) rfl xcv_Reader_97_String hqa (c_String_equals (by omega) g1 hw' (by omega) (by omega)) rfl rfl (Nat.le_of_ble_eq_true rfl) d_Reader_takesWord_9 ?_
  rintro v h2 c2 n2 ⟨rfl, rfl, rfl, rfl⟩
  by_cases he : wrd t (skp t p) = w
  · rw [show tkW t p w = skp t p + w.length from if_pos he]
    refine x_if_ne (tgt := 17) d_Reader_takesWord_12 (by decide) (fun _ => ?_) (fun hn => absurd hn (by rw [if_pos he]; decide))
    refine x_aload_n d_Reader_takesWord_17 rfl rfl ?_
    refine x_dup d_Reader_takesWord_18 rfl ?_
    refine x_get xf_Reader_25_Reader (Or.inl hr') rfl d_Reader_takesWord_19 ?_
    refine x_aload_n d_Reader_takesWord_22 rfl rfl ?_
    refine x_callV (As := []) (k := k_String) rfl xcv_Reader_52_String hwa (c_String_length (by omega) hw') rfl rfl (Nat.le_of_ble_eq_true rfl) d_Reader_takesWord_23 ?_
    rintro v h2 c2 n2 ⟨rfl, rfl, rfl, rfl⟩
    refine x_iadd d_Reader_takesWord_26 ?_
    refine x_top (w := .int (nI (skp t p + w.length))) (by rw [nI_add]) ?_
    refine x_put xf_Reader_25_Reader xp_Reader_4 rfl rfl hr' rfl rfl d_Reader_takesWord_27 ?_
    refine x_iconst (v := 1) d_Reader_takesWord_30 (by decide) ?_
    refine x_zret d_Reader_takesWord_31 rfl rfl ?_
    exact ⟨by rw [decide_eq_true he]; rfl, xup_self, hf.up (Or.inl (by simp)), g3, by omega⟩
  · rw [show tkW t p w = skp t p from if_neg he]
    refine x_if_ne (tgt := 17) d_Reader_takesWord_12 (by decide) (fun ht => absurd (by rw [if_neg he]) ht) (fun _ => ?_)
    refine x_iconst (v := 0) d_Reader_takesWord_15 (by decide) ?_
    refine x_zret d_Reader_takesWord_16 rfl rfl ?_
    exact ⟨by rw [decide_eq_false he]; rfl, hr', hf, g3, by omega⟩
end RD2
