section
abbrev y_Arrays_copyOf_aJI : MethodName := ⟨"java/util/Arrays", "copyOf", "([JI)[J"⟩
abbrev M_Arrays_copyOf_aJI : XMt := (y_Arrays_copyOf_aJI, prog_34_method_124_code, 3, (some (.array .long)))
theorem d_Arrays_copyOf_aJI_0 : decode M_Arrays_copyOf_aJI.2.1 0 = .ok (.iload_n 1, 1) := by decide +kernel
theorem d_Arrays_copyOf_aJI_1 : decode M_Arrays_copyOf_aJI.2.1 1 = .ok (.aload_n 0, 1) := by decide +kernel
theorem d_Arrays_copyOf_aJI_2 : decode M_Arrays_copyOf_aJI.2.1 2 = .ok (.arraylength, 1) := by decide +kernel
theorem d_Arrays_copyOf_aJI_3 : decode M_Arrays_copyOf_aJI.2.1 3 = .ok (.if_icmp .ne 11, 3) := by decide +kernel
theorem d_Arrays_copyOf_aJI_6 : decode M_Arrays_copyOf_aJI.2.1 6 = .ok (.aload_n 0, 1) := by decide +kernel
theorem d_Arrays_copyOf_aJI_7 : decode M_Arrays_copyOf_aJI.2.1 7 = .ok (.invokevirtual 319, 3) := by decide +kernel
theorem xw_1002 : (Jvm.Cond.methodLink "java/util/Arrays" (319 : Nat) ({ cls := "[J", name := "clone", desc := "()Ljava/lang/Object;" } : Jvm.MethodName)) ∈ xT := xT_at 1002 (by decide +kernel) (by decide +kernel)
theorem xw_1003 : (Jvm.Cond.sameMethod "[J" "java/lang/Object" "clone" "()Ljava/lang/Object;") ∈ xT := xT_at 1003 (by decide +kernel) (by decide +kernel)
theorem xw_1004 : (Jvm.Cond.selects "[J" ({ cls := "[J", name := "clone", desc := "()Ljava/lang/Object;" } : Jvm.MethodName) ({ cls := "java/lang/Object", name := "clone", desc := "()Ljava/lang/Object;" } : Jvm.MethodName)) ∈ xT := xT_at 1004 (by decide +kernel) (by decide +kernel)
theorem xw_1005 : (Jvm.Cond.castable "[J" "java/lang/Cloneable") ∈ xT := xT_at 1005 (by decide +kernel) (by decide +kernel)
theorem d_Arrays_copyOf_aJI_10 : decode M_Arrays_copyOf_aJI.2.1 10 = .ok (.checkcast 320, 3) := by decide +kernel
theorem xw_1006 : (Jvm.Cond.classLink "java/util/Arrays" (320 : Nat) "[J") ∈ xT := xT_at 1006 (by decide +kernel) (by decide +kernel)
theorem d_Arrays_copyOf_aJI_13 : decode M_Arrays_copyOf_aJI.2.1 13 = .ok (.areturn, 1) := by decide +kernel
theorem d_Arrays_copyOf_aJI_14 : decode M_Arrays_copyOf_aJI.2.1 14 = .ok (.iload_n 1, 1) := by decide +kernel
theorem d_Arrays_copyOf_aJI_15 : decode M_Arrays_copyOf_aJI.2.1 15 = .ok (.newarray .long, 2) := by decide +kernel
theorem d_Arrays_copyOf_aJI_17 : decode M_Arrays_copyOf_aJI.2.1 17 = .ok (.astore_n 2, 1) := by decide +kernel
theorem d_Arrays_copyOf_aJI_18 : decode M_Arrays_copyOf_aJI.2.1 18 = .ok (.aload_n 0, 1) := by decide +kernel
theorem d_Arrays_copyOf_aJI_19 : decode M_Arrays_copyOf_aJI.2.1 19 = .ok (.iconst 0, 1) := by decide +kernel
theorem d_Arrays_copyOf_aJI_20 : decode M_Arrays_copyOf_aJI.2.1 20 = .ok (.aload_n 2, 1) := by decide +kernel
theorem d_Arrays_copyOf_aJI_21 : decode M_Arrays_copyOf_aJI.2.1 21 = .ok (.iconst 0, 1) := by decide +kernel
theorem d_Arrays_copyOf_aJI_22 : decode M_Arrays_copyOf_aJI.2.1 22 = .ok (.aload_n 0, 1) := by decide +kernel
theorem d_Arrays_copyOf_aJI_23 : decode M_Arrays_copyOf_aJI.2.1 23 = .ok (.arraylength, 1) := by decide +kernel
theorem d_Arrays_copyOf_aJI_24 : decode M_Arrays_copyOf_aJI.2.1 24 = .ok (.iload_n 1, 1) := by decide +kernel
theorem d_Arrays_copyOf_aJI_25 : decode M_Arrays_copyOf_aJI.2.1 25 = .ok (.invokestatic 304, 3) := by decide +kernel
theorem d_Arrays_copyOf_aJI_28 : decode M_Arrays_copyOf_aJI.2.1 28 = .ok (.invokestatic 150, 3) := by decide +kernel
theorem d_Arrays_copyOf_aJI_31 : decode M_Arrays_copyOf_aJI.2.1 31 = .ok (.aload_n 2, 1) := by decide +kernel
theorem d_Arrays_copyOf_aJI_32 : decode M_Arrays_copyOf_aJI.2.1 32 = .ok (.areturn, 1) := by decide +kernel
abbrev y_Reader_readSingle : MethodName := ⟨"MarkerText$Reader", "readSingle", "(LMarkerText$Name;)[J"⟩
abbrev M_Reader_readSingle : XMt := (y_Reader_readSingle, prog_10_method_8_code, 5, (some (.array .long)))
theorem d_Reader_readSingle_0 : decode M_Reader_readSingle.2.1 0 = .ok (.aload_n 0, 1) := by decide +kernel
theorem d_Reader_readSingle_1 : decode M_Reader_readSingle.2.1 1 = .ok (.aload_n 1, 1) := by decide +kernel
theorem d_Reader_readSingle_2 : decode M_Reader_readSingle.2.1 2 = .ok (.invokevirtual 166, 3) := by decide +kernel
theorem xw_997 : (Jvm.Cond.code ({ cls := "MarkerText$Reader", name := "readValue", desc := "(LMarkerText$Name;)J" } : Jvm.MethodName) prog_10_method_10_code (5 : Nat) (Option.some Jvm.ClassFile.FieldType.long)) ∈ xT := xT_at 997 (by decide +kernel) (by decide +kernel)
theorem xcb_Reader_readValue : xcb M_Reader_readValue 1 := ⟨xw_997, xw_23, by decide, by decide, by decide, by decide +kernel⟩
theorem xw_996 : (Jvm.Cond.instanceMethod ({ cls := "MarkerText$Reader", name := "readValue", desc := "(LMarkerText$Name;)J" } : Jvm.MethodName)) ∈ xT := xT_at 996 (by decide +kernel) (by decide +kernel)
theorem xw_994 : (Jvm.Cond.methodLink "MarkerText$Reader" (166 : Nat) ({ cls := "MarkerText$Reader", name := "readValue", desc := "(LMarkerText$Name;)J" } : Jvm.MethodName)) ∈ xT := xT_at 994 (by decide +kernel) (by decide +kernel)
theorem xsel_Reader_readValue : Cond.selects "MarkerText$Reader" y_Reader_readValue y_Reader_readValue ∈ xT := xT_sel (q := (y_Reader_readValue, 7)) (by decide +kernel) (by decide +kernel)
theorem xcv_Reader_166_Reader : xCV "MarkerText$Reader" 166 "MarkerText$Reader" M_Reader_readValue 1 := ⟨xcb_Reader_readValue, xw_996, Or.inl ⟨xw_994, Or.inl xsel_Reader_readValue⟩⟩
theorem d_Reader_readSingle_5 : decode M_Reader_readSingle.2.1 5 = .ok (.lstore_n 2, 1) := by decide +kernel
theorem d_Reader_readSingle_6 : decode M_Reader_readSingle.2.1 6 = .ok (.lload_n 2, 1) := by decide +kernel
theorem d_Reader_readSingle_7 : decode M_Reader_readSingle.2.1 7 = .ok (.lconst 0, 1) := by decide +kernel
theorem d_Reader_readSingle_8 : decode M_Reader_readSingle.2.1 8 = .ok (.lcmp, 1) := by decide +kernel
theorem d_Reader_readSingle_9 : decode M_Reader_readSingle.2.1 9 = .ok (.ifCond .ne 5, 3) := by decide +kernel
theorem d_Reader_readSingle_12 : decode M_Reader_readSingle.2.1 12 = .ok (.aconst_null, 1) := by decide +kernel
theorem d_Reader_readSingle_13 : decode M_Reader_readSingle.2.1 13 = .ok (.areturn, 1) := by decide +kernel
theorem d_Reader_readSingle_14 : decode M_Reader_readSingle.2.1 14 = .ok (.iconst 1, 1) := by decide +kernel
theorem d_Reader_readSingle_15 : decode M_Reader_readSingle.2.1 15 = .ok (.newarray .long, 2) := by decide +kernel
theorem d_Reader_readSingle_17 : decode M_Reader_readSingle.2.1 17 = .ok (.astore 4, 2) := by decide +kernel
theorem d_Reader_readSingle_19 : decode M_Reader_readSingle.2.1 19 = .ok (.aload 4, 2) := by decide +kernel
theorem d_Reader_readSingle_21 : decode M_Reader_readSingle.2.1 21 = .ok (.iconst 0, 1) := by decide +kernel
theorem d_Reader_readSingle_22 : decode M_Reader_readSingle.2.1 22 = .ok (.lload_n 2, 1) := by decide +kernel
theorem d_Reader_readSingle_23 : decode M_Reader_readSingle.2.1 23 = .ok (.lastore, 1) := by decide +kernel
theorem d_Reader_readSingle_24 : decode M_Reader_readSingle.2.1 24 = .ok (.aload 4, 2) := by decide +kernel
theorem d_Reader_readSingle_26 : decode M_Reader_readSingle.2.1 26 = .ok (.areturn, 1) := by decide +kernel
end
section RD5
variable {l : Launch} {G : XG} {h : XH} {c n d : Nat}
theorem xlv_fit {N : Nat} {ks : List Nat} : ∀ v ∈ xlv N ks, fits .long v = true := by
  intro v hv
  rcases List.mem_append.mp hv with z | z
  · obtain ⟨x, -, rfl⟩ := List.mem_map.mp z
    rfl
  · rw [(List.mem_replicate.mp z).2]; rfl
theorem xlv_len {N : Nat} {ks : List Nat} (hk : ks.length ≤ N) : (xlv N ks).length = N := by
  unfold xlv
  rw [List.length_append, List.length_map, List.length_replicate]
  omega
theorem xlv_take {N : Nat} {ks : List Nat} : (xlv N ks).take ks.length = ks.map (fun v => .long (lN v)) := by
  unfold xlv
  rw [List.take_append_of_le_length (by simp), List.take_of_length_le (by simp)]
theorem c_copyOf_aJ (hd : 1 ≤ d) {a : Nat} {ks : List Nat} (ha : h a = some (k_avals, xlv 6 ks)) (hk : ks.length ≤ 6) (hc : c + 1 ≤ xCB) (hn : n + 6 ≤ xSB) : XM l G d M_Arrays_copyOf_aJI [.ref a, .int (nI ks.length)] h c n (xMade k_avals (ks.map (fun v => .long (lN v))) h c n) := by
  obtain ⟨d, rfl⟩ : ∃ q, d = q + 1 := ⟨d - 1, by omega⟩
  have hlen := xlv_len hk
  refine XM.of (by decide +kernel) (Nat.le_of_ble_eq_true rfl) ?_
  by_cases h6 : ks.length = 6
  · have he : xlv 6 ks = ks.map (fun v => .long (lN v)) := by
      unfold xlv
      rw [h6]
      simp
    refine x_iload_n d_Arrays_copyOf_aJI_0 rfl ?_
    refine x_aload_n d_Arrays_copyOf_aJI_1 rfl rfl ?_
    refine x_alen (k := k_avals) rfl (Or.inl ha) (v := nI 6) (by rw [hlen]; rfl) d_Arrays_copyOf_aJI_2 ?_
    refine x_icmp_ne (tgt := 14) d_Arrays_copyOf_aJI_3 (by decide) (fun ht => absurd (by rw [h6]) ht) (fun _ => ?_)
    refine x_aload_n d_Arrays_copyOf_aJI_6 rfl rfl ?_
    refine x_clone (k := k_avals) (k1 := k_avals) (ad := "[J") rfl rfl (fun _ hz => by cases hz) (by decide +kernel) xw_1002 xw_1003 xw_210 xw_211 xw_1004 xw_1005 ha xlv_fit hc (by rw [hlen]; exact hn) (Nat.le_of_ble_eq_true rfl) d_Arrays_copyOf_aJI_7 (fun q hn_q hk_q => ?_)
    refine x_castA (k := k_avals) (nm := "[J") rfl (fun _ hz => by cases hz) (by decide +kernel) xw_1006 xup_self d_Arrays_copyOf_aJI_10 ?_
    refine x_aret d_Arrays_copyOf_aJI_13 rfl rfl ?_
    exact ⟨q, rfl, hn_q, by rw [he], rfl, by rw [he]⟩
  · refine x_iload_n d_Arrays_copyOf_aJI_0 rfl ?_
    refine x_aload_n d_Arrays_copyOf_aJI_1 rfl rfl ?_
    refine x_alen (k := k_avals) rfl (Or.inl ha) (v := nI 6) (by rw [hlen]; rfl) d_Arrays_copyOf_aJI_2 ?_
    refine x_icmp_ne (tgt := 14) d_Arrays_copyOf_aJI_3 (by decide) (fun _ => ?_) (fun hn => absurd hn (by rw [nI_eq (by omega) (by omega)]; exact h6))
    refine x_iload_n d_Arrays_copyOf_aJI_14 rfl ?_
    refine x_newa (k := k_avals) rfl rfl (fun _ hz => by cases hz) xw_110 (nI_pos (by omega)) (nI_clamp (by omega)) (by show ks.length * 8 ≤ _; omega) hc (by omega) d_Arrays_copyOf_aJI_15 (fun q hn_q hk_q => ?_)
    refine x_astore_n (L' := [_, _, _]) d_Arrays_copyOf_aJI_17 rfl rfl rfl ?_
    refine x_aload_n d_Arrays_copyOf_aJI_18 rfl rfl ?_
    refine x_iconst (v := 0) d_Arrays_copyOf_aJI_19 (by decide) ?_
    refine x_aload_n d_Arrays_copyOf_aJI_20 rfl rfl ?_
    refine x_iconst (v := 0) d_Arrays_copyOf_aJI_21 (by decide) ?_
    refine x_aload_n d_Arrays_copyOf_aJI_22 rfl rfl ?_
    refine x_alen (k := k_avals) rfl (xr_up (Or.inl ha) hn_q) (v := nI 6) (by rw [hlen]; rfl) d_Arrays_copyOf_aJI_23 ?_
    refine x_iload_n d_Arrays_copyOf_aJI_24 rfl ?_
    refine x_mmin xw_215 xw_216 xw_10 xw_217 (Nat.le_of_ble_eq_true rfl) d_Arrays_copyOf_aJI_25 ?_
    refine x_top (w := .int (nI ks.length)) (by rw [nI_min (by omega) (by omega), Nat.min_eq_right (by omega)]) ?_
    refine x_copyP (k0 := k_avals) (k := k_avals) rfl rfl rfl xw_218 xw_220 xw_219 xw_12 (xr_up (Or.inl ha) hn_q) xup_self (by decide) (by decide) (nI_pos (by omega)) (by rw [nI_clamp (by omega), hlen]; show 0 + ks.length ≤ 6; omega) (by rw [nI_clamp (by omega)]; show 0 + ks.length ≤ _; simp) xlv_fit (Nat.le_of_ble_eq_true rfl) d_Arrays_copyOf_aJI_28 ?_
    refine x_hp (h' := xup h q (k_avals, ks.map (fun v => .long (lN v)))) (by
      rw [xup_up, nI_clamp (by omega), ← xlv_take (N := 6)]
      congr 2
      show xcopy (xlv 6 ks) (List.replicate ks.length (defaultValue .long)) 0 0 ks.length = _
      simp [xcopy]) ?_
    refine x_aload_n d_Arrays_copyOf_aJI_31 rfl rfl ?_
    refine x_aret d_Arrays_copyOf_aJI_32 rfl rfl ?_
    exact ⟨q, rfl, hn_q, rfl, rfl, by simp⟩
/-- what the readers of VALUES give back -/
abbrev pVs (h h' : XH) (v : Option Value) : Option (List Nat) → Prop
  | none => v = some .null
  | some us => ∃ q, v = some (.ref q) ∧ h q = none ∧ h' q = some (k_avals, us.map (fun v => .long (lN v)))
def rsg (t : List Nat) (kd p : Nat) : Option (List Nat) := if (rvl t kd p).2.1 = 0 then none else some [(rvl t kd p).2.1]
/-- a cell that wasn't there changes nothing of what is said -/
theorem pR.upF {C N K r ba va m c' n' a k : Nat} {vs : List Value} {e e' : Nat × List Value} {t : List Nat} {h' : XH} (p : pR C N K r ba va e t m h c n h' c' n') (ha : h a = none) (ha' : h' a = some (k, vs)) (hk : k ≠ e.1 ∧ k ≠ k_StringBuilder ∧ k ≠ k_abyte) : pR C N K r ba va e t m h c n (xup h' a e') c' n' := by
  obtain ⟨va', m', p0, p1, p2, p3, p4⟩ := p
  obtain ⟨z, bs, q1, q2, -⟩ := id p1
  have hf : xfr h' (xup h' a e') [a] := xfr.rf.up (Or.inl (by simp))
  refine ⟨va', m', ?_, p1.fr hf ?_ ?_, p2.up (Or.inr ha), p3, p4⟩
  · rw [xup_ne (fun z => ?_)]
    · exact p0
    · subst z
      rw [p0] at ha'
      cases ha'
      exact hk.1 rfl
  · simpa using Ne.symm (xne ha' q1 hk.2.1)
  · simpa using Ne.symm (xne ha' q2 hk.2.2)
theorem pR.upN {C N K r ba va m c' n' a : Nat} {e e' : Nat × List Value} {t : List Nat} {h' : XH} (p : pR C N K r ba va e t m h c n h' c' n') (ha' : h' a = none) {dc dn : Nat} : pR (C + dc) (N + dn) K r ba va e t m h c n (xup h' a e') (c' + dc) (n' + dn) ∧ h a = none := by
  obtain ⟨va', m', p0, p1, p2, p3, p4⟩ := p
  obtain ⟨z, bs, q1, q2, -⟩ := id p1
  have ha : h a = none := p2.2 _ ha'
  have hf : xfr h' (xup h' a e') [a] := xfr.rf.up (Or.inl (by simp))
  refine ⟨⟨va', m', ?_, p1.fr hf ?_ ?_, p2.up (Or.inr ha), p3, by omega⟩, ha⟩
  · rw [xup_ne (fun z => by subst z; rw [p0] at ha'; cases ha')]
    exact p0
  · simpa using xneN q1 ha'
  · simpa using xneN q2 ha'
theorem c_readSingle (hG : xGk G) (hd : 8 ≤ d) {K r ta na la ba va p o tc m oa ka kd : Nat} {t ln w ks : List Nat} (hr : h r = some (rdO ta na la ba p o tc)) (hS : isS G h ta t) (hl : t.length < 2 ^ 20) (hp : p ≤ t.length) (hB : isB h ba va ln m) (hN : isN G h oa ka w kd ks) (hK : K < 2 ^ 16) (hm : m ≤ K) (hL : 2 * (ln.length + (rvl t kd p).2.2.length) + 4 ≤ K) (hc : c + K + 3 ≤ xCB + m) (hn : n + 2 * K + t.length + 6 ≤ xSB + 2 * m) :
    XM l G d M_Reader_readSingle [.ref r, .ref oa] h c n (fun v h' c' n' => pVs h h' v (rsg t kd p) ∧ pR 3 (t.length + 6) K r ba va (rdO ta na la ba (rvl t kd p).1 o tc) (ln ++ (rvl t kd p).2.2) m h c n h' c' n') := by
  obtain ⟨d, rfl⟩ : ∃ q, d = q + 1 := ⟨d - 1, by omega⟩
  refine XM.of (by decide +kernel) (Nat.le_of_ble_eq_true rfl) ?_
  refine x_aload_n d_Reader_readSingle_0 rfl rfl ?_
  refine x_aload_n d_Reader_readSingle_1 rfl rfl ?_
  refine x_callV (As := [_]) (k := k_Reader) rfl xcv_Reader_166_Reader (Or.inl hr) (c_readValue hG (by omega) hr hS hl hp hB hN hK hm hL (by omega) (by omega)) rfl rfl (Nat.le_of_ble_eq_true rfl) d_Reader_readSingle_2 ?_
  rintro v h1 c1 n1 ⟨rfl, p1⟩
  refine x_lstore_n (L' := [_, _, _, _, _]) d_Reader_readSingle_5 rfl rfl ?_
  refine x_lload_n d_Reader_readSingle_6 rfl ?_
  refine x_lconst (v := 0) d_Reader_readSingle_7 (by decide) ?_
  refine x_lcmp d_Reader_readSingle_8 ?_
  by_cases hz : (rvl t kd p).2.1 = 0
  · refine x_if_ne (tgt := 14) d_Reader_readSingle_9 (by decide) (fun ht => absurd ((lg_cmp_eq _ _).mpr (by rw [hz]; rfl)) ht) (fun _ => ?_)
    refine x_null d_Reader_readSingle_12 ?_
    refine x_aret d_Reader_readSingle_13 rfl rfl ?_
    exact ⟨by rw [show rsg t kd p = none from if_pos hz], p1.mono (by omega) (by omega)⟩
  · have hx := rvl_lt (kd := kd) (p := p) hS.asc
    obtain ⟨va1, m1, r1, b1, f1, w1, g1⟩ := id p1
    refine x_if_ne (tgt := 14) d_Reader_readSingle_9 (by decide) (fun _ => ?_) (fun hn => absurd hn (fun z => hz ((pk_lEQ (b := 0) hx (by decide)).mp ((lg_cmp_eq _ _).mp z))))
    refine x_iconst (v := 1) d_Reader_readSingle_14 (by decide) ?_
    refine x_newa (k := k_avals) rfl rfl (fun _ hz => by cases hz) xw_110 (z := 1) (by decide) rfl (by decide) (by omega) (by omega) d_Reader_readSingle_15 (fun q hn_q hk_q => ?_)
    refine x_astore (L' := [_, _, _, _, _]) d_Reader_readSingle_17 rfl rfl rfl ?_
    refine x_aload d_Reader_readSingle_19 rfl rfl ?_
    refine x_iconst (v := 0) d_Reader_readSingle_21 (by decide) ?_
    refine x_lload_n d_Reader_readSingle_22 rfl ?_
    refine x_last (k := k_avals) rfl xup_self (by decide) rfl d_Reader_readSingle_23 ?_
    obtain ⟨p2, hq⟩ := p1.upN (a := q) (e' := (k_avals, [Value.long (lN (rvl t kd p).2.1)])) hn_q (dc := 1) (dn := 1)
    refine x_hp (h' := xup h1 q (k_avals, [Value.long (lN (rvl t kd p).2.1)])) (by rw [xup_up]; rfl) ?_
    refine x_aload d_Reader_readSingle_24 rfl rfl ?_
    refine x_aret d_Reader_readSingle_26 rfl rfl ?_
    exact ⟨by rw [show rsg t kd p = some [(rvl t kd p).2.1] from if_neg hz]; exact ⟨q, rfl, hq, xup_self⟩, p2⟩
end RD5
