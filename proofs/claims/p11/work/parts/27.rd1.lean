section
abbrev y_Reader_skipBlanks : MethodName := ⟨"MarkerText$Reader", "skipBlanks", "()V"⟩
abbrev M_Reader_skipBlanks : XMt := (y_Reader_skipBlanks, prog_10_method_11_code, 1, none)
theorem d_Reader_skipBlanks_0 : decode M_Reader_skipBlanks.2.1 0 = .ok (.aload_n 0, 1) := by decide +kernel
theorem d_Reader_skipBlanks_1 : decode M_Reader_skipBlanks.2.1 1 = .ok (.getfield 25, 3) := by decide +kernel
theorem xw_861 : (Jvm.Cond.fieldLink "MarkerText$Reader" (25 : Nat) "MarkerText$Reader" "at" "I") ∈ xT := xT_at 861 (by decide +kernel) (by decide +kernel)
theorem xf_Reader_25_Reader : xF "MarkerText$Reader" 25 k_Reader 4 := ⟨_, _, _, "MarkerText$Reader", rfl, by decide, Or.inl xw_861, Or.inl rfl⟩
theorem d_Reader_skipBlanks_4 : decode M_Reader_skipBlanks.2.1 4 = .ok (.aload_n 0, 1) := by decide +kernel
theorem d_Reader_skipBlanks_5 : decode M_Reader_skipBlanks.2.1 5 = .ok (.getfield 35, 3) := by decide +kernel
theorem xw_857 : (Jvm.Cond.fieldLink "MarkerText$Reader" (35 : Nat) "MarkerText$Reader" "text" "Ljava/lang/String;") ∈ xT := xT_at 857 (by decide +kernel) (by decide +kernel)
theorem xf_Reader_35_Reader : xF "MarkerText$Reader" 35 k_Reader 0 := ⟨_, _, _, "MarkerText$Reader", rfl, by decide, Or.inl xw_857, Or.inl rfl⟩
theorem d_Reader_skipBlanks_8 : decode M_Reader_skipBlanks.2.1 8 = .ok (.invokevirtual 52, 3) := by decide +kernel
theorem xw_896 : (Jvm.Cond.methodLink "MarkerText$Reader" (52 : Nat) ({ cls := "java/lang/String", name := "length", desc := "()I" } : Jvm.MethodName)) ∈ xT := xT_at 896 (by decide +kernel) (by decide +kernel)
theorem xcv_Reader_52_String : xCV "MarkerText$Reader" 52 "java/lang/String" M_String_length 0 := ⟨xcb_String_length, xw_422, Or.inl ⟨xw_896, Or.inl xw_423⟩⟩
theorem d_Reader_skipBlanks_11 : decode M_Reader_skipBlanks.2.1 11 = .ok (.if_icmp .ge 32, 3) := by decide +kernel
theorem d_Reader_skipBlanks_43 : decode M_Reader_skipBlanks.2.1 43 = .ok (.return_, 1) := by decide +kernel
theorem d_Reader_skipBlanks_14 : decode M_Reader_skipBlanks.2.1 14 = .ok (.aload_n 0, 1) := by decide +kernel
theorem d_Reader_skipBlanks_15 : decode M_Reader_skipBlanks.2.1 15 = .ok (.getfield 35, 3) := by decide +kernel
theorem d_Reader_skipBlanks_18 : decode M_Reader_skipBlanks.2.1 18 = .ok (.aload_n 0, 1) := by decide +kernel
theorem d_Reader_skipBlanks_19 : decode M_Reader_skipBlanks.2.1 19 = .ok (.getfield 25, 3) := by decide +kernel
theorem d_Reader_skipBlanks_22 : decode M_Reader_skipBlanks.2.1 22 = .ok (.invokevirtual 178, 3) := by decide +kernel
theorem xw_897 : (Jvm.Cond.methodLink "MarkerText$Reader" (178 : Nat) ({ cls := "java/lang/String", name := "charAt", desc := "(I)C" } : Jvm.MethodName)) ∈ xT := xT_at 897 (by decide +kernel) (by decide +kernel)
theorem xcv_Reader_178_String : xCV "MarkerText$Reader" 178 "java/lang/String" M_String_charAt 1 := ⟨xcb_String_charAt, xw_431, Or.inl ⟨xw_897, Or.inl xw_432⟩⟩
theorem d_Reader_skipBlanks_25 : decode M_Reader_skipBlanks.2.1 25 = .ok (.bipush 32, 2) := by decide +kernel
theorem d_Reader_skipBlanks_27 : decode M_Reader_skipBlanks.2.1 27 = .ok (.if_icmp .ne 16, 3) := by decide +kernel
theorem d_Reader_skipBlanks_30 : decode M_Reader_skipBlanks.2.1 30 = .ok (.aload_n 0, 1) := by decide +kernel
theorem d_Reader_skipBlanks_31 : decode M_Reader_skipBlanks.2.1 31 = .ok (.dup, 1) := by decide +kernel
theorem d_Reader_skipBlanks_32 : decode M_Reader_skipBlanks.2.1 32 = .ok (.getfield 25, 3) := by decide +kernel
theorem d_Reader_skipBlanks_35 : decode M_Reader_skipBlanks.2.1 35 = .ok (.iconst 1, 1) := by decide +kernel
theorem d_Reader_skipBlanks_36 : decode M_Reader_skipBlanks.2.1 36 = .ok (.iadd, 1) := by decide +kernel
theorem d_Reader_skipBlanks_37 : decode M_Reader_skipBlanks.2.1 37 = .ok (.putfield 25, 3) := by decide +kernel
theorem xp_Reader_4 : xP k_Reader 4 false .int := ⟨_, _, _, rfl, rfl, by decide +kernel⟩
theorem d_Reader_skipBlanks_40 : decode M_Reader_skipBlanks.2.1 40 = .ok (.goto (-40), 3) := by decide +kernel
abbrev y_Reader_characterHere : MethodName := ⟨"MarkerText$Reader", "characterHere", "()C"⟩
abbrev M_Reader_characterHere : XMt := (y_Reader_characterHere, prog_10_method_12_code, 1, (some .char))
theorem d_Reader_characterHere_0 : decode M_Reader_characterHere.2.1 0 = .ok (.aload_n 0, 1) := by decide +kernel
theorem d_Reader_characterHere_1 : decode M_Reader_characterHere.2.1 1 = .ok (.getfield 25, 3) := by decide +kernel
theorem d_Reader_characterHere_4 : decode M_Reader_characterHere.2.1 4 = .ok (.aload_n 0, 1) := by decide +kernel
theorem d_Reader_characterHere_5 : decode M_Reader_characterHere.2.1 5 = .ok (.getfield 35, 3) := by decide +kernel
theorem d_Reader_characterHere_8 : decode M_Reader_characterHere.2.1 8 = .ok (.invokevirtual 52, 3) := by decide +kernel
theorem d_Reader_characterHere_11 : decode M_Reader_characterHere.2.1 11 = .ok (.if_icmp .ge 17, 3) := by decide +kernel
theorem d_Reader_characterHere_14 : decode M_Reader_characterHere.2.1 14 = .ok (.aload_n 0, 1) := by decide +kernel
theorem d_Reader_characterHere_15 : decode M_Reader_characterHere.2.1 15 = .ok (.getfield 35, 3) := by decide +kernel
theorem d_Reader_characterHere_18 : decode M_Reader_characterHere.2.1 18 = .ok (.aload_n 0, 1) := by decide +kernel
theorem d_Reader_characterHere_19 : decode M_Reader_characterHere.2.1 19 = .ok (.getfield 25, 3) := by decide +kernel
theorem d_Reader_characterHere_22 : decode M_Reader_characterHere.2.1 22 = .ok (.invokevirtual 178, 3) := by decide +kernel
theorem d_Reader_characterHere_25 : decode M_Reader_characterHere.2.1 25 = .ok (.goto 4, 3) := by decide +kernel
theorem d_Reader_characterHere_29 : decode M_Reader_characterHere.2.1 29 = .ok (.ireturn, 1) := by decide +kernel
theorem d_Reader_characterHere_28 : decode M_Reader_characterHere.2.1 28 = .ok (.iconst 0, 1) := by decide +kernel
abbrev y_Reader_wordHere : MethodName := ⟨"MarkerText$Reader", "wordHere", "()Ljava/lang/String;"⟩
abbrev M_Reader_wordHere : XMt := (y_Reader_wordHere, prog_10_method_13_code, 2, (some (.object "java/lang/String")))
theorem d_Reader_wordHere_36 : decode M_Reader_wordHere.2.1 36 = .ok (.aload_n 0, 1) := by decide +kernel
theorem d_Reader_wordHere_37 : decode M_Reader_wordHere.2.1 37 = .ok (.getfield 35, 3) := by decide +kernel
theorem d_Reader_wordHere_40 : decode M_Reader_wordHere.2.1 40 = .ok (.aload_n 0, 1) := by decide +kernel
theorem d_Reader_wordHere_41 : decode M_Reader_wordHere.2.1 41 = .ok (.getfield 25, 3) := by decide +kernel
theorem d_Reader_wordHere_44 : decode M_Reader_wordHere.2.1 44 = .ok (.iload_n 1, 1) := by decide +kernel
theorem d_Reader_wordHere_45 : decode M_Reader_wordHere.2.1 45 = .ok (.invokevirtual 186, 3) := by decide +kernel
theorem xw_906 : (Jvm.Cond.code ({ cls := "java/lang/String", name := "substring", desc := "(II)Ljava/lang/String;" } : Jvm.MethodName) prog_25_method_92_code (5 : Nat) (Option.some (Jvm.ClassFile.FieldType.object "java/lang/String"))) ∈ xT := xT_at 906 (by decide +kernel) (by decide +kernel)
theorem xcb_String_substring : xcb M_String_substring 2 := ⟨xw_906, xw_4, by decide, by decide, by decide, by decide +kernel⟩
theorem xw_904 : (Jvm.Cond.instanceMethod ({ cls := "java/lang/String", name := "substring", desc := "(II)Ljava/lang/String;" } : Jvm.MethodName)) ∈ xT := xT_at 904 (by decide +kernel) (by decide +kernel)
theorem xw_903 : (Jvm.Cond.methodLink "MarkerText$Reader" (186 : Nat) ({ cls := "java/lang/String", name := "substring", desc := "(II)Ljava/lang/String;" } : Jvm.MethodName)) ∈ xT := xT_at 903 (by decide +kernel) (by decide +kernel)
theorem xw_905 : (Jvm.Cond.selects "java/lang/String" ({ cls := "java/lang/String", name := "substring", desc := "(II)Ljava/lang/String;" } : Jvm.MethodName) ({ cls := "java/lang/String", name := "substring", desc := "(II)Ljava/lang/String;" } : Jvm.MethodName)) ∈ xT := xT_at 905 (by decide +kernel) (by decide +kernel)
theorem xcv_Reader_186_String : xCV "MarkerText$Reader" 186 "java/lang/String" M_String_substring 2 := ⟨xcb_String_substring, xw_904, Or.inl ⟨xw_903, Or.inl xw_905⟩⟩
theorem d_Reader_wordHere_48 : decode M_Reader_wordHere.2.1 48 = .ok (.areturn, 1) := by decide +kernel
theorem d_Reader_wordHere_5 : decode M_Reader_wordHere.2.1 5 = .ok (.iload_n 1, 1) := by decide +kernel
theorem d_Reader_wordHere_6 : decode M_Reader_wordHere.2.1 6 = .ok (.aload_n 0, 1) := by decide +kernel
theorem d_Reader_wordHere_7 : decode M_Reader_wordHere.2.1 7 = .ok (.getfield 35, 3) := by decide +kernel
theorem d_Reader_wordHere_10 : decode M_Reader_wordHere.2.1 10 = .ok (.invokevirtual 52, 3) := by decide +kernel
theorem d_Reader_wordHere_13 : decode M_Reader_wordHere.2.1 13 = .ok (.if_icmp .ge 23, 3) := by decide +kernel
theorem d_Reader_wordHere_16 : decode M_Reader_wordHere.2.1 16 = .ok (.aload_n 0, 1) := by decide +kernel
theorem d_Reader_wordHere_17 : decode M_Reader_wordHere.2.1 17 = .ok (.getfield 35, 3) := by decide +kernel
theorem d_Reader_wordHere_20 : decode M_Reader_wordHere.2.1 20 = .ok (.iload_n 1, 1) := by decide +kernel
theorem d_Reader_wordHere_21 : decode M_Reader_wordHere.2.1 21 = .ok (.invokevirtual 178, 3) := by decide +kernel
theorem d_Reader_wordHere_24 : decode M_Reader_wordHere.2.1 24 = .ok (.invokestatic 190, 3) := by decide +kernel
theorem xw_902 : (Jvm.Cond.methodLinkNest "MarkerText$Reader" (190 : Nat) ({ cls := "MarkerText", name := "isLetter", desc := "(C)Z" } : Jvm.MethodName) "MarkerText") ∈ xT := xT_at 902 (by decide +kernel) (by decide +kernel)
theorem xcs_Reader_190 : xCS "MarkerText$Reader" 190 M_MT_isLetter 1 := ⟨xcb_MT_isLetter, xw_675, Or.inr ⟨_, xw_902⟩⟩
theorem d_Reader_wordHere_27 : decode M_Reader_wordHere.2.1 27 = .ok (.ifCond .eq 9, 3) := by decide +kernel
theorem d_Reader_wordHere_30 : decode M_Reader_wordHere.2.1 30 = .ok (.iinc 1 1, 3) := by decide +kernel
theorem d_Reader_wordHere_33 : decode M_Reader_wordHere.2.1 33 = .ok (.goto (-28), 3) := by decide +kernel
theorem d_Reader_wordHere_0 : decode M_Reader_wordHere.2.1 0 = .ok (.aload_n 0, 1) := by decide +kernel
theorem d_Reader_wordHere_1 : decode M_Reader_wordHere.2.1 1 = .ok (.getfield 25, 3) := by decide +kernel
theorem d_Reader_wordHere_4 : decode M_Reader_wordHere.2.1 4 = .ok (.istore_n 1, 1) := by decide +kernel
end
section RD1
variable {l : Launch} {G : XG} {h : XH} {c n d : Nat}
theorem xup_id {a : Nat} {e : Nat × List Value} (ha : h a = some e) : xup h a e = h := by
  funext z
  by_cases hz : z = a
  · subst hz; rw [xup_self, ha]
  · rw [xup_ne hz]
theorem xchr0 : ∀ ch, ch < 128 → narrow .char (.int (nI ch)) = .int (nI ch) := by decide +kernel
theorem xchr {ch : Nat} (hc : ch < 128) : narrow .char (.int (nI ch)) = .int (nI ch) := xchr0 ch hc
/-- where a run of characters that keep q ends -/
def scn (q : Nat → Bool) (t : List Nat) (p : Nat) : Nat := p + ((t.drop p).takeWhile q).length
theorem scn_step {q : Nat → Bool} {t : List Nat} {p : Nat} (hp : p < t.length) (hq : q t[p] = true) : scn q t p = scn q t (p + 1) := by
  unfold scn
  rw [List.drop_eq_getElem_cons hp, List.takeWhile_cons, if_pos hq, List.length_cons]
  omega
theorem scn_stop {q : Nat → Bool} {t : List Nat} {p : Nat} (hp : p < t.length) (hq : q t[p] = false) : scn q t p = p := by
  unfold scn
  rw [List.drop_eq_getElem_cons hp, List.takeWhile_cons, if_neg (by rw [hq]; exact fun z => by cases z)]
  rfl
theorem scn_end {q : Nat → Bool} {t : List Nat} {p : Nat} (hp : t.length ≤ p) : scn q t p = p := by
  unfold scn
  rw [List.drop_of_length_le hp]
  rfl
theorem scn_ge {q : Nat → Bool} {t : List Nat} {p : Nat} : p ≤ scn q t p := Nat.le_add_right _ _
theorem take_tw {q : Nat → Bool} : ∀ u : List Nat, u.take (u.takeWhile q).length = u.takeWhile q
  | [] => rfl
  | x :: u => by
    rw [List.takeWhile_cons]
    by_cases hq : q x = true
    · rw [if_pos hq, List.length_cons, List.take_succ_cons, take_tw u]
    · rw [if_neg hq]; rfl
theorem tw_len {q : Nat → Bool} : ∀ u : List Nat, (u.takeWhile q).length ≤ u.length
  | [] => Nat.le_refl _
  | x :: u => by
    rw [List.takeWhile_cons]
    by_cases hq : q x = true
    · rw [if_pos hq, List.length_cons, List.length_cons]
      have := tw_len (q := q) u
      omega
    · rw [if_neg hq]; exact Nat.zero_le _
theorem scn_le {q : Nat → Bool} {t : List Nat} {p : Nat} (hp : p ≤ t.length) : scn q t p ≤ t.length := by
  have := tw_len (q := q) (t.drop p)
  unfold scn
  rw [List.length_drop] at this
  omega
theorem scn_cut {q : Nat → Bool} {t : List Nat} {p : Nat} : (t.drop p).take (scn q t p - p) = (t.drop p).takeWhile q := by
  unfold scn
  rw [Nat.add_sub_cancel_left, take_tw]
abbrev qB (x : Nat) : Bool := decide (x = 32)
abbrev qL (x : Nat) : Bool := decide (isLt x)
abbrev qV (x : Nat) : Bool := decide (x ≠ 39)
/-- behind blanks -/
abbrev skp (t : List Nat) (p : Nat) : Nat := scn qB t p
/-- the word that begins at a place -/
abbrev wrd (t : List Nat) (p : Nat) : List Nat := (t.drop p).takeWhile qL
/-- the character at a place, or 0 -/
abbrev chr (t : List Nat) (p : Nat) : Nat := t.getD p 0
theorem chr_in {t : List Nat} {p : Nat} (hp : p < t.length) : chr t p = t[p] := by
  unfold chr
  rw [List.getD_eq_getElem?_getD, List.getElem?_eq_getElem hp]
  rfl
theorem chr_out {t : List Nat} {p : Nat} (hp : t.length ≤ p) : chr t p = 0 := by
  unfold chr
  rw [List.getD_eq_getElem?_getD, List.getElem?_eq_none hp]
  rfl
theorem chr_lt {t : List Nat} {p : Nat} (ht : xasc t) : chr t p < 128 := by
  by_cases hp : p < t.length
  · rw [chr_in hp]; exact ht _ (List.getElem_mem hp)
  · rw [chr_out (by omega)]; decide
theorem isS.asc {a : Nat} {t : List Nat} (hS : isS G h a t) : xasc t := by
  obtain ⟨_, _, _, _, e⟩ := hS
  exact e
/-- a Reader's fields -/
abbrev rdO (ta na la ba p o tc : Nat) : Nat × List Value := (k_Reader, [.ref ta, .ref na, .ref la, .ref ba, .int (nI p), .int (nI o), .int (nI tc)])
theorem isS.upR {a r k : Nat} {vs : List Value} {e : Nat × List Value} {t : List Nat} (hS : isS G h a t) (hr : h r = some (k, vs)) (hk : k ∉ [k_String, k_asbyte]) : isS G (xup h r e) a t := hS.fr (F := [r]) (xfr.rf.up (Or.inl (by simp))) (xno1 hr hk)
theorem c_skipBlanks (hG : xGk G) (hd : 4 ≤ d) {r ta na la ba p o tc : Nat} {t : List Nat} (hr : h r = some (rdO ta na la ba p o tc)) (hS : isS G h ta t) (hl : t.length < 2 ^ 20) (hp : p ≤ t.length) : XM l G d M_Reader_skipBlanks [.ref r] h c n (fun v h' c' n' => v = none ∧ h' = xup h r (rdO ta na la ba (skp t p) o tc) ∧ c' = c ∧ n' = n) := by
  obtain ⟨d, rfl⟩ : ∃ q, d = q + 1 := ⟨d - 1, by omega⟩
  refine XM.of (by decide +kernel) (Nat.le_of_ble_eq_true rfl) ?_
  have lp : ∀ (k p : Nat) (h1 : XH), p + k = t.length → h1 r = some (rdO ta na la ba p o tc) → isS G h1 ta t → xup h1 r (rdO ta na la ba (skp t p) o tc) = xup h r (rdO ta na la ba (skp t p) o tc) → (∀ z, xup h1 r z = xup h r z) → XW l G M_Reader_skipBlanks (d + 1) 0 [some (.ref r)] [] h1 c n (fun v h' c' n' => v = none ∧ h' = xup h r (rdO ta na la ba (skp t p) o tc) ∧ c' = c ∧ n' = n) := by
    intro k
    induction k with
    | zero =>
      intro p h1 hp hr hS _ hu
      obtain ⟨va, ee, ha, -⟩ := id hS
      refine x_aload_n d_Reader_skipBlanks_0 rfl rfl ?_
      refine x_get xf_Reader_25_Reader (Or.inl hr) rfl d_Reader_skipBlanks_1 ?_
      refine x_aload_n d_Reader_skipBlanks_4 rfl rfl ?_
      refine x_get xf_Reader_35_Reader (Or.inl hr) rfl d_Reader_skipBlanks_5 ?_
      refine x_callV (As := []) (k := k_String) rfl xcv_Reader_52_String ha (c_String_length (by omega) hS) rfl rfl (Nat.le_of_ble_eq_true rfl) d_Reader_skipBlanks_8 ?_
      rintro v h' c' n' ⟨rfl, rfl, rfl, rfl⟩
      refine x_icmp_ge (tgt := 43) d_Reader_skipBlanks_11 (by decide) (fun _ => ?_) (fun hn => absurd (nI_le (by omega) (by omega)) hn)
      refine x_vret d_Reader_skipBlanks_43 rfl ?_
      refine ⟨rfl, ?_, rfl, rfl⟩
      rw [show skp t p = p from scn_end (by omega), ← hu, xup_id hr]
    | succ k ih =>
      intro p h1 hp hr hS _ hu
      obtain ⟨va, ee, ha, -⟩ := id hS
      have hpl : p < t.length := by omega
      refine x_aload_n d_Reader_skipBlanks_0 rfl rfl ?_
      refine x_get xf_Reader_25_Reader (Or.inl hr) rfl d_Reader_skipBlanks_1 ?_
      refine x_aload_n d_Reader_skipBlanks_4 rfl rfl ?_
      refine x_get xf_Reader_35_Reader (Or.inl hr) rfl d_Reader_skipBlanks_5 ?_
      refine x_callV (As := []) (k := k_String) rfl xcv_Reader_52_String ha (c_String_length (by omega) hS) rfl rfl (Nat.le_of_ble_eq_true rfl) d_Reader_skipBlanks_8 ?_
      rintro v h' c' n' ⟨rfl, rfl, rfl, rfl⟩
      refine x_icmp_ge (tgt := 43) d_Reader_skipBlanks_11 (by decide) (fun ht => absurd ht (nI_ge (by omega) (by omega))) (fun _ => ?_)
      refine x_aload_n d_Reader_skipBlanks_14 rfl rfl ?_
      refine x_get xf_Reader_35_Reader (Or.inl hr) rfl d_Reader_skipBlanks_15 ?_
      refine x_aload_n d_Reader_skipBlanks_18 rfl rfl ?_
      refine x_get xf_Reader_25_Reader (Or.inl hr) rfl d_Reader_skipBlanks_19 ?_
      refine x_callV (As := [_]) (k := k_String) rfl xcv_Reader_178_String ha (c_String_charAt hG (by omega) hS hpl (by omega)) rfl rfl (Nat.le_of_ble_eq_true rfl) d_Reader_skipBlanks_22 ?_
      rintro v h' c' n' ⟨rfl, rfl, rfl, rfl⟩
      refine x_bipush (v := 32) d_Reader_skipBlanks_25 (by decide) ?_
      have hch := hS.asc t[p] (List.getElem_mem hpl)
      by_cases hb : t[p] = 32
      · refine x_icmp_ne (tgt := 43) d_Reader_skipBlanks_27 (by decide) (fun ht => absurd (by rw [hb]; rfl) ht) (fun _ => ?_)
        refine x_aload_n d_Reader_skipBlanks_30 rfl rfl ?_
        refine x_dup d_Reader_skipBlanks_31 rfl ?_
        refine x_get xf_Reader_25_Reader (Or.inl hr) rfl d_Reader_skipBlanks_32 ?_
        refine x_iconst (v := 1) d_Reader_skipBlanks_35 (by decide) ?_
        refine x_iadd d_Reader_skipBlanks_36 ?_
        refine x_top (w := .int (nI (p + 1))) (by rw [show (1 : Int32) = nI 1 from rfl, nI_add]) ?_
        refine x_put xf_Reader_25_Reader xp_Reader_4 rfl rfl hr rfl rfl d_Reader_skipBlanks_37 ?_
        refine x_goto (tgt := 0) d_Reader_skipBlanks_40 (by decide) ?_
        rw [show skp t p = skp t (p + 1) from scn_step hpl (by simp [qB, hb])]
        exact ih (p + 1) _ (by omega) xup_self (hS.upR hr (by decide)) (by rw [xup_up, hu]) (fun z => by rw [xup_up, hu])
      · refine x_icmp_ne (tgt := 43) d_Reader_skipBlanks_27 (by decide) (fun _ => ?_) (fun hn => absurd hn (fun z => hb ((nI_eq (b := 32) (by omega) (by omega)).mp z)))
        refine x_vret d_Reader_skipBlanks_43 rfl ?_
        refine ⟨rfl, ?_, rfl, rfl⟩
        rw [show skp t p = p from scn_stop hpl (by simp [qB, hb]), ← hu, xup_id hr]
  exact lp (t.length - p) p h (by omega) hr hS rfl (fun _ => rfl)
theorem c_characterHere (hG : xGk G) (hd : 4 ≤ d) {r ta na la ba p o tc : Nat} {t : List Nat} (hr : h r = some (rdO ta na la ba p o tc)) (hS : isS G h ta t) (hl : t.length < 2 ^ 20) (hp : p ≤ t.length) : XM l G d M_Reader_characterHere [.ref r] h c n (xSame (.int (nI (chr t p))) h c n) := by
  obtain ⟨d, rfl⟩ : ∃ q, d = q + 1 := ⟨d - 1, by omega⟩
  obtain ⟨va, ee, ha, -⟩ := id hS
  refine XM.of (by decide +kernel) (Nat.le_of_ble_eq_true rfl) ?_
  refine x_aload_n d_Reader_characterHere_0 rfl rfl ?_
  refine x_get xf_Reader_25_Reader (Or.inl hr) rfl d_Reader_characterHere_1 ?_
  refine x_aload_n d_Reader_characterHere_4 rfl rfl ?_
  refine x_get xf_Reader_35_Reader (Or.inl hr) rfl d_Reader_characterHere_5 ?_
  refine x_callV (As := []) (k := k_String) rfl xcv_Reader_52_String ha (c_String_length (by omega) hS) rfl rfl (Nat.le_of_ble_eq_true rfl) d_Reader_characterHere_8 ?_
  rintro v h' c' n' ⟨rfl, rfl, rfl, rfl⟩
  by_cases hpl : p < t.length
  · have hch := hS.asc t[p] (List.getElem_mem hpl)
    refine x_icmp_ge (tgt := 28) d_Reader_characterHere_11 (by decide) (fun ht => absurd ht (nI_ge (by omega) (by omega))) (fun _ => ?_)
    refine x_aload_n d_Reader_characterHere_14 rfl rfl ?_
    refine x_get xf_Reader_35_Reader (Or.inl hr) rfl d_Reader_characterHere_15 ?_
    refine x_aload_n d_Reader_characterHere_18 rfl rfl ?_
    refine x_get xf_Reader_25_Reader (Or.inl hr) rfl d_Reader_characterHere_19 ?_
    refine x_callV (As := [_]) (k := k_String) rfl xcv_Reader_178_String ha (c_String_charAt hG (by omega) hS hpl (by omega)) rfl rfl (Nat.le_of_ble_eq_true rfl) d_Reader_characterHere_22 ?_
    rintro v h' c' n' ⟨rfl, rfl, rfl, rfl⟩
    refine x_goto (tgt := 29) d_Reader_characterHere_25 (by decide) ?_
    refine x_zret d_Reader_characterHere_29 rfl (xchr (by omega)) ?_
    exact ⟨by rw [chr_in hpl], rfl, rfl, rfl⟩
  · refine x_icmp_ge (tgt := 28) d_Reader_characterHere_11 (by decide) (fun _ => ?_) (fun hn => absurd (nI_le (by omega) (by omega)) hn)
    refine x_iconst (v := 0) d_Reader_characterHere_28 (by decide) ?_
    refine x_zret d_Reader_characterHere_29 rfl rfl ?_
    exact ⟨by rw [chr_out (by omega)]; rfl, rfl, rfl, rfl⟩
theorem c_wordHere (hG : xGk G) (hd : 5 ≤ d) {r ta na la ba p o tc : Nat} {t : List Nat} (hr : h r = some (rdO ta na la ba p o tc)) (hS : isS G h ta t) (hl : t.length < 2 ^ 20) (hp : p ≤ t.length) (hc : c + 2 ≤ xCB) (hn : n + t.length + 4 ≤ xSB) : XM l G d M_Reader_wordHere [.ref r] h c n (pS G (wrd t p) h c n) := by
  obtain ⟨d, rfl⟩ : ∃ q, d = q + 1 := ⟨d - 1, by omega⟩
  obtain ⟨va, ee, ha, -⟩ := id hS
  refine XM.of (by decide +kernel) (Nat.le_of_ble_eq_true rfl) ?_
  have he := scn_le (q := qL) hp
  have hge := scn_ge (q := qL) (t := t) (p := p)
  have at36 : XW l G M_Reader_wordHere (d + 1) 36 [some (.ref r), some (.int (nI (scn qL t p)))] [] h c n (pS G (wrd t p) h c n) := by
    refine x_aload_n d_Reader_wordHere_36 rfl rfl ?_
    refine x_get xf_Reader_35_Reader (Or.inl hr) rfl d_Reader_wordHere_37 ?_
    refine x_aload_n d_Reader_wordHere_40 rfl rfl ?_
    refine x_get xf_Reader_25_Reader (Or.inl hr) rfl d_Reader_wordHere_41 ?_
    refine x_iload_n d_Reader_wordHere_44 rfl ?_
    refine x_callV (As := [_, _]) (k := k_String) rfl xcv_Reader_186_String ha (c_substring hG (by omega) hS hge he hl hc (by omega)) rfl rfl (Nat.le_of_ble_eq_true rfl) d_Reader_wordHere_45 ?_
    rintro v h' c' n' ⟨q, rfl, g1, g2, g3, g4⟩
    rw [scn_cut] at g1 g4
    refine x_aret d_Reader_wordHere_48 rfl rfl ?_
    exact ⟨q, rfl, g1, g2, g3, g4⟩
  have lp : ∀ (k e : Nat), e + k = t.length → scn qL t e = scn qL t p → XW l G M_Reader_wordHere (d + 1) 5 [some (.ref r), some (.int (nI e))] [] h c n (pS G (wrd t p) h c n) := by
    intro k
    induction k with
    | zero =>
      intro e hk hse
      rw [scn_end (by omega)] at hse
      subst hse
      refine x_iload_n d_Reader_wordHere_5 rfl ?_
      refine x_aload_n d_Reader_wordHere_6 rfl rfl ?_
      refine x_get xf_Reader_35_Reader (Or.inl hr) rfl d_Reader_wordHere_7 ?_
      refine x_callV (As := []) (k := k_String) rfl xcv_Reader_52_String ha (c_String_length (by omega) hS) rfl rfl (Nat.le_of_ble_eq_true rfl) d_Reader_wordHere_10 ?_
      rintro v h' c' n' ⟨rfl, rfl, rfl, rfl⟩
      refine x_icmp_ge (tgt := 36) d_Reader_wordHere_13 (by decide) (fun _ => ?_) (fun hn => absurd (nI_le (by omega) (by omega)) hn)
      exact at36
    | succ k ih =>
      intro e hk hse
      have hel : e < t.length := by omega
      have hch := hS.asc t[e] (List.getElem_mem hel)
      refine x_iload_n d_Reader_wordHere_5 rfl ?_
      refine x_aload_n d_Reader_wordHere_6 rfl rfl ?_
      refine x_get xf_Reader_35_Reader (Or.inl hr) rfl d_Reader_wordHere_7 ?_
      refine x_callV (As := []) (k := k_String) rfl xcv_Reader_52_String ha (c_String_length (by omega) hS) rfl rfl (Nat.le_of_ble_eq_true rfl) d_Reader_wordHere_10 ?_
      rintro v h' c' n' ⟨rfl, rfl, rfl, rfl⟩
      refine x_icmp_ge (tgt := 36) d_Reader_wordHere_13 (by decide) (fun ht => absurd ht (nI_ge (by omega) (by omega))) (fun _ => ?_)
      refine x_aload_n d_Reader_wordHere_16 rfl rfl ?_
      refine x_get xf_Reader_35_Reader (Or.inl hr) rfl d_Reader_wordHere_17 ?_
      refine x_iload_n d_Reader_wordHere_20 rfl ?_
      refine x_callV (As := [_]) (k := k_String) rfl xcv_Reader_178_String ha (c_String_charAt hG (by omega) hS hel (by omega)) rfl rfl (Nat.le_of_ble_eq_true rfl) d_Reader_wordHere_21 ?_
      rintro v h' c' n' ⟨rfl, rfl, rfl, rfl⟩
      refine x_callS (As := [_]) xcs_Reader_190 (c_isLetter hch) rfl rfl (Nat.le_of_ble_eq_true rfl) d_Reader_wordHere_24 ?_
      rintro v h' c' n' ⟨rfl, rfl, rfl, rfl⟩
      by_cases hL : isLt t[e]
      · refine x_if_eq (tgt := 36) d_Reader_wordHere_27 (by decide) (fun ht => absurd ht (by rw [if_pos hL]; decide)) (fun _ => ?_)
        refine x_iinc (v := nI (e + 1)) (L' := [_, _]) d_Reader_wordHere_30 rfl (by exact xw_iinc1) rfl rfl ?_
        refine x_goto (tgt := 5) d_Reader_wordHere_33 (by decide) ?_
        exact ih (e + 1) (by omega) (by rw [← scn_step hel (decide_eq_true hL)]; exact hse)
      · rw [scn_stop hel (decide_eq_false hL)] at hse
        refine x_if_eq (tgt := 36) d_Reader_wordHere_27 (by decide) (fun _ => ?_) (fun hn => absurd (by rw [if_neg hL]) hn)
        rw [hse]
        exact at36
  refine x_aload_n d_Reader_wordHere_0 rfl rfl ?_
  refine x_get xf_Reader_25_Reader (Or.inl hr) rfl d_Reader_wordHere_1 ?_
  refine x_istore_n (L' := [_, _]) d_Reader_wordHere_4 rfl rfl ?_
  exact lp (t.length - p) p (by omega) rfl
end RD1
