section
abbrev y_Choices_add : MethodName := ⟨"MarkerText$Choices", "add", "(JI)V"⟩
abbrev M_Choices_add : XMt := (y_Choices_add, prog_2_method_5_code, 6, none)
theorem d_Choices_add_60 : decode M_Choices_add.2.1 60 = .ok (.iconst 0, 1) := by decide +kernel
theorem d_Choices_add_61 : decode M_Choices_add.2.1 61 = .ok (.istore 5, 2) := by decide +kernel
theorem d_Choices_add_63 : decode M_Choices_add.2.1 63 = .ok (.iload 5, 2) := by decide +kernel
theorem d_Choices_add_65 : decode M_Choices_add.2.1 65 = .ok (.ifCond .ne 13, 3) := by decide +kernel
theorem d_Choices_add_68 : decode M_Choices_add.2.1 68 = .ok (.aload_n 0, 1) := by decide +kernel
theorem d_Choices_add_69 : decode M_Choices_add.2.1 69 = .ok (.getfield 15, 3) := by decide +kernel
theorem d_Choices_add_72 : decode M_Choices_add.2.1 72 = .ok (.sipush 356, 3) := by decide +kernel
theorem d_Choices_add_75 : decode M_Choices_add.2.1 75 = .ok (.if_icmp .lt 4, 3) := by decide +kernel
theorem d_Choices_add_79 : decode M_Choices_add.2.1 79 = .ok (.aload_n 0, 1) := by decide +kernel
theorem d_Choices_add_80 : decode M_Choices_add.2.1 80 = .ok (.getfield 11, 3) := by decide +kernel
theorem d_Choices_add_83 : decode M_Choices_add.2.1 83 = .ok (.iload 4, 2) := by decide +kernel
theorem d_Choices_add_85 : decode M_Choices_add.2.1 85 = .ok (.aload_n 0, 1) := by decide +kernel
theorem d_Choices_add_86 : decode M_Choices_add.2.1 86 = .ok (.getfield 11, 3) := by decide +kernel
theorem d_Choices_add_89 : decode M_Choices_add.2.1 89 = .ok (.iload 4, 2) := by decide +kernel
theorem d_Choices_add_91 : decode M_Choices_add.2.1 91 = .ok (.iconst 1, 1) := by decide +kernel
theorem d_Choices_add_92 : decode M_Choices_add.2.1 92 = .ok (.iadd, 1) := by decide +kernel
theorem d_Choices_add_93 : decode M_Choices_add.2.1 93 = .ok (.aload_n 0, 1) := by decide +kernel
theorem d_Choices_add_94 : decode M_Choices_add.2.1 94 = .ok (.getfield 15, 3) := by decide +kernel
theorem d_Choices_add_97 : decode M_Choices_add.2.1 97 = .ok (.iload 4, 2) := by decide +kernel
theorem d_Choices_add_99 : decode M_Choices_add.2.1 99 = .ok (.isub, 1) := by decide +kernel
theorem d_Choices_add_100 : decode M_Choices_add.2.1 100 = .ok (.invokestatic 83, 3) := by decide +kernel
theorem xw_343 : (Jvm.Cond.methodLink "MarkerText$Choices" (83 : Nat) ({ cls := "java/lang/System", name := "arraycopy", desc := "(Ljava/lang/Object;ILjava/lang/Object;II)V" } : Jvm.MethodName)) ∈ xT := xT_at 343 (by decide +kernel) (by decide +kernel)
theorem d_Choices_add_103 : decode M_Choices_add.2.1 103 = .ok (.aload_n 0, 1) := by decide +kernel
theorem d_Choices_add_104 : decode M_Choices_add.2.1 104 = .ok (.getfield 11, 3) := by decide +kernel
theorem d_Choices_add_107 : decode M_Choices_add.2.1 107 = .ok (.iload 4, 2) := by decide +kernel
theorem d_Choices_add_109 : decode M_Choices_add.2.1 109 = .ok (.lload_n 1, 1) := by decide +kernel
theorem d_Choices_add_110 : decode M_Choices_add.2.1 110 = .ok (.lastore, 1) := by decide +kernel
theorem d_Choices_add_111 : decode M_Choices_add.2.1 111 = .ok (.aload_n 0, 1) := by decide +kernel
theorem d_Choices_add_112 : decode M_Choices_add.2.1 112 = .ok (.dup, 1) := by decide +kernel
theorem d_Choices_add_113 : decode M_Choices_add.2.1 113 = .ok (.getfield 15, 3) := by decide +kernel
theorem d_Choices_add_116 : decode M_Choices_add.2.1 116 = .ok (.iconst 1, 1) := by decide +kernel
theorem d_Choices_add_117 : decode M_Choices_add.2.1 117 = .ok (.iadd, 1) := by decide +kernel
theorem d_Choices_add_118 : decode M_Choices_add.2.1 118 = .ok (.putfield 15, 3) := by decide +kernel
theorem d_Choices_add_121 : decode M_Choices_add.2.1 121 = .ok (.return_, 1) := by decide +kernel
theorem d_Choices_add_78 : decode M_Choices_add.2.1 78 = .ok (.return_, 1) := by decide +kernel
theorem d_Choices_add_35 : decode M_Choices_add.2.1 35 = .ok (.iload 4, 2) := by decide +kernel
theorem d_Choices_add_37 : decode M_Choices_add.2.1 37 = .ok (.aload_n 0, 1) := by decide +kernel
theorem d_Choices_add_38 : decode M_Choices_add.2.1 38 = .ok (.getfield 15, 3) := by decide +kernel
theorem d_Choices_add_41 : decode M_Choices_add.2.1 41 = .ok (.if_icmp .ge 19, 3) := by decide +kernel
theorem d_Choices_add_44 : decode M_Choices_add.2.1 44 = .ok (.aload_n 0, 1) := by decide +kernel
theorem d_Choices_add_45 : decode M_Choices_add.2.1 45 = .ok (.getfield 11, 3) := by decide +kernel
theorem d_Choices_add_48 : decode M_Choices_add.2.1 48 = .ok (.iload 4, 2) := by decide +kernel
theorem d_Choices_add_50 : decode M_Choices_add.2.1 50 = .ok (.laload, 1) := by decide +kernel
theorem d_Choices_add_51 : decode M_Choices_add.2.1 51 = .ok (.lload_n 1, 1) := by decide +kernel
theorem d_Choices_add_52 : decode M_Choices_add.2.1 52 = .ok (.lcmp, 1) := by decide +kernel
theorem d_Choices_add_53 : decode M_Choices_add.2.1 53 = .ok (.ifCond .ne 7, 3) := by decide +kernel
theorem d_Choices_add_56 : decode M_Choices_add.2.1 56 = .ok (.iconst 1, 1) := by decide +kernel
theorem d_Choices_add_57 : decode M_Choices_add.2.1 57 = .ok (.goto 4, 3) := by decide +kernel
theorem d_Choices_add_8 : decode M_Choices_add.2.1 8 = .ok (.iload 4, 2) := by decide +kernel
theorem d_Choices_add_10 : decode M_Choices_add.2.1 10 = .ok (.aload_n 0, 1) := by decide +kernel
theorem d_Choices_add_11 : decode M_Choices_add.2.1 11 = .ok (.getfield 15, 3) := by decide +kernel
theorem d_Choices_add_14 : decode M_Choices_add.2.1 14 = .ok (.if_icmp .ge 21, 3) := by decide +kernel
theorem d_Choices_add_17 : decode M_Choices_add.2.1 17 = .ok (.aload_n 0, 1) := by decide +kernel
theorem d_Choices_add_18 : decode M_Choices_add.2.1 18 = .ok (.getfield 11, 3) := by decide +kernel
theorem d_Choices_add_21 : decode M_Choices_add.2.1 21 = .ok (.iload 4, 2) := by decide +kernel
theorem d_Choices_add_23 : decode M_Choices_add.2.1 23 = .ok (.laload, 1) := by decide +kernel
theorem d_Choices_add_24 : decode M_Choices_add.2.1 24 = .ok (.lload_n 1, 1) := by decide +kernel
theorem d_Choices_add_25 : decode M_Choices_add.2.1 25 = .ok (.lcmp, 1) := by decide +kernel
theorem d_Choices_add_26 : decode M_Choices_add.2.1 26 = .ok (.ifCond .ge 9, 3) := by decide +kernel
theorem d_Choices_add_29 : decode M_Choices_add.2.1 29 = .ok (.iinc 4 1, 3) := by decide +kernel
theorem d_Choices_add_32 : decode M_Choices_add.2.1 32 = .ok (.goto (-24), 3) := by decide +kernel
theorem d_Choices_add_0 : decode M_Choices_add.2.1 0 = .ok (.aload_n 0, 1) := by decide +kernel
theorem d_Choices_add_1 : decode M_Choices_add.2.1 1 = .ok (.getfield 19, 3) := by decide +kernel
theorem d_Choices_add_4 : decode M_Choices_add.2.1 4 = .ok (.iload_n 3, 1) := by decide +kernel
theorem d_Choices_add_5 : decode M_Choices_add.2.1 5 = .ok (.iaload, 1) := by decide +kernel
theorem d_Choices_add_6 : decode M_Choices_add.2.1 6 = .ok (.istore 4, 2) := by decide +kernel
end
section CH6
def spt (vs : List Nat) (v : Nat) : Nat → Nat → Nat
  | 0, s => s
  | k + 1, s => if vs.getD s 0 < v then spt vs v k (s + 1) else s
theorem spt_le {vs : List Nat} {v : Nat} : ∀ k s, s ≤ spt vs v k s ∧ spt vs v k s ≤ s + k := by
  intro k
  induction k with
  | zero => intro s; exact ⟨Nat.le_refl _, Nat.le_refl _⟩
  | succ k ih =>
    intro s
    unfold spt
    split
    · have := ih (s + 1)
      omega
    · omega
/-- a VALUE is put into its place, if it isn't there -/
def adV (a : Nat) (q : List Nat × Nat) (v : Nat) : List Nat × Nat := if (spt q.1 v (q.2 - a) a < q.2 ∧ q.1.getD (spt q.1 v (q.2 - a) a) 0 = v) ∨ 356 ≤ q.2 then q else (q.1.take (spt q.1 v (q.2 - a) a) ++ v :: ((q.1.drop (spt q.1 v (q.2 - a) a)).take (q.2 - spt q.1 v (q.2 - a) a) ++ q.1.drop (q.2 + 1)), q.2 + 1)
/-- VALUES in use -/
def okQ (q : List Nat × Nat) : Prop := q.1.length = 356 ∧ q.2 ≤ 356 ∧ ∀ i, i < q.2 → 1 ≤ q.1.getD i 0 ∧ q.1.getD i 0 < 2 ^ 62
theorem ins_at {vs : List Nat} {s us v i : Nat} (hs : s ≤ us) (hu : us < vs.length) (hi : i ≤ us) : (vs.take s ++ v :: ((vs.drop s).take (us - s) ++ vs.drop (us + 1))).getD i 0 = if i < s then vs.getD i 0 else if i = s then v else vs.getD (i - 1) 0 := by
  simp only [List.getD_eq_getElem?_getD]
  by_cases h1 : i < s
  · rw [if_pos h1, List.getElem?_append_left (by simp; omega), List.getElem?_take, if_pos h1]
  · rw [if_neg h1, List.getElem?_append_right (by simp; omega)]
    have hl : (vs.take s).length = s := by simp; omega
    rw [hl]
    by_cases h2 : i = s
    · rw [if_pos h2, h2, Nat.sub_self]
      rfl
    · rw [if_neg h2]
      obtain ⟨k, hk⟩ : ∃ k, i - s = k + 1 := ⟨i - s - 1, by omega⟩
      rw [hk, List.getElem?_cons_succ, List.getElem?_append_left (by simp; omega), List.getElem?_take, if_pos (by omega), List.getElem?_drop]
      rw [show s + k = i - 1 by omega]
theorem adV_ok {a v : Nat} {q : List Nat × Nat} (hq : okQ q) (ha : a ≤ q.2) (h1 : 1 ≤ v) (h2 : v < 2 ^ 62) : okQ (adV a q v) ∧ q.2 ≤ (adV a q v).2 := by
  obtain ⟨q1, q2, q3⟩ := hq
  have hs := spt_le (vs := q.1) (v := v) (q.2 - a) a
  unfold adV
  split
  · exact ⟨⟨q1, q2, q3⟩, Nat.le_refl _⟩
  · rename_i hz
    have hu : q.2 < 356 := by
      rcases Nat.lt_or_ge q.2 356 with z | z
      · exact z
      · exact absurd (Or.inr z) hz
    refine ⟨⟨by simp; omega, (by show q.2 + 1 ≤ 356; omega), fun i hi => ?_⟩, Nat.le_succ _⟩
    have hi' : i < q.2 + 1 := hi
    show 1 ≤ List.getD (q.1.take (spt q.1 v (q.2 - a) a) ++ v :: ((q.1.drop (spt q.1 v (q.2 - a) a)).take (q.2 - spt q.1 v (q.2 - a) a) ++ q.1.drop (q.2 + 1))) i 0 ∧ _ < _
    rw [ins_at (by omega) (by omega) (by omega)]
    split
    · exact q3 i (by omega)
    · split
      · exact ⟨h1, h2⟩
      · exact q3 (i - 1) (by omega)
theorem ins_set {α : Type} {vs R : List α} {s : Nat} {x : α} (hs : s < vs.length) : (vs.take (s + 1) ++ R).set s x = vs.take s ++ x :: R := by
  rw [List.take_succ_eq_append_getElem hs, List.append_assoc, List.set_append_right _ _ (by simp; omega)]
  have hl : (vs.take s).length = s := by simp; omega
  rw [hl, Nat.sub_self]
  rfl
theorem adV_copy {vs : List Nat} {s us v : Nat} {α : Type} {f : Nat → α} (hs : s ≤ us) (hu : us < vs.length) : (((vs.map f).take (s + 1)) ++ (((vs.map f).drop s).take (us - s) ++ (vs.map f).drop (s + 1 + (us - s)))).set s (f v) = (vs.take s ++ v :: ((vs.drop s).take (us - s) ++ vs.drop (us + 1))).map f := by
  rw [ins_set (by simp; omega), show s + 1 + (us - s) = us + 1 by omega]
  simp [List.map_take, List.map_drop]
/-- VALUES one after the other -/
def adL (a : Nat) (ws : List Nat) (q : List Nat × Nat) : List Nat × Nat := ws.foldl (adV a) q
theorem adL_ok {a : Nat} {ws : List Nat} : ∀ {q : List Nat × Nat}, okQ q → a ≤ q.2 → (∀ v ∈ ws, 1 ≤ v ∧ v < 2 ^ 62) → okQ (adL a ws q) ∧ q.2 ≤ (adL a ws q).2 := by
  induction ws with
  | nil => intro q hq ha hw; exact ⟨hq, Nat.le_refl _⟩
  | cons v ws ih =>
    intro q hq ha hw
    obtain ⟨g1, g2⟩ := hw v List.mem_cons_self
    obtain ⟨k1, k2⟩ := adV_ok hq ha g1 g2
    obtain ⟨k3, k4⟩ := ih k1 (by omega) (fun w hw' => hw w (List.mem_cons_of_mem _ hw'))
    exact ⟨k3, Nat.le_trans k2 k4⟩
variable {l : Launch} {G : XG} {h : XH} {c n d : Nat}
theorem c_add (hd : 1 ≤ d) {o co j v : Nat} {st sa pk lv : List Nat} {q : List Nat × Nat} (hc : isCh h o q.1 q.2 st sa pk lv co) (hq : okQ q) (hs : st.length = 6) (hj : j < 6) (ha : st.getD j 0 ≤ q.2) (hv : v < 2 ^ 62) : XM l G d M_Choices_add [.ref o, .long (lN v), .int (nI j)] h c n (fun r h' c' n' => r = none ∧ isCh h' o (adV (st.getD j 0) q v).1 (adV (st.getD j 0) q v).2 st sa pk lv co ∧ xonly h h' [k_Choices, k_achv] ∧ c' = c ∧ n' = n) := by
  obtain ⟨d, rfl⟩ : ∃ q, d = q + 1 := ⟨d - 1, by omega⟩
  obtain ⟨cv, cs, ca, cp, cl, e0, e1, e2, e3, e4, e5⟩ := id hc
  obtain ⟨vs, us⟩ := q
  obtain ⟨q1, q2, q3⟩ := id hq
  simp only at e0 e1 q1 q2 q3 ha
  have hsp := spt_le (vs := vs) (v := v) (us - st.getD j 0) (st.getD j 0)
  refine XM.of (by decide +kernel) (Nat.le_of_ble_eq_true rfl) ?_
  generalize hsF : spt vs v (us - st.getD j 0) (st.getD j 0) = s at hsp
  have hno : ∀ r, adV (st.getD j 0) (vs, us) v = r → (s < us ∧ vs.getD s 0 = v) ∨ 356 ≤ us → r = (vs, us) := by
    intro r hr hz
    rw [← hr]
    unfold adV
    simp only [hsF]
    exact if_pos hz
  have hyes : ∀ r, adV (st.getD j 0) (vs, us) v = r → ¬ ((s < us ∧ vs.getD s 0 = v) ∨ 356 ≤ us) → r = (vs.take s ++ v :: ((vs.drop s).take (us - s) ++ vs.drop (us + 1)), us + 1) := by
    intro r hr hz
    rw [← hr]
    unfold adV
    simp only [hsF]
    exact if_neg hz
  generalize hr : adV (st.getD j 0) (vs, us) v = r at hno hyes ⊢
  have tail : ¬ (s < us ∧ vs.getD s 0 = v) → XW l G M_Choices_add (d + 1) 60 [some (.ref o), some (.long (lN v)), none, some (.int (nI j)), some (.int (nI s)), none] [] h c n (fun r' h' c' n' => r' = none ∧ isCh h' o r.1 r.2 st sa pk lv co ∧ xonly h h' [k_Choices, k_achv] ∧ c' = c ∧ n' = n) := by
    intro hz
    by_cases g3 : us < 356
    · rw [hyes r rfl (fun z => z.elim hz (by omega))]
      refine x_iconst (v := 0) d_Choices_add_60 (by decide) ?_
      refine x_istore (L' := [_, _, _, _, _, _]) d_Choices_add_61 rfl rfl ?_
      refine x_iload d_Choices_add_63 rfl ?_
      refine x_if_ne (tgt := 78) d_Choices_add_65 (by decide) (fun ht => absurd rfl ht) (fun _ => ?_)
      refine x_aload_n d_Choices_add_68 rfl rfl ?_
      refine x_get xf_Choices_15_Choices (Or.inl e0) rfl d_Choices_add_69 ?_
      refine x_sipush (v := 356) d_Choices_add_72 (by decide) ?_
      refine x_icmp_lt (tgt := 79) d_Choices_add_75 (by decide) (fun _ => ?_) (fun hn => absurd (nI_lt (b := 356) g3 (by omega)) hn)
      refine x_aload_n d_Choices_add_79 rfl rfl ?_
      refine x_get xf_Choices_11_Choices (Or.inl e0) rfl d_Choices_add_80 ?_
      refine x_iload d_Choices_add_83 rfl ?_
      refine x_aload_n d_Choices_add_85 rfl rfl ?_
      refine x_get xf_Choices_11_Choices (Or.inl e0) rfl d_Choices_add_86 ?_
      refine x_iload d_Choices_add_89 rfl ?_
      refine x_iconst (v := 1) d_Choices_add_91 (by decide) ?_
      refine x_iadd d_Choices_add_92 ?_
      refine x_top (w := .int (nI (s + 1))) (by rw [show (1 : Int32) = nI 1 from rfl, nI_add]) ?_
      refine x_aload_n d_Choices_add_93 rfl rfl ?_
      refine x_get xf_Choices_15_Choices (Or.inl e0) rfl d_Choices_add_94 ?_
      refine x_iload d_Choices_add_97 rfl ?_
      refine x_isub d_Choices_add_99 ?_
      refine x_top (w := .int (nI (us - s))) (by rw [pk_sub (by omega)]) ?_
      have hml : (vs.map (fun v => Value.long (lN v))).length = 356 := by rw [List.length_map]; exact q1
      refine x_copyP (k0 := k_achv) (k := k_achv) rfl rfl rfl xw_343 xw_220 xw_219 xw_12 (Or.inl e1) e1 (nI_pos (by omega)) (nI_pos (by omega)) (nI_pos (by omega)) (by rw [nI_clamp (by omega), nI_clamp (by omega), hml]; omega) (by rw [nI_clamp (by omega), nI_clamp (by omega), hml]; omega) (fun w hw => by obtain ⟨z, -, rfl⟩ := List.mem_map.mp hw; rfl) (Nat.le_of_ble_eq_true rfl) d_Choices_add_100 ?_
      have H0 : ∀ w, xup h cv w o = some (k_Choices, [.ref cv, .int (nI us), .ref cs, .ref ca, .ref cp, .ref cl, .int (nI co)]) := fun w => by rw [xup_ne (xne e0 e1 (by decide))]; exact e0
      refine x_aload_n d_Choices_add_103 rfl rfl ?_
      refine x_get xf_Choices_11_Choices (Or.inl (H0 _)) rfl d_Choices_add_104 ?_
      refine x_iload d_Choices_add_107 rfl ?_
      refine x_lload_n d_Choices_add_109 rfl ?_
      refine x_last (k := k_achv) rfl xup_self (nI_pos (by omega)) (List.getElem?_eq_getElem (by rw [xcopy_len (by rw [nI_clamp (by omega), nI_clamp (by omega), hml]; omega) (by rw [nI_clamp (by omega), nI_clamp (by omega), hml]; omega), nI_clamp (by omega), hml]; omega)) d_Choices_add_110 ?_
      refine x_hp (h' := xup h cv (k_achv, (vs.take s ++ v :: ((vs.drop s).take (us - s) ++ vs.drop (us + 1))).map (fun v => .long (lN v)))) (by rw [xup_up, nI_clamp (by omega), nI_clamp (by omega), nI_clamp (by omega), xcopy, adV_copy (f := fun v => Value.long (lN v)) (by omega) (by omega)]) ?_
      refine x_aload_n d_Choices_add_111 rfl rfl ?_
      refine x_dup d_Choices_add_112 rfl ?_
      refine x_get xf_Choices_15_Choices (Or.inl (H0 _)) rfl d_Choices_add_113 ?_
      refine x_iconst (v := 1) d_Choices_add_116 (by decide) ?_
      refine x_iadd d_Choices_add_117 ?_
      refine x_top (w := .int (nI (us + 1))) (by rw [show (1 : Int32) = nI 1 from rfl, nI_add]) ?_
      refine x_put xf_Choices_15_Choices xp_Choices_1 rfl rfl (H0 _) rfl rfl d_Choices_add_118 ?_
      refine x_vret d_Choices_add_121 rfl ?_
      refine ⟨rfl, ⟨cv, cs, ca, cp, cl, xup_self, ?_, ?_, ?_, ?_, ?_⟩, (xonly.up e1 (by simp)).tr (xonly.up (H0 _) (by simp)), rfl, rfl⟩
      · rw [xup_ne (xne e1 e0 (by decide)), xup_self]
      · rw [xup_ne (xne e2 e0 (by decide)), xup_ne (xne e2 e1 (by decide))]; exact e2
      · rw [xup_ne (xne e3 e0 (by decide)), xup_ne (xne e3 e1 (by decide))]; exact e3
      · rw [xup_ne (xne e4 e0 (by decide)), xup_ne (xne e4 e1 (by decide))]; exact e4
      · rw [xup_ne (xne e5 e0 (by decide)), xup_ne (xne e5 e1 (by decide))]; exact e5
    · rw [hno r rfl (Or.inr (by omega))]
      refine x_iconst (v := 0) d_Choices_add_60 (by decide) ?_
      refine x_istore (L' := [_, _, _, _, _, _]) d_Choices_add_61 rfl rfl ?_
      refine x_iload d_Choices_add_63 rfl ?_
      refine x_if_ne (tgt := 78) d_Choices_add_65 (by decide) (fun ht => absurd rfl ht) (fun _ => ?_)
      refine x_aload_n d_Choices_add_68 rfl rfl ?_
      refine x_get xf_Choices_15_Choices (Or.inl e0) rfl d_Choices_add_69 ?_
      refine x_sipush (v := 356) d_Choices_add_72 (by decide) ?_
      refine x_icmp_lt (tgt := 79) d_Choices_add_75 (by decide) (fun ht => absurd ht (nI_nlt (b := 356) (by omega) (by omega))) (fun _ => ?_)
      refine x_vret d_Choices_add_78 rfl ?_
      exact ⟨rfl, hc, xonly.rf, rfl, rfl⟩
  have fin : XW l G M_Choices_add (d + 1) 35 [some (.ref o), some (.long (lN v)), none, some (.int (nI j)), some (.int (nI s)), none] [] h c n (fun r' h' c' n' => r' = none ∧ isCh h' o r.1 r.2 st sa pk lv co ∧ xonly h h' [k_Choices, k_achv] ∧ c' = c ∧ n' = n) := by
    by_cases g1 : s < us
    · have hb := q3 s g1
      by_cases g2 : vs.getD s 0 = v
      · rw [hno r rfl (Or.inl ⟨g1, g2⟩)]
        refine x_iload d_Choices_add_35 rfl ?_
        refine x_aload_n d_Choices_add_37 rfl rfl ?_
        refine x_get xf_Choices_15_Choices (Or.inl e0) rfl d_Choices_add_38 ?_
        refine x_icmp_ge (tgt := 60) d_Choices_add_41 (by decide) (fun ht => absurd ht (nI_ge (by omega) (by omega))) (fun _ => ?_)
        refine x_aload_n d_Choices_add_44 rfl rfl ?_
        refine x_get xf_Choices_11_Choices (Or.inl e0) rfl d_Choices_add_45 ?_
        refine x_iload d_Choices_add_48 rfl ?_
        refine x_lald (k := k_achv) rfl (Or.inl e1) (nI_pos (by omega)) (by rw [nI_clamp (by omega)]; exact lvv_at (by omega)) d_Choices_add_50 ?_
        refine x_lload_n d_Choices_add_51 rfl ?_
        refine x_lcmp d_Choices_add_52 ?_
        refine x_if_ne (tgt := 60) d_Choices_add_53 (by decide) (fun ht => absurd ((lg_cmp_eq _ _).mpr (by rw [g2])) ht) (fun _ => ?_)
        refine x_iconst (v := 1) d_Choices_add_56 (by decide) ?_
        refine x_goto (tgt := 61) d_Choices_add_57 (by decide) ?_
        refine x_istore (L' := [_, _, _, _, _, _]) d_Choices_add_61 rfl rfl ?_
        refine x_iload d_Choices_add_63 rfl ?_
        refine x_if_ne (tgt := 78) d_Choices_add_65 (by decide) (fun _ => ?_) (fun hn => absurd hn (by decide))
        refine x_vret d_Choices_add_78 rfl ?_
        exact ⟨rfl, hc, xonly.rf, rfl, rfl⟩
      · refine x_iload d_Choices_add_35 rfl ?_
        refine x_aload_n d_Choices_add_37 rfl rfl ?_
        refine x_get xf_Choices_15_Choices (Or.inl e0) rfl d_Choices_add_38 ?_
        refine x_icmp_ge (tgt := 60) d_Choices_add_41 (by decide) (fun ht => absurd ht (nI_ge (by omega) (by omega))) (fun _ => ?_)
        refine x_aload_n d_Choices_add_44 rfl rfl ?_
        refine x_get xf_Choices_11_Choices (Or.inl e0) rfl d_Choices_add_45 ?_
        refine x_iload d_Choices_add_48 rfl ?_
        refine x_lald (k := k_achv) rfl (Or.inl e1) (nI_pos (by omega)) (by rw [nI_clamp (by omega)]; exact lvv_at (by omega)) d_Choices_add_50 ?_
        refine x_lload_n d_Choices_add_51 rfl ?_
        refine x_lcmp d_Choices_add_52 ?_
        refine x_if_ne (tgt := 60) d_Choices_add_53 (by decide) (fun _ => ?_) (fun hn => absurd hn (fun z => g2 ((pk_lEQ (by omega) (by omega)).mp ((lg_cmp_eq _ _).mp z))))
        exact tail (fun z => g2 z.2)
    · refine x_iload d_Choices_add_35 rfl ?_
      refine x_aload_n d_Choices_add_37 rfl rfl ?_
      refine x_get xf_Choices_15_Choices (Or.inl e0) rfl d_Choices_add_38 ?_
      refine x_icmp_ge (tgt := 60) d_Choices_add_41 (by decide) (fun _ => ?_) (fun hn => absurd (nI_le (by omega) (by omega)) hn)
      exact tail (fun z => g1 z.1)
  have lp : ∀ (k i : Nat), i + k = us → spt vs v k i = s → XW l G M_Choices_add (d + 1) 8 [some (.ref o), some (.long (lN v)), none, some (.int (nI j)), some (.int (nI i)), none] [] h c n (fun r' h' c' n' => r' = none ∧ isCh h' o r.1 r.2 st sa pk lv co ∧ xonly h h' [k_Choices, k_achv] ∧ c' = c ∧ n' = n) := by
    intro k
    induction k with
    | zero =>
      intro i hi he
      have hei : i = s := he
      subst hei
      refine x_iload d_Choices_add_8 rfl ?_
      refine x_aload_n d_Choices_add_10 rfl rfl ?_
      refine x_get xf_Choices_15_Choices (Or.inl e0) rfl d_Choices_add_11 ?_
      refine x_icmp_ge (tgt := 35) d_Choices_add_14 (by decide) (fun _ => ?_) (fun hn => absurd (nI_le (by omega) (by omega)) hn)
      exact fin
    | succ k ih =>
      intro i hi he
      have hb := q3 i (by omega)
      unfold spt at he
      by_cases g : vs.getD i 0 < v
      · rw [if_pos g] at he
        refine x_iload d_Choices_add_8 rfl ?_
        refine x_aload_n d_Choices_add_10 rfl rfl ?_
        refine x_get xf_Choices_15_Choices (Or.inl e0) rfl d_Choices_add_11 ?_
        refine x_icmp_ge (tgt := 35) d_Choices_add_14 (by decide) (fun ht => absurd ht (nI_ge (by omega) (by omega))) (fun _ => ?_)
        refine x_aload_n d_Choices_add_17 rfl rfl ?_
        refine x_get xf_Choices_11_Choices (Or.inl e0) rfl d_Choices_add_18 ?_
        refine x_iload d_Choices_add_21 rfl ?_
        refine x_lald (k := k_achv) rfl (Or.inl e1) (nI_pos (by omega)) (by rw [nI_clamp (by omega)]; exact lvv_at (by omega)) d_Choices_add_23 ?_
        refine x_lload_n d_Choices_add_24 rfl ?_
        refine x_lcmp d_Choices_add_25 ?_
        refine x_if_ge (tgt := 35) d_Choices_add_26 (by decide) (fun ht => absurd ht (fun z => absurd ((pk_lLE (by omega) (by omega)).mp ((lg_cmp_ge _ _).mp z)) (by omega))) (fun _ => ?_)
        refine x_iinc (v := nI (i + 1)) (L' := [_, _, _, _, _, _]) d_Choices_add_29 rfl (by exact xw_iinc1) rfl rfl ?_
        refine x_goto (tgt := 8) d_Choices_add_32 (by decide) ?_
        exact ih (i + 1) (by omega) he
      · rw [if_neg g] at he
        subst he
        refine x_iload d_Choices_add_8 rfl ?_
        refine x_aload_n d_Choices_add_10 rfl rfl ?_
        refine x_get xf_Choices_15_Choices (Or.inl e0) rfl d_Choices_add_11 ?_
        refine x_icmp_ge (tgt := 35) d_Choices_add_14 (by decide) (fun ht => absurd ht (nI_ge (by omega) (by omega))) (fun _ => ?_)
        refine x_aload_n d_Choices_add_17 rfl rfl ?_
        refine x_get xf_Choices_11_Choices (Or.inl e0) rfl d_Choices_add_18 ?_
        refine x_iload d_Choices_add_21 rfl ?_
        refine x_lald (k := k_achv) rfl (Or.inl e1) (nI_pos (by omega)) (by rw [nI_clamp (by omega)]; exact lvv_at (by omega)) d_Choices_add_23 ?_
        refine x_lload_n d_Choices_add_24 rfl ?_
        refine x_lcmp d_Choices_add_25 ?_
        refine x_if_ge (tgt := 35) d_Choices_add_26 (by decide) (fun _ => ?_) (fun hn => absurd ((lg_cmp_ge _ _).mpr ((pk_lLE (by omega) (by omega)).mpr (by omega))) hn)
        exact fin
  refine x_aload_n d_Choices_add_0 rfl rfl ?_
  refine x_get xf_Choices_19_Choices (Or.inl e0) rfl d_Choices_add_1 ?_
  refine x_iload_n d_Choices_add_4 rfl ?_
  refine x_iald (k := k_astarts) rfl (Or.inl e2) (nI_pos (by omega)) (by rw [nI_clamp (by omega)]; exact iv_at (by omega)) d_Choices_add_5 ?_
  refine x_istore (L' := [_, _, _, _, _, _]) d_Choices_add_6 rfl rfl ?_
  exact lp (us - st.getD j 0) (st.getD j 0) (by omega) hsF
end CH6
