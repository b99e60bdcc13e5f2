section
abbrev y_Parting_countIn : MethodName := ⟨"MarkerText$Parting", "countIn", "(II)V"⟩
abbrev M_Parting_countIn : XMt := (y_Parting_countIn, prog_9_method_3_code, 4, none)
theorem d_Parting_countIn_81 : decode M_Parting_countIn.2.1 81 = .ok (.aload_n 0, 1) := by decide +kernel
theorem d_Parting_countIn_82 : decode M_Parting_countIn.2.1 82 = .ok (.getfield 25, 3) := by decide +kernel
theorem d_Parting_countIn_85 : decode M_Parting_countIn.2.1 85 = .ok (.iload_n 1, 1) := by decide +kernel
theorem d_Parting_countIn_86 : decode M_Parting_countIn.2.1 86 = .ok (.iaload, 1) := by decide +kernel
theorem d_Parting_countIn_87 : decode M_Parting_countIn.2.1 87 = .ok (.iconst 1, 1) := by decide +kernel
theorem d_Parting_countIn_88 : decode M_Parting_countIn.2.1 88 = .ok (.isub, 1) := by decide +kernel
theorem d_Parting_countIn_89 : decode M_Parting_countIn.2.1 89 = .ok (.istore_n 3, 1) := by decide +kernel
theorem d_Parting_countIn_90 : decode M_Parting_countIn.2.1 90 = .ok (.aload_n 0, 1) := by decide +kernel
theorem d_Parting_countIn_91 : decode M_Parting_countIn.2.1 91 = .ok (.iload_n 3, 1) := by decide +kernel
theorem d_Parting_countIn_92 : decode M_Parting_countIn.2.1 92 = .ok (.invokevirtual 57, 3) := by decide +kernel
theorem d_Parting_countIn_95 : decode M_Parting_countIn.2.1 95 = .ok (.ifCond .eq 13, 3) := by decide +kernel
theorem d_Parting_countIn_98 : decode M_Parting_countIn.2.1 98 = .ok (.aload_n 0, 1) := by decide +kernel
theorem d_Parting_countIn_99 : decode M_Parting_countIn.2.1 99 = .ok (.getfield 19, 3) := by decide +kernel
theorem d_Parting_countIn_102 : decode M_Parting_countIn.2.1 102 = .ok (.iload_n 3, 1) := by decide +kernel
theorem d_Parting_countIn_103 : decode M_Parting_countIn.2.1 103 = .ok (.dup2, 1) := by decide +kernel
theorem d_Parting_countIn_104 : decode M_Parting_countIn.2.1 104 = .ok (.iaload, 1) := by decide +kernel
theorem d_Parting_countIn_105 : decode M_Parting_countIn.2.1 105 = .ok (.iconst 1, 1) := by decide +kernel
theorem d_Parting_countIn_106 : decode M_Parting_countIn.2.1 106 = .ok (.iadd, 1) := by decide +kernel
theorem d_Parting_countIn_107 : decode M_Parting_countIn.2.1 107 = .ok (.iastore, 1) := by decide +kernel
theorem d_Parting_countIn_108 : decode M_Parting_countIn.2.1 108 = .ok (.return_, 1) := by decide +kernel
theorem d_Parting_countIn_0 : decode M_Parting_countIn.2.1 0 = .ok (.iload_n 1, 1) := by decide +kernel
theorem d_Parting_countIn_1 : decode M_Parting_countIn.2.1 1 = .ok (.ifCond .lt 10, 3) := by decide +kernel
theorem d_Parting_countIn_4 : decode M_Parting_countIn.2.1 4 = .ok (.iload_n 1, 1) := by decide +kernel
theorem d_Parting_countIn_5 : decode M_Parting_countIn.2.1 5 = .ok (.sipush 256, 3) := by decide +kernel
theorem d_Parting_countIn_8 : decode M_Parting_countIn.2.1 8 = .ok (.if_icmp .lt 4, 3) := by decide +kernel
theorem d_Parting_countIn_12 : decode M_Parting_countIn.2.1 12 = .ok (.aload_n 0, 1) := by decide +kernel
theorem d_Parting_countIn_13 : decode M_Parting_countIn.2.1 13 = .ok (.getfield 25, 3) := by decide +kernel
theorem d_Parting_countIn_16 : decode M_Parting_countIn.2.1 16 = .ok (.iload_n 1, 1) := by decide +kernel
theorem d_Parting_countIn_17 : decode M_Parting_countIn.2.1 17 = .ok (.iaload, 1) := by decide +kernel
theorem d_Parting_countIn_18 : decode M_Parting_countIn.2.1 18 = .ok (.ifCond .ne 63, 3) := by decide +kernel
theorem d_Parting_countIn_21 : decode M_Parting_countIn.2.1 21 = .ok (.aload_n 0, 1) := by decide +kernel
theorem d_Parting_countIn_22 : decode M_Parting_countIn.2.1 22 = .ok (.getfield 9, 3) := by decide +kernel
theorem d_Parting_countIn_25 : decode M_Parting_countIn.2.1 25 = .ok (.sipush 256, 3) := by decide +kernel
theorem d_Parting_countIn_28 : decode M_Parting_countIn.2.1 28 = .ok (.if_icmp .ge 53, 3) := by decide +kernel
theorem d_Parting_countIn_31 : decode M_Parting_countIn.2.1 31 = .ok (.aload_n 0, 1) := by decide +kernel
theorem d_Parting_countIn_32 : decode M_Parting_countIn.2.1 32 = .ok (.getfield 15, 3) := by decide +kernel
theorem d_Parting_countIn_35 : decode M_Parting_countIn.2.1 35 = .ok (.aload_n 0, 1) := by decide +kernel
theorem d_Parting_countIn_36 : decode M_Parting_countIn.2.1 36 = .ok (.getfield 9, 3) := by decide +kernel
theorem d_Parting_countIn_39 : decode M_Parting_countIn.2.1 39 = .ok (.iload_n 1, 1) := by decide +kernel
theorem d_Parting_countIn_40 : decode M_Parting_countIn.2.1 40 = .ok (.iastore, 1) := by decide +kernel
theorem d_Parting_countIn_41 : decode M_Parting_countIn.2.1 41 = .ok (.aload_n 0, 1) := by decide +kernel
theorem d_Parting_countIn_42 : decode M_Parting_countIn.2.1 42 = .ok (.getfield 19, 3) := by decide +kernel
theorem d_Parting_countIn_45 : decode M_Parting_countIn.2.1 45 = .ok (.aload_n 0, 1) := by decide +kernel
theorem d_Parting_countIn_46 : decode M_Parting_countIn.2.1 46 = .ok (.getfield 9, 3) := by decide +kernel
theorem d_Parting_countIn_49 : decode M_Parting_countIn.2.1 49 = .ok (.iconst 0, 1) := by decide +kernel
theorem d_Parting_countIn_50 : decode M_Parting_countIn.2.1 50 = .ok (.iastore, 1) := by decide +kernel
theorem d_Parting_countIn_51 : decode M_Parting_countIn.2.1 51 = .ok (.aload_n 0, 1) := by decide +kernel
theorem d_Parting_countIn_52 : decode M_Parting_countIn.2.1 52 = .ok (.getfield 22, 3) := by decide +kernel
theorem d_Parting_countIn_55 : decode M_Parting_countIn.2.1 55 = .ok (.aload_n 0, 1) := by decide +kernel
theorem d_Parting_countIn_56 : decode M_Parting_countIn.2.1 56 = .ok (.getfield 9, 3) := by decide +kernel
theorem d_Parting_countIn_59 : decode M_Parting_countIn.2.1 59 = .ok (.iload_n 2, 1) := by decide +kernel
theorem d_Parting_countIn_60 : decode M_Parting_countIn.2.1 60 = .ok (.iastore, 1) := by decide +kernel
theorem d_Parting_countIn_61 : decode M_Parting_countIn.2.1 61 = .ok (.aload_n 0, 1) := by decide +kernel
theorem d_Parting_countIn_62 : decode M_Parting_countIn.2.1 62 = .ok (.dup, 1) := by decide +kernel
theorem d_Parting_countIn_63 : decode M_Parting_countIn.2.1 63 = .ok (.getfield 9, 3) := by decide +kernel
theorem d_Parting_countIn_66 : decode M_Parting_countIn.2.1 66 = .ok (.iconst 1, 1) := by decide +kernel
theorem d_Parting_countIn_67 : decode M_Parting_countIn.2.1 67 = .ok (.iadd, 1) := by decide +kernel
theorem d_Parting_countIn_68 : decode M_Parting_countIn.2.1 68 = .ok (.putfield 9, 3) := by decide +kernel
theorem d_Parting_countIn_71 : decode M_Parting_countIn.2.1 71 = .ok (.aload_n 0, 1) := by decide +kernel
theorem d_Parting_countIn_72 : decode M_Parting_countIn.2.1 72 = .ok (.getfield 25, 3) := by decide +kernel
theorem d_Parting_countIn_75 : decode M_Parting_countIn.2.1 75 = .ok (.iload_n 1, 1) := by decide +kernel
theorem d_Parting_countIn_76 : decode M_Parting_countIn.2.1 76 = .ok (.aload_n 0, 1) := by decide +kernel
theorem d_Parting_countIn_77 : decode M_Parting_countIn.2.1 77 = .ok (.getfield 9, 3) := by decide +kernel
theorem d_Parting_countIn_80 : decode M_Parting_countIn.2.1 80 = .ok (.iastore, 1) := by decide +kernel
end
section PA2
theorem mem_set' {us : List Nat} {i x : Nat} {P : Nat → Prop} (h : ∀ v ∈ us, P v) (hx : P x) : ∀ v ∈ us.set i x, P v := fun v hv => by
  rcases List.mem_or_eq_of_mem_set hv with q | rfl
  · exact h v q
  · exact hx
theorem getD_le {us : List Nat} {P : Nat → Prop} (h : ∀ v ∈ us, P v) (h0 : P 0) (i : Nat) : P (us.getD i 0) := by
  rw [List.getD_eq_getElem?_getD]
  by_cases hi : i < us.length
  · rw [List.getElem?_eq_getElem hi]
    exact h _ (List.getElem_mem hi)
  · rw [List.getElem?_eq_none (by omega)]
    exact h0
/-- a new class -/
def cin1 (p : PtT) (b ch : Nat) : PtT := if p.2.2.2.2.1.getD b 0 = 0 ∧ p.1 < 256 then (p.1 + 1, p.2.1.set p.1 b, p.2.2.1.set p.1 0, p.2.2.2.1.set p.1 ch, p.2.2.2.2.1.set b (p.1 + 1), p.2.2.2.2.2) else p
/-- a CHOICE more in a class -/
def cin2 (p : PtT) (k : Nat) : PtT := (p.1, p.2.1, p.2.2.1.set k (p.2.2.1.getD k 0 + 1), p.2.2.2)
/-- a CHOICE goes to its class -/
def cin (p : PtT) (b ch : Nat) : PtT := if 1 ≤ (cin1 p b ch).2.2.2.2.1.getD b 0 then cin2 (cin1 p b ch) ((cin1 p b ch).2.2.2.2.1.getD b 0 - 1) else cin1 p b ch
theorem cin1_ok {p : PtT} {b ch i : Nat} (hP : okP p) (hs : ∀ k, k < p.1 → p.2.2.1.getD k 0 ≤ i) (hb : b < 256) (hc : ch < 20000) : okP (cin1 p b ch) ∧ ∀ k, k < (cin1 p b ch).1 → (cin1 p b ch).2.2.1.getD k 0 ≤ i := by
  unfold cin1
  split
  · rename_i hz
    obtain ⟨p1, p2, p3, p4, p5, p6, p7, p8, p9, p10, p11⟩ := hP
    refine ⟨⟨hz.2, by simp [p2], by simp [p3], by simp [p4], by simp [p5], p6, mem_set' p7 hb, mem_set' p8 (by decide), mem_set' p9 hc, mem_set' (fun v hv => Nat.le_succ_of_le (p10 v hv)) (Nat.le_refl _), p11⟩, fun k hk => ?_⟩
    have hk' : k < p.1 + 1 := hk
    show (p.2.2.1.set p.1 0).getD k 0 ≤ i
    rw [getD_set (by omega)]
    split
    · omega
    · exact hs k (by omega)
  · exact ⟨hP, hs⟩
theorem cin_ok {p : PtT} {b ch i : Nat} (hP : okP p) (hs : ∀ k, k < p.1 → p.2.2.1.getD k 0 ≤ i) (hb : b < 256) (hc : ch < 20000) (hi : i < 20000) : okP (cin p b ch) ∧ ∀ k, k < (cin p b ch).1 → (cin p b ch).2.2.1.getD k 0 ≤ i + 1 := by
  obtain ⟨g1, g2⟩ := cin1_ok (i := i) hP hs hb hc
  unfold cin
  generalize cin1 p b ch = p at g1 g2
  split
  · rename_i hz
    obtain ⟨p1, p2, p3, p4, p5, p6, p7, p8, p9, p10, p11⟩ := g1
    have hk := getD_le (P := fun v => v ≤ p.1) p10 (Nat.zero_le _) b
    have hs' := g2 (p.2.2.2.2.1.getD b 0 - 1) (by omega)
    refine ⟨⟨p1, p2, by show (p.2.2.1.set _ _).length = 256; simp [p3], p4, p5, p6, p7, mem_set' p8 (by omega), p9, p10, p11⟩, fun k hk' => ?_⟩
    have hk2 : k < p.1 := hk'
    have := g2 k hk2
    show (p.2.2.1.set _ _).getD k 0 ≤ i + 1
    rw [getD_set (by omega)]
    split
    · omega
    · omega
  · exact ⟨g1, fun k hk => Nat.le_succ_of_le (g2 k hk)⟩
variable {l : Launch} {G : XG} {h : XH} {c n d : Nat}
/-- the PARTING with the places of its rows -/
def paP (h : XH) (o pt ps pf pc pa : Nat) (p : PtT) : Prop := h o = some (k_Parting, [.int (nI p.1), .ref pt, .ref ps, .ref pf, .ref pc, .ref pa]) ∧ h pt = some (k_aptr, xiv p.2.1) ∧ h ps = some (k_apsz, xiv p.2.2.1) ∧ h pf = some (k_apfi, xiv p.2.2.2.1) ∧ h pc = some (k_apcl, xiv p.2.2.2.2.1) ∧ h pa = some (k_apsa, xiv p.2.2.2.2.2)
section
variable {o pt ps pf pc pa : Nat} {p : PtT} {v : Nat} {us : List Nat}
theorem paP.ob (hp : paP h o pt ps pf pc pa p) : paP (xup h o (k_Parting, [.int (nI v), .ref pt, .ref ps, .ref pf, .ref pc, .ref pa])) o pt ps pf pc pa (v, p.2) ∧ ∀ e, xonly h (xup h o e) kPa := by
  obtain ⟨e0, e1, e2, e3, e4, e5⟩ := hp
  exact ⟨⟨xup_self, by rw [xup_ne (xne e1 e0 (by decide))]; exact e1, by rw [xup_ne (xne e2 e0 (by decide))]; exact e2, by rw [xup_ne (xne e3 e0 (by decide))]; exact e3, by rw [xup_ne (xne e4 e0 (by decide))]; exact e4, by rw [xup_ne (xne e5 e0 (by decide))]; exact e5⟩, fun e => xonly.up e0 (by decide)⟩
theorem paP.tr (hp : paP h o pt ps pf pc pa p) : paP (xup h pt (k_aptr, xiv us)) o pt ps pf pc pa (p.1, us, p.2.2) ∧ ∀ e, xonly h (xup h pt e) kPa := by
  obtain ⟨e0, e1, e2, e3, e4, e5⟩ := hp
  exact ⟨⟨by rw [xup_ne (xne e0 e1 (by decide))]; exact e0, xup_self, by rw [xup_ne (xne e2 e1 (by decide))]; exact e2, by rw [xup_ne (xne e3 e1 (by decide))]; exact e3, by rw [xup_ne (xne e4 e1 (by decide))]; exact e4, by rw [xup_ne (xne e5 e1 (by decide))]; exact e5⟩, fun e => xonly.up e1 (by decide)⟩
theorem paP.sz (hp : paP h o pt ps pf pc pa p) : paP (xup h ps (k_apsz, xiv us)) o pt ps pf pc pa (p.1, p.2.1, us, p.2.2.2) ∧ ∀ e, xonly h (xup h ps e) kPa := by
  obtain ⟨e0, e1, e2, e3, e4, e5⟩ := hp
  exact ⟨⟨by rw [xup_ne (xne e0 e2 (by decide))]; exact e0, by rw [xup_ne (xne e1 e2 (by decide))]; exact e1, xup_self, by rw [xup_ne (xne e3 e2 (by decide))]; exact e3, by rw [xup_ne (xne e4 e2 (by decide))]; exact e4, by rw [xup_ne (xne e5 e2 (by decide))]; exact e5⟩, fun e => xonly.up e2 (by decide)⟩
theorem paP.fi (hp : paP h o pt ps pf pc pa p) : paP (xup h pf (k_apfi, xiv us)) o pt ps pf pc pa (p.1, p.2.1, p.2.2.1, us, p.2.2.2.2) ∧ ∀ e, xonly h (xup h pf e) kPa := by
  obtain ⟨e0, e1, e2, e3, e4, e5⟩ := hp
  exact ⟨⟨by rw [xup_ne (xne e0 e3 (by decide))]; exact e0, by rw [xup_ne (xne e1 e3 (by decide))]; exact e1, by rw [xup_ne (xne e2 e3 (by decide))]; exact e2, xup_self, by rw [xup_ne (xne e4 e3 (by decide))]; exact e4, by rw [xup_ne (xne e5 e3 (by decide))]; exact e5⟩, fun e => xonly.up e3 (by decide)⟩
theorem paP.cl (hp : paP h o pt ps pf pc pa p) : paP (xup h pc (k_apcl, xiv us)) o pt ps pf pc pa (p.1, p.2.1, p.2.2.1, p.2.2.2.1, us, p.2.2.2.2.2) ∧ ∀ e, xonly h (xup h pc e) kPa := by
  obtain ⟨e0, e1, e2, e3, e4, e5⟩ := hp
  exact ⟨⟨by rw [xup_ne (xne e0 e4 (by decide))]; exact e0, by rw [xup_ne (xne e1 e4 (by decide))]; exact e1, by rw [xup_ne (xne e2 e4 (by decide))]; exact e2, by rw [xup_ne (xne e3 e4 (by decide))]; exact e3, xup_self, by rw [xup_ne (xne e5 e4 (by decide))]; exact e5⟩, fun e => xonly.up e4 (by decide)⟩
theorem paP.sa (hp : paP h o pt ps pf pc pa p) : paP (xup h pa (k_apsa, xiv us)) o pt ps pf pc pa (p.1, p.2.1, p.2.2.1, p.2.2.2.1, p.2.2.2.2.1, us) ∧ ∀ e, xonly h (xup h pa e) kPa := by
  obtain ⟨e0, e1, e2, e3, e4, e5⟩ := hp
  exact ⟨⟨by rw [xup_ne (xne e0 e5 (by decide))]; exact e0, by rw [xup_ne (xne e1 e5 (by decide))]; exact e1, by rw [xup_ne (xne e2 e5 (by decide))]; exact e2, by rw [xup_ne (xne e3 e5 (by decide))]; exact e3, by rw [xup_ne (xne e4 e5 (by decide))]; exact e4, xup_self⟩, fun e => xonly.up e5 (by decide)⟩
end
theorem c_countIn (hd : 1 ≤ d) {o b ch i : Nat} {p : PtT} (hp : isPa h o p) (hP : okP p) (hs : ∀ k, k < p.1 → p.2.2.1.getD k 0 ≤ i) (hb : b < 256) (hc : ch < 20000) (hi : i < 20000) : XM l G d M_Parting_countIn [.ref o, .int (nI b), .int (nI ch)] h c n (fun v h' c' n' => v = none ∧ isPa h' o (cin p b ch) ∧ xonly h h' kPa ∧ c' = c ∧ n' = n) := by
  obtain ⟨d, rfl⟩ : ∃ q, d = q + 1 := ⟨d - 1, by omega⟩
  obtain ⟨pt, ps, pf, pc, pa, hp⟩ := hp
  have hp : paP h o pt ps pf pc pa p := hp
  obtain ⟨q1, q2⟩ := cin1_ok hP hs hb hc
  obtain ⟨P1, P2, P3, P4, P5, P6, P7, P8, P9, P10, P11⟩ := id hP
  refine XM.of (by decide +kernel) (Nat.le_of_ble_eq_true rfl) ?_
  have fin : ∀ (h1 : XH), paP h1 o pt ps pf pc pa (cin1 p b ch) → xonly h h1 kPa → XW l G M_Parting_countIn (d + 1) 81 [some (.ref o), some (.int (nI b)), some (.int (nI ch)), none] [] h1 c n (fun v h' c' n' => v = none ∧ isPa h' o (cin p b ch) ∧ xonly h h' kPa ∧ c' = c ∧ n' = n) := by
    intro h1 hp1 hx1
    have hcn : cin p b ch = if 1 ≤ (cin1 p b ch).2.2.2.2.1.getD b 0 then cin2 (cin1 p b ch) ((cin1 p b ch).2.2.2.2.1.getD b 0 - 1) else cin1 p b ch := rfl
    rw [hcn]
    generalize cin1 p b ch = p at hp1 q1 q2
    obtain ⟨P1, P2, P3, P4, P5, P6, P7, P8, P9, P10, P11⟩ := id q1
    have hcl := getD_le (P := fun v => v ≤ p.1) P10 (Nat.zero_le _) b
    have hpi : isPa h1 o p := ⟨pt, ps, pf, pc, pa, hp1⟩
    refine x_aload_n d_Parting_countIn_81 rfl rfl ?_
    refine x_get xf_Parting_25_Parting (Or.inl hp1.1) rfl d_Parting_countIn_82 ?_
    refine x_iload_n d_Parting_countIn_85 rfl ?_
    refine x_iald (k := k_apcl) rfl (Or.inl hp1.2.2.2.2.1) (nI_pos (by omega)) (by rw [nI_clamp (by omega)]; exact iv_at (by omega)) d_Parting_countIn_86 ?_
    refine x_iconst (v := 1) d_Parting_countIn_87 (by decide) ?_
    by_cases g : 1 ≤ p.2.2.2.2.1.getD b 0
    · rw [if_pos g]
      have hsz := q2 (p.2.2.2.2.1.getD b 0 - 1) (by omega)
      generalize hk : p.2.2.2.2.1.getD b 0 - 1 = k at hsz
      refine x_isub d_Parting_countIn_88 ?_
      refine x_top (w := .int (nI k)) (by rw [show (1 : Int32) = nI 1 from rfl, pk_sub (by omega), hk]) ?_
      refine x_istore_n (L' := [_, _, _, _]) d_Parting_countIn_89 rfl rfl ?_
      refine x_aload_n d_Parting_countIn_90 rfl rfl ?_
      refine x_iload_n d_Parting_countIn_91 rfl ?_
      refine x_callV (As := [_]) (k := k_Parting) rfl xcv_Parting_57_Parting (Or.inl hp1.1) (c_has hpi q1) rfl rfl (Nat.le_of_ble_eq_true rfl) d_Parting_countIn_92 ?_
      rintro v h2 c2 n2 ⟨rfl, rfl, rfl, rfl⟩
      rw [hasK_nI (by omega), decide_eq_true (by omega : k < p.1)]
      refine x_if_eq (tgt := 108) d_Parting_countIn_95 (by decide) (fun ht => absurd ht (by decide)) (fun _ => ?_)
      refine x_aload_n d_Parting_countIn_98 rfl rfl ?_
      refine x_get xf_Parting_19_Parting (Or.inl hp1.1) rfl d_Parting_countIn_99 ?_
      refine x_iload_n d_Parting_countIn_102 rfl ?_
      refine x_dup2_11 d_Parting_countIn_103 rfl rfl ?_
      refine x_iald (k := k_apsz) rfl (Or.inl hp1.2.2.1) (nI_pos (by omega)) (by rw [nI_clamp (by omega)]; exact iv_at (by omega)) d_Parting_countIn_104 ?_
      refine x_iconst (v := 1) d_Parting_countIn_105 (by decide) ?_
      refine x_iadd d_Parting_countIn_106 ?_
      refine x_top (w := .int (nI (p.2.2.1.getD k 0 + 1))) (by rw [show (1 : Int32) = nI 1 from rfl, nI_add]) ?_
      refine x_iast (k := k_apsz) rfl hp1.2.2.1 (nI_pos (by omega)) (by rw [nI_clamp (by omega)]; exact iv_at (by omega)) d_Parting_countIn_107 ?_
      refine x_hp (h' := xup h2 ps (k_apsz, xiv (p.2.2.1.set k (p.2.2.1.getD k 0 + 1)))) (by rw [nI_clamp (by omega), xiv_set]) ?_
      obtain ⟨hp3, hx3⟩ := hp1.sz (us := p.2.2.1.set k (p.2.2.1.getD k 0 + 1))
      refine x_vret d_Parting_countIn_108 rfl ?_
      exact ⟨rfl, ⟨pt, ps, pf, pc, pa, hp3⟩, hx1.tr (hx3 _), rfl, rfl⟩
    · rw [if_neg g, show p.2.2.2.2.1.getD b 0 = 0 by omega]
      refine x_isub d_Parting_countIn_88 ?_
      refine x_top (w := .int (-1)) (by decide) ?_
      refine x_istore_n (L' := [_, _, _, _]) d_Parting_countIn_89 rfl rfl ?_
      refine x_aload_n d_Parting_countIn_90 rfl rfl ?_
      refine x_iload_n d_Parting_countIn_91 rfl ?_
      refine x_callV (As := [_]) (k := k_Parting) rfl xcv_Parting_57_Parting (Or.inl hp1.1) (c_has hpi q1) rfl rfl (Nat.le_of_ble_eq_true rfl) d_Parting_countIn_92 ?_
      rintro v h2 c2 n2 ⟨rfl, rfl, rfl, rfl⟩
      rw [hasK_lt (by decide)]
      refine x_if_eq (tgt := 108) d_Parting_countIn_95 (by decide) (fun _ => ?_) (fun hn => absurd rfl hn)
      refine x_vret d_Parting_countIn_108 rfl ?_
      exact ⟨rfl, ⟨pt, ps, pf, pc, pa, hp1⟩, hx1, rfl, rfl⟩
  have hc1 : cin1 p b ch = if p.2.2.2.2.1.getD b 0 = 0 ∧ p.1 < 256 then (p.1 + 1, p.2.1.set p.1 b, p.2.2.1.set p.1 0, p.2.2.2.1.set p.1 ch, p.2.2.2.2.1.set b (p.1 + 1), p.2.2.2.2.2) else p := rfl
  have hcl := getD_le (P := fun v => v ≤ p.1) P10 (Nat.zero_le _) b
  by_cases g1 : p.2.2.2.2.1.getD b 0 = 0
  · by_cases g2 : p.1 < 256
    · rw [if_pos ⟨g1, g2⟩] at hc1
      rw [hc1] at fin
      refine x_iload_n d_Parting_countIn_0 rfl ?_
      refine x_if_lt (tgt := 11) d_Parting_countIn_1 (by decide) (fun ht => absurd ht (nI_pos (by omega))) (fun _ => ?_)
      refine x_iload_n d_Parting_countIn_4 rfl ?_
      refine x_sipush (v := 256) d_Parting_countIn_5 (by decide) ?_
      refine x_icmp_lt (tgt := 12) d_Parting_countIn_8 (by decide) (fun _ => ?_) (fun hn => absurd (nI_lt (b := 256) hb (by omega)) hn)
      refine x_aload_n d_Parting_countIn_12 rfl rfl ?_
      refine x_get xf_Parting_25_Parting (Or.inl hp.1) rfl d_Parting_countIn_13 ?_
      refine x_iload_n d_Parting_countIn_16 rfl ?_
      refine x_iald (k := k_apcl) rfl (Or.inl hp.2.2.2.2.1) (nI_pos (by omega)) (by rw [nI_clamp (by omega)]; exact iv_at (by omega)) d_Parting_countIn_17 ?_
      refine x_if_ne (tgt := 81) d_Parting_countIn_18 (by decide) (fun ht => absurd (by rw [g1]; rfl) ht) (fun _ => ?_)
      refine x_aload_n d_Parting_countIn_21 rfl rfl ?_
      refine x_get xf_Parting_9_Parting (Or.inl hp.1) rfl d_Parting_countIn_22 ?_
      refine x_sipush (v := 256) d_Parting_countIn_25 (by decide) ?_
      refine x_icmp_ge (tgt := 81) d_Parting_countIn_28 (by decide) (fun ht => absurd ht (nI_ge (b := 256) (by omega) (by omega))) (fun _ => ?_)
      refine x_aload_n d_Parting_countIn_31 rfl rfl ?_
      refine x_get xf_Parting_15_Parting (Or.inl hp.1) rfl d_Parting_countIn_32 ?_
      refine x_aload_n d_Parting_countIn_35 rfl rfl ?_
      refine x_get xf_Parting_9_Parting (Or.inl hp.1) rfl d_Parting_countIn_36 ?_
      refine x_iload_n d_Parting_countIn_39 rfl ?_
      refine x_iast (k := k_aptr) rfl hp.2.1 (nI_pos (by omega)) (by rw [nI_clamp (by omega)]; exact iv_at (by omega)) d_Parting_countIn_40 ?_
      refine x_hp (h' := xup h pt (k_aptr, xiv (p.2.1.set p.1 b))) (by rw [nI_clamp (by omega), xiv_set]) ?_
      obtain ⟨hp1, hx1⟩ := hp.tr (us := p.2.1.set p.1 b)
      replace hx1 := hx1 (k_aptr, xiv (p.2.1.set p.1 b))
      generalize xup h pt (k_aptr, xiv (p.2.1.set p.1 b)) = h1 at hp1 hx1
      refine x_aload_n d_Parting_countIn_41 rfl rfl ?_
      refine x_get xf_Parting_19_Parting (Or.inl hp1.1) rfl d_Parting_countIn_42 ?_
      refine x_aload_n d_Parting_countIn_45 rfl rfl ?_
      refine x_get xf_Parting_9_Parting (Or.inl hp1.1) rfl d_Parting_countIn_46 ?_
      refine x_iconst (v := 0) d_Parting_countIn_49 (by decide) ?_
      refine x_iast (k := k_apsz) rfl hp1.2.2.1 (nI_pos (by omega)) (by rw [nI_clamp (by omega)]; exact iv_at (us := p.2.2.1) (by omega)) d_Parting_countIn_50 ?_
      refine x_hp (h' := xup h1 ps (k_apsz, xiv (p.2.2.1.set p.1 0))) (by rw [nI_clamp (by omega), show (Value.int 0) = .int (nI 0) from rfl, xiv_set]) ?_
      obtain ⟨hp2, hx2⟩ := hp1.sz (us := p.2.2.1.set p.1 0)
      replace hx2 := hx1.tr (hx2 (k_apsz, xiv (p.2.2.1.set p.1 0)))
      generalize xup h1 ps (k_apsz, xiv (p.2.2.1.set p.1 0)) = h2 at hp2 hx2
      refine x_aload_n d_Parting_countIn_51 rfl rfl ?_
      refine x_get xf_Parting_22_Parting (Or.inl hp2.1) rfl d_Parting_countIn_52 ?_
      refine x_aload_n d_Parting_countIn_55 rfl rfl ?_
      refine x_get xf_Parting_9_Parting (Or.inl hp2.1) rfl d_Parting_countIn_56 ?_
      refine x_iload_n d_Parting_countIn_59 rfl ?_
      refine x_iast (k := k_apfi) rfl hp2.2.2.2.1 (nI_pos (by omega)) (by rw [nI_clamp (by omega)]; exact iv_at (us := p.2.2.2.1) (by omega)) d_Parting_countIn_60 ?_
      refine x_hp (h' := xup h2 pf (k_apfi, xiv (p.2.2.2.1.set p.1 ch))) (by rw [nI_clamp (by omega), xiv_set]) ?_
      obtain ⟨hp3, hx3⟩ := hp2.fi (us := p.2.2.2.1.set p.1 ch)
      replace hx3 := hx2.tr (hx3 (k_apfi, xiv (p.2.2.2.1.set p.1 ch)))
      generalize xup h2 pf (k_apfi, xiv (p.2.2.2.1.set p.1 ch)) = h3 at hp3 hx3
      refine x_aload_n d_Parting_countIn_61 rfl rfl ?_
      refine x_dup d_Parting_countIn_62 rfl ?_
      refine x_get xf_Parting_9_Parting (Or.inl hp3.1) rfl d_Parting_countIn_63 ?_
      refine x_iconst (v := 1) d_Parting_countIn_66 (by decide) ?_
      refine x_iadd d_Parting_countIn_67 ?_
      refine x_top (w := .int (nI (p.1 + 1))) (by rw [show (1 : Int32) = nI 1 from rfl, nI_add]) ?_
      refine x_put xf_Parting_9_Parting xp_Parting_0 rfl rfl hp3.1 rfl rfl d_Parting_countIn_68 ?_
      obtain ⟨hp4, hx4⟩ := hp3.ob (v := p.1 + 1)
      refine x_aload_n d_Parting_countIn_71 rfl rfl ?_
      refine x_get xf_Parting_25_Parting (Or.inl hp4.1) rfl d_Parting_countIn_72 ?_
      refine x_iload_n d_Parting_countIn_75 rfl ?_
      refine x_aload_n d_Parting_countIn_76 rfl rfl ?_
      refine x_get xf_Parting_9_Parting (Or.inl hp4.1) rfl d_Parting_countIn_77 ?_
      refine x_iast (k := k_apcl) rfl hp4.2.2.2.2.1 (nI_pos (by omega)) (by rw [nI_clamp (by omega)]; exact iv_at (us := p.2.2.2.2.1) (by omega)) d_Parting_countIn_80 ?_
      refine x_hp (h' := xup (xup h3 o (k_Parting, [.int (nI (p.1 + 1)), .ref pt, .ref ps, .ref pf, .ref pc, .ref pa])) pc (k_apcl, xiv (p.2.2.2.2.1.set b (p.1 + 1)))) (by rw [nI_clamp (by omega), xiv_set]; rfl) ?_
      obtain ⟨hp5, hx5⟩ := hp4.cl (us := p.2.2.2.2.1.set b (p.1 + 1))
      exact fin _ hp5 ((hx3.tr (hx4 _)).tr (hx5 _))
    · rw [if_neg (fun z => g2 z.2)] at hc1
      rw [hc1] at fin
      refine x_iload_n d_Parting_countIn_0 rfl ?_
      refine x_if_lt (tgt := 11) d_Parting_countIn_1 (by decide) (fun ht => absurd ht (nI_pos (by omega))) (fun _ => ?_)
      refine x_iload_n d_Parting_countIn_4 rfl ?_
      refine x_sipush (v := 256) d_Parting_countIn_5 (by decide) ?_
      refine x_icmp_lt (tgt := 12) d_Parting_countIn_8 (by decide) (fun _ => ?_) (fun hn => absurd (nI_lt (b := 256) hb (by omega)) hn)
      refine x_aload_n d_Parting_countIn_12 rfl rfl ?_
      refine x_get xf_Parting_25_Parting (Or.inl hp.1) rfl d_Parting_countIn_13 ?_
      refine x_iload_n d_Parting_countIn_16 rfl ?_
      refine x_iald (k := k_apcl) rfl (Or.inl hp.2.2.2.2.1) (nI_pos (by omega)) (by rw [nI_clamp (by omega)]; exact iv_at (by omega)) d_Parting_countIn_17 ?_
      refine x_if_ne (tgt := 81) d_Parting_countIn_18 (by decide) (fun ht => absurd (by rw [g1]; rfl) ht) (fun _ => ?_)
      refine x_aload_n d_Parting_countIn_21 rfl rfl ?_
      refine x_get xf_Parting_9_Parting (Or.inl hp.1) rfl d_Parting_countIn_22 ?_
      refine x_sipush (v := 256) d_Parting_countIn_25 (by decide) ?_
      refine x_icmp_ge (tgt := 81) d_Parting_countIn_28 (by decide) (fun _ => ?_) (fun hn => absurd (nI_le (a := 256) (by omega) (by omega)) hn)
      exact fin _ hp xonly.rf
  · rw [if_neg (fun z => g1 z.1)] at hc1
    rw [hc1] at fin
    refine x_iload_n d_Parting_countIn_0 rfl ?_
    refine x_if_lt (tgt := 11) d_Parting_countIn_1 (by decide) (fun ht => absurd ht (nI_pos (by omega))) (fun _ => ?_)
    refine x_iload_n d_Parting_countIn_4 rfl ?_
    refine x_sipush (v := 256) d_Parting_countIn_5 (by decide) ?_
    refine x_icmp_lt (tgt := 12) d_Parting_countIn_8 (by decide) (fun _ => ?_) (fun hn => absurd (nI_lt (b := 256) hb (by omega)) hn)
    refine x_aload_n d_Parting_countIn_12 rfl rfl ?_
    refine x_get xf_Parting_25_Parting (Or.inl hp.1) rfl d_Parting_countIn_13 ?_
    refine x_iload_n d_Parting_countIn_16 rfl ?_
    refine x_iald (k := k_apcl) rfl (Or.inl hp.2.2.2.2.1) (nI_pos (by omega)) (by rw [nI_clamp (by omega)]; exact iv_at (by omega)) d_Parting_countIn_17 ?_
    refine x_if_ne (tgt := 81) d_Parting_countIn_18 (by decide) (fun _ => ?_) (fun hn => absurd hn (fun z => g1 ((nI_eq (b := 0) (by omega) (by omega)).mp z)))
    exact fin _ hp xonly.rf
end PA2
