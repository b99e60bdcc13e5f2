section

end
section RF0
abbrev zI (z : Int) : Int32 := Int32.ofInt z
abbrev inR (z : Int) : Prop := -2147483648 ≤ z ∧ z < 2147483648
theorem zI_add (a b : Int) : zI a + zI b = zI (a + b) := (Int32.ofInt_add ..).symm
theorem zI_sub (a b : Int) : zI a - zI b = zI (a - b) := (Int32.ofInt_sub ..).symm
theorem zI_mul (a b : Int) : zI a * zI b = zI (a * b) := (Int32.ofInt_mul ..).symm
theorem zI_neg (a : Int) : -zI a = zI (-a) := (Int32.ofInt_neg ..).symm
theorem zI_ti {a : Int} (h : inR a) : (zI a).toInt = a := Int32.toInt_ofInt_of_le h.1 (by omega)
theorem zI_of (w : Int32) : zI w.toInt = w := Int32.ofInt_toInt w
theorem inR_ti (w : Int32) : inR w.toInt := ⟨Int32.le_toInt w, Int32.toInt_lt w⟩
theorem zI_lt {a b : Int} (ha : inR a) (hb : inR b) : zI a < zI b ↔ a < b := by rw [Int32.lt_iff_toInt_lt, zI_ti ha, zI_ti hb]
theorem zI_le {a b : Int} (ha : inR a) (hb : inR b) : zI a ≤ zI b ↔ a ≤ b := by rw [Int32.le_iff_toInt_le, zI_ti ha, zI_ti hb]
theorem zI_eq {a b : Int} (ha : inR a) (hb : inR b) : zI a = zI b ↔ a = b := ⟨fun e => by rw [← zI_ti ha, ← zI_ti hb, e], fun e => by rw [e]⟩
theorem zI_clamp {a : Int} (h : inR a) : (zI a).toNatClampNeg = a.toNat := by
  rw [← zI_ti h]; rw [zI_of]; rfl
def fup {α : Type} (f : Nat → α) (i : Nat) (v : α) : Nat → α := fun j => if j = i then v else f j
theorem fup_self {α : Type} {f : Nat → α} {i : Nat} {v : α} : fup f i v i = v := if_pos rfl
theorem fup_ne {α : Type} {f : Nat → α} {i j : Nat} {v : α} (h : j ≠ i) : fup f i v j = f j := if_neg h
abbrev MS : Type := (Nat → Int) × (Nat → List Int) × (Nat → List Int64) × Int64
abbrev sp (S : MS) (j : Nat) (z : Int) : MS := (fup S.1 j z, S.2)
abbrev sa (S : MS) (i : Nat) (us : List Int) : MS := (S.1, fup S.2.1 i us, S.2.2)
abbrev sl (S : MS) (i : Nat) (us : List Int64) : MS := (S.1, S.2.1, fup S.2.2.1 i us, S.2.2.2)
abbrev sk (S : MS) (x : Int64) : MS := (S.1, S.2.1, S.2.2.1, x)
def gd (us : List Int) (e : Int) : Int := us.getD e.toNat 0
def gl (us : List Int64) (e : Int) : Int64 := us.getD e.toNat 0
def se (us : List Int) (e z : Int) : List Int := us.set e.toNat z
def sle (us : List Int64) (e : Int) (z : Int64) : List Int64 := us.set e.toNat z
theorem se_len {us : List Int} {e z : Int} : (se us e z).length = us.length := List.length_set
theorem gd_se {us : List Int} {e f z : Int} (he : 0 ≤ e) (hl : e < us.length) (hf : 0 ≤ f) : gd (se us e z) f = if f = e then z else gd us f := by
  unfold gd se
  rw [List.getD_eq_getElem?_getD, List.getElem?_set, List.getD_eq_getElem?_getD]
  by_cases hj : f = e
  · subst hj
    rw [if_pos rfl, if_pos rfl, if_pos (by omega)]
    rfl
  · rw [if_neg hj, if_neg (by omega)]
theorem se_mem {us : List Int} {e z w : Int} (h : w ∈ se us e z) : w ∈ us ∨ w = z := (List.mem_or_eq_of_mem_set h)
theorem gd_mem {us : List Int} {e : Int} (h0 : 0 ≤ e) (h : e < us.length) : gd us e ∈ us := by
  unfold gd
  rw [List.getD_eq_getElem?_getD, List.getElem?_eq_getElem (by omega : e.toNat < us.length)]
  exact List.getElem_mem _
variable {l : Launch} {G : XG} {M : XMt} {d pc : Nat} {L : List (Option Value)} {rest : List Value} {h : XH} {c n : Nat} {P : XPo}
/-- the fields of the reference -/
abbrev rfV (rf : Nat → Nat) (S : MS) : List Value := [.int (zI (S.1 0)), .ref (rf 1), .int (zI (S.1 2)), .int (zI (S.1 3)), .ref (rf 4), .ref (rf 5), .ref (rf 6), .ref (rf 7), .ref (rf 8), .ref (rf 9), .ref (rf 10), .int (zI (S.1 11)), .ref (rf 12), .ref (rf 13), .ref (rf 14), .ref (rf 15), .ref (rf 16), .ref (rf 17), .ref (rf 18), .ref (rf 19), .ref (rf 20), .ref (rf 21), .ref (rf 22), .ref (rf 23), .ref (rf 24), .ref (rf 25), .ref (rf 26), .int (zI (S.1 27)), .int (zI (S.1 28)), .int (zI (S.1 29)), .int (zI (S.1 30)), .ref (rf 31), .int (zI (S.1 32)), .int (zI (S.1 33)), .ref (rf 34), .int (zI (S.1 35)), .long S.2.2.2, .ref (rf 37), .ref (rf 38), .ref (rf 39), .ref (rf 40), .ref (rf 41), .int (zI (S.1 42)), .int (zI (S.1 43)), .int (zI (S.1 44)), .ref (rf 45), .ref (rf 46), .ref (rf 47), .ref (rf 48), .int (zI (S.1 49)), .ref (rf 50), .int (zI (S.1 51))]
def rK : Nat → Nat
  | 1 => k_ar1
  | 4 => k_ar4
  | 5 => k_ar5
  | 6 => k_ar6
  | 7 => k_ar7
  | 8 => k_ar8
  | 9 => k_ar9
  | 10 => k_ar10
  | 12 => k_ar12
  | 13 => k_ar13
  | 14 => k_ar14
  | 15 => k_ar15
  | 16 => k_ar16
  | 17 => k_ar17
  | 18 => k_ar18
  | 19 => k_ar19
  | 20 => k_ar20
  | 21 => k_ar21
  | 22 => k_ar22
  | 23 => k_ar23
  | 24 => k_ar24
  | 25 => k_ar25
  | 26 => k_ar26
  | 31 => k_ar31
  | 34 => k_ar34
  | 37 => k_ar37
  | 38 => k_ar38
  | 39 => k_ar39
  | 40 => k_ar40
  | 41 => k_ar41
  | 45 => k_ar45
  | 46 => k_ar46
  | 47 => k_ar47
  | 48 => k_ar48
  | 50 => k_ar50
  | _ => 0
def rLn : Nat → Nat
  | 1 => 160
  | 4 => 48
  | 5 => 6
  | 6 => 6
  | 7 => 6
  | 8 => 36
  | 9 => 6
  | 10 => 6
  | 12 => 1152
  | 13 => 1152
  | 14 => 1152
  | 15 => 9
  | 16 => 9
  | 17 => 360
  | 18 => 360
  | 19 => 360
  | 20 => 360
  | 21 => 9
  | 22 => 576
  | 23 => 6336
  | 24 => 576
  | 25 => 576
  | 26 => 9
  | 31 => 80
  | 34 => 80
  | 37 => 1980
  | 38 => 6
  | 39 => 6
  | 40 => 6
  | 41 => 128
  | 45 => 256
  | 46 => 256
  | 47 => 1536
  | 48 => 1000
  | 50 => 600
  | _ => 0
def rIA : List Nat := [1, 4, 5, 6, 7, 9, 12, 13, 14, 15, 16, 17, 18, 19, 20, 21, 23, 24, 25, 26, 31, 34, 38, 39, 40, 41, 45, 46, 47, 48, 50]
def rLA : List Nat := [8, 10, 22, 37]
def rB : Nat → Bool
  | 9 => true
  | 39 => true
  | 41 => true
  | _ => false
abbrev RKs : List Nat := [k_MarkerTextModel, k_ar1, k_ar4, k_ar5, k_ar6, k_ar7, k_ar8, k_ar9, k_ar10, k_ar12, k_ar13, k_ar14, k_ar15, k_ar16, k_ar17, k_ar18, k_ar19, k_ar20, k_ar21, k_ar22, k_ar23, k_ar24, k_ar25, k_ar26, k_ar31, k_ar34, k_ar37, k_ar38, k_ar39, k_ar40, k_ar41, k_ar45, k_ar46, k_ar47, k_ar48, k_ar50]
abbrev zV (us : List Int) : List Value := us.map (fun z => .int (zI z))
abbrev lV (us : List Int64) : List Value := us.map (fun z => .long z)
/-- the reference, in the state S -/
def isR (h : XH) (o : Nat) (rf : Nat → Nat) (S : MS) : Prop := h o = some (k_MarkerTextModel, rfV rf S) ∧ (∀ i ∈ rIA, h (rf i) = some (rK i, zV (S.2.1 i)) ∧ (S.2.1 i).length = rLn i ∧ ∀ z ∈ S.2.1 i, inR z ∧ (rB i = true → z = 0 ∨ z = 1)) ∧ (∀ i ∈ rLA, h (rf i) = some (rK i, lV (S.2.2.1 i)) ∧ (S.2.2.1 i).length = rLn i) ∧ ∀ j, inR (S.1 j)
theorem rK_m : ∀ i ∈ rIA ++ rLA, rK i ≠ k_MarkerTextModel ∧ rK i ∈ RKs := by decide +kernel
theorem rK_i : ∀ i ∈ rIA ++ rLA, ∀ j ∈ rIA ++ rLA, rK i = rK j → i = j := by decide +kernel
theorem isR.len {o : Nat} {rf : Nat → Nat} {S : MS} (hR : isR h o rf S) (i : Nat) (hi : i ∈ rIA) : (S.2.1 i).length = rLn i := (hR.2.1 i hi).2.1
theorem isR.fr {h' : XH} {F : List Nat} {o : Nat} {rf : Nat → Nat} {S : MS} (hR : isR h o rf S) (hf : xfr h h' F) (hn : xno h F RKs) : isR h' o rf S := by
  obtain ⟨e0, e1, e2, e3⟩ := hR
  refine ⟨hf.1 _ _ e0 (hn.at e0 (by decide)), fun i hi => ?_, fun i hi => ?_, e3⟩
  · obtain ⟨g1, g2⟩ := e1 i hi
    exact ⟨hf.1 _ _ g1 (hn.at g1 (rK_m i (List.mem_append_left _ hi)).2), g2⟩
  · obtain ⟨g1, g2⟩ := e2 i hi
    exact ⟨hf.1 _ _ g1 (hn.at g1 (rK_m i (List.mem_append_right _ hi)).2), g2⟩
/-- how a method of the reference ends -/
def rQ (h0 : XH) (o : Nat) (rf : Nat → Nat) (c n : Nat) (Q : Option Value → MS → Prop) : Option Value → XH → Nat → Nat → Prop := fun v h' c' n' => ∃ S', isR h' o rf S' ∧ xonly h0 h' RKs ∧ c' = c ∧ n' = n ∧ Q v S'
/-- a contract of a method of the reference -/
def RM (l : Launch) (G : XG) (d : Nat) (M : XMt) (args : List Value) (o : Nat) (rf : Nat → Nat) (S : MS) (Q : Option Value → MS → Prop) : Prop := ∀ h c n, isR h o rf S → XM l G d M args h c n (rQ h o rf c n Q)
/-- from here on the method of the reference comes to its end -/
def RX (l : Launch) (G : XG) (M : XMt) (d pc : Nat) (L : List (Option Value)) (st : List Value) (h0 : XH) (o : Nat) (rf : Nat → Nat) (c n : Nat) (S : MS) (Q : Option Value → MS → Prop) : Prop := ∀ h, isR h o rf S → xonly h0 h RKs → XW l G M d pc L st h c n (rQ h0 o rf c n Q)
theorem RM.mono {args : List Value} {o : Nat} {rf : Nat → Nat} {S : MS} {Q Q' : Option Value → MS → Prop} (h0 : RM l G d M args o rf S Q) (hQ : ∀ v S', Q v S' → Q' v S') : RM l G d M args o rf S Q' := fun h c n hR => (h0 h c n hR).mono (fun v h' c' n' ⟨S', a, b, e, f, g⟩ => ⟨S', a, b, e, f, hQ v S' g⟩)
theorem RM.ap {args : List Value} {o : Nat} {rf : Nat → Nat} {S : MS} {Q : Option Value → MS → Prop} (hR : isR h o rf S) (hM : RM l G d M args o rf S Q) : XM l G d M args h c n (rQ h o rf c n Q) := hM h c n hR
theorem x_zi {w : Int32} (k : XX l G M d pc L (.int (zI w.toInt) :: rest) h c n P) : XX l G M d pc L (.int w :: rest) h c n P := by rw [zI_of] at k; exact k
theorem z_iadd {a b : Int} (hd : decode M.2.1 pc = .ok (.iadd, 1)) (k : XX l G M d (pc + 1) L (.int (zI (a + b)) :: rest) h c n P) : XX l G M d pc L (.int (zI b) :: .int (zI a) :: rest) h c n P := x_iadd hd (by rw [zI_add]; exact k)
theorem z_isub {a b : Int} (hd : decode M.2.1 pc = .ok (.isub, 1)) (k : XX l G M d (pc + 1) L (.int (zI (a - b)) :: rest) h c n P) : XX l G M d pc L (.int (zI b) :: .int (zI a) :: rest) h c n P := x_isub hd (by rw [zI_sub]; exact k)
theorem z_imul {a b : Int} (hd : decode M.2.1 pc = .ok (.imul, 1)) (k : XX l G M d (pc + 1) L (.int (zI (a * b)) :: rest) h c n P) : XX l G M d pc L (.int (zI b) :: .int (zI a) :: rest) h c n P := x_imul hd (by rw [zI_mul]; exact k)
theorem z_ineg {a : Int} (hd : decode M.2.1 pc = .ok (.ineg, 1)) (k : XX l G M d (pc + 1) L (.int (zI (-a)) :: rest) h c n P) : XX l G M d pc L (.int (zI a) :: rest) h c n P := x_ineg hd (by rw [zI_neg]; exact k)
theorem z0 : (0 : Int32) = zI 0 := by decide
theorem zR0 : inR 0 := by decide
theorem z_if_eq {a : Int} {off : Int} {tgt : Nat} (hd : decode M.2.1 pc = .ok (.ifCond .eq off, 3)) (ht : (pc : Int) + off = (tgt : Int)) (ha : inR a) (kt : a = 0 → XX l G M d tgt L rest h c n P) (kf : ¬ a = 0 → XX l G M d (pc + 3) L rest h c n P) : XX l G M d pc L (.int (zI a) :: rest) h c n P := by
  have hb := zR0
  have e := zI_eq ha hb
  rw [← z0] at e
  exact x_if_eq hd ht (fun q => kt (e.mp q)) (fun q => kf (fun z => q (e.mpr z)))
theorem z_icmp_eq {a b : Int} {off : Int} {tgt : Nat} (hd : decode M.2.1 pc = .ok (.if_icmp .eq off, 3)) (ht : (pc : Int) + off = (tgt : Int)) (ha : inR a) (hb : inR b) (kt : a = b → XX l G M d tgt L rest h c n P) (kf : ¬ a = b → XX l G M d (pc + 3) L rest h c n P) : XX l G M d pc L (.int (zI b) :: .int (zI a) :: rest) h c n P := by
  have e := zI_eq ha hb
  exact x_icmp_eq hd ht (fun q => kt (e.mp q)) (fun q => kf (fun z => q (e.mpr z)))
theorem z_if_ne {a : Int} {off : Int} {tgt : Nat} (hd : decode M.2.1 pc = .ok (.ifCond .ne off, 3)) (ht : (pc : Int) + off = (tgt : Int)) (ha : inR a) (kt : ¬ a = 0 → XX l G M d tgt L rest h c n P) (kf : a = 0 → XX l G M d (pc + 3) L rest h c n P) : XX l G M d pc L (.int (zI a) :: rest) h c n P := by
  have hb := zR0
  have e := zI_eq ha hb
  rw [← z0] at e
  exact x_if_ne hd ht (fun q => kt (fun z => q (e.mpr z))) (fun q => kf (e.mp q))
theorem z_icmp_ne {a b : Int} {off : Int} {tgt : Nat} (hd : decode M.2.1 pc = .ok (.if_icmp .ne off, 3)) (ht : (pc : Int) + off = (tgt : Int)) (ha : inR a) (hb : inR b) (kt : ¬ a = b → XX l G M d tgt L rest h c n P) (kf : a = b → XX l G M d (pc + 3) L rest h c n P) : XX l G M d pc L (.int (zI b) :: .int (zI a) :: rest) h c n P := by
  have e := zI_eq ha hb
  exact x_icmp_ne hd ht (fun q => kt (fun z => q (e.mpr z))) (fun q => kf (e.mp q))
theorem z_if_lt {a : Int} {off : Int} {tgt : Nat} (hd : decode M.2.1 pc = .ok (.ifCond .lt off, 3)) (ht : (pc : Int) + off = (tgt : Int)) (ha : inR a) (kt : a < 0 → XX l G M d tgt L rest h c n P) (kf : ¬ a < 0 → XX l G M d (pc + 3) L rest h c n P) : XX l G M d pc L (.int (zI a) :: rest) h c n P := by
  have hb := zR0
  have e := zI_lt ha hb
  rw [← z0] at e
  exact x_if_lt hd ht (fun q => kt (e.mp q)) (fun q => kf (fun z => q (e.mpr z)))
theorem z_icmp_lt {a b : Int} {off : Int} {tgt : Nat} (hd : decode M.2.1 pc = .ok (.if_icmp .lt off, 3)) (ht : (pc : Int) + off = (tgt : Int)) (ha : inR a) (hb : inR b) (kt : a < b → XX l G M d tgt L rest h c n P) (kf : ¬ a < b → XX l G M d (pc + 3) L rest h c n P) : XX l G M d pc L (.int (zI b) :: .int (zI a) :: rest) h c n P := by
  have e := zI_lt ha hb
  exact x_icmp_lt hd ht (fun q => kt (e.mp q)) (fun q => kf (fun z => q (e.mpr z)))
theorem z_if_ge {a : Int} {off : Int} {tgt : Nat} (hd : decode M.2.1 pc = .ok (.ifCond .ge off, 3)) (ht : (pc : Int) + off = (tgt : Int)) (ha : inR a) (kt : 0 ≤ a → XX l G M d tgt L rest h c n P) (kf : ¬ 0 ≤ a → XX l G M d (pc + 3) L rest h c n P) : XX l G M d pc L (.int (zI a) :: rest) h c n P := by
  have hb := zR0
  have e := zI_le hb ha
  rw [← z0] at e
  exact x_if_ge hd ht (fun q => kt (e.mp q)) (fun q => kf (fun z => q (e.mpr z)))
theorem z_icmp_ge {a b : Int} {off : Int} {tgt : Nat} (hd : decode M.2.1 pc = .ok (.if_icmp .ge off, 3)) (ht : (pc : Int) + off = (tgt : Int)) (ha : inR a) (hb : inR b) (kt : b ≤ a → XX l G M d tgt L rest h c n P) (kf : ¬ b ≤ a → XX l G M d (pc + 3) L rest h c n P) : XX l G M d pc L (.int (zI b) :: .int (zI a) :: rest) h c n P := by
  have e := zI_le hb ha
  exact x_icmp_ge hd ht (fun q => kt (e.mp q)) (fun q => kf (fun z => q (e.mpr z)))
theorem z_if_gt {a : Int} {off : Int} {tgt : Nat} (hd : decode M.2.1 pc = .ok (.ifCond .gt off, 3)) (ht : (pc : Int) + off = (tgt : Int)) (ha : inR a) (kt : 0 < a → XX l G M d tgt L rest h c n P) (kf : ¬ 0 < a → XX l G M d (pc + 3) L rest h c n P) : XX l G M d pc L (.int (zI a) :: rest) h c n P := by
  have hb := zR0
  have e := zI_lt hb ha
  rw [← z0] at e
  exact x_if_gt hd ht (fun q => kt (e.mp q)) (fun q => kf (fun z => q (e.mpr z)))
theorem z_icmp_gt {a b : Int} {off : Int} {tgt : Nat} (hd : decode M.2.1 pc = .ok (.if_icmp .gt off, 3)) (ht : (pc : Int) + off = (tgt : Int)) (ha : inR a) (hb : inR b) (kt : b < a → XX l G M d tgt L rest h c n P) (kf : ¬ b < a → XX l G M d (pc + 3) L rest h c n P) : XX l G M d pc L (.int (zI b) :: .int (zI a) :: rest) h c n P := by
  have e := zI_lt hb ha
  exact x_icmp_gt hd ht (fun q => kt (e.mp q)) (fun q => kf (fun z => q (e.mpr z)))
theorem z_if_le {a : Int} {off : Int} {tgt : Nat} (hd : decode M.2.1 pc = .ok (.ifCond .le off, 3)) (ht : (pc : Int) + off = (tgt : Int)) (ha : inR a) (kt : a ≤ 0 → XX l G M d tgt L rest h c n P) (kf : ¬ a ≤ 0 → XX l G M d (pc + 3) L rest h c n P) : XX l G M d pc L (.int (zI a) :: rest) h c n P := by
  have hb := zR0
  have e := zI_le ha hb
  rw [← z0] at e
  exact x_if_le hd ht (fun q => kt (e.mp q)) (fun q => kf (fun z => q (e.mpr z)))
theorem z_icmp_le {a b : Int} {off : Int} {tgt : Nat} (hd : decode M.2.1 pc = .ok (.if_icmp .le off, 3)) (ht : (pc : Int) + off = (tgt : Int)) (ha : inR a) (hb : inR b) (kt : a ≤ b → XX l G M d tgt L rest h c n P) (kf : ¬ a ≤ b → XX l G M d (pc + 3) L rest h c n P) : XX l G M d pc L (.int (zI b) :: .int (zI a) :: rest) h c n P := by
  have e := zI_le ha hb
  exact x_icmp_le hd ht (fun q => kt (e.mp q)) (fun q => kf (fun z => q (e.mpr z)))
theorem z_nb {e : Int} (he : e = 0 ∨ e = 1) : narrow .boolean (.int (zI e)) = .int (zI e) := by rcases he with rfl | rfl <;> rfl
theorem isR.put {o : Nat} {rf : Nat → Nat} {S : MS} {j : Nat} {z : Int} {vs : List Value} (hR : isR h o rf S) (hz : inR z) (hs : vs = rfV rf (sp S j z)) : isR (xup h o (k_MarkerTextModel, vs)) o rf (sp S j z) := by
  subst hs
  refine ⟨xup_self, fun i hi => ?_, fun i hi => ?_, fun q => ?_⟩
  · obtain ⟨g1, g2⟩ := hR.2.1 i hi
    exact ⟨by rw [xup_ne (xne g1 hR.1 (rK_m i (List.mem_append_left _ hi)).1)]; exact g1, g2⟩
  · obtain ⟨g1, g2⟩ := hR.2.2.1 i hi
    exact ⟨by rw [xup_ne (xne g1 hR.1 (rK_m i (List.mem_append_right _ hi)).1)]; exact g1, g2⟩
  · show inR (fup S.1 j z q)
    unfold fup
    split
    · exact hz
    · exact hR.2.2.2 q
theorem isR.putk {o : Nat} {rf : Nat → Nat} {S : MS} {x : Int64} {vs : List Value} (hR : isR h o rf S) (hs : vs = rfV rf (sk S x)) : isR (xup h o (k_MarkerTextModel, vs)) o rf (sk S x) := by
  subst hs
  refine ⟨xup_self, fun i hi => ?_, fun i hi => ?_, hR.2.2.2⟩
  · obtain ⟨g1, g2⟩ := hR.2.1 i hi
    exact ⟨by rw [xup_ne (xne g1 hR.1 (rK_m i (List.mem_append_left _ hi)).1)]; exact g1, g2⟩
  · obtain ⟨g1, g2⟩ := hR.2.2.1 i hi
    exact ⟨by rw [xup_ne (xne g1 hR.1 (rK_m i (List.mem_append_right _ hi)).1)]; exact g1, g2⟩
theorem r_put {h0 : XH} {o idx j : Nat} {rf : Nat → Nat} {S : MS} {z : Int} {v0 : Value} (hx : xF M.1.cls idx k_MarkerTextModel j) (hp : xP k_MarkerTextModel j false .int) (hR : isR h o rf S) (hX : xonly h0 h RKs) (hz : inR z) (hv : (rfV rf S)[j]? = some v0) (hs : (rfV rf S).set j (.int (zI z)) = rfV rf (sp S j z)) (hd : decode M.2.1 pc = .ok (.putfield idx, 3)) (kk : ∀ h', isR h' o rf (sp S j z) → xonly h0 h' RKs → XX l G M d (pc + 3) L rest h' c n P) : XX l G M d pc L (.int (zI z) :: .ref o :: rest) h c n P :=
  x_put hx hp rfl rfl hR.1 hv rfl hd (kk _ (hR.put hz hs) (hX.tr (xonly.up hR.1 (by decide))))
theorem r_putk {h0 : XH} {o idx j : Nat} {rf : Nat → Nat} {S : MS} {x : Int64} {v0 : Value} (hx : xF M.1.cls idx k_MarkerTextModel j) (hp : xP k_MarkerTextModel j false .long) (hR : isR h o rf S) (hX : xonly h0 h RKs) (hv : (rfV rf S)[j]? = some v0) (hs : (rfV rf S).set j (.long x) = rfV rf (sk S x)) (hd : decode M.2.1 pc = .ok (.putfield idx, 3)) (kk : ∀ h', isR h' o rf (sk S x) → xonly h0 h' RKs → XX l G M d (pc + 3) L rest h' c n P) : XX l G M d pc L (.long x :: .ref o :: rest) h c n P :=
  x_put hx hp rfl rfl hR.1 hv rfl hd (kk _ (hR.putk hs) (hX.tr (xonly.up hR.1 (by decide))))
theorem zV_at {us : List Int} {e : Int} (he : inR e) (h0 : 0 ≤ e) (h1 : e < us.length) : (zV us)[(zI e).toNatClampNeg]? = some (.int (zI (gd us e))) := by
  rw [zI_clamp he, List.getElem?_map, List.getElem?_eq_getElem (by omega : e.toNat < us.length)]
  unfold gd
  rw [List.getD_eq_getElem?_getD, List.getElem?_eq_getElem (by omega : e.toNat < us.length)]
  rfl
theorem lV_at {us : List Int64} {e : Int} (he : inR e) (h0 : 0 ≤ e) (h1 : e < us.length) : (lV us)[(zI e).toNatClampNeg]? = some (.long (gl us e)) := by
  rw [zI_clamp he, List.getElem?_map, List.getElem?_eq_getElem (by omega : e.toNat < us.length)]
  unfold gl
  rw [List.getD_eq_getElem?_getD, List.getElem?_eq_getElem (by omega : e.toNat < us.length)]
  rfl
theorem zI_nn {e : Int} (he : inR e) (h0 : 0 ≤ e) : ¬ zI e < 0 := by
  rw [z0, zI_lt he zR0]
  omega
theorem rLn_le : ∀ i ∈ rIA ++ rLA, rLn i ≤ 10000 := by decide +kernel
theorem r_iald {o i : Nat} {rf : Nat → Nat} {S : MS} {us : List Int} {e : Int} (hk : xk[rK i]? = some (.inr .int)) (hi : i ∈ rIA) (hR : isR h o rf S) (hu : S.2.1 i = us) (h0 : 0 ≤ e) (h1 : e < (rLn i : Int)) (hd : decode M.2.1 pc = .ok (.iaload, 1)) (kk : inR (gd us e) → XX l G M d (pc + 1) L (.int (zI (gd us e)) :: rest) h c n P) : XX l G M d pc L (.int (zI e) :: .ref (rf i) :: rest) h c n P := by
  subst hu
  obtain ⟨g1, g2, g3⟩ := hR.2.1 i hi
  have hb := rLn_le i (List.mem_append_left _ hi)
  exact x_iald hk (Or.inl g1) (zI_nn (by omega) h0) (zV_at (by omega) h0 (by omega)) hd (kk (g3 _ (gd_mem h0 (by omega))).1)
theorem r_zald {o i : Nat} {rf : Nat → Nat} {S : MS} {us : List Int} {e : Int} (hk : xk[rK i]? = some (.inr .boolean) ∧ rB i = true) (hi : i ∈ rIA) (hR : isR h o rf S) (hu : S.2.1 i = us) (h0 : 0 ≤ e) (h1 : e < (rLn i : Int)) (hd : decode M.2.1 pc = .ok (.baload, 1)) (kk : gd us e = 0 ∨ gd us e = 1 → XX l G M d (pc + 1) L (.int (zI (gd us e)) :: rest) h c n P) : XX l G M d pc L (.int (zI e) :: .ref (rf i) :: rest) h c n P := by
  subst hu
  obtain ⟨g1, g2, g3⟩ := hR.2.1 i hi
  have hb := rLn_le i (List.mem_append_left _ hi)
  exact x_zald hk.1 (Or.inl g1) (zI_nn (by omega) h0) (zV_at (by omega) h0 (by omega)) hd (kk ((g3 _ (gd_mem h0 (by omega))).2 hk.2))
theorem r_lald {o i : Nat} {rf : Nat → Nat} {S : MS} {us : List Int64} {e : Int} (hk : xk[rK i]? = some (.inr .long)) (hi : i ∈ rLA) (hR : isR h o rf S) (hu : S.2.2.1 i = us) (h0 : 0 ≤ e) (h1 : e < (rLn i : Int)) (hd : decode M.2.1 pc = .ok (.laload, 1)) (kk : XX l G M d (pc + 1) L (.long (gl us e) :: rest) h c n P) : XX l G M d pc L (.int (zI e) :: .ref (rf i) :: rest) h c n P := by
  subst hu
  obtain ⟨g1, g2⟩ := hR.2.2.1 i hi
  have hb := rLn_le i (List.mem_append_right _ hi)
  exact x_lald hk (Or.inl g1) (zI_nn (by omega) h0) (lV_at (by omega) h0 (by omega)) hd kk
theorem isR.arr {o i : Nat} {rf : Nat → Nat} {S : MS} {vs : List Value} {us : List Int} (hR : isR h o rf S) (hi : i ∈ rIA) (hv : vs = zV us) (hl : us.length = rLn i) (hz : ∀ z ∈ us, inR z ∧ (rB i = true → z = 0 ∨ z = 1)) : isR (xup h (rf i) (rK i, vs)) o rf (sa S i us) := by
  subst hv
  have g0 := (hR.2.1 i hi).1
  refine ⟨by rw [xup_ne (Ne.symm (xne g0 hR.1 (rK_m i (List.mem_append_left _ hi)).1))]; exact hR.1, fun q hq => ?_, fun q hq => ?_, hR.2.2.2⟩
  · show _ = some (rK q, zV (fup S.2.1 i us q)) ∧ (fup S.2.1 i us q).length = rLn q ∧ ∀ z ∈ fup S.2.1 i us q, inR z ∧ (rB q = true → z = 0 ∨ z = 1)
    by_cases hqi : q = i
    · subst hqi
      rw [fup_self]
      exact ⟨xup_self, hl, hz⟩
    · rw [fup_ne hqi]
      obtain ⟨g1, g2⟩ := hR.2.1 q hq
      exact ⟨by rw [xup_ne (xne g1 g0 (fun z => hqi (rK_i q (List.mem_append_left _ hq) i (List.mem_append_left _ hi) z)))]; exact g1, g2⟩
  · obtain ⟨g1, g2⟩ := hR.2.2.1 q hq
    refine ⟨?_, g2⟩
    rw [xup_ne (xne g1 g0 (fun z => ?_))]
    · exact g1
    · have := rK_i q (List.mem_append_right _ hq) i (List.mem_append_left _ hi) z
      subst this
      exact absurd hi ((by decide : ∀ q ∈ rLA, q ∉ rIA) q hq)
theorem isR.lar {o i : Nat} {rf : Nat → Nat} {S : MS} {vs : List Value} {us : List Int64} (hR : isR h o rf S) (hi : i ∈ rLA) (hv : vs = lV us) (hl : us.length = rLn i) : isR (xup h (rf i) (rK i, vs)) o rf (sl S i us) := by
  subst hv
  have g0 := (hR.2.2.1 i hi).1
  refine ⟨by rw [xup_ne (Ne.symm (xne g0 hR.1 (rK_m i (List.mem_append_right _ hi)).1))]; exact hR.1, fun q hq => ?_, fun q hq => ?_, hR.2.2.2⟩
  · obtain ⟨g1, g2⟩ := hR.2.1 q hq
    refine ⟨?_, g2⟩
    rw [xup_ne (xne g1 g0 (fun z => ?_))]
    · exact g1
    · have := rK_i q (List.mem_append_left _ hq) i (List.mem_append_right _ hi) z
      subst this
      exact absurd hq ((by decide : ∀ q ∈ rLA, q ∉ rIA) q hi)
  · show _ = some (rK q, lV (fup S.2.2.1 i us q)) ∧ (fup S.2.2.1 i us q).length = rLn q
    by_cases hqi : q = i
    · subst hqi
      rw [fup_self]
      exact ⟨xup_self, hl⟩
    · rw [fup_ne hqi]
      obtain ⟨g1, g2⟩ := hR.2.2.1 q hq
      exact ⟨by rw [xup_ne (xne g1 g0 (fun z => hqi (rK_i q (List.mem_append_right _ hq) i (List.mem_append_right _ hi) z)))]; exact g1, g2⟩
theorem r_iast {h0 : XH} {o i : Nat} {rf : Nat → Nat} {S : MS} {us : List Int} {e z : Int} (hk : xk[rK i]? = some (.inr .int) ∧ rB i = false) (hi : i ∈ rIA) (hR : isR h o rf S) (hX : xonly h0 h RKs) (hu : S.2.1 i = us) (he : 0 ≤ e) (h1 : e < (rLn i : Int)) (hz : inR z) (hd : decode M.2.1 pc = .ok (.iastore, 1)) (kk : ∀ h', isR h' o rf (sa S i (se us e z)) → xonly h0 h' RKs → XX l G M d (pc + 1) L rest h' c n P) : XX l G M d pc L (.int (zI z) :: .int (zI e) :: .ref (rf i) :: rest) h c n P := by
  subst hu
  obtain ⟨g1, g2, g3⟩ := hR.2.1 i hi
  have hb := rLn_le i (List.mem_append_left _ hi)
  refine x_iast hk.1 g1 (zI_nn (by omega) he) (zV_at (by omega) he (by omega)) hd (kk _ (hR.arr hi ?_ (by rw [se_len]; exact g2) (fun w hw => ?_)) (hX.tr (xonly.up g1 (rK_m i (List.mem_append_left _ hi)).2)))
  · rw [zI_clamp (by omega)]; exact (List.map_set ..).symm
  · rcases se_mem hw with q | rfl
    · exact g3 w q
    · exact ⟨hz, fun q => by rw [hk.2] at q; cases q⟩
theorem r_zast {h0 : XH} {o i : Nat} {rf : Nat → Nat} {S : MS} {us : List Int} {e z : Int} (hk : xk[rK i]? = some (.inr .boolean)) (hi : i ∈ rIA) (hR : isR h o rf S) (hX : xonly h0 h RKs) (hu : S.2.1 i = us) (he : 0 ≤ e) (h1 : e < (rLn i : Int)) (hz : z = 0 ∨ z = 1) (hd : decode M.2.1 pc = .ok (.bastore, 1)) (kk : ∀ h', isR h' o rf (sa S i (se us e z)) → xonly h0 h' RKs → XX l G M d (pc + 1) L rest h' c n P) : XX l G M d pc L (.int (zI z) :: .int (zI e) :: .ref (rf i) :: rest) h c n P := by
  subst hu
  obtain ⟨g1, g2, g3⟩ := hR.2.1 i hi
  have hb := rLn_le i (List.mem_append_left _ hi)
  refine x_zast hk g1 (zI_nn (by omega) he) (zV_at (by omega) he (by omega)) (z_nb hz) hd (kk _ (hR.arr hi ?_ (by rw [se_len]; exact g2) (fun w hw => ?_)) (hX.tr (xonly.up g1 (rK_m i (List.mem_append_left _ hi)).2)))
  · rw [zI_clamp (by omega)]; exact (List.map_set ..).symm
  · rcases se_mem hw with q | rfl
    · exact g3 w q
    · exact ⟨by omega, fun _ => hz⟩
theorem r_last {h0 : XH} {o i : Nat} {rf : Nat → Nat} {S : MS} {us : List Int64} {e : Int} {z : Int64} (hk : xk[rK i]? = some (.inr .long)) (hi : i ∈ rLA) (hR : isR h o rf S) (hX : xonly h0 h RKs) (hu : S.2.2.1 i = us) (he : 0 ≤ e) (h1 : e < (rLn i : Int)) (hd : decode M.2.1 pc = .ok (.lastore, 1)) (kk : ∀ h', isR h' o rf (sl S i (sle us e z)) → xonly h0 h' RKs → XX l G M d (pc + 1) L rest h' c n P) : XX l G M d pc L (.long z :: .int (zI e) :: .ref (rf i) :: rest) h c n P := by
  subst hu
  obtain ⟨g1, g2⟩ := hR.2.2.1 i hi
  have hb := rLn_le i (List.mem_append_right _ hi)
  refine x_last hk g1 (zI_nn (by omega) he) (lV_at (by omega) he (by omega)) hd (kk _ (hR.lar hi ?_ (by rw [sle, List.length_set]; exact g2)) (hX.tr (xonly.up g1 (rK_m i (List.mem_append_right _ hi)).2)))
  rw [zI_clamp (by omega)]; exact (List.map_set ..).symm
end RF0
