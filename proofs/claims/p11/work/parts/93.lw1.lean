section

end
section LW1
variable {l : Launch} {G : XG} {h : XH} {c n d : Nat}
theorem xCB_ge : 500000 ≤ xCB := Nat.le_of_ble_eq_true rfl
theorem xSB_ge : 5000000 ≤ xSB := Nat.le_of_ble_eq_true rfl
/-- the class behind k calls: what it holds, and the room that is used -/
def CI (G : XG) (h : XH) (x k c n : Nat) (t : List Nat) (Ns : List NmT) (Cs : List CnT) (il : Option Nat) (lv : Nat → Nat) (Pt : PtT) : Prop := ∃ (ta va m na ca ea ch pa : Nat) (as kas cas : List Nat), isMT G h x ta va m na ca ea ch pa as kas cas t Ns Cs il lv Pt ∧ okNC Ns Cs ∧ c + 46 * t.length ≤ 100 + 316 * k + m ∧ n + 2014 * t.length ≤ 25000 + 5114 * k + 2 * m
abbrev kCl : List Nat := k_StringBuilder :: k_abyte :: kMT
variable {x k : Nat} {t : List Nat} {Ns : List NmT} {Cs : List CnT} {il : Option Nat} {lv : Nat → Nat} {Pt : PtT}
/-- what is not the class's may change -/
theorem CI.fr {h' : XH} {Ks : List Nat} (hI : CI G h x k c n t Ns Cs il lv Pt) (hx : xonly h h' Ks) (hK : ∀ k ∈ Ks, k ∉ kCl) : CI G h' x k c n t Ns Cs il lv Pt := by
  obtain ⟨ta, va, m, na, ca, ea, ch, pa, as, kas, cas, hM, hv, h1, h2⟩ := hI
  obtain ⟨F, f, q⟩ := hx
  obtain ⟨e0, hB, hm, hl, -⟩ := id hM
  obtain ⟨z, bs, b1, b2, -⟩ := id hB
  have hq := q kCl hK
  exact ⟨ta, va, m, na, ca, ea, ch, pa, as, kas, cas, hM.frB f (hq.sub (fun k hk => List.mem_cons_of_mem _ (List.mem_cons_of_mem _ hk))) (hB.fr f (hq.at b1 List.mem_cons_self) (hq.at b2 (List.mem_cons_of_mem _ List.mem_cons_self))) hm hl, hv, h1, h2⟩
theorem CI.next (hI : CI G h x k c n t Ns Cs il lv Pt) : CI G h x (k + 1) c n t Ns Cs il lv Pt := by
  obtain ⟨ta, va, m, na, ca, ea, ch, pa, as, kas, cas, hM, hv, h1, h2⟩ := hI
  exact ⟨ta, va, m, na, ca, ea, ch, pa, as, kas, cas, hM, hv, by omega, by omega⟩
theorem CI.at (hI : CI G h x k c n t Ns Cs il lv Pt) : ∃ vs, h x = some (k_MarkerText, vs) := by
  obtain ⟨ta, va, m, na, ca, ea, ch, pa, as, kas, cas, hM, -⟩ := hI
  exact ⟨_, hM.1⟩
theorem CI.text (hI : CI G h x k c n t Ns Cs il lv Pt) : t.length ≤ 160 ∧ xasc t := by
  obtain ⟨ta, va, m, na, ca, ea, ch, pa, as, kas, cas, hM, -⟩ := hI
  obtain ⟨e0, ⟨z, bs, b1, b2, b3, b4, b5⟩, hm, hl, -⟩ := hM
  exact ⟨hl, b5⟩
/-- a new object -/
theorem xiv_0 {m : Nat} : xiv (List.replicate m 0) = List.replicate m (.int 0) := by
  unfold xiv
  rw [List.map_replicate]
  rfl
theorem CI.new (hx : mt0 h x) (hc : c ≤ 100) (hn : n ≤ 25000) : CI G h x 0 c n [] [] [] none (fun _ => 0) (0, List.replicate 256 0, List.replicate 256 0, List.replicate 256 0, List.replicate 256 0, List.replicate 6 0) := by
  obtain ⟨ta, va, na, ca, ea, ch, pa, e0, hB, e1, e2, e3, ⟨cv, cs, cc, cp, cl, g0, g1, g2, g3, g4, g5⟩, ⟨pt, ps, pf, pc, pb, k0, k1, k2, k3, k4, k5⟩⟩ := hx
  have r0 : ∀ {m v : Nat}, v ∈ List.replicate m 0 → v = 0 := fun hv => List.eq_of_mem_replicate hv
  refine ⟨ta, va, 16, na, ca, ea, ch, pa, [], [], [], ⟨e0, hB, by omega, by simp, ⟨e1, rfl, rfl, by simp, List.nodup_nil, List.nodup_nil, fun i x a ka hz => by simp at hz⟩, ⟨e2, rfl, by simp, fun i x a hz => by simp at hz⟩, ⟨rfl, e3, fun i => (by decide : (0 : Nat) < 2 ^ 63)⟩, ⟨List.replicate 356 0, 0, List.replicate 6 0, List.replicate 6 0, List.replicate 6 0, List.replicate 6 0, 0, ⟨cv, cs, cc, cp, cl, g0, ?_, ?_, ?_, ?_, ?_⟩, List.length_replicate, Nat.zero_le _, List.length_replicate, List.length_replicate, List.length_replicate, List.length_replicate⟩, ⟨pt, ps, pf, pc, pb, k0, ?_, ?_, ?_, ?_, ?_⟩, ?_⟩, ⟨fun x hx => (by cases hx), fun D hD => (by cases hD)⟩, by simp; omega, by simp; omega⟩
  · rw [g1, List.map_replicate]; rfl
  · rw [g2, xiv_0]
  · rw [g3, xiv_0]
  · rw [g4, xiv_0]
  · rw [g5, List.map_replicate]; rfl
  · show h pt = some (k_aptr, xiv (List.replicate 256 0)); rw [k1, xiv_0]
  · show h ps = some (k_apsz, xiv (List.replicate 256 0)); rw [k2, xiv_0]
  · show h pf = some (k_apfi, xiv (List.replicate 256 0)); rw [k3, xiv_0]
  · show h pc = some (k_apcl, xiv (List.replicate 256 0)); rw [k4, xiv_0]
  · show h pb = some (k_apsa, xiv (List.replicate 6 0)); rw [k5, xiv_0]
  · exact ⟨Nat.zero_le _, List.length_replicate, List.length_replicate, List.length_replicate, List.length_replicate, List.length_replicate, fun v hv => by rw [r0 hv]; omega, fun v hv => by rw [r0 hv]; omega, fun v hv => by rw [r0 hv]; omega, fun v hv => by rw [r0 hv]; omega, fun v hv => by rw [r0 hv]; omega⟩
/-- what the reference holds stays -/
def xapR (h h' : XH) : Prop := ∃ F, xfr h h' F ∧ xno h F (k_along :: RKs)
theorem xapR.rf : xapR h h := ⟨[], xfr.rf, fun q hq => by cases hq⟩
theorem xap.R {h' : XH} (a : xap h h') : xapR h h' := by
  obtain ⟨F, f, q⟩ := a
  exact ⟨F, f, q.sub (by decide)⟩
theorem xonly.R {h' : XH} {Ks : List Nat} (a : xonly h h' Ks) (hK : ∀ k ∈ Ks, k ∉ k_along :: RKs) : xapR h h' := by
  obtain ⟨F, f, q⟩ := a
  exact ⟨F, f, q _ hK⟩
theorem xapR.isR {h' : XH} {o : Nat} {rf : Nat → Nat} {S : MS} (a : xapR h h') (hR : isR h o rf S) : isR h' o rf S := by
  obtain ⟨F, f, q⟩ := a
  exact hR.fr f (q.sub (fun k hk => List.mem_cons_of_mem _ hk))
theorem xapR.out {h' : XH} {o : Nat} {vs : List Value} (a : xapR h h') (ho : h o = some (k_along, vs)) : h' o = some (k_along, vs) := by
  obtain ⟨F, f, q⟩ := a
  exact f.1 _ _ ho (q.at ho List.mem_cons_self)
abbrev pK (G : XG) (h : XH) (x k : Nat) (w : Value) (t : List Nat) (Ns : List NmT) (Cs : List CnT) (il : Option Nat) (lv : Nat → Nat) (Pt : PtT) : Option Value → XH → Nat → Nat → Prop := fun v h' c' n' => v = some w ∧ xapR h h' ∧ CI G h' x (k + 1) c' n' t Ns Cs il lv Pt
theorem K_type (hd : 6 ≤ d) {cc : Nat} (hI : CI G h x k c n t Ns Cs il lv Pt) (hk : k < 512) (hcc : cc < 65536) : XM l G d M_MT_type [.ref x, .int (nI cc)] h c n (pK G h x k (.int (bI (decide (tyOk t cc)))) (if tyOk t cc then t ++ [cc] else t) Ns Cs il lv Pt) := by
  obtain ⟨ta, va, m, na, ca, ea, ch, pa, as, kas, cas, hM, hv, hc, hn⟩ := hI
  obtain ⟨e0, ⟨z, bs, b1, b2, -⟩, hm, hl, -⟩ := id hM
  have hcb := xCB_ge
  have hsb := xSB_ge
  refine (c_type hd hM hcc (by omega) (by omega)).mono ?_
  rintro v h' c' n' ⟨rfl, va', m', hM', f, -, g1, g2, g3, g4⟩
  have hl' : (if tyOk t cc then t ++ [cc] else t).length ≤ t.length + 1 := by
    split
    · simp
    · omega
  exact ⟨rfl, ⟨_, f, xno2 b1 b2 (by decide) (by decide)⟩, _, va', m', _, _, _, _, _, _, _, _, hM', hv, by omega, by omega⟩
theorem K_place (hI : CI G h x k c n t Ns Cs il lv Pt) : XM l G d M_MT_place [.ref x] h c n (pK G h x k (.int (oI il)) t Ns Cs il lv Pt) := by
  obtain ⟨ta, va, m, na, ca, ea, ch, pa, as, kas, cas, hM, hv, hc, hn⟩ := id hI
  refine (c_place hM).mono ?_
  rintro v h' c' n' ⟨rfl, rfl, rfl, rfl⟩
  exact ⟨rfl, xapR.rf, hI.next⟩
theorem K_holds (hd : 162 ≤ d) {w : Int32} (hI : CI G h x k c n t Ns Cs il lv Pt) : XM l G d M_MT_holds [.ref x, .int w] h c n (pK G h x k (.int (bI (hld Cs lv w))) t Ns Cs il lv Pt) := by
  obtain ⟨ta, va, m, na, ca, ea, ch, pa, as, kas, cas, hM, hv, hc, hn⟩ := id hI
  refine (c_holds hd hM).mono ?_
  rintro v h' c' n' ⟨rfl, rfl, rfl, rfl⟩
  exact ⟨rfl, xapR.rf, hI.next⟩
theorem K_printed (hG : xGk G) (hd : 4 ≤ d) {w u : Int32} (hI : CI G h x k c n t Ns Cs il lv Pt) : XM l G d M_MT_printed [.ref x, .int w, .int u] h c n (pK G h x k (.int (nI (prt Cs w u))) t Ns Cs il lv Pt) := by
  obtain ⟨ta, va, m, na, ca, ea, ch, pa, as, kas, cas, hM, hv, hc, hn⟩ := id hI
  refine (c_printed hG hd hM).mono ?_
  rintro v h' c' n' ⟨rfl, rfl, rfl, rfl⟩
  exact ⟨rfl, xapR.rf, hI.next⟩
theorem K_many (hd : 1 ≤ d) {w : Int32} (hI : CI G h x k c n t Ns Cs il lv Pt) : XM l G d M_MT_many [.ref x, .int w] h c n (pK G h x k (.int (oI (mny Pt w))) t Ns Cs il lv Pt) := by
  obtain ⟨ta, va, m, na, ca, ea, ch, pa, as, kas, cas, hM, hv, hc, hn⟩ := id hI
  refine (c_many hd hM).mono ?_
  rintro v h' c' n' ⟨rfl, rfl, rfl, rfl⟩
  exact ⟨rfl, xapR.rf, hI.next⟩
theorem K_inClass (hd : 2 ≤ d) {w u : Int32} (hI : CI G h x k c n t Ns Cs il lv Pt) : XM l G d M_MT_inClass [.ref x, .int w, .int u] h c n (pK G h x k (.int (bI (inC Cs Pt w u))) t Ns Cs il lv Pt) := by
  obtain ⟨ta, va, m, na, ca, ea, ch, pa, as, kas, cas, hM, hv, hc, hn⟩ := id hI
  refine (c_inClass hd hM).mono ?_
  rintro v h' c' n' ⟨rfl, rfl, rfl, rfl⟩
  exact ⟨rfl, xapR.rf, hI.next⟩
theorem K_sample (hd : 3 ≤ d) {w u : Int32} (hI : CI G h x k c n t Ns Cs il lv Pt) : XM l G d M_MT_sample [.ref x, .int w, .int u] h c n (pK G h x k (.int (oI (smp Ns Pt w u))) t Ns Cs il lv Pt) := by
  obtain ⟨ta, va, m, na, ca, ea, ch, pa, as, kas, cas, hM, hv, hc, hn⟩ := id hI
  refine (c_sample hd hM).mono ?_
  rintro v h' c' n' ⟨rfl, rfl, rfl, rfl⟩
  exact ⟨rfl, xapR.rf, hI.next⟩
abbrev lyR (vs st sa : List Nat) : LyT := ((vs, 0), st, sa, 1)
abbrev pKF (G : XG) (h : XH) (x k : Nat) (A : LyT → Int32) (S : Nat) (t : List Nat) (Ns : List NmT) (Cs : List CnT) (il : Option Nat) (lv : Nat → Nat) (Pt : PtT) : Option Value → XH → Nat → Nat → Prop := fun v h' c' n' => (∃ vs st sa : List Nat, vs.length = 356 ∧ st.length = 6 ∧ sa.length = 6 ∧ v = some (.int (A (lyS Ns Cs S (lyR vs st sa) 6)))) ∧ xapR h h' ∧ CI G h' x (k + 1) c' n' t Ns Cs il lv Pt
theorem pFd.K {ta va m na ca ea ch pa : Nat} {as kas cas : List Nat} {A : LyT → Int32} {S : Nat} {v : Option Value} {h' : XH} {c' n' : Nat} (hI : CI G h x k c n t Ns Cs il lv Pt) (hm : c + 46 * t.length ≤ 100 + 316 * k + m ∧ n + 2014 * t.length ≤ 25000 + 5114 * k + 2 * m) (hp : pFd G h x ta va m na ca ea ch pa as kas cas t Ns Cs il lv Pt c n A S v h' c' n') : pKF G h x k A S t Ns Cs il lv Pt v h' c' n' := by
  obtain ⟨ta1, va1, m1, na1, ca1, ea1, ch1, pa1, as1, kas1, cas1, hM1, hv, hc, hn⟩ := hI
  obtain ⟨vs, st, sa, g1, g2, g3, rfl, hM', hx, rfl, rfl⟩ := hp
  exact ⟨⟨vs, st, sa, g1, g2, g3, rfl⟩, hx.R (by decide), ta, va, m, na, ca, ea, ch, pa, as, kas, cas, hM', hv, by omega, by omega⟩
theorem K_ever (hd : 165 ≤ d) {w : Int32} (hI : CI G h x k c n t Ns Cs il lv Pt) : XM l G d M_MT_ever [.ref x, .int w] h c n (pKF G h x k (fun r => if (iAt w Cs).isSome then fnd Cs (2 ^ w.toNatClampNeg) (2 ^ w.toNatClampNeg) 0 r else -1) (2 ^ w.toNatClampNeg) t Ns Cs il lv Pt) := by
  obtain ⟨ta, va, m, na, ca, ea, ch, pa, as, kas, cas, hM, hv, hc, hn⟩ := id hI
  exact (c_ever hd hM hv).mono (fun v h' c' n' hp => pFd.K hI ⟨hc, hn⟩ hp)
theorem K_implies (hd : 165 ≤ d) {a b : Int32} (hI : CI G h x k c n t Ns Cs il lv Pt) : XM l G d M_MT_implies [.ref x, .int a, .int b] h c n (pKF G h x k (fun r => if (iAt a Cs).isSome ∧ (iAt b Cs).isSome then (if fnd Cs (2 ^ a.toNatClampNeg ||| 2 ^ b.toNatClampNeg) (2 ^ a.toNatClampNeg) (2 ^ b.toNatClampNeg) r = -1 then -1 else 1 - fnd Cs (2 ^ a.toNatClampNeg ||| 2 ^ b.toNatClampNeg) (2 ^ a.toNatClampNeg) (2 ^ b.toNatClampNeg) r) else -1) (2 ^ a.toNatClampNeg ||| 2 ^ b.toNatClampNeg) t Ns Cs il lv Pt) := by
  obtain ⟨ta, va, m, na, ca, ea, ch, pa, as, kas, cas, hM, hv, hc, hn⟩ := id hI
  exact (c_implies hd hM hv).mono (fun v h' c' n' hp => pFd.K hI ⟨hc, hn⟩ hp)
theorem K_apart (hd : 165 ≤ d) {a b : Int32} (hI : CI G h x k c n t Ns Cs il lv Pt) : XM l G d M_MT_apart [.ref x, .int a, .int b] h c n (pKF G h x k (fun r => if (iAt a Cs).isSome ∧ (iAt b Cs).isSome then (if fnd Cs (2 ^ a.toNatClampNeg ||| 2 ^ b.toNatClampNeg) (2 ^ a.toNatClampNeg ||| 2 ^ b.toNatClampNeg) 0 r = -1 then -1 else 1 - fnd Cs (2 ^ a.toNatClampNeg ||| 2 ^ b.toNatClampNeg) (2 ^ a.toNatClampNeg ||| 2 ^ b.toNatClampNeg) 0 r) else -1) (2 ^ a.toNatClampNeg ||| 2 ^ b.toNatClampNeg) t Ns Cs il lv Pt) := by
  obtain ⟨ta, va, m, na, ca, ea, ch, pa, as, kas, cas, hM, hv, hc, hn⟩ := id hI
  exact (c_apart hd hM hv).mono (fun v h' c' n' hp => pFd.K hI ⟨hc, hn⟩ hp)
theorem K_classes (hd : 165 ≤ d) {w : Int32} (hI : CI G h x k c n t Ns Cs il lv Pt) : XM l G d M_MT_classes [.ref x, .int w] h c n (fun v h' c' n' => ∃ vs st sa : List Nat, vs.length = 356 ∧ st.length = 6 ∧ sa.length = 6 ∧ v = some (.int (if (lyS Ns Cs (stN w Cs.length) (lyR vs st sa) 6).2.2.2 ≤ 20000 then nI (clP Cs (stN w Cs.length) (lyS Ns Cs (stN w Cs.length) (lyR vs st sa) 6) Pt).1 else -1)) ∧ xapR h h' ∧ CI G h' x (k + 1) c' n' t Ns Cs il lv (clP Cs (stN w Cs.length) (lyS Ns Cs (stN w Cs.length) (lyR vs st sa) 6) Pt)) := by
  obtain ⟨ta, va, m, na, ca, ea, ch, pa, as, kas, cas, hM, hv, hc, hn⟩ := hI
  refine (c_classes hd hM hv).mono ?_
  rintro v h' c' n' ⟨vs, st, sa, g1, g2, g3, rfl, hM', hx, rfl, rfl⟩
  exact ⟨vs, st, sa, g1, g2, g3, rfl, hx.R (by decide), ta, va, m, na, ca, ea, ch, pa, as, kas, cas, hM', hv, by omega, by omega⟩
end LW1
