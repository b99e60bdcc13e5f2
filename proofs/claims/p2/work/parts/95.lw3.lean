section

end
section LW3
variable {l : Launch} {G : XG} {h : XH} {c n d : Nat} {o : Nat} {rf : Nat → Nat} {S : MS}
/-- what the reference keeps between calls -/
def gOk (S : MS) : Prop := szOk S ∧ nmOk S ∧ csOk S ∧ clOk S
theorem clOk.sm {S' : MS} {js is ls : List Nat} (hC : clOk S) (h : rSm S S' js is ls) (hj : 42 ∉ js ∧ 44 ∉ js) : clOk S' := by
  unfold clOk
  rw [h.1 42 hj.1, h.1 44 hj.2]
  exact hC
theorem gOk.sm {S' : MS} {js is ls : List Nat} (hg : gOk S) (h : rSm S S' js is ls) (hj : ∀ j ∈ [2, 3, 11, 42, 44], j ∉ js) (hi : ∀ i ∈ [5, 7, 12, 13, 14, 15, 16, 17, 18, 19, 20, 21, 24, 26], i ∉ is) : gOk S' ∧ S'.1 2 = S.1 2 := by
  obtain ⟨h1, h2, h3, h4⟩ := hg
  have e2 := h.1 2 (hj 2 (by simp))
  refine ⟨⟨?_, h2.sm h (hj 3 (by simp)) ⟨hi 5 (by simp), hi 7 (by simp)⟩, h3.sm h (hj 11 (by simp)) (fun i hq => hi i (List.mem_cons_of_mem _ (List.mem_cons_of_mem _ hq))), h4.sm h ⟨hj 42 (by simp), hj 44 (by simp)⟩⟩, e2⟩
  unfold szOk
  rw [e2]
  exact h1
theorem gOk.new : gOk S0 := by
  have hz : ∀ (m : Nat) (i : Int), gd (List.replicate m 0) i = 0 := by
    intro m i
    unfold gd
    rw [List.getD_eq_getElem?_getD, List.getElem?_replicate]
    split <;> rfl
  refine ⟨⟨Int.le_refl _, by decide⟩, ⟨Int.le_refl _, by decide, fun i _ _ => ?_, fun i _ _ => ?_⟩, ⟨Int.le_refl _, by decide, fun c h0 h1 => ?_⟩, ⟨Int.le_refl _, by decide, Int.le_refl _, by decide⟩⟩
  · show 0 ≤ gd (List.replicate (rLn 5) 0) i ∧ gd (List.replicate (rLn 5) 0) i ≤ 8
    rw [hz]
    omega
  · show 0 ≤ gd (List.replicate (rLn 7) 0) i ∧ gd (List.replicate (rLn 7) 0) i ≤ 6
    rw [hz]
    omega
  · have : c < (0 : Int) := h1
    omega
/-- it answers with an int; the TEXT has z characters then -/
abbrev jQ (z : Int) : Option Value → MS → Prop := fun v S' => (∃ r, v = some (.int r)) ∧ gOk S' ∧ S'.1 2 = z
theorem J_type {cc : Nat} (hcc : cc < 65536) (hg : gOk S) : RM l G d M_Mo_type [.ref o, .int (nI cc)] o rf S (fun v S' => v = some (.int (bI (decide (32 ≤ cc ∧ cc ≤ 126 ∧ S.1 2 < 160)))) ∧ gOk S' ∧ S'.1 2 = if 32 ≤ cc ∧ cc ≤ 126 ∧ S.1 2 < 160 then S.1 2 + 1 else S.1 2) := by
  rw [← zI_nI (by omega)]
  refine (r_type ⟨by omega, by omega⟩ hg.1).mono ?_
  rintro v S' (⟨rfl, hq, rfl⟩ | ⟨rfl, hq, rfl⟩)
  · have hq' : 32 ≤ cc ∧ cc ≤ 126 ∧ S.1 2 < 160 := ⟨by omega, by omega, hq.2.2⟩
    rw [if_pos hq', decide_eq_true hq']
    obtain ⟨h1, h2, h3, h4⟩ := hg
    have hr : rSm S (sp (sa (sp S 0 0) 1 (se (S.2.1 1) (S.1 2) cc)) 2 (S.1 2 + 1)) [0, 2] [1] [] := ((rSm.r0.sp (by simp)).sa (by simp)).sp (by simp)
    refine ⟨rfl, ⟨?_, h2.sm hr (by decide) (by decide), h3.sm hr (by decide) (by decide), h4.sm hr (by decide)⟩, rfl⟩
    unfold szOk at h1 ⊢
    show 0 ≤ S.1 2 + 1 ∧ S.1 2 + 1 ≤ 160
    omega
  · have hq' : ¬ (32 ≤ cc ∧ cc ≤ 126 ∧ S.1 2 < 160) := fun z => hq ⟨by omega, by omega, z.2.2⟩
    rw [if_neg hq', decide_eq_false hq']
    exact ⟨rfl, hg.sm (js := [0]) (is := []) (ls := []) (rSm.r0.sp (by simp)) (by decide) (by decide)⟩
theorem J_place (hg : gOk S) : RM l G d M_Mo_place [.ref o] o rf S (jQ (S.1 2)) := by
  refine r_place.mono ?_
  rintro v S' ⟨rfl, rfl⟩
  exact ⟨⟨_, rfl⟩, hg.sm (js := [0]) (is := []) (ls := []) (rSm.r0.sp (by simp)) (by decide) (by decide)⟩
theorem gOk.z {S' : MS} (h1 : S'.1 2 = 0) (h2 : nmOk S') (h3 : csOk S') (h4 : clOk S') : gOk S' := ⟨⟨by omega, by omega⟩, h2, h3, h4⟩
theorem J_name (hd : 2 ≤ d) {w : Int32} (hg : gOk S) : RM l G d M_Mo_name [.ref o, .int w] o rf S (jQ 0) := by
  rw [← zI_of w]
  refine (r_name hd (inR_ti w) hg.1 hg.2.1).mono ?_
  rintro v S' ⟨⟨r, rfl⟩, h1, h2, h3⟩
  exact ⟨⟨_, rfl⟩, gOk.z h1 h2 (hg.2.2.1.sm h3 (by decide) (by decide)) (hg.2.2.2.sm h3 (by decide)), h1⟩
theorem J_value (hd : 3 ≤ d) {w : Int32} (hg : gOk S) : RM l G d M_Mo_value [.ref o, .int w] o rf S (jQ 0) := by
  rw [← zI_of w]
  refine (r_value hd (inR_ti w) hg.1 hg.2.1).mono ?_
  rintro v S' ⟨⟨r, rfl⟩, h1, h2, h3⟩
  exact ⟨⟨_, rfl⟩, gOk.z h1 h2 (hg.2.2.1.sm h3 (by decide) (by decide)) (hg.2.2.2.sm h3 (by decide)), h1⟩
theorem J_condition (hd : 8 ≤ d) (hg : gOk S) : RM l G d M_Mo_condition [.ref o] o rf S (jQ 0) := by
  refine (r_condition hd hg.1 hg.2.1 hg.2.2.1).mono ?_
  rintro v S' ⟨⟨r, rfl⟩, h1, h2, h3, h4⟩
  refine ⟨⟨_, rfl⟩, gOk.z h1 h2 h3 ?_, h1⟩
  unfold clOk
  rw [h4 42 (by simp), h4 44 (by simp)]
  exact hg.2.2.2
theorem J_give (hd : 3 ≤ d) {w : Int32} (hg : gOk S) : RM l G d M_Mo_give [.ref o, .int w] o rf S (fun v S' => v = none ∧ gOk S' ∧ S'.1 2 = 0) := by
  rw [← zI_of w]
  refine (r_give hd (inR_ti w) hg.1 hg.2.1).mono ?_
  rintro v S' ⟨rfl, h1, h3⟩
  exact ⟨rfl, gOk.z h1 (hg.2.1.sm h3 (by decide) (by decide)) (hg.2.2.1.sm h3 (by decide) (by decide)) (hg.2.2.2.sm h3 (by decide)), h1⟩
theorem J_holds (hd : 3 ≤ d) {w : Int32} (hg : gOk S) : RM l G d M_Mo_holds [.ref o, .int w] o rf S (jQ (S.1 2)) := by
  rw [← zI_of w]
  refine (r_holds hd (inR_ti w) hg.2.2.1).mono ?_
  rintro v S' ⟨⟨r, rfl, -⟩, h3⟩
  exact ⟨⟨_, rfl⟩, hg.sm h3 (by decide) (by decide)⟩
theorem J_ever (hd : 5 ≤ d) {w : Int32} (hg : gOk S) : RM l G d M_Mo_ever [.ref o, .int w] o rf S (jQ (S.1 2)) := by
  rw [← zI_of w]
  refine (r_ever hd (inR_ti w) hg.2.1 hg.2.2.1).mono ?_
  rintro v S' ⟨⟨r, rfl⟩, h3⟩
  exact ⟨⟨_, rfl⟩, hg.sm h3 (by decide) (by decide)⟩
theorem J_implies (hd : 5 ≤ d) {w u : Int32} (hg : gOk S) : RM l G d M_Mo_implies [.ref o, .int w, .int u] o rf S (jQ (S.1 2)) := by
  rw [← zI_of w, ← zI_of u]
  refine (r_implies hd (inR_ti w) (inR_ti u) hg.2.1 hg.2.2.1).mono ?_
  rintro v S' ⟨⟨r, rfl⟩, h3⟩
  exact ⟨⟨_, rfl⟩, hg.sm h3 (by decide) (by decide)⟩
theorem J_apart (hd : 5 ≤ d) {w u : Int32} (hg : gOk S) : RM l G d M_Mo_apart [.ref o, .int w, .int u] o rf S (jQ (S.1 2)) := by
  rw [← zI_of w, ← zI_of u]
  refine (r_apart hd (inR_ti w) (inR_ti u) hg.2.1 hg.2.2.1).mono ?_
  rintro v S' ⟨⟨r, rfl⟩, h3⟩
  exact ⟨⟨_, rfl⟩, hg.sm h3 (by decide) (by decide)⟩
theorem J_classes (hd : 5 ≤ d) {w : Int32} (hg : gOk S) : RM l G d M_Mo_classes [.ref o, .int w] o rf S (jQ (S.1 2)) := by
  rw [← zI_of w]
  refine (r_classes hd (inR_ti w) hg.2.1 hg.2.2.1 hg.2.2.2).mono ?_
  rintro v S' ⟨⟨r, rfl⟩, h3, h4⟩
  have e2 := h3.1 2 (by decide)
  refine ⟨⟨_, rfl⟩, ⟨?_, hg.2.1.sm h3 (by decide) (by decide), hg.2.2.1.sm h3 (by decide) (by decide), h4⟩, e2⟩
  unfold szOk
  rw [e2]
  exact hg.1
theorem J_many (hd : 1 ≤ d) {w : Int32} (hg : gOk S) : RM l G d M_Mo_many [.ref o, .int w] o rf S (jQ (S.1 2)) := by
  rw [← zI_of w]
  refine (r_many hd (inR_ti w) hg.2.2.2).mono ?_
  rintro v S' ⟨⟨r, rfl⟩, rfl⟩
  exact ⟨⟨_, rfl⟩, hg.sm (js := [0]) (is := []) (ls := []) (rSm.r0.sp (by simp)) (by decide) (by decide)⟩
theorem J_inClass (hd : 1 ≤ d) {w u : Int32} (hg : gOk S) : RM l G d M_Mo_inClass [.ref o, .int w, .int u] o rf S (jQ (S.1 2)) := by
  rw [← zI_of w, ← zI_of u]
  refine (r_inClass hd (inR_ti w) (inR_ti u) hg.2.2.2).mono ?_
  rintro v S' ⟨⟨r, rfl, -⟩, rfl⟩
  exact ⟨⟨_, rfl⟩, hg.sm (js := [0]) (is := []) (ls := []) (rSm.r0.sp (by simp)) (by decide) (by decide)⟩
theorem J_sample (hd : 1 ≤ d) {w u : Int32} (hg : gOk S) : RM l G d M_Mo_sample [.ref o, .int w, .int u] o rf S (jQ (S.1 2)) := by
  rw [← zI_of w, ← zI_of u]
  refine (r_sample hd (inR_ti w) (inR_ti u) hg.2.2.2).mono ?_
  rintro v S' ⟨⟨r, rfl⟩, rfl⟩
  exact ⟨⟨_, rfl⟩, hg.sm (js := [0]) (is := []) (ls := []) (rSm.r0.sp (by simp)) (by decide) (by decide)⟩
theorem J_printed (hd : 4 ≤ d) {w u : Int32} (hg : gOk S) : RM l G d M_Mo_printed [.ref o, .int w, .int u] o rf S (jQ (S.1 2)) := by
  rw [← zI_of w, ← zI_of u]
  refine (r_printed hd (inR_ti w) (inR_ti u) hg.2.1 hg.2.2.1).mono ?_
  rintro v S' ⟨⟨r, rfl⟩, h3⟩
  exact ⟨⟨_, rfl⟩, hg.sm h3 (by decide) (by decide)⟩
end LW3
