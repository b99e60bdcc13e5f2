section
abbrev y_Mo_readNext : MethodName := ⟨"MarkerTextModel", "readNext", "()Z"⟩
abbrev M_Mo_readNext : XMt := (y_Mo_readNext, prog_13_method_34_code, 3, (some .boolean))
theorem d_Mo_readNext_9 : decode M_Mo_readNext.2.1 9 = .ok (.aload_n 0, 1) := by decide +kernel
theorem d_Mo_readNext_10 : decode M_Mo_readNext.2.1 10 = .ok (.iconst 2, 1) := by decide +kernel
theorem d_Mo_readNext_11 : decode M_Mo_readNext.2.1 11 = .ok (.invokevirtual 212, 3) := by decide +kernel
theorem d_Mo_readNext_14 : decode M_Mo_readNext.2.1 14 = .ok (.ifCond .ne 11, 3) := by decide +kernel
theorem d_Mo_readNext_25 : decode M_Mo_readNext.2.1 25 = .ok (.aload_n 0, 1) := by decide +kernel
theorem d_Mo_readNext_26 : decode M_Mo_readNext.2.1 26 = .ok (.invokevirtual 215, 3) := by decide +kernel
theorem d_Mo_readNext_29 : decode M_Mo_readNext.2.1 29 = .ok (.goto (-20), 3) := by decide +kernel
theorem d_Mo_readNext_17 : decode M_Mo_readNext.2.1 17 = .ok (.aload_n 0, 1) := by decide +kernel
theorem d_Mo_readNext_18 : decode M_Mo_readNext.2.1 18 = .ok (.iconst 3, 1) := by decide +kernel
theorem d_Mo_readNext_19 : decode M_Mo_readNext.2.1 19 = .ok (.invokevirtual 212, 3) := by decide +kernel
theorem d_Mo_readNext_22 : decode M_Mo_readNext.2.1 22 = .ok (.ifCond .eq 10, 3) := by decide +kernel
theorem d_Mo_readNext_32 : decode M_Mo_readNext.2.1 32 = .ok (.aload_n 0, 1) := by decide +kernel
theorem d_Mo_readNext_33 : decode M_Mo_readNext.2.1 33 = .ok (.iconst 4, 1) := by decide +kernel
theorem d_Mo_readNext_34 : decode M_Mo_readNext.2.1 34 = .ok (.invokevirtual 212, 3) := by decide +kernel
theorem d_Mo_readNext_37 : decode M_Mo_readNext.2.1 37 = .ok (.ifCond .ne 13, 3) := by decide +kernel
theorem d_Mo_readNext_50 : decode M_Mo_readNext.2.1 50 = .ok (.aload_n 0, 1) := by decide +kernel
theorem d_Mo_readNext_51 : decode M_Mo_readNext.2.1 51 = .ok (.dup, 1) := by decide +kernel
theorem d_Mo_readNext_52 : decode M_Mo_readNext.2.1 52 = .ok (.getfield 199, 3) := by decide +kernel
theorem d_Mo_readNext_55 : decode M_Mo_readNext.2.1 55 = .ok (.iconst 1, 1) := by decide +kernel
theorem d_Mo_readNext_56 : decode M_Mo_readNext.2.1 56 = .ok (.isub, 1) := by decide +kernel
theorem d_Mo_readNext_57 : decode M_Mo_readNext.2.1 57 = .ok (.putfield 199, 3) := by decide +kernel
theorem d_Mo_readNext_60 : decode M_Mo_readNext.2.1 60 = .ok (.aload_n 0, 1) := by decide +kernel
theorem d_Mo_readNext_61 : decode M_Mo_readNext.2.1 61 = .ok (.dup, 1) := by decide +kernel
theorem d_Mo_readNext_62 : decode M_Mo_readNext.2.1 62 = .ok (.getfield 202, 3) := by decide +kernel
theorem d_Mo_readNext_65 : decode M_Mo_readNext.2.1 65 = .ok (.iconst 1, 1) := by decide +kernel
theorem d_Mo_readNext_66 : decode M_Mo_readNext.2.1 66 = .ok (.isub, 1) := by decide +kernel
theorem d_Mo_readNext_67 : decode M_Mo_readNext.2.1 67 = .ok (.putfield 202, 3) := by decide +kernel
theorem d_Mo_readNext_70 : decode M_Mo_readNext.2.1 70 = .ok (.aload_n 0, 1) := by decide +kernel
theorem d_Mo_readNext_71 : decode M_Mo_readNext.2.1 71 = .ok (.dup, 1) := by decide +kernel
theorem d_Mo_readNext_72 : decode M_Mo_readNext.2.1 72 = .ok (.getfield 193, 3) := by decide +kernel
theorem d_Mo_readNext_75 : decode M_Mo_readNext.2.1 75 = .ok (.iconst 1, 1) := by decide +kernel
theorem d_Mo_readNext_76 : decode M_Mo_readNext.2.1 76 = .ok (.iadd, 1) := by decide +kernel
theorem d_Mo_readNext_77 : decode M_Mo_readNext.2.1 77 = .ok (.putfield 193, 3) := by decide +kernel
theorem d_Mo_readNext_80 : decode M_Mo_readNext.2.1 80 = .ok (.aload_n 0, 1) := by decide +kernel
theorem d_Mo_readNext_81 : decode M_Mo_readNext.2.1 81 = .ok (.invokevirtual 238, 3) := by decide +kernel
theorem d_Mo_readNext_84 : decode M_Mo_readNext.2.1 84 = .ok (.iconst 0, 1) := by decide +kernel
theorem d_Mo_readNext_85 : decode M_Mo_readNext.2.1 85 = .ok (.ireturn, 1) := by decide +kernel
theorem d_Mo_readNext_40 : decode M_Mo_readNext.2.1 40 = .ok (.aload_n 0, 1) := by decide +kernel
theorem d_Mo_readNext_41 : decode M_Mo_readNext.2.1 41 = .ok (.aload_n 0, 1) := by decide +kernel
theorem d_Mo_readNext_42 : decode M_Mo_readNext.2.1 42 = .ok (.getfield 193, 3) := by decide +kernel
theorem d_Mo_readNext_45 : decode M_Mo_readNext.2.1 45 = .ok (.invokevirtual 218, 3) := by decide +kernel
theorem d_Mo_readNext_48 : decode M_Mo_readNext.2.1 48 = .ok (.iconst 0, 1) := by decide +kernel
theorem d_Mo_readNext_49 : decode M_Mo_readNext.2.1 49 = .ok (.ireturn, 1) := by decide +kernel
theorem d_Mo_readNext_137 : decode M_Mo_readNext.2.1 137 = .ok (.aload_n 0, 1) := by decide +kernel
theorem d_Mo_readNext_138 : decode M_Mo_readNext.2.1 138 = .ok (.iconst 2, 1) := by decide +kernel
theorem d_Mo_readNext_139 : decode M_Mo_readNext.2.1 139 = .ok (.invokevirtual 212, 3) := by decide +kernel
theorem d_Mo_readNext_142 : decode M_Mo_readNext.2.1 142 = .ok (.ifCond .ne 16, 3) := by decide +kernel
theorem d_Mo_readNext_158 : decode M_Mo_readNext.2.1 158 = .ok (.aload_n 0, 1) := by decide +kernel
theorem d_Mo_readNext_159 : decode M_Mo_readNext.2.1 159 = .ok (.invokevirtual 215, 3) := by decide +kernel
theorem d_Mo_readNext_162 : decode M_Mo_readNext.2.1 162 = .ok (.goto (-25), 3) := by decide +kernel
theorem d_Mo_readNext_145 : decode M_Mo_readNext.2.1 145 = .ok (.iload_n 2, 1) := by decide +kernel
theorem d_Mo_readNext_146 : decode M_Mo_readNext.2.1 146 = .ok (.iconst 3, 1) := by decide +kernel
theorem d_Mo_readNext_147 : decode M_Mo_readNext.2.1 147 = .ok (.if_icmp .ne 18, 3) := by decide +kernel
theorem d_Mo_readNext_165 : decode M_Mo_readNext.2.1 165 = .ok (.aload_n 0, 1) := by decide +kernel
theorem d_Mo_readNext_166 : decode M_Mo_readNext.2.1 166 = .ok (.iload_n 2, 1) := by decide +kernel
theorem d_Mo_readNext_167 : decode M_Mo_readNext.2.1 167 = .ok (.invokevirtual 222, 3) := by decide +kernel
theorem d_Mo_readNext_170 : decode M_Mo_readNext.2.1 170 = .ok (.aload_n 0, 1) := by decide +kernel
theorem d_Mo_readNext_171 : decode M_Mo_readNext.2.1 171 = .ok (.dup, 1) := by decide +kernel
theorem d_Mo_readNext_172 : decode M_Mo_readNext.2.1 172 = .ok (.getfield 193, 3) := by decide +kernel
theorem d_Mo_readNext_175 : decode M_Mo_readNext.2.1 175 = .ok (.iload_n 1, 1) := by decide +kernel
theorem d_Mo_readNext_176 : decode M_Mo_readNext.2.1 176 = .ok (.iadd, 1) := by decide +kernel
theorem d_Mo_readNext_177 : decode M_Mo_readNext.2.1 177 = .ok (.putfield 193, 3) := by decide +kernel
theorem d_Mo_readNext_180 : decode M_Mo_readNext.2.1 180 = .ok (.iconst 1, 1) := by decide +kernel
theorem d_Mo_readNext_181 : decode M_Mo_readNext.2.1 181 = .ok (.ireturn, 1) := by decide +kernel
theorem d_Mo_readNext_150 : decode M_Mo_readNext.2.1 150 = .ok (.aload_n 0, 1) := by decide +kernel
theorem d_Mo_readNext_151 : decode M_Mo_readNext.2.1 151 = .ok (.iconst 3, 1) := by decide +kernel
theorem d_Mo_readNext_152 : decode M_Mo_readNext.2.1 152 = .ok (.invokevirtual 212, 3) := by decide +kernel
theorem d_Mo_readNext_155 : decode M_Mo_readNext.2.1 155 = .ok (.ifCond .eq 10, 3) := by decide +kernel
theorem d_Mo_readNext_116 : decode M_Mo_readNext.2.1 116 = .ok (.istore_n 2, 1) := by decide +kernel
theorem d_Mo_readNext_117 : decode M_Mo_readNext.2.1 117 = .ok (.iload_n 2, 1) := by decide +kernel
theorem d_Mo_readNext_118 : decode M_Mo_readNext.2.1 118 = .ok (.iconst 2, 1) := by decide +kernel
theorem d_Mo_readNext_119 : decode M_Mo_readNext.2.1 119 = .ok (.if_icmp .eq 18, 3) := by decide +kernel
theorem d_Mo_readNext_122 : decode M_Mo_readNext.2.1 122 = .ok (.iload_n 2, 1) := by decide +kernel
theorem d_Mo_readNext_123 : decode M_Mo_readNext.2.1 123 = .ok (.iconst 3, 1) := by decide +kernel
theorem d_Mo_readNext_124 : decode M_Mo_readNext.2.1 124 = .ok (.if_icmp .eq 13, 3) := by decide +kernel
theorem d_Mo_readNext_127 : decode M_Mo_readNext.2.1 127 = .ok (.aload_n 0, 1) := by decide +kernel
theorem d_Mo_readNext_128 : decode M_Mo_readNext.2.1 128 = .ok (.aload_n 0, 1) := by decide +kernel
theorem d_Mo_readNext_129 : decode M_Mo_readNext.2.1 129 = .ok (.getfield 193, 3) := by decide +kernel
theorem d_Mo_readNext_132 : decode M_Mo_readNext.2.1 132 = .ok (.invokevirtual 218, 3) := by decide +kernel
theorem d_Mo_readNext_135 : decode M_Mo_readNext.2.1 135 = .ok (.iconst 0, 1) := by decide +kernel
theorem d_Mo_readNext_136 : decode M_Mo_readNext.2.1 136 = .ok (.ireturn, 1) := by decide +kernel
theorem d_Mo_readNext_0 : decode M_Mo_readNext.2.1 0 = .ok (.aload_n 0, 1) := by decide +kernel
theorem d_Mo_readNext_1 : decode M_Mo_readNext.2.1 1 = .ok (.invokevirtual 228, 3) := by decide +kernel
theorem d_Mo_readNext_4 : decode M_Mo_readNext.2.1 4 = .ok (.bipush 41, 2) := by decide +kernel
theorem d_Mo_readNext_6 : decode M_Mo_readNext.2.1 6 = .ok (.if_icmp .ne 80, 3) := by decide +kernel
theorem d_Mo_readNext_86 : decode M_Mo_readNext.2.1 86 = .ok (.aload_n 0, 1) := by decide +kernel
theorem d_Mo_readNext_87 : decode M_Mo_readNext.2.1 87 = .ok (.aload_n 0, 1) := by decide +kernel
theorem d_Mo_readNext_88 : decode M_Mo_readNext.2.1 88 = .ok (.getfield 193, 3) := by decide +kernel
theorem d_Mo_readNext_91 : decode M_Mo_readNext.2.1 91 = .ok (.invokevirtual 241, 3) := by decide +kernel
theorem d_Mo_readNext_94 : decode M_Mo_readNext.2.1 94 = .ok (.istore_n 1, 1) := by decide +kernel
theorem d_Mo_readNext_95 : decode M_Mo_readNext.2.1 95 = .ok (.iload_n 1, 1) := by decide +kernel
theorem d_Mo_readNext_96 : decode M_Mo_readNext.2.1 96 = .ok (.ifCond .le 19, 3) := by decide +kernel
theorem d_Mo_readNext_115 : decode M_Mo_readNext.2.1 115 = .ok (.iconst 0, 1) := by decide +kernel
theorem d_Mo_readNext_99 : decode M_Mo_readNext.2.1 99 = .ok (.aload_n 0, 1) := by decide +kernel
theorem d_Mo_readNext_100 : decode M_Mo_readNext.2.1 100 = .ok (.aload_n 0, 1) := by decide +kernel
theorem d_Mo_readNext_101 : decode M_Mo_readNext.2.1 101 = .ok (.aload_n 0, 1) := by decide +kernel
theorem d_Mo_readNext_102 : decode M_Mo_readNext.2.1 102 = .ok (.getfield 193, 3) := by decide +kernel
theorem d_Mo_readNext_105 : decode M_Mo_readNext.2.1 105 = .ok (.iload_n 1, 1) := by decide +kernel
theorem d_Mo_readNext_106 : decode M_Mo_readNext.2.1 106 = .ok (.invokevirtual 154, 3) := by decide +kernel
theorem d_Mo_readNext_109 : decode M_Mo_readNext.2.1 109 = .ok (.invokevirtual 158, 3) := by decide +kernel
theorem d_Mo_readNext_112 : decode M_Mo_readNext.2.1 112 = .ok (.goto 4, 3) := by decide +kernel
end
section RF10
variable {l : Launch} {G : XG} {h : XH} {c n d : Nat} {o : Nat} {rf : Nat → Nat} {S : MS}
theorem onT {r k : Int} {P : List Int} (h : (r = 1 ∧ ∃ P', P = k :: P') ∨ (r = 0 ∧ ¬ ∃ P', P = k :: P')) (hr : ¬ r = 0) : ∃ P', P = k :: P' := by
  rcases h with ⟨-, z⟩ | ⟨z, -⟩
  · exact z
  · exact absurd z hr
theorem onF {r k : Int} {P : List Int} (h : (r = 1 ∧ ∃ P', P = k :: P') ∨ (r = 0 ∧ ¬ ∃ P', P = k :: P')) (hr : r = 0) : ∀ P', P ≠ k :: P' := by
  rcases h with ⟨z, -⟩ | ⟨-, z⟩
  · omega
  · exact fun P' e => z ⟨P', e⟩
/-- between two applies -/
def LJ (S S1 : MS) (P R : List Int) (w : Int → Int) : Prop := rdOk S1 P R w ∧ (R.length : Int) = cnt 2 P + cnt 3 P + 1 ∧ rSm S S1 apJ apA [] ∧ agO S S1 (S.1 28) ∧ S1.1 33 ≤ S.1 33
theorem LJ.step {S1 : MS} {P R : List Int} {w : Int → Int} {k : Int} (hL : LJ S S1 (k :: P) R w) (hk : k = 2 ∨ k = 3) : ∃ a b R', R = b :: a :: R' ∧ ∀ S', apQ S1 P R' none S' → ∃ w', LJ S S' P (nxN S1 :: R') w' := by
  obtain ⟨h1, h2, h3, h4, h5⟩ := hL
  have c2 := cnt_nn 2 P
  have c3 := cnt_nn 3 P
  simp only [cnt] at h2
  match R, h2 with
  | [], h2 => rcases hk with rfl | rfl <;> simp at h2 <;> omega
  | [b], h2 => rcases hk with rfl | rfl <;> simp at h2 <;> omega
  | b :: a :: R', h2 =>
    refine ⟨a, b, R', rfl, fun S' hq => ?_⟩
    obtain ⟨-, ⟨w', q1⟩, q2, q3⟩ := hq
    have f28 := h3.1 28 (by decide)
    rw [f28] at q3
    have e1 := h1.2.2.2.2.2.1.1
    have e2 := q1.2.2.2.2.2.1.1
    simp only [cnt] at e1
    refine ⟨w', q1, ?_, h3.tr q2, h4.tr q3, ?_⟩
    · rcases hk with rfl | rfl <;> simp at h2 ⊢ <;> omega
    · rcases hk with rfl | rfl <;> simp at e1 <;> omega
/-- a bracket is closed -/
theorem rd_pop {S1 S2 : MS} {P R : List Int} {w : Int → Int} (hS : rdOk S1 (4 :: P) R w) {js is ls : List Nat} (hK : rSm S1 S2 js is ls) (hj : ∀ j ∈ [2, 3, 28, 35], j ∉ js) (hi : ∀ i ∈ [5, 7, 12, 13, 14, 15, 16, 17, 18, 19, 20, 21, 24, 26, 31, 34], i ∉ is) (e32 : S2.1 32 = S1.1 32 - 1) (e33 : S2.1 33 = S1.1 33 - 1) (h0 : S1.1 27 ≤ S2.1 27) (h27 : S2.1 27 ≤ S1.1 2 + 1) : rdOk S2 P R w := by
  obtain ⟨s1, s2, s3, s4, ⟨s5, s6, s7⟩, ⟨s8, s9⟩, ⟨s10, s11, s12⟩, ⟨s13, s13b⟩, s14, s15, s16, s17⟩ := hS
  have f2 := hK.1 2 (hj 2 (by decide))
  have f3 := hK.1 3 (hj 3 (by decide))
  have f28 := hK.1 28 (hj 28 (by decide))
  have f35 := hK.1 35 (hj 35 (by decide))
  have g5 := hK.2.1 5 (hi 5 (by decide))
  have g7 := hK.2.1 7 (hi 7 (by decide))
  have g15 := hK.2.1 15 (hi 15 (by decide))
  have g21 := hK.2.1 21 (hi 21 (by decide))
  have g26 := hK.2.1 26 (hi 26 (by decide))
  have g31 := hK.2.1 31 (hi 31 (by decide))
  have g34 := hK.2.1 34 (hi 34 (by decide))
  have ag : agr S1 S2 (S1.1 28) := agr.sm hK (fun i hi' => hi i ((by decide : ∀ i ∈ [12, 13, 14, 15, 16, 17, 18, 19, 20, 21, 24, 26], i ∈ [5, 7, 12, 13, 14, 15, 16, 17, 18, 19, 20, 21, 24, 26, 31, 34]) i hi'))
  have hpt := s14.agr ag
  simp only [cnt] at s8 s13b s15 s17
  simp at s8 s13b s15 s17
  have hl : S1.1 32 = (P.length : Int) + 1 := by rw [s5]; simp
  unfold rdOk
  rw [f28, f2, f35, g15, g21, g26, g31, g34, e32, e33]
  refine ⟨?_, ?_, s3, by omega, ⟨by omega, s6.2, s7.tl⟩, ⟨by omega, by omega⟩, ⟨s10, s11, s12⟩, ⟨s13, by omega⟩, hpt, by omega, by omega, by omega⟩
  · unfold szOk; rw [f2]; exact s1
  · unfold nmOk; rw [f3, g5, g7]; exact s2
/-- how readNext() ends -/
abbrev rnQ (S : MS) : Option Value → MS → Prop := fun v S' => ∃ r : Int, v = some (.int (zI r)) ∧ (r = 0 ∨ r = 1) ∧ rSm S S' rtJ (31 :: rtA) [22] ∧ agO S S' (S.1 28) ∧ S.1 27 ≤ S'.1 27 ∧ ((0 ≤ S'.1 29 ∧ S'.1 27 ≤ S.1 2 + 1) ∨ (S'.1 29 < 0 ∧ S'.1 27 ≤ S.1 2 ∧ S.1 27 + 1 ≤ S'.1 27 ∧ S'.1 33 ≤ 12 ∧ ∃ P' R' w', rdOk S' P' R' w' ∧ (R'.length : Int) = cnt 2 P' + cnt 3 P' + (1 - r)))
theorem r_readNext (hd : 6 ≤ d) {P R : List Int} {w : Int → Int} (hS : rdOk S P R w) (hf : (R.length : Int) = cnt 2 P + cnt 3 P + 1) (h27 : S.1 27 ≤ S.1 2) (hw : S.1 29 < 0) (h33 : S.1 33 ≤ 12) : RM l G d M_Mo_readNext [.ref o] o rf S (rnQ S) := by
  obtain ⟨d, rfl⟩ : ∃ q, d = q + 1 := ⟨d - 1, by omega⟩
  intro H0 c n hR
  refine XM.of (by decide +kernel) (Nat.le_of_ble_eq_true rfl) ?_
  have hX : xonly H0 H0 RKs := xonly.rf
  obtain ⟨s1, s2, s3, s4, -⟩ := id hS
  obtain ⟨z1, z2⟩ := id s1
  have hL0 : LJ S S P R w := ⟨hS, hf, rSm.r0, agO.r0, Int.le_refl _⟩
  have l31 : _ = 80 := hR.len 31 (by decide)
  -- a fault
  have hfl : ∀ (S1 : MS) (a : Int), rSm S S1 apJ apA [] → agO S S1 (S.1 28) → 0 ≤ a → rnQ S (some (.int (zI 0))) (sp S1 29 a) := fun S1 a h1 h2 ha => ⟨0, rfl, Or.inl rfl, (h1.mono (by decide) (by decide) (by decide)).tr (rSm.r0.sp (by decide)), h2.tr (agO.sm ((rSm.r0 (js := [29]) (is := []) (ls := [])).sp (by decide)) (by decide)), by show S.1 27 ≤ S1.1 27; rw [h1.1 27 (by decide)]; omega, Or.inl ⟨ha, by show S1.1 27 ≤ _; rw [h1.1 27 (by decide)]; omega⟩⟩
  -- a closing bracket
  have bd9 : S.1 27 < S.1 2 → ∀ (S1 : MS) (P1 R1 : List Int) (w1 : Int → Int), LJ S S1 P1 R1 w1 → (∀ (S2 : MS) (P2 R2 : List Int) (w2 : Int → Int), P2.length < P1.length → LJ S S2 P2 R2 w2 → RX l G M_Mo_readNext (d + 1) 9 [some (.ref o), none, none] [] H0 o rf c n S2 (rnQ S)) → RX l G M_Mo_readNext (d + 1) 9 [some (.ref o), none, none] [] H0 o rf c n S1 (rnQ S) := by
    intro hat S1 P1 R1 w1 hL nx h hR hX
    obtain ⟨y1, y2, y3⟩ := hL.1.pl
    have f2 := hL.2.2.1.1 2 (by decide)
    have f27 := hL.2.2.1.1 27 (by decide)
    have f29 := hL.2.2.1.1 29 (by decide)
    have f28 := hL.2.2.1.1 28 (by decide)
    have h33' := hL.2.2.2.2
    refine x_aload_n d_Mo_readNext_9 rfl rfl ?_
    refine x_iconst (v := zI 2) d_Mo_readNext_10 (by decide) ?_
    refine x_callV (As := [_]) (k := k_MarkerTextModel) rfl xcv_Mo_212_Mo (Or.inl hR.1) (RM.ap hR (r_isOnTop (by decide) y1 y2 (by omega))) rfl rfl (Nat.le_of_ble_eq_true rfl) d_Mo_readNext_11 ?_
    rintro v11 h cq nq ⟨S11, hR, hX11, rfl, rfl, hE11, r11, rfl, hr11⟩
    replace hE11 := Eq.symm hE11
    subst hE11
    replace hX := hX.tr hX11
    have hb11 : r11 = 0 ∨ r11 = 1 := by rcases hr11 with ⟨z, -⟩ | ⟨z, -⟩ <;> omega
    refine z_if_ne (tgt := 25) d_Mo_readNext_14 (by decide) (by omega) (fun hc14 => ?_) (fun hc14 => ?_)
    · obtain ⟨k25, P25, hk25, rfl⟩ : ∃ k P', (k = 2 ∨ k = 3) ∧ P1 = k :: P' := by first | exact (onT hr11 hc14).elim (fun P' e => ⟨2, P', Or.inl rfl, e⟩) | exact (onT hr19 hc22).elim (fun P' e => ⟨3, P', Or.inr rfl, e⟩)
      obtain ⟨a25, b25, R25, rfl, st25⟩ := hL.step hk25
      refine x_aload_n d_Mo_readNext_25 rfl rfl ?_
      refine x_callV (As := []) (k := k_MarkerTextModel) rfl xcv_Mo_215_Mo (Or.inl hR.1) (RM.ap hR (r_apply (a := a25) (b := b25) (R' := R25) (by omega) hL.1 (Or.inr ⟨hk25, rfl⟩))) rfl rfl (Nat.le_of_ble_eq_true rfl) d_Mo_readNext_26 ?_
      rintro v26 h cq nq ⟨S26, hR, hX26, rfl, rfl, rfl, hq26⟩
      replace hX := hX.tr hX26
      refine x_goto (tgt := 9) d_Mo_readNext_29 (by decide) ?_
      obtain ⟨w26, hL26⟩ := st25 _ ⟨rfl, hq26⟩
      exact nx _ _ _ _ (by simp) hL26 _ hR hX
    · refine x_aload_n d_Mo_readNext_17 rfl rfl ?_
      refine x_iconst (v := zI 3) d_Mo_readNext_18 (by decide) ?_
      refine x_callV (As := [_]) (k := k_MarkerTextModel) rfl xcv_Mo_212_Mo (Or.inl hR.1) (RM.ap hR (r_isOnTop (by decide) y1 y2 (by omega))) rfl rfl (Nat.le_of_ble_eq_true rfl) d_Mo_readNext_19 ?_
      rintro v19 h cq nq ⟨S19, hR, hX19, rfl, rfl, hE19, r19, rfl, hr19⟩
      replace hE19 := Eq.symm hE19
      subst hE19
      replace hX := hX.tr hX19
      have hb19 : r19 = 0 ∨ r19 = 1 := by rcases hr19 with ⟨z, -⟩ | ⟨z, -⟩ <;> omega
      refine z_if_eq (tgt := 32) d_Mo_readNext_22 (by decide) (by omega) (fun hc22 => ?_) (fun hc22 => ?_)
      · refine x_aload_n d_Mo_readNext_32 rfl rfl ?_
        refine x_iconst (v := zI 4) d_Mo_readNext_33 (by decide) ?_
        refine x_callV (As := [_]) (k := k_MarkerTextModel) rfl xcv_Mo_212_Mo (Or.inl hR.1) (RM.ap hR (r_isOnTop (by decide) y1 y2 (by omega))) rfl rfl (Nat.le_of_ble_eq_true rfl) d_Mo_readNext_34 ?_
        rintro v34 h cq nq ⟨S34, hR, hX34, rfl, rfl, hE34, r34, rfl, hr34⟩
        replace hE34 := Eq.symm hE34
        subst hE34
        replace hX := hX.tr hX34
        have hb34 : r34 = 0 ∨ r34 = 1 := by rcases hr34 with ⟨z, -⟩ | ⟨z, -⟩ <;> omega
        refine z_if_ne (tgt := 50) d_Mo_readNext_37 (by decide) (by omega) (fun hc37 => ?_) (fun hc37 => ?_)
        · obtain ⟨P50, rfl⟩ := onT hr34 hc37
          have h33b := hL.1.2.2.2.2.2.1.1
          have h33c := cnt_nn 1 (4 :: P50)
          have h33d := cnt_nn 4 (4 :: P50)
          refine x_aload_n d_Mo_readNext_50 rfl rfl ?_
          refine x_dup d_Mo_readNext_51 rfl ?_
          refine x_get xf_Mo_199_Mo (Or.inl hR.1) (v := .int (zI (S1.1 32))) rfl d_Mo_readNext_52 ?_
          have hb52 : inR (S1.1 32) := hR.2.2.2 32
          refine x_iconst (v := zI 1) d_Mo_readNext_55 (by decide) ?_
          refine z_isub d_Mo_readNext_56 ?_
          refine r_put xf_Mo_199_Mo xp_Mo_32 hR hX (by omega) rfl rfl d_Mo_readNext_57 ?_
          intro h hR hX
          refine x_aload_n d_Mo_readNext_60 rfl rfl ?_
          refine x_dup d_Mo_readNext_61 rfl ?_
          refine x_get xf_Mo_202_Mo (Or.inl hR.1) (v := .int (zI (S1.1 33))) rfl d_Mo_readNext_62 ?_
          have hb62 : inR (S1.1 33) := hR.2.2.2 33
          refine x_iconst (v := zI 1) d_Mo_readNext_65 (by decide) ?_
          refine z_isub d_Mo_readNext_66 ?_
          refine r_put xf_Mo_202_Mo xp_Mo_33 hR hX (by omega) rfl rfl d_Mo_readNext_67 ?_
          intro h hR hX
          refine x_aload_n d_Mo_readNext_70 rfl rfl ?_
          refine x_dup d_Mo_readNext_71 rfl ?_
          refine x_get xf_Mo_193_Mo (Or.inl hR.1) (v := .int (zI (S1.1 27))) rfl d_Mo_readNext_72 ?_
          have hb72 : inR (S1.1 27) := hR.2.2.2 27
          refine x_iconst (v := zI 1) d_Mo_readNext_75 (by decide) ?_
          refine z_iadd d_Mo_readNext_76 ?_
          refine r_put xf_Mo_193_Mo xp_Mo_27 hR hX (by omega) rfl rfl d_Mo_readNext_77 ?_
          intro h hR hX
          refine x_aload_n d_Mo_readNext_80 rfl rfl ?_
          have hsm81 : rSm S1 (sp (sp (sp S1 32 (S1.1 32 - 1)) 33 (S1.1 33 - 1)) 27 (S1.1 27 + 1)) [27, 32, 33] [] [] := ((rSm.r0.sp (by decide)).sp (by decide)).sp (by decide)
          have hS81 := rd_pop hL.1 hsm81 (by decide) (by decide) rfl rfl (by show S1.1 27 ≤ S1.1 27 + 1; omega) (by show S1.1 27 + 1 ≤ S1.1 2 + 1; omega)
          have hR1 : 1 ≤ R1.length := by have := hL.2.1; have := cnt_nn 2 (4 :: P50); have := cnt_nn 3 (4 :: P50); omega
          refine x_callV (As := []) (k := k_MarkerTextModel) rfl xcv_Mo_238_Mo (Or.inl hR.1) (RM.ap hR (r_complete (S := sp (sp (sp S1 32 (S1.1 32 - 1)) 33 (S1.1 33 - 1)) 27 (S1.1 27 + 1)) (by omega) hS81 hR1)) rfl rfl (Nat.le_of_ble_eq_true rfl) d_Mo_readNext_81 ?_
          rintro v81 h cq nq ⟨S81, hR, hX81, rfl, rfl, rfl, P', R', w', hS', hr', hc2, hc3, h33'', hsm', hag'⟩
          replace hX := hX.tr hX81
          refine x_iconst (v := zI 0) d_Mo_readNext_84 (by decide) ?_
          refine x_zret d_Mo_readNext_85 rfl (z_nb (by omega)) ?_
          have hlen := hL.2.1
          simp only [cnt] at hlen
          simp at hlen
          have f27' : S81.1 27 = S1.1 27 + 1 := hsm'.1 27 (by decide)
          have f29' : S81.1 29 = S1.1 29 := hsm'.1 29 (by decide)
          replace h33'' : S81.1 33 ≤ S1.1 33 - 1 := h33''
          have hagB : agO S1 S81 (S.1 28) := by rw [← f28]; exact (agO.sm hsm81 (by decide)).tr hag'
          exact ⟨_, hR, hX, rfl, rfl, 0, rfl, Or.inl rfl, ((hL.2.2.1.mono (by decide) (by decide) (by decide)).tr (hsm81.mono (by decide) (by decide) (by decide))).tr (hsm'.mono (by decide) (by decide) (by decide)), hL.2.2.2.1.tr hagB, by omega, Or.inr ⟨by omega, by omega, by omega, by omega, P', R', w', hS', by omega⟩⟩
        · refine x_aload_n d_Mo_readNext_40 rfl rfl ?_
          refine x_aload_n d_Mo_readNext_41 rfl rfl ?_
          refine x_get xf_Mo_193_Mo (Or.inl hR.1) (v := .int (zI (S1.1 27))) rfl d_Mo_readNext_42 ?_
          have hb42 : inR (S1.1 27) := hR.2.2.2 27
          refine x_callV (As := [_]) (k := k_MarkerTextModel) rfl xcv_Mo_218_Mo (Or.inl hR.1) (RM.ap hR (r_fault (by omega))) rfl rfl (Nat.le_of_ble_eq_true rfl) d_Mo_readNext_45 ?_
          rintro v45 h cq nq ⟨S45, hR, hX45, rfl, rfl, a45, rfl, rfl, ha45⟩
          replace hX := hX.tr hX45
          refine x_iconst (v := zI 0) d_Mo_readNext_48 (by decide) ?_
          refine x_zret d_Mo_readNext_49 rfl (z_nb (by omega)) ?_
          exact ⟨_, hR, hX, rfl, rfl, hfl S1 a45 hL.2.2.1 hL.2.2.2.1 (by omega)⟩
      · obtain ⟨k25, P25, hk25, rfl⟩ : ∃ k P', (k = 2 ∨ k = 3) ∧ P1 = k :: P' := by first | exact (onT hr11 hc14).elim (fun P' e => ⟨2, P', Or.inl rfl, e⟩) | exact (onT hr19 hc22).elim (fun P' e => ⟨3, P', Or.inr rfl, e⟩)
        obtain ⟨a25, b25, R25, rfl, st25⟩ := hL.step hk25
        refine x_aload_n d_Mo_readNext_25 rfl rfl ?_
        refine x_callV (As := []) (k := k_MarkerTextModel) rfl xcv_Mo_215_Mo (Or.inl hR.1) (RM.ap hR (r_apply (a := a25) (b := b25) (R' := R25) (by omega) hL.1 (Or.inr ⟨hk25, rfl⟩))) rfl rfl (Nat.le_of_ble_eq_true rfl) d_Mo_readNext_26 ?_
        rintro v26 h cq nq ⟨S26, hR, hX26, rfl, rfl, rfl, hq26⟩
        replace hX := hX.tr hX26
        refine x_goto (tgt := 9) d_Mo_readNext_29 (by decide) ?_
        obtain ⟨w26, hL26⟩ := st25 _ ⟨rfl, hq26⟩
        exact nx _ _ _ _ (by simp) hL26 _ hR hX
  have lp9 : S.1 27 < S.1 2 → ∀ (K : Nat) (S1 : MS) (P1 R1 : List Int) (w1 : Int → Int), P1.length ≤ K → LJ S S1 P1 R1 w1 → RX l G M_Mo_readNext (d + 1) 9 [some (.ref o), none, none] [] H0 o rf c n S1 (rnQ S) := by
    intro hat K
    induction K with
    | zero => intro S1 P1 R1 w1 hK hL; exact bd9 hat S1 P1 R1 w1 hL (fun S2 P2 R2 w2 hl _ => by omega)
    | succ K ih => intro S1 P1 R1 w1 hK hL; exact bd9 hat S1 P1 R1 w1 hL (fun S2 P2 R2 w2 hl hL2 => ih S2 P2 R2 w2 (by omega) hL2)
  -- and, or
  have bd137 : ∀ (r m : Int), S.1 27 + r ≤ S.1 2 → ((m = 2 ∧ 3 ≤ r) ∨ (m = 3 ∧ 2 ≤ r)) → ∀ (S1 : MS) (P1 R1 : List Int) (w1 : Int → Int), LJ S S1 P1 R1 w1 → (∀ (S2 : MS) (P2 R2 : List Int) (w2 : Int → Int), P2.length < P1.length → LJ S S2 P2 R2 w2 → RX l G M_Mo_readNext (d + 1) 137 [some (.ref o), some (.int (zI r)), some (.int (zI m))] [] H0 o rf c n S2 (rnQ S)) → RX l G M_Mo_readNext (d + 1) 137 [some (.ref o), some (.int (zI r)), some (.int (zI m))] [] H0 o rf c n S1 (rnQ S) := by
    intro r m hrs hm S1 P1 R1 w1 hL nx h hR hX
    obtain ⟨y1, y2, y3⟩ := hL.1.pl
    have f2 := hL.2.2.1.1 2 (by decide)
    have f27 := hL.2.2.1.1 27 (by decide)
    have f29 := hL.2.2.1.1 29 (by decide)
    have f28 := hL.2.2.1.1 28 (by decide)
    have h33' := hL.2.2.2.2
    have l31' : _ = 80 := hR.len 31 (by decide)
    have hlen := hL.2.1
    have h35 := hL.1.2.2.2.2.2.2.1.1
    refine x_aload_n d_Mo_readNext_137 rfl rfl ?_
    refine x_iconst (v := zI 2) d_Mo_readNext_138 (by decide) ?_
    refine x_callV (As := [_]) (k := k_MarkerTextModel) rfl xcv_Mo_212_Mo (Or.inl hR.1) (RM.ap hR (r_isOnTop (by decide) y1 y2 (by omega))) rfl rfl (Nat.le_of_ble_eq_true rfl) d_Mo_readNext_139 ?_
    rintro v139 h cq nq ⟨S139, hR, hX139, rfl, rfl, hE139, r139, rfl, hr139⟩
    replace hE139 := Eq.symm hE139
    subst hE139
    replace hX := hX.tr hX139
    have hb139 : r139 = 0 ∨ r139 = 1 := by rcases hr139 with ⟨z, -⟩ | ⟨z, -⟩ <;> omega
    refine z_if_ne (tgt := 158) d_Mo_readNext_142 (by decide) (by omega) (fun hc142 => ?_) (fun hc142 => ?_)
    · obtain ⟨k25, P25, hk25, rfl⟩ : ∃ k P', (k = 2 ∨ k = 3) ∧ P1 = k :: P' := by first | exact (onT hr139 hc142).elim (fun P' e => ⟨2, P', Or.inl rfl, e⟩) | exact (onT hr152 hc155).elim (fun P' e => ⟨3, P', Or.inr rfl, e⟩)
      obtain ⟨a25, b25, R25, rfl, st25⟩ := hL.step hk25
      refine x_aload_n d_Mo_readNext_158 rfl rfl ?_
      refine x_callV (As := []) (k := k_MarkerTextModel) rfl xcv_Mo_215_Mo (Or.inl hR.1) (RM.ap hR (r_apply (a := a25) (b := b25) (R' := R25) (by omega) hL.1 (Or.inr ⟨hk25, rfl⟩))) rfl rfl (Nat.le_of_ble_eq_true rfl) d_Mo_readNext_159 ?_
      rintro v159 h cq nq ⟨S159, hR, hX159, rfl, rfl, rfl, hq159⟩
      replace hX := hX.tr hX159
      refine x_goto (tgt := 137) d_Mo_readNext_162 (by decide) ?_
      obtain ⟨w26, hL26⟩ := st25 _ ⟨rfl, hq159⟩
      exact nx _ _ _ _ (by simp) hL26 _ hR hX
    · refine x_iload_n d_Mo_readNext_145 rfl ?_
      refine x_iconst (v := zI 3) d_Mo_readNext_146 (by decide) ?_
      refine z_icmp_ne (tgt := 165) d_Mo_readNext_147 (by decide) (by omega) (by omega) (fun hc147 => ?_) (fun hc147 => ?_)
      · refine x_aload_n d_Mo_readNext_165 rfl rfl ?_
        refine x_iload_n d_Mo_readNext_166 rfl ?_
        refine x_callV (As := [_]) (k := k_MarkerTextModel) rfl xcv_Mo_222_Mo (Or.inl hR.1) (RM.ap hR (r_push (by omega) (by omega))) rfl rfl (Nat.le_of_ble_eq_true rfl) d_Mo_readNext_167 ?_
        rintro v167 h cq nq ⟨S167, hR, hX167, rfl, rfl, rfl, rfl⟩
        replace hX := hX.tr hX167
        refine x_aload_n d_Mo_readNext_170 rfl rfl ?_
        refine x_dup d_Mo_readNext_171 rfl ?_
        refine x_get xf_Mo_193_Mo (Or.inl hR.1) (v := .int (zI (S1.1 27))) rfl d_Mo_readNext_172 ?_
        have hb172 : inR (S1.1 27) := hR.2.2.2 27
        refine x_iload_n d_Mo_readNext_175 rfl ?_
        refine z_iadd d_Mo_readNext_176 ?_
        refine r_put xf_Mo_193_Mo xp_Mo_27 hR hX (by omega) rfl rfl d_Mo_readNext_177 ?_
        intro h hR hX
        refine x_iconst (v := zI 1) d_Mo_readNext_180 (by decide) ?_
        refine x_zret d_Mo_readNext_181 rfl (z_nb (by omega)) ?_
        have hsm5 : rSm S1 (sp (sp (sa S1 31 (se (S1.2.1 31) (S1.1 32) m)) 32 (S1.1 32 + 1)) 27 (S1.1 27 + r)) [27, 32] [31] [] := ((rSm.r0.sa (by decide)).sp (by decide)).sp (by decide)
        have hS5 := rd_push (k := m) (e := r) hL.1 (by omega) l31' hsm5 (by decide) (by decide) rfl (by omega) rfl rfl (by rw [if_neg (by omega)]; show S1.1 33 = S1.1 33 + 0; omega) (by show S1.1 33 ≤ 13; omega)
        exact ⟨_, hR, hX, rfl, rfl, 1, rfl, Or.inr rfl, (hL.2.2.1.mono (by decide) (by decide) (by decide)).tr (hsm5.mono (by decide) (by decide) (by decide)), hL.2.2.2.1.tr (agO.sm hsm5 (by decide)), by show S.1 27 ≤ S1.1 27 + r; omega, Or.inr ⟨by show S1.1 29 < 0; omega, by show S1.1 27 + r ≤ S.1 2; omega, by show S.1 27 + 1 ≤ S1.1 27 + r; omega, by show S1.1 33 ≤ 12; omega, _, _, _, hS5, by simp only [cnt]; rcases hm with ⟨rfl, -⟩ | ⟨rfl, -⟩ <;> simp <;> omega⟩⟩
      · refine x_aload_n d_Mo_readNext_150 rfl rfl ?_
        refine x_iconst (v := zI 3) d_Mo_readNext_151 (by decide) ?_
        refine x_callV (As := [_]) (k := k_MarkerTextModel) rfl xcv_Mo_212_Mo (Or.inl hR.1) (RM.ap hR (r_isOnTop (by decide) y1 y2 (by omega))) rfl rfl (Nat.le_of_ble_eq_true rfl) d_Mo_readNext_152 ?_
        rintro v152 h cq nq ⟨S152, hR, hX152, rfl, rfl, hE152, r152, rfl, hr152⟩
        replace hE152 := Eq.symm hE152
        subst hE152
        replace hX := hX.tr hX152
        have hb152 : r152 = 0 ∨ r152 = 1 := by rcases hr152 with ⟨z, -⟩ | ⟨z, -⟩ <;> omega
        refine z_if_eq (tgt := 165) d_Mo_readNext_155 (by decide) (by omega) (fun hc155 => ?_) (fun hc155 => ?_)
        · refine x_aload_n d_Mo_readNext_165 rfl rfl ?_
          refine x_iload_n d_Mo_readNext_166 rfl ?_
          refine x_callV (As := [_]) (k := k_MarkerTextModel) rfl xcv_Mo_222_Mo (Or.inl hR.1) (RM.ap hR (r_push (by omega) (by omega))) rfl rfl (Nat.le_of_ble_eq_true rfl) d_Mo_readNext_167 ?_
          rintro v167 h cq nq ⟨S167, hR, hX167, rfl, rfl, rfl, rfl⟩
          replace hX := hX.tr hX167
          refine x_aload_n d_Mo_readNext_170 rfl rfl ?_
          refine x_dup d_Mo_readNext_171 rfl ?_
          refine x_get xf_Mo_193_Mo (Or.inl hR.1) (v := .int (zI (S1.1 27))) rfl d_Mo_readNext_172 ?_
          have hb172 : inR (S1.1 27) := hR.2.2.2 27
          refine x_iload_n d_Mo_readNext_175 rfl ?_
          refine z_iadd d_Mo_readNext_176 ?_
          refine r_put xf_Mo_193_Mo xp_Mo_27 hR hX (by omega) rfl rfl d_Mo_readNext_177 ?_
          intro h hR hX
          refine x_iconst (v := zI 1) d_Mo_readNext_180 (by decide) ?_
          refine x_zret d_Mo_readNext_181 rfl (z_nb (by omega)) ?_
          have hsm5 : rSm S1 (sp (sp (sa S1 31 (se (S1.2.1 31) (S1.1 32) m)) 32 (S1.1 32 + 1)) 27 (S1.1 27 + r)) [27, 32] [31] [] := ((rSm.r0.sa (by decide)).sp (by decide)).sp (by decide)
          have hS5 := rd_push (k := m) (e := r) hL.1 (by omega) l31' hsm5 (by decide) (by decide) rfl (by omega) rfl rfl (by rw [if_neg (by omega)]; show S1.1 33 = S1.1 33 + 0; omega) (by show S1.1 33 ≤ 13; omega)
          exact ⟨_, hR, hX, rfl, rfl, 1, rfl, Or.inr rfl, (hL.2.2.1.mono (by decide) (by decide) (by decide)).tr (hsm5.mono (by decide) (by decide) (by decide)), hL.2.2.2.1.tr (agO.sm hsm5 (by decide)), by show S.1 27 ≤ S1.1 27 + r; omega, Or.inr ⟨by show S1.1 29 < 0; omega, by show S1.1 27 + r ≤ S.1 2; omega, by show S.1 27 + 1 ≤ S1.1 27 + r; omega, by show S1.1 33 ≤ 12; omega, _, _, _, hS5, by simp only [cnt]; rcases hm with ⟨rfl, -⟩ | ⟨rfl, -⟩ <;> simp <;> omega⟩⟩
        · obtain ⟨k25, P25, hk25, rfl⟩ : ∃ k P', (k = 2 ∨ k = 3) ∧ P1 = k :: P' := by first | exact (onT hr139 hc142).elim (fun P' e => ⟨2, P', Or.inl rfl, e⟩) | exact (onT hr152 hc155).elim (fun P' e => ⟨3, P', Or.inr rfl, e⟩)
          obtain ⟨a25, b25, R25, rfl, st25⟩ := hL.step hk25
          refine x_aload_n d_Mo_readNext_158 rfl rfl ?_
          refine x_callV (As := []) (k := k_MarkerTextModel) rfl xcv_Mo_215_Mo (Or.inl hR.1) (RM.ap hR (r_apply (a := a25) (b := b25) (R' := R25) (by omega) hL.1 (Or.inr ⟨hk25, rfl⟩))) rfl rfl (Nat.le_of_ble_eq_true rfl) d_Mo_readNext_159 ?_
          rintro v159 h cq nq ⟨S159, hR, hX159, rfl, rfl, rfl, hq159⟩
          replace hX := hX.tr hX159
          refine x_goto (tgt := 137) d_Mo_readNext_162 (by decide) ?_
          obtain ⟨w26, hL26⟩ := st25 _ ⟨rfl, hq159⟩
          exact nx _ _ _ _ (by simp) hL26 _ hR hX
  have lp137 : ∀ (r m : Int), S.1 27 + r ≤ S.1 2 → ((m = 2 ∧ 3 ≤ r) ∨ (m = 3 ∧ 2 ≤ r)) → ∀ (K : Nat) (S1 : MS) (P1 R1 : List Int) (w1 : Int → Int), P1.length ≤ K → LJ S S1 P1 R1 w1 → RX l G M_Mo_readNext (d + 1) 137 [some (.ref o), some (.int (zI r)), some (.int (zI m))] [] H0 o rf c n S1 (rnQ S) := by
    intro r m hrs hm K
    induction K with
    | zero => intro S1 P1 R1 w1 hK hL; exact bd137 r m hrs hm S1 P1 R1 w1 hL (fun S2 P2 R2 w2 hl _ => by omega)
    | succ K ih => intro S1 P1 R1 w1 hK hL; exact bd137 r m hrs hm S1 P1 R1 w1 hL (fun S2 P2 R2 w2 hl hL2 => ih S2 P2 R2 w2 (by omega) hL2)
  have j116 : ∀ (r m : Int), 0 ≤ r → S.1 27 + r ≤ S.1 2 → mnR S m → mF r m → RX l G M_Mo_readNext (d + 1) 116 [some (.ref o), some (.int (zI r)), none] [.int (zI m)] H0 o rf c n S (rnQ S) := by
    intro r m hr0 hr1 hm hmf h hR hX
    have hn3 := s2.2.1
    refine x_istore_n (L' := [_, _, _]) d_Mo_readNext_116 rfl rfl ?_
    refine x_iload_n d_Mo_readNext_117 rfl ?_
    refine x_iconst (v := zI 2) d_Mo_readNext_118 (by decide) ?_
    refine z_icmp_eq (tgt := 137) d_Mo_readNext_119 (by decide) (by omega) (by omega) (fun hc119 => ?_) (fun hc119 => ?_)
    · exact lp137 r m hr1 (by omega) P.length S P R w (Nat.le_refl _) hL0 _ hR hX
    · refine x_iload_n d_Mo_readNext_122 rfl ?_
      refine x_iconst (v := zI 3) d_Mo_readNext_123 (by decide) ?_
      refine z_icmp_eq (tgt := 137) d_Mo_readNext_124 (by decide) (by omega) (by omega) (fun hc124 => ?_) (fun hc124 => ?_)
      · exact lp137 r m hr1 (by omega) P.length S P R w (Nat.le_refl _) hL0 _ hR hX
      · refine x_aload_n d_Mo_readNext_127 rfl rfl ?_
        refine x_aload_n d_Mo_readNext_128 rfl rfl ?_
        refine x_get xf_Mo_193_Mo (Or.inl hR.1) (v := .int (zI (S.1 27))) rfl d_Mo_readNext_129 ?_
        have hb129 : inR (S.1 27) := hR.2.2.2 27
        refine x_callV (As := [_]) (k := k_MarkerTextModel) rfl xcv_Mo_218_Mo (Or.inl hR.1) (RM.ap hR (r_fault (by omega))) rfl rfl (Nat.le_of_ble_eq_true rfl) d_Mo_readNext_132 ?_
        rintro v132 h cq nq ⟨S132, hR, hX132, rfl, rfl, a132, rfl, rfl, ha132⟩
        replace hX := hX.tr hX132
        refine x_iconst (v := zI 0) d_Mo_readNext_135 (by decide) ?_
        refine x_zret d_Mo_readNext_136 rfl (z_nb (by omega)) ?_
        exact ⟨_, hR, hX, rfl, rfl, hfl S a132 rSm.r0 agO.r0 (by omega)⟩
  refine x_aload_n d_Mo_readNext_0 rfl rfl ?_
  refine x_callV (As := []) (k := k_MarkerTextModel) rfl xcv_Mo_228_Mo (Or.inl hR.1) (RM.ap hR (r_now (by omega) s1)) rfl rfl (Nat.le_of_ble_eq_true rfl) d_Mo_readNext_1 ?_
  rintro v1 h cq nq ⟨S1, hR, hX1, rfl, rfl, hE1, r1, rfl, hi1, hr1⟩
  replace hE1 := Eq.symm hE1
  subst hE1
  replace hX := hX.tr hX1
  refine x_bipush (v := zI 41) d_Mo_readNext_4 (by decide) ?_
  refine z_icmp_ne (tgt := 86) d_Mo_readNext_6 (by decide) (by omega) (by omega) (fun hc6 => ?_) (fun hc6 => ?_)
  · refine x_aload_n d_Mo_readNext_86 rfl rfl ?_
    refine x_aload_n d_Mo_readNext_87 rfl rfl ?_
    refine x_get xf_Mo_193_Mo (Or.inl hR.1) (v := .int (zI (S.1 27))) rfl d_Mo_readNext_88 ?_
    have hb88 : inR (S.1 27) := hR.2.2.2 27
    refine x_callV (As := [_]) (k := k_MarkerTextModel) rfl xcv_Mo_241_Mo (Or.inl hR.1) (RM.ap hR (r_letters (by omega) (by omega) (by omega) s1)) rfl rfl (Nat.le_of_ble_eq_true rfl) d_Mo_readNext_91 ?_
    rintro v91 h cq nq ⟨S91, hR, hX91, rfl, rfl, hE91, r91, rfl, hr91a, hr91b, hr91c, hr91d⟩
    replace hE91 := Eq.symm hE91
    subst hE91
    replace hX := hX.tr hX91
    refine x_istore_n (L' := [_, _, _]) d_Mo_readNext_94 rfl rfl ?_
    refine x_iload_n d_Mo_readNext_95 rfl ?_
    refine z_if_le (tgt := 115) d_Mo_readNext_96 (by decide) (by omega) (fun hc96 => ?_) (fun hc96 => ?_)
    · refine x_iconst (v := zI 0) d_Mo_readNext_115 (by decide) ?_
      first | exact j116 r91 r109 (by omega) (by omega) hr109 hm109 _ hR hX | exact j116 r91 0 (by omega) (by omega) (by omega) (by omega) _ hR hX
    · refine x_aload_n d_Mo_readNext_99 rfl rfl ?_
      refine x_aload_n d_Mo_readNext_100 rfl rfl ?_
      refine x_aload_n d_Mo_readNext_101 rfl rfl ?_
      refine x_get xf_Mo_193_Mo (Or.inl hR.1) (v := .int (zI (S.1 27))) rfl d_Mo_readNext_102 ?_
      have hb102 : inR (S.1 27) := hR.2.2.2 27
      refine x_iload_n d_Mo_readNext_105 rfl ?_
      refine x_callV (As := [_, _]) (k := k_MarkerTextModel) rfl xcv_Mo_154_Mo (Or.inl hR.1) (RM.ap hR (r_wordL (by omega) (by omega) (by omega) (by omega) (by omega) hr91d)) rfl rfl (Nat.le_of_ble_eq_true rfl) d_Mo_readNext_106 ?_
      rintro v106 h cq nq ⟨S106, hR, hX106, rfl, rfl, hE106, z106, rfl, hz106⟩
      replace hE106 := Eq.symm hE106
      subst hE106
      replace hX := hX.tr hX106
      refine x_callV (As := [_]) (k := k_MarkerTextModel) rfl xcv_Mo_158_Mo (Or.inl hR.1) (RM.ap hR (r_meaning s2)) rfl rfl (Nat.le_of_ble_eq_true rfl) d_Mo_readNext_109 ?_
      rintro v109 h cq nq ⟨S109, hR, hX109, rfl, rfl, hE109, r109, rfl, hr109, hk109⟩
      replace hE109 := Eq.symm hE109
      subst hE109
      replace hX := hX.tr hX109
      have hm109 := mF_of hz106 hk109
      refine x_goto (tgt := 116) d_Mo_readNext_112 (by decide) ?_
      first | exact j116 r91 r109 (by omega) (by omega) hr109 hm109 _ hR hX | exact j116 r91 0 (by omega) (by omega) (by omega) (by omega) _ hR hX
  · exact lp9 (by omega) P.length S P R w (Nat.le_refl _) hL0 _ hR hX
end RF10
