section
abbrev y_Mo_readNext : MethodName := ⟨"MarkerTextModel", "readNext", "()Z"⟩
abbrev M_Mo_readNext : XMt := (y_Mo_readNext, prog_13_method_34_code, 3, (some .boolean))
theorem d_Mo_readNext_9 : decode M_Mo_readNext.2.1 9 = .ok (.aload_n 0, 1) := by decide +kernel
theorem d_Mo_readNext_10 : decode M_Mo_readNext.2.1 10 = .ok (.iconst 2, 1) := by decide +kernel
theorem d_Mo_readNext_11 : decode M_Mo_readNext.2.1 11 = .ok (.invokevirtual 212, 3) := by decide +kernel
theorem d_Mo_readNext_14 : decode M_Mo_readNext.2.1 14 = .ok (.ifCond .ne 11, 3) := by decide +kernel
theorem d_Mo_readNext_25 : decode M_Mo_readNext.2.1 25 = .ok (.aload_n 0, 1) := by decide +kernel
theorem d_Mo_readNext_26 : decode M_Mo_readNext.2.1 26 = .ok (.invokevirtual 215, 3) := by decide +kernel
theorem d_Mo_readNext_29 : decode M_Mo_readNext.2.1 29 = .ok (.goto (-20), 3) := by decide +kernel
theorem d_Mo_readNext_17 : decode M_Mo_readNext.2.1 17 = .ok (.aload_n 0, 1) := by decide +kernel
theorem d_Mo_readNext_18 : decode M_Mo_readNext.2.1 18 = .ok (.iconst 3, 1) := by decide +kernel
theorem d_Mo_readNext_19 : decode M_Mo_readNext.2.1 19 = .ok (.invokevirtual 212, 3) := by decide +kernel
theorem d_Mo_readNext_22 : decode M_Mo_readNext.2.1 22 = .ok (.ifCond .eq 10, 3) := by decide +kernel
theorem d_Mo_readNext_32 : decode M_Mo_readNext.2.1 32 = .ok (.aload_n 0, 1) := by decide +kernel
theorem d_Mo_readNext_33 : decode M_Mo_readNext.2.1 33 = .ok (.iconst 4, 1) := by decide +kernel
theorem d_Mo_readNext_34 : decode M_Mo_readNext.2.1 34 = .ok (.invokevirtual 212, 3) := by decide +kernel
theorem d_Mo_readNext_37 : decode M_Mo_readNext.2.1 37 = .ok (.ifCond .ne 13, 3) := by decide +kernel
theorem d_Mo_readNext_50 : decode M_Mo_readNext.2.1 50 = .ok (.aload_n 0, 1) := by decide +kernel
theorem d_Mo_readNext_51 : decode M_Mo_readNext.2.1 51 = .ok (.dup, 1) := by decide +kernel
theorem d_Mo_readNext_52 : decode M_Mo_readNext.2.1 52 = .ok (.getfield 199, 3) := by decide +kernel
theorem d_Mo_readNext_55 : decode M_Mo_readNext.2.1 55 = .ok (.iconst 1, 1) := by decide +kernel
theorem d_Mo_readNext_56 : decode M_Mo_readNext.2.1 56 = .ok (.isub, 1) := by decide +kernel
theorem d_Mo_readNext_57 : decode M_Mo_readNext.2.1 57 = .ok (.putfield 199, 3) := by decide +kernel
theorem d_Mo_readNext_60 : decode M_Mo_readNext.2.1 60 = .ok (.aload_n 0, 1) := by decide +kernel
theorem d_Mo_readNext_61 : decode M_Mo_readNext.2.1 61 = .ok (.dup, 1) := by decide +kernel
theorem d_Mo_readNext_62 : decode M_Mo_readNext.2.1 62 = .ok (.getfield 202, 3) := by decide +kernel
theorem d_Mo_readNext_65 : decode M_Mo_readNext.2.1 65 = .ok (.iconst 1, 1) := by decide +kernel
theorem d_Mo_readNext_66 : decode M_Mo_readNext.2.1 66 = .ok (.isub, 1) := by decide +kernel
theorem d_Mo_readNext_67 : decode M_Mo_readNext.2.1 67 = .ok (.putfield 202, 3) := by decide +kernel
theorem d_Mo_readNext_70 : decode M_Mo_readNext.2.1 70 = .ok (.aload_n 0, 1) := by decide +kernel
theorem d_Mo_readNext_71 : decode M_Mo_readNext.2.1 71 = .ok (.dup, 1) := by decide +kernel
theorem d_Mo_readNext_72 : decode M_Mo_readNext.2.1 72 = .ok (.getfield 193, 3) := by decide +kernel
theorem d_Mo_readNext_75 : decode M_Mo_readNext.2.1 75 = .ok (.iconst 1, 1) := by decide +kernel
theorem d_Mo_readNext_76 : decode M_Mo_readNext.2.1 76 = .ok (.iadd, 1) := by decide +kernel
theorem d_Mo_readNext_77 : decode M_Mo_readNext.2.1 77 = .ok (.putfield 193, 3) := by decide +kernel
theorem d_Mo_readNext_80 : decode M_Mo_readNext.2.1 80 = .ok (.aload_n 0, 1) := by decide +kernel
theorem d_Mo_readNext_81 : decode M_Mo_readNext.2.1 81 = .ok (.invokevirtual 238, 3) := by decide +kernel
theorem d_Mo_readNext_84 : decode M_Mo_readNext.2.1 84 = .ok (.iconst 0, 1) := by decide +kernel
theorem d_Mo_readNext_85 : decode M_Mo_readNext.2.1 85 = .ok (.ireturn, 1) := by decide +kernel
theorem d_Mo_readNext_40 : decode M_Mo_readNext.2.1 40 = .ok (.aload_n 0, 1) := by decide +kernel
theorem d_Mo_readNext_41 : decode M_Mo_readNext.2.1 41 = .ok (.aload_n 0, 1) := by decide +kernel
theorem d_Mo_readNext_42 : decode M_Mo_readNext.2.1 42 = .ok (.getfield 193, 3) := by decide +kernel
theorem d_Mo_readNext_45 : decode M_Mo_readNext.2.1 45 = .ok (.invokevirtual 218, 3) := by decide +kernel
theorem d_Mo_readNext_48 : decode M_Mo_readNext.2.1 48 = .ok (.iconst 0, 1) := by decide +kernel
theorem d_Mo_readNext_49 : decode M_Mo_readNext.2.1 49 = .ok (.ireturn, 1) := by decide +kernel
theorem d_Mo_readNext_137 : decode M_Mo_readNext.2.1 137 = .ok (.aload_n 0, 1) := by decide +kernel
theorem d_Mo_readNext_138 : decode M_Mo_readNext.2.1 138 = .ok (.iconst 2, 1) := by decide +kernel
theorem d_Mo_readNext_139 : decode M_Mo_readNext.2.1 139 = .ok (.invokevirtual 212, 3) := by decide +kernel
theorem d_Mo_readNext_142 : decode M_Mo_readNext.2.1 142 = .ok (.ifCond .ne 16, 3) := by decide +kernel
theorem d_Mo_readNext_158 : decode M_Mo_readNext.2.1 158 = .ok (.aload_n 0, 1) := by decide +kernel
theorem d_Mo_readNext_159 : decode M_Mo_readNext.2.1 159 = .ok (.invokevirtual 215, 3) := by decide +kernel
theorem d_Mo_readNext_162 : decode M_Mo_readNext.2.1 162 = .ok (.goto (-25), 3) := by decide +kernel
theorem d_Mo_readNext_145 : decode M_Mo_readNext.2.1 145 = .ok (.iload_n 2, 1) := by decide +kernel
theorem d_Mo_readNext_146 : decode M_Mo_readNext.2.1 146 = .ok (.iconst 3, 1) := by decide +kernel
theorem d_Mo_readNext_147 : decode M_Mo_readNext.2.1 147 = .ok (.if_icmp .ne 18, 3) := by decide +kernel
theorem d_Mo_readNext_165 : decode M_Mo_readNext.2.1 165 = .ok (.aload_n 0, 1) := by decide +kernel
theorem d_Mo_readNext_166 : decode M_Mo_readNext.2.1 166 = .ok (.iload_n 2, 1) := by decide +kernel
theorem d_Mo_readNext_167 : decode M_Mo_readNext.2.1 167 = .ok (.invokevirtual 222, 3) := by decide +kernel
theorem d_Mo_readNext_170 : decode M_Mo_readNext.2.1 170 = .ok (.aload_n 0, 1) := by decide +kernel
theorem d_Mo_readNext_171 : decode M_Mo_readNext.2.1 171 = .ok (.dup, 1) := by decide +kernel
theorem d_Mo_readNext_172 : decode M_Mo_readNext.2.1 172 = .ok (.getfield 193, 3) := by decide +kernel
theorem d_Mo_readNext_175 : decode M_Mo_readNext.2.1 175 = .ok (.iload_n 1, 1) := by decide +kernel
theorem d_Mo_readNext_176 : decode M_Mo_readNext.2.1 176 = .ok (.iadd, 1) := by decide +kernel
theorem d_Mo_readNext_177 : decode M_Mo_readNext.2.1 177 = .ok (.putfield 193, 3) := by decide +kernel
theorem d_Mo_readNext_180 : decode M_Mo_readNext.2.1 180 = .ok (.iconst 1, 1) := by decide +kernel
theorem d_Mo_readNext_181 : decode M_Mo_readNext.2.1 181 = .ok (.ireturn, 1) := by decide +kernel
theorem d_Mo_readNext_150 : decode M_Mo_readNext.2.1 150 = .ok (.aload_n 0, 1) := by decide +kernel
theorem d_Mo_readNext_151 : decode M_Mo_readNext.2.1 151 = .ok (.iconst 3, 1) := by decide +kernel
theorem d_Mo_readNext_152 : decode M_Mo_readNext.2.1 152 = .ok (.invokevirtual 212, 3) := by decide +kernel
theorem d_Mo_readNext_155 : decode M_Mo_readNext.2.1 155 = .ok (.ifCond .eq 10, 3) := by decide +kernel
theorem d_Mo_readNext_116 : decode M_Mo_readNext.2.1 116 = .ok (.istore_n 2, 1) := by decide +kernel
theorem d_Mo_readNext_117 : decode M_Mo_readNext.2.1 117 = .ok (.iload_n 2, 1) := by decide +kernel
theorem d_Mo_readNext_118 : decode M_Mo_readNext.2.1 118 = .ok (.iconst 2, 1) := by decide +kernel
theorem d_Mo_readNext_119 : decode M_Mo_readNext.2.1 119 = .ok (.if_icmp .eq 18, 3) := by decide +kernel
theorem d_Mo_readNext_122 : decode M_Mo_readNext.2.1 122 = .ok (.iload_n 2, 1) := by decide +kernel
theorem d_Mo_readNext_123 : decode M_Mo_readNext.2.1 123 = .ok (.iconst 3, 1) := by decide +kernel
theorem d_Mo_readNext_124 : decode M_Mo_readNext.2.1 124 = .ok (.if_icmp .eq 13, 3) := by decide +kernel
theorem d_Mo_readNext_127 : decode M_Mo_readNext.2.1 127 = .ok (.aload_n 0, 1) := by decide +kernel
theorem d_Mo_readNext_128 : decode M_Mo_readNext.2.1 128 = .ok (.aload_n 0, 1) := by decide +kernel
theorem d_Mo_readNext_129 : decode M_Mo_readNext.2.1 129 = .ok (.getfield 193, 3) := by decide +kernel
theorem d_Mo_readNext_132 : decode M_Mo_readNext.2.1 132 = .ok (.invokevirtual 218, 3) := by decide +kernel
theorem d_Mo_readNext_135 : decode M_Mo_readNext.2.1 135 = .ok (.iconst 0, 1) := by decide +kernel
theorem d_Mo_readNext_136 : decode M_Mo_readNext.2.1 136 = .ok (.ireturn, 1) := by decide +kernel
theorem d_Mo_readNext_0 : decode M_Mo_readNext.2.1 0 = .ok (.aload_n 0, 1) := by decide +kernel
theorem d_Mo_readNext_1 : decode M_Mo_readNext.2.1 1 = .ok (.invokevirtual 228, 3) := by decide +kernel
theorem d_Mo_readNext_4 : decode M_Mo_readNext.2.1 4 = .ok (.bipush 41, 2) := by decide +kernel
theorem d_Mo_readNext_6 : decode M_Mo_readNext.2.1 6 = .ok (.if_icmp .ne 80, 3) := by decide +kernel
theorem d_Mo_readNext_86 : decode M_Mo_readNext.2.1 86 = .ok (.aload_n 0, 1) := by decide +kernel
theorem d_Mo_readNext_87 : decode M_Mo_readNext.2.1 87 = .ok (.aload_n 0, 1) := by decide +kernel
theorem d_Mo_readNext_88 : decode M_Mo_readNext.2.1 88 = .ok (.getfield 193, 3) := by decide +kernel
theorem d_Mo_readNext_91 : decode M_Mo_readNext.2.1 91 = .ok (.invokevirtual 241, 3) := by decide +kernel
theorem d_Mo_readNext_94 : decode M_Mo_readNext.2.1 94 = .ok (.istore_n 1, 1) := by decide +kernel
theorem d_Mo_readNext_95 : decode M_Mo_readNext.2.1 95 = .ok (.iload_n 1, 1) := by decide +kernel
theorem d_Mo_readNext_96 : decode M_Mo_readNext.2.1 96 = .ok (.ifCond .le 19, 3) := by decide +kernel
theorem d_Mo_readNext_115 : decode M_Mo_readNext.2.1 115 = .ok (.iconst 0, 1) := by decide +kernel
theorem d_Mo_readNext_99 : decode M_Mo_readNext.2.1 99 = .ok (.aload_n 0, 1) := by decide +kernel
theorem d_Mo_readNext_100 : decode M_Mo_readNext.2.1 100 = .ok (.aload_n 0, 1) := by decide +kernel
theorem d_Mo_readNext_101 : decode M_Mo_readNext.2.1 101 = .ok (.aload_n 0, 1) := by decide +kernel
theorem d_Mo_readNext_102 : decode M_Mo_readNext.2.1 102 = .ok (.getfield 193, 3) := by decide +kernel
theorem d_Mo_readNext_105 : decode M_Mo_readNext.2.1 105 = .ok (.iload_n 1, 1) := by decide +kernel
theorem d_Mo_readNext_106 : decode M_Mo_readNext.2.1 106 = .ok (.invokevirtual 154, 3) := by decide +kernel
theorem d_Mo_readNext_109 : decode M_Mo_readNext.2.1 109 = .ok (.invokevirtual 158, 3) := by decide +kernel
theorem d_Mo_readNext_112 : decode M_Mo_readNext.2.1 112 = .ok (.goto 4, 3) := by decide +kernel
end
section RF10
variable {l : Launch} {G : XG} {h : XH} {c n d : Nat} {o : Nat} {rf : Nat → Nat} {S : MS}
theorem onF {r k : Int} {P : List Int} (h : (r = 1 ∧ ∃ P', P = k :: P') ∨ (r = 0 ∧ ¬ ∃ P', P = k :: P')) (hr : r = 0) : ∀ P', P ≠ k :: P' := by
  rcases h with ⟨z, -⟩ | ⟨-, z⟩
  · omega
  · exact fun P' e => z ⟨P', e⟩
/-- between two applies -/
def LJ (S S1 : MS) (P R : List Int) (w : Int → Int) : Prop := rdOk S1 P R w ∧ (R.length : Int) = cnt 2 P + cnt 3 P + 1 ∧ rSm S S1 apJ apA [] ∧ agO S S1 (S.1 28) ∧ S1.1 33 ≤ S.1 33
theorem LJ.step {S1 : MS} {P R : List Int} {w : Int → Int} {k : Int} (hL : LJ S S1 (k :: P) R w) (hk : k = 2 ∨ k = 3) : ∃ a b R', R = b :: a :: R' ∧ ∀ S', apQ S1 P R' none S' → ∃ w', LJ S S' P (nxN S1 :: R') w' := by
  obtain ⟨h1, h2, h3, h4, h5⟩ := hL
  have c2 := cnt_nn 2 P
  have c3 := cnt_nn 3 P
  simp only [cnt] at h2
  match R, h2 with
  | [], h2 => rcases hk with rfl | rfl <;> simp at h2 <;> omega
  | [b], h2 => rcases hk with rfl | rfl <;> simp at h2 <;> omega
  | b :: a :: R', h2 =>
    refine ⟨a, b, R', rfl, fun S' hq => ?_⟩
    obtain ⟨-, ⟨w', q1⟩, q2, q3⟩ := hq
    have f28 := h3.1 28 (by decide)
    rw [f28] at q3
    have e1 := h1.2.2.2.2.2.1.1
    have e2 := q1.2.2.2.2.2.1.1
    simp only [cnt] at e1
    refine ⟨w', q1, ?_, h3.tr q2, h4.tr q3, ?_⟩
    · rcases hk with rfl | rfl <;> simp at h2 ⊢ <;> omega
    · rcases hk with rfl | rfl <;> simp at e1 <;> omega
/-- a bracket is closed -/
theorem rd_pop {S1 S2 : MS} {P R : List Int} {w : Int → Int} (hS : rdOk S1 (4 :: P) R w) {js is ls : List Nat} (hK : rSm S1 S2 js is ls) (hj : ∀ j ∈ [2, 3, 28, 35], j ∉ js) (hi : ∀ i ∈ [5, 7, 12, 13, 14, 15, 16, 17, 18, 19, 20, 21, 24, 26, 31, 34], i ∉ is) (e32 : S2.1 32 = S1.1 32 - 1) (e33 : S2.1 33 = S1.1 33 - 1) (h0 : S1.1 27 ≤ S2.1 27) (h27 : S2.1 27 ≤ S1.1 2 + 1) : rdOk S2 P R w := by
  obtain ⟨s1, s2, s3, s4, ⟨s5, s6, s7⟩, ⟨s8, s9⟩, ⟨s10, s11, s12⟩, ⟨s13, s13b⟩, s14, s15, s16, s17⟩ := hS
  have f2 := hK.1 2 (hj 2 (by decide))
  have f3 := hK.1 3 (hj 3 (by decide))
  have f28 := hK.1 28 (hj 28 (by decide))
  have f35 := hK.1 35 (hj 35 (by decide))
  have g5 := hK.2.1 5 (hi 5 (by decide))
  have g7 := hK.2.1 7 (hi 7 (by decide))
  have g15 := hK.2.1 15 (hi 15 (by decide))
  have g21 := hK.2.1 21 (hi 21 (by decide))
  have g26 := hK.2.1 26 (hi 26 (by decide))
  have g31 := hK.2.1 31 (hi 31 (by decide))
  have g34 := hK.2.1 34 (hi 34 (by decide))
  have ag : agr S1 S2 (S1.1 28) := agr.sm hK (fun i hi' => hi i ((by decide : ∀ i ∈ [12, 13, 14, 15, 16, 17, 18, 19, 20, 21, 24, 26], i ∈ [5, 7, 12, 13, 14, 15, 16, 17, 18, 19, 20, 21, 24, 26, 31, 34]) i hi'))
  have hpt := s14.agr ag
  simp only [cnt] at s8 s13b s15 s17
  simp at s8 s13b s15 s17
  have hl : S1.1 32 = (P.length : Int) + 1 := by rw [s5]; simp
  unfold rdOk
  rw [f28, f2, f35, g15, g21, g26, g31, g34, e32, e33]
  refine ⟨?_, ?_, s3, by omega, ⟨by omega, s6.2, s7.tl⟩, ⟨by omega, by omega⟩, ⟨s10, s11, s12⟩, ⟨s13, by omega⟩, hpt, by omega, by omega, by omega⟩
  · unfold szOk; rw [f2]; exact s1
  · unfold nmOk; rw [f3, g5, g7]; exact s2
end RF10
