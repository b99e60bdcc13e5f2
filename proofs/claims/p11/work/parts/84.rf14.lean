section
abbrev y_Mo_sort : MethodName := ⟨"MarkerTextModel", "sort", "(IJ)V"⟩
abbrev M_Mo_sort : XMt := (y_Mo_sort, prog_13_method_43_code, 7, none)
theorem d_Mo_sort_72 : decode M_Mo_sort.2.1 72 = .ok (.iload 6, 2) := by decide +kernel
theorem d_Mo_sort_74 : decode M_Mo_sort.2.1 74 = .ok (.iload 5, 2) := by decide +kernel
theorem d_Mo_sort_76 : decode M_Mo_sort.2.1 76 = .ok (.if_icmp .le 37, 3) := by decide +kernel
theorem d_Mo_sort_113 : decode M_Mo_sort.2.1 113 = .ok (.aload_n 0, 1) := by decide +kernel
theorem d_Mo_sort_114 : decode M_Mo_sort.2.1 114 = .ok (.getfield 91, 3) := by decide +kernel
theorem d_Mo_sort_117 : decode M_Mo_sort.2.1 117 = .ok (.sipush 330, 3) := by decide +kernel
theorem d_Mo_sort_120 : decode M_Mo_sort.2.1 120 = .ok (.iload_n 1, 1) := by decide +kernel
theorem d_Mo_sort_121 : decode M_Mo_sort.2.1 121 = .ok (.imul, 1) := by decide +kernel
theorem d_Mo_sort_122 : decode M_Mo_sort.2.1 122 = .ok (.iload 5, 2) := by decide +kernel
theorem d_Mo_sort_124 : decode M_Mo_sort.2.1 124 = .ok (.iadd, 1) := by decide +kernel
theorem d_Mo_sort_125 : decode M_Mo_sort.2.1 125 = .ok (.lload_n 2, 1) := by decide +kernel
theorem d_Mo_sort_126 : decode M_Mo_sort.2.1 126 = .ok (.lastore, 1) := by decide +kernel
theorem d_Mo_sort_127 : decode M_Mo_sort.2.1 127 = .ok (.aload_n 0, 1) := by decide +kernel
theorem d_Mo_sort_128 : decode M_Mo_sort.2.1 128 = .ok (.getfield 94, 3) := by decide +kernel
theorem d_Mo_sort_131 : decode M_Mo_sort.2.1 131 = .ok (.iload_n 1, 1) := by decide +kernel
theorem d_Mo_sort_132 : decode M_Mo_sort.2.1 132 = .ok (.dup2, 1) := by decide +kernel
theorem d_Mo_sort_133 : decode M_Mo_sort.2.1 133 = .ok (.iaload, 1) := by decide +kernel
theorem d_Mo_sort_134 : decode M_Mo_sort.2.1 134 = .ok (.iconst 1, 1) := by decide +kernel
theorem d_Mo_sort_135 : decode M_Mo_sort.2.1 135 = .ok (.iadd, 1) := by decide +kernel
theorem d_Mo_sort_136 : decode M_Mo_sort.2.1 136 = .ok (.iastore, 1) := by decide +kernel
theorem d_Mo_sort_137 : decode M_Mo_sort.2.1 137 = .ok (.return_, 1) := by decide +kernel
theorem d_Mo_sort_79 : decode M_Mo_sort.2.1 79 = .ok (.aload_n 0, 1) := by decide +kernel
theorem d_Mo_sort_80 : decode M_Mo_sort.2.1 80 = .ok (.getfield 91, 3) := by decide +kernel
theorem d_Mo_sort_83 : decode M_Mo_sort.2.1 83 = .ok (.sipush 330, 3) := by decide +kernel
theorem d_Mo_sort_86 : decode M_Mo_sort.2.1 86 = .ok (.iload_n 1, 1) := by decide +kernel
theorem d_Mo_sort_87 : decode M_Mo_sort.2.1 87 = .ok (.imul, 1) := by decide +kernel
theorem d_Mo_sort_88 : decode M_Mo_sort.2.1 88 = .ok (.iload 6, 2) := by decide +kernel
theorem d_Mo_sort_90 : decode M_Mo_sort.2.1 90 = .ok (.iadd, 1) := by decide +kernel
theorem d_Mo_sort_91 : decode M_Mo_sort.2.1 91 = .ok (.aload_n 0, 1) := by decide +kernel
theorem d_Mo_sort_92 : decode M_Mo_sort.2.1 92 = .ok (.getfield 91, 3) := by decide +kernel
theorem d_Mo_sort_95 : decode M_Mo_sort.2.1 95 = .ok (.sipush 330, 3) := by decide +kernel
theorem d_Mo_sort_98 : decode M_Mo_sort.2.1 98 = .ok (.iload_n 1, 1) := by decide +kernel
theorem d_Mo_sort_99 : decode M_Mo_sort.2.1 99 = .ok (.imul, 1) := by decide +kernel
theorem d_Mo_sort_100 : decode M_Mo_sort.2.1 100 = .ok (.iload 6, 2) := by decide +kernel
theorem d_Mo_sort_102 : decode M_Mo_sort.2.1 102 = .ok (.iadd, 1) := by decide +kernel
theorem d_Mo_sort_103 : decode M_Mo_sort.2.1 103 = .ok (.iconst 1, 1) := by decide +kernel
theorem d_Mo_sort_104 : decode M_Mo_sort.2.1 104 = .ok (.isub, 1) := by decide +kernel
theorem d_Mo_sort_105 : decode M_Mo_sort.2.1 105 = .ok (.laload, 1) := by decide +kernel
theorem d_Mo_sort_106 : decode M_Mo_sort.2.1 106 = .ok (.lastore, 1) := by decide +kernel
theorem d_Mo_sort_107 : decode M_Mo_sort.2.1 107 = .ok (.iinc 6 (-1), 3) := by decide +kernel
theorem d_Mo_sort_110 : decode M_Mo_sort.2.1 110 = .ok (.goto (-38), 3) := by decide +kernel
theorem d_Mo_sort_42 : decode M_Mo_sort.2.1 42 = .ok (.iload 5, 2) := by decide +kernel
theorem d_Mo_sort_44 : decode M_Mo_sort.2.1 44 = .ok (.iload 4, 2) := by decide +kernel
theorem d_Mo_sort_46 : decode M_Mo_sort.2.1 46 = .ok (.if_icmp .ge 22, 3) := by decide +kernel
theorem d_Mo_sort_68 : decode M_Mo_sort.2.1 68 = .ok (.iload 4, 2) := by decide +kernel
theorem d_Mo_sort_70 : decode M_Mo_sort.2.1 70 = .ok (.istore 6, 2) := by decide +kernel
theorem d_Mo_sort_49 : decode M_Mo_sort.2.1 49 = .ok (.aload_n 0, 1) := by decide +kernel
theorem d_Mo_sort_50 : decode M_Mo_sort.2.1 50 = .ok (.getfield 91, 3) := by decide +kernel
theorem d_Mo_sort_53 : decode M_Mo_sort.2.1 53 = .ok (.sipush 330, 3) := by decide +kernel
theorem d_Mo_sort_56 : decode M_Mo_sort.2.1 56 = .ok (.iload_n 1, 1) := by decide +kernel
theorem d_Mo_sort_57 : decode M_Mo_sort.2.1 57 = .ok (.imul, 1) := by decide +kernel
theorem d_Mo_sort_58 : decode M_Mo_sort.2.1 58 = .ok (.iload 5, 2) := by decide +kernel
theorem d_Mo_sort_60 : decode M_Mo_sort.2.1 60 = .ok (.iadd, 1) := by decide +kernel
theorem d_Mo_sort_61 : decode M_Mo_sort.2.1 61 = .ok (.laload, 1) := by decide +kernel
theorem d_Mo_sort_62 : decode M_Mo_sort.2.1 62 = .ok (.lload_n 2, 1) := by decide +kernel
theorem d_Mo_sort_63 : decode M_Mo_sort.2.1 63 = .ok (.lcmp, 1) := by decide +kernel
theorem d_Mo_sort_64 : decode M_Mo_sort.2.1 64 = .ok (.ifCond .ne 4, 3) := by decide +kernel
theorem d_Mo_sort_67 : decode M_Mo_sort.2.1 67 = .ok (.return_, 1) := by decide +kernel
theorem d_Mo_sort_11 : decode M_Mo_sort.2.1 11 = .ok (.iload 5, 2) := by decide +kernel
theorem d_Mo_sort_13 : decode M_Mo_sort.2.1 13 = .ok (.iload 4, 2) := by decide +kernel
theorem d_Mo_sort_15 : decode M_Mo_sort.2.1 15 = .ok (.if_icmp .ge 27, 3) := by decide +kernel
theorem d_Mo_sort_18 : decode M_Mo_sort.2.1 18 = .ok (.aload_n 0, 1) := by decide +kernel
theorem d_Mo_sort_19 : decode M_Mo_sort.2.1 19 = .ok (.getfield 91, 3) := by decide +kernel
theorem d_Mo_sort_22 : decode M_Mo_sort.2.1 22 = .ok (.sipush 330, 3) := by decide +kernel
theorem d_Mo_sort_25 : decode M_Mo_sort.2.1 25 = .ok (.iload_n 1, 1) := by decide +kernel
theorem d_Mo_sort_26 : decode M_Mo_sort.2.1 26 = .ok (.imul, 1) := by decide +kernel
theorem d_Mo_sort_27 : decode M_Mo_sort.2.1 27 = .ok (.iload 5, 2) := by decide +kernel
theorem d_Mo_sort_29 : decode M_Mo_sort.2.1 29 = .ok (.iadd, 1) := by decide +kernel
theorem d_Mo_sort_30 : decode M_Mo_sort.2.1 30 = .ok (.laload, 1) := by decide +kernel
theorem d_Mo_sort_31 : decode M_Mo_sort.2.1 31 = .ok (.lload_n 2, 1) := by decide +kernel
theorem d_Mo_sort_32 : decode M_Mo_sort.2.1 32 = .ok (.lcmp, 1) := by decide +kernel
theorem d_Mo_sort_33 : decode M_Mo_sort.2.1 33 = .ok (.ifCond .ge 9, 3) := by decide +kernel
theorem d_Mo_sort_36 : decode M_Mo_sort.2.1 36 = .ok (.iinc 5 1, 3) := by decide +kernel
theorem d_Mo_sort_39 : decode M_Mo_sort.2.1 39 = .ok (.goto (-28), 3) := by decide +kernel
theorem d_Mo_sort_0 : decode M_Mo_sort.2.1 0 = .ok (.aload_n 0, 1) := by decide +kernel
theorem d_Mo_sort_1 : decode M_Mo_sort.2.1 1 = .ok (.getfield 94, 3) := by decide +kernel
theorem d_Mo_sort_4 : decode M_Mo_sort.2.1 4 = .ok (.iload_n 1, 1) := by decide +kernel
theorem d_Mo_sort_5 : decode M_Mo_sort.2.1 5 = .ok (.iaload, 1) := by decide +kernel
theorem d_Mo_sort_6 : decode M_Mo_sort.2.1 6 = .ok (.istore 4, 2) := by decide +kernel
theorem d_Mo_sort_8 : decode M_Mo_sort.2.1 8 = .ok (.iconst 0, 1) := by decide +kernel
theorem d_Mo_sort_9 : decode M_Mo_sort.2.1 9 = .ok (.istore 5, 2) := by decide +kernel
end
section RF14
variable {l : Launch} {G : XG} {h : XH} {c n d : Nat} {o : Nat} {rf : Nat → Nat} {S : MS}
theorem gl_sle {us : List Int64} {e f : Int} {z : Int64} {N : Nat} (hl : us.length = N) (he : 0 ≤ e) (h1 : e < N) (hf : 0 ≤ f) : gl (sle us e z) f = if f = e then z else gl us f := by
  unfold gl sle
  rw [List.getD_eq_getElem?_getD, List.getElem?_set, List.getD_eq_getElem?_getD]
  by_cases hj : f = e
  · subst hj
    rw [if_pos rfl, if_pos rfl, if_pos (by omega)]
    rfl
  · rw [if_neg hj, if_neg (by omega)]
theorem sl_sl {i : Nat} {a b : List Int64} : sl (sl S i a) i b = sl S i b := by
  show (S.1, S.2.1, fup (fup S.2.2.1 i a) i b, S.2.2.2) = _
  rw [fup_fup]
theorem sl_id {i : Nat} : sl S i (S.2.2.1 i) = S := by
  show (S.1, S.2.1, fup S.2.2.1 i (S.2.2.1 i), S.2.2.2) = _
  rw [fup_id]
/-- a VALUE stands in a name's row -/
def sMem (S : MS) (nm : Int) (x : Int64) : Prop := ∃ i : Int, 0 ≤ i ∧ i < gd (S.2.1 38) nm ∧ gl (S.2.2.1 37) (330 * nm + i) = x
/-- the rows aren't too long -/
def mnB (S : MS) (B : Int) : Prop := ∀ q : Int, 0 ≤ q → q < 6 → 0 ≤ gd (S.2.1 38) q ∧ gd (S.2.1 38) q ≤ B
/-- a row behind a shift -/
def shf (old us : List Int64) (b i m : Int) : Prop := us.length = 1980 ∧ ∀ e : Int, 0 ≤ e → e < 1980 → gl us e = if b + i < e ∧ e ≤ b + m then gl old (e - 1) else gl old e
theorem shf.step {old us : List Int64} {b i m : Int} (h : shf old us b i m) (hb : 0 ≤ b) (hi : 1 ≤ i) (him : i ≤ m) (hm : b + m < 1980) : shf old (sle us (b + i) (gl us (b + i - 1))) b (i - 1) m := by
  obtain ⟨h1, h2⟩ := h
  refine ⟨by rw [sle, List.length_set]; exact h1, fun e he0 he1 => ?_⟩
  rw [gl_sle h1 (by omega) (by omega) he0]
  by_cases hq : e = b + i
  · rw [if_pos hq, if_pos (by omega), h2 (b + i - 1) (by omega) (by omega), if_neg (by omega), hq]
  · rw [if_neg hq, h2 e he0 he1]
    by_cases hr : b + i < e ∧ e ≤ b + m
    · rw [if_pos hr, if_pos (by omega)]
    · rw [if_neg hr, if_neg (by omega)]
/-- how sort() ends -/
abbrev srQ (S : MS) (nm : Int) (x : Int64) : Option Value → MS → Prop := fun v S' => v = none ∧ rSm S S' [] [38] [37] ∧ (∀ q : Int, 0 ≤ q → q < 6 → gd (S.2.1 38) q ≤ gd (S'.2.1 38) q ∧ gd (S'.2.1 38) q ≤ gd (S.2.1 38) q + (if q = nm then 1 else 0)) ∧ sMem S' nm x ∧ ∀ (q : Int) (y : Int64), 0 ≤ q → q < 6 → sMem S q y → sMem S' q y
end RF14
