section
abbrev y_Mo_advance : MethodName := ⟨"MarkerTextModel", "advance", "()Z"⟩
abbrev M_Mo_advance : XMt := (y_Mo_advance, prog_13_method_48_code, 2, (some .boolean))
theorem d_Mo_advance_7 : decode M_Mo_advance.2.1 7 = .ok (.iload_n 1, 1) := by decide +kernel
theorem d_Mo_advance_8 : decode M_Mo_advance.2.1 8 = .ok (.ifCond .lt 32, 3) := by decide +kernel
theorem d_Mo_advance_40 : decode M_Mo_advance.2.1 40 = .ok (.iload_n 1, 1) := by decide +kernel
theorem d_Mo_advance_41 : decode M_Mo_advance.2.1 41 = .ok (.ifCond .lt 13, 3) := by decide +kernel
theorem d_Mo_advance_54 : decode M_Mo_advance.2.1 54 = .ok (.iload_n 1, 1) := by decide +kernel
theorem d_Mo_advance_55 : decode M_Mo_advance.2.1 55 = .ok (.ifCond .lt 7, 3) := by decide +kernel
theorem d_Mo_advance_62 : decode M_Mo_advance.2.1 62 = .ok (.iconst 0, 1) := by decide +kernel
theorem d_Mo_advance_63 : decode M_Mo_advance.2.1 63 = .ok (.ireturn, 1) := by decide +kernel
theorem d_Mo_advance_11 : decode M_Mo_advance.2.1 11 = .ok (.aload_n 0, 1) := by decide +kernel
theorem d_Mo_advance_12 : decode M_Mo_advance.2.1 12 = .ok (.getfield 100, 3) := by decide +kernel
theorem d_Mo_advance_15 : decode M_Mo_advance.2.1 15 = .ok (.iload_n 1, 1) := by decide +kernel
theorem d_Mo_advance_16 : decode M_Mo_advance.2.1 16 = .ok (.iaload, 1) := by decide +kernel
theorem d_Mo_advance_17 : decode M_Mo_advance.2.1 17 = .ok (.aload_n 0, 1) := by decide +kernel
theorem d_Mo_advance_18 : decode M_Mo_advance.2.1 18 = .ok (.iload_n 1, 1) := by decide +kernel
theorem d_Mo_advance_19 : decode M_Mo_advance.2.1 19 = .ok (.invokevirtual 296, 3) := by decide +kernel
theorem d_Mo_advance_22 : decode M_Mo_advance.2.1 22 = .ok (.iconst 1, 1) := by decide +kernel
theorem d_Mo_advance_23 : decode M_Mo_advance.2.1 23 = .ok (.isub, 1) := by decide +kernel
theorem d_Mo_advance_24 : decode M_Mo_advance.2.1 24 = .ok (.if_icmp .ne 16, 3) := by decide +kernel
theorem d_Mo_advance_44 : decode M_Mo_advance.2.1 44 = .ok (.aload_n 0, 1) := by decide +kernel
theorem d_Mo_advance_45 : decode M_Mo_advance.2.1 45 = .ok (.getfield 100, 3) := by decide +kernel
theorem d_Mo_advance_48 : decode M_Mo_advance.2.1 48 = .ok (.iload_n 1, 1) := by decide +kernel
theorem d_Mo_advance_49 : decode M_Mo_advance.2.1 49 = .ok (.dup2, 1) := by decide +kernel
theorem d_Mo_advance_50 : decode M_Mo_advance.2.1 50 = .ok (.iaload, 1) := by decide +kernel
theorem d_Mo_advance_51 : decode M_Mo_advance.2.1 51 = .ok (.iconst 1, 1) := by decide +kernel
theorem d_Mo_advance_52 : decode M_Mo_advance.2.1 52 = .ok (.iadd, 1) := by decide +kernel
theorem d_Mo_advance_53 : decode M_Mo_advance.2.1 53 = .ok (.iastore, 1) := by decide +kernel
theorem d_Mo_advance_58 : decode M_Mo_advance.2.1 58 = .ok (.iconst 1, 1) := by decide +kernel
theorem d_Mo_advance_59 : decode M_Mo_advance.2.1 59 = .ok (.goto 4, 3) := by decide +kernel
theorem d_Mo_advance_27 : decode M_Mo_advance.2.1 27 = .ok (.aload_n 0, 1) := by decide +kernel
theorem d_Mo_advance_28 : decode M_Mo_advance.2.1 28 = .ok (.getfield 100, 3) := by decide +kernel
theorem d_Mo_advance_31 : decode M_Mo_advance.2.1 31 = .ok (.iload_n 1, 1) := by decide +kernel
theorem d_Mo_advance_32 : decode M_Mo_advance.2.1 32 = .ok (.iconst 0, 1) := by decide +kernel
theorem d_Mo_advance_33 : decode M_Mo_advance.2.1 33 = .ok (.iastore, 1) := by decide +kernel
theorem d_Mo_advance_34 : decode M_Mo_advance.2.1 34 = .ok (.iinc 1 (-1), 3) := by decide +kernel
theorem d_Mo_advance_37 : decode M_Mo_advance.2.1 37 = .ok (.goto (-30), 3) := by decide +kernel
theorem d_Mo_advance_0 : decode M_Mo_advance.2.1 0 = .ok (.aload_n 0, 1) := by decide +kernel
theorem d_Mo_advance_1 : decode M_Mo_advance.2.1 1 = .ok (.getfield 147, 3) := by decide +kernel
theorem d_Mo_advance_4 : decode M_Mo_advance.2.1 4 = .ok (.iconst 1, 1) := by decide +kernel
theorem d_Mo_advance_5 : decode M_Mo_advance.2.1 5 = .ok (.isub, 1) := by decide +kernel
theorem d_Mo_advance_6 : decode M_Mo_advance.2.1 6 = .ok (.istore_n 1, 1) := by decide +kernel
abbrev y_Mo_truth : MethodName := ⟨"MarkerTextModel", "truth", "(I)I"⟩
abbrev M_Mo_truth : XMt := (y_Mo_truth, prog_13_method_49_code, 5, (some .int))
theorem d_Mo_truth_4 : decode M_Mo_truth.2.1 4 = .ok (.iload_n 3, 1) := by decide +kernel
theorem d_Mo_truth_5 : decode M_Mo_truth.2.1 5 = .ok (.aload_n 0, 1) := by decide +kernel
theorem d_Mo_truth_6 : decode M_Mo_truth.2.1 6 = .ok (.getfield 268, 3) := by decide +kernel
theorem d_Mo_truth_9 : decode M_Mo_truth.2.1 9 = .ok (.if_icmp .ge 49, 3) := by decide +kernel
theorem d_Mo_truth_58 : decode M_Mo_truth.2.1 58 = .ok (.iload_n 2, 1) := by decide +kernel
theorem d_Mo_truth_59 : decode M_Mo_truth.2.1 59 = .ok (.ireturn, 1) := by decide +kernel
theorem d_Mo_truth_35 : decode M_Mo_truth.2.1 35 = .ok (.istore 4, 2) := by decide +kernel
theorem d_Mo_truth_37 : decode M_Mo_truth.2.1 37 = .ok (.iload_n 2, 1) := by decide +kernel
theorem d_Mo_truth_38 : decode M_Mo_truth.2.1 38 = .ok (.iload 4, 2) := by decide +kernel
theorem d_Mo_truth_40 : decode M_Mo_truth.2.1 40 = .ok (.ifCond .eq 9, 3) := by decide +kernel
theorem d_Mo_truth_49 : decode M_Mo_truth.2.1 49 = .ok (.iconst 0, 1) := by decide +kernel
theorem d_Mo_truth_50 : decode M_Mo_truth.2.1 50 = .ok (.ior, 1) := by decide +kernel
theorem d_Mo_truth_51 : decode M_Mo_truth.2.1 51 = .ok (.istore_n 2, 1) := by decide +kernel
theorem d_Mo_truth_52 : decode M_Mo_truth.2.1 52 = .ok (.iinc 3 1, 3) := by decide +kernel
theorem d_Mo_truth_55 : decode M_Mo_truth.2.1 55 = .ok (.goto (-51), 3) := by decide +kernel
theorem d_Mo_truth_43 : decode M_Mo_truth.2.1 43 = .ok (.iconst 1, 1) := by decide +kernel
theorem d_Mo_truth_44 : decode M_Mo_truth.2.1 44 = .ok (.iload_n 3, 1) := by decide +kernel
theorem d_Mo_truth_45 : decode M_Mo_truth.2.1 45 = .ok (.ishl, 1) := by decide +kernel
theorem d_Mo_truth_46 : decode M_Mo_truth.2.1 46 = .ok (.goto 4, 3) := by decide +kernel
theorem d_Mo_truth_12 : decode M_Mo_truth.2.1 12 = .ok (.iload_n 1, 1) := by decide +kernel
theorem d_Mo_truth_13 : decode M_Mo_truth.2.1 13 = .ok (.iload_n 3, 1) := by decide +kernel
theorem d_Mo_truth_14 : decode M_Mo_truth.2.1 14 = .ok (.ishr, 1) := by decide +kernel
theorem d_Mo_truth_15 : decode M_Mo_truth.2.1 15 = .ok (.iconst 1, 1) := by decide +kernel
theorem d_Mo_truth_16 : decode M_Mo_truth.2.1 16 = .ok (.iand, 1) := by decide +kernel
theorem d_Mo_truth_17 : decode M_Mo_truth.2.1 17 = .ok (.iconst 1, 1) := by decide +kernel
theorem d_Mo_truth_18 : decode M_Mo_truth.2.1 18 = .ok (.if_icmp .ne 16, 3) := by decide +kernel
theorem d_Mo_truth_34 : decode M_Mo_truth.2.1 34 = .ok (.iconst 0, 1) := by decide +kernel
theorem d_Mo_truth_21 : decode M_Mo_truth.2.1 21 = .ok (.aload_n 0, 1) := by decide +kernel
theorem d_Mo_truth_22 : decode M_Mo_truth.2.1 22 = .ok (.iload_n 3, 1) := by decide +kernel
theorem d_Mo_truth_23 : decode M_Mo_truth.2.1 23 = .ok (.iconst 1, 1) := by decide +kernel
theorem d_Mo_truth_24 : decode M_Mo_truth.2.1 24 = .ok (.invokevirtual 284, 3) := by decide +kernel
theorem d_Mo_truth_27 : decode M_Mo_truth.2.1 27 = .ok (.ifCond .eq 7, 3) := by decide +kernel
theorem d_Mo_truth_30 : decode M_Mo_truth.2.1 30 = .ok (.iconst 1, 1) := by decide +kernel
theorem d_Mo_truth_31 : decode M_Mo_truth.2.1 31 = .ok (.goto 4, 3) := by decide +kernel
theorem d_Mo_truth_0 : decode M_Mo_truth.2.1 0 = .ok (.iconst 0, 1) := by decide +kernel
theorem d_Mo_truth_1 : decode M_Mo_truth.2.1 1 = .ok (.istore_n 2, 1) := by decide +kernel
theorem d_Mo_truth_2 : decode M_Mo_truth.2.1 2 = .ok (.iconst 0, 1) := by decide +kernel
theorem d_Mo_truth_3 : decode M_Mo_truth.2.1 3 = .ok (.istore_n 3, 1) := by decide +kernel
end
section RF18
variable {l : Launch} {G : XG} {h : XH} {c n d : Nat} {o : Nat} {rf : Nat → Nat} {S : MS}
/-- the CHOICE is one -/
def chOk (S : MS) : Prop := ∀ q : Int, 0 ≤ q → q < S.1 3 → 0 ≤ gd (S.2.1 40) q ∧ gd (S.2.1 40) q ≤ smI S q - 1
/-- how many come behind it -/
def remS (S : MS) : Nat := rmn (fun i => (smI S i).toNat) (fun i => (gd (S.2.1 40) i).toNat) (S.1 3).toNat 0
theorem smI_40 {S1 : MS} {js : List Nat} {ls : List Nat} (h : rSm S S1 js [40] ls) (q : Int) : smI S1 q = smI S q := by
  unfold smI
  rw [h.2.1 38 (by decide), h.2.1 39 (by decide)]
theorem nI_ti {k : Nat} (hk : k < 2 ^ 31) : (nI k).toInt = k := by
  have h1 := nI_clamp hk
  have h2 : (nI k).toInt.toNat = k := h1
  have h3 : ¬ nI k < 0 := nI_pos hk
  rw [Int32.lt_iff_toInt_lt] at h3
  have e0 : (0 : Int32).toInt = 0 := by decide
  omega
theorem zI_nI {k : Nat} (hk : k < 2 ^ 31) : zI (k : Int) = nI k := by rw [← nI_ti hk, zI_of]
theorem or_0 {b : Int} (hb : inR b) : (zI b ||| zI 0).toInt = b := by
  rw [show zI 0 = (0 : Int32) by decide, Int32.or_zero, zI_ti hb]
end RF18
