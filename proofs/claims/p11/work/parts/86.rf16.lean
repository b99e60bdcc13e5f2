section
abbrev y_Mo_locate : MethodName := ⟨"MarkerTextModel", "locate", "(I)V"⟩
abbrev M_Mo_locate : XMt := (y_Mo_locate, prog_13_method_45_code, 6, none)
theorem d_Mo_locate_5 : decode M_Mo_locate.2.1 5 = .ok (.iload_n 2, 1) := by decide +kernel
theorem d_Mo_locate_6 : decode M_Mo_locate.2.1 6 = .ok (.bipush 40, 2) := by decide +kernel
theorem d_Mo_locate_8 : decode M_Mo_locate.2.1 8 = .ok (.iload_n 1, 1) := by decide +kernel
theorem d_Mo_locate_9 : decode M_Mo_locate.2.1 9 = .ok (.imul, 1) := by decide +kernel
theorem d_Mo_locate_10 : decode M_Mo_locate.2.1 10 = .ok (.aload_n 0, 1) := by decide +kernel
theorem d_Mo_locate_11 : decode M_Mo_locate.2.1 11 = .ok (.getfield 63, 3) := by decide +kernel
theorem d_Mo_locate_14 : decode M_Mo_locate.2.1 14 = .ok (.iload_n 1, 1) := by decide +kernel
theorem d_Mo_locate_15 : decode M_Mo_locate.2.1 15 = .ok (.iaload, 1) := by decide +kernel
theorem d_Mo_locate_16 : decode M_Mo_locate.2.1 16 = .ok (.iadd, 1) := by decide +kernel
theorem d_Mo_locate_17 : decode M_Mo_locate.2.1 17 = .ok (.if_icmp .ge 88, 3) := by decide +kernel
theorem d_Mo_locate_105 : decode M_Mo_locate.2.1 105 = .ok (.return_, 1) := by decide +kernel
theorem d_Mo_locate_22 : decode M_Mo_locate.2.1 22 = .ok (.iload_n 3, 1) := by decide +kernel
theorem d_Mo_locate_23 : decode M_Mo_locate.2.1 23 = .ok (.aload_n 0, 1) := by decide +kernel
theorem d_Mo_locate_24 : decode M_Mo_locate.2.1 24 = .ok (.getfield 60, 3) := by decide +kernel
theorem d_Mo_locate_27 : decode M_Mo_locate.2.1 27 = .ok (.iload_n 2, 1) := by decide +kernel
theorem d_Mo_locate_28 : decode M_Mo_locate.2.1 28 = .ok (.iaload, 1) := by decide +kernel
theorem d_Mo_locate_29 : decode M_Mo_locate.2.1 29 = .ok (.if_icmp .ge 70, 3) := by decide +kernel
theorem d_Mo_locate_99 : decode M_Mo_locate.2.1 99 = .ok (.iinc 2 1, 3) := by decide +kernel
theorem d_Mo_locate_102 : decode M_Mo_locate.2.1 102 = .ok (.goto (-97), 3) := by decide +kernel
theorem d_Mo_locate_45 : decode M_Mo_locate.2.1 45 = .ok (.aload_n 0, 1) := by decide +kernel
theorem d_Mo_locate_46 : decode M_Mo_locate.2.1 46 = .ok (.getfield 91, 3) := by decide +kernel
theorem d_Mo_locate_49 : decode M_Mo_locate.2.1 49 = .ok (.sipush 330, 3) := by decide +kernel
theorem d_Mo_locate_52 : decode M_Mo_locate.2.1 52 = .ok (.aload_n 0, 1) := by decide +kernel
theorem d_Mo_locate_53 : decode M_Mo_locate.2.1 53 = .ok (.getfield 51, 3) := by decide +kernel
theorem d_Mo_locate_56 : decode M_Mo_locate.2.1 56 = .ok (.iload_n 2, 1) := by decide +kernel
theorem d_Mo_locate_57 : decode M_Mo_locate.2.1 57 = .ok (.iaload, 1) := by decide +kernel
theorem d_Mo_locate_58 : decode M_Mo_locate.2.1 58 = .ok (.imul, 1) := by decide +kernel
theorem d_Mo_locate_59 : decode M_Mo_locate.2.1 59 = .ok (.iload 5, 2) := by decide +kernel
theorem d_Mo_locate_61 : decode M_Mo_locate.2.1 61 = .ok (.iadd, 1) := by decide +kernel
theorem d_Mo_locate_62 : decode M_Mo_locate.2.1 62 = .ok (.laload, 1) := by decide +kernel
theorem d_Mo_locate_63 : decode M_Mo_locate.2.1 63 = .ok (.aload_n 0, 1) := by decide +kernel
theorem d_Mo_locate_64 : decode M_Mo_locate.2.1 64 = .ok (.getfield 66, 3) := by decide +kernel
theorem d_Mo_locate_67 : decode M_Mo_locate.2.1 67 = .ok (.iload 4, 2) := by decide +kernel
theorem d_Mo_locate_69 : decode M_Mo_locate.2.1 69 = .ok (.laload, 1) := by decide +kernel
theorem d_Mo_locate_70 : decode M_Mo_locate.2.1 70 = .ok (.lcmp, 1) := by decide +kernel
theorem d_Mo_locate_71 : decode M_Mo_locate.2.1 71 = .ok (.ifCond .eq 9, 3) := by decide +kernel
theorem d_Mo_locate_80 : decode M_Mo_locate.2.1 80 = .ok (.aload_n 0, 1) := by decide +kernel
theorem d_Mo_locate_81 : decode M_Mo_locate.2.1 81 = .ok (.getfield 75, 3) := by decide +kernel
theorem d_Mo_locate_84 : decode M_Mo_locate.2.1 84 = .ok (.iload 4, 2) := by decide +kernel
theorem d_Mo_locate_86 : decode M_Mo_locate.2.1 86 = .ok (.iconst 2, 1) := by decide +kernel
theorem d_Mo_locate_87 : decode M_Mo_locate.2.1 87 = .ok (.iload 5, 2) := by decide +kernel
theorem d_Mo_locate_89 : decode M_Mo_locate.2.1 89 = .ok (.imul, 1) := by decide +kernel
theorem d_Mo_locate_90 : decode M_Mo_locate.2.1 90 = .ok (.iconst 2, 1) := by decide +kernel
theorem d_Mo_locate_91 : decode M_Mo_locate.2.1 91 = .ok (.iadd, 1) := by decide +kernel
theorem d_Mo_locate_92 : decode M_Mo_locate.2.1 92 = .ok (.iastore, 1) := by decide +kernel
theorem d_Mo_locate_93 : decode M_Mo_locate.2.1 93 = .ok (.iinc 3 1, 3) := by decide +kernel
theorem d_Mo_locate_96 : decode M_Mo_locate.2.1 96 = .ok (.goto (-74), 3) := by decide +kernel
theorem d_Mo_locate_74 : decode M_Mo_locate.2.1 74 = .ok (.iinc 5 1, 3) := by decide +kernel
theorem d_Mo_locate_77 : decode M_Mo_locate.2.1 77 = .ok (.goto (-32), 3) := by decide +kernel
theorem d_Mo_locate_32 : decode M_Mo_locate.2.1 32 = .ok (.aload_n 0, 1) := by decide +kernel
theorem d_Mo_locate_33 : decode M_Mo_locate.2.1 33 = .ok (.getfield 57, 3) := by decide +kernel
theorem d_Mo_locate_36 : decode M_Mo_locate.2.1 36 = .ok (.iload_n 2, 1) := by decide +kernel
theorem d_Mo_locate_37 : decode M_Mo_locate.2.1 37 = .ok (.iaload, 1) := by decide +kernel
theorem d_Mo_locate_38 : decode M_Mo_locate.2.1 38 = .ok (.iload_n 3, 1) := by decide +kernel
theorem d_Mo_locate_39 : decode M_Mo_locate.2.1 39 = .ok (.iadd, 1) := by decide +kernel
theorem d_Mo_locate_40 : decode M_Mo_locate.2.1 40 = .ok (.istore 4, 2) := by decide +kernel
theorem d_Mo_locate_42 : decode M_Mo_locate.2.1 42 = .ok (.iconst 0, 1) := by decide +kernel
theorem d_Mo_locate_43 : decode M_Mo_locate.2.1 43 = .ok (.istore 5, 2) := by decide +kernel
theorem d_Mo_locate_20 : decode M_Mo_locate.2.1 20 = .ok (.iconst 0, 1) := by decide +kernel
theorem d_Mo_locate_21 : decode M_Mo_locate.2.1 21 = .ok (.istore_n 3, 1) := by decide +kernel
theorem d_Mo_locate_0 : decode M_Mo_locate.2.1 0 = .ok (.bipush 40, 2) := by decide +kernel
theorem d_Mo_locate_2 : decode M_Mo_locate.2.1 2 = .ok (.iload_n 1, 1) := by decide +kernel
theorem d_Mo_locate_3 : decode M_Mo_locate.2.1 3 = .ok (.imul, 1) := by decide +kernel
theorem d_Mo_locate_4 : decode M_Mo_locate.2.1 4 = .ok (.istore_n 2, 1) := by decide +kernel
abbrev y_Mo_samples : MethodName := ⟨"MarkerTextModel", "samples", "(I)I"⟩
abbrev M_Mo_samples : XMt := (y_Mo_samples, prog_13_method_46_code, 2, (some .int))
theorem d_Mo_samples_0 : decode M_Mo_samples.2.1 0 = .ok (.aload_n 0, 1) := by decide +kernel
theorem d_Mo_samples_1 : decode M_Mo_samples.2.1 1 = .ok (.getfield 97, 3) := by decide +kernel
theorem d_Mo_samples_4 : decode M_Mo_samples.2.1 4 = .ok (.iload_n 1, 1) := by decide +kernel
theorem d_Mo_samples_5 : decode M_Mo_samples.2.1 5 = .ok (.baload, 1) := by decide +kernel
theorem d_Mo_samples_6 : decode M_Mo_samples.2.1 6 = .ok (.ifCond .eq 16, 3) := by decide +kernel
theorem d_Mo_samples_22 : decode M_Mo_samples.2.1 22 = .ok (.iconst 1, 1) := by decide +kernel
theorem d_Mo_samples_23 : decode M_Mo_samples.2.1 23 = .ok (.ireturn, 1) := by decide +kernel
theorem d_Mo_samples_9 : decode M_Mo_samples.2.1 9 = .ok (.iconst 2, 1) := by decide +kernel
theorem d_Mo_samples_10 : decode M_Mo_samples.2.1 10 = .ok (.aload_n 0, 1) := by decide +kernel
theorem d_Mo_samples_11 : decode M_Mo_samples.2.1 11 = .ok (.getfield 94, 3) := by decide +kernel
theorem d_Mo_samples_14 : decode M_Mo_samples.2.1 14 = .ok (.iload_n 1, 1) := by decide +kernel
theorem d_Mo_samples_15 : decode M_Mo_samples.2.1 15 = .ok (.iaload, 1) := by decide +kernel
theorem d_Mo_samples_16 : decode M_Mo_samples.2.1 16 = .ok (.imul, 1) := by decide +kernel
theorem d_Mo_samples_17 : decode M_Mo_samples.2.1 17 = .ok (.iconst 2, 1) := by decide +kernel
theorem d_Mo_samples_18 : decode M_Mo_samples.2.1 18 = .ok (.iadd, 1) := by decide +kernel
theorem d_Mo_samples_19 : decode M_Mo_samples.2.1 19 = .ok (.goto 4, 3) := by decide +kernel
end
section RF16
/-- how many CHOICES -/
def pd (s : Nat → Nat) : Nat → Nat → Nat
  | 0, _ => 1
  | k + 1, j => s j * pd s k (j + 1)
/-- how many of them come behind this one -/
def rmn (s c : Nat → Nat) : Nat → Nat → Nat
  | 0, _ => 0
  | k + 1, j => (s j - 1 - c j) * pd s k (j + 1) + rmn s c k (j + 1)
theorem rmn_0 {s c : Nat → Nat} : ∀ (k j : Nat), (∀ i, j ≤ i → i < j + k → c i = 0 ∧ 1 ≤ s i) → rmn s c k j + 1 = pd s k j := by
  intro k
  induction k with
  | zero => intro j _; rfl
  | succ k ih =>
    intro j h
    have h1 := ih (j + 1) (fun i h1 h2 => h i (by omega) (by omega))
    obtain ⟨h2, h3⟩ := h j (Nat.le_refl _) (by omega)
    show (s j - 1 - c j) * pd s k (j + 1) + rmn s c k (j + 1) + 1 = s j * pd s k (j + 1)
    rw [h2, Nat.add_assoc, h1]
    obtain ⟨t, ht⟩ : ∃ t, s j = t + 1 := ⟨s j - 1, by omega⟩
    rw [ht, Nat.sub_zero, Nat.add_sub_cancel, Nat.succ_mul]
theorem rmn_f {s c : Nat → Nat} : ∀ (k j : Nat), (∀ i, j ≤ i → i < j + k → c i = s i - 1) → rmn s c k j = 0 := by
  intro k
  induction k with
  | zero => intro j _; rfl
  | succ k ih =>
    intro j h
    unfold rmn
    rw [ih (j + 1) (fun i h1 h2 => h i (by omega) (by omega)), h j (Nat.le_refl _) (by omega), Nat.sub_self, Nat.zero_mul]
theorem rmn_adv {s c c' : Nat → Nat} {n : Nat} : ∀ (k j : Nat), j ≤ n → n < j + k → (∀ i, j ≤ i → i < n → c' i = c i) → c' n = c n + 1 → c n + 1 ≤ s n - 1 → (∀ i, n < i → i < j + k → c' i = 0 ∧ c i = s i - 1 ∧ 1 ≤ s i) → rmn s c' k j + 1 = rmn s c k j := by
  intro k
  induction k with
  | zero => intro j h1 h2; omega
  | succ k ih =>
    intro j h1 h2 h3 h4 h5 h6
    unfold rmn
    by_cases hj : j = n
    · subst hj
      have e1 := rmn_0 (s := s) (c := c') k (j + 1) (fun i q1 q2 => ⟨(h6 i (by omega) (by omega)).1, (h6 i (by omega) (by omega)).2.2⟩)
      have e2 := rmn_f (s := s) (c := c) k (j + 1) (fun i q1 q2 => (h6 i (by omega) (by omega)).2.1)
      rw [e2, h4, Nat.add_assoc, e1]
      obtain ⟨t, ht⟩ : ∃ t, s j - 1 - c j = t + 1 := ⟨s j - 1 - c j - 1, by omega⟩
      rw [show s j - 1 - (c j + 1) = t by omega, ht, Nat.succ_mul]
      rfl
    · have := ih (j + 1) (by omega) (by omega) (fun i q1 q2 => h3 i (by omega) q2) h4 h5 (fun i q1 q2 => h6 i q1 (by omega))
      rw [h3 j (Nat.le_refl _) (by omega)]
      omega
theorem rmn_congr {s s' c c' : Nat → Nat} : ∀ (k j : Nat), (∀ i, j ≤ i → i < j + k → s i = s' i ∧ c i = c' i) → rmn s c k j = rmn s' c' k j ∧ pd s k j = pd s' k j := by
  intro k
  induction k with
  | zero => intro j _; exact ⟨rfl, rfl⟩
  | succ k ih =>
    intro j h
    obtain ⟨h1, h2⟩ := ih (j + 1) (fun i q1 q2 => h i (by omega) (by omega))
    obtain ⟨h3, h4⟩ := h j (Nat.le_refl _) (by omega)
    show (s j - 1 - c j) * pd s k (j + 1) + rmn s c k (j + 1) = (s' j - 1 - c' j) * pd s' k (j + 1) + rmn s' c' k (j + 1) ∧ s j * pd s k (j + 1) = s' j * pd s' k (j + 1)
    rw [h1, h2, h3, h4]
    exact ⟨rfl, rfl⟩
/-- VALUES below 256, none twice, are 256 at most -/
theorem pig : ∀ (m : Nat) (us : List Nat), us.Nodup → (∀ x ∈ us, x < m) → us.length ≤ m := by
  intro m
  induction m with
  | zero =>
    intro us _ h
    cases us with
    | nil => exact Nat.le_refl _
    | cons x us => exact absurd (h x List.mem_cons_self) (Nat.not_lt_zero _)
  | succ m ih =>
    intro us hn h
    have h1 := ih (us.erase m) (hn.erase m) (fun x hx => by
      have hx1 := List.mem_of_mem_erase hx
      have hx2 := h x hx1
      have hx3 : x ≠ m := fun e => by
        rw [e] at hx
        exact (List.Nodup.mem_erase_iff hn).mp hx |>.1 rfl
      omega)
    have h2 : us.length ≤ (us.erase m).length + 1 := by
      by_cases hm : m ∈ us
      · rw [List.length_erase_of_mem hm]; omega
      · rw [List.erase_of_not_mem hm]; omega
    omega
variable {l : Launch} {G : XG} {h : XH} {c n d : Nat} {o : Nat} {rf : Nat → Nat} {S : MS}
theorem lgz' {x y : Int64} (h : x = y) : (lg_cmp x y).toInt = 0 := by
  rw [(lg_cmp_eq _ _).mpr h]
  rfl
/-- how many SAMPLES a name has -/
def smI (S : MS) (q : Int) : Int := if gd (S.2.1 39) q = 0 then 1 else 2 * gd (S.2.1 38) q + 2
theorem smI_b {B q : Int} (hm : mnB S B) (h0 : 0 ≤ q) (h6 : q < 6) : 1 ≤ smI S q ∧ smI S q ≤ 2 * B + 2 := by
  have := hm q h0 h6
  unfold smI
  split <;> omega
theorem r_samples {q : Int} (h0 : 0 ≤ q) (h6 : q < 6) (hm : mnB S 328) : RM l G d M_Mo_samples [.ref o, .int (zI q)] o rf S (fun v S' => S' = S ∧ v = some (.int (zI (smI S q)))) := by
  intro H0 c n hR
  refine XM.of (by decide +kernel) (Nat.le_of_ble_eq_true rfl) ?_
  have hX : xonly H0 H0 RKs := xonly.rf
  refine x_aload_n d_Mo_samples_0 rfl rfl ?_
  refine x_get xf_Mo_97_Mo (Or.inl hR.1) (v := .ref (rf 39)) rfl d_Mo_samples_1 ?_
  refine x_iload_n d_Mo_samples_4 rfl ?_
  refine r_zald (i := 39) (us := (S.2.1 39)) ⟨rfl, rfl⟩ (by decide) hR rfl (by omega) (by show q < 6; omega) d_Mo_samples_5 (fun hr5 => ?_)
  refine z_if_eq (tgt := 22) d_Mo_samples_6 (by decide) (by omega) (fun hc6 => ?_) (fun hc6 => ?_)
  · refine x_iconst (v := zI 1) d_Mo_samples_22 (by decide) ?_
    refine x_iret d_Mo_samples_23 rfl ?_
    first | exact ⟨_, hR, hX, rfl, rfl, rfl, by unfold smI; rw [if_pos hc6]⟩ | exact ⟨_, hR, hX, rfl, rfl, rfl, by unfold smI; rw [if_neg hc6]⟩
  · refine x_iconst (v := zI 2) d_Mo_samples_9 (by decide) ?_
    refine x_aload_n d_Mo_samples_10 rfl rfl ?_
    refine x_get xf_Mo_94_Mo (Or.inl hR.1) (v := .ref (rf 38)) rfl d_Mo_samples_11 ?_
    refine x_iload_n d_Mo_samples_14 rfl ?_
    refine r_iald (i := 38) (us := (S.2.1 38)) rfl (by decide) hR rfl (by omega) (by show q < 6; omega) d_Mo_samples_15 (fun hr15 => ?_)
    refine z_imul d_Mo_samples_16 ?_
    refine x_iconst (v := zI 2) d_Mo_samples_17 (by decide) ?_
    refine z_iadd d_Mo_samples_18 ?_
    refine x_goto (tgt := 23) d_Mo_samples_19 (by decide) ?_
    refine x_iret d_Mo_samples_23 rfl ?_
    first | exact ⟨_, hR, hX, rfl, rfl, rfl, by unfold smI; rw [if_pos hc6]⟩ | exact ⟨_, hR, hX, rfl, rfl, rfl, by unfold smI; rw [if_neg hc6]⟩
end RF16
