section
abbrev y_Arrays_fill_aII : MethodName := ⟨"java/util/Arrays", "fill", "([II)V"⟩
abbrev M_Arrays_fill_aII : XMt := (y_Arrays_fill_aII, prog_34_method_103_code, 4, none)
theorem d_Arrays_fill_aII_5 : decode M_Arrays_fill_aII.2.1 5 = .ok (.iload_n 2, 1) := by decide +kernel
theorem d_Arrays_fill_aII_6 : decode M_Arrays_fill_aII.2.1 6 = .ok (.iload_n 3, 1) := by decide +kernel
theorem d_Arrays_fill_aII_7 : decode M_Arrays_fill_aII.2.1 7 = .ok (.if_icmp .ge 13, 3) := by decide +kernel
theorem d_Arrays_fill_aII_20 : decode M_Arrays_fill_aII.2.1 20 = .ok (.return_, 1) := by decide +kernel
theorem d_Arrays_fill_aII_10 : decode M_Arrays_fill_aII.2.1 10 = .ok (.aload_n 0, 1) := by decide +kernel
theorem d_Arrays_fill_aII_11 : decode M_Arrays_fill_aII.2.1 11 = .ok (.iload_n 2, 1) := by decide +kernel
theorem d_Arrays_fill_aII_12 : decode M_Arrays_fill_aII.2.1 12 = .ok (.iload_n 1, 1) := by decide +kernel
theorem d_Arrays_fill_aII_13 : decode M_Arrays_fill_aII.2.1 13 = .ok (.iastore, 1) := by decide +kernel
theorem d_Arrays_fill_aII_14 : decode M_Arrays_fill_aII.2.1 14 = .ok (.iinc 2 1, 3) := by decide +kernel
theorem d_Arrays_fill_aII_17 : decode M_Arrays_fill_aII.2.1 17 = .ok (.goto (-12), 3) := by decide +kernel
theorem d_Arrays_fill_aII_0 : decode M_Arrays_fill_aII.2.1 0 = .ok (.iconst 0, 1) := by decide +kernel
theorem d_Arrays_fill_aII_1 : decode M_Arrays_fill_aII.2.1 1 = .ok (.istore_n 2, 1) := by decide +kernel
theorem d_Arrays_fill_aII_2 : decode M_Arrays_fill_aII.2.1 2 = .ok (.aload_n 0, 1) := by decide +kernel
theorem d_Arrays_fill_aII_3 : decode M_Arrays_fill_aII.2.1 3 = .ok (.arraylength, 1) := by decide +kernel
theorem d_Arrays_fill_aII_4 : decode M_Arrays_fill_aII.2.1 4 = .ok (.istore_n 3, 1) := by decide +kernel
end
section PA1
variable {l : Launch} {G : XG} {h : XH} {c n d : Nat}
/-- Arrays.fill(int[], 0) -/
theorem c_fill {a k0 : Nat} {us : List Nat} (hk0 : k0 = k_apcl) (ha : h a = some (k0, xiv us)) (hm : us.length < 2 ^ 20) : XM l G d M_Arrays_fill_aII [.ref a, .int 0] h c n (fun r h' c' n' => r = none ∧ h' = xup h a (k0, xiv (List.replicate us.length 0)) ∧ c' = c ∧ n' = n) := by
  subst hk0
  refine XM.of (by decide +kernel) (Nat.le_of_ble_eq_true rfl) ?_
  have hlen : (xiv us).length = us.length := by simp [xiv]
  have lp : ∀ (k i : Nat) (ws : List Nat), i + k = us.length → ws.length = us.length → (∀ j, j < i → ws[j]? = some 0) → XW l G M_Arrays_fill_aII d 5 [some (.ref a), some (.int 0), some (.int (nI i)), some (.int (nI us.length))] [] (xup h a (k_apcl, xiv ws)) c n (fun r h' c' n' => r = none ∧ h' = xup h a (k_apcl, xiv (List.replicate us.length 0)) ∧ c' = c ∧ n' = n) := by
    intro k
    induction k with
    | zero =>
      intro i ws hi hw hz
      refine x_iload_n d_Arrays_fill_aII_5 rfl ?_
      refine x_iload_n d_Arrays_fill_aII_6 rfl ?_
      refine x_icmp_ge (tgt := 20) d_Arrays_fill_aII_7 (by decide) (fun _ => ?_) (fun hn => absurd (nI_le (by omega) (by omega)) hn)
      refine x_vret d_Arrays_fill_aII_20 rfl ?_
      refine ⟨rfl, ?_, rfl, rfl⟩
      have : ws = List.replicate us.length 0 := by
        refine List.ext_getElem? (fun j => ?_)
        rw [List.getElem?_replicate]
        by_cases hj : j < us.length
        · rw [if_pos hj, hz j (by omega)]
        · rw [if_neg hj, List.getElem?_eq_none (by omega)]
      rw [this]
    | succ k ih =>
      intro i ws hi hw hz
      refine x_iload_n d_Arrays_fill_aII_5 rfl ?_
      refine x_iload_n d_Arrays_fill_aII_6 rfl ?_
      refine x_icmp_ge (tgt := 20) d_Arrays_fill_aII_7 (by decide) (fun ht => absurd ht (nI_ge (by omega) (by omega))) (fun _ => ?_)
      refine x_aload_n d_Arrays_fill_aII_10 rfl rfl ?_
      refine x_iload_n d_Arrays_fill_aII_11 rfl ?_
      refine x_iload_n d_Arrays_fill_aII_12 rfl ?_
      refine x_iast (k := k_apcl) rfl xup_self (nI_pos (by omega)) (by rw [nI_clamp (by omega)]; exact iv_at (by omega)) d_Arrays_fill_aII_13 ?_
      refine x_hp (h' := xup h a (k_apcl, xiv (ws.set i 0))) (by rw [xup_up, nI_clamp (by omega), show (Value.int 0) = .int (nI 0) from rfl, xiv_set]) ?_
      refine x_iinc (v := nI (i + 1)) (L' := [_, _, _, _]) d_Arrays_fill_aII_14 rfl (by exact xw_iinc1) rfl rfl ?_
      refine x_goto (tgt := 5) d_Arrays_fill_aII_17 (by decide) ?_
      refine ih (i + 1) _ (by omega) (by simp; omega) (fun j hj => ?_)
      by_cases hij : i = j
      · subst hij
        rw [List.getElem?_set_self (by omega)]
      · rw [List.getElem?_set_ne hij]
        exact hz j (by omega)
  refine x_iconst (v := 0) d_Arrays_fill_aII_0 (by decide) ?_
  refine x_istore_n (L' := [_, _, _, _]) d_Arrays_fill_aII_1 rfl rfl ?_
  refine x_aload_n d_Arrays_fill_aII_2 rfl rfl ?_
  refine x_alen (k := k_apcl) rfl (Or.inl ha) (v := nI us.length) (by rw [hlen]; rfl) d_Arrays_fill_aII_3 ?_
  refine x_istore_n (L' := [_, _, _, _]) d_Arrays_fill_aII_4 rfl rfl ?_
  refine x_hp (h' := xup h a (k_apcl, xiv us)) (xup_id ha).symm ?_
  exact lp us.length 0 us (by omega) rfl (fun j hj => by omega)
end PA1
