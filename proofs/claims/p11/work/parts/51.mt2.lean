section

end
section MT2
variable {l : Launch} {G : XG} {h : XH} {c n d : Nat}
def oR : Option Nat → Value
  | none => .null
  | some a => .ref a
/-- what stands at a place that may lie outside -/
def iAt {α : Type} (k : Int32) (xs : List α) : Option α := if k < 0 then none else xs[k.toNatClampNeg]?
theorem iAt_lt {α : Type} {k : Int32} {xs : List α} (h0 : k < 0) : iAt k xs = none := if_pos h0
theorem iAt_ge {α : Type} {k : Int32} {xs : List α} (h0 : ¬ k < 0) : iAt k xs = xs[k.toNatClampNeg]? := if_neg h0
theorem i32_out {k N : Int32} {m : Nat} (hN : N.toInt = m) (h1 : N ≤ k) : m ≤ k.toNatClampNeg := by
  rw [Int32.le_iff_toInt_le] at h1
  show m ≤ k.toInt.toNat
  omega
theorem iAt_out {α : Type} {k N : Int32} {m : Nat} {xs : List α} (hN : N.toInt = m) (hl : xs.length ≤ m) (h0 : ¬ k < 0) (h1 : N ≤ k) : iAt k xs = none := by
  have := i32_out hN h1
  rw [iAt_ge h0, List.getElem?_eq_none (by omega)]
theorem or_at {cas : List Nat} {N i : Nat} (hi : i < N) (hl : cas.length ≤ N) : (cas.map (Value.ref ·) ++ List.replicate (N - cas.length) Value.null)[i]? = some (oR cas[i]?) := by
  by_cases h1 : i < cas.length
  · rw [List.getElem?_append_left (by simpa using h1), List.getElem?_map, List.getElem?_eq_getElem h1]
    rfl
  · rw [List.getElem?_append_right (by simp; omega), List.getElem?_replicate, if_pos (by simp; omega), List.getElem?_eq_none (by omega)]
    rfl
abbrev CnT : Type := Den × List TsT
/-- the conditions -/
def isCs (G : XG) (h : XH) (r : Nat) (cas : List Nat) (Cs : List CnT) : Prop := h r = some (k_aCondition, cas.map (.ref ·) ++ List.replicate (8 - cas.length) .null) ∧ cas.length = Cs.length ∧ Cs.length ≤ 8 ∧ ∀ (i : Nat) (x : CnT) (a : Nat), Cs[i]? = some x → cas[i]? = some a → isC G h a x.1 x.2
abbrev kCd : List Nat := [k_Condition, k_Test, k_Join, k_Negation, k_Constant, k_avals, k_String, k_asbyte, k_ArrayList, k_aObject]
theorem isCs.fr {h' : XH} {F : List Nat} {r : Nat} {cas : List Nat} {Cs : List CnT} (hC : isCs G h r cas Cs) (hf : xfr h h' F) (hn : xno h F (k_aCondition :: kCd)) : isCs G h' r cas Cs := by
  obtain ⟨e1, e2, e3, e4⟩ := hC
  exact ⟨hf.1 _ _ e1 (hn.at e1 (by decide)), e2, e3, fun i x a h1 h2 => (e4 i x a h1 h2).fr hf (hn.sub (by decide))⟩
theorem c_conditionAt {x ca : Nat} {k : Int32} {cas : List Nat} {Cs : List CnT} {a b a2 : Value} {e : List Value} (hx : h x = some (k_MarkerText, a :: b :: a2 :: .ref ca :: e)) (hC : isCs G h ca cas Cs) : XM l G d M_MT_conditionAt [.ref x, .int k] h c n (xSame (oR (iAt k cas)) h c n) := by
  obtain ⟨e1, e2, e3, -⟩ := hC
  refine XM.of (by decide +kernel) (Nat.le_of_ble_eq_true rfl) ?_
  refine x_iload_n d_MT_conditionAt_0 rfl ?_
  refine x_if_lt (tgt := 19) d_MT_conditionAt_1 (by decide) (fun hc1 => ?_) (fun hc1 => ?_)
  · rw [iAt_lt hc1]
    refine x_null d_MT_conditionAt_19 ?_
    refine x_aret d_MT_conditionAt_20 rfl rfl ?_
    exact ⟨rfl, rfl, rfl, rfl⟩
  · refine x_iload_n d_MT_conditionAt_4 rfl ?_
    refine x_bipush (v := 8) d_MT_conditionAt_5 (by decide) ?_
    refine x_icmp_ge (tgt := 19) d_MT_conditionAt_7 (by decide) (fun hc7 => ?_) (fun hc7 => ?_)
    · rw [iAt_out (N := 8) (m := 8) (by decide) (by omega) hc1 hc7]
      refine x_null d_MT_conditionAt_19 ?_
      refine x_aret d_MT_conditionAt_20 rfl rfl ?_
      exact ⟨rfl, rfl, rfl, rfl⟩
    · have hi := i32_cl (N := 8) (m := 8) (by decide) hc1 hc7
      have hat := or_at (cas := cas) (N := 8) hi (by omega)
      rw [iAt_ge hc1]
      cases hca : cas[k.toNatClampNeg]? with
      | none =>
        rw [hca] at hat
        refine x_aload_n d_MT_conditionAt_10 rfl rfl ?_
        refine x_get xf_MT_28_MT (Or.inl hx) rfl d_MT_conditionAt_11 ?_
        refine x_iload_n d_MT_conditionAt_14 rfl ?_
        refine x_aald (k := k_aCondition) rfl rfl (Or.inl e1) hc1 hat d_MT_conditionAt_15 ?_
        refine x_goto (tgt := 20) d_MT_conditionAt_16 (by decide) ?_
        refine x_aret d_MT_conditionAt_20 rfl rfl ?_
        exact ⟨rfl, rfl, rfl, rfl⟩
      | some q =>
        rw [hca] at hat
        refine x_aload_n d_MT_conditionAt_10 rfl rfl ?_
        refine x_get xf_MT_28_MT (Or.inl hx) rfl d_MT_conditionAt_11 ?_
        refine x_iload_n d_MT_conditionAt_14 rfl ?_
        refine x_aald (k := k_aCondition) rfl rfl (Or.inl e1) hc1 hat d_MT_conditionAt_15 ?_
        refine x_goto (tgt := 20) d_MT_conditionAt_16 (by decide) ?_
        refine x_aret d_MT_conditionAt_20 rfl rfl ?_
        exact ⟨rfl, rfl, rfl, rfl⟩
theorem c_nameAt {x na : Nat} {k : Int32} {as kas : List Nat} {Ns : List NmT} {a : Value} {e : List Value} (hx : h x = some (k_MarkerText, a :: .ref na :: e)) (hN : isNs G h na as kas Ns) : XM l G d M_MT_nameAt [.ref x, .int k] h c n (xSame (oR (iAt k as)) h c n) := by
  obtain ⟨e1, e2, -, e3, -⟩ := hN
  refine XM.of (by decide +kernel) (Nat.le_of_ble_eq_true rfl) ?_
  refine x_iload_n d_MT_nameAt_0 rfl ?_
  refine x_if_lt (tgt := 19) d_MT_nameAt_1 (by decide) (fun hc1 => ?_) (fun hc1 => ?_)
  · rw [iAt_lt hc1]
    refine x_null d_MT_nameAt_19 ?_
    refine x_aret d_MT_nameAt_20 rfl rfl ?_
    exact ⟨rfl, rfl, rfl, rfl⟩
  · refine x_iload_n d_MT_nameAt_4 rfl ?_
    refine x_bipush (v := 6) d_MT_nameAt_5 (by decide) ?_
    refine x_icmp_ge (tgt := 19) d_MT_nameAt_7 (by decide) (fun hc7 => ?_) (fun hc7 => ?_)
    · rw [iAt_out (N := 6) (m := 6) (by decide) (by omega) hc1 hc7]
      refine x_null d_MT_nameAt_19 ?_
      refine x_aret d_MT_nameAt_20 rfl rfl ?_
      exact ⟨rfl, rfl, rfl, rfl⟩
    · have hi := i32_cl (N := 6) (m := 6) (by decide) hc1 hc7
      have hat := or_at (cas := as) (N := 6) hi (by omega)
      rw [iAt_ge hc1]
      cases hca : as[k.toNatClampNeg]? with
      | none =>
        rw [hca] at hat
        refine x_aload_n d_MT_nameAt_10 rfl rfl ?_
        refine x_get xf_MT_18_MT (Or.inl hx) rfl d_MT_nameAt_11 ?_
        refine x_iload_n d_MT_nameAt_14 rfl ?_
        refine x_aald (k := k_aName) rfl rfl (Or.inl e1) hc1 hat d_MT_nameAt_15 ?_
        refine x_goto (tgt := 20) d_MT_nameAt_16 (by decide) ?_
        refine x_aret d_MT_nameAt_20 rfl rfl ?_
        exact ⟨rfl, rfl, rfl, rfl⟩
      | some q =>
        rw [hca] at hat
        refine x_aload_n d_MT_nameAt_10 rfl rfl ?_
        refine x_get xf_MT_18_MT (Or.inl hx) rfl d_MT_nameAt_11 ?_
        refine x_iload_n d_MT_nameAt_14 rfl ?_
        refine x_aald (k := k_aName) rfl rfl (Or.inl e1) hc1 hat d_MT_nameAt_15 ?_
        refine x_goto (tgt := 20) d_MT_nameAt_16 (by decide) ?_
        refine x_aret d_MT_nameAt_20 rfl rfl ?_
        exact ⟨rfl, rfl, rfl, rfl⟩
end MT2
