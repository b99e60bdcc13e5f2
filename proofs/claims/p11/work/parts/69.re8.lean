section

end
section RE8
theorem klv62 {kd : Nat} {u : List Nat} (hu : xasc u) : klv kd u < 2 ^ 62 := by
  unfold klv
  split
  · unfold vsl
    cases hv : vrun u (0, 0, 0, 1) with
    | none => decide
    | some s =>
      have hI := vrun_I u ⟨by decide, by decide, by decide, by decide, by decide⟩ hv
      have hn := vI_num hI
      show (if s.2.2.1 = 0 then 0 else 2 * ((s.1 * 1000 + s.2.1) * 1000 ^ (3 - s.2.2.2)) + 2) < 2 ^ 62
      split
      · decide
      · have h1 := hI.1
        obtain ⟨-, -, -, h4, h5⟩ := hI
        have : (s.1 * 1000 + s.2.1) * 1000 ^ (3 - s.2.2.2) < 10 ^ 9 := by
          rcases (show s.2.2.2 = 1 ∨ s.2.2.2 = 2 ∨ s.2.2.2 = 3 by omega) with e | e | e <;> rw [e] at h1 ⊢ <;> simp at h1 ⊢ <;> omega
        omega
  · unfold txl
    split
    · have := tkey_lt hu 8
      have h2 : (38 : Nat) ^ 8 < 2 ^ 60 := by decide
      omega
    · decide
theorem rvl62 {t : List Nat} {kd p : Nat} (ht : xasc t) : (rvl t kd p).2.1 < 2 ^ 62 := by
  unfold rvl
  split
  · split
    · exact Nat.two_pow_pos _
    · split
      · exact Nat.two_pow_pos _
      · exact klv62 (xasc_cut ht)
  · exact Nat.two_pow_pos _
theorem rls_V {t : List Nat} {kd : Nat} (ht : xasc t) : ∀ (k : Nat) {p : Nat} {us vs : List Nat}, okVs us → (rls t kd k p us).2.1 = some vs → okVs vs := by
  intro k
  induction k with
  | zero =>
    intro p us vs _ hz
    cases hz
  | succ k ih =>
    intro p us vs hu hz
    unfold rls at hz
    split at hz
    · cases hz
    · rename_i hnz
      have hb : okVs (us ++ [(rvl t kd p).2.1]) := by
        intro v hv
        rcases List.mem_append.mp hv with q | q
        · exact hu v q
        · rw [List.mem_singleton] at q
          rw [q]
          exact ⟨by omega, rvl62 ht⟩
      split at hz
      · cases hz
        exact hb
      · split at hz
        · exact ih hb hz
        · cases hz
theorem rlist_V {t : List Nat} {kd p : Nat} {vs : List Nat} (ht : xasc t) (hz : (rlist t kd p).2.1 = some vs) : okVs vs := by
  unfold rlist at hz
  split at hz
  · exact rls_V ht 6 (us := []) (fun _ z => by cases z) hz
  · cases hz
theorem rsg_V {t : List Nat} {kd p : Nat} {vs : List Nat} (ht : xasc t) (hz : rsg t kd p = some vs) : okVs vs := by
  unfold rsg at hz
  split at hz
  · cases hz
  · cases hz
    intro v hv
    rw [List.mem_singleton] at hv
    rw [hv]
    exact ⟨by omega, rvl62 ht⟩
theorem rcm_V {t : List Nat} {k kd p : Nat} {w : List Nat} {x : TsT} (ht : xasc t) (hz : (rcm t k w kd p).2 = some x) : okVs x.2.2.1 := by
  unfold rcm at hz
  split at hz
  · cases hl : (rlist t kd (tkW t p (xtx 22))).2.1 with
    | none => rw [hl] at hz; cases hz
    | some vs =>
      rw [hl] at hz
      cases hz
      exact rlist_V ht hl
  · split at hz
    · cases hz
    · rename_i acc hacc
      cases hl : rsg t kd (opr t (skp t p)).1 with
      | none => rw [hl] at hz; cases hz
      | some vs =>
        rw [hl] at hz
        cases hz
        exact rsg_V ht hl
def tsV (ts : List TsT) : Prop := ∀ x ∈ ts, okVs x.2.2.1
def gV (F : RS → RO) : Prop := ∀ st : RS, tsV st.2.2 → tsV (F st).1.2.2
theorem jn_V {t : List Nat} {F : RS → RO} {w : List Nat} {s : Nat} (hF : gV F) : ∀ (i : Nat) (st : RS) (D : Den), tsV st.2.2 → tsV (jn t F w s i st D).1.2.2 := by
  intro i
  induction i with
  | zero => intro st D hs; exact hs
  | succ i ih =>
    intro st D hs
    unfold jn
    split
    · have h1 := hF (tkW t st.1 w, st.2) hs
      rcases hFe : F (tkW t st.1 w, st.2) with ⟨st', oD⟩
      rw [hFe] at h1
      cases oD with
      | none => exact h1
      | some B => exact ih st' _ h1
    · exact hs
theorem jnd_V {t : List Nat} {F : RS → RO} {w : List Nat} {s : Nat} (hF : gV F) : gV (jnd t F w s) := by
  intro st hs
  unfold jnd
  have h1 := hF st hs
  rcases hFe : F st with ⟨st', oD⟩
  rw [hFe] at h1
  cases oD with
  | none => exact h1
  | some D => exact jn_V hF 160 st' D h1
theorem rOp_V {t : List Nat} {F J : RS → RO} {b : Bool} (hF : gV F) (hJ : gV J) : gV (rOp t F J b) := by
  intro st hs
  unfold rOp
  split
  · have h1 := hF (st.1 + 3, st.2) hs
    rcases hFe : F (st.1 + 3, st.2) with ⟨st', oD⟩
    rw [hFe] at h1
    cases oD with
    | none => exact h1
    | some D => exact h1
  · have h1 := hJ (st.1 + 1, st.2) hs
    rcases hFe : J (st.1 + 1, st.2) with ⟨st', oD⟩
    rw [hFe] at h1
    cases oD with
    | none => exact h1
    | some D =>
      show tsV (if chr t (skp t st'.1) = 41 then _ else _ : RO).1.2.2
      split <;> exact h1
theorem rLf_V {t : List Nat} {Ns : List NmT} (ht : xasc t) : gV (rLf t Ns) := by
  intro st hs
  unfold rLf
  split
  · exact hs
  · split
    · exact hs
    · split
      · exact hs
      · rename_i i hi
        intro x hx
        rcases List.mem_append.mp hx with q | q
        · exact hs x q
        · exact rcm_V ht (Option.mem_toList.mp q)
theorem rT_V {t : List Nat} {Ns : List NmT} (ht : xasc t) : ∀ k, gV (rT t Ns k) := by
  intro k
  induction k with
  | zero =>
    intro st hs
    unfold rT
    split
    · exact hs
    · exact rLf_V ht _ hs
  | succ k ih =>
    intro st hs
    unfold rT
    split
    · exact rOp_V ih (jnd_V (jnd_V ih)) _ hs
    · exact rLf_V ht _ hs
theorem rW_V {t : List Nat} {Ns : List NmT} {D : Den} {ts : List TsT} (ht : xasc t) (hz : (rW t Ns).2 = some (D, ts)) : tsV ts := by
  have h1 : tsV (jOr t (rT t Ns 12) (0, 0, [])).1.2.2 := jnd_V (jnd_V (rT_V ht 12)) _ (fun _ z => by cases z)
  unfold rW at hz
  rcases hFe : jOr t (rT t Ns 12) (0, 0, []) with ⟨st, oD⟩
  rw [hFe] at h1 hz
  cases oD with
  | none => cases hz
  | some D' =>
    simp only at hz
    split at hz
    · cases hz
    · cases hz
      exact h1
/-- okNC is kept by value() and name() and condition() -/
theorem okNC.val {Ns Ns' : List NmT} {Cs : List CnT} {t : List Nat} {k : Int32} {r : Nat} (ht : xasc t) (hv : okNC Ns Cs) (h : vlu Ns t k = .inr (r, Ns')) : okNC Ns' Cs := by
  unfold vlu at h
  split at h
  · cases h
  · rename_i x hx
    split at h
    · cases h
    · rename_i hz
      split at h
      · cases h
      · cases h
        have hxm : x ∈ Ns := by
          by_cases h0 : k < 0
          · rw [iAt_lt h0] at hx; cases hx
          · rw [iAt_ge h0] at hx; exact List.mem_of_getElem? hx
        refine ⟨fun y hy => ?_, hv.2⟩
        rcases List.mem_or_eq_of_mem_set hy with q | rfl
        · exact hv.1 y q
        · intro v hv'
          rcases List.mem_append.mp hv' with q | q
          · exact hv.1 x hxm v q
          · rw [List.mem_singleton] at q
            rw [q]
            exact ⟨Nat.pos_of_ne_zero (fun z => hz (Or.inl z)), klv62 ht⟩
theorem okNC.nm {Ns Ns' : List NmT} {Cs : List CnT} {t : List Nat} {k : Int32} {r : Nat} (hv : okNC Ns Cs) (h : nmu Ns t k = .inr (r, Ns')) : okNC Ns' Cs := by
  unfold nmu at h
  split at h
  · cases h
  · split at h
    · cases h
    · split at h
      · cases h
      · cases h
        refine ⟨fun y hy => ?_, hv.2⟩
        rcases List.mem_append.mp hy with q | q
        · exact hv.1 y q
        · rw [List.mem_singleton] at q
          rw [q]
          exact fun v hv' => by cases hv'
theorem okNC.cd {Ns : List NmT} {Cs : List CnT} {t : List Nat} {D : Den} {ts : List TsT} (ht : xasc t) (hv : okNC Ns Cs) (hz : (rW t Ns).2 = some (D, ts)) : okNC Ns (Cs ++ [(D, ts)]) := by
  refine ⟨hv.1, fun C hC => ?_⟩
  rcases List.mem_append.mp hC with q | q
  · exact hv.2 C q
  · rw [List.mem_singleton] at q
    rw [q]
    exact rW_V ht hz
end RE8
