section

end
section RH8
/-- the signs of these kinds on top are applied -/
def stp (K : List Int) : List Int → List Den → List Int × List Den
  | [], Ds => ([], Ds)
  | k :: P, Ds => if k ∈ K then stp K P (apD k Ds) else (k :: P, Ds)
theorem stp_no {K : List Int} {P : List Int} {Ds : List Den} (h : ∀ k P', P = k :: P' → k ∉ K) : stp K P Ds = (P, Ds) := by
  cases P with
  | nil => rfl
  | cons k P => exact if_neg (h k P rfl)
theorem stp_in {K : List Int} {k : Int} {P : List Int} {Ds : List Den} (h : k ∈ K) : stp K (k :: P) Ds = stp K P (apD k Ds) := if_pos h
/-- what is ready behind TESTS with and between: the last and may still wait -/
def pndA (P : List Int) (Ds : List Den) (D : Den) (P' : List Int) (Ds' : List Den) : Prop := (P' = P ∧ Ds' = D :: Ds) ∨ ∃ A B, D = dJoin 2 A B ∧ P' = 2 :: P ∧ Ds' = B :: A :: Ds
def pndO (P : List Int) (Ds : List Den) (D : Den) (P' : List Int) (Ds' : List Den) : Prop := pndA P Ds D P' Ds' ∨ ∃ A B, D = dJoin 1 A B ∧ pndA (3 :: P) (A :: Ds) B P' Ds'
theorem apD2 {A B : Den} {Ds : List Den} : apD 2 (B :: A :: Ds) = dJoin 2 A B :: Ds := rfl
theorem apD3 {A B : Den} {Ds : List Den} : apD 3 (B :: A :: Ds) = dJoin 1 A B :: Ds := rfl
theorem pndA.stp {K : List Int} {P P' : List Int} {Ds Ds' : List Den} {D : Den} (h : pndA P Ds D P' Ds') (h2 : (2 : Int) ∈ K) (hP : ∀ k Q, P = k :: Q → k ∉ K) : stp K P' Ds' = (P, D :: Ds) := by
  rcases h with ⟨rfl, rfl⟩ | ⟨A, B, rfl, rfl, rfl⟩
  · exact stp_no hP
  · rw [stp_in h2, apD2]
    exact stp_no hP
theorem pndO.stp {P P' : List Int} {Ds Ds' : List Den} {D : Den} (h : pndO P Ds D P' Ds') (hP : ∀ k Q, P = k :: Q → k ∉ [(2 : Int), 3]) : stp [2, 3] P' Ds' = (P, D :: Ds) := by
  rcases h with h | ⟨A, B, rfl, h⟩
  · exact h.stp (by decide) hP
  · rcases h with ⟨rfl, rfl⟩ | ⟨A', B', rfl, rfl, rfl⟩
    · rw [stp_in (by decide), apD3]
      exact stp_no hP
    · rw [stp_in (by decide), apD2, stp_in (by decide), apD3]
      exact stp_no hP
/-- so many are ready as the signs want, and e more -/
abbrev lnk (P : List Int) (Ds : List Den) (e : Int) : Prop := (Ds.length : Int) = cnt 2 P + cnt 3 P + e
theorem pndA.len {P P' : List Int} {Ds Ds' : List Den} {D : Den} (h : pndA P Ds D P' Ds') (hl : lnk P Ds 0) : lnk P' Ds' 1 := by
  rcases h with ⟨rfl, rfl⟩ | ⟨A, B, rfl, rfl, rfl⟩
  · simp only [lnk, List.length_cons] at *
    omega
  · simp only [lnk, List.length_cons, cnt] at *
    simp
    omega
theorem pndO.len {P P' : List Int} {Ds Ds' : List Den} {D : Den} (h : pndO P Ds D P' Ds') (hl : lnk P Ds 0) : lnk P' Ds' 1 := by
  rcases h with h | ⟨A, B, rfl, h⟩
  · exact h.len hl
  · refine h.len ?_
    simp only [lnk, List.length_cons, cnt] at *
    simp
    omega
theorem e_not : xtx 19 = [110, 111, 116] := by decide
theorem e_and : xtx 25 = [97, 110, 100] := by decide
theorem e_or : xtx 24 = [111, 114] := by decide
/-- how the reference's reading goes on: Gd from a place where nothing is wrong (1: a TEST must come), Wr where something is, Fin at the end -/
def rRul (t : List Nat) (Ns : List NmT) (Gd : Int → List Int → List Den → Nat → Nat → List TsT → Prop) (Wr : Nat → Prop) (Fin : List Den → Nat → List TsT → Prop) : Prop :=
  (∀ fi P Ds p tc ts, p ≤ t.length → Gd fi P Ds (skp t p) tc ts → Gd fi P Ds p tc ts) ∧
  (∀ P Ds p tc ts, p ≤ t.length → chr t (skp t p) = 40 → (cnt 1 P + cnt 4 P = 12 → Wr (skp t p) → Gd 1 P Ds p tc ts) ∧ (cnt 1 P + cnt 4 P < 12 → Gd 1 (4 :: P) Ds (skp t p + 1) tc ts → Gd 1 P Ds p tc ts)) ∧
  (∀ P Ds p tc ts, p ≤ t.length → wrd t (skp t p) = [110, 111, 116] → (cnt 1 P + cnt 4 P = 12 → Wr (skp t p) → Gd 1 P Ds p tc ts) ∧ (cnt 1 P + cnt 4 P < 12 → Gd 1 (1 :: P) Ds (skp t p + 3) tc ts → Gd 1 P Ds p tc ts)) ∧
  (∀ P Ds p tc ts st', p ≤ t.length → chr t (skp t p) ≠ 40 → wrd t (skp t p) ≠ [110, 111, 116] → cnt 1 P + cnt 4 P ≤ 12 → (rLf t Ns (skp t p, tc, ts) = (st', none) → Wr st'.1 → Gd 1 P Ds p tc ts) ∧ (∀ D, rLf t Ns (skp t p, tc, ts) = (st', some D) → Gd 0 (cmpl P (D :: Ds)).1 (cmpl P (D :: Ds)).2 st'.1 st'.2.1 st'.2.2 → Gd 1 P Ds p tc ts)) ∧
  (∀ P Ds p tc ts, p ≤ t.length → lnk P Ds 1 → chr t (skp t p) = 41 → (∀ P2, (stp [2, 3] P Ds).1 = 4 :: P2 → Gd 0 (cmpl P2 (stp [2, 3] P Ds).2).1 (cmpl P2 (stp [2, 3] P Ds).2).2 (skp t p + 1) tc ts → Gd 0 P Ds p tc ts) ∧ ((∀ P2, (stp [2, 3] P Ds).1 ≠ 4 :: P2) → Wr (skp t p) → Gd 0 P Ds p tc ts)) ∧
  (∀ P Ds p tc ts, p ≤ t.length → lnk P Ds 1 → wrd t (skp t p) = [97, 110, 100] → Gd 1 (2 :: (stp [2] P Ds).1) (stp [2] P Ds).2 (skp t p + 3) tc ts → Gd 0 P Ds p tc ts) ∧
  (∀ P Ds p tc ts, p ≤ t.length → lnk P Ds 1 → wrd t (skp t p) = [111, 114] → Gd 1 (3 :: (stp [2, 3] P Ds).1) (stp [2, 3] P Ds).2 (skp t p + 2) tc ts → Gd 0 P Ds p tc ts) ∧
  (∀ P Ds p tc ts, lnk P Ds 1 → skp t p < t.length → chr t (skp t p) ≠ 41 → wrd t (skp t p) ≠ [97, 110, 100] → wrd t (skp t p) ≠ [111, 114] → Wr (skp t p) → Gd 0 P Ds p tc ts) ∧
  (∀ P Ds p tc ts, lnk P Ds 1 → skp t p = t.length → ((stp [2, 3] P Ds).1 ≠ [] → Wr t.length → Gd 0 P Ds p tc ts) ∧ ((stp [2, 3] P Ds).1 = [] → Fin (stp [2, 3] P Ds).2 tc ts → Gd 0 P Ds p tc ts))
variable {t : List Nat} {Ns : List NmT} {Gd : Int → List Int → List Den → Nat → Nat → List TsT → Prop} {Wr : Nat → Prop} {Fin : List Den → Nat → List TsT → Prop}
/-- a reading's place and tests keep their bounds -/
abbrev okS (t : List Nat) (st : RS) : Prop := st.1 ≤ t.length ∧ st.2.2.length ≤ st.2.1 ∧ st.2.1 ≤ 40
theorem gF.ok {s : Nat} {F : RS → RO} (hF : gF t s F) {st st' : RS} {o : Option Den} (h : okS t st) (e : F st = (st', o)) : okS t st' ∧ ∀ D, o = some D → st.1 < st'.1 := by
  have hg := hF st.1 st.2.1 st.2.2 h.1 h.2.1 h.2.2
  rw [show (st.1, st.2.1, st.2.2) = st from rfl, e] at hg
  obtain ⟨f1, f2, f3, f4, f5⟩ := hg
  exact ⟨⟨f2, f3, f4⟩, fun D z => (f5 D z).1⟩
/-- the place behind words joined: no such word comes -/
theorem jn_end {s s' : Nat} {F : RS → RO} {w : List Nat} {I : Nat → Prop} (hF : gF t s' F) (hI : ∀ st st1 B, okS t st → F st = (st1, some B) → I st1.1) (hI2 : ∀ p, p ≤ t.length → I p → I (skp t p)) : ∀ (i : Nat) (st : RS) (D : Den) (st' : RS) (D' : Den), okS t st → I st.1 → t.length - st.1 < i → jn t F w s i st D = (st', some D') → I st'.1 ∧ wrd t (skp t st'.1) ≠ w := by
  intro i
  induction i with
  | zero => intro st D st' D' _ _ h; omega
  | succ i ih =>
    intro st D st' D' hst hi hlt e
    have htl := tkW_le (w := w) hst.1
    unfold jn at e
    split at e
    · rename_i hw
      rcases hFe : F (tkW t st.1 w, st.2) with ⟨st1, _ | B⟩
      · rw [hFe] at e
        cases e
      · rw [hFe] at e
        have ho : okS t (tkW t st.1 w, st.2) := ⟨htl, hst.2.1, hst.2.2⟩
        obtain ⟨g1, g2⟩ := hF.ok ho hFe
        have g3 := g2 B rfl
        have hge : st.1 ≤ tkW t st.1 w := by
          have : st.1 ≤ skp t st.1 := scn_ge
          unfold tkW
          split <;> omega
        replace g3 : tkW t st.1 w < st1.1 := g3
        exact ih st1 _ st' D' g1 (hI _ _ _ ho hFe) (by omega) e
    · rename_i hw
      cases e
      have htk : tkW t st.1 w = skp t st.1 := if_neg hw
      refine ⟨?_, ?_⟩
      · show I (tkW t st.1 w)
        rw [htk]
        exact hI2 _ hst.1 hi
      · show wrd t (skp t (tkW t st.1 w)) ≠ w
        rw [htk, skp_idem hst.1]
        exact hw
theorem jnd_end {s s' : Nat} {F : RS → RO} {w : List Nat} {I : Nat → Prop} (hF : gF t s' F) (hl : t.length ≤ 160) (hI : ∀ st st1 B, okS t st → F st = (st1, some B) → I st1.1) (hI2 : ∀ p, p ≤ t.length → I p → I (skp t p)) {st st' : RS} {D' : Den} (hst : okS t st) (e : jnd t F w s st = (st', some D')) : I st'.1 ∧ wrd t (skp t st'.1) ≠ w := by
  unfold jnd at e
  rcases hFe : F st with ⟨st1, _ | B⟩
  · rw [hFe] at e
    cases e
  · rw [hFe] at e
    obtain ⟨g1, g2⟩ := hF.ok hst hFe
    have := g2 B rfl
    exact jn_end hF hI hI2 160 st1 B st' D' g1 (hI _ _ _ hst hFe) (by omega) e
theorem jAnd_end {F : RS → RO} (hF : gF t 3 F) (hl : t.length ≤ 160) {st st' : RS} {D' : Den} (hst : okS t st) (e : jAnd t F st = (st', some D')) : wrd t (skp t st'.1) ≠ [97, 110, 100] := by
  have := (jnd_end (I := fun _ => True) hF hl (fun _ _ _ _ _ => trivial) (fun _ _ _ => trivial) hst e).2
  rwa [e_and] at this
theorem jOr_end {F : RS → RO} (hF : gF t 3 F) (hl : t.length ≤ 160) {st st' : RS} {D' : Den} (hst : okS t st) (e : jOr t F st = (st', some D')) : wrd t (skp t st'.1) ≠ [97, 110, 100] ∧ wrd t (skp t st'.1) ≠ [111, 114] := by
  have := jnd_end (I := fun p => wrd t (skp t p) ≠ [97, 110, 100]) (jnd_g (Or.inr rfl) (by decide) hF) hl (fun st st1 B h1 h2 => jAnd_end hF hl h1 h2) (fun p hp h => by rw [skp_idem hp]; exact h) hst e
  rw [e_or] at this
  exact this
/-- what follows F, where k more may be opened -/
def simF (t : List Nat) (Gd : Int → List Int → List Den → Nat → Nat → List TsT → Prop) (Wr : Nat → Prop) (F : RS → RO) (k : Int) (ok : List Int → Prop) (nx : List Int → List Den → Den → List Int → List Den → Prop) : Prop := ∀ P Ds (st : RS), cnt 1 P + cnt 4 P + k = 12 → lnk P Ds 0 → okS t st → ok P → (∀ st', F st = (st', none) → Wr st'.1 → Gd 1 P Ds st.1 st.2.1 st.2.2) ∧ ∀ st' D, F st = (st', some D) → (∀ P' Ds', nx P Ds D P' Ds' → Gd 0 P' Ds' st'.1 st'.2.1 st'.2.2) → Gd 1 P Ds st.1 st.2.1 st.2.2
abbrev nxT (P : List Int) (Ds : List Den) (D : Den) (P' : List Int) (Ds' : List Den) : Prop := P' = (cmpl P (D :: Ds)).1 ∧ Ds' = (cmpl P (D :: Ds)).2
abbrev okA (P : List Int) : Prop := ∀ k Q, P = k :: Q → k = 3 ∨ k = 4
abbrev okO (P : List Int) : Prop := ∀ k Q, P = k :: Q → k = 4
theorem sim_A (hR : rRul t Ns Gd Wr Fin) {F : RS → RO} {k : Int} (hF : gF t 3 F) (hS : simF t Gd Wr F k (fun _ => True) nxT) : simF t Gd Wr (jAnd t F) k okA pndA := by
  obtain ⟨r0, -, -, -, -, rA, -, -, -⟩ := hR
  intro P Ds st hk hl hst hP
  have hc0 : ∀ D, cmpl P (D :: Ds) = (P, D :: Ds) := fun D => cmpl_no (fun Q e => by rcases hP 1 Q e with z | z <;> omega)
  have hst2 : ∀ k Q, P = k :: Q → k ∉ [(2 : Int)] := fun k Q e => by rcases hP k Q e with z | z <;> (rw [z]; decide)
  have lp : ∀ (i : Nat) (s1 : RS) (D : Den), okS t s1 → (∀ st', jn t F (xtx 25) 2 i s1 D = (st', none) → Wr st'.1 → ∀ P' Ds', pndA P Ds D P' Ds' → Gd 0 P' Ds' s1.1 s1.2.1 s1.2.2) ∧ ∀ st' D', jn t F (xtx 25) 2 i s1 D = (st', some D') → (∀ P' Ds', pndA P Ds D' P' Ds' → Gd 0 P' Ds' st'.1 st'.2.1 st'.2.2) → ∀ P' Ds', pndA P Ds D P' Ds' → Gd 0 P' Ds' s1.1 s1.2.1 s1.2.2 := by
    intro i
    induction i with
    | zero =>
      intro s1 D h1
      exact ⟨fun st' e => (by cases e), fun st' D' e hn P' Ds' hp => by cases e; exact hn P' Ds' hp⟩
    | succ i ih =>
      intro s1 D h1
      have htl := tkW_le (w := xtx 25) h1.1
      by_cases hw : wrd t (skp t s1.1) = xtx 25
      · have htk : tkW t s1.1 (xtx 25) = skp t s1.1 + 3 := by
          unfold tkW
          rw [if_pos hw, e_and]
          rfl
        have ho : okS t (tkW t s1.1 (xtx 25), s1.2) := ⟨htl, h1.2.1, h1.2.2⟩
        have hw' : wrd t (skp t s1.1) = [97, 110, 100] := by rw [← e_and]; exact hw
        have hgo : ∀ P' Ds', pndA P Ds D P' Ds' → Gd 1 (2 :: P) (D :: Ds) (skp t s1.1 + 3) s1.2.1 s1.2.2 → Gd 0 P' Ds' s1.1 s1.2.1 s1.2.2 := by
          intro P' Ds' hp hg
          refine rA P' Ds' s1.1 s1.2.1 s1.2.2 h1.1 (hp.len hl) hw' ?_
          rw [hp.stp (by decide) hst2]
          exact hg
        have hT := hS (2 :: P) (D :: Ds) (tkW t s1.1 (xtx 25), s1.2) (by simp [cnt]; omega) (by simp only [lnk, cnt, List.length_cons] at *; simp; omega) ho trivial
        rw [htk] at hT
        rcases hFe : F (tkW t s1.1 (xtx 25), s1.2) with ⟨st1, _ | B⟩
        · have ej : jn t F (xtx 25) 2 (i + 1) s1 D = (st1, none) := by
            unfold jn
            rw [if_pos hw, hFe]
          rw [htk] at hFe
          refine ⟨fun st' e hWr P' Ds' hp => ?_, fun st' D' e => by rw [ej] at e; cases e⟩
          rw [ej] at e
          cases e
          exact hgo P' Ds' hp (hT.1 _ hFe hWr)
        · have ej : jn t F (xtx 25) 2 (i + 1) s1 D = jn t F (xtx 25) 2 i st1 (dJoin 2 D B) := by
            conv => lhs; unfold jn
            rw [if_pos hw, hFe]
          obtain ⟨g1, -⟩ := hF.ok ho hFe
          rw [htk] at hFe
          obtain ⟨i1, i2⟩ := ih st1 (dJoin 2 D B) g1
          have hstep : (∀ P' Ds', pndA P Ds (dJoin 2 D B) P' Ds' → Gd 0 P' Ds' st1.1 st1.2.1 st1.2.2) → ∀ P' Ds', pndA P Ds D P' Ds' → Gd 0 P' Ds' s1.1 s1.2.1 s1.2.2 := by
            intro hn P' Ds' hp
            refine hgo P' Ds' hp (hT.2 _ B hFe (fun P2 Ds2 hq => ?_))
            obtain ⟨rfl, rfl⟩ := hq
            rw [cmpl_no (fun Q e => by cases e)]
            exact hn _ _ (Or.inr ⟨D, B, rfl, rfl, rfl⟩)
          refine ⟨fun st' e hWr => hstep (i1 st' (by rw [← ej]; exact e) hWr), fun st' D' e hn => hstep (i2 st' D' (by rw [← ej]; exact e) hn)⟩
      · have htk : tkW t s1.1 (xtx 25) = skp t s1.1 := if_neg hw
        have ej : jn t F (xtx 25) 2 (i + 1) s1 D = ((skp t s1.1, s1.2), some D) := by
          unfold jn
          rw [if_neg hw, htk]
        refine ⟨fun st' e => (by rw [ej] at e; cases e), fun st' D' e hn P' Ds' hp => ?_⟩
        rw [ej] at e
        cases e
        exact r0 0 P' Ds' s1.1 s1.2.1 s1.2.2 h1.1 (hn P' Ds' hp)
  have hT := hS P Ds st hk hl hst trivial
  rcases hFe : F st with ⟨st1, _ | D⟩
  · have ej : jAnd t F st = (st1, none) := by
      show (match F st with | (st', none) => (st', none) | (st', some D) => jn t F (xtx 25) 2 160 st' D) = _
      rw [hFe]
    refine ⟨fun st' e hWr => ?_, fun st' D' e => by rw [ej] at e; cases e⟩
    rw [ej] at e
    cases e
    exact hT.1 _ hFe hWr
  · have ej : jAnd t F st = jn t F (xtx 25) 2 160 st1 D := by
      show (match F st with | (st', none) => (st', none) | (st', some D) => jn t F (xtx 25) 2 160 st' D) = _
      rw [hFe]
    obtain ⟨g1, -⟩ := hF.ok hst hFe
    obtain ⟨i1, i2⟩ := lp 160 st1 D g1
    have hstep : (∀ P' Ds', pndA P Ds D P' Ds' → Gd 0 P' Ds' st1.1 st1.2.1 st1.2.2) → Gd 1 P Ds st.1 st.2.1 st.2.2 := by
      intro hn
      refine hT.2 _ D hFe (fun P2 Ds2 hq => ?_)
      obtain ⟨rfl, rfl⟩ := hq
      rw [hc0]
      exact hn _ _ (Or.inl ⟨rfl, rfl⟩)
    exact ⟨fun st' e hWr => hstep (i1 st' (by rw [← ej]; exact e) hWr), fun st' D' e hn => hstep (i2 st' D' (by rw [← ej]; exact e) hn)⟩
theorem sim_O (hR : rRul t Ns Gd Wr Fin) {F : RS → RO} {k : Int} (hF : gF t 3 F) (hS : simF t Gd Wr F k (fun _ => True) nxT) : simF t Gd Wr (jOr t F) k okO pndO := by
  have hA := sim_A hR hF hS
  have hFA : gF t 2 (jAnd t F) := jnd_g (Or.inr rfl) (by decide) hF
  obtain ⟨r0, -, -, -, -, -, rO, -, -⟩ := hR
  intro P Ds st hk hl hst hP
  have hPA : okA P := fun k Q e => Or.inr (hP k Q e)
  have hst3 : ∀ k Q, P = k :: Q → k ∉ [(2 : Int), 3] := fun k Q e => by rw [hP k Q e]; decide
  have lp : ∀ (i : Nat) (s1 : RS) (D : Den), okS t s1 → (∀ st', jn t (jAnd t F) (xtx 24) 1 i s1 D = (st', none) → Wr st'.1 → ∀ P' Ds', pndO P Ds D P' Ds' → Gd 0 P' Ds' s1.1 s1.2.1 s1.2.2) ∧ ∀ st' D', jn t (jAnd t F) (xtx 24) 1 i s1 D = (st', some D') → (∀ P' Ds', pndO P Ds D' P' Ds' → Gd 0 P' Ds' st'.1 st'.2.1 st'.2.2) → ∀ P' Ds', pndO P Ds D P' Ds' → Gd 0 P' Ds' s1.1 s1.2.1 s1.2.2 := by
    intro i
    induction i with
    | zero =>
      intro s1 D h1
      exact ⟨fun st' e => (by cases e), fun st' D' e hn P' Ds' hp => by cases e; exact hn P' Ds' hp⟩
    | succ i ih =>
      intro s1 D h1
      have htl := tkW_le (w := xtx 24) h1.1
      by_cases hw : wrd t (skp t s1.1) = xtx 24
      · have htk : tkW t s1.1 (xtx 24) = skp t s1.1 + 2 := by
          unfold tkW
          rw [if_pos hw, e_or]
          rfl
        have ho : okS t (tkW t s1.1 (xtx 24), s1.2) := ⟨htl, h1.2.1, h1.2.2⟩
        have hw' : wrd t (skp t s1.1) = [111, 114] := by rw [← e_or]; exact hw
        have hgo : ∀ P' Ds', pndO P Ds D P' Ds' → Gd 1 (3 :: P) (D :: Ds) (skp t s1.1 + 2) s1.2.1 s1.2.2 → Gd 0 P' Ds' s1.1 s1.2.1 s1.2.2 := by
          intro P' Ds' hp hg
          refine rO P' Ds' s1.1 s1.2.1 s1.2.2 h1.1 (hp.len hl) hw' ?_
          rw [hp.stp hst3]
          exact hg
        have hT := hA (3 :: P) (D :: Ds) (tkW t s1.1 (xtx 24), s1.2) (by simp [cnt]; omega) (by simp only [lnk, cnt, List.length_cons] at *; simp; omega) ho (fun k Q e => by cases e; exact Or.inl rfl)
        rw [htk] at hT
        rcases hFe : jAnd t F (tkW t s1.1 (xtx 24), s1.2) with ⟨st1, _ | B⟩
        · have ej : jn t (jAnd t F) (xtx 24) 1 (i + 1) s1 D = (st1, none) := by
            unfold jn
            rw [if_pos hw, hFe]
          rw [htk] at hFe
          refine ⟨fun st' e hWr P' Ds' hp => ?_, fun st' D' e => by rw [ej] at e; cases e⟩
          rw [ej] at e
          cases e
          exact hgo P' Ds' hp (hT.1 _ hFe hWr)
        · have ej : jn t (jAnd t F) (xtx 24) 1 (i + 1) s1 D = jn t (jAnd t F) (xtx 24) 1 i st1 (dJoin 1 D B) := by
            conv => lhs; unfold jn
            rw [if_pos hw, hFe]
          obtain ⟨g1, -⟩ := hFA.ok ho hFe
          rw [htk] at hFe
          obtain ⟨i1, i2⟩ := ih st1 (dJoin 1 D B) g1
          have hstep : (∀ P' Ds', pndO P Ds (dJoin 1 D B) P' Ds' → Gd 0 P' Ds' st1.1 st1.2.1 st1.2.2) → ∀ P' Ds', pndO P Ds D P' Ds' → Gd 0 P' Ds' s1.1 s1.2.1 s1.2.2 := by
            intro hn P' Ds' hp
            exact hgo P' Ds' hp (hT.2 _ B hFe (fun P2 Ds2 hq => hn _ _ (Or.inr ⟨D, B, rfl, hq⟩)))
          refine ⟨fun st' e hWr => hstep (i1 st' (by rw [← ej]; exact e) hWr), fun st' D' e hn => hstep (i2 st' D' (by rw [← ej]; exact e) hn)⟩
      · have htk : tkW t s1.1 (xtx 24) = skp t s1.1 := if_neg hw
        have ej : jn t (jAnd t F) (xtx 24) 1 (i + 1) s1 D = ((skp t s1.1, s1.2), some D) := by
          unfold jn
          rw [if_neg hw, htk]
        refine ⟨fun st' e => (by rw [ej] at e; cases e), fun st' D' e hn P' Ds' hp => ?_⟩
        rw [ej] at e
        cases e
        exact r0 0 P' Ds' s1.1 s1.2.1 s1.2.2 h1.1 (hn P' Ds' hp)
  have hT := hA P Ds st hk hl hst hPA
  rcases hFe : jAnd t F st with ⟨st1, _ | D⟩
  · have ej : jOr t F st = (st1, none) := by
      show (match jAnd t F st with | (st', none) => (st', none) | (st', some D) => jn t (jAnd t F) (xtx 24) 1 160 st' D) = _
      rw [hFe]
    refine ⟨fun st' e hWr => ?_, fun st' D' e => by rw [ej] at e; cases e⟩
    rw [ej] at e
    cases e
    exact hT.1 _ hFe hWr
  · have ej : jOr t F st = jn t (jAnd t F) (xtx 24) 1 160 st1 D := by
      show (match jAnd t F st with | (st', none) => (st', none) | (st', some D) => jn t (jAnd t F) (xtx 24) 1 160 st' D) = _
      rw [hFe]
    obtain ⟨g1, -⟩ := hFA.ok hst hFe
    obtain ⟨i1, i2⟩ := lp 160 st1 D g1
    have hstep : (∀ P' Ds', pndO P Ds D P' Ds' → Gd 0 P' Ds' st1.1 st1.2.1 st1.2.2) → Gd 1 P Ds st.1 st.2.1 st.2.2 := fun hn => hT.2 _ D hFe (fun P2 Ds2 hq => hn _ _ (Or.inl hq))
    exact ⟨fun st' e hWr => hstep (i1 st' (by rw [← ej]; exact e) hWr), fun st' D' e hn => hstep (i2 st' D' (by rw [← ej]; exact e) hn)⟩
theorem sim_leaf (hR : rRul t Ns Gd Wr Fin) {P : List Int} {Ds : List Den} {st : RS} (hst : okS t st) (hk : cnt 1 P + cnt 4 P ≤ 12) (hno : ¬ (wrd t (skp t st.1) = xtx 19 ∨ chr t (skp t st.1) = 40)) : (∀ st', rLf t Ns (skp t st.1, st.2) = (st', none) → Wr st'.1 → Gd 1 P Ds st.1 st.2.1 st.2.2) ∧ ∀ st' D, rLf t Ns (skp t st.1, st.2) = (st', some D) → (∀ P' Ds', nxT P Ds D P' Ds' → Gd 0 P' Ds' st'.1 st'.2.1 st'.2.2) → Gd 1 P Ds st.1 st.2.1 st.2.2 := by
  obtain ⟨r0, -, -, rL, -, -, -, -, -⟩ := hR
  rw [e_not] at hno
  exact ⟨fun st' e hWr => (rL P Ds st.1 st.2.1 st.2.2 st' hst.1 (fun z => hno (Or.inr z)) (fun z => hno (Or.inl z)) hk).1 e hWr, fun st' D e hn => (rL P Ds st.1 st.2.1 st.2.2 st' hst.1 (fun z => hno (Or.inr z)) (fun z => hno (Or.inl z)) hk).2 D e (hn _ _ ⟨rfl, rfl⟩)⟩
theorem sim_T (hR : rRul t Ns Gd Wr Fin) (hlen : t.length ≤ 160) : ∀ k : Nat, simF t Gd Wr (rT t Ns k) k (fun _ => True) nxT := by
  intro k
  induction k with
  | zero =>
    intro P Ds st hk hl hst _
    by_cases hC : wrd t (skp t st.1) = xtx 19 ∨ chr t (skp t st.1) = 40
    · have ej : rT t Ns 0 st = ((skp t st.1, st.2), none) := if_pos hC
      obtain ⟨r0, rP, rN, -⟩ := hR
      refine ⟨fun st' e hWr => ?_, fun st' D e => by rw [ej] at e; cases e⟩
      rw [ej] at e
      cases e
      rcases hC with hC | hC
      · exact (rN P Ds st.1 st.2.1 st.2.2 hst.1 (by rw [← e_not]; exact hC)).1 (by simpa using hk) hWr
      · exact (rP P Ds st.1 st.2.1 st.2.2 hst.1 hC).1 (by simpa using hk) hWr
    · have ej : rT t Ns 0 st = rLf t Ns (skp t st.1, st.2) := if_neg hC
      rw [ej]
      exact sim_leaf hR hst (by simp at hk; omega) hC
  | succ k ih =>
    intro P Ds st hk hl hst _
    have hkk : ((k + 1 : Nat) : Int) = (k : Int) + 1 := by omega
    have hsl := skp_le hst.1
    by_cases hC : wrd t (skp t st.1) = xtx 19 ∨ chr t (skp t st.1) = 40
    · have ej : rT t Ns (k + 1) st = rOp t (rT t Ns k) (jOr t (rT t Ns k)) (decide (wrd t (skp t st.1) = xtx 19)) (skp t st.1, st.2) := if_pos hC
      rw [ej]
      by_cases hN : wrd t (skp t st.1) = xtx 19
      · rw [decide_eq_true hN]
        have h3 := wrd_not hsl hN
        obtain ⟨r0, rP, rN, -⟩ := id hR
        have hgo := (rN P Ds st.1 st.2.1 st.2.2 hst.1 (by rw [← e_not]; exact hN)).2 (by omega)
        have hT := ih (1 :: P) Ds (skp t st.1 + 3, st.2) (by simp [cnt]; omega) (by simp only [lnk, cnt] at *; simp; omega) ⟨h3, hst.2.1, hst.2.2⟩ trivial
        rcases hFe : rT t Ns k (skp t st.1 + 3, st.2) with ⟨st1, _ | D⟩
        · have eo : rOp t (rT t Ns k) (jOr t (rT t Ns k)) true (skp t st.1, st.2) = (st1, none) := by
            show (match rT t Ns k (skp t st.1 + 3, st.2) with | (st', none) => (st', none) | (st', some D) => (st', some (dNot D))) = _
            rw [hFe]
          rw [eo]
          refine ⟨fun st' e hWr => ?_, fun st' D e => by cases e⟩
          cases e
          exact hgo (hT.1 _ hFe hWr)
        · have eo : rOp t (rT t Ns k) (jOr t (rT t Ns k)) true (skp t st.1, st.2) = (st1, some (dNot D)) := by
            show (match rT t Ns k (skp t st.1 + 3, st.2) with | (st', none) => (st', none) | (st', some D) => (st', some (dNot D))) = _
            rw [hFe]
          rw [eo]
          refine ⟨fun st' e => (by cases e), fun st' D' e hn => ?_⟩
          cases e
          refine hgo (hT.2 _ D hFe (fun P2 Ds2 hq => ?_))
          obtain ⟨rfl, rfl⟩ := hq
          rw [cmpl_not]
          exact hn _ _ ⟨rfl, rfl⟩
      · rw [decide_eq_false hN]
        have hch := hC.resolve_left hN
        have hlt : skp t st.1 < t.length := Nat.lt_of_not_le (fun z => by rw [chr_out z] at hch; omega)
        obtain ⟨r0, rP, rN, rL, rC, rA, rO, rX, rE⟩ := id hR
        have hgo := (rP P Ds st.1 st.2.1 st.2.2 hst.1 hch).2 (by omega)
        have ho : okS t (skp t st.1 + 1, st.2) := ⟨by show skp t st.1 + 1 ≤ t.length; omega, hst.2.1, hst.2.2⟩
        have hT := sim_O hR (rT_g k) ih (4 :: P) Ds (skp t st.1 + 1, st.2) (by simp [cnt]; omega) (by simp only [lnk, cnt] at *; simp; omega) ho (fun k Q e => by cases e; rfl)
        have hl4 : lnk (4 :: P) Ds 0 := by simp only [lnk, cnt] at *; simp; omega
        rcases hFe : jOr t (rT t Ns k) (skp t st.1 + 1, st.2) with ⟨st1, _ | D⟩
        · have eo : rOp t (rT t Ns k) (jOr t (rT t Ns k)) false (skp t st.1, st.2) = (st1, none) := by
            show (match jOr t (rT t Ns k) (skp t st.1 + 1, st.2) with | (st', none) => (st', none) | (st', some D) => if chr t (skp t st'.1) = 41 then ((skp t st'.1 + 1, st'.2), some D) else ((skp t st'.1, st'.2), none)) = _
            rw [hFe]
          rw [eo]
          refine ⟨fun st' e hWr => ?_, fun st' D e => by cases e⟩
          cases e
          exact hgo (hT.1 _ hFe hWr)
        · have eo : rOp t (rT t Ns k) (jOr t (rT t Ns k)) false (skp t st.1, st.2) = if chr t (skp t st1.1) = 41 then ((skp t st1.1 + 1, st1.2), some D) else ((skp t st1.1, st1.2), none) := by
            show (match jOr t (rT t Ns k) (skp t st.1 + 1, st.2) with | (st', none) => (st', none) | (st', some D) => if chr t (skp t st'.1) = 41 then ((skp t st'.1 + 1, st'.2), some D) else ((skp t st'.1, st'.2), none)) = _
            rw [hFe]
          obtain ⟨g1, -⟩ := (rT_gO (t := t) (Ns := Ns) k).ok ho hFe
          have hsl1 := skp_le g1.1
          have hst3 : ∀ k Q, (4 :: P : List Int) = k :: Q → k ∉ [(2 : Int), 3] := fun k Q e => by cases e; decide
          by_cases h41 : chr t (skp t st1.1) = 41
          · rw [eo, if_pos h41]
            refine ⟨fun st' e => (by cases e), fun st' D' e hn => ?_⟩
            cases e
            refine hgo (hT.2 _ D hFe (fun P2 Ds2 hq => ?_))
            have hs := hq.stp hst3
            refine (rC P2 Ds2 st1.1 st1.2.1 st1.2.2 g1.1 (hq.len hl4) h41).1 P (by rw [hs]) ?_
            rw [hs]
            exact hn _ _ ⟨rfl, rfl⟩
          · rw [eo, if_neg h41]
            refine ⟨fun st' e hWr => ?_, fun st' D' e => by cases e⟩
            cases e
            refine hgo (hT.2 _ D hFe (fun P2 Ds2 hq => ?_))
            have hs := hq.stp hst3
            by_cases hend : skp t st1.1 < t.length
            · obtain ⟨w1, w2⟩ := jOr_end (rT_g k) hlen ho hFe
              exact rX P2 Ds2 st1.1 st1.2.1 st1.2.2 (hq.len hl4) hend h41 w1 w2 hWr
            · have he : skp t st1.1 = t.length := by omega
              refine (rE P2 Ds2 st1.1 st1.2.1 st1.2.2 (hq.len hl4) he).1 (by rw [hs]; simp) ?_
              rw [← he]
              exact hWr
    · have ej : rT t Ns (k + 1) st = rLf t Ns (skp t st.1, st.2) := if_neg hC
      rw [ej]
      exact sim_leaf hR hst (by omega) hC
theorem sim_all (hR : rRul t Ns Gd Wr Fin) (hlen : t.length ≤ 160) (hW : ∀ a, rW t Ns = (a, none) → Wr a) (hE : ∀ a D ts tc, rW t Ns = (a, some (D, ts)) → Fin [D] tc ts) : Gd 1 [] [] 0 0 [] := by
  have ho : okS t (0, 0, []) := ⟨Nat.zero_le _, Nat.le_refl _, by decide⟩
  have hT := sim_O hR (rT_g 12) (sim_T hR hlen 12) [] [] (0, 0, []) (by decide) (by decide) ho (fun k Q e => by cases e)
  rcases hFe : jOr t (rT t Ns 12) (0, 0, []) with ⟨st1, _ | D⟩
  · exact hT.1 _ hFe (hW _ (rW_n hFe))
  · refine hT.2 _ D hFe (fun P2 Ds2 hq => ?_)
    obtain ⟨g1, -⟩ := (rT_gO (t := t) (Ns := Ns) 12).ok ho hFe
    have hsl1 := skp_le g1.1
    have hs := hq.stp (fun k Q e => by cases e)
    have hl1 := hq.len (by decide)
    have hrw := rW_s hFe
    obtain ⟨r0, rP, rN, rL, rC, rA, rO, rX, rE⟩ := id hR
    by_cases hend : skp t st1.1 < t.length
    · rw [if_pos hend] at hrw
      have hWr := hW _ hrw
      by_cases h41 : chr t (skp t st1.1) = 41
      · exact (rC P2 Ds2 st1.1 st1.2.1 st1.2.2 g1.1 hl1 h41).2 (fun P3 => by rw [hs]; exact fun z => by cases z) hWr
      · obtain ⟨w1, w2⟩ := jOr_end (rT_g 12) hlen ho hFe
        exact rX P2 Ds2 st1.1 st1.2.1 st1.2.2 hl1 hend h41 w1 w2 hWr
    · rw [if_neg hend] at hrw
      have he : skp t st1.1 = t.length := by omega
      refine (rE P2 Ds2 st1.1 st1.2.1 st1.2.2 hl1 he).2 (by rw [hs]) ?_
      rw [hs]
      exact hE _ _ _ _ hrw
end RH8
