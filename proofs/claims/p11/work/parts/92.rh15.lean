section

end
section RH15
variable {l : Launch} {G : XG} {h : XH} {c n d : Nat} {o : Nat} {rf : Nat → Nat} {S : MS}
/-- how an entry is printed -/
def tok (dn : Int → Den) (e : Int) : List Nat := if e = -2 then [32, 97, 110, 100, 32] else if e = -3 then [32, 111, 114, 32] else if e < 0 then [(-e).toNat] else (dn e).2.2
def flT (dn : Int → Den) : List Int → List Nat
  | [] => []
  | e :: Q => tok dn e ++ flT dn Q
theorem tok_n {dn : Int → Den} {e : Int} (h : 0 ≤ e) : tok dn e = (dn e).2.2 := by
  unfold tok
  rw [if_neg (by omega), if_neg (by omega), if_neg (by omega)]
theorem flT_br {dn : Int → Den} {v b : Int} {Q : List Int} (hv : 0 ≤ v) : flT dn (if b = 0 then v :: Q else -40 :: v :: -41 :: Q) = brk (decide (b ≠ 0)) (dn v).2.2 ++ flT dn Q := by
  by_cases hb : b = 0
  · rw [if_pos hb, decide_eq_false (fun z => z hb)]
    show tok dn v ++ flT dn Q = _
    rw [tok_n hv]
    rfl
  · rw [if_neg hb, decide_eq_true hb]
    show tok dn (-40) ++ (tok dn v ++ (tok dn (-41) ++ flT dn Q)) = (40 :: (dn v).2.2 ++ [41]) ++ flT dn Q
    rw [tok_n hv, show tok dn (-40) = [40] from rfl, show tok dn (-41) = [41] from rfl]
    simp only [List.append_assoc, List.cons_append, List.nil_append]
theorem e_nt : xtx 28 = [110, 111, 116, 32] := by decide
theorem e_jo : xtx 29 = [32, 111, 114, 32] := by decide
theorem e_ja : xtx 30 = [32, 97, 110, 100, 32] := by decide
theorem nd_kind {s n : Int} {dn : Int → Den} {tx : Int → Option TsT} (h : ndL S s dn tx n) : (gd (S.2.1 12) n = 0 ∧ (dn n).1 = 3) ∨ (gd (S.2.1 12) n = 1 ∧ (dn n).1 = 3) ∨ (gd (S.2.1 12) n = 2 ∧ (dn n).1 = 2) ∨ (gd (S.2.1 12) n = 3 ∧ (dn n).1 = 1) := by
  rcases h with ⟨k0, -, ⟨-, k2⟩ | ⟨x, -, k2⟩⟩ | ⟨k0, -, k2⟩ | ⟨⟨k0, k2⟩ | ⟨k0, k2⟩, -⟩
  · exact Or.inl ⟨k0, by rw [k2]; rfl⟩
  · exact Or.inl ⟨k0, by rw [k2]; rfl⟩
  · exact Or.inr (Or.inl ⟨k0, by rw [k2]; rfl⟩)
  · exact Or.inr (Or.inr (Or.inl ⟨k0, by rw [k2]; rfl⟩))
  · exact Or.inr (Or.inr (Or.inr ⟨k0, by rw [k2]; rfl⟩))
/-- between two steps of print(), in full -/
def pnX (S S1 : MS) (s : Int) (w : Int → Int) (dn : Int → Den) (T : List Nat) (Q : List Int) : Prop := rSm S S1 [49, 51] [48, 50] [] ∧ toDo S1 Q ∧ (∀ e ∈ Q, e = -2 ∨ e = -3 ∨ e = -40 ∨ e = -41 ∨ (128 * s ≤ e ∧ e < 128 * s + gd (S.2.1 15) s)) ∧ wsm (ew w) Q ≤ 560 ∧ ∃ out, ptR (S1.2.1 48) (S1.1 49) out ∧ out ++ flT dn Q = T
abbrev pnXQ (S : MS) (T : List Nat) : Option Value → MS → Prop := fun v S' => v = none ∧ rSm S S' [49, 51] [48, 50] [] ∧ ptR (S'.2.1 48) (S'.1 49) T
set_option maxHeartbeats 2000000 in
theorem r_printX (hd : 3 ≤ d) {s : Int} {Ns : List NmT} {dn : Int → Den} {tx : Int → Option TsT} {T : List Nat} (hs : 0 ≤ s ∧ s ≤ 8) (hN : nmR Ns S) (h6 : Ns.length ≤ 6) (hC : cdOk S s) (hsl : slR Ns S s dn tx) (hT0 : T = (dn (gd (S.2.1 16) s)).2.2) (hTl : T.length ≤ 990) : RM l G d M_Mo_print [.ref o, .int (zI s)] o rf S (pnXQ S T) := by
  obtain ⟨d, rfl⟩ : ∃ q, d = q + 1 := ⟨d - 1, by omega⟩
  intro H0 c n hR
  refine XM.of (by decide +kernel) (Nat.le_of_ble_eq_true rfl) ?_
  have hX : xonly H0 H0 RKs := xonly.rf
  obtain ⟨w, hpt, q1, q2, q3⟩ := hC
  obtain ⟨p1, p2, p3, p4, p5, p6, p7, p8, p9, p10⟩ := id hpt
  have l50 : (S.2.1 50).length = 600 := hR.len 50 (by decide)
  have l48 : (S.2.1 48).length = 1000 := hR.len 48 (by decide)
  have hV64 := hsl.1.2.2.2.2
  have hew : ∀ e : Int, (e = -2 ∨ e = -3 ∨ e = -40 ∨ e = -41 ∨ (128 * s ≤ e ∧ e < 128 * s + gd (S.2.1 15) s)) → 1 ≤ ew w e := by
    intro e he
    unfold ew
    split
    · omega
    · split
      · omega
      · split
        · omega
        · rcases he with he | he | he | he | ⟨h1, h2⟩
          · omega
          · omega
          · omega
          · omega
          · exact (p7 e h1 h2).1
  have ewn : ∀ e : Int, 128 * s ≤ e → ew w e = w e := fun e he => by
    unfold ew
    rw [if_neg (by omega), if_neg (by omega), if_neg (by omega)]
  have ewq : ∀ (Q : List Int), (∀ e ∈ Q, e = -2 ∨ e = -3 ∨ e = -40 ∨ e = -41 ∨ (128 * s ≤ e ∧ e < 128 * s + gd (S.2.1 15) s)) → (Q.length : Int) ≤ wsm (ew w) Q := fun Q hQ => wsm_nn (fun e he => hew e (hQ e he))
  have hln : ∀ (Q : List Int) (v b : Int), (∀ e ∈ Q, e = -2 ∨ e = -3 ∨ e = -40 ∨ e = -41 ∨ (128 * s ≤ e ∧ e < 128 * s + gd (S.2.1 15) s)) → 128 * s ≤ v → v < 128 * s + gd (S.2.1 15) s → ∀ Q' : List Int, Q' = (if b = 0 then v :: Q else -40 :: v :: -41 :: Q) → (∀ e ∈ Q', e = -2 ∨ e = -3 ∨ e = -40 ∨ e = -41 ∨ (128 * s ≤ e ∧ e < 128 * s + gd (S.2.1 15) s)) ∧ (Q'.length : Int) ≤ Q.length + 3 ∧ wsm (ew w) Q' ≤ w v + (if b = 0 then 0 else 2) + wsm (ew w) Q := by
    intro Q v b hQ h1 h2 Q' hQ'
    subst hQ'
    have e1 := ewn v h1
    by_cases hb : b = 0
    · rw [if_pos hb, if_pos hb]
      refine ⟨fun x hx => ?_, (by simp; try omega), ?_⟩
      · rcases List.mem_cons.mp hx with rfl | hx
        · exact Or.inr (Or.inr (Or.inr (Or.inr ⟨h1, h2⟩)))
        · exact hQ x hx
      · show ew w v + wsm (ew w) Q ≤ _
        rw [e1]; omega
    · rw [if_neg hb, if_neg hb]
      refine ⟨fun x hx => ?_, (by simp; try omega), ?_⟩
      · rcases List.mem_cons.mp hx with rfl | hx
        · exact Or.inr (Or.inr (Or.inl rfl))
        rcases List.mem_cons.mp hx with rfl | hx
        · exact Or.inr (Or.inr (Or.inr (Or.inr ⟨h1, h2⟩)))
        rcases List.mem_cons.mp hx with rfl | hx
        · exact Or.inr (Or.inr (Or.inr (Or.inl rfl)))
        · exact hQ x hx
      · show 1 + (ew w v + (1 + wsm (ew w) Q)) ≤ _
        rw [e1]; omega
  have hln2 : ∀ (S' : MS) (Q : List Int) (v b : Int), (∀ e ∈ Q, e = -2 ∨ e = -3 ∨ e = -40 ∨ e = -41 ∨ (128 * s ≤ e ∧ e < 128 * s + gd (S.2.1 15) s)) → 128 * s ≤ v → v < 128 * s + gd (S.2.1 15) s → toDo S' (if b = 0 then v :: Q else -40 :: v :: -41 :: Q) → (b = 0 ∨ b = 1) → ∃ Q' : List Int, toDo S' Q' ∧ (∀ e ∈ Q', e = -2 ∨ e = -3 ∨ e = -40 ∨ e = -41 ∨ (128 * s ≤ e ∧ e < 128 * s + gd (S.2.1 15) s)) ∧ (Q'.length : Int) ≤ Q.length + 3 ∧ wsm (ew w) Q' ≤ w v + 2 * b + wsm (ew w) Q ∧ flT dn Q' = brk (decide (b ≠ 0)) (dn v).2.2 ++ flT dn Q := by
    intro S' Q v b hQ h1 h2 hT hb
    obtain ⟨u1, u2, u3⟩ := hln Q v b hQ h1 h2 _ rfl
    refine ⟨_, hT, u1, u2, ?_, flT_br (by omega)⟩
    rcases hb with rfl | rfl
    · have e0 : (if (0 : Int) = 0 then (0 : Int) else 2) = 0 := if_pos rfl
      rw [e0] at u3; omega
    · have e0 : (if (1 : Int) = 0 then (0 : Int) else 2) = 2 := if_neg (by decide)
      rw [e0] at u3; omega
  have bd : ∀ (S1 : MS) (Q : List Int) (w2 w3 : Option Value), pnX S S1 s w dn T Q → (∀ (S2 : MS) (Q2 : List Int) (w2 w3 : Option Value), pnX S S2 s w dn T Q2 → wsm (ew w) Q2 < wsm (ew w) Q → RX l G M_Mo_print (d + 1) 20 [some (.ref o), some (.int (zI s)), w2, w3] [] H0 o rf c n S2 (pnXQ S T)) → RX l G M_Mo_print (d + 1) 20 [some (.ref o), some (.int (zI s)), w2, w3] [] H0 o rf c n S1 (pnXQ S T) := by
    intro S1 Q w2 w3 hL nx h hR hX
    obtain ⟨hsm, hT, hQ, hsum, out, hP, hout⟩ := hL
    have hP2 := hP.2.1
    have hol : out.length + (flT dn Q).length = T.length := by rw [← hout, List.length_append]
    have hlen := ewq Q hQ
    have e51 := hT.2
    cases Q with
    | nil =>
      have e51' : S1.1 51 = 0 := e51
      refine x_aload_n d_Mo_print_20 rfl rfl ?_
      refine x_get xf_Mo_361_Mo (Or.inl hR.1) (v := .int (zI (S1.1 51))) rfl d_Mo_print_21 ?_
      have hb21 : inR (S1.1 51) := hR.2.2.2 51
      refine z_if_le (tgt := 251) d_Mo_print_24 (by decide) (by omega) (fun _ => ?_) (fun hq => by omega)
      refine x_vret d_Mo_print_251 rfl ?_
      exact ⟨_, hR, hX, rfl, rfl, rfl, hsm, by rw [← hout]; show ptR _ _ (out ++ []); rw [List.append_nil]; exact hP⟩
    | cons e Q =>
      have e51' : S1.1 51 = (Q.length : Int) + 1 := by rw [e51]; simp
      have htop : gd (S1.2.1 50) (S1.1 51 - 1) = e := by rw [e51', Int.add_sub_cancel]; exact hT.1.1
      have hlen' := ewq Q (fun x hx => hQ x (List.mem_cons_of_mem _ hx))
      have hsum' : ew w e + wsm (ew w) Q ≤ 560 := hsum
      have hol' : out.length + ((tok dn e).length + (flT dn Q).length) = T.length := by have := hol; rw [show flT dn (e :: Q) = tok dn e ++ flT dn Q from rfl, List.length_append] at this; exact this
      have hout' : (out ++ tok dn e) ++ flT dn Q = T := by rw [List.append_assoc]; exact hout
      have hwe := hew e (hQ e List.mem_cons_self)
      have hT2 : toDo (sp S1 51 (S1.1 51 - 1)) Q := ⟨hT.1.2, by show S1.1 51 - 1 = _; omega⟩
      have hQ' := fun x hx => hQ x (List.mem_cons_of_mem e hx)
      have g12 := hsm.2.1 12 (by decide)
      have g13 := hsm.2.1 13 (by decide)
      have g14 := hsm.2.1 14 (by decide)
      -- a sign
      have sg : ∀ (us : List Int) (p : Int), ptR us p (out ++ tok dn e) → ∀ w2 w3, RX l G M_Mo_print (d + 1) 20 [some (.ref o), some (.int (zI s)), w2, w3] [] H0 o rf c n (PS (sp S1 51 (S1.1 51 - 1)) us p) (pnXQ S T) := fun us p a1 w2 w3 => nx _ Q w2 w3 ⟨((hsm.sp (by decide)).sa (by decide)).sp (by decide), hT2, hQ', by omega, _, a1, hout'⟩ (by show wsm (ew w) Q < ew w e + wsm (ew w) Q; omega)
      rcases hQ e List.mem_cons_self with rfl | rfl | rfl | rfl | ⟨he1, he2⟩
      · have hE : tok dn (-2) = [32, 97, 110, 100, 32] := rfl
        rw [hE] at hol' sg
        refine x_aload_n d_Mo_print_20 rfl rfl ?_
        refine x_get xf_Mo_361_Mo (Or.inl hR.1) (v := .int (zI (S1.1 51))) rfl d_Mo_print_21 ?_
        have hb21 : inR (S1.1 51) := hR.2.2.2 51
        refine z_if_le (tgt := 251) d_Mo_print_24 (by decide) (by omega) (fun hq => by omega) (fun _ => ?_)
        refine x_aload_n d_Mo_print_27 rfl rfl ?_
        refine x_dup d_Mo_print_28 rfl ?_
        refine x_get xf_Mo_361_Mo (Or.inl hR.1) (v := .int (zI (S1.1 51))) rfl d_Mo_print_29 ?_
        have hb29 : inR (S1.1 51) := hR.2.2.2 51
        refine x_iconst (v := zI 1) d_Mo_print_32 (by decide) ?_
        refine z_isub d_Mo_print_33 ?_
        refine r_put xf_Mo_361_Mo xp_Mo_51 hR hX (by omega) rfl rfl d_Mo_print_34 ?_
        intro h hR hX
        refine x_aload_n d_Mo_print_37 rfl rfl ?_
        refine x_get xf_Mo_118_Mo (Or.inl hR.1) (v := .ref (rf 50)) rfl d_Mo_print_38 ?_
        refine x_aload_n d_Mo_print_41 rfl rfl ?_
        refine x_get xf_Mo_361_Mo (Or.inl hR.1) (v := .int (zI ((S1.1 51) - 1))) rfl d_Mo_print_42 ?_
        have hb42 : inR ((S1.1 51) - 1) := hR.2.2.2 51
        refine r_iald (i := 50) (us := (S1.2.1 50)) rfl (by decide) hR rfl (by omega) (by show S1.1 51 - 1 < 600; omega) d_Mo_print_45 (fun hr45 => ?_)
        rw [htop]
        refine x_istore_n (L' := [_, _, _, _]) d_Mo_print_46 rfl rfl ?_
        refine x_iload_n d_Mo_print_47 rfl ?_
        refine z_if_ge (tgt := 55) d_Mo_print_48 (by decide) (by omega) (fun hq => by omega) (fun _ => ?_)
        refine x_iconst (v := zI (-1)) d_Mo_print_51 (by decide) ?_
        refine x_goto (tgt := 61) d_Mo_print_52 (by decide) ?_
        refine x_istore_n (L' := [_, _, _, _]) d_Mo_print_61 rfl rfl ?_
        refine x_iload_n d_Mo_print_62 rfl ?_
        refine z_if_ge (tgt := 100) d_Mo_print_63 (by decide) (by omega) (fun hq => by omega) (fun _ => ?_)
        refine x_aload_n d_Mo_print_66 rfl rfl ?_
        refine x_iload_n d_Mo_print_67 rfl ?_
        refine x_bipush (v := zI (-2)) d_Mo_print_68 (by decide) ?_
        refine z_icmp_ne (tgt := 79) d_Mo_print_70 (by decide) (by omega) (by omega) (fun hq => by omega) (fun _ => ?_)
        refine x_ldc2 (v := 139123908896) xw_1567 d_Mo_print_73 ?_
        refine x_goto (tgt := 94) d_Mo_print_76 (by decide) ?_
        refine x_callV (As := [_]) (k := k_MarkerTextModel) rfl xcv_Mo_349_Mo (Or.inl hR.1) (RM.ap hR (r_putAllX (S := sp S1 51 (S1.1 51 - 1)) (bs := [32, 97, 110, 100, 32]) (by omega) (by decide +kernel) hP (by simp only [List.length_cons, List.length_nil] at hol' ⊢; omega))) rfl rfl (Nat.le_of_ble_eq_true rfl) d_Mo_print_94 ?_
        rintro v94 h cq nq ⟨S94, hR, hX94, rfl, rfl, us9, p9, rfl, rfl, hp9⟩
        replace hX := hX.tr hX94
        refine x_goto (tgt := 248) d_Mo_print_97 (by decide) ?_
        refine x_goto (tgt := 20) d_Mo_print_248 (by decide) ?_
        exact sg us9 p9 hp9 _ _ _ hR hX
      · have hE : tok dn (-3) = [32, 111, 114, 32] := rfl
        rw [hE] at hol' sg
        refine x_aload_n d_Mo_print_20 rfl rfl ?_
        refine x_get xf_Mo_361_Mo (Or.inl hR.1) (v := .int (zI (S1.1 51))) rfl d_Mo_print_21 ?_
        have hb21 : inR (S1.1 51) := hR.2.2.2 51
        refine z_if_le (tgt := 251) d_Mo_print_24 (by decide) (by omega) (fun hq => by omega) (fun _ => ?_)
        refine x_aload_n d_Mo_print_27 rfl rfl ?_
        refine x_dup d_Mo_print_28 rfl ?_
        refine x_get xf_Mo_361_Mo (Or.inl hR.1) (v := .int (zI (S1.1 51))) rfl d_Mo_print_29 ?_
        have hb29 : inR (S1.1 51) := hR.2.2.2 51
        refine x_iconst (v := zI 1) d_Mo_print_32 (by decide) ?_
        refine z_isub d_Mo_print_33 ?_
        refine r_put xf_Mo_361_Mo xp_Mo_51 hR hX (by omega) rfl rfl d_Mo_print_34 ?_
        intro h hR hX
        refine x_aload_n d_Mo_print_37 rfl rfl ?_
        refine x_get xf_Mo_118_Mo (Or.inl hR.1) (v := .ref (rf 50)) rfl d_Mo_print_38 ?_
        refine x_aload_n d_Mo_print_41 rfl rfl ?_
        refine x_get xf_Mo_361_Mo (Or.inl hR.1) (v := .int (zI ((S1.1 51) - 1))) rfl d_Mo_print_42 ?_
        have hb42 : inR ((S1.1 51) - 1) := hR.2.2.2 51
        refine r_iald (i := 50) (us := (S1.2.1 50)) rfl (by decide) hR rfl (by omega) (by show S1.1 51 - 1 < 600; omega) d_Mo_print_45 (fun hr45 => ?_)
        rw [htop]
        refine x_istore_n (L' := [_, _, _, _]) d_Mo_print_46 rfl rfl ?_
        refine x_iload_n d_Mo_print_47 rfl ?_
        refine z_if_ge (tgt := 55) d_Mo_print_48 (by decide) (by omega) (fun hq => by omega) (fun _ => ?_)
        refine x_iconst (v := zI (-1)) d_Mo_print_51 (by decide) ?_
        refine x_goto (tgt := 61) d_Mo_print_52 (by decide) ?_
        refine x_istore_n (L' := [_, _, _, _]) d_Mo_print_61 rfl rfl ?_
        refine x_iload_n d_Mo_print_62 rfl ?_
        refine z_if_ge (tgt := 100) d_Mo_print_63 (by decide) (by omega) (fun hq => by omega) (fun _ => ?_)
        refine x_aload_n d_Mo_print_66 rfl rfl ?_
        refine x_iload_n d_Mo_print_67 rfl ?_
        refine x_bipush (v := zI (-2)) d_Mo_print_68 (by decide) ?_
        refine z_icmp_ne (tgt := 79) d_Mo_print_70 (by decide) (by omega) (by omega) (fun _ => ?_) (fun hq => by omega)
        refine x_iload_n d_Mo_print_79 rfl ?_
        refine x_bipush (v := zI (-3)) d_Mo_print_80 (by decide) ?_
        refine z_icmp_ne (tgt := 91) d_Mo_print_82 (by decide) (by omega) (by omega) (fun hq => by omega) (fun _ => ?_)
        refine x_ldc2 (v := 544370464) xw_1568 d_Mo_print_85 ?_
        refine x_goto (tgt := 94) d_Mo_print_88 (by decide) ?_
        refine x_callV (As := [_]) (k := k_MarkerTextModel) rfl xcv_Mo_349_Mo (Or.inl hR.1) (RM.ap hR (r_putAllX (S := sp S1 51 (S1.1 51 - 1)) (bs := [32, 111, 114, 32]) (by omega) (by decide +kernel) hP (by simp only [List.length_cons, List.length_nil] at hol' ⊢; omega))) rfl rfl (Nat.le_of_ble_eq_true rfl) d_Mo_print_94 ?_
        rintro v94 h cq nq ⟨S94, hR, hX94, rfl, rfl, us9, p9, rfl, rfl, hp9⟩
        replace hX := hX.tr hX94
        refine x_goto (tgt := 248) d_Mo_print_97 (by decide) ?_
        refine x_goto (tgt := 20) d_Mo_print_248 (by decide) ?_
        exact sg us9 p9 hp9 _ _ _ hR hX
      · have hE : tok dn (-40) = [40] := rfl
        rw [hE] at hol' sg
        refine x_aload_n d_Mo_print_20 rfl rfl ?_
        refine x_get xf_Mo_361_Mo (Or.inl hR.1) (v := .int (zI (S1.1 51))) rfl d_Mo_print_21 ?_
        have hb21 : inR (S1.1 51) := hR.2.2.2 51
        refine z_if_le (tgt := 251) d_Mo_print_24 (by decide) (by omega) (fun hq => by omega) (fun _ => ?_)
        refine x_aload_n d_Mo_print_27 rfl rfl ?_
        refine x_dup d_Mo_print_28 rfl ?_
        refine x_get xf_Mo_361_Mo (Or.inl hR.1) (v := .int (zI (S1.1 51))) rfl d_Mo_print_29 ?_
        have hb29 : inR (S1.1 51) := hR.2.2.2 51
        refine x_iconst (v := zI 1) d_Mo_print_32 (by decide) ?_
        refine z_isub d_Mo_print_33 ?_
        refine r_put xf_Mo_361_Mo xp_Mo_51 hR hX (by omega) rfl rfl d_Mo_print_34 ?_
        intro h hR hX
        refine x_aload_n d_Mo_print_37 rfl rfl ?_
        refine x_get xf_Mo_118_Mo (Or.inl hR.1) (v := .ref (rf 50)) rfl d_Mo_print_38 ?_
        refine x_aload_n d_Mo_print_41 rfl rfl ?_
        refine x_get xf_Mo_361_Mo (Or.inl hR.1) (v := .int (zI ((S1.1 51) - 1))) rfl d_Mo_print_42 ?_
        have hb42 : inR ((S1.1 51) - 1) := hR.2.2.2 51
        refine r_iald (i := 50) (us := (S1.2.1 50)) rfl (by decide) hR rfl (by omega) (by show S1.1 51 - 1 < 600; omega) d_Mo_print_45 (fun hr45 => ?_)
        rw [htop]
        refine x_istore_n (L' := [_, _, _, _]) d_Mo_print_46 rfl rfl ?_
        refine x_iload_n d_Mo_print_47 rfl ?_
        refine z_if_ge (tgt := 55) d_Mo_print_48 (by decide) (by omega) (fun hq => by omega) (fun _ => ?_)
        refine x_iconst (v := zI (-1)) d_Mo_print_51 (by decide) ?_
        refine x_goto (tgt := 61) d_Mo_print_52 (by decide) ?_
        refine x_istore_n (L' := [_, _, _, _]) d_Mo_print_61 rfl rfl ?_
        refine x_iload_n d_Mo_print_62 rfl ?_
        refine z_if_ge (tgt := 100) d_Mo_print_63 (by decide) (by omega) (fun hq => by omega) (fun _ => ?_)
        refine x_aload_n d_Mo_print_66 rfl rfl ?_
        refine x_iload_n d_Mo_print_67 rfl ?_
        refine x_bipush (v := zI (-2)) d_Mo_print_68 (by decide) ?_
        refine z_icmp_ne (tgt := 79) d_Mo_print_70 (by decide) (by omega) (by omega) (fun _ => ?_) (fun hq => by omega)
        refine x_iload_n d_Mo_print_79 rfl ?_
        refine x_bipush (v := zI (-3)) d_Mo_print_80 (by decide) ?_
        refine z_icmp_ne (tgt := 91) d_Mo_print_82 (by decide) (by omega) (by omega) (fun _ => ?_) (fun hq => by omega)
        refine x_iload_n d_Mo_print_91 rfl ?_
        refine z_ineg d_Mo_print_92 ?_
        refine x_i2l d_Mo_print_93 ?_
        refine x_callV (As := [_]) (k := k_MarkerTextModel) rfl xcv_Mo_349_Mo (Or.inl hR.1) (RM.ap hR (r_putAllX (S := sp S1 51 (S1.1 51 - 1)) (bs := [40]) (by omega) (by decide +kernel) hP (by simp only [List.length_cons, List.length_nil] at hol' ⊢; omega))) rfl rfl (Nat.le_of_ble_eq_true rfl) d_Mo_print_94 ?_
        rintro v94 h cq nq ⟨S94, hR, hX94, rfl, rfl, us9, p9, rfl, rfl, hp9⟩
        replace hX := hX.tr hX94
        refine x_goto (tgt := 248) d_Mo_print_97 (by decide) ?_
        refine x_goto (tgt := 20) d_Mo_print_248 (by decide) ?_
        exact sg us9 p9 hp9 _ _ _ hR hX
      · have hE : tok dn (-41) = [41] := rfl
        rw [hE] at hol' sg
        refine x_aload_n d_Mo_print_20 rfl rfl ?_
        refine x_get xf_Mo_361_Mo (Or.inl hR.1) (v := .int (zI (S1.1 51))) rfl d_Mo_print_21 ?_
        have hb21 : inR (S1.1 51) := hR.2.2.2 51
        refine z_if_le (tgt := 251) d_Mo_print_24 (by decide) (by omega) (fun hq => by omega) (fun _ => ?_)
        refine x_aload_n d_Mo_print_27 rfl rfl ?_
        refine x_dup d_Mo_print_28 rfl ?_
        refine x_get xf_Mo_361_Mo (Or.inl hR.1) (v := .int (zI (S1.1 51))) rfl d_Mo_print_29 ?_
        have hb29 : inR (S1.1 51) := hR.2.2.2 51
        refine x_iconst (v := zI 1) d_Mo_print_32 (by decide) ?_
        refine z_isub d_Mo_print_33 ?_
        refine r_put xf_Mo_361_Mo xp_Mo_51 hR hX (by omega) rfl rfl d_Mo_print_34 ?_
        intro h hR hX
        refine x_aload_n d_Mo_print_37 rfl rfl ?_
        refine x_get xf_Mo_118_Mo (Or.inl hR.1) (v := .ref (rf 50)) rfl d_Mo_print_38 ?_
        refine x_aload_n d_Mo_print_41 rfl rfl ?_
        refine x_get xf_Mo_361_Mo (Or.inl hR.1) (v := .int (zI ((S1.1 51) - 1))) rfl d_Mo_print_42 ?_
        have hb42 : inR ((S1.1 51) - 1) := hR.2.2.2 51
        refine r_iald (i := 50) (us := (S1.2.1 50)) rfl (by decide) hR rfl (by omega) (by show S1.1 51 - 1 < 600; omega) d_Mo_print_45 (fun hr45 => ?_)
        rw [htop]
        refine x_istore_n (L' := [_, _, _, _]) d_Mo_print_46 rfl rfl ?_
        refine x_iload_n d_Mo_print_47 rfl ?_
        refine z_if_ge (tgt := 55) d_Mo_print_48 (by decide) (by omega) (fun hq => by omega) (fun _ => ?_)
        refine x_iconst (v := zI (-1)) d_Mo_print_51 (by decide) ?_
        refine x_goto (tgt := 61) d_Mo_print_52 (by decide) ?_
        refine x_istore_n (L' := [_, _, _, _]) d_Mo_print_61 rfl rfl ?_
        refine x_iload_n d_Mo_print_62 rfl ?_
        refine z_if_ge (tgt := 100) d_Mo_print_63 (by decide) (by omega) (fun hq => by omega) (fun _ => ?_)
        refine x_aload_n d_Mo_print_66 rfl rfl ?_
        refine x_iload_n d_Mo_print_67 rfl ?_
        refine x_bipush (v := zI (-2)) d_Mo_print_68 (by decide) ?_
        refine z_icmp_ne (tgt := 79) d_Mo_print_70 (by decide) (by omega) (by omega) (fun _ => ?_) (fun hq => by omega)
        refine x_iload_n d_Mo_print_79 rfl ?_
        refine x_bipush (v := zI (-3)) d_Mo_print_80 (by decide) ?_
        refine z_icmp_ne (tgt := 91) d_Mo_print_82 (by decide) (by omega) (by omega) (fun _ => ?_) (fun hq => by omega)
        refine x_iload_n d_Mo_print_91 rfl ?_
        refine z_ineg d_Mo_print_92 ?_
        refine x_i2l d_Mo_print_93 ?_
        refine x_callV (As := [_]) (k := k_MarkerTextModel) rfl xcv_Mo_349_Mo (Or.inl hR.1) (RM.ap hR (r_putAllX (S := sp S1 51 (S1.1 51 - 1)) (bs := [41]) (by omega) (by decide +kernel) hP (by simp only [List.length_cons, List.length_nil] at hol' ⊢; omega))) rfl rfl (Nat.le_of_ble_eq_true rfl) d_Mo_print_94 ?_
        rintro v94 h cq nq ⟨S94, hR, hX94, rfl, rfl, us9, p9, rfl, rfl, hp9⟩
        replace hX := hX.tr hX94
        refine x_goto (tgt := 248) d_Mo_print_97 (by decide) ?_
        refine x_goto (tgt := 20) d_Mo_print_248 (by decide) ?_
        exact sg us9 p9 hp9 _ _ _ hR hX
      · have hE := ewn e he1
        rw [hE] at hsum' hwe
        have hte : tok dn e = (dn e).2.2 := tok_n (by omega)
        rw [hte] at hol' sg hout'
        have hndl := hsl.2.1 e he1 he2
        have hN1 : nmR Ns S1 := hN.sm hsm (by decide) (by decide)
        have hsl1 : slR Ns S1 s dn tx := hsl.sm hsm (by decide) (by decide) (by decide)
        have hnd := (p7 e he1 he2).2
        have hsm2 : rSm S (sp S1 51 (S1.1 51 - 1)) [49, 51] [48, 50] [] := hsm.sp (by decide)
        have hdec : ∀ (z : Int), z + 1 ≤ w e + wsm (ew w) Q → z < wsm (ew w) (e :: Q) := fun z hz => by
          show z < ew w e + wsm (ew w) Q
          rw [hE]
          omega
        rcases hnd with ⟨k0, t1, t2, t3⟩ | ⟨k0, r1, r2, r3⟩ | ⟨k0, a1, a2, r1, r2⟩
        · -- a test
          have hpt : RM l G d M_Mo_printTest [.ref o, .int (zI (gd (S.2.1 13) e))] o rf (sp S1 51 (S1.1 51 - 1)) (ppX (sp S1 51 (S1.1 51 - 1)) (out ++ (dn e).2.2)) := by
            rcases hndl with ⟨-, -, ⟨z1, z2⟩ | ⟨x, z1, z2⟩⟩ | ⟨z, -⟩ | ⟨⟨z, -⟩ | ⟨z, -⟩, -⟩
            · have e18 : gd ((sp S1 51 (S1.1 51 - 1)).2.1 18) (gd (S.2.1 13) e) = gd (S.2.1 18) (gd (S.2.1 13) e) := by
                show gd (S1.2.1 18) _ = _
                rw [hsm.2.1 18 (by decide)]
              have hop : gd (S.2.1 18) (gd (S.2.1 13) e) = 7 ∨ gd (S.2.1 18) (gd (S.2.1 13) e) = 8 := by
                rcases hsl.2.2.1 _ t1 t2 with ⟨-, y, -⟩ | ⟨x, y, -⟩
                · exact y
                · rw [z1] at y; cases y
              have hcl : (dCon (decide (gd (S.2.1 18) (gd (S.2.1 13) e) = 7))).2.2.length ≤ 5 := by
                cases decide (gd (S.2.1 18) (gd (S.2.1 13) e) = 7) <;> decide
              rw [z2] at hol' ⊢
              have := r_printConX (l := l) (G := G) (o := o) (rf := rf) (d := d) (S := sp S1 51 (S1.1 51 - 1)) (t := gd (S.2.1 13) e) (out := out) (by omega) (by omega) (by rw [e18]; exact hop) hP (by have : 4 ≤ (dCon (decide (gd (S.2.1 18) (gd (S.2.1 13) e) = 7))).2.2.length := (by cases decide (gd (S.2.1 18) (gd (S.2.1 13) e) = 7) <;> decide); omega)
              rw [e18] at this
              exact this
            · have htr : tsR Ns S1 s (gd (S.2.1 13) e) x := by
                rcases hsl1.2.2.1 (gd (S.2.1 13) e) t1 (by rw [hsm.2.1 21 (by decide)]; exact t2) with ⟨y, -⟩ | ⟨x', y, y2⟩
                · rw [z1] at y; cases y
                · rw [z1] at y; cases y; exact y2
              rw [z2] at hol' ⊢
              have hol2 : out.length + x.2.2.2.length ≤ 1000 := by
                have : (dTst x).2.2 = x.2.2.2 := rfl
                rw [this] at hol'
                omega
              exact r_printTestX (S := sp S1 51 (S1.1 51 - 1)) (by omega) hN1 h6 hs (by omega) (by show gd (S1.2.1 26) s ≤ 64; rw [hsm.2.1 26 (by decide)]; exact hV64) htr hP hol2
            · omega
            · omega
            · omega
          refine x_aload_n d_Mo_print_20 rfl rfl ?_
          refine x_get xf_Mo_361_Mo (Or.inl hR.1) (v := .int (zI (S1.1 51))) rfl d_Mo_print_21 ?_
          have hb21 : inR (S1.1 51) := hR.2.2.2 51
          refine z_if_le (tgt := 251) d_Mo_print_24 (by decide) (by omega) (fun hq => by omega) (fun _ => ?_)
          refine x_aload_n d_Mo_print_27 rfl rfl ?_
          refine x_dup d_Mo_print_28 rfl ?_
          refine x_get xf_Mo_361_Mo (Or.inl hR.1) (v := .int (zI (S1.1 51))) rfl d_Mo_print_29 ?_
          have hb29 : inR (S1.1 51) := hR.2.2.2 51
          refine x_iconst (v := zI 1) d_Mo_print_32 (by decide) ?_
          refine z_isub d_Mo_print_33 ?_
          refine r_put xf_Mo_361_Mo xp_Mo_51 hR hX (by omega) rfl rfl d_Mo_print_34 ?_
          intro h hR hX
          refine x_aload_n d_Mo_print_37 rfl rfl ?_
          refine x_get xf_Mo_118_Mo (Or.inl hR.1) (v := .ref (rf 50)) rfl d_Mo_print_38 ?_
          refine x_aload_n d_Mo_print_41 rfl rfl ?_
          refine x_get xf_Mo_361_Mo (Or.inl hR.1) (v := .int (zI ((S1.1 51) - 1))) rfl d_Mo_print_42 ?_
          have hb42 : inR ((S1.1 51) - 1) := hR.2.2.2 51
          refine r_iald (i := 50) (us := (S1.2.1 50)) rfl (by decide) hR rfl (by omega) (by show S1.1 51 - 1 < 600; omega) d_Mo_print_45 (fun hr45 => ?_)
          rw [htop]
          refine x_istore_n (L' := [_, _, _, _]) d_Mo_print_46 rfl rfl ?_
          refine x_iload_n d_Mo_print_47 rfl ?_
          refine z_if_ge (tgt := 55) d_Mo_print_48 (by decide) (by omega) (fun _ => ?_) (fun hq => by omega)
          refine x_aload_n d_Mo_print_55 rfl rfl ?_
          refine x_get xf_Mo_36_Mo (Or.inl hR.1) (v := .ref (rf 12)) rfl d_Mo_print_56 ?_
          refine x_iload_n d_Mo_print_59 rfl ?_
          refine r_iald (i := 12) (us := (S1.2.1 12)) rfl (by decide) hR rfl (by omega) (by show e < 1152; omega) d_Mo_print_60 (fun hr60 => ?_)
          rw [g12, k0]
          refine x_istore_n (L' := [_, _, _, _]) d_Mo_print_61 rfl rfl ?_
          refine x_iload_n d_Mo_print_62 rfl ?_
          refine z_if_ge (tgt := 100) d_Mo_print_63 (by decide) (by omega) (fun _ => ?_) (fun hq => by omega)
          refine x_iload_n d_Mo_print_100 rfl ?_
          refine z_if_ne (tgt := 117) d_Mo_print_101 (by decide) (by omega) (fun hq => by omega) (fun _ => ?_)
          refine x_aload_n d_Mo_print_104 rfl rfl ?_
          refine x_aload_n d_Mo_print_105 rfl rfl ?_
          refine x_get xf_Mo_39_Mo (Or.inl hR.1) (v := .ref (rf 13)) rfl d_Mo_print_106 ?_
          refine x_iload_n d_Mo_print_109 rfl ?_
          refine r_iald (i := 13) (us := (S1.2.1 13)) rfl (by decide) hR rfl (by omega) (by show e < 1152; omega) d_Mo_print_110 (fun hr110 => ?_)
          rw [g13]
          refine x_callV (As := [_]) (k := k_MarkerTextModel) rfl xcv_Mo_371_Mo (Or.inl hR.1) (RM.ap hR hpt) rfl rfl (Nat.le_of_ble_eq_true rfl) d_Mo_print_111 ?_
          rintro v111 h cq nq ⟨S111, hR, hX111, rfl, rfl, us9, p9, rfl, rfl, hp9⟩
          replace hX := hX.tr hX111
          refine x_goto (tgt := 248) d_Mo_print_114 (by decide) ?_
          refine x_goto (tgt := 20) d_Mo_print_248 (by decide) ?_
          exact sg us9 p9 hp9 _ _ _ hR hX
        · -- not
          have hEr := ewn _ r1
          have hwr := hew _ (Or.inr (Or.inr (Or.inr (Or.inr ⟨r1, by omega⟩))))
          have hde : (dn e).2.2 = [110, 111, 116, 32] ++ brk (decide ((dn (gd (S.2.1 14) e)).1 < 3)) (dn (gd (S.2.1 14) e)).2.2 := by
            rcases hndl with ⟨z, -⟩ | ⟨-, -, z⟩ | ⟨⟨z, -⟩ | ⟨z, -⟩, -⟩
            · omega
            · rw [z]
              show xtx 28 ++ _ = _
              rw [e_nt]
            · omega
            · omega
          have hkr := nd_kind (hsl.2.1 (gd (S.2.1 14) e) r1 (by omega))
          have kk : ∀ (S3 : MS) (b : Int) (us : List Int) (p : Int), (b = 0 ∨ b = 1) → (b = 1 ↔ (dn (gd (S.2.1 14) e)).1 < 3) → ptR us p (out ++ [110, 111, 116, 32]) → lnQ (PS (sp S1 51 (S1.1 51 - 1)) us p) Q (gd (S.2.1 14) e) b none S3 → ∀ w2 w3, RX l G M_Mo_print (d + 1) 20 [some (.ref o), some (.int (zI s)), w2, w3] [] H0 o rf c n S3 (pnXQ S T) := by
            intro S3 b us p hb hbi hp9 hq w2 w3
            obtain ⟨-, y1, y2⟩ := hq
            obtain ⟨Q1, hT1, u1, u2, u3, u4⟩ := hln2 S3 Q _ b hQ' r1 (by omega) y1 hb
            have f49 : S3.1 49 = p := y2.1 49 (by decide)
            have f48 : S3.2.1 48 = us := y2.2.1 48 (by decide)
            have hsm3 : rSm S S3 [49, 51] [48, 50] [] := ((hsm2.sa (by decide)).sp (by decide)).tr (y2.mono (by decide) (by decide) (by decide))
            refine nx S3 Q1 w2 w3 ⟨hsm3, hT1, u1, by omega, _, by rw [f49, f48]; exact hp9, ?_⟩ (hdec _ (by omega))
            rw [u4, ← hout', hde]
            have eb : decide (b ≠ 0) = decide ((dn (gd (S.2.1 14) e)).1 < 3) := decide_eq_decide.mpr (by rw [← hbi]; omega)
            rw [eb]
            simp only [List.append_assoc]
          refine x_aload_n d_Mo_print_20 rfl rfl ?_
          refine x_get xf_Mo_361_Mo (Or.inl hR.1) (v := .int (zI (S1.1 51))) rfl d_Mo_print_21 ?_
          have hb21 : inR (S1.1 51) := hR.2.2.2 51
          refine z_if_le (tgt := 251) d_Mo_print_24 (by decide) (by omega) (fun hq => by omega) (fun _ => ?_)
          refine x_aload_n d_Mo_print_27 rfl rfl ?_
          refine x_dup d_Mo_print_28 rfl ?_
          refine x_get xf_Mo_361_Mo (Or.inl hR.1) (v := .int (zI (S1.1 51))) rfl d_Mo_print_29 ?_
          have hb29 : inR (S1.1 51) := hR.2.2.2 51
          refine x_iconst (v := zI 1) d_Mo_print_32 (by decide) ?_
          refine z_isub d_Mo_print_33 ?_
          refine r_put xf_Mo_361_Mo xp_Mo_51 hR hX (by omega) rfl rfl d_Mo_print_34 ?_
          intro h hR hX
          refine x_aload_n d_Mo_print_37 rfl rfl ?_
          refine x_get xf_Mo_118_Mo (Or.inl hR.1) (v := .ref (rf 50)) rfl d_Mo_print_38 ?_
          refine x_aload_n d_Mo_print_41 rfl rfl ?_
          refine x_get xf_Mo_361_Mo (Or.inl hR.1) (v := .int (zI ((S1.1 51) - 1))) rfl d_Mo_print_42 ?_
          have hb42 : inR ((S1.1 51) - 1) := hR.2.2.2 51
          refine r_iald (i := 50) (us := (S1.2.1 50)) rfl (by decide) hR rfl (by omega) (by show S1.1 51 - 1 < 600; omega) d_Mo_print_45 (fun hr45 => ?_)
          rw [htop]
          refine x_istore_n (L' := [_, _, _, _]) d_Mo_print_46 rfl rfl ?_
          refine x_iload_n d_Mo_print_47 rfl ?_
          refine z_if_ge (tgt := 55) d_Mo_print_48 (by decide) (by omega) (fun _ => ?_) (fun hq => by omega)
          refine x_aload_n d_Mo_print_55 rfl rfl ?_
          refine x_get xf_Mo_36_Mo (Or.inl hR.1) (v := .ref (rf 12)) rfl d_Mo_print_56 ?_
          refine x_iload_n d_Mo_print_59 rfl ?_
          refine r_iald (i := 12) (us := (S1.2.1 12)) rfl (by decide) hR rfl (by omega) (by show e < 1152; omega) d_Mo_print_60 (fun hr60 => ?_)
          rw [g12, k0]
          refine x_istore_n (L' := [_, _, _, _]) d_Mo_print_61 rfl rfl ?_
          refine x_iload_n d_Mo_print_62 rfl ?_
          refine z_if_ge (tgt := 100) d_Mo_print_63 (by decide) (by omega) (fun _ => ?_) (fun hq => by omega)
          refine x_iload_n d_Mo_print_100 rfl ?_
          refine z_if_ne (tgt := 117) d_Mo_print_101 (by decide) (by omega) (fun _ => ?_) (fun hq => by omega)
          refine x_iload_n d_Mo_print_117 rfl ?_
          refine x_iconst (v := zI 1) d_Mo_print_118 (by decide) ?_
          refine z_icmp_ne (tgt := 162) d_Mo_print_119 (by decide) (by omega) (by omega) (fun hq => by omega) (fun _ => ?_)
          refine x_aload_n d_Mo_print_122 rfl rfl ?_
          refine x_ldc2 (v := 544501614) xw_1596 d_Mo_print_123 ?_
          refine x_callV (As := [_]) (k := k_MarkerTextModel) rfl xcv_Mo_349_Mo (Or.inl hR.1) (RM.ap hR (r_putAllX (S := sp S1 51 (S1.1 51 - 1)) (bs := [110, 111, 116, 32]) (by omega) (by decide +kernel) hP (by rw [hde, List.length_append] at hol'; simp only [List.length_cons, List.length_nil] at hol' ⊢; omega))) rfl rfl (Nat.le_of_ble_eq_true rfl) d_Mo_print_126 ?_
          rintro v126 h cq nq ⟨S126, hR, hX126, rfl, rfl, us9, p9, rfl, rfl, hp9⟩
          replace hX := hX.tr hX126
          refine x_aload_n d_Mo_print_129 rfl rfl ?_
          refine x_aload_n d_Mo_print_130 rfl rfl ?_
          refine x_get xf_Mo_42_Mo (Or.inl hR.1) (v := .ref (rf 14)) rfl d_Mo_print_131 ?_
          refine x_iload_n d_Mo_print_134 rfl ?_
          refine r_iald (i := 14) (us := (S1.2.1 14)) rfl (by decide) hR rfl (by omega) (by show e < 1152; omega) d_Mo_print_135 (fun hr135 => ?_)
          rw [g14]
          refine x_aload_n d_Mo_print_136 rfl rfl ?_
          refine x_get xf_Mo_36_Mo (Or.inl hR.1) (v := .ref (rf 12)) rfl d_Mo_print_137 ?_
          refine x_aload_n d_Mo_print_140 rfl rfl ?_
          refine x_get xf_Mo_42_Mo (Or.inl hR.1) (v := .ref (rf 14)) rfl d_Mo_print_141 ?_
          refine x_iload_n d_Mo_print_144 rfl ?_
          refine r_iald (i := 14) (us := (S1.2.1 14)) rfl (by decide) hR rfl (by omega) (by show e < 1152; omega) d_Mo_print_145 (fun hr145 => ?_)
          rw [g14]
          refine r_iald (i := 12) (us := (S1.2.1 12)) rfl (by decide) hR rfl (by omega) (by show gd (S.2.1 14) e < 1152; omega) d_Mo_print_146 (fun hr146 => ?_)
          rw [hsm.2.1 12 (by decide)] at *
          refine x_iconst (v := zI 2) d_Mo_print_147 (by decide) ?_
          refine z_icmp_lt (tgt := 155) d_Mo_print_148 (by decide) (by omega) (by omega) (fun hc148 => ?_) (fun hc148 => ?_)
          · refine x_iconst (v := zI 0) d_Mo_print_155 (by decide) ?_
            refine x_callV (As := [_, _]) (k := k_MarkerTextModel) rfl xcv_Mo_376_Mo (Or.inl hR.1) (RM.ap hR (r_laterNode (S := PS (sp S1 51 (S1.1 51 - 1)) us9 p9) (Q := Q) (by omega) (by omega) (by omega) hT2 (by omega))) rfl rfl (Nat.le_of_ble_eq_true rfl) d_Mo_print_156 ?_
            rintro v156 h cq nq ⟨S156, hR, hX156, rfl, rfl, rfl, hq156⟩
            replace hX := hX.tr hX156
            refine x_goto (tgt := 248) d_Mo_print_159 (by decide) ?_
            refine x_goto (tgt := 20) d_Mo_print_248 (by decide) ?_
            exact kk _ _ us9 p9 (by omega) (by omega) hp9 ⟨rfl, hq156⟩ _ _ _ hR hX
          · refine x_iconst (v := zI 1) d_Mo_print_151 (by decide) ?_
            refine x_goto (tgt := 156) d_Mo_print_152 (by decide) ?_
            refine x_callV (As := [_, _]) (k := k_MarkerTextModel) rfl xcv_Mo_376_Mo (Or.inl hR.1) (RM.ap hR (r_laterNode (S := PS (sp S1 51 (S1.1 51 - 1)) us9 p9) (Q := Q) (by omega) (by omega) (by omega) hT2 (by omega))) rfl rfl (Nat.le_of_ble_eq_true rfl) d_Mo_print_156 ?_
            rintro v156 h cq nq ⟨S156, hR, hX156, rfl, rfl, rfl, hq156⟩
            replace hX := hX.tr hX156
            refine x_goto (tgt := 248) d_Mo_print_159 (by decide) ?_
            refine x_goto (tgt := 20) d_Mo_print_248 (by decide) ?_
            exact kk _ _ us9 p9 (by omega) (by omega) hp9 ⟨rfl, hq156⟩ _ _ _ hR hX
        · -- and, or
          have hEr := ewn _ r1
          have hEl := ewn _ a1
          have hwr := hew _ (Or.inr (Or.inr (Or.inr (Or.inr ⟨r1, by omega⟩))))
          have hwl := hew _ (Or.inr (Or.inr (Or.inr (Or.inr ⟨a1, by omega⟩))))
          have hkr := nd_kind (hsl.2.1 (gd (S.2.1 14) e) r1 (by omega))
          have hkl := nd_kind (hsl.2.1 (gd (S.2.1 13) e) a1 (by omega))
          rcases k0 with ⟨k0, hw0⟩ | ⟨k0, hw0⟩
          · have hde : (dn e).2.2 = brk (decide ((dn (gd (S.2.1 13) e)).1 < 2)) (dn (gd (S.2.1 13) e)).2.2 ++ [32, 97, 110, 100, 32] ++ brk (decide ((dn (gd (S.2.1 14) e)).1 ≤ 2)) (dn (gd (S.2.1 14) e)).2.2 := by
              rcases hndl with ⟨z, -⟩ | ⟨z, -⟩ | ⟨⟨-, z⟩ | ⟨z, -⟩, -⟩
              · omega
              · omega
              · rw [z]
                show _ ++ xtx 30 ++ _ = _
                rw [e_ja]
              · omega
            refine x_aload_n d_Mo_print_20 rfl rfl ?_
            refine x_get xf_Mo_361_Mo (Or.inl hR.1) (v := .int (zI (S1.1 51))) rfl d_Mo_print_21 ?_
            have hb21 : inR (S1.1 51) := hR.2.2.2 51
            refine z_if_le (tgt := 251) d_Mo_print_24 (by decide) (by omega) (fun hq => by omega) (fun _ => ?_)
            refine x_aload_n d_Mo_print_27 rfl rfl ?_
            refine x_dup d_Mo_print_28 rfl ?_
            refine x_get xf_Mo_361_Mo (Or.inl hR.1) (v := .int (zI (S1.1 51))) rfl d_Mo_print_29 ?_
            have hb29 : inR (S1.1 51) := hR.2.2.2 51
            refine x_iconst (v := zI 1) d_Mo_print_32 (by decide) ?_
            refine z_isub d_Mo_print_33 ?_
            refine r_put xf_Mo_361_Mo xp_Mo_51 hR hX (by omega) rfl rfl d_Mo_print_34 ?_
            intro h hR hX
            refine x_aload_n d_Mo_print_37 rfl rfl ?_
            refine x_get xf_Mo_118_Mo (Or.inl hR.1) (v := .ref (rf 50)) rfl d_Mo_print_38 ?_
            refine x_aload_n d_Mo_print_41 rfl rfl ?_
            refine x_get xf_Mo_361_Mo (Or.inl hR.1) (v := .int (zI ((S1.1 51) - 1))) rfl d_Mo_print_42 ?_
            have hb42 : inR ((S1.1 51) - 1) := hR.2.2.2 51
            refine r_iald (i := 50) (us := (S1.2.1 50)) rfl (by decide) hR rfl (by omega) (by show S1.1 51 - 1 < 600; omega) d_Mo_print_45 (fun hr45 => ?_)
            rw [htop]
            refine x_istore_n (L' := [_, _, _, _]) d_Mo_print_46 rfl rfl ?_
            refine x_iload_n d_Mo_print_47 rfl ?_
            refine z_if_ge (tgt := 55) d_Mo_print_48 (by decide) (by omega) (fun _ => ?_) (fun hq => by omega)
            refine x_aload_n d_Mo_print_55 rfl rfl ?_
            refine x_get xf_Mo_36_Mo (Or.inl hR.1) (v := .ref (rf 12)) rfl d_Mo_print_56 ?_
            refine x_iload_n d_Mo_print_59 rfl ?_
            refine r_iald (i := 12) (us := (S1.2.1 12)) rfl (by decide) hR rfl (by omega) (by show e < 1152; omega) d_Mo_print_60 (fun hr60 => ?_)
            rw [g12, k0]
            refine x_istore_n (L' := [_, _, _, _]) d_Mo_print_61 rfl rfl ?_
            refine x_iload_n d_Mo_print_62 rfl ?_
            refine z_if_ge (tgt := 100) d_Mo_print_63 (by decide) (by omega) (fun _ => ?_) (fun hq => by omega)
            refine x_iload_n d_Mo_print_100 rfl ?_
            refine z_if_ne (tgt := 117) d_Mo_print_101 (by decide) (by omega) (fun _ => ?_) (fun hq => by omega)
            refine x_iload_n d_Mo_print_117 rfl ?_
            refine x_iconst (v := zI 1) d_Mo_print_118 (by decide) ?_
            refine z_icmp_ne (tgt := 162) d_Mo_print_119 (by decide) (by omega) (by omega) (fun _ => ?_) (fun hq => by omega)
            refine x_aload_n d_Mo_print_162 rfl rfl ?_
            refine x_aload_n d_Mo_print_163 rfl rfl ?_
            refine x_get xf_Mo_42_Mo (Or.inl hR.1) (v := .ref (rf 14)) rfl d_Mo_print_164 ?_
            refine x_iload_n d_Mo_print_167 rfl ?_
            refine r_iald (i := 14) (us := (S1.2.1 14)) rfl (by decide) hR rfl (by omega) (by show e < 1152; omega) d_Mo_print_168 (fun hr168 => ?_)
            rw [g14]
            refine x_aload_n d_Mo_print_169 rfl rfl ?_
            refine x_get xf_Mo_36_Mo (Or.inl hR.1) (v := .ref (rf 12)) rfl d_Mo_print_170 ?_
            refine x_aload_n d_Mo_print_173 rfl rfl ?_
            refine x_get xf_Mo_42_Mo (Or.inl hR.1) (v := .ref (rf 14)) rfl d_Mo_print_174 ?_
            refine x_iload_n d_Mo_print_177 rfl ?_
            refine r_iald (i := 14) (us := (S1.2.1 14)) rfl (by decide) hR rfl (by omega) (by show e < 1152; omega) d_Mo_print_178 (fun hr178 => ?_)
            rw [g14]
            refine r_iald (i := 12) (us := (S1.2.1 12)) rfl (by decide) hR rfl (by omega) (by show gd (S.2.1 14) e < 1152; omega) d_Mo_print_179 (fun hr179 => ?_)
            rw [hsm.2.1 12 (by decide)] at *
            refine x_iconst (v := zI 3) d_Mo_print_180 (by decide) ?_
            refine z_icmp_eq (tgt := 199) d_Mo_print_181 (by decide) (by omega) (by omega) (fun hc181 => ?_) (fun hc181 => ?_)
            · refine x_iconst (v := zI 1) d_Mo_print_199 (by decide) ?_
              refine x_goto (tgt := 204) d_Mo_print_200 (by decide) ?_
              refine x_callV (As := [_, _]) (k := k_MarkerTextModel) rfl xcv_Mo_376_Mo (Or.inl hR.1) (RM.ap hR (r_laterNode (S := sp S1 51 (S1.1 51 - 1)) (Q := Q) (by omega) (by omega) (by omega) hT2 (by omega))) rfl rfl (Nat.le_of_ble_eq_true rfl) d_Mo_print_204 ?_
              rintro v204 h cq nq ⟨S204, hR, hX204, rfl, rfl, rfl, hT204, hsm204⟩
              replace hX := hX.tr hX204
              obtain ⟨Q1, hT204, u1, u2, u3, u4⟩ := hln2 S204 Q _ _ hQ' r1 (by omega) hT204 (by omega)
              have l50' : (S204.2.1 50).length = 600 := hR.len 50 (by decide)
              have g12' : S204.2.1 12 = S.2.1 12 := (hsm204.2.1 12 (by decide)).trans (hsm.2.1 12 (by decide))
              have g13' : S204.2.1 13 = S.2.1 13 := (hsm204.2.1 13 (by decide)).trans (hsm.2.1 13 (by decide))
              have f49' : S204.1 49 = S1.1 49 := hsm204.1 49 (by decide)
              have e51b := hT204.2
              refine x_aload_n d_Mo_print_207 rfl rfl ?_
              refine x_iload_n d_Mo_print_208 rfl ?_
              refine z_ineg d_Mo_print_209 ?_
              have hT5 := toDo.psh (v := -2) (h := H0) hT204 l50' (by omega)
              refine x_callV (As := [_]) (k := k_MarkerTextModel) rfl xcv_Mo_364_Mo (Or.inl hR.1) (RM.ap hR (r_later (S := S204) (by decide) (by omega))) rfl rfl (Nat.le_of_ble_eq_true rfl) d_Mo_print_210 ?_
              rintro v210 h cq nq ⟨S210, hR, hX210, rfl, rfl, rfl, rfl⟩
              replace hX := hX.tr hX210
              refine x_aload_n d_Mo_print_213 rfl rfl ?_
              refine x_aload_n d_Mo_print_214 rfl rfl ?_
              refine x_get xf_Mo_39_Mo (Or.inl hR.1) (v := .ref (rf 13)) rfl d_Mo_print_215 ?_
              refine x_iload_n d_Mo_print_218 rfl ?_
              refine r_iald (i := 13) (us := (S204.2.1 13)) rfl (by decide) hR rfl (by omega) (by show e < 1152; omega) d_Mo_print_219 (fun hr219 => ?_)
              rw [g13']
              refine x_iload_n d_Mo_print_220 rfl ?_
              refine x_iconst (v := zI 2) d_Mo_print_221 (by decide) ?_
              refine z_icmp_ne (tgt := 244) d_Mo_print_222 (by decide) (by omega) (by omega) (fun hq => by omega) (fun _ => ?_)
              refine x_aload_n d_Mo_print_225 rfl rfl ?_
              refine x_get xf_Mo_36_Mo (Or.inl hR.1) (v := .ref (rf 12)) rfl d_Mo_print_226 ?_
              refine x_aload_n d_Mo_print_229 rfl rfl ?_
              refine x_get xf_Mo_39_Mo (Or.inl hR.1) (v := .ref (rf 13)) rfl d_Mo_print_230 ?_
              refine x_iload_n d_Mo_print_233 rfl ?_
              refine r_iald (i := 13) (us := (S204.2.1 13)) rfl (by decide) hR rfl (by omega) (by show e < 1152; omega) d_Mo_print_234 (fun hr234 => ?_)
              rw [g13']
              refine r_iald (i := 12) (us := (S204.2.1 12)) rfl (by decide) hR rfl (by omega) (by show gd (S.2.1 13) e < 1152; omega) d_Mo_print_235 (fun hr235 => ?_)
              rw [g12'] at *
              refine x_iconst (v := zI 3) d_Mo_print_236 (by decide) ?_
              refine z_icmp_ne (tgt := 244) d_Mo_print_237 (by decide) (by omega) (by omega) (fun hc237 => ?_) (fun hc237 => ?_)
              · refine x_iconst (v := zI 0) d_Mo_print_244 (by decide) ?_
                refine x_callV (As := [_, _]) (k := k_MarkerTextModel) rfl xcv_Mo_376_Mo (Or.inl hR.1) (RM.ap hR (r_laterNode (S := sp (sa S204 50 (se (S204.2.1 50) (S204.1 51) (-2))) 51 (S204.1 51 + 1)) (Q := -2 :: Q1) (by omega) (by omega) (by omega) hT5 (by simp; omega))) rfl rfl (Nat.le_of_ble_eq_true rfl) d_Mo_print_245 ?_
                rintro v245 h cq nq ⟨S245, hR, hX245, rfl, rfl, rfl, hT245, hsm245⟩
                replace hX := hX.tr hX245
                refine x_goto (tgt := 20) d_Mo_print_248 (by decide) ?_
                have hz : wsm (ew w) (-2 :: Q1) = 5 + wsm (ew w) Q1 := rfl
                obtain ⟨Q3, hT245, v1, v2, v3, v4⟩ := hln2 S245 (-2 :: Q1) _ _ (fun x hx => (List.mem_cons.mp hx).elim (fun z => by rw [z]; exact Or.inl rfl) (fun z => u1 x z)) a1 (by omega) hT245 (by omega)
                have f49b : S245.1 49 = S1.1 49 := (hsm245.1 49 (by decide)).trans f49'
                have hsm9 : rSm S S245 [49, 51] [48, 50] [] := ((hsm2.tr (hsm204.mono (by decide) (by decide) (by decide))).sa (by decide)).sp (by decide) |>.tr (hsm245.mono (by decide) (by decide) (by decide))
                have f48b : S245.2.1 48 = S1.2.1 48 := (hsm245.2.1 48 (by decide)).trans (hsm204.2.1 48 (by decide))
                refine nx S245 Q3 _ _ ⟨hsm9, hT245, v1, by omega, out, by rw [f49b, f48b]; exact hP, ?_⟩ (hdec _ (by omega)) _ hR hX
                have u5 : flT dn Q1 = brk (decide ((dn (gd (S.2.1 14) e)).1 ≤ 2)) (dn (gd (S.2.1 14) e)).2.2 ++ flT dn Q := u4.trans (congrArg (fun z => brk z (dn (gd (S.2.1 14) e)).2.2 ++ flT dn Q) (decide_eq_decide.mpr (by omega)))
                have v5 : flT dn Q3 = brk (decide ((dn (gd (S.2.1 13) e)).1 < 2)) (dn (gd (S.2.1 13) e)).2.2 ++ flT dn (-2 :: Q1) := v4.trans (congrArg (fun z => brk z (dn (gd (S.2.1 13) e)).2.2 ++ flT dn (-2 :: Q1)) (decide_eq_decide.mpr (by omega)))
                rw [v5, show flT dn (-2 :: Q1) = [32, 97, 110, 100, 32] ++ flT dn Q1 from rfl, u5, ← hout', hde]
                simp only [List.append_assoc]
              · refine x_iconst (v := zI 1) d_Mo_print_240 (by decide) ?_
                refine x_goto (tgt := 245) d_Mo_print_241 (by decide) ?_
                refine x_callV (As := [_, _]) (k := k_MarkerTextModel) rfl xcv_Mo_376_Mo (Or.inl hR.1) (RM.ap hR (r_laterNode (S := sp (sa S204 50 (se (S204.2.1 50) (S204.1 51) (-2))) 51 (S204.1 51 + 1)) (Q := -2 :: Q1) (by omega) (by omega) (by omega) hT5 (by simp; omega))) rfl rfl (Nat.le_of_ble_eq_true rfl) d_Mo_print_245 ?_
                rintro v245 h cq nq ⟨S245, hR, hX245, rfl, rfl, rfl, hT245, hsm245⟩
                replace hX := hX.tr hX245
                refine x_goto (tgt := 20) d_Mo_print_248 (by decide) ?_
                have hz : wsm (ew w) (-2 :: Q1) = 5 + wsm (ew w) Q1 := rfl
                obtain ⟨Q3, hT245, v1, v2, v3, v4⟩ := hln2 S245 (-2 :: Q1) _ _ (fun x hx => (List.mem_cons.mp hx).elim (fun z => by rw [z]; exact Or.inl rfl) (fun z => u1 x z)) a1 (by omega) hT245 (by omega)
                have f49b : S245.1 49 = S1.1 49 := (hsm245.1 49 (by decide)).trans f49'
                have hsm9 : rSm S S245 [49, 51] [48, 50] [] := ((hsm2.tr (hsm204.mono (by decide) (by decide) (by decide))).sa (by decide)).sp (by decide) |>.tr (hsm245.mono (by decide) (by decide) (by decide))
                have f48b : S245.2.1 48 = S1.2.1 48 := (hsm245.2.1 48 (by decide)).trans (hsm204.2.1 48 (by decide))
                refine nx S245 Q3 _ _ ⟨hsm9, hT245, v1, by omega, out, by rw [f49b, f48b]; exact hP, ?_⟩ (hdec _ (by omega)) _ hR hX
                have u5 : flT dn Q1 = brk (decide ((dn (gd (S.2.1 14) e)).1 ≤ 2)) (dn (gd (S.2.1 14) e)).2.2 ++ flT dn Q := u4.trans (congrArg (fun z => brk z (dn (gd (S.2.1 14) e)).2.2 ++ flT dn Q) (decide_eq_decide.mpr (by omega)))
                have v5 : flT dn Q3 = brk (decide ((dn (gd (S.2.1 13) e)).1 < 2)) (dn (gd (S.2.1 13) e)).2.2 ++ flT dn (-2 :: Q1) := v4.trans (congrArg (fun z => brk z (dn (gd (S.2.1 13) e)).2.2 ++ flT dn (-2 :: Q1)) (decide_eq_decide.mpr (by omega)))
                rw [v5, show flT dn (-2 :: Q1) = [32, 97, 110, 100, 32] ++ flT dn Q1 from rfl, u5, ← hout', hde]
                simp only [List.append_assoc]
            · refine x_aload_n d_Mo_print_184 rfl rfl ?_
              refine x_get xf_Mo_36_Mo (Or.inl hR.1) (v := .ref (rf 12)) rfl d_Mo_print_185 ?_
              refine x_aload_n d_Mo_print_188 rfl rfl ?_
              refine x_get xf_Mo_42_Mo (Or.inl hR.1) (v := .ref (rf 14)) rfl d_Mo_print_189 ?_
              refine x_iload_n d_Mo_print_192 rfl ?_
              refine r_iald (i := 14) (us := (S1.2.1 14)) rfl (by decide) hR rfl (by omega) (by show e < 1152; omega) d_Mo_print_193 (fun hr193 => ?_)
              rw [g14]
              refine r_iald (i := 12) (us := (S1.2.1 12)) rfl (by decide) hR rfl (by omega) (by show gd (S.2.1 14) e < 1152; omega) d_Mo_print_194 (fun hr194 => ?_)
              rw [hsm.2.1 12 (by decide)] at *
              refine x_iload_n d_Mo_print_195 rfl ?_
              refine z_icmp_ne (tgt := 203) d_Mo_print_196 (by decide) (by omega) (by omega) (fun hc196 => ?_) (fun hc196 => ?_)
              · refine x_iconst (v := zI 0) d_Mo_print_203 (by decide) ?_
                refine x_callV (As := [_, _]) (k := k_MarkerTextModel) rfl xcv_Mo_376_Mo (Or.inl hR.1) (RM.ap hR (r_laterNode (S := sp S1 51 (S1.1 51 - 1)) (Q := Q) (by omega) (by omega) (by omega) hT2 (by omega))) rfl rfl (Nat.le_of_ble_eq_true rfl) d_Mo_print_204 ?_
                rintro v204 h cq nq ⟨S204, hR, hX204, rfl, rfl, rfl, hT204, hsm204⟩
                replace hX := hX.tr hX204
                obtain ⟨Q1, hT204, u1, u2, u3, u4⟩ := hln2 S204 Q _ _ hQ' r1 (by omega) hT204 (by omega)
                have l50' : (S204.2.1 50).length = 600 := hR.len 50 (by decide)
                have g12' : S204.2.1 12 = S.2.1 12 := (hsm204.2.1 12 (by decide)).trans (hsm.2.1 12 (by decide))
                have g13' : S204.2.1 13 = S.2.1 13 := (hsm204.2.1 13 (by decide)).trans (hsm.2.1 13 (by decide))
                have f49' : S204.1 49 = S1.1 49 := hsm204.1 49 (by decide)
                have e51b := hT204.2
                refine x_aload_n d_Mo_print_207 rfl rfl ?_
                refine x_iload_n d_Mo_print_208 rfl ?_
                refine z_ineg d_Mo_print_209 ?_
                have hT5 := toDo.psh (v := -2) (h := H0) hT204 l50' (by omega)
                refine x_callV (As := [_]) (k := k_MarkerTextModel) rfl xcv_Mo_364_Mo (Or.inl hR.1) (RM.ap hR (r_later (S := S204) (by decide) (by omega))) rfl rfl (Nat.le_of_ble_eq_true rfl) d_Mo_print_210 ?_
                rintro v210 h cq nq ⟨S210, hR, hX210, rfl, rfl, rfl, rfl⟩
                replace hX := hX.tr hX210
                refine x_aload_n d_Mo_print_213 rfl rfl ?_
                refine x_aload_n d_Mo_print_214 rfl rfl ?_
                refine x_get xf_Mo_39_Mo (Or.inl hR.1) (v := .ref (rf 13)) rfl d_Mo_print_215 ?_
                refine x_iload_n d_Mo_print_218 rfl ?_
                refine r_iald (i := 13) (us := (S204.2.1 13)) rfl (by decide) hR rfl (by omega) (by show e < 1152; omega) d_Mo_print_219 (fun hr219 => ?_)
                rw [g13']
                refine x_iload_n d_Mo_print_220 rfl ?_
                refine x_iconst (v := zI 2) d_Mo_print_221 (by decide) ?_
                refine z_icmp_ne (tgt := 244) d_Mo_print_222 (by decide) (by omega) (by omega) (fun hq => by omega) (fun _ => ?_)
                refine x_aload_n d_Mo_print_225 rfl rfl ?_
                refine x_get xf_Mo_36_Mo (Or.inl hR.1) (v := .ref (rf 12)) rfl d_Mo_print_226 ?_
                refine x_aload_n d_Mo_print_229 rfl rfl ?_
                refine x_get xf_Mo_39_Mo (Or.inl hR.1) (v := .ref (rf 13)) rfl d_Mo_print_230 ?_
                refine x_iload_n d_Mo_print_233 rfl ?_
                refine r_iald (i := 13) (us := (S204.2.1 13)) rfl (by decide) hR rfl (by omega) (by show e < 1152; omega) d_Mo_print_234 (fun hr234 => ?_)
                rw [g13']
                refine r_iald (i := 12) (us := (S204.2.1 12)) rfl (by decide) hR rfl (by omega) (by show gd (S.2.1 13) e < 1152; omega) d_Mo_print_235 (fun hr235 => ?_)
                rw [g12'] at *
                refine x_iconst (v := zI 3) d_Mo_print_236 (by decide) ?_
                refine z_icmp_ne (tgt := 244) d_Mo_print_237 (by decide) (by omega) (by omega) (fun hc237 => ?_) (fun hc237 => ?_)
                · refine x_iconst (v := zI 0) d_Mo_print_244 (by decide) ?_
                  refine x_callV (As := [_, _]) (k := k_MarkerTextModel) rfl xcv_Mo_376_Mo (Or.inl hR.1) (RM.ap hR (r_laterNode (S := sp (sa S204 50 (se (S204.2.1 50) (S204.1 51) (-2))) 51 (S204.1 51 + 1)) (Q := -2 :: Q1) (by omega) (by omega) (by omega) hT5 (by simp; omega))) rfl rfl (Nat.le_of_ble_eq_true rfl) d_Mo_print_245 ?_
                  rintro v245 h cq nq ⟨S245, hR, hX245, rfl, rfl, rfl, hT245, hsm245⟩
                  replace hX := hX.tr hX245
                  refine x_goto (tgt := 20) d_Mo_print_248 (by decide) ?_
                  have hz : wsm (ew w) (-2 :: Q1) = 5 + wsm (ew w) Q1 := rfl
                  obtain ⟨Q3, hT245, v1, v2, v3, v4⟩ := hln2 S245 (-2 :: Q1) _ _ (fun x hx => (List.mem_cons.mp hx).elim (fun z => by rw [z]; exact Or.inl rfl) (fun z => u1 x z)) a1 (by omega) hT245 (by omega)
                  have f49b : S245.1 49 = S1.1 49 := (hsm245.1 49 (by decide)).trans f49'
                  have hsm9 : rSm S S245 [49, 51] [48, 50] [] := ((hsm2.tr (hsm204.mono (by decide) (by decide) (by decide))).sa (by decide)).sp (by decide) |>.tr (hsm245.mono (by decide) (by decide) (by decide))
                  have f48b : S245.2.1 48 = S1.2.1 48 := (hsm245.2.1 48 (by decide)).trans (hsm204.2.1 48 (by decide))
                  refine nx S245 Q3 _ _ ⟨hsm9, hT245, v1, by omega, out, by rw [f49b, f48b]; exact hP, ?_⟩ (hdec _ (by omega)) _ hR hX
                  have u5 : flT dn Q1 = brk (decide ((dn (gd (S.2.1 14) e)).1 ≤ 2)) (dn (gd (S.2.1 14) e)).2.2 ++ flT dn Q := u4.trans (congrArg (fun z => brk z (dn (gd (S.2.1 14) e)).2.2 ++ flT dn Q) (decide_eq_decide.mpr (by omega)))
                  have v5 : flT dn Q3 = brk (decide ((dn (gd (S.2.1 13) e)).1 < 2)) (dn (gd (S.2.1 13) e)).2.2 ++ flT dn (-2 :: Q1) := v4.trans (congrArg (fun z => brk z (dn (gd (S.2.1 13) e)).2.2 ++ flT dn (-2 :: Q1)) (decide_eq_decide.mpr (by omega)))
                  rw [v5, show flT dn (-2 :: Q1) = [32, 97, 110, 100, 32] ++ flT dn Q1 from rfl, u5, ← hout', hde]
                  simp only [List.append_assoc]
                · refine x_iconst (v := zI 1) d_Mo_print_240 (by decide) ?_
                  refine x_goto (tgt := 245) d_Mo_print_241 (by decide) ?_
                  refine x_callV (As := [_, _]) (k := k_MarkerTextModel) rfl xcv_Mo_376_Mo (Or.inl hR.1) (RM.ap hR (r_laterNode (S := sp (sa S204 50 (se (S204.2.1 50) (S204.1 51) (-2))) 51 (S204.1 51 + 1)) (Q := -2 :: Q1) (by omega) (by omega) (by omega) hT5 (by simp; omega))) rfl rfl (Nat.le_of_ble_eq_true rfl) d_Mo_print_245 ?_
                  rintro v245 h cq nq ⟨S245, hR, hX245, rfl, rfl, rfl, hT245, hsm245⟩
                  replace hX := hX.tr hX245
                  refine x_goto (tgt := 20) d_Mo_print_248 (by decide) ?_
                  have hz : wsm (ew w) (-2 :: Q1) = 5 + wsm (ew w) Q1 := rfl
                  obtain ⟨Q3, hT245, v1, v2, v3, v4⟩ := hln2 S245 (-2 :: Q1) _ _ (fun x hx => (List.mem_cons.mp hx).elim (fun z => by rw [z]; exact Or.inl rfl) (fun z => u1 x z)) a1 (by omega) hT245 (by omega)
                  have f49b : S245.1 49 = S1.1 49 := (hsm245.1 49 (by decide)).trans f49'
                  have hsm9 : rSm S S245 [49, 51] [48, 50] [] := ((hsm2.tr (hsm204.mono (by decide) (by decide) (by decide))).sa (by decide)).sp (by decide) |>.tr (hsm245.mono (by decide) (by decide) (by decide))
                  have f48b : S245.2.1 48 = S1.2.1 48 := (hsm245.2.1 48 (by decide)).trans (hsm204.2.1 48 (by decide))
                  refine nx S245 Q3 _ _ ⟨hsm9, hT245, v1, by omega, out, by rw [f49b, f48b]; exact hP, ?_⟩ (hdec _ (by omega)) _ hR hX
                  have u5 : flT dn Q1 = brk (decide ((dn (gd (S.2.1 14) e)).1 ≤ 2)) (dn (gd (S.2.1 14) e)).2.2 ++ flT dn Q := u4.trans (congrArg (fun z => brk z (dn (gd (S.2.1 14) e)).2.2 ++ flT dn Q) (decide_eq_decide.mpr (by omega)))
                  have v5 : flT dn Q3 = brk (decide ((dn (gd (S.2.1 13) e)).1 < 2)) (dn (gd (S.2.1 13) e)).2.2 ++ flT dn (-2 :: Q1) := v4.trans (congrArg (fun z => brk z (dn (gd (S.2.1 13) e)).2.2 ++ flT dn (-2 :: Q1)) (decide_eq_decide.mpr (by omega)))
                  rw [v5, show flT dn (-2 :: Q1) = [32, 97, 110, 100, 32] ++ flT dn Q1 from rfl, u5, ← hout', hde]
                  simp only [List.append_assoc]
              · refine x_iconst (v := zI 1) d_Mo_print_199 (by decide) ?_
                refine x_goto (tgt := 204) d_Mo_print_200 (by decide) ?_
                refine x_callV (As := [_, _]) (k := k_MarkerTextModel) rfl xcv_Mo_376_Mo (Or.inl hR.1) (RM.ap hR (r_laterNode (S := sp S1 51 (S1.1 51 - 1)) (Q := Q) (by omega) (by omega) (by omega) hT2 (by omega))) rfl rfl (Nat.le_of_ble_eq_true rfl) d_Mo_print_204 ?_
                rintro v204 h cq nq ⟨S204, hR, hX204, rfl, rfl, rfl, hT204, hsm204⟩
                replace hX := hX.tr hX204
                obtain ⟨Q1, hT204, u1, u2, u3, u4⟩ := hln2 S204 Q _ _ hQ' r1 (by omega) hT204 (by omega)
                have l50' : (S204.2.1 50).length = 600 := hR.len 50 (by decide)
                have g12' : S204.2.1 12 = S.2.1 12 := (hsm204.2.1 12 (by decide)).trans (hsm.2.1 12 (by decide))
                have g13' : S204.2.1 13 = S.2.1 13 := (hsm204.2.1 13 (by decide)).trans (hsm.2.1 13 (by decide))
                have f49' : S204.1 49 = S1.1 49 := hsm204.1 49 (by decide)
                have e51b := hT204.2
                refine x_aload_n d_Mo_print_207 rfl rfl ?_
                refine x_iload_n d_Mo_print_208 rfl ?_
                refine z_ineg d_Mo_print_209 ?_
                have hT5 := toDo.psh (v := -2) (h := H0) hT204 l50' (by omega)
                refine x_callV (As := [_]) (k := k_MarkerTextModel) rfl xcv_Mo_364_Mo (Or.inl hR.1) (RM.ap hR (r_later (S := S204) (by decide) (by omega))) rfl rfl (Nat.le_of_ble_eq_true rfl) d_Mo_print_210 ?_
                rintro v210 h cq nq ⟨S210, hR, hX210, rfl, rfl, rfl, rfl⟩
                replace hX := hX.tr hX210
                refine x_aload_n d_Mo_print_213 rfl rfl ?_
                refine x_aload_n d_Mo_print_214 rfl rfl ?_
                refine x_get xf_Mo_39_Mo (Or.inl hR.1) (v := .ref (rf 13)) rfl d_Mo_print_215 ?_
                refine x_iload_n d_Mo_print_218 rfl ?_
                refine r_iald (i := 13) (us := (S204.2.1 13)) rfl (by decide) hR rfl (by omega) (by show e < 1152; omega) d_Mo_print_219 (fun hr219 => ?_)
                rw [g13']
                refine x_iload_n d_Mo_print_220 rfl ?_
                refine x_iconst (v := zI 2) d_Mo_print_221 (by decide) ?_
                refine z_icmp_ne (tgt := 244) d_Mo_print_222 (by decide) (by omega) (by omega) (fun hq => by omega) (fun _ => ?_)
                refine x_aload_n d_Mo_print_225 rfl rfl ?_
                refine x_get xf_Mo_36_Mo (Or.inl hR.1) (v := .ref (rf 12)) rfl d_Mo_print_226 ?_
                refine x_aload_n d_Mo_print_229 rfl rfl ?_
                refine x_get xf_Mo_39_Mo (Or.inl hR.1) (v := .ref (rf 13)) rfl d_Mo_print_230 ?_
                refine x_iload_n d_Mo_print_233 rfl ?_
                refine r_iald (i := 13) (us := (S204.2.1 13)) rfl (by decide) hR rfl (by omega) (by show e < 1152; omega) d_Mo_print_234 (fun hr234 => ?_)
                rw [g13']
                refine r_iald (i := 12) (us := (S204.2.1 12)) rfl (by decide) hR rfl (by omega) (by show gd (S.2.1 13) e < 1152; omega) d_Mo_print_235 (fun hr235 => ?_)
                rw [g12'] at *
                refine x_iconst (v := zI 3) d_Mo_print_236 (by decide) ?_
                refine z_icmp_ne (tgt := 244) d_Mo_print_237 (by decide) (by omega) (by omega) (fun hc237 => ?_) (fun hc237 => ?_)
                · refine x_iconst (v := zI 0) d_Mo_print_244 (by decide) ?_
                  refine x_callV (As := [_, _]) (k := k_MarkerTextModel) rfl xcv_Mo_376_Mo (Or.inl hR.1) (RM.ap hR (r_laterNode (S := sp (sa S204 50 (se (S204.2.1 50) (S204.1 51) (-2))) 51 (S204.1 51 + 1)) (Q := -2 :: Q1) (by omega) (by omega) (by omega) hT5 (by simp; omega))) rfl rfl (Nat.le_of_ble_eq_true rfl) d_Mo_print_245 ?_
                  rintro v245 h cq nq ⟨S245, hR, hX245, rfl, rfl, rfl, hT245, hsm245⟩
                  replace hX := hX.tr hX245
                  refine x_goto (tgt := 20) d_Mo_print_248 (by decide) ?_
                  have hz : wsm (ew w) (-2 :: Q1) = 5 + wsm (ew w) Q1 := rfl
                  obtain ⟨Q3, hT245, v1, v2, v3, v4⟩ := hln2 S245 (-2 :: Q1) _ _ (fun x hx => (List.mem_cons.mp hx).elim (fun z => by rw [z]; exact Or.inl rfl) (fun z => u1 x z)) a1 (by omega) hT245 (by omega)
                  have f49b : S245.1 49 = S1.1 49 := (hsm245.1 49 (by decide)).trans f49'
                  have hsm9 : rSm S S245 [49, 51] [48, 50] [] := ((hsm2.tr (hsm204.mono (by decide) (by decide) (by decide))).sa (by decide)).sp (by decide) |>.tr (hsm245.mono (by decide) (by decide) (by decide))
                  have f48b : S245.2.1 48 = S1.2.1 48 := (hsm245.2.1 48 (by decide)).trans (hsm204.2.1 48 (by decide))
                  refine nx S245 Q3 _ _ ⟨hsm9, hT245, v1, by omega, out, by rw [f49b, f48b]; exact hP, ?_⟩ (hdec _ (by omega)) _ hR hX
                  have u5 : flT dn Q1 = brk (decide ((dn (gd (S.2.1 14) e)).1 ≤ 2)) (dn (gd (S.2.1 14) e)).2.2 ++ flT dn Q := u4.trans (congrArg (fun z => brk z (dn (gd (S.2.1 14) e)).2.2 ++ flT dn Q) (decide_eq_decide.mpr (by omega)))
                  have v5 : flT dn Q3 = brk (decide ((dn (gd (S.2.1 13) e)).1 < 2)) (dn (gd (S.2.1 13) e)).2.2 ++ flT dn (-2 :: Q1) := v4.trans (congrArg (fun z => brk z (dn (gd (S.2.1 13) e)).2.2 ++ flT dn (-2 :: Q1)) (decide_eq_decide.mpr (by omega)))
                  rw [v5, show flT dn (-2 :: Q1) = [32, 97, 110, 100, 32] ++ flT dn Q1 from rfl, u5, ← hout', hde]
                  simp only [List.append_assoc]
                · refine x_iconst (v := zI 1) d_Mo_print_240 (by decide) ?_
                  refine x_goto (tgt := 245) d_Mo_print_241 (by decide) ?_
                  refine x_callV (As := [_, _]) (k := k_MarkerTextModel) rfl xcv_Mo_376_Mo (Or.inl hR.1) (RM.ap hR (r_laterNode (S := sp (sa S204 50 (se (S204.2.1 50) (S204.1 51) (-2))) 51 (S204.1 51 + 1)) (Q := -2 :: Q1) (by omega) (by omega) (by omega) hT5 (by simp; omega))) rfl rfl (Nat.le_of_ble_eq_true rfl) d_Mo_print_245 ?_
                  rintro v245 h cq nq ⟨S245, hR, hX245, rfl, rfl, rfl, hT245, hsm245⟩
                  replace hX := hX.tr hX245
                  refine x_goto (tgt := 20) d_Mo_print_248 (by decide) ?_
                  have hz : wsm (ew w) (-2 :: Q1) = 5 + wsm (ew w) Q1 := rfl
                  obtain ⟨Q3, hT245, v1, v2, v3, v4⟩ := hln2 S245 (-2 :: Q1) _ _ (fun x hx => (List.mem_cons.mp hx).elim (fun z => by rw [z]; exact Or.inl rfl) (fun z => u1 x z)) a1 (by omega) hT245 (by omega)
                  have f49b : S245.1 49 = S1.1 49 := (hsm245.1 49 (by decide)).trans f49'
                  have hsm9 : rSm S S245 [49, 51] [48, 50] [] := ((hsm2.tr (hsm204.mono (by decide) (by decide) (by decide))).sa (by decide)).sp (by decide) |>.tr (hsm245.mono (by decide) (by decide) (by decide))
                  have f48b : S245.2.1 48 = S1.2.1 48 := (hsm245.2.1 48 (by decide)).trans (hsm204.2.1 48 (by decide))
                  refine nx S245 Q3 _ _ ⟨hsm9, hT245, v1, by omega, out, by rw [f49b, f48b]; exact hP, ?_⟩ (hdec _ (by omega)) _ hR hX
                  have u5 : flT dn Q1 = brk (decide ((dn (gd (S.2.1 14) e)).1 ≤ 2)) (dn (gd (S.2.1 14) e)).2.2 ++ flT dn Q := u4.trans (congrArg (fun z => brk z (dn (gd (S.2.1 14) e)).2.2 ++ flT dn Q) (decide_eq_decide.mpr (by omega)))
                  have v5 : flT dn Q3 = brk (decide ((dn (gd (S.2.1 13) e)).1 < 2)) (dn (gd (S.2.1 13) e)).2.2 ++ flT dn (-2 :: Q1) := v4.trans (congrArg (fun z => brk z (dn (gd (S.2.1 13) e)).2.2 ++ flT dn (-2 :: Q1)) (decide_eq_decide.mpr (by omega)))
                  rw [v5, show flT dn (-2 :: Q1) = [32, 97, 110, 100, 32] ++ flT dn Q1 from rfl, u5, ← hout', hde]
                  simp only [List.append_assoc]
          · have hde : (dn e).2.2 = brk (decide ((dn (gd (S.2.1 13) e)).1 < 1)) (dn (gd (S.2.1 13) e)).2.2 ++ [32, 111, 114, 32] ++ brk (decide ((dn (gd (S.2.1 14) e)).1 ≤ 1)) (dn (gd (S.2.1 14) e)).2.2 := by
              rcases hndl with ⟨z, -⟩ | ⟨z, -⟩ | ⟨⟨z, -⟩ | ⟨-, z⟩, -⟩
              · omega
              · omega
              · omega
              · rw [z]
                show _ ++ xtx 29 ++ _ = _
                rw [e_jo]
            refine x_aload_n d_Mo_print_20 rfl rfl ?_
            refine x_get xf_Mo_361_Mo (Or.inl hR.1) (v := .int (zI (S1.1 51))) rfl d_Mo_print_21 ?_
            have hb21 : inR (S1.1 51) := hR.2.2.2 51
            refine z_if_le (tgt := 251) d_Mo_print_24 (by decide) (by omega) (fun hq => by omega) (fun _ => ?_)
            refine x_aload_n d_Mo_print_27 rfl rfl ?_
            refine x_dup d_Mo_print_28 rfl ?_
            refine x_get xf_Mo_361_Mo (Or.inl hR.1) (v := .int (zI (S1.1 51))) rfl d_Mo_print_29 ?_
            have hb29 : inR (S1.1 51) := hR.2.2.2 51
            refine x_iconst (v := zI 1) d_Mo_print_32 (by decide) ?_
            refine z_isub d_Mo_print_33 ?_
            refine r_put xf_Mo_361_Mo xp_Mo_51 hR hX (by omega) rfl rfl d_Mo_print_34 ?_
            intro h hR hX
            refine x_aload_n d_Mo_print_37 rfl rfl ?_
            refine x_get xf_Mo_118_Mo (Or.inl hR.1) (v := .ref (rf 50)) rfl d_Mo_print_38 ?_
            refine x_aload_n d_Mo_print_41 rfl rfl ?_
            refine x_get xf_Mo_361_Mo (Or.inl hR.1) (v := .int (zI ((S1.1 51) - 1))) rfl d_Mo_print_42 ?_
            have hb42 : inR ((S1.1 51) - 1) := hR.2.2.2 51
            refine r_iald (i := 50) (us := (S1.2.1 50)) rfl (by decide) hR rfl (by omega) (by show S1.1 51 - 1 < 600; omega) d_Mo_print_45 (fun hr45 => ?_)
            rw [htop]
            refine x_istore_n (L' := [_, _, _, _]) d_Mo_print_46 rfl rfl ?_
            refine x_iload_n d_Mo_print_47 rfl ?_
            refine z_if_ge (tgt := 55) d_Mo_print_48 (by decide) (by omega) (fun _ => ?_) (fun hq => by omega)
            refine x_aload_n d_Mo_print_55 rfl rfl ?_
            refine x_get xf_Mo_36_Mo (Or.inl hR.1) (v := .ref (rf 12)) rfl d_Mo_print_56 ?_
            refine x_iload_n d_Mo_print_59 rfl ?_
            refine r_iald (i := 12) (us := (S1.2.1 12)) rfl (by decide) hR rfl (by omega) (by show e < 1152; omega) d_Mo_print_60 (fun hr60 => ?_)
            rw [g12, k0]
            refine x_istore_n (L' := [_, _, _, _]) d_Mo_print_61 rfl rfl ?_
            refine x_iload_n d_Mo_print_62 rfl ?_
            refine z_if_ge (tgt := 100) d_Mo_print_63 (by decide) (by omega) (fun _ => ?_) (fun hq => by omega)
            refine x_iload_n d_Mo_print_100 rfl ?_
            refine z_if_ne (tgt := 117) d_Mo_print_101 (by decide) (by omega) (fun _ => ?_) (fun hq => by omega)
            refine x_iload_n d_Mo_print_117 rfl ?_
            refine x_iconst (v := zI 1) d_Mo_print_118 (by decide) ?_
            refine z_icmp_ne (tgt := 162) d_Mo_print_119 (by decide) (by omega) (by omega) (fun _ => ?_) (fun hq => by omega)
            refine x_aload_n d_Mo_print_162 rfl rfl ?_
            refine x_aload_n d_Mo_print_163 rfl rfl ?_
            refine x_get xf_Mo_42_Mo (Or.inl hR.1) (v := .ref (rf 14)) rfl d_Mo_print_164 ?_
            refine x_iload_n d_Mo_print_167 rfl ?_
            refine r_iald (i := 14) (us := (S1.2.1 14)) rfl (by decide) hR rfl (by omega) (by show e < 1152; omega) d_Mo_print_168 (fun hr168 => ?_)
            rw [g14]
            refine x_aload_n d_Mo_print_169 rfl rfl ?_
            refine x_get xf_Mo_36_Mo (Or.inl hR.1) (v := .ref (rf 12)) rfl d_Mo_print_170 ?_
            refine x_aload_n d_Mo_print_173 rfl rfl ?_
            refine x_get xf_Mo_42_Mo (Or.inl hR.1) (v := .ref (rf 14)) rfl d_Mo_print_174 ?_
            refine x_iload_n d_Mo_print_177 rfl ?_
            refine r_iald (i := 14) (us := (S1.2.1 14)) rfl (by decide) hR rfl (by omega) (by show e < 1152; omega) d_Mo_print_178 (fun hr178 => ?_)
            rw [g14]
            refine r_iald (i := 12) (us := (S1.2.1 12)) rfl (by decide) hR rfl (by omega) (by show gd (S.2.1 14) e < 1152; omega) d_Mo_print_179 (fun hr179 => ?_)
            rw [hsm.2.1 12 (by decide)] at *
            refine x_iconst (v := zI 3) d_Mo_print_180 (by decide) ?_
            refine z_icmp_eq (tgt := 199) d_Mo_print_181 (by decide) (by omega) (by omega) (fun hc181 => ?_) (fun hc181 => ?_)
            · refine x_iconst (v := zI 1) d_Mo_print_199 (by decide) ?_
              refine x_goto (tgt := 204) d_Mo_print_200 (by decide) ?_
              refine x_callV (As := [_, _]) (k := k_MarkerTextModel) rfl xcv_Mo_376_Mo (Or.inl hR.1) (RM.ap hR (r_laterNode (S := sp S1 51 (S1.1 51 - 1)) (Q := Q) (by omega) (by omega) (by omega) hT2 (by omega))) rfl rfl (Nat.le_of_ble_eq_true rfl) d_Mo_print_204 ?_
              rintro v204 h cq nq ⟨S204, hR, hX204, rfl, rfl, rfl, hT204, hsm204⟩
              replace hX := hX.tr hX204
              obtain ⟨Q1, hT204, u1, u2, u3, u4⟩ := hln2 S204 Q _ _ hQ' r1 (by omega) hT204 (by omega)
              have l50' : (S204.2.1 50).length = 600 := hR.len 50 (by decide)
              have g12' : S204.2.1 12 = S.2.1 12 := (hsm204.2.1 12 (by decide)).trans (hsm.2.1 12 (by decide))
              have g13' : S204.2.1 13 = S.2.1 13 := (hsm204.2.1 13 (by decide)).trans (hsm.2.1 13 (by decide))
              have f49' : S204.1 49 = S1.1 49 := hsm204.1 49 (by decide)
              have e51b := hT204.2
              refine x_aload_n d_Mo_print_207 rfl rfl ?_
              refine x_iload_n d_Mo_print_208 rfl ?_
              refine z_ineg d_Mo_print_209 ?_
              have hT5 := toDo.psh (v := -3) (h := H0) hT204 l50' (by omega)
              refine x_callV (As := [_]) (k := k_MarkerTextModel) rfl xcv_Mo_364_Mo (Or.inl hR.1) (RM.ap hR (r_later (S := S204) (by decide) (by omega))) rfl rfl (Nat.le_of_ble_eq_true rfl) d_Mo_print_210 ?_
              rintro v210 h cq nq ⟨S210, hR, hX210, rfl, rfl, rfl, rfl⟩
              replace hX := hX.tr hX210
              refine x_aload_n d_Mo_print_213 rfl rfl ?_
              refine x_aload_n d_Mo_print_214 rfl rfl ?_
              refine x_get xf_Mo_39_Mo (Or.inl hR.1) (v := .ref (rf 13)) rfl d_Mo_print_215 ?_
              refine x_iload_n d_Mo_print_218 rfl ?_
              refine r_iald (i := 13) (us := (S204.2.1 13)) rfl (by decide) hR rfl (by omega) (by show e < 1152; omega) d_Mo_print_219 (fun hr219 => ?_)
              rw [g13']
              refine x_iload_n d_Mo_print_220 rfl ?_
              refine x_iconst (v := zI 2) d_Mo_print_221 (by decide) ?_
              refine z_icmp_ne (tgt := 244) d_Mo_print_222 (by decide) (by omega) (by omega) (fun _ => ?_) (fun hq => by omega)
              refine x_iconst (v := zI 0) d_Mo_print_244 (by decide) ?_
              refine x_callV (As := [_, _]) (k := k_MarkerTextModel) rfl xcv_Mo_376_Mo (Or.inl hR.1) (RM.ap hR (r_laterNode (S := sp (sa S204 50 (se (S204.2.1 50) (S204.1 51) (-3))) 51 (S204.1 51 + 1)) (Q := -3 :: Q1) (by omega) (by omega) (by omega) hT5 (by simp; omega))) rfl rfl (Nat.le_of_ble_eq_true rfl) d_Mo_print_245 ?_
              rintro v245 h cq nq ⟨S245, hR, hX245, rfl, rfl, rfl, hT245, hsm245⟩
              replace hX := hX.tr hX245
              refine x_goto (tgt := 20) d_Mo_print_248 (by decide) ?_
              have hz : wsm (ew w) (-3 :: Q1) = 4 + wsm (ew w) Q1 := rfl
              obtain ⟨Q3, hT245, v1, v2, v3, v4⟩ := hln2 S245 (-3 :: Q1) _ _ (fun x hx => (List.mem_cons.mp hx).elim (fun z => by rw [z]; exact Or.inr (Or.inl rfl)) (fun z => u1 x z)) a1 (by omega) hT245 (by omega)
              have f49b : S245.1 49 = S1.1 49 := (hsm245.1 49 (by decide)).trans f49'
              have hsm9 : rSm S S245 [49, 51] [48, 50] [] := ((hsm2.tr (hsm204.mono (by decide) (by decide) (by decide))).sa (by decide)).sp (by decide) |>.tr (hsm245.mono (by decide) (by decide) (by decide))
              have f48b : S245.2.1 48 = S1.2.1 48 := (hsm245.2.1 48 (by decide)).trans (hsm204.2.1 48 (by decide))
              refine nx S245 Q3 _ _ ⟨hsm9, hT245, v1, by omega, out, by rw [f49b, f48b]; exact hP, ?_⟩ (hdec _ (by omega)) _ hR hX
              have u5 : flT dn Q1 = brk (decide ((dn (gd (S.2.1 14) e)).1 ≤ 1)) (dn (gd (S.2.1 14) e)).2.2 ++ flT dn Q := u4.trans (congrArg (fun z => brk z (dn (gd (S.2.1 14) e)).2.2 ++ flT dn Q) (decide_eq_decide.mpr (by omega)))
              have v5 : flT dn Q3 = brk (decide ((dn (gd (S.2.1 13) e)).1 < 1)) (dn (gd (S.2.1 13) e)).2.2 ++ flT dn (-3 :: Q1) := v4.trans (congrArg (fun z => brk z (dn (gd (S.2.1 13) e)).2.2 ++ flT dn (-3 :: Q1)) (decide_eq_decide.mpr (by omega)))
              rw [v5, show flT dn (-3 :: Q1) = [32, 111, 114, 32] ++ flT dn Q1 from rfl, u5, ← hout', hde]
              simp only [List.append_assoc]
            · refine x_aload_n d_Mo_print_184 rfl rfl ?_
              refine x_get xf_Mo_36_Mo (Or.inl hR.1) (v := .ref (rf 12)) rfl d_Mo_print_185 ?_
              refine x_aload_n d_Mo_print_188 rfl rfl ?_
              refine x_get xf_Mo_42_Mo (Or.inl hR.1) (v := .ref (rf 14)) rfl d_Mo_print_189 ?_
              refine x_iload_n d_Mo_print_192 rfl ?_
              refine r_iald (i := 14) (us := (S1.2.1 14)) rfl (by decide) hR rfl (by omega) (by show e < 1152; omega) d_Mo_print_193 (fun hr193 => ?_)
              rw [g14]
              refine r_iald (i := 12) (us := (S1.2.1 12)) rfl (by decide) hR rfl (by omega) (by show gd (S.2.1 14) e < 1152; omega) d_Mo_print_194 (fun hr194 => ?_)
              rw [hsm.2.1 12 (by decide)] at *
              refine x_iload_n d_Mo_print_195 rfl ?_
              refine z_icmp_ne (tgt := 203) d_Mo_print_196 (by decide) (by omega) (by omega) (fun hc196 => ?_) (fun hc196 => ?_)
              · refine x_iconst (v := zI 0) d_Mo_print_203 (by decide) ?_
                refine x_callV (As := [_, _]) (k := k_MarkerTextModel) rfl xcv_Mo_376_Mo (Or.inl hR.1) (RM.ap hR (r_laterNode (S := sp S1 51 (S1.1 51 - 1)) (Q := Q) (by omega) (by omega) (by omega) hT2 (by omega))) rfl rfl (Nat.le_of_ble_eq_true rfl) d_Mo_print_204 ?_
                rintro v204 h cq nq ⟨S204, hR, hX204, rfl, rfl, rfl, hT204, hsm204⟩
                replace hX := hX.tr hX204
                obtain ⟨Q1, hT204, u1, u2, u3, u4⟩ := hln2 S204 Q _ _ hQ' r1 (by omega) hT204 (by omega)
                have l50' : (S204.2.1 50).length = 600 := hR.len 50 (by decide)
                have g12' : S204.2.1 12 = S.2.1 12 := (hsm204.2.1 12 (by decide)).trans (hsm.2.1 12 (by decide))
                have g13' : S204.2.1 13 = S.2.1 13 := (hsm204.2.1 13 (by decide)).trans (hsm.2.1 13 (by decide))
                have f49' : S204.1 49 = S1.1 49 := hsm204.1 49 (by decide)
                have e51b := hT204.2
                refine x_aload_n d_Mo_print_207 rfl rfl ?_
                refine x_iload_n d_Mo_print_208 rfl ?_
                refine z_ineg d_Mo_print_209 ?_
                have hT5 := toDo.psh (v := -3) (h := H0) hT204 l50' (by omega)
                refine x_callV (As := [_]) (k := k_MarkerTextModel) rfl xcv_Mo_364_Mo (Or.inl hR.1) (RM.ap hR (r_later (S := S204) (by decide) (by omega))) rfl rfl (Nat.le_of_ble_eq_true rfl) d_Mo_print_210 ?_
                rintro v210 h cq nq ⟨S210, hR, hX210, rfl, rfl, rfl, rfl⟩
                replace hX := hX.tr hX210
                refine x_aload_n d_Mo_print_213 rfl rfl ?_
                refine x_aload_n d_Mo_print_214 rfl rfl ?_
                refine x_get xf_Mo_39_Mo (Or.inl hR.1) (v := .ref (rf 13)) rfl d_Mo_print_215 ?_
                refine x_iload_n d_Mo_print_218 rfl ?_
                refine r_iald (i := 13) (us := (S204.2.1 13)) rfl (by decide) hR rfl (by omega) (by show e < 1152; omega) d_Mo_print_219 (fun hr219 => ?_)
                rw [g13']
                refine x_iload_n d_Mo_print_220 rfl ?_
                refine x_iconst (v := zI 2) d_Mo_print_221 (by decide) ?_
                refine z_icmp_ne (tgt := 244) d_Mo_print_222 (by decide) (by omega) (by omega) (fun _ => ?_) (fun hq => by omega)
                refine x_iconst (v := zI 0) d_Mo_print_244 (by decide) ?_
                refine x_callV (As := [_, _]) (k := k_MarkerTextModel) rfl xcv_Mo_376_Mo (Or.inl hR.1) (RM.ap hR (r_laterNode (S := sp (sa S204 50 (se (S204.2.1 50) (S204.1 51) (-3))) 51 (S204.1 51 + 1)) (Q := -3 :: Q1) (by omega) (by omega) (by omega) hT5 (by simp; omega))) rfl rfl (Nat.le_of_ble_eq_true rfl) d_Mo_print_245 ?_
                rintro v245 h cq nq ⟨S245, hR, hX245, rfl, rfl, rfl, hT245, hsm245⟩
                replace hX := hX.tr hX245
                refine x_goto (tgt := 20) d_Mo_print_248 (by decide) ?_
                have hz : wsm (ew w) (-3 :: Q1) = 4 + wsm (ew w) Q1 := rfl
                obtain ⟨Q3, hT245, v1, v2, v3, v4⟩ := hln2 S245 (-3 :: Q1) _ _ (fun x hx => (List.mem_cons.mp hx).elim (fun z => by rw [z]; exact Or.inr (Or.inl rfl)) (fun z => u1 x z)) a1 (by omega) hT245 (by omega)
                have f49b : S245.1 49 = S1.1 49 := (hsm245.1 49 (by decide)).trans f49'
                have hsm9 : rSm S S245 [49, 51] [48, 50] [] := ((hsm2.tr (hsm204.mono (by decide) (by decide) (by decide))).sa (by decide)).sp (by decide) |>.tr (hsm245.mono (by decide) (by decide) (by decide))
                have f48b : S245.2.1 48 = S1.2.1 48 := (hsm245.2.1 48 (by decide)).trans (hsm204.2.1 48 (by decide))
                refine nx S245 Q3 _ _ ⟨hsm9, hT245, v1, by omega, out, by rw [f49b, f48b]; exact hP, ?_⟩ (hdec _ (by omega)) _ hR hX
                have u5 : flT dn Q1 = brk (decide ((dn (gd (S.2.1 14) e)).1 ≤ 1)) (dn (gd (S.2.1 14) e)).2.2 ++ flT dn Q := u4.trans (congrArg (fun z => brk z (dn (gd (S.2.1 14) e)).2.2 ++ flT dn Q) (decide_eq_decide.mpr (by omega)))
                have v5 : flT dn Q3 = brk (decide ((dn (gd (S.2.1 13) e)).1 < 1)) (dn (gd (S.2.1 13) e)).2.2 ++ flT dn (-3 :: Q1) := v4.trans (congrArg (fun z => brk z (dn (gd (S.2.1 13) e)).2.2 ++ flT dn (-3 :: Q1)) (decide_eq_decide.mpr (by omega)))
                rw [v5, show flT dn (-3 :: Q1) = [32, 111, 114, 32] ++ flT dn Q1 from rfl, u5, ← hout', hde]
                simp only [List.append_assoc]
              · refine x_iconst (v := zI 1) d_Mo_print_199 (by decide) ?_
                refine x_goto (tgt := 204) d_Mo_print_200 (by decide) ?_
                refine x_callV (As := [_, _]) (k := k_MarkerTextModel) rfl xcv_Mo_376_Mo (Or.inl hR.1) (RM.ap hR (r_laterNode (S := sp S1 51 (S1.1 51 - 1)) (Q := Q) (by omega) (by omega) (by omega) hT2 (by omega))) rfl rfl (Nat.le_of_ble_eq_true rfl) d_Mo_print_204 ?_
                rintro v204 h cq nq ⟨S204, hR, hX204, rfl, rfl, rfl, hT204, hsm204⟩
                replace hX := hX.tr hX204
                obtain ⟨Q1, hT204, u1, u2, u3, u4⟩ := hln2 S204 Q _ _ hQ' r1 (by omega) hT204 (by omega)
                have l50' : (S204.2.1 50).length = 600 := hR.len 50 (by decide)
                have g12' : S204.2.1 12 = S.2.1 12 := (hsm204.2.1 12 (by decide)).trans (hsm.2.1 12 (by decide))
                have g13' : S204.2.1 13 = S.2.1 13 := (hsm204.2.1 13 (by decide)).trans (hsm.2.1 13 (by decide))
                have f49' : S204.1 49 = S1.1 49 := hsm204.1 49 (by decide)
                have e51b := hT204.2
                refine x_aload_n d_Mo_print_207 rfl rfl ?_
                refine x_iload_n d_Mo_print_208 rfl ?_
                refine z_ineg d_Mo_print_209 ?_
                have hT5 := toDo.psh (v := -3) (h := H0) hT204 l50' (by omega)
                refine x_callV (As := [_]) (k := k_MarkerTextModel) rfl xcv_Mo_364_Mo (Or.inl hR.1) (RM.ap hR (r_later (S := S204) (by decide) (by omega))) rfl rfl (Nat.le_of_ble_eq_true rfl) d_Mo_print_210 ?_
                rintro v210 h cq nq ⟨S210, hR, hX210, rfl, rfl, rfl, rfl⟩
                replace hX := hX.tr hX210
                refine x_aload_n d_Mo_print_213 rfl rfl ?_
                refine x_aload_n d_Mo_print_214 rfl rfl ?_
                refine x_get xf_Mo_39_Mo (Or.inl hR.1) (v := .ref (rf 13)) rfl d_Mo_print_215 ?_
                refine x_iload_n d_Mo_print_218 rfl ?_
                refine r_iald (i := 13) (us := (S204.2.1 13)) rfl (by decide) hR rfl (by omega) (by show e < 1152; omega) d_Mo_print_219 (fun hr219 => ?_)
                rw [g13']
                refine x_iload_n d_Mo_print_220 rfl ?_
                refine x_iconst (v := zI 2) d_Mo_print_221 (by decide) ?_
                refine z_icmp_ne (tgt := 244) d_Mo_print_222 (by decide) (by omega) (by omega) (fun _ => ?_) (fun hq => by omega)
                refine x_iconst (v := zI 0) d_Mo_print_244 (by decide) ?_
                refine x_callV (As := [_, _]) (k := k_MarkerTextModel) rfl xcv_Mo_376_Mo (Or.inl hR.1) (RM.ap hR (r_laterNode (S := sp (sa S204 50 (se (S204.2.1 50) (S204.1 51) (-3))) 51 (S204.1 51 + 1)) (Q := -3 :: Q1) (by omega) (by omega) (by omega) hT5 (by simp; omega))) rfl rfl (Nat.le_of_ble_eq_true rfl) d_Mo_print_245 ?_
                rintro v245 h cq nq ⟨S245, hR, hX245, rfl, rfl, rfl, hT245, hsm245⟩
                replace hX := hX.tr hX245
                refine x_goto (tgt := 20) d_Mo_print_248 (by decide) ?_
                have hz : wsm (ew w) (-3 :: Q1) = 4 + wsm (ew w) Q1 := rfl
                obtain ⟨Q3, hT245, v1, v2, v3, v4⟩ := hln2 S245 (-3 :: Q1) _ _ (fun x hx => (List.mem_cons.mp hx).elim (fun z => by rw [z]; exact Or.inr (Or.inl rfl)) (fun z => u1 x z)) a1 (by omega) hT245 (by omega)
                have f49b : S245.1 49 = S1.1 49 := (hsm245.1 49 (by decide)).trans f49'
                have hsm9 : rSm S S245 [49, 51] [48, 50] [] := ((hsm2.tr (hsm204.mono (by decide) (by decide) (by decide))).sa (by decide)).sp (by decide) |>.tr (hsm245.mono (by decide) (by decide) (by decide))
                have f48b : S245.2.1 48 = S1.2.1 48 := (hsm245.2.1 48 (by decide)).trans (hsm204.2.1 48 (by decide))
                refine nx S245 Q3 _ _ ⟨hsm9, hT245, v1, by omega, out, by rw [f49b, f48b]; exact hP, ?_⟩ (hdec _ (by omega)) _ hR hX
                have u5 : flT dn Q1 = brk (decide ((dn (gd (S.2.1 14) e)).1 ≤ 1)) (dn (gd (S.2.1 14) e)).2.2 ++ flT dn Q := u4.trans (congrArg (fun z => brk z (dn (gd (S.2.1 14) e)).2.2 ++ flT dn Q) (decide_eq_decide.mpr (by omega)))
                have v5 : flT dn Q3 = brk (decide ((dn (gd (S.2.1 13) e)).1 < 1)) (dn (gd (S.2.1 13) e)).2.2 ++ flT dn (-3 :: Q1) := v4.trans (congrArg (fun z => brk z (dn (gd (S.2.1 13) e)).2.2 ++ flT dn (-3 :: Q1)) (decide_eq_decide.mpr (by omega)))
                rw [v5, show flT dn (-3 :: Q1) = [32, 111, 114, 32] ++ flT dn Q1 from rfl, u5, ← hout', hde]
                simp only [List.append_assoc]
  have lp : ∀ (K : Nat) (S1 : MS) (Q : List Int) (w2 w3 : Option Value), pnX S S1 s w dn T Q → wsm (ew w) Q ≤ K → RX l G M_Mo_print (d + 1) 20 [some (.ref o), some (.int (zI s)), w2, w3] [] H0 o rf c n S1 (pnXQ S T) := by
    intro K
    induction K with
    | zero =>
      intro S1 Q w2 w3 hL hK
      exact bd S1 Q w2 w3 hL (fun S2 Q2 _ _ hL2 hlt => by have := ewq Q2 hL2.2.2.1; omega)
    | succ K ih =>
      intro S1 Q w2 w3 hL hK
      exact bd S1 Q w2 w3 hL (fun S2 Q2 w2 w3 hL2 hlt => ih S2 Q2 w2 w3 hL2 (by omega))
  refine x_aload_n d_Mo_print_0 rfl rfl ?_
  refine x_iconst (v := zI 0) d_Mo_print_1 (by decide) ?_
  refine r_put xf_Mo_323_Mo xp_Mo_49 hR hX (by omega) rfl rfl d_Mo_print_2 ?_
  intro h hR hX
  refine x_aload_n d_Mo_print_5 rfl rfl ?_
  refine x_iconst (v := zI 0) d_Mo_print_6 (by decide) ?_
  refine r_put xf_Mo_361_Mo xp_Mo_51 hR hX (by omega) rfl rfl d_Mo_print_7 ?_
  intro h hR hX
  refine x_aload_n d_Mo_print_10 rfl rfl ?_
  refine x_aload_n d_Mo_print_11 rfl rfl ?_
  refine x_get xf_Mo_48_Mo (Or.inl hR.1) (v := .ref (rf 16)) rfl d_Mo_print_12 ?_
  refine x_iload_n d_Mo_print_15 rfl ?_
  refine r_iald (i := 16) (us := (S.2.1 16)) rfl (by decide) hR rfl (by omega) (by show s < 9; omega) d_Mo_print_16 (fun hr16 => ?_)
  refine x_callV (As := [_]) (k := k_MarkerTextModel) rfl xcv_Mo_364_Mo (Or.inl hR.1) (RM.ap hR (r_later (S := sp (sp S 49 0) 51 0) (by omega) (by show (0 : Int) ≤ 0 ∧ (0 : Int) < 600; omega))) rfl rfl (Nat.le_of_ble_eq_true rfl) d_Mo_print_17 ?_
  rintro v17 h cq nq ⟨S17, hR, hX17, rfl, rfl, rfl, rfl⟩
  replace hX := hX.tr hX17
  have hTD : toDo (sp (sp S 49 0) 51 0) [] := ⟨trivial, rfl⟩
  have hT1 := toDo.psh (v := gd (S.2.1 16) s) (h := H0) hTD l50 (by simp)
  refine lp 560 _ [gd (S.2.1 16) s] _ _ ⟨(((rSm.r0.sp (by decide)).sp (by decide)).sa (by decide)).sp (by decide), hT1, fun x hx => ?_, ?_, [], ⟨l48, rfl, fun i hi => absurd hi (Nat.not_lt_zero _)⟩, ?_⟩ ?_ _ hR hX
  · rw [List.mem_singleton] at hx
    rw [hx]
    exact Or.inr (Or.inr (Or.inr (Or.inr ⟨q1, q2⟩)))
  · show ew w (gd (S.2.1 16) s) + 0 ≤ 560
    rw [ewn _ q1]; omega
  · show [] ++ (tok dn (gd (S.2.1 16) s) ++ []) = T
    rw [tok_n (by omega), hT0, List.append_nil, List.nil_append]
  · show ew w (gd (S.2.1 16) s) + 0 ≤ _
    rw [ewn _ q1]; omega
theorem r_printedX {k i : Int} {Ns : List NmT} {Cs : List CnT} {il : Option Nat} (hd : 4 ≤ d) (hk : inR k) (hi : inR i) (hN : nmR Ns S) (h6 : Ns.length ≤ 6) (hC : csOk S) (hQ : cqR Ns Cs il S) (hlen : ∀ x ∈ Cs, x.1.2.2.length ≤ 560) : RM l G d M_Mo_printed [.ref o, .int (zI k), .int (zI i)] o rf S (fun v S' => v = some (.int (nI (prt Cs (zI k) (zI i)))) ∧ rSm S S' [0, 49, 51] [48, 50] []) := by
  obtain ⟨d, rfl⟩ : ∃ q, d = q + 1 := ⟨d - 1, by omega⟩
  intro H0 c n hR
  refine XM.of (by decide +kernel) (Nat.le_of_ble_eq_true rfl) ?_
  have hX : xonly H0 H0 RKs := xonly.rf
  obtain ⟨k1, k2, k3⟩ := id hC
  obtain ⟨c1, c2, c3, c4⟩ := hQ
  have z0' : nI 0 = zI 0 := rfl
  by_cases hkc : 0 ≤ k ∧ k < Cs.length
  · obtain ⟨x, hx⟩ : ∃ x, Cs[k.toNat]? = some x := ⟨_, List.getElem?_eq_getElem (by omega)⟩
    have hcd := c4 _ x hx
    rw [show ((k.toNat : Nat) : Int) = k by omega] at hcd
    obtain ⟨dn, tx, hsl, hDx, -, -⟩ := hcd
    have hlx := hlen x (List.mem_of_getElem? hx)
    have hpr : prt Cs (zI k) (zI i) = if i < 0 then 0 else x.1.2.2.getD i.toNat 0 := by
      unfold prt
      rw [iAt_z hk, if_neg (by omega), hx]
      show (iAt (zI i) x.1.2.2).getD 0 = _
      rw [iAt_z hi]
      by_cases hz : i < 0
      · rw [if_pos hz, if_pos hz]; rfl
      · rw [if_neg hz, if_neg hz, List.getD_eq_getElem?_getD]
    by_cases hi0 : 0 ≤ i
    · rw [if_neg (by omega)] at hpr
      have hPX := r_printX (l := l) (G := G) (o := o) (rf := rf) (d := d) (S := sp S 0 0) (s := k) (T := x.1.2.2) (by omega) (by omega) hN h6 (k3 k (by omega) (by omega)) (hsl.sm (js := [0]) (is := []) (ls := []) (rSm.r0.sp (by decide)) (by decide) (by decide) (by decide)) (by rw [hDx]) (by omega)
      refine x_aload_n d_Mo_printed_0 rfl rfl ?_
      refine x_iconst (v := zI 0) d_Mo_printed_1 (by decide) ?_
      refine r_put xf_Mo_121_Mo xp_Mo_0 hR hX (by omega) rfl rfl d_Mo_printed_2 ?_
      intro h hR hX
      refine x_aload_n d_Mo_printed_5 rfl rfl ?_
      refine x_iload_n d_Mo_printed_6 rfl ?_
      refine x_callV (As := [_]) (k := k_MarkerTextModel) rfl xcv_Mo_281_Mo (Or.inl hR.1) (RM.ap hR (r_isCondition (by omega) hk (by exact k1))) rfl rfl (Nat.le_of_ble_eq_true rfl) d_Mo_printed_7 ?_
      rintro v7 h cq nq ⟨S7, hR, hX7, rfl, rfl, hE7, r7, rfl, hr7⟩
      replace hE7 := Eq.symm hE7
      subst hE7
      replace hX := hX.tr hX7
      replace hr7 : (r7 = 1 ∧ (0 ≤ k ∧ k ≤ S.1 11 - 1)) ∨ (r7 = 0 ∧ ¬ (0 ≤ k ∧ k ≤ S.1 11 - 1)) := hr7
      refine z_if_eq (tgt := 17) d_Mo_printed_10 (by decide) (by omega) (fun hq => by omega) (fun _ => ?_)
      refine x_iload_n d_Mo_printed_13 rfl ?_
      refine z_if_ge (tgt := 19) d_Mo_printed_14 (by decide) (by omega) (fun _ => ?_) (fun hq => by omega)
      refine x_aload_n d_Mo_printed_19 rfl rfl ?_
      refine x_iload_n d_Mo_printed_20 rfl ?_
      refine x_callV (As := [_]) (k := k_MarkerTextModel) rfl xcv_Mo_380_Mo (Or.inl hR.1) (RM.ap hR hPX) rfl rfl (Nat.le_of_ble_eq_true rfl) d_Mo_printed_21 ?_
      rintro v21 h cq nq ⟨S21, hR, hX21, rfl, rfl, rfl, hsm21, hp21⟩
      replace hX := hX.tr hX21
      have hp49 := hp21.2.1
      refine x_iload_n d_Mo_printed_24 rfl ?_
      refine x_aload_n d_Mo_printed_25 rfl rfl ?_
      refine x_get xf_Mo_323_Mo (Or.inl hR.1) (v := .int (zI (S21.1 49))) rfl d_Mo_printed_26 ?_
      have hb26 : inR (S21.1 49) := hR.2.2.2 49
      refine z_icmp_ge (tgt := 41) d_Mo_printed_29 (by decide) (by omega) (by omega) (fun hc29 => ?_) (fun hc29 => ?_)
      · refine x_iconst (v := zI 0) d_Mo_printed_41 (by decide) ?_
        refine x_iret d_Mo_printed_42 rfl ?_
        refine ⟨_, hR, hX, rfl, rfl, ?_, (rSm.r0.sp (by decide)).tr (hsm21.mono (by decide) (by decide) (by decide))⟩
        rw [hpr]
        first | (have h1 := hp21.2.2 i.toNat (by omega); rw [show ((i.toNat : Nat) : Int) = i by omega] at h1; have h2 := ((hR.2.1 48 (by decide)).2.2 _ (gd_mem (us := S21.2.1 48) (e := i) (by omega) (by have := hp21.1; omega))).1; rw [h1] at h2 ⊢; rw [zI_nI (by have := h2.2; omega)]) | (rw [List.getD_eq_getElem?_getD, List.getElem?_eq_none (by omega)]; rfl)
      · refine x_aload_n d_Mo_printed_32 rfl rfl ?_
        refine x_get xf_Mo_115_Mo (Or.inl hR.1) (v := .ref (rf 48)) rfl d_Mo_printed_33 ?_
        refine x_iload_n d_Mo_printed_36 rfl ?_
        refine r_iald (i := 48) (us := (S21.2.1 48)) rfl (by decide) hR rfl (by omega) (by show i < 1000; omega) d_Mo_printed_37 (fun hr37 => ?_)
        refine x_goto (tgt := 42) d_Mo_printed_38 (by decide) ?_
        refine x_iret d_Mo_printed_42 rfl ?_
        refine ⟨_, hR, hX, rfl, rfl, ?_, (rSm.r0.sp (by decide)).tr (hsm21.mono (by decide) (by decide) (by decide))⟩
        rw [hpr]
        first | (have h1 := hp21.2.2 i.toNat (by omega); rw [show ((i.toNat : Nat) : Int) = i by omega] at h1; have h2 := ((hR.2.1 48 (by decide)).2.2 _ (gd_mem (us := S21.2.1 48) (e := i) (by omega) (by have := hp21.1; omega))).1; rw [h1] at h2 ⊢; rw [zI_nI (by have := h2.2; omega)]) | (rw [List.getD_eq_getElem?_getD, List.getElem?_eq_none (by omega)]; rfl)
    · rw [if_pos (by omega)] at hpr
      refine x_aload_n d_Mo_printed_0 rfl rfl ?_
      refine x_iconst (v := zI 0) d_Mo_printed_1 (by decide) ?_
      refine r_put xf_Mo_121_Mo xp_Mo_0 hR hX (by omega) rfl rfl d_Mo_printed_2 ?_
      intro h hR hX
      refine x_aload_n d_Mo_printed_5 rfl rfl ?_
      refine x_iload_n d_Mo_printed_6 rfl ?_
      refine x_callV (As := [_]) (k := k_MarkerTextModel) rfl xcv_Mo_281_Mo (Or.inl hR.1) (RM.ap hR (r_isCondition (by omega) hk (by exact k1))) rfl rfl (Nat.le_of_ble_eq_true rfl) d_Mo_printed_7 ?_
      rintro v7 h cq nq ⟨S7, hR, hX7, rfl, rfl, hE7, r7, rfl, hr7⟩
      replace hE7 := Eq.symm hE7
      subst hE7
      replace hX := hX.tr hX7
      replace hr7 : (r7 = 1 ∧ (0 ≤ k ∧ k ≤ S.1 11 - 1)) ∨ (r7 = 0 ∧ ¬ (0 ≤ k ∧ k ≤ S.1 11 - 1)) := hr7
      refine z_if_eq (tgt := 17) d_Mo_printed_10 (by decide) (by omega) (fun hq => by omega) (fun _ => ?_)
      refine x_iload_n d_Mo_printed_13 rfl ?_
      refine z_if_ge (tgt := 19) d_Mo_printed_14 (by decide) (by omega) (fun hq => by omega) (fun _ => ?_)
      refine x_iconst (v := zI 0) d_Mo_printed_17 (by decide) ?_
      refine x_iret d_Mo_printed_18 rfl ?_
      exact ⟨_, hR, hX, rfl, rfl, by rw [hpr]; rfl, rSm.r0.sp (by decide)⟩
  · have hpr : prt Cs (zI k) (zI i) = 0 := by
      unfold prt
      rw [iAt_z hk]
      by_cases h0 : k < 0
      · rw [if_pos h0]
      · rw [if_neg h0, List.getElem?_eq_none (by omega)]
    refine x_aload_n d_Mo_printed_0 rfl rfl ?_
    refine x_iconst (v := zI 0) d_Mo_printed_1 (by decide) ?_
    refine r_put xf_Mo_121_Mo xp_Mo_0 hR hX (by omega) rfl rfl d_Mo_printed_2 ?_
    intro h hR hX
    refine x_aload_n d_Mo_printed_5 rfl rfl ?_
    refine x_iload_n d_Mo_printed_6 rfl ?_
    refine x_callV (As := [_]) (k := k_MarkerTextModel) rfl xcv_Mo_281_Mo (Or.inl hR.1) (RM.ap hR (r_isCondition (by omega) hk (by exact k1))) rfl rfl (Nat.le_of_ble_eq_true rfl) d_Mo_printed_7 ?_
    rintro v7 h cq nq ⟨S7, hR, hX7, rfl, rfl, hE7, r7, rfl, hr7⟩
    replace hE7 := Eq.symm hE7
    subst hE7
    replace hX := hX.tr hX7
    replace hr7 : (r7 = 1 ∧ (0 ≤ k ∧ k ≤ S.1 11 - 1)) ∨ (r7 = 0 ∧ ¬ (0 ≤ k ∧ k ≤ S.1 11 - 1)) := hr7
    refine z_if_eq (tgt := 17) d_Mo_printed_10 (by decide) (by omega) (fun _ => ?_) (fun hq => by omega)
    refine x_iconst (v := zI 0) d_Mo_printed_17 (by decide) ?_
    refine x_iret d_Mo_printed_18 rfl ?_
    exact ⟨_, hR, hX, rfl, rfl, by rw [hpr]; rfl, rSm.r0.sp (by decide)⟩
end RH15
