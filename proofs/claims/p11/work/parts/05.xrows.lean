section XR
variable {l : Launch} {G : XG} {M : XMt} {d pc : Nat} {L : List (Option Value)} {rest : List Value} {h : XH} {c n : Nat} {P : XPo}
theorem x_iconst {i : Int} {v : Int32} (hd : decode M.2.1 pc = .ok (.iconst i, 1)) (hv : Int32.ofInt i = v) (k : XX l G M d (pc + 1) L (.int v :: rest) h c n P) : XX l G M d pc L (rest) h c n P := by
  intro p e R s m args below meth cd H locs cells slots ls hF hR hl hL hV hS hN
  exact lv_iconst hF.1 hF.2.1 hd hv (k p e R s m args below meth cd H locs cells slots ls hF hR hl hL hV hS hN)
theorem x_bipush {i : Int} {v : Int32} (hd : decode M.2.1 pc = .ok (.bipush i, 2)) (hv : (Int8.ofInt i).toInt32 = v) (k : XX l G M d (pc + 2) L (.int v :: rest) h c n P) : XX l G M d pc L (rest) h c n P := by
  intro p e R s m args below meth cd H locs cells slots ls hF hR hl hL hV hS hN
  exact lv_bipush hF.1 hF.2.1 hd hv (k p e R s m args below meth cd H locs cells slots ls hF hR hl hL hV hS hN)
theorem x_sipush {i : Int} {v : Int32} (hd : decode M.2.1 pc = .ok (.sipush i, 3)) (hv : (Int16.ofInt i).toInt32 = v) (k : XX l G M d (pc + 3) L (.int v :: rest) h c n P) : XX l G M d pc L (rest) h c n P := by
  intro p e R s m args below meth cd H locs cells slots ls hF hR hl hL hV hS hN
  exact lv_sipush hF.1 hF.2.1 hd hv (k p e R s m args below meth cd H locs cells slots ls hF hR hl hL hV hS hN)
theorem x_lconst {i : Fin 2} {v : Int64} (hd : decode M.2.1 pc = .ok (.lconst i, 1)) (hv : Int64.ofNat (i : Nat) = v) (k : XX l G M d (pc + 1) L (.long v :: rest) h c n P) : XX l G M d pc L (rest) h c n P := by
  intro p e R s m args below meth cd H locs cells slots ls hF hR hl hL hV hS hN
  exact lv_lconst hF.1 hF.2.1 hd hv (k p e R s m args below meth cd H locs cells slots ls hF hR hl hL hV hS hN)
theorem x_null  (hd : decode M.2.1 pc = .ok (.aconst_null, 1)) (k : XX l G M d (pc + 1) L (.null :: rest) h c n P) : XX l G M d pc L (rest) h c n P := by
  intro p e R s m args below meth cd H locs cells slots ls hF hR hl hL hV hS hN
  exact lv_null hF.1 hF.2.1 hd (k p e R s m args below meth cd H locs cells slots ls hF hR hl hL hV hS hN)
theorem x_iload_n {q : Fin 4} {x : Int32} (hd : decode M.2.1 pc = .ok (.iload_n q, 1)) (hx : L[(q : Nat)]? = some (some (.int x))) (k : XX l G M d (pc + 1) L (.int x :: rest) h c n P) : XX l G M d pc L (rest) h c n P := by
  intro p e R s m args below meth cd H locs cells slots ls hF hR hl hL hV hS hN
  exact lv_iload_n hF.1 hF.2.1 hd rfl (hl.at hx) (k p e R s m args below meth cd H locs cells slots ls hF hR hl hL hV hS hN)
theorem x_iload {q : Nat} {x : Int32} (hd : decode M.2.1 pc = .ok (.iload q, 2)) (hx : L[q]? = some (some (.int x))) (k : XX l G M d (pc + 2) L (.int x :: rest) h c n P) : XX l G M d pc L (rest) h c n P := by
  intro p e R s m args below meth cd H locs cells slots ls hF hR hl hL hV hS hN
  exact lv_iload hF.1 hF.2.1 hd (hl.at hx) (k p e R s m args below meth cd H locs cells slots ls hF hR hl hL hV hS hN)
theorem x_lload_n {q : Fin 4} {x : Int64} (hd : decode M.2.1 pc = .ok (.lload_n q, 1)) (hx : L[(q : Nat)]? = some (some (.long x))) (k : XX l G M d (pc + 1) L (.long x :: rest) h c n P) : XX l G M d pc L (rest) h c n P := by
  intro p e R s m args below meth cd H locs cells slots ls hF hR hl hL hV hS hN
  exact lv_lload_n hF.1 hF.2.1 hd rfl (hl.at hx) (k p e R s m args below meth cd H locs cells slots ls hF hR hl hL hV hS hN)
theorem x_lload {q : Nat} {x : Int64} (hd : decode M.2.1 pc = .ok (.lload q, 2)) (hx : L[q]? = some (some (.long x))) (k : XX l G M d (pc + 2) L (.long x :: rest) h c n P) : XX l G M d pc L (rest) h c n P := by
  intro p e R s m args below meth cd H locs cells slots ls hF hR hl hL hV hS hN
  exact lv_lload hF.1 hF.2.1 hd (hl.at hx) (k p e R s m args below meth cd H locs cells slots ls hF hR hl hL hV hS hN)
theorem x_aload_n {q : Fin 4} {v : Value} (hd : decode M.2.1 pc = .ok (.aload_n q, 1)) (hx : L[(q : Nat)]? = some (some v)) (hv : xisr v = true) (k : XX l G M d (pc + 1) L (v :: rest) h c n P) : XX l G M d pc L (rest) h c n P := by
  intro p e R s m args below meth cd H locs cells slots ls hF hR hl hL hV hS hN
  rcases xisr_or hv with rfl | ⟨a, rfl⟩
  · exact lv_aload_nN hF.1 hF.2.1 hd rfl (hl.at hx) (k p e R s m args below meth cd H locs cells slots ls hF hR hl hL hV hS hN)
  · exact lv_aload_n hF.1 hF.2.1 hd rfl (hl.at hx) (k p e R s m args below meth cd H locs cells slots ls hF hR hl hL hV hS hN)
theorem x_aload {q : Nat} {v : Value} (hd : decode M.2.1 pc = .ok (.aload q, 2)) (hx : L[q]? = some (some v)) (hv : xisr v = true) (k : XX l G M d (pc + 2) L (v :: rest) h c n P) : XX l G M d pc L (rest) h c n P := by
  intro p e R s m args below meth cd H locs cells slots ls hF hR hl hL hV hS hN
  rcases xisr_or hv with rfl | ⟨a, rfl⟩
  · exact lv_aloadN hF.1 hF.2.1 hd (hl.at hx) (k p e R s m args below meth cd H locs cells slots ls hF hR hl hL hV hS hN)
  · exact lv_aload hF.1 hF.2.1 hd (hl.at hx) (k p e R s m args below meth cd H locs cells slots ls hF hR hl hL hV hS hN)
theorem x_istore_n {q : Fin 4} {x : Int32} {L' : List (Option Value)} (hd : decode M.2.1 pc = .ok (.istore_n q, 1)) (hq : Nat.blt (q : Nat) L.length = true) (hL' : xset1 L (q : Nat) (.int x) = L') (k : XX l G M d (pc + 1) L' (rest) h c n P) : XX l G M d pc L (.int x :: rest) h c n P := by
  intro p e R s m args below meth cd H locs cells slots ls hF hR hl hL hV hS hN
  subst hL'
  refine lv_istore_n hF.1 hF.2.1 hd rfl hl (Nat.le_of_ble_eq_true hq) rfl (fun ls' hl' => ?_)
  exact k p e R s m args below meth cd H locs cells slots ls' hF hR (xlr.st1 hl') (by simp [xset2, xset1_len, hL]) hV hS hN
theorem x_istore {q : Nat} {x : Int32} {L' : List (Option Value)} (hd : decode M.2.1 pc = .ok (.istore q, 2)) (hq : Nat.blt (q : Nat) L.length = true) (hL' : xset1 L (q : Nat) (.int x) = L') (k : XX l G M d (pc + 2) L' (rest) h c n P) : XX l G M d pc L (.int x :: rest) h c n P := by
  intro p e R s m args below meth cd H locs cells slots ls hF hR hl hL hV hS hN
  subst hL'
  refine lv_istore hF.1 hF.2.1 hd hl (Nat.le_of_ble_eq_true hq) rfl (fun ls' hl' => ?_)
  exact k p e R s m args below meth cd H locs cells slots ls' hF hR (xlr.st1 hl') (by simp [xset2, xset1_len, hL]) hV hS hN
theorem x_lstore_n {q : Fin 4} {x : Int64} {L' : List (Option Value)} (hd : decode M.2.1 pc = .ok (.lstore_n q, 1)) (hq : Nat.blt ((q : Nat) + 1) L.length = true) (hL' : xset2 L (q : Nat) (.long x) = L') (k : XX l G M d (pc + 1) L' (rest) h c n P) : XX l G M d pc L (.long x :: rest) h c n P := by
  intro p e R s m args below meth cd H locs cells slots ls hF hR hl hL hV hS hN
  subst hL'
  refine lv_lstore_n hF.1 hF.2.1 hd rfl hl (Nat.le_of_ble_eq_true hq) rfl (fun ls' hl' => ?_)
  exact k p e R s m args below meth cd H locs cells slots ls' hF hR (xlr.st2 hl') (by simp [xset2, xset1_len, hL]) hV hS hN
theorem x_lstore {q : Nat} {x : Int64} {L' : List (Option Value)} (hd : decode M.2.1 pc = .ok (.lstore q, 2)) (hq : Nat.blt ((q : Nat) + 1) L.length = true) (hL' : xset2 L (q : Nat) (.long x) = L') (k : XX l G M d (pc + 2) L' (rest) h c n P) : XX l G M d pc L (.long x :: rest) h c n P := by
  intro p e R s m args below meth cd H locs cells slots ls hF hR hl hL hV hS hN
  subst hL'
  refine lv_lstore hF.1 hF.2.1 hd hl (Nat.le_of_ble_eq_true hq) rfl (fun ls' hl' => ?_)
  exact k p e R s m args below meth cd H locs cells slots ls' hF hR (xlr.st2 hl') (by simp [xset2, xset1_len, hL]) hV hS hN
theorem x_astore_n {q : Fin 4} {v : Value} {L' : List (Option Value)} (hd : decode M.2.1 pc = .ok (.astore_n q, 1)) (hv : xisr v = true) (hq : Nat.blt (q : Nat) L.length = true) (hL' : xset1 L (q : Nat) v = L') (k : XX l G M d (pc + 1) L' (rest) h c n P) : XX l G M d pc L (v :: rest) h c n P := by
  intro p e R s m args below meth cd H locs cells slots ls hF hR hl hL hV hS hN
  subst hL'
  rcases xisr_or hv with rfl | ⟨a, rfl⟩
  · refine lv_astore_nN hF.1 hF.2.1 hd rfl hl (Nat.le_of_ble_eq_true hq) rfl (fun ls' hl' => ?_)
    exact k p e R s m args below meth cd H locs cells slots ls' hF hR (xlr.st1 hl') (by simp [xset1_len, hL]) hV hS hN
  · refine lv_astore_n hF.1 hF.2.1 hd rfl hl (Nat.le_of_ble_eq_true hq) rfl (fun ls' hl' => ?_)
    exact k p e R s m args below meth cd H locs cells slots ls' hF hR (xlr.st1 hl') (by simp [xset1_len, hL]) hV hS hN
theorem x_astore {q : Nat} {v : Value} {L' : List (Option Value)} (hd : decode M.2.1 pc = .ok (.astore q, 2)) (hv : xisr v = true) (hq : Nat.blt (q : Nat) L.length = true) (hL' : xset1 L (q : Nat) v = L') (k : XX l G M d (pc + 2) L' (rest) h c n P) : XX l G M d pc L (v :: rest) h c n P := by
  intro p e R s m args below meth cd H locs cells slots ls hF hR hl hL hV hS hN
  subst hL'
  rcases xisr_or hv with rfl | ⟨a, rfl⟩
  · refine lv_astoreN hF.1 hF.2.1 hd hl (Nat.le_of_ble_eq_true hq) rfl (fun ls' hl' => ?_)
    exact k p e R s m args below meth cd H locs cells slots ls' hF hR (xlr.st1 hl') (by simp [xset1_len, hL]) hV hS hN
  · refine lv_astore hF.1 hF.2.1 hd hl (Nat.le_of_ble_eq_true hq) rfl (fun ls' hl' => ?_)
    exact k p e R s m args below meth cd H locs cells slots ls' hF hR (xlr.st1 hl') (by simp [xset1_len, hL]) hV hS hN
theorem x_iinc {q : Nat} {i : Int} {x v : Int32} {L' : List (Option Value)} (hd : decode M.2.1 pc = .ok (.iinc q i, 3)) (hx : L[q]? = some (some (.int x))) (hv : x + Int32.ofInt i = v) (hq : Nat.blt q L.length = true) (hL' : xset1 L q (.int v) = L') (k : XX l G M d (pc + 3) L' (rest) h c n P) : XX l G M d pc L (rest) h c n P := by
  intro p e R s m args below meth cd H locs cells slots ls hF hR hl hL hV hS hN
  subst hL'
  obtain ⟨j, hj⟩ := List.getElem?_of_mem (xpr_mem.mpr hx)
  refine lv_iinc hF.1 hF.2.1 hd hl hj hv (Nat.le_of_ble_eq_true hq) rfl (fun ls' hl' => ?_)
  exact k p e R s m args below meth cd H locs cells slots ls' hF hR (xlr.st1 hl') (by simp [xset1_len, hL]) hV hS hN
theorem x_iadd {x y : Int32} (hd : decode M.2.1 pc = .ok (.iadd, 1)) (k : XX l G M d (pc + 1) L (.int (x + y) :: rest) h c n P) : XX l G M d pc L (.int y :: .int x :: rest) h c n P := by
  intro p e R s m args below meth cd H locs cells slots ls hF hR hl hL hV hS hN
  exact lv_iadd hF.1 hF.2.1 hd (k p e R s m args below meth cd H locs cells slots ls hF hR hl hL hV hS hN)
theorem x_isub {x y : Int32} (hd : decode M.2.1 pc = .ok (.isub, 1)) (k : XX l G M d (pc + 1) L (.int (x - y) :: rest) h c n P) : XX l G M d pc L (.int y :: .int x :: rest) h c n P := by
  intro p e R s m args below meth cd H locs cells slots ls hF hR hl hL hV hS hN
  exact lv_isub hF.1 hF.2.1 hd (k p e R s m args below meth cd H locs cells slots ls hF hR hl hL hV hS hN)
theorem x_imul {x y : Int32} (hd : decode M.2.1 pc = .ok (.imul, 1)) (k : XX l G M d (pc + 1) L (.int (x * y) :: rest) h c n P) : XX l G M d pc L (.int y :: .int x :: rest) h c n P := by
  intro p e R s m args below meth cd H locs cells slots ls hF hR hl hL hV hS hN
  exact lv_imul hF.1 hF.2.1 hd (k p e R s m args below meth cd H locs cells slots ls hF hR hl hL hV hS hN)
theorem x_iand {x y : Int32} (hd : decode M.2.1 pc = .ok (.iand, 1)) (k : XX l G M d (pc + 1) L (.int (x &&& y) :: rest) h c n P) : XX l G M d pc L (.int y :: .int x :: rest) h c n P := by
  intro p e R s m args below meth cd H locs cells slots ls hF hR hl hL hV hS hN
  exact lv_iand hF.1 hF.2.1 hd (k p e R s m args below meth cd H locs cells slots ls hF hR hl hL hV hS hN)
theorem x_ior {x y : Int32} (hd : decode M.2.1 pc = .ok (.ior, 1)) (k : XX l G M d (pc + 1) L (.int (x ||| y) :: rest) h c n P) : XX l G M d pc L (.int y :: .int x :: rest) h c n P := by
  intro p e R s m args below meth cd H locs cells slots ls hF hR hl hL hV hS hN
  exact lv_ior hF.1 hF.2.1 hd (k p e R s m args below meth cd H locs cells slots ls hF hR hl hL hV hS hN)
theorem x_ixor {x y : Int32} (hd : decode M.2.1 pc = .ok (.ixor, 1)) (k : XX l G M d (pc + 1) L (.int (x ^^^ y) :: rest) h c n P) : XX l G M d pc L (.int y :: .int x :: rest) h c n P := by
  intro p e R s m args below meth cd H locs cells slots ls hF hR hl hL hV hS hN
  exact lv_ixor hF.1 hF.2.1 hd (k p e R s m args below meth cd H locs cells slots ls hF hR hl hL hV hS hN)
theorem x_ishl {x y : Int32} (hd : decode M.2.1 pc = .ok (.ishl, 1)) (k : XX l G M d (pc + 1) L (.int (x <<< (y &&& 31)) :: rest) h c n P) : XX l G M d pc L (.int y :: .int x :: rest) h c n P := by
  intro p e R s m args below meth cd H locs cells slots ls hF hR hl hL hV hS hN
  exact lv_ishl hF.1 hF.2.1 hd (k p e R s m args below meth cd H locs cells slots ls hF hR hl hL hV hS hN)
theorem x_ishr {x y : Int32} (hd : decode M.2.1 pc = .ok (.ishr, 1)) (k : XX l G M d (pc + 1) L (.int (x >>> (y &&& 31)) :: rest) h c n P) : XX l G M d pc L (.int y :: .int x :: rest) h c n P := by
  intro p e R s m args below meth cd H locs cells slots ls hF hR hl hL hV hS hN
  exact lv_ishr hF.1 hF.2.1 hd (k p e R s m args below meth cd H locs cells slots ls hF hR hl hL hV hS hN)
theorem x_iushr {x y v : Int32} (hd : decode M.2.1 pc = .ok (.iushr, 1)) (hv : (x.toUInt32 >>> (y.toUInt32 &&& Int32.toUInt32 31)).toInt32 = v) (k : XX l G M d (pc + 1) L (.int v :: rest) h c n P) : XX l G M d pc L (.int y :: .int x :: rest) h c n P := by
  intro p e R s m args below meth cd H locs cells slots ls hF hR hl hL hV hS hN
  exact lv_iushr hF.1 hF.2.1 hd hv (k p e R s m args below meth cd H locs cells slots ls hF hR hl hL hV hS hN)
theorem x_idiv {x y : Int32} (hd : decode M.2.1 pc = .ok (.idiv, 1)) (hne : ¬ y = 0) (k : XX l G M d (pc + 1) L (.int (x / y) :: rest) h c n P) : XX l G M d pc L (.int y :: .int x :: rest) h c n P := by
  intro p e R s m args below meth cd H locs cells slots ls hF hR hl hL hV hS hN
  exact lv_idiv hF.1 hF.2.1 hd hne (k p e R s m args below meth cd H locs cells slots ls hF hR hl hL hV hS hN)
theorem x_irem {x y : Int32} (hd : decode M.2.1 pc = .ok (.irem, 1)) (hne : ¬ y = 0) (k : XX l G M d (pc + 1) L (.int (x - x / y * y) :: rest) h c n P) : XX l G M d pc L (.int y :: .int x :: rest) h c n P := by
  intro p e R s m args below meth cd H locs cells slots ls hF hR hl hL hV hS hN
  exact lv_irem hF.1 hF.2.1 hd hne (k p e R s m args below meth cd H locs cells slots ls hF hR hl hL hV hS hN)
theorem x_ineg {x : Int32} (hd : decode M.2.1 pc = .ok (.ineg, 1)) (k : XX l G M d (pc + 1) L (.int (-x) :: rest) h c n P) : XX l G M d pc L (.int x :: rest) h c n P := by
  intro p e R s m args below meth cd H locs cells slots ls hF hR hl hL hV hS hN
  exact lv_ineg hF.1 hF.2.1 hd (k p e R s m args below meth cd H locs cells slots ls hF hR hl hL hV hS hN)
theorem x_ladd {x y : Int64} (hd : decode M.2.1 pc = .ok (.ladd, 1)) (k : XX l G M d (pc + 1) L (.long (x + y) :: rest) h c n P) : XX l G M d pc L (.long y :: .long x :: rest) h c n P := by
  intro p e R s m args below meth cd H locs cells slots ls hF hR hl hL hV hS hN
  exact lv_ladd hF.1 hF.2.1 hd (k p e R s m args below meth cd H locs cells slots ls hF hR hl hL hV hS hN)
theorem x_lsub {x y : Int64} (hd : decode M.2.1 pc = .ok (.lsub, 1)) (k : XX l G M d (pc + 1) L (.long (x - y) :: rest) h c n P) : XX l G M d pc L (.long y :: .long x :: rest) h c n P := by
  intro p e R s m args below meth cd H locs cells slots ls hF hR hl hL hV hS hN
  exact lv_lsub hF.1 hF.2.1 hd (k p e R s m args below meth cd H locs cells slots ls hF hR hl hL hV hS hN)
theorem x_lmul {x y : Int64} (hd : decode M.2.1 pc = .ok (.lmul, 1)) (k : XX l G M d (pc + 1) L (.long (x * y) :: rest) h c n P) : XX l G M d pc L (.long y :: .long x :: rest) h c n P := by
  intro p e R s m args below meth cd H locs cells slots ls hF hR hl hL hV hS hN
  exact lv_lmul hF.1 hF.2.1 hd (k p e R s m args below meth cd H locs cells slots ls hF hR hl hL hV hS hN)
theorem x_land {x y : Int64} (hd : decode M.2.1 pc = .ok (.land, 1)) (k : XX l G M d (pc + 1) L (.long (x &&& y) :: rest) h c n P) : XX l G M d pc L (.long y :: .long x :: rest) h c n P := by
  intro p e R s m args below meth cd H locs cells slots ls hF hR hl hL hV hS hN
  exact lv_land hF.1 hF.2.1 hd (k p e R s m args below meth cd H locs cells slots ls hF hR hl hL hV hS hN)
theorem x_lor {x y : Int64} (hd : decode M.2.1 pc = .ok (.lor, 1)) (k : XX l G M d (pc + 1) L (.long (x ||| y) :: rest) h c n P) : XX l G M d pc L (.long y :: .long x :: rest) h c n P := by
  intro p e R s m args below meth cd H locs cells slots ls hF hR hl hL hV hS hN
  exact lv_lor hF.1 hF.2.1 hd (k p e R s m args below meth cd H locs cells slots ls hF hR hl hL hV hS hN)
theorem x_lxor {x y : Int64} (hd : decode M.2.1 pc = .ok (.lxor, 1)) (k : XX l G M d (pc + 1) L (.long (x ^^^ y) :: rest) h c n P) : XX l G M d pc L (.long y :: .long x :: rest) h c n P := by
  intro p e R s m args below meth cd H locs cells slots ls hF hR hl hL hV hS hN
  exact lv_lxor hF.1 hF.2.1 hd (k p e R s m args below meth cd H locs cells slots ls hF hR hl hL hV hS hN)
theorem x_i2l {x : Int32} (hd : decode M.2.1 pc = .ok (.i2l, 1)) (k : XX l G M d (pc + 1) L (.long x.toInt64 :: rest) h c n P) : XX l G M d pc L (.int x :: rest) h c n P := by
  intro p e R s m args below meth cd H locs cells slots ls hF hR hl hL hV hS hN
  exact lv_i2l hF.1 hF.2.1 hd rfl (k p e R s m args below meth cd H locs cells slots ls hF hR hl hL hV hS hN)
theorem x_l2i {x : Int64} (hd : decode M.2.1 pc = .ok (.l2i, 1)) (k : XX l G M d (pc + 1) L (.int x.toInt32 :: rest) h c n P) : XX l G M d pc L (.long x :: rest) h c n P := by
  intro p e R s m args below meth cd H locs cells slots ls hF hR hl hL hV hS hN
  exact lv_l2i hF.1 hF.2.1 hd rfl (k p e R s m args below meth cd H locs cells slots ls hF hR hl hL hV hS hN)
theorem x_i2b {x : Int32} (hd : decode M.2.1 pc = .ok (.i2b, 1)) (k : XX l G M d (pc + 1) L (.int x.toInt8.toInt32 :: rest) h c n P) : XX l G M d pc L (.int x :: rest) h c n P := by
  intro p e R s m args below meth cd H locs cells slots ls hF hR hl hL hV hS hN
  exact lv_i2b hF.1 hF.2.1 hd rfl (k p e R s m args below meth cd H locs cells slots ls hF hR hl hL hV hS hN)
theorem x_i2s {x : Int32} (hd : decode M.2.1 pc = .ok (.i2s, 1)) (k : XX l G M d (pc + 1) L (.int x.toInt16.toInt32 :: rest) h c n P) : XX l G M d pc L (.int x :: rest) h c n P := by
  intro p e R s m args below meth cd H locs cells slots ls hF hR hl hL hV hS hN
  exact lv_i2s hF.1 hF.2.1 hd rfl (k p e R s m args below meth cd H locs cells slots ls hF hR hl hL hV hS hN)
theorem x_i2c {x : Int32} (hd : decode M.2.1 pc = .ok (.i2c, 1)) (k : XX l G M d (pc + 1) L (.int (x.toUInt32 % 65536).toInt32 :: rest) h c n P) : XX l G M d pc L (.int x :: rest) h c n P := by
  intro p e R s m args below meth cd H locs cells slots ls hF hR hl hL hV hS hN
  exact lv_i2c hF.1 hF.2.1 hd rfl (k p e R s m args below meth cd H locs cells slots ls hF hR hl hL hV hS hN)
theorem x_lushr {x v : Int64} {y : Int32} (hd : decode M.2.1 pc = .ok (.lushr, 1)) (hv : (x.toUInt64 >>> (y.toInt64.toUInt64 &&& Int64.toUInt64 63)).toInt64 = v) (k : XX l G M d (pc + 1) L (.long v :: rest) h c n P) : XX l G M d pc L (.int y :: .long x :: rest) h c n P := by
  intro p e R s m args below meth cd H locs cells slots ls hF hR hl hL hV hS hN
  exact lv_lushr hF.1 hF.2.1 hd hv (k p e R s m args below meth cd H locs cells slots ls hF hR hl hL hV hS hN)
theorem x_lshl {x v : Int64} {y : Int32} (hd : decode M.2.1 pc = .ok (.lshl, 1)) (hv : x <<< (y.toInt64 &&& 63) = v) (k : XX l G M d (pc + 1) L (.long v :: rest) h c n P) : XX l G M d pc L (.int y :: .long x :: rest) h c n P := by
  intro p e R s m args below meth cd H locs cells slots ls hF hR hl hL hV hS hN
  exact lv_lshl hF.1 hF.2.1 hd hv (k p e R s m args below meth cd H locs cells slots ls hF hR hl hL hV hS hN)
theorem x_lshr {x v : Int64} {y : Int32} (hd : decode M.2.1 pc = .ok (.lshr, 1)) (hv : x >>> (y.toInt64 &&& 63) = v) (k : XX l G M d (pc + 1) L (.long v :: rest) h c n P) : XX l G M d pc L (.int y :: .long x :: rest) h c n P := by
  intro p e R s m args below meth cd H locs cells slots ls hF hR hl hL hV hS hN
  exact lv_lshr hF.1 hF.2.1 hd hv (k p e R s m args below meth cd H locs cells slots ls hF hR hl hL hV hS hN)
theorem x_lcmp {x y : Int64} (hd : decode M.2.1 pc = .ok (.lcmp, 1)) (k : XX l G M d (pc + 1) L (.int (lg_cmp x y) :: rest) h c n P) : XX l G M d pc L (.long y :: .long x :: rest) h c n P := by
  intro p e R s m args below meth cd H locs cells slots ls hF hR hl hL hV hS hN
  exact W.lcmp hF.1 hF.2.1 hd (k p e R s m args below meth cd H locs cells slots ls hF hR hl hL hV hS hN)
theorem x_dup {a : Value} (hd : decode M.2.1 pc = .ok (.dup, 1)) (ha : a.category = 1) (k : XX l G M d (pc + 1) L (a :: a :: rest) h c n P) : XX l G M d pc L (a :: rest) h c n P := by
  intro p e R s m args below meth cd H locs cells slots ls hF hR hl hL hV hS hN
  exact lv_dup hF.1 hF.2.1 hd ha (k p e R s m args below meth cd H locs cells slots ls hF hR hl hL hV hS hN)
theorem x_pop {a : Value} (hd : decode M.2.1 pc = .ok (.pop, 1)) (ha : a.category = 1) (k : XX l G M d (pc + 1) L (rest) h c n P) : XX l G M d pc L (a :: rest) h c n P := by
  intro p e R s m args below meth cd H locs cells slots ls hF hR hl hL hV hS hN
  exact lv_pop hF.1 hF.2.1 hd ha (k p e R s m args below meth cd H locs cells slots ls hF hR hl hL hV hS hN)
theorem x_dup_x1 {a b : Value} (hd : decode M.2.1 pc = .ok (.dup_x1, 1)) (ha : a.category = 1) (hb : b.category = 1) (k : XX l G M d (pc + 1) L (a :: b :: a :: rest) h c n P) : XX l G M d pc L (a :: b :: rest) h c n P := by
  intro p e R s m args below meth cd H locs cells slots ls hF hR hl hL hV hS hN
  exact lv_dup_x1 hF.1 hF.2.1 hd ha hb (k p e R s m args below meth cd H locs cells slots ls hF hR hl hL hV hS hN)
theorem x_dup_x2 {a b f : Value} (hd : decode M.2.1 pc = .ok (.dup_x2, 1)) (ha : a.category = 1) (hb : b.category = 1) (hf : f.category = 1) (k : XX l G M d (pc + 1) L (a :: b :: f :: a :: rest) h c n P) : XX l G M d pc L (a :: b :: f :: rest) h c n P := by
  intro p e R s m args below meth cd H locs cells slots ls hF hR hl hL hV hS hN
  exact lv_dup_x2 hF.1 hF.2.1 hd ha hb hf (k p e R s m args below meth cd H locs cells slots ls hF hR hl hL hV hS hN)
theorem x_dup2_11 {a b : Value} (hd : decode M.2.1 pc = .ok (.dup2, 1)) (ha : a.category = 1) (hb : b.category = 1) (k : XX l G M d (pc + 1) L (a :: b :: a :: b :: rest) h c n P) : XX l G M d pc L (a :: b :: rest) h c n P := by
  intro p e R s m args below meth cd H locs cells slots ls hF hR hl hL hV hS hN
  exact lv_dup2_11 hF.1 hF.2.1 hd ha hb (k p e R s m args below meth cd H locs cells slots ls hF hR hl hL hV hS hN)
theorem x_dup2_2 {a : Value} (hd : decode M.2.1 pc = .ok (.dup2, 1)) (ha : a.category = 2) (k : XX l G M d (pc + 1) L (a :: a :: rest) h c n P) : XX l G M d pc L (a :: rest) h c n P := by
  intro p e R s m args below meth cd H locs cells slots ls hF hR hl hL hV hS hN
  exact lv_dup2_2 hF.1 hF.2.1 hd ha (k p e R s m args below meth cd H locs cells slots ls hF hR hl hL hV hS hN)
theorem x_dup2_x1_2 {a b : Value} (hd : decode M.2.1 pc = .ok (.dup2_x1, 1)) (ha : a.category = 2) (hb : b.category = 1) (k : XX l G M d (pc + 1) L (a :: b :: a :: rest) h c n P) : XX l G M d pc L (a :: b :: rest) h c n P := by
  intro p e R s m args below meth cd H locs cells slots ls hF hR hl hL hV hS hN
  exact lv_dup2_x1_2 hF.1 hF.2.1 hd ha hb (k p e R s m args below meth cd H locs cells slots ls hF hR hl hL hV hS hN)
theorem x_dup2_x2_2 {a b f : Value} (hd : decode M.2.1 pc = .ok (.dup2_x2, 1)) (ha : a.category = 2) (hb : b.category = 1) (hf : f.category = 1) (k : XX l G M d (pc + 1) L (a :: b :: f :: a :: rest) h c n P) : XX l G M d pc L (a :: b :: f :: rest) h c n P := by
  intro p e R s m args below meth cd H locs cells slots ls hF hR hl hL hV hS hN
  exact lv_dup2_x2_2 hF.1 hF.2.1 hd ha hb hf (k p e R s m args below meth cd H locs cells slots ls hF hR hl hL hV hS hN)
theorem x_pop2_2 {a : Value} (hd : decode M.2.1 pc = .ok (.pop2, 1)) (ha : a.category = 2) (k : XX l G M d (pc + 1) L (rest) h c n P) : XX l G M d pc L (a :: rest) h c n P := by
  intro p e R s m args below meth cd H locs cells slots ls hF hR hl hL hV hS hN
  exact lv_pop2_2 hF.1 hF.2.1 hd ha (k p e R s m args below meth cd H locs cells slots ls hF hR hl hL hV hS hN)
theorem x_if_eq {x : Int32} {off : Int} {tgt : Nat} (hd : decode M.2.1 pc = .ok (.ifCond .eq off, 3)) (ht : (pc : Int) + off = (tgt : Int)) (kt : x = 0 → XX l G M d tgt L rest h c n P) (kf : ¬ x = 0 → XX l G M d (pc + 3) L rest h c n P) : XX l G M d pc L (.int x :: rest) h c n P := by
  intro p e R s m args below meth cd H locs cells slots ls hF hR hl hL hV hS hN
  exact lv_if_eq hF.1 hF.2.1 hd ht (fun q => kt q p e R s m args below meth cd H locs cells slots ls hF hR hl hL hV hS hN) (fun q => kf q p e R s m args below meth cd H locs cells slots ls hF hR hl hL hV hS hN)
theorem x_icmp_eq {x y : Int32} {off : Int} {tgt : Nat} (hd : decode M.2.1 pc = .ok (.if_icmp .eq off, 3)) (ht : (pc : Int) + off = (tgt : Int)) (kt : x = y → XX l G M d tgt L rest h c n P) (kf : ¬ x = y → XX l G M d (pc + 3) L rest h c n P) : XX l G M d pc L (.int y :: .int x :: rest) h c n P := by
  intro p e R s m args below meth cd H locs cells slots ls hF hR hl hL hV hS hN
  exact lv_icmp_eq hF.1 hF.2.1 hd ht (fun q => kt q p e R s m args below meth cd H locs cells slots ls hF hR hl hL hV hS hN) (fun q => kf q p e R s m args below meth cd H locs cells slots ls hF hR hl hL hV hS hN)
theorem x_if_ne {x : Int32} {off : Int} {tgt : Nat} (hd : decode M.2.1 pc = .ok (.ifCond .ne off, 3)) (ht : (pc : Int) + off = (tgt : Int)) (kt : ¬ x = 0 → XX l G M d tgt L rest h c n P) (kf : x = 0 → XX l G M d (pc + 3) L rest h c n P) : XX l G M d pc L (.int x :: rest) h c n P := by
  intro p e R s m args below meth cd H locs cells slots ls hF hR hl hL hV hS hN
  exact lv_if_ne hF.1 hF.2.1 hd ht (fun q => kt q p e R s m args below meth cd H locs cells slots ls hF hR hl hL hV hS hN) (fun q => kf q p e R s m args below meth cd H locs cells slots ls hF hR hl hL hV hS hN)
theorem x_icmp_ne {x y : Int32} {off : Int} {tgt : Nat} (hd : decode M.2.1 pc = .ok (.if_icmp .ne off, 3)) (ht : (pc : Int) + off = (tgt : Int)) (kt : ¬ x = y → XX l G M d tgt L rest h c n P) (kf : x = y → XX l G M d (pc + 3) L rest h c n P) : XX l G M d pc L (.int y :: .int x :: rest) h c n P := by
  intro p e R s m args below meth cd H locs cells slots ls hF hR hl hL hV hS hN
  exact lv_icmp_ne hF.1 hF.2.1 hd ht (fun q => kt q p e R s m args below meth cd H locs cells slots ls hF hR hl hL hV hS hN) (fun q => kf q p e R s m args below meth cd H locs cells slots ls hF hR hl hL hV hS hN)
theorem x_if_lt {x : Int32} {off : Int} {tgt : Nat} (hd : decode M.2.1 pc = .ok (.ifCond .lt off, 3)) (ht : (pc : Int) + off = (tgt : Int)) (kt : x < 0 → XX l G M d tgt L rest h c n P) (kf : ¬ x < 0 → XX l G M d (pc + 3) L rest h c n P) : XX l G M d pc L (.int x :: rest) h c n P := by
  intro p e R s m args below meth cd H locs cells slots ls hF hR hl hL hV hS hN
  exact lv_if_lt hF.1 hF.2.1 hd ht (fun q => kt q p e R s m args below meth cd H locs cells slots ls hF hR hl hL hV hS hN) (fun q => kf q p e R s m args below meth cd H locs cells slots ls hF hR hl hL hV hS hN)
theorem x_icmp_lt {x y : Int32} {off : Int} {tgt : Nat} (hd : decode M.2.1 pc = .ok (.if_icmp .lt off, 3)) (ht : (pc : Int) + off = (tgt : Int)) (kt : x < y → XX l G M d tgt L rest h c n P) (kf : ¬ x < y → XX l G M d (pc + 3) L rest h c n P) : XX l G M d pc L (.int y :: .int x :: rest) h c n P := by
  intro p e R s m args below meth cd H locs cells slots ls hF hR hl hL hV hS hN
  exact lv_icmp_lt hF.1 hF.2.1 hd ht (fun q => kt q p e R s m args below meth cd H locs cells slots ls hF hR hl hL hV hS hN) (fun q => kf q p e R s m args below meth cd H locs cells slots ls hF hR hl hL hV hS hN)
theorem x_if_ge {x : Int32} {off : Int} {tgt : Nat} (hd : decode M.2.1 pc = .ok (.ifCond .ge off, 3)) (ht : (pc : Int) + off = (tgt : Int)) (kt : 0 ≤ x → XX l G M d tgt L rest h c n P) (kf : ¬ 0 ≤ x → XX l G M d (pc + 3) L rest h c n P) : XX l G M d pc L (.int x :: rest) h c n P := by
  intro p e R s m args below meth cd H locs cells slots ls hF hR hl hL hV hS hN
  exact lv_if_ge hF.1 hF.2.1 hd ht (fun q => kt q p e R s m args below meth cd H locs cells slots ls hF hR hl hL hV hS hN) (fun q => kf q p e R s m args below meth cd H locs cells slots ls hF hR hl hL hV hS hN)
theorem x_icmp_ge {x y : Int32} {off : Int} {tgt : Nat} (hd : decode M.2.1 pc = .ok (.if_icmp .ge off, 3)) (ht : (pc : Int) + off = (tgt : Int)) (kt : y ≤ x → XX l G M d tgt L rest h c n P) (kf : ¬ y ≤ x → XX l G M d (pc + 3) L rest h c n P) : XX l G M d pc L (.int y :: .int x :: rest) h c n P := by
  intro p e R s m args below meth cd H locs cells slots ls hF hR hl hL hV hS hN
  exact lv_icmp_ge hF.1 hF.2.1 hd ht (fun q => kt q p e R s m args below meth cd H locs cells slots ls hF hR hl hL hV hS hN) (fun q => kf q p e R s m args below meth cd H locs cells slots ls hF hR hl hL hV hS hN)
theorem x_if_gt {x : Int32} {off : Int} {tgt : Nat} (hd : decode M.2.1 pc = .ok (.ifCond .gt off, 3)) (ht : (pc : Int) + off = (tgt : Int)) (kt : 0 < x → XX l G M d tgt L rest h c n P) (kf : ¬ 0 < x → XX l G M d (pc + 3) L rest h c n P) : XX l G M d pc L (.int x :: rest) h c n P := by
  intro p e R s m args below meth cd H locs cells slots ls hF hR hl hL hV hS hN
  exact lv_if_gt hF.1 hF.2.1 hd ht (fun q => kt q p e R s m args below meth cd H locs cells slots ls hF hR hl hL hV hS hN) (fun q => kf q p e R s m args below meth cd H locs cells slots ls hF hR hl hL hV hS hN)
theorem x_icmp_gt {x y : Int32} {off : Int} {tgt : Nat} (hd : decode M.2.1 pc = .ok (.if_icmp .gt off, 3)) (ht : (pc : Int) + off = (tgt : Int)) (kt : y < x → XX l G M d tgt L rest h c n P) (kf : ¬ y < x → XX l G M d (pc + 3) L rest h c n P) : XX l G M d pc L (.int y :: .int x :: rest) h c n P := by
  intro p e R s m args below meth cd H locs cells slots ls hF hR hl hL hV hS hN
  exact lv_icmp_gt hF.1 hF.2.1 hd ht (fun q => kt q p e R s m args below meth cd H locs cells slots ls hF hR hl hL hV hS hN) (fun q => kf q p e R s m args below meth cd H locs cells slots ls hF hR hl hL hV hS hN)
theorem x_if_le {x : Int32} {off : Int} {tgt : Nat} (hd : decode M.2.1 pc = .ok (.ifCond .le off, 3)) (ht : (pc : Int) + off = (tgt : Int)) (kt : x ≤ 0 → XX l G M d tgt L rest h c n P) (kf : ¬ x ≤ 0 → XX l G M d (pc + 3) L rest h c n P) : XX l G M d pc L (.int x :: rest) h c n P := by
  intro p e R s m args below meth cd H locs cells slots ls hF hR hl hL hV hS hN
  exact lv_if_le hF.1 hF.2.1 hd ht (fun q => kt q p e R s m args below meth cd H locs cells slots ls hF hR hl hL hV hS hN) (fun q => kf q p e R s m args below meth cd H locs cells slots ls hF hR hl hL hV hS hN)
theorem x_icmp_le {x y : Int32} {off : Int} {tgt : Nat} (hd : decode M.2.1 pc = .ok (.if_icmp .le off, 3)) (ht : (pc : Int) + off = (tgt : Int)) (kt : x ≤ y → XX l G M d tgt L rest h c n P) (kf : ¬ x ≤ y → XX l G M d (pc + 3) L rest h c n P) : XX l G M d pc L (.int y :: .int x :: rest) h c n P := by
  intro p e R s m args below meth cd H locs cells slots ls hF hR hl hL hV hS hN
  exact lv_icmp_le hF.1 hF.2.1 hd ht (fun q => kt q p e R s m args below meth cd H locs cells slots ls hF hR hl hL hV hS hN) (fun q => kf q p e R s m args below meth cd H locs cells slots ls hF hR hl hL hV hS hN)
theorem x_goto {off : Int} {tgt : Nat} (hd : decode M.2.1 pc = .ok (.goto off, 3)) (ht : (pc : Int) + off = (tgt : Int)) (k : XX l G M d tgt L rest h c n P) : XX l G M d pc L (rest) h c n P := by
  intro p e R s m args below meth cd H locs cells slots ls hF hR hl hL hV hS hN
  exact lv_goto hF.1 hF.2.1 hd ht (k p e R s m args below meth cd H locs cells slots ls hF hR hl hL hV hS hN)
theorem x_ifnull {a : Nat} {off : Int} (hd : decode M.2.1 pc = .ok (.ifnull off, 3)) (k : XX l G M d (pc + 3) L rest h c n P) : XX l G M d pc L (.ref a :: rest) h c n P := by
  intro p e R s m args below meth cd H locs cells slots ls hF hR hl hL hV hS hN
  exact lv_ifnull hF.1 hF.2.1 hd (k p e R s m args below meth cd H locs cells slots ls hF hR hl hL hV hS hN)
theorem x_ifnullN {off : Int} {tgt : Nat} (hd : decode M.2.1 pc = .ok (.ifnull off, 3)) (ht : (pc : Int) + off = (tgt : Int)) (k : XX l G M d tgt L rest h c n P) : XX l G M d pc L (.null :: rest) h c n P := by
  intro p e R s m args below meth cd H locs cells slots ls hF hR hl hL hV hS hN
  exact lv_ifnullN hF.1 hF.2.1 hd ht (k p e R s m args below meth cd H locs cells slots ls hF hR hl hL hV hS hN)
theorem x_ifnonnull {a : Nat} {off : Int} {tgt : Nat} (hd : decode M.2.1 pc = .ok (.ifnonnull off, 3)) (ht : (pc : Int) + off = (tgt : Int)) (k : XX l G M d tgt L rest h c n P) : XX l G M d pc L (.ref a :: rest) h c n P := by
  intro p e R s m args below meth cd H locs cells slots ls hF hR hl hL hV hS hN
  exact lv_ifnonnull hF.1 hF.2.1 hd ht (k p e R s m args below meth cd H locs cells slots ls hF hR hl hL hV hS hN)
theorem x_ifnonnullN {off : Int} (hd : decode M.2.1 pc = .ok (.ifnonnull off, 3)) (k : XX l G M d (pc + 3) L rest h c n P) : XX l G M d pc L (.null :: rest) h c n P := by
  intro p e R s m args below meth cd H locs cells slots ls hF hR hl hL hV hS hN
  exact lv_ifnonnullN hF.1 hF.2.1 hd (k p e R s m args below meth cd H locs cells slots ls hF hR hl hL hV hS hN)
theorem x_tableIn {dflt lo hi : Int} {offs : Array Int} {len : Nat} {x : Int32} {off : Int} {tgt : Nat} (hd : decode M.2.1 pc = .ok (.tableswitch dflt lo hi offs, len)) (h1 : ¬ x.toInt < lo) (h2 : ¬ hi < x.toInt) (ho : offs[(x.toInt - lo).toNat]? = some off) (ht : (pc : Int) + off = (tgt : Int)) (k : XX l G M d tgt L rest h c n P) : XX l G M d pc L (.int x :: rest) h c n P := by
  intro p e R s m args below meth cd H locs cells slots ls hF hR hl hL hV hS hN
  exact lv_tableIn hF.1 hF.2.1 hd h1 h2 ho ht (k p e R s m args below meth cd H locs cells slots ls hF hR hl hL hV hS hN)
theorem x_tableOut {dflt lo hi : Int} {offs : Array Int} {len : Nat} {x : Int32} {tgt : Nat} (hd : decode M.2.1 pc = .ok (.tableswitch dflt lo hi offs, len)) (h1 : x.toInt < lo ∨ hi < x.toInt) (ht : (pc : Int) + dflt = (tgt : Int)) (k : XX l G M d tgt L rest h c n P) : XX l G M d pc L (.int x :: rest) h c n P := by
  intro p e R s m args below meth cd H locs cells slots ls hF hR hl hL hV hS hN
  exact lv_tableOut hF.1 hF.2.1 hd h1 ht (k p e R s m args below meth cd H locs cells slots ls hF hR hl hL hV hS hN)
theorem x_lookup {dflt : Int} {ps : Array (Int × Int)} {len : Nat} {x : Int32} {off : Int} {tgt : Nat} (hd : decode M.2.1 pc = .ok (.lookupswitch dflt ps, len)) (hp : (ps.toList.zip (ps.toList.drop 1)).all (fun (a, next) => a.1 < next.1) = true) (ho : Op.lookupswitch.offset ps.toList dflt x.toInt = off) (ht : (pc : Int) + off = (tgt : Int)) (k : XX l G M d tgt L rest h c n P) : XX l G M d pc L (.int x :: rest) h c n P := by
  intro p e R s m args below meth cd H locs cells slots ls hF hR hl hL hV hS hN
  exact lv_lookup hF.1 hF.2.1 hd hp ho ht (k p e R s m args below meth cd H locs cells slots ls hF hR hl hL hV hS hN)
end XR
