section
abbrev y_Node_init : MethodName := ⟨"MarkerText$Node", "<init>", "(I)V"⟩
abbrev M_Node_init : XMt := (y_Node_init, prog_8_method_1_code, 2, none)
theorem d_Node_init_0 : decode M_Node_init.2.1 0 = .ok (.aload_n 0, 1) := by decide +kernel
theorem d_Node_init_1 : decode M_Node_init.2.1 1 = .ok (.invokespecial 1, 3) := by decide +kernel
theorem xw_944 : (Jvm.Cond.methodLink "MarkerText$Node" (1 : Nat) ({ cls := "java/lang/Object", name := "<init>", desc := "()V" } : Jvm.MethodName)) ∈ xT := xT_at 944 (by decide +kernel) (by decide +kernel)
theorem d_Node_init_4 : decode M_Node_init.2.1 4 = .ok (.aload_n 0, 1) := by decide +kernel
theorem d_Node_init_5 : decode M_Node_init.2.1 5 = .ok (.iload_n 1, 1) := by decide +kernel
theorem d_Node_init_6 : decode M_Node_init.2.1 6 = .ok (.putfield 7, 3) := by decide +kernel
theorem xw_946 : (Jvm.Cond.fieldLink "MarkerText$Node" (7 : Nat) "MarkerText$Node" "strength" "I") ∈ xT := xT_at 946 (by decide +kernel) (by decide +kernel)
theorem xf_Node_7_Test : xF "MarkerText$Node" 7 k_Test 4 := ⟨_, _, _, "MarkerText$Node", rfl, by decide, Or.inl xw_946, Or.inl rfl⟩
theorem xp_Test_4 : xP k_Test 4 true .int := ⟨_, _, _, rfl, rfl, by decide +kernel⟩
theorem d_Node_init_9 : decode M_Node_init.2.1 9 = .ok (.return_, 1) := by decide +kernel
theorem xf_Node_7_Join : xF "MarkerText$Node" 7 k_Join 2 := ⟨_, _, _, "MarkerText$Node", rfl, by decide, Or.inl xw_946, Or.inl rfl⟩
theorem xp_Join_2 : xP k_Join 2 true .int := ⟨_, _, _, rfl, rfl, by decide +kernel⟩
theorem xf_Node_7_Negation : xF "MarkerText$Node" 7 k_Negation 1 := ⟨_, _, _, "MarkerText$Node", rfl, by decide, Or.inl xw_946, Or.inl rfl⟩
theorem xp_Negation_1 : xP k_Negation 1 true .int := ⟨_, _, _, rfl, rfl, by decide +kernel⟩
theorem xf_Node_7_Constant : xF "MarkerText$Node" 7 k_Constant 1 := ⟨_, _, _, "MarkerText$Node", rfl, by decide, Or.inl xw_946, Or.inl rfl⟩
theorem xp_Constant_1 : xP k_Constant 1 true .int := ⟨_, _, _, rfl, rfl, by decide +kernel⟩
abbrev y_Test_init : MethodName := ⟨"MarkerText$Test", "<init>", "(II[JLjava/lang/String;)V"⟩
abbrev M_Test_init : XMt := (y_Test_init, prog_11_method_1_code, 5, none)
theorem d_Test_init_0 : decode M_Test_init.2.1 0 = .ok (.aload_n 0, 1) := by decide +kernel
theorem d_Test_init_1 : decode M_Test_init.2.1 1 = .ok (.iconst 3, 1) := by decide +kernel
theorem d_Test_init_2 : decode M_Test_init.2.1 2 = .ok (.invokespecial 5, 3) := by decide +kernel
theorem xw_943 : (Jvm.Cond.code ({ cls := "MarkerText$Node", name := "<init>", desc := "(I)V" } : Jvm.MethodName) prog_8_method_1_code (2 : Nat) (Option.none : Option Jvm.ClassFile.FieldType)) ∈ xT := xT_at 943 (by decide +kernel) (by decide +kernel)
theorem xcb_Node_init : xcb M_Node_init 1 := ⟨xw_943, xw_27, by decide, by decide, by decide, by decide +kernel⟩
theorem xw_1018 : (Jvm.Cond.methodLink "MarkerText$Test" (5 : Nat) ({ cls := "MarkerText$Node", name := "<init>", desc := "(I)V" } : Jvm.MethodName)) ∈ xT := xT_at 1018 (by decide +kernel) (by decide +kernel)
theorem xw_942 : (Jvm.Cond.instanceMethod ({ cls := "MarkerText$Node", name := "<init>", desc := "(I)V" } : Jvm.MethodName)) ∈ xT := xT_at 942 (by decide +kernel) (by decide +kernel)
theorem xci_Test_5 : xCI "MarkerText$Test" 5 M_Node_init 1 := ⟨xcb_Node_init, rfl, rfl, xw_942, Or.inl xw_1018⟩
theorem d_Test_init_5 : decode M_Test_init.2.1 5 = .ok (.aload_n 0, 1) := by decide +kernel
theorem d_Test_init_6 : decode M_Test_init.2.1 6 = .ok (.iload_n 1, 1) := by decide +kernel
theorem d_Test_init_7 : decode M_Test_init.2.1 7 = .ok (.putfield 9, 3) := by decide +kernel
theorem xp_Test_0 : xP k_Test 0 true .int := ⟨_, _, _, rfl, rfl, by decide +kernel⟩
theorem d_Test_init_10 : decode M_Test_init.2.1 10 = .ok (.aload_n 0, 1) := by decide +kernel
theorem d_Test_init_11 : decode M_Test_init.2.1 11 = .ok (.iload_n 2, 1) := by decide +kernel
theorem d_Test_init_12 : decode M_Test_init.2.1 12 = .ok (.putfield 15, 3) := by decide +kernel
theorem xp_Test_1 : xP k_Test 1 true .int := ⟨_, _, _, rfl, rfl, by decide +kernel⟩
theorem d_Test_init_15 : decode M_Test_init.2.1 15 = .ok (.aload_n 0, 1) := by decide +kernel
theorem d_Test_init_16 : decode M_Test_init.2.1 16 = .ok (.aload_n 3, 1) := by decide +kernel
theorem d_Test_init_17 : decode M_Test_init.2.1 17 = .ok (.putfield 18, 3) := by decide +kernel
theorem xp_Test_2 : xP k_Test 2 true (.array .long) := ⟨_, _, _, rfl, rfl, by decide +kernel⟩
theorem d_Test_init_20 : decode M_Test_init.2.1 20 = .ok (.aload_n 0, 1) := by decide +kernel
theorem d_Test_init_21 : decode M_Test_init.2.1 21 = .ok (.aload 4, 2) := by decide +kernel
theorem d_Test_init_23 : decode M_Test_init.2.1 23 = .ok (.putfield 22, 3) := by decide +kernel
theorem xp_Test_3 : xP k_Test 3 true (.object "java/lang/String") := ⟨_, _, _, rfl, rfl, by decide +kernel⟩
theorem d_Test_init_26 : decode M_Test_init.2.1 26 = .ok (.return_, 1) := by decide +kernel
abbrev y_Join_init : MethodName := ⟨"MarkerText$Join", "<init>", "(ILMarkerText$Node;LMarkerText$Node;)V"⟩
abbrev M_Join_init : XMt := (y_Join_init, prog_5_method_1_code, 4, none)
theorem d_Join_init_0 : decode M_Join_init.2.1 0 = .ok (.aload_n 0, 1) := by decide +kernel
theorem d_Join_init_1 : decode M_Join_init.2.1 1 = .ok (.iload_n 1, 1) := by decide +kernel
theorem d_Join_init_2 : decode M_Join_init.2.1 2 = .ok (.invokespecial 1, 3) := by decide +kernel
theorem xw_1090 : (Jvm.Cond.methodLink "MarkerText$Join" (1 : Nat) ({ cls := "MarkerText$Node", name := "<init>", desc := "(I)V" } : Jvm.MethodName)) ∈ xT := xT_at 1090 (by decide +kernel) (by decide +kernel)
theorem xci_Join_1 : xCI "MarkerText$Join" 1 M_Node_init 1 := ⟨xcb_Node_init, rfl, rfl, xw_942, Or.inl xw_1090⟩
theorem d_Join_init_5 : decode M_Join_init.2.1 5 = .ok (.aload_n 0, 1) := by decide +kernel
theorem d_Join_init_6 : decode M_Join_init.2.1 6 = .ok (.aload_n 2, 1) := by decide +kernel
theorem d_Join_init_7 : decode M_Join_init.2.1 7 = .ok (.putfield 7, 3) := by decide +kernel
theorem xp_Join_0 : xP k_Join 0 true (.object "MarkerText$Node") := ⟨_, _, _, rfl, rfl, by decide +kernel⟩
theorem d_Join_init_10 : decode M_Join_init.2.1 10 = .ok (.aload_n 0, 1) := by decide +kernel
theorem d_Join_init_11 : decode M_Join_init.2.1 11 = .ok (.aload_n 3, 1) := by decide +kernel
theorem d_Join_init_12 : decode M_Join_init.2.1 12 = .ok (.putfield 13, 3) := by decide +kernel
theorem xp_Join_1 : xP k_Join 1 true (.object "MarkerText$Node") := ⟨_, _, _, rfl, rfl, by decide +kernel⟩
theorem d_Join_init_15 : decode M_Join_init.2.1 15 = .ok (.return_, 1) := by decide +kernel
abbrev y_Negation_init : MethodName := ⟨"MarkerText$Negation", "<init>", "(LMarkerText$Node;)V"⟩
abbrev M_Negation_init : XMt := (y_Negation_init, prog_7_method_1_code, 2, none)
theorem d_Negation_init_0 : decode M_Negation_init.2.1 0 = .ok (.aload_n 0, 1) := by decide +kernel
theorem d_Negation_init_1 : decode M_Negation_init.2.1 1 = .ok (.iconst 3, 1) := by decide +kernel
theorem d_Negation_init_2 : decode M_Negation_init.2.1 2 = .ok (.invokespecial 3, 3) := by decide +kernel
theorem xw_941 : (Jvm.Cond.methodLink "MarkerText$Negation" (3 : Nat) ({ cls := "MarkerText$Node", name := "<init>", desc := "(I)V" } : Jvm.MethodName)) ∈ xT := xT_at 941 (by decide +kernel) (by decide +kernel)
theorem xci_Negation_3 : xCI "MarkerText$Negation" 3 M_Node_init 1 := ⟨xcb_Node_init, rfl, rfl, xw_942, Or.inl xw_941⟩
theorem d_Negation_init_5 : decode M_Negation_init.2.1 5 = .ok (.aload_n 0, 1) := by decide +kernel
theorem d_Negation_init_6 : decode M_Negation_init.2.1 6 = .ok (.aload_n 1, 1) := by decide +kernel
theorem d_Negation_init_7 : decode M_Negation_init.2.1 7 = .ok (.putfield 7, 3) := by decide +kernel
theorem xp_Negation_0 : xP k_Negation 0 true (.object "MarkerText$Node") := ⟨_, _, _, rfl, rfl, by decide +kernel⟩
theorem d_Negation_init_10 : decode M_Negation_init.2.1 10 = .ok (.return_, 1) := by decide +kernel
abbrev y_Constant_init : MethodName := ⟨"MarkerText$Constant", "<init>", "(Z)V"⟩
abbrev M_Constant_init : XMt := (y_Constant_init, prog_4_method_1_code, 2, none)
theorem d_Constant_init_0 : decode M_Constant_init.2.1 0 = .ok (.aload_n 0, 1) := by decide +kernel
theorem d_Constant_init_1 : decode M_Constant_init.2.1 1 = .ok (.iconst 3, 1) := by decide +kernel
theorem d_Constant_init_2 : decode M_Constant_init.2.1 2 = .ok (.invokespecial 3, 3) := by decide +kernel
theorem xw_968 : (Jvm.Cond.methodLink "MarkerText$Constant" (3 : Nat) ({ cls := "MarkerText$Node", name := "<init>", desc := "(I)V" } : Jvm.MethodName)) ∈ xT := xT_at 968 (by decide +kernel) (by decide +kernel)
theorem xci_Constant_3 : xCI "MarkerText$Constant" 3 M_Node_init 1 := ⟨xcb_Node_init, rfl, rfl, xw_942, Or.inl xw_968⟩
theorem d_Constant_init_5 : decode M_Constant_init.2.1 5 = .ok (.aload_n 0, 1) := by decide +kernel
theorem d_Constant_init_6 : decode M_Constant_init.2.1 6 = .ok (.iload_n 1, 1) := by decide +kernel
theorem d_Constant_init_7 : decode M_Constant_init.2.1 7 = .ok (.putfield 7, 3) := by decide +kernel
theorem xp_Constant_0 : xP k_Constant 0 true .boolean := ⟨_, _, _, rfl, rfl, by decide +kernel⟩
theorem d_Constant_init_10 : decode M_Constant_init.2.1 10 = .ok (.return_, 1) := by decide +kernel
abbrev y_Condition_init : MethodName := ⟨"MarkerText$Condition", "<init>", "(LMarkerText$Node;Ljava/util/ArrayList;Ljava/lang/String;)V"⟩
abbrev M_Condition_init : XMt := (y_Condition_init, prog_3_method_1_code, 4, none)
theorem d_Condition_init_0 : decode M_Condition_init.2.1 0 = .ok (.aload_n 0, 1) := by decide +kernel
theorem d_Condition_init_1 : decode M_Condition_init.2.1 1 = .ok (.invokespecial 1, 3) := by decide +kernel
theorem xw_1139 : (Jvm.Cond.methodLink "MarkerText$Condition" (1 : Nat) ({ cls := "java/lang/Object", name := "<init>", desc := "()V" } : Jvm.MethodName)) ∈ xT := xT_at 1139 (by decide +kernel) (by decide +kernel)
theorem d_Condition_init_4 : decode M_Condition_init.2.1 4 = .ok (.aload_n 0, 1) := by decide +kernel
theorem d_Condition_init_5 : decode M_Condition_init.2.1 5 = .ok (.aload_n 1, 1) := by decide +kernel
theorem d_Condition_init_6 : decode M_Condition_init.2.1 6 = .ok (.putfield 7, 3) := by decide +kernel
theorem xw_1140 : (Jvm.Cond.fieldLink "MarkerText$Condition" (7 : Nat) "MarkerText$Condition" "root" "LMarkerText$Node;") ∈ xT := xT_at 1140 (by decide +kernel) (by decide +kernel)
theorem xf_Condition_7_Condition : xF "MarkerText$Condition" 7 k_Condition 0 := ⟨_, _, _, "MarkerText$Condition", rfl, by decide, Or.inl xw_1140, Or.inl rfl⟩
theorem xp_Condition_0 : xP k_Condition 0 true (.object "MarkerText$Node") := ⟨_, _, _, rfl, rfl, by decide +kernel⟩
theorem d_Condition_init_9 : decode M_Condition_init.2.1 9 = .ok (.aload_n 0, 1) := by decide +kernel
theorem d_Condition_init_10 : decode M_Condition_init.2.1 10 = .ok (.aload_n 2, 1) := by decide +kernel
theorem d_Condition_init_11 : decode M_Condition_init.2.1 11 = .ok (.putfield 13, 3) := by decide +kernel
theorem xw_1143 : (Jvm.Cond.fieldLink "MarkerText$Condition" (13 : Nat) "MarkerText$Condition" "tests" "Ljava/util/ArrayList;") ∈ xT := xT_at 1143 (by decide +kernel) (by decide +kernel)
theorem xf_Condition_13_Condition : xF "MarkerText$Condition" 13 k_Condition 1 := ⟨_, _, _, "MarkerText$Condition", rfl, by decide, Or.inl xw_1143, Or.inl rfl⟩
theorem xp_Condition_1 : xP k_Condition 1 true (.object "java/util/ArrayList") := ⟨_, _, _, rfl, rfl, by decide +kernel⟩
theorem d_Condition_init_14 : decode M_Condition_init.2.1 14 = .ok (.aload_n 0, 1) := by decide +kernel
theorem d_Condition_init_15 : decode M_Condition_init.2.1 15 = .ok (.aload_n 3, 1) := by decide +kernel
theorem d_Condition_init_16 : decode M_Condition_init.2.1 16 = .ok (.putfield 17, 3) := by decide +kernel
theorem xw_1145 : (Jvm.Cond.fieldLink "MarkerText$Condition" (17 : Nat) "MarkerText$Condition" "shown" "Ljava/lang/String;") ∈ xT := xT_at 1145 (by decide +kernel) (by decide +kernel)
theorem xf_Condition_17_Condition : xF "MarkerText$Condition" 17 k_Condition 2 := ⟨_, _, _, "MarkerText$Condition", rfl, by decide, Or.inl xw_1145, Or.inl rfl⟩
theorem xp_Condition_2 : xP k_Condition 2 true (.object "java/lang/String") := ⟨_, _, _, rfl, rfl, by decide +kernel⟩
theorem d_Condition_init_19 : decode M_Condition_init.2.1 19 = .ok (.return_, 1) := by decide +kernel
end
section RD7
variable {l : Launch} {G : XG} {h : XH} {c n d : Nat}
/-! the constructors of parts -/
theorem c_Node_init_T (hd : 1 ≤ d) {a : Nat} {x y z w u : Value} {s : Int32} (ha : h a = some (k_Test, [x, y, z, w, u])) : XM l G d M_Node_init [.ref a, .int s] h c n (fun v h' c' n' => v = none ∧ h' = xup h a (k_Test, [x, y, z, w, .int s]) ∧ c' = c ∧ n' = n) := by
  obtain ⟨d, rfl⟩ : ∃ q, d = q + 1 := ⟨d - 1, by omega⟩
  refine XM.of (by decide +kernel) (Nat.le_of_ble_eq_true rfl) ?_
  refine x_aload_n d_Node_init_0 rfl rfl ?_
  refine x_objInit xw_944 xw_40 xw_41 (Nat.le_of_ble_eq_true rfl) d_Node_init_1 ?_
  refine x_aload_n d_Node_init_4 rfl rfl ?_
  refine x_iload_n d_Node_init_5 rfl ?_
  refine x_putF xf_Node_7_Test xp_Test_4 ⟨_, _, _, rfl, rfl, xw_946⟩ rfl rfl rfl ha rfl rfl d_Node_init_6 ?_
  refine x_vret d_Node_init_9 rfl ?_
  exact ⟨rfl, rfl, rfl, rfl⟩
theorem c_Node_init_J (hd : 1 ≤ d) {a : Nat} {x y u : Value} {s : Int32} (ha : h a = some (k_Join, [x, y, u])) : XM l G d M_Node_init [.ref a, .int s] h c n (fun v h' c' n' => v = none ∧ h' = xup h a (k_Join, [x, y, .int s]) ∧ c' = c ∧ n' = n) := by
  obtain ⟨d, rfl⟩ : ∃ q, d = q + 1 := ⟨d - 1, by omega⟩
  refine XM.of (by decide +kernel) (Nat.le_of_ble_eq_true rfl) ?_
  refine x_aload_n d_Node_init_0 rfl rfl ?_
  refine x_objInit xw_944 xw_40 xw_41 (Nat.le_of_ble_eq_true rfl) d_Node_init_1 ?_
  refine x_aload_n d_Node_init_4 rfl rfl ?_
  refine x_iload_n d_Node_init_5 rfl ?_
  refine x_putF xf_Node_7_Join xp_Join_2 ⟨_, _, _, rfl, rfl, xw_946⟩ rfl rfl rfl ha rfl rfl d_Node_init_6 ?_
  refine x_vret d_Node_init_9 rfl ?_
  exact ⟨rfl, rfl, rfl, rfl⟩
theorem c_Node_init_N (hd : 1 ≤ d) {a : Nat} {x u : Value} {s : Int32} (ha : h a = some (k_Negation, [x, u])) : XM l G d M_Node_init [.ref a, .int s] h c n (fun v h' c' n' => v = none ∧ h' = xup h a (k_Negation, [x, .int s]) ∧ c' = c ∧ n' = n) := by
  obtain ⟨d, rfl⟩ : ∃ q, d = q + 1 := ⟨d - 1, by omega⟩
  refine XM.of (by decide +kernel) (Nat.le_of_ble_eq_true rfl) ?_
  refine x_aload_n d_Node_init_0 rfl rfl ?_
  refine x_objInit xw_944 xw_40 xw_41 (Nat.le_of_ble_eq_true rfl) d_Node_init_1 ?_
  refine x_aload_n d_Node_init_4 rfl rfl ?_
  refine x_iload_n d_Node_init_5 rfl ?_
  refine x_putF xf_Node_7_Negation xp_Negation_1 ⟨_, _, _, rfl, rfl, xw_946⟩ rfl rfl rfl ha rfl rfl d_Node_init_6 ?_
  refine x_vret d_Node_init_9 rfl ?_
  exact ⟨rfl, rfl, rfl, rfl⟩
theorem c_Node_init_C (hd : 1 ≤ d) {a : Nat} {x u : Value} {s : Int32} (ha : h a = some (k_Constant, [x, u])) : XM l G d M_Node_init [.ref a, .int s] h c n (fun v h' c' n' => v = none ∧ h' = xup h a (k_Constant, [x, .int s]) ∧ c' = c ∧ n' = n) := by
  obtain ⟨d, rfl⟩ : ∃ q, d = q + 1 := ⟨d - 1, by omega⟩
  refine XM.of (by decide +kernel) (Nat.le_of_ble_eq_true rfl) ?_
  refine x_aload_n d_Node_init_0 rfl rfl ?_
  refine x_objInit xw_944 xw_40 xw_41 (Nat.le_of_ble_eq_true rfl) d_Node_init_1 ?_
  refine x_aload_n d_Node_init_4 rfl rfl ?_
  refine x_iload_n d_Node_init_5 rfl ?_
  refine x_putF xf_Node_7_Constant xp_Constant_1 ⟨_, _, _, rfl, rfl, xw_946⟩ rfl rfl rfl ha rfl rfl d_Node_init_6 ?_
  refine x_vret d_Node_init_9 rfl ?_
  exact ⟨rfl, rfl, rfl, rfl⟩
theorem c_Test_init (hd : 2 ≤ d) {a va sa : Nat} {i j : Int32} (ha : h a = some (k_Test, [.int 0, .int 0, .null, .null, .int 0])) : XM l G d M_Test_init [.ref a, .int i, .int j, .ref va, .ref sa] h c n (fun v h' c' n' => v = none ∧ h' = xup h a (k_Test, [.int i, .int j, .ref va, .ref sa, .int 3]) ∧ c' = c ∧ n' = n) := by
  obtain ⟨d, rfl⟩ : ∃ q, d = q + 1 := ⟨d - 1, by omega⟩
  refine XM.of (by decide +kernel) (Nat.le_of_ble_eq_true rfl) ?_
  refine x_aload_n d_Test_init_0 rfl rfl ?_
  refine x_iconst (v := 3) d_Test_init_1 (by decide) ?_
  refine x_callI (As := [_]) xci_Test_5 (c_Node_init_T (by omega) ha) rfl rfl (Nat.le_of_ble_eq_true rfl) d_Test_init_2 ?_
  rintro v h' c' n' ⟨rfl, rfl, rfl, rfl⟩
  refine x_aload_n d_Test_init_5 rfl rfl ?_
  refine x_iload_n d_Test_init_6 rfl ?_
  refine x_putF xf_Test_9_Test xp_Test_0 ⟨_, _, _, rfl, rfl, xw_1019⟩ rfl rfl rfl xup_self rfl rfl d_Test_init_7 ?_
  refine x_aload_n d_Test_init_10 rfl rfl ?_
  refine x_iload_n d_Test_init_11 rfl ?_
  refine x_putF xf_Test_15_Test xp_Test_1 ⟨_, _, _, rfl, rfl, xw_1021⟩ rfl rfl rfl xup_self rfl rfl d_Test_init_12 ?_
  refine x_aload_n d_Test_init_15 rfl rfl ?_
  refine x_aload_n d_Test_init_16 rfl rfl ?_
  refine x_putF xf_Test_18_Test xp_Test_2 ⟨_, _, _, rfl, rfl, xw_1022⟩ rfl rfl rfl xup_self rfl rfl d_Test_init_17 ?_
  refine x_aload_n d_Test_init_20 rfl rfl ?_
  refine x_aload d_Test_init_21 rfl rfl ?_
  refine x_putF xf_Test_22_Test xp_Test_3 ⟨_, _, _, rfl, rfl, xw_1024⟩ rfl rfl rfl xup_self rfl rfl d_Test_init_23 ?_
  refine x_vret d_Test_init_26 rfl ?_
  exact ⟨rfl, by rw [xup_up, xup_up, xup_up, xup_up]; rfl, rfl, rfl⟩
theorem c_Join_init (hd : 2 ≤ d) {a x y : Nat} {s : Int32} (ha : h a = some (k_Join, [.null, .null, .int 0])) : XM l G d M_Join_init [.ref a, .int s, .ref x, .ref y] h c n (fun v h' c' n' => v = none ∧ h' = xup h a (k_Join, [.ref x, .ref y, .int s]) ∧ c' = c ∧ n' = n) := by
  obtain ⟨d, rfl⟩ : ∃ q, d = q + 1 := ⟨d - 1, by omega⟩
  refine XM.of (by decide +kernel) (Nat.le_of_ble_eq_true rfl) ?_
  refine x_aload_n d_Join_init_0 rfl rfl ?_
  refine x_iload_n d_Join_init_1 rfl ?_
  refine x_callI (As := [_]) xci_Join_1 (c_Node_init_J (by omega) ha) rfl rfl (Nat.le_of_ble_eq_true rfl) d_Join_init_2 ?_
  rintro v h' c' n' ⟨rfl, rfl, rfl, rfl⟩
  refine x_aload_n d_Join_init_5 rfl rfl ?_
  refine x_aload_n d_Join_init_6 rfl rfl ?_
  refine x_putF xf_Join_7_Join xp_Join_0 ⟨_, _, _, rfl, rfl, xw_1091⟩ rfl rfl rfl xup_self rfl rfl d_Join_init_7 ?_
  refine x_aload_n d_Join_init_10 rfl rfl ?_
  refine x_aload_n d_Join_init_11 rfl rfl ?_
  refine x_putF xf_Join_13_Join xp_Join_1 ⟨_, _, _, rfl, rfl, xw_1092⟩ rfl rfl rfl xup_self rfl rfl d_Join_init_12 ?_
  refine x_vret d_Join_init_15 rfl ?_
  exact ⟨rfl, by rw [xup_up, xup_up]; rfl, rfl, rfl⟩
theorem c_Negation_init (hd : 2 ≤ d) {a x : Nat} (ha : h a = some (k_Negation, [.null, .int 0])) : XM l G d M_Negation_init [.ref a, .ref x] h c n (fun v h' c' n' => v = none ∧ h' = xup h a (k_Negation, [.ref x, .int 3]) ∧ c' = c ∧ n' = n) := by
  obtain ⟨d, rfl⟩ : ∃ q, d = q + 1 := ⟨d - 1, by omega⟩
  refine XM.of (by decide +kernel) (Nat.le_of_ble_eq_true rfl) ?_
  refine x_aload_n d_Negation_init_0 rfl rfl ?_
  refine x_iconst (v := 3) d_Negation_init_1 (by decide) ?_
  refine x_callI (As := [_]) xci_Negation_3 (c_Node_init_N (by omega) ha) rfl rfl (Nat.le_of_ble_eq_true rfl) d_Negation_init_2 ?_
  rintro v h' c' n' ⟨rfl, rfl, rfl, rfl⟩
  refine x_aload_n d_Negation_init_5 rfl rfl ?_
  refine x_aload_n d_Negation_init_6 rfl rfl ?_
  refine x_putF xf_Negation_7_Negation xp_Negation_0 ⟨_, _, _, rfl, rfl, xw_945⟩ rfl rfl rfl xup_self rfl rfl d_Negation_init_7 ?_
  refine x_vret d_Negation_init_10 rfl ?_
  exact ⟨rfl, by rw [xup_up]; rfl, rfl, rfl⟩
theorem bI_z (b : Bool) : narrow .boolean (.int (bI b)) = .int (bI b) := by cases b <;> rfl
theorem c_Constant_init (hd : 2 ≤ d) {a : Nat} {b : Bool} (ha : h a = some (k_Constant, [.int 0, .int 0])) : XM l G d M_Constant_init [.ref a, .int (bI b)] h c n (fun v h' c' n' => v = none ∧ h' = xup h a (k_Constant, [.int (bI b), .int 3]) ∧ c' = c ∧ n' = n) := by
  obtain ⟨d, rfl⟩ : ∃ q, d = q + 1 := ⟨d - 1, by omega⟩
  refine XM.of (by decide +kernel) (Nat.le_of_ble_eq_true rfl) ?_
  refine x_aload_n d_Constant_init_0 rfl rfl ?_
  refine x_iconst (v := 3) d_Constant_init_1 (by decide) ?_
  refine x_callI (As := [_]) xci_Constant_3 (c_Node_init_C (by omega) ha) rfl rfl (Nat.le_of_ble_eq_true rfl) d_Constant_init_2 ?_
  rintro v h' c' n' ⟨rfl, rfl, rfl, rfl⟩
  refine x_aload_n d_Constant_init_5 rfl rfl ?_
  refine x_iload_n d_Constant_init_6 rfl ?_
  refine x_putF xf_Constant_7_Constant xp_Constant_0 ⟨_, _, _, rfl, rfl, xw_969⟩ rfl (bI_z b) (by cases b <;> rfl) xup_self rfl rfl d_Constant_init_7 ?_
  refine x_vret d_Constant_init_10 rfl ?_
  exact ⟨rfl, by rw [xup_up]; rfl, rfl, rfl⟩
theorem c_Condition_init (hd : 1 ≤ d) {a x y z : Nat} (ha : h a = some (k_Condition, [.null, .null, .null])) : XM l G d M_Condition_init [.ref a, .ref x, .ref y, .ref z] h c n (fun v h' c' n' => v = none ∧ h' = xup h a (k_Condition, [.ref x, .ref y, .ref z]) ∧ c' = c ∧ n' = n) := by
  obtain ⟨d, rfl⟩ : ∃ q, d = q + 1 := ⟨d - 1, by omega⟩
  refine XM.of (by decide +kernel) (Nat.le_of_ble_eq_true rfl) ?_
  refine x_aload_n d_Condition_init_0 rfl rfl ?_
  refine x_objInit xw_1139 xw_40 xw_41 (Nat.le_of_ble_eq_true rfl) d_Condition_init_1 ?_
  refine x_aload_n d_Condition_init_4 rfl rfl ?_
  refine x_aload_n d_Condition_init_5 rfl rfl ?_
  refine x_putF xf_Condition_7_Condition xp_Condition_0 ⟨_, _, _, rfl, rfl, xw_1140⟩ rfl rfl rfl ha rfl rfl d_Condition_init_6 ?_
  refine x_aload_n d_Condition_init_9 rfl rfl ?_
  refine x_aload_n d_Condition_init_10 rfl rfl ?_
  refine x_putF xf_Condition_13_Condition xp_Condition_1 ⟨_, _, _, rfl, rfl, xw_1143⟩ rfl rfl rfl xup_self rfl rfl d_Condition_init_11 ?_
  refine x_aload_n d_Condition_init_14 rfl rfl ?_
  refine x_aload_n d_Condition_init_15 rfl rfl ?_
  refine x_putF xf_Condition_17_Condition xp_Condition_2 ⟨_, _, _, rfl, rfl, xw_1145⟩ rfl rfl rfl xup_self rfl rfl d_Condition_init_16 ?_
  refine x_vret d_Condition_init_19 rfl ?_
  exact ⟨rfl, by rw [xup_up, xup_up]; rfl, rfl, rfl⟩
/-! what lists of VALUES keep -/
theorem rls_le {t : List Nat} {kd : Nat} : ∀ (k : Nat) {p : Nat} {us : List Nat}, p ≤ t.length → (rls t kd k p us).1 ≤ t.length ∧ (rls t kd k p us).2.2.length + 2 * p ≤ 2 * (rls t kd k p us).1 := by
  intro k
  induction k with
  | zero =>
    intro p us hp
    have h1 : p ≤ skp t p := scn_ge
    exact ⟨skp_le hp, by show 0 + 2 * p ≤ 2 * skp t p; omega⟩
  | succ k ih =>
    intro p us hp
    have h1 := rvl_le (kd := kd) hp
    have h2 := rvl_ge (kd := kd) hp
    have h3 := skp_le h1
    have h4 : (rvl t kd p).1 ≤ skp t (rvl t kd p).1 := scn_ge
    unfold rls
    split
    · exact ⟨h1, by show (rvl t kd p).2.2.length + 2 * p ≤ 2 * (rvl t kd p).1; omega⟩
    · split
      · rename_i hc
        have : skp t (rvl t kd p).1 < t.length := Nat.lt_of_not_le (fun z => by rw [chr_out z] at hc; omega)
        exact ⟨by show skp t (rvl t kd p).1 + 1 ≤ t.length; omega, by show ((rvl t kd p).2.2 ++ [93]).length + 2 * p ≤ 2 * (skp t (rvl t kd p).1 + 1); simp; omega⟩
      · split
        · rename_i hc
          have h5 : skp t (rvl t kd p).1 < t.length := Nat.lt_of_not_le (fun z => by rw [chr_out z] at hc; omega)
          obtain ⟨i1, i2⟩ := ih (p := skp t (rvl t kd p).1 + 1) (us := us ++ [(rvl t kd p).2.1]) (by omega)
          refine ⟨i1, ?_⟩
          show ((rvl t kd p).2.2 ++ (xtx 23 ++ (rls t kd k (skp t (rvl t kd p).1 + 1) (us ++ [(rvl t kd p).2.1])).2.2)).length + 2 * p ≤ 2 * (rls t kd k (skp t (rvl t kd p).1 + 1) (us ++ [(rvl t kd p).2.1])).1
          rw [List.length_append, List.length_append, show (xtx 23).length = 2 from rfl]
          omega
        · exact ⟨h3, by show (rvl t kd p).2.2.length + 2 * p ≤ 2 * skp t (rvl t kd p).1; omega⟩
theorem rls_ok {t : List Nat} {kd : Nat} (ht : xasc t) : ∀ (k : Nat) {p : Nat} {us vs : List Nat}, us.length + k ≤ 6 → (∀ v ∈ us, v < 2 ^ 63) → (rls t kd k p us).2.1 = some vs → vs.length ≤ 6 ∧ ∀ v ∈ vs, v < 2 ^ 63 := by
  intro k
  induction k with
  | zero =>
    intro p us vs _ _ hz
    cases hz
  | succ k ih =>
    intro p us vs hk hu hz
    have hb : ∀ v ∈ us ++ [(rvl t kd p).2.1], v < 2 ^ 63 := by
      intro v hv
      rcases List.mem_append.mp hv with q | q
      · exact hu v q
      · rw [List.mem_singleton] at q; rw [q]; exact rvl_lt ht
    have hln : (us ++ [(rvl t kd p).2.1]).length = us.length + 1 := by simp
    unfold rls at hz
    split at hz
    · cases hz
    · split at hz
      · cases hz
        exact ⟨by omega, hb⟩
      · split at hz
        · exact ih (by omega) hb hz
        · cases hz
theorem rlist_le {t : List Nat} {kd p : Nat} (hp : p ≤ t.length) : (rlist t kd p).1 ≤ t.length ∧ (rlist t kd p).2.2.length + 2 * p ≤ 2 * (rlist t kd p).1 := by
  have h3 := skp_le hp
  have h4 : p ≤ skp t p := scn_ge
  unfold rlist
  split
  · rename_i hc
    have h5 : skp t p < t.length := Nat.lt_of_not_le (fun z => by rw [chr_out z] at hc; omega)
    obtain ⟨i1, i2⟩ := rls_le (t := t) (kd := kd) 6 (p := skp t p + 1) (us := []) (by omega)
    refine ⟨i1, ?_⟩
    show (91 :: (rls t kd 6 (skp t p + 1) []).2.2).length + 2 * p ≤ 2 * (rls t kd 6 (skp t p + 1) []).1
    rw [List.length_cons]
    omega
  · exact ⟨h3, by show 0 + 2 * p ≤ 2 * skp t p; omega⟩
theorem rlist_ok {t : List Nat} {kd p : Nat} {vs : List Nat} (ht : xasc t) (hz : (rlist t kd p).2.1 = some vs) : vs.length ≤ 6 ∧ ∀ v ∈ vs, v < 2 ^ 63 := by
  unfold rlist at hz
  split at hz
  · exact rls_ok ht 6 (us := []) (by simp) (fun _ z => by cases z) hz
  · cases hz
theorem rsg_ok {t : List Nat} {kd p : Nat} {vs : List Nat} (ht : xasc t) (hz : rsg t kd p = some vs) : vs.length ≤ 6 ∧ ∀ v ∈ vs, v < 2 ^ 63 := by
  unfold rsg at hz
  split at hz
  · cases hz
  · cases hz
    refine ⟨by simp, fun v hv => ?_⟩
    rw [List.mem_singleton] at hv
    rw [hv]
    exact rvl_lt ht
theorem opr_le {t : List Nat} {p : Nat} (hp : p ≤ t.length) : (opr t p).1 ≤ t.length ∧ p + (opr t p).2.2.length = (opr t p).1 ∧ (opr t p).2.2.length ≤ 2 := by
  unfold opr
  split
  · rename_i hc
    have h5 : p < t.length := Nat.lt_of_not_le (fun z => by rw [chr_out z] at hc; omega)
    split
    · rename_i hc
      have h6 : p + 1 < t.length := Nat.lt_of_not_le (fun z => by rw [chr_out z] at hc; omega)
      exact ⟨by show p + 2 ≤ _; omega, rfl, by show 2 ≤ 2; omega⟩
    · exact ⟨by show p + 1 ≤ _; omega, rfl, by show 1 ≤ 2; omega⟩
  · exact ⟨hp, rfl, by show 0 ≤ 2; omega⟩
theorem opr_lt {t : List Nat} {p a : Nat} (hz : (opr t p).2.1 = some a) : a < 16 := by
  unfold opr at hz
  split at hz
  · split at hz
    · simp only [Option.some.injEq] at hz
      rw [← hz]
      split
      · decide
      · split
        · decide
        · split <;> decide
    · simp only at hz
      split at hz
      · cases hz
      · split at hz
        · cases hz
        · split at hz <;> cases hz <;> decide
  · cases hz
theorem xelT {a : Nat} {vs : List Value} (ha : h a = some (k_Test, vs)) : xel G h "java/lang/Object" (.ref a) := Or.inr ⟨a, k_Test, _, vs, _, _, rfl, Or.inl ha, rfl, xw_1627⟩
end RD7
