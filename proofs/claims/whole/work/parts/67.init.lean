theorem ol_X8 : Cond.methodLink RX8 3 Lib.objectInit ∈ TB := tb_in 91 (by decide +kernel) rfl
theorem ol_X2 : Cond.methodLink RX2 3 Lib.objectInit ∈ TB := tb_in 113 (by decide +kernel) rfl
theorem ol_X3 : Cond.methodLink RX3 3 Lib.objectInit ∈ TB := tb_in 107 (by decide +kernel) rfl
theorem cl_X3_27 : Cond.classLink RX3 27 RX2 ∈ TB := tb_in 108 (by decide +kernel) rfl
theorem it_X2 : Cond.instantiable RX2 8 ∈ TB := tb_in 109 (by decide +kernel) rfl
theorem in_X2 : Cond.instanceMethod yX2_init ∈ TB := tb_in 111 (by decide +kernel) rfl
theorem ic_X2 : Cond.code yX2_init cX2_init 1 none ∈ TB := tb_in 112 (by decide +kernel) rfl
theorem pdI_X2 : yX2_init.cls ≠ "java/lang/invoke/MethodHandle" ∧ yX2_init.cls ≠ "java/lang/invoke/VarHandle" ∧ (parseMethodDescriptor yX2_init.desc).map (fun d => d.parameters.length) = some 0 := ⟨by decide +kernel, by decide +kernel, by decide +kernel⟩
theorem ol_X1 : Cond.methodLink RX1 3 Lib.objectInit ∈ TB := tb_in 267 (by decide +kernel) rfl
theorem ol_X0 : Cond.methodLink RX0 3 Lib.objectInit ∈ TB := tb_in 285 (by decide +kernel) rfl
theorem ol_X5 : Cond.methodLink RX5 3 Lib.objectInit ∈ TB := tb_in 295 (by decide +kernel) rfl
theorem ol_X7 : Cond.methodLink RX7 3 Lib.objectInit ∈ TB := tb_in 326 (by decide +kernel) rfl
theorem ol_X6 : Cond.methodLink RX6 3 Lib.objectInit ∈ TB := tb_in 346 (by decide +kernel) rfl
theorem ol_X4 : Cond.methodLink RX4 3 Lib.objectInit ∈ TB := tb_in 232 (by decide +kernel) rfl
theorem cl_X4_9 : Cond.classLink RX4 9 RX3 ∈ TB := tb_in 233 (by decide +kernel) rfl
theorem it_X3 : Cond.instantiable RX3 9 ∈ TB := tb_in 103 (by decide +kernel) rfl
theorem in_X3 : Cond.instanceMethod yX3_init ∈ TB := tb_in 105 (by decide +kernel) rfl
theorem ic_X3 : Cond.code yX3_init cX3_init 1 none ∈ TB := tb_in 106 (by decide +kernel) rfl
theorem pdI_X3 : yX3_init.cls ≠ "java/lang/invoke/MethodHandle" ∧ yX3_init.cls ≠ "java/lang/invoke/VarHandle" ∧ (parseMethodDescriptor yX3_init.desc).map (fun d => d.parameters.length) = some 0 := ⟨by decide +kernel, by decide +kernel, by decide +kernel⟩
theorem ol_X9 : Cond.methodLink RX9 1 Lib.objectInit ∈ TB := tb_in 83 (by decide +kernel) rfl
theorem cl_X9_7 : Cond.classLink RX9 7 RX8 ∈ TB := tb_in 86 (by decide +kernel) rfl
theorem it_X8 : Cond.instantiable RX8 2 ∈ TB := tb_in 87 (by decide +kernel) rfl
theorem in_X8 : Cond.instanceMethod yX8_init ∈ TB := tb_in 89 (by decide +kernel) rfl
theorem ic_X8 : Cond.code yX8_init cX8_init 1 none ∈ TB := tb_in 90 (by decide +kernel) rfl
theorem pdI_X8 : yX8_init.cls ≠ "java/lang/invoke/MethodHandle" ∧ yX8_init.cls ≠ "java/lang/invoke/VarHandle" ∧ (parseMethodDescriptor yX8_init.desc).map (fun d => d.parameters.length) = some 0 := ⟨by decide +kernel, by decide +kernel, by decide +kernel⟩
theorem cl_X9_16 : Cond.classLink RX9 16 RX3 ∈ TB := tb_in 102 (by decide +kernel) rfl
theorem cl_X9_23 : Cond.classLink RX9 23 RX4 ∈ TB := tb_in 227 (by decide +kernel) rfl
theorem it_X4 : Cond.instantiable RX4 7 ∈ TB := tb_in 228 (by decide +kernel) rfl
theorem il_X9_25 : Cond.methodLink RX9 25 yX4_init ∈ TB := tb_in 229 (by decide +kernel) rfl
theorem in_X4 : Cond.instanceMethod yX4_init ∈ TB := tb_in 230 (by decide +kernel) rfl
theorem ic_X4 : Cond.code yX4_init cX4_init 2 none ∈ TB := tb_in 231 (by decide +kernel) rfl
theorem pdI_X4 : yX4_init.cls ≠ "java/lang/invoke/MethodHandle" ∧ yX4_init.cls ≠ "java/lang/invoke/VarHandle" ∧ (parseMethodDescriptor yX4_init.desc).map (fun d => d.parameters.length) = some 1 := ⟨by decide +kernel, by decide +kernel, by decide +kernel⟩
theorem cl_X9_32 : Cond.classLink RX9 32 RX2 ∈ TB := tb_in 259 (by decide +kernel) rfl
theorem cl_X9_47 : Cond.classLink RX9 47 RX1 ∈ TB := tb_in 262 (by decide +kernel) rfl
theorem it_X1 : Cond.instantiable RX1 3 ∈ TB := tb_in 263 (by decide +kernel) rfl
theorem in_X1 : Cond.instanceMethod yX1_init ∈ TB := tb_in 265 (by decide +kernel) rfl
theorem ic_X1 : Cond.code yX1_init cX1_init 1 none ∈ TB := tb_in 266 (by decide +kernel) rfl
theorem pdI_X1 : yX1_init.cls ≠ "java/lang/invoke/MethodHandle" ∧ yX1_init.cls ≠ "java/lang/invoke/VarHandle" ∧ (parseMethodDescriptor yX1_init.desc).map (fun d => d.parameters.length) = some 0 := ⟨by decide +kernel, by decide +kernel, by decide +kernel⟩
theorem cl_X9_54 : Cond.classLink RX9 54 RX0 ∈ TB := tb_in 280 (by decide +kernel) rfl
theorem it_X0 : Cond.instantiable RX0 1 ∈ TB := tb_in 281 (by decide +kernel) rfl
theorem in_X0 : Cond.instanceMethod yX0_init ∈ TB := tb_in 283 (by decide +kernel) rfl
theorem ic_X0 : Cond.code yX0_init cX0_init 1 none ∈ TB := tb_in 284 (by decide +kernel) rfl
theorem pdI_X0 : yX0_init.cls ≠ "java/lang/invoke/MethodHandle" ∧ yX0_init.cls ≠ "java/lang/invoke/VarHandle" ∧ (parseMethodDescriptor yX0_init.desc).map (fun d => d.parameters.length) = some 0 := ⟨by decide +kernel, by decide +kernel, by decide +kernel⟩
theorem cl_X9_61 : Cond.classLink RX9 61 RX5 ∈ TB := tb_in 290 (by decide +kernel) rfl
theorem it_X5 : Cond.instantiable RX5 7 ∈ TB := tb_in 291 (by decide +kernel) rfl
theorem il_X9_63 : Cond.methodLink RX9 63 yX5_init ∈ TB := tb_in 292 (by decide +kernel) rfl
theorem in_X5 : Cond.instanceMethod yX5_init ∈ TB := tb_in 293 (by decide +kernel) rfl
theorem ic_X5 : Cond.code yX5_init cX5_init 3 none ∈ TB := tb_in 294 (by decide +kernel) rfl
theorem pdI_X5 : yX5_init.cls ≠ "java/lang/invoke/MethodHandle" ∧ yX5_init.cls ≠ "java/lang/invoke/VarHandle" ∧ (parseMethodDescriptor yX5_init.desc).map (fun d => d.parameters.length) = some 2 := ⟨by decide +kernel, by decide +kernel, by decide +kernel⟩
theorem cl_X9_80 : Cond.classLink RX9 80 RX7 ∈ TB := tb_in 321 (by decide +kernel) rfl
theorem it_X7 : Cond.instantiable RX7 4 ∈ TB := tb_in 322 (by decide +kernel) rfl
theorem in_X7 : Cond.instanceMethod yX7_init ∈ TB := tb_in 324 (by decide +kernel) rfl
theorem ic_X7 : Cond.code yX7_init cX7_init 1 none ∈ TB := tb_in 325 (by decide +kernel) rfl
theorem pdI_X7 : yX7_init.cls ≠ "java/lang/invoke/MethodHandle" ∧ yX7_init.cls ≠ "java/lang/invoke/VarHandle" ∧ (parseMethodDescriptor yX7_init.desc).map (fun d => d.parameters.length) = some 0 := ⟨by decide +kernel, by decide +kernel, by decide +kernel⟩
theorem cl_X9_87 : Cond.classLink RX9 87 RX6 ∈ TB := tb_in 341 (by decide +kernel) rfl
theorem it_X6 : Cond.instantiable RX6 5 ∈ TB := tb_in 342 (by decide +kernel) rfl
theorem in_X6 : Cond.instanceMethod yX6_init ∈ TB := tb_in 344 (by decide +kernel) rfl
theorem ic_X6 : Cond.code yX6_init cX6_init 1 none ∈ TB := tb_in 345 (by decide +kernel) rfl
theorem pdI_X6 : yX6_init.cls ≠ "java/lang/invoke/MethodHandle" ∧ yX6_init.cls ≠ "java/lang/invoke/VarHandle" ∧ (parseMethodDescriptor yX6_init.desc).map (fun d => d.parameters.length) = some 0 := ⟨by decide +kernel, by decide +kernel, by decide +kernel⟩
theorem ol_X10 : Cond.methodLink RX10 1 Lib.objectInit ∈ TB := tb_in 851 (by decide +kernel) rfl
theorem nwOK_at {U : State} (h : nwOK U) (i : Nat) {q : String × Nat × MethodName} (hi : nwL[i]? = some q) : va_Nw (.methodLinkNest q.1 q.2.1 q.2.2 "PoundBoys") U := h.1 q (List.mem_of_getElem? hi)
theorem xK {E : EN} {X : XT} {kn : Nat × Nat} {ws ws' w0 : va_W} {q : Nat} {lv : List (Nat × Value)} {st' rest : List Value} {r0 : Option Value} {is : List Nat} (ha : ascB 0 is = true) (h : putM 0 ws is w0 = ws') (h2 : r0.toList ++ rest = st') (k : GW E X kn ws' q lv st') : ∀ (r : Option Value) (w' : va_W), xQ r0 w0 r w' → GW E X kn (putAt ws is w') q lv (r.toList ++ rest) := by
  rintro r w' ⟨rfl, rfl⟩
  rw [putAt_M ha, h, h2]
  exact k
set_option maxHeartbeats 4000000 in
set_option maxRecDepth 40000 in
theorem i_text {E : EN} {a0 : Nat} : CI E yX8_init cX8_init 1 1 1 200 [.ref a0] [(a0, .inr (8, [.int (nI (0)), .null]))] (fun w => ∃ (a1 : Nat), w = [(a0, .inr (8, [.int (nI (0)), .ref a1])), (a1, .inl (E.2.1.2.1, 200, .inl (bA (fun _ => 0))))]) := by
  refine ci_of (by decide +kernel) rfl (Nat.le_of_ble_eq_true rfl) (lv := [(0, .ref a0)]) rfl (fun Y A Q C hnw hmn hret => ?_)
  refine x_aload_n C (q := 1) dX8_init_0 rfl rfl rfl ?_
  refine x_obj C (own := RX8) rfl ol_X8 (Nat.le_of_ble_eq_true rfl) (Nat.le_of_ble_eq_true rfl) (q := 4) dX8_init_1 rfl ?_
  refine x_aload_n C (q := 5) dX8_init_4 rfl rfl rfl ?_
  refine x_sipush C (v := nI 200) (q := 8) dX8_init_5 rfl (by decide) ?_
  refine x_newB C (N := 200) (f := (bA (fun _ => 0))) (fun _ => by rfl) (by decide) (by decide) (Nat.le_of_ble_eq_true rfl) (Nat.le_of_ble_eq_true rfl) (kn' := (1, 200)) rfl (q := 10) dX8_init_8 rfl (fun a1 => ?_)
  refine x_eq [(a0, .inr (8, [.int (nI (0)), .null])), (a1, .inl (E.2.1.2.1, 200, .inl (bA (fun _ => 0))))] rfl ?_
  refine x_putF C (ty := (.array .byte)) rfl inX8 tyX8 tyX8_ok nmX8 rfl 1 (by decide) mf_X8_9 rfl rfl hmn (by decide +kernel) rfl rfl 0 rfl (Nat.le_of_ble_eq_true rfl) (ws' := [(a0, .inr (8, [.int (nI (0)), .ref a1])), (a1, .inl (E.2.1.2.1, 200, .inl (bA (fun _ => 0))))]) rfl (q := 13) dX8_init_10 rfl ?_
  exact hret _ _ _ ⟨a1, rfl⟩ dX8_init_13
set_option maxHeartbeats 4000000 in
set_option maxRecDepth 40000 in
theorem i_folk {E : EN} {a0 : Nat} : CI E yX2_init cX2_init 1 1 6 56 [.ref a0] [(a0, .inr (2, [.int (nI (0)), .int (nI (0)), .null, .null, .null, .null, .null, .null]))] (fun w => ∃ (a1 a2 a3 a4 a5 a6 : Nat), w = [(a0, .inr (2, [.int (nI (0)), .int (nI (0)), .ref a1, .ref a2, .ref a3, .ref a4, .ref a5, .ref a6])), (a1, .inl (E.2.1.1, 10, .inl (nA (fun _ => 0)))), (a2, .inl (E.2.1.1, 10, .inl (nA (fun _ => 0)))), (a3, .inl (E.2.1.1, 10, .inl (nA (fun _ => 0)))), (a4, .inl (E.2.1.1, 10, .inl (nA (fun _ => 0)))), (a5, .inl (E.2.1.1, 10, .inl (nA (fun _ => 0)))), (a6, .inl (E.2.1.1, 6, .inl (fun _ => 0)))]) := by
  refine ci_of (by decide +kernel) rfl (Nat.le_of_ble_eq_true rfl) (lv := [(0, .ref a0)]) rfl (fun Y A Q C hnw hmn hret => ?_)
  refine x_aload_n C (q := 1) dX2_init_0 rfl rfl rfl ?_
  refine x_obj C (own := RX2) rfl ol_X2 (Nat.le_of_ble_eq_true rfl) (Nat.le_of_ble_eq_true rfl) (q := 4) dX2_init_1 rfl ?_
  refine x_aload_n C (q := 5) dX2_init_4 rfl rfl rfl ?_
  refine x_bipush C (v := nI 10) (q := 7) dX2_init_5 rfl (by decide) ?_
  refine x_newI C (N := 10) (f := (nA (fun _ => 0))) (fun _ => nI_0) (by decide) (by decide) (Nat.le_of_ble_eq_true rfl) (Nat.le_of_ble_eq_true rfl) (kn' := (1, 10)) rfl (q := 9) dX2_init_7 rfl (fun a1 => ?_)
  refine x_eq [(a0, .inr (2, [.int (nI (0)), .int (nI (0)), .null, .null, .null, .null, .null, .null])), (a1, .inl (E.2.1.1, 10, .inl (nA (fun _ => 0))))] rfl ?_
  refine x_putF C (ty := (.array .int)) rfl inX2 tyX2 tyX2_ok nmX2 rfl 2 (by decide) mf_X2_9 rfl rfl hmn (by decide +kernel) rfl rfl 0 rfl (Nat.le_of_ble_eq_true rfl) (ws' := [(a0, .inr (2, [.int (nI (0)), .int (nI (0)), .ref a1, .null, .null, .null, .null, .null])), (a1, .inl (E.2.1.1, 10, .inl (nA (fun _ => 0))))]) rfl (q := 12) dX2_init_9 rfl ?_
  refine x_aload_n C (q := 13) dX2_init_12 rfl rfl rfl ?_
  refine x_bipush C (v := nI 10) (q := 15) dX2_init_13 rfl (by decide) ?_
  refine x_newI C (N := 10) (f := (nA (fun _ => 0))) (fun _ => nI_0) (by decide) (by decide) (Nat.le_of_ble_eq_true rfl) (Nat.le_of_ble_eq_true rfl) (kn' := (2, 20)) rfl (q := 17) dX2_init_15 rfl (fun a2 => ?_)
  refine x_eq [(a0, .inr (2, [.int (nI (0)), .int (nI (0)), .ref a1, .null, .null, .null, .null, .null])), (a1, .inl (E.2.1.1, 10, .inl (nA (fun _ => 0)))), (a2, .inl (E.2.1.1, 10, .inl (nA (fun _ => 0))))] rfl ?_
  refine x_putF C (ty := (.array .int)) rfl inX2 tyX2 tyX2_ok nmX2 rfl 3 (by decide) mf_X2_15 rfl rfl hmn (by decide +kernel) rfl rfl 0 rfl (Nat.le_of_ble_eq_true rfl) (ws' := [(a0, .inr (2, [.int (nI (0)), .int (nI (0)), .ref a1, .ref a2, .null, .null, .null, .null])), (a1, .inl (E.2.1.1, 10, .inl (nA (fun _ => 0)))), (a2, .inl (E.2.1.1, 10, .inl (nA (fun _ => 0))))]) rfl (q := 20) dX2_init_17 rfl ?_
  refine x_aload_n C (q := 21) dX2_init_20 rfl rfl rfl ?_
  refine x_bipush C (v := nI 10) (q := 23) dX2_init_21 rfl (by decide) ?_
  refine x_newI C (N := 10) (f := (nA (fun _ => 0))) (fun _ => nI_0) (by decide) (by decide) (Nat.le_of_ble_eq_true rfl) (Nat.le_of_ble_eq_true rfl) (kn' := (3, 30)) rfl (q := 25) dX2_init_23 rfl (fun a3 => ?_)
  refine x_eq [(a0, .inr (2, [.int (nI (0)), .int (nI (0)), .ref a1, .ref a2, .null, .null, .null, .null])), (a1, .inl (E.2.1.1, 10, .inl (nA (fun _ => 0)))), (a2, .inl (E.2.1.1, 10, .inl (nA (fun _ => 0)))), (a3, .inl (E.2.1.1, 10, .inl (nA (fun _ => 0))))] rfl ?_
  refine x_putF C (ty := (.array .int)) rfl inX2 tyX2 tyX2_ok nmX2 rfl 4 (by decide) mf_X2_18 rfl rfl hmn (by decide +kernel) rfl rfl 0 rfl (Nat.le_of_ble_eq_true rfl) (ws' := [(a0, .inr (2, [.int (nI (0)), .int (nI (0)), .ref a1, .ref a2, .ref a3, .null, .null, .null])), (a1, .inl (E.2.1.1, 10, .inl (nA (fun _ => 0)))), (a2, .inl (E.2.1.1, 10, .inl (nA (fun _ => 0)))), (a3, .inl (E.2.1.1, 10, .inl (nA (fun _ => 0))))]) rfl (q := 28) dX2_init_25 rfl ?_
  refine x_aload_n C (q := 29) dX2_init_28 rfl rfl rfl ?_
  refine x_bipush C (v := nI 10) (q := 31) dX2_init_29 rfl (by decide) ?_
  refine x_newI C (N := 10) (f := (nA (fun _ => 0))) (fun _ => nI_0) (by decide) (by decide) (Nat.le_of_ble_eq_true rfl) (Nat.le_of_ble_eq_true rfl) (kn' := (4, 40)) rfl (q := 33) dX2_init_31 rfl (fun a4 => ?_)
  refine x_eq [(a0, .inr (2, [.int (nI (0)), .int (nI (0)), .ref a1, .ref a2, .ref a3, .null, .null, .null])), (a1, .inl (E.2.1.1, 10, .inl (nA (fun _ => 0)))), (a2, .inl (E.2.1.1, 10, .inl (nA (fun _ => 0)))), (a3, .inl (E.2.1.1, 10, .inl (nA (fun _ => 0)))), (a4, .inl (E.2.1.1, 10, .inl (nA (fun _ => 0))))] rfl ?_
  refine x_putF C (ty := (.array .int)) rfl inX2 tyX2 tyX2_ok nmX2 rfl 5 (by decide) mf_X2_21 rfl rfl hmn (by decide +kernel) rfl rfl 0 rfl (Nat.le_of_ble_eq_true rfl) (ws' := [(a0, .inr (2, [.int (nI (0)), .int (nI (0)), .ref a1, .ref a2, .ref a3, .ref a4, .null, .null])), (a1, .inl (E.2.1.1, 10, .inl (nA (fun _ => 0)))), (a2, .inl (E.2.1.1, 10, .inl (nA (fun _ => 0)))), (a3, .inl (E.2.1.1, 10, .inl (nA (fun _ => 0)))), (a4, .inl (E.2.1.1, 10, .inl (nA (fun _ => 0))))]) rfl (q := 36) dX2_init_33 rfl ?_
  refine x_aload_n C (q := 37) dX2_init_36 rfl rfl rfl ?_
  refine x_bipush C (v := nI 10) (q := 39) dX2_init_37 rfl (by decide) ?_
  refine x_newI C (N := 10) (f := (nA (fun _ => 0))) (fun _ => nI_0) (by decide) (by decide) (Nat.le_of_ble_eq_true rfl) (Nat.le_of_ble_eq_true rfl) (kn' := (5, 50)) rfl (q := 41) dX2_init_39 rfl (fun a5 => ?_)
  refine x_eq [(a0, .inr (2, [.int (nI (0)), .int (nI (0)), .ref a1, .ref a2, .ref a3, .ref a4, .null, .null])), (a1, .inl (E.2.1.1, 10, .inl (nA (fun _ => 0)))), (a2, .inl (E.2.1.1, 10, .inl (nA (fun _ => 0)))), (a3, .inl (E.2.1.1, 10, .inl (nA (fun _ => 0)))), (a4, .inl (E.2.1.1, 10, .inl (nA (fun _ => 0)))), (a5, .inl (E.2.1.1, 10, .inl (nA (fun _ => 0))))] rfl ?_
  refine x_putF C (ty := (.array .int)) rfl inX2 tyX2 tyX2_ok nmX2 rfl 6 (by decide) mf_X2_24 rfl rfl hmn (by decide +kernel) rfl rfl 0 rfl (Nat.le_of_ble_eq_true rfl) (ws' := [(a0, .inr (2, [.int (nI (0)), .int (nI (0)), .ref a1, .ref a2, .ref a3, .ref a4, .ref a5, .null])), (a1, .inl (E.2.1.1, 10, .inl (nA (fun _ => 0)))), (a2, .inl (E.2.1.1, 10, .inl (nA (fun _ => 0)))), (a3, .inl (E.2.1.1, 10, .inl (nA (fun _ => 0)))), (a4, .inl (E.2.1.1, 10, .inl (nA (fun _ => 0)))), (a5, .inl (E.2.1.1, 10, .inl (nA (fun _ => 0))))]) rfl (q := 44) dX2_init_41 rfl ?_
  refine x_aload_n C (q := 45) dX2_init_44 rfl rfl rfl ?_
  refine x_bipush C (v := nI 6) (q := 47) dX2_init_45 rfl (by decide) ?_
  refine x_newI C (N := 6) (f := (fun _ => 0)) (fun _ => rfl) (by decide) (by decide) (Nat.le_of_ble_eq_true rfl) (Nat.le_of_ble_eq_true rfl) (kn' := (6, 56)) rfl (q := 49) dX2_init_47 rfl (fun a6 => ?_)
  refine x_eq [(a0, .inr (2, [.int (nI (0)), .int (nI (0)), .ref a1, .ref a2, .ref a3, .ref a4, .ref a5, .null])), (a1, .inl (E.2.1.1, 10, .inl (nA (fun _ => 0)))), (a2, .inl (E.2.1.1, 10, .inl (nA (fun _ => 0)))), (a3, .inl (E.2.1.1, 10, .inl (nA (fun _ => 0)))), (a4, .inl (E.2.1.1, 10, .inl (nA (fun _ => 0)))), (a5, .inl (E.2.1.1, 10, .inl (nA (fun _ => 0)))), (a6, .inl (E.2.1.1, 6, .inl (fun _ => 0)))] rfl ?_
  refine x_putF C (ty := (.array .int)) rfl inX2 tyX2 tyX2_ok nmX2 rfl 7 (by decide) mf_X2_27 rfl rfl hmn (by decide +kernel) rfl rfl 0 rfl (Nat.le_of_ble_eq_true rfl) (ws' := [(a0, .inr (2, [.int (nI (0)), .int (nI (0)), .ref a1, .ref a2, .ref a3, .ref a4, .ref a5, .ref a6])), (a1, .inl (E.2.1.1, 10, .inl (nA (fun _ => 0)))), (a2, .inl (E.2.1.1, 10, .inl (nA (fun _ => 0)))), (a3, .inl (E.2.1.1, 10, .inl (nA (fun _ => 0)))), (a4, .inl (E.2.1.1, 10, .inl (nA (fun _ => 0)))), (a5, .inl (E.2.1.1, 10, .inl (nA (fun _ => 0)))), (a6, .inl (E.2.1.1, 6, .inl (fun _ => 0)))]) rfl (q := 52) dX2_init_49 rfl ?_
  exact hret _ _ _ ⟨a1, a2, a3, a4, a5, a6, rfl⟩ dX2_init_52
set_option maxHeartbeats 4000000 in
set_option maxRecDepth 40000 in
theorem i_leag {E : EN} {a0 : Nat} : CI E yX3_init cX3_init 1 2 12 94 [.ref a0] [(a0, .inr (3, [.int (nI (0)), .int (nI (0)), .int (nI (0)), .null, .null, .null, .null, .null, .null]))] (fun w => ∃ (a1 a2 a3 a4 a5 a6 a7 a8 a9 a10 a11 a12 : Nat), w = [(a0, .inr (3, [.int (nI (0)), .int (nI (0)), .int (nI (0)), .ref a1, .ref a2, .ref a3, .ref a4, .ref a5, .ref a6])), (a1, .inl (E.2.1.1, 6, .inl (nA (fun _ => 0)))), (a2, .inl (E.2.1.1, 6, .inl (nA (fun _ => 0)))), (a3, .inl (E.2.1.1, 6, .inl (nA (fun _ => 0)))), (a4, .inl (E.2.1.1, 6, .inl (fun _ => 0))), (a5, .inl (E.2.1.1, 6, .inl (nA (fun _ => 0)))), (a6, .inr (2, [.int (nI (0)), .int (nI (0)), .ref a7, .ref a8, .ref a9, .ref a10, .ref a11, .ref a12])), (a7, .inl (E.2.1.1, 10, .inl (nA (fun _ => 0)))), (a8, .inl (E.2.1.1, 10, .inl (nA (fun _ => 0)))), (a9, .inl (E.2.1.1, 10, .inl (nA (fun _ => 0)))), (a10, .inl (E.2.1.1, 10, .inl (nA (fun _ => 0)))), (a11, .inl (E.2.1.1, 10, .inl (nA (fun _ => 0)))), (a12, .inl (E.2.1.1, 6, .inl (fun _ => 0)))]) := by
  refine ci_of (by decide +kernel) rfl (Nat.le_of_ble_eq_true rfl) (lv := [(0, .ref a0)]) rfl (fun Y A Q C hnw hmn hret => ?_)
  refine x_aload_n C (q := 1) dX3_init_0 rfl rfl rfl ?_
  refine x_obj C (own := RX3) rfl ol_X3 (Nat.le_of_ble_eq_true rfl) (Nat.le_of_ble_eq_true rfl) (q := 4) dX3_init_1 rfl ?_
  refine x_aload_n C (q := 5) dX3_init_4 rfl rfl rfl ?_
  refine x_bipush C (v := nI 6) (q := 7) dX3_init_5 rfl (by decide) ?_
  refine x_newI C (N := 6) (f := (nA (fun _ => 0))) (fun _ => nI_0) (by decide) (by decide) (Nat.le_of_ble_eq_true rfl) (Nat.le_of_ble_eq_true rfl) (kn' := (1, 6)) rfl (q := 9) dX3_init_7 rfl (fun a1 => ?_)
  refine x_eq [(a0, .inr (3, [.int (nI (0)), .int (nI (0)), .int (nI (0)), .null, .null, .null, .null, .null, .null])), (a1, .inl (E.2.1.1, 6, .inl (nA (fun _ => 0))))] rfl ?_
  refine x_putF C (ty := (.array .int)) rfl inX3 tyX3 tyX3_ok nmX3 rfl 3 (by decide) mf_X3_9 rfl rfl hmn (by decide +kernel) rfl rfl 0 rfl (Nat.le_of_ble_eq_true rfl) (ws' := [(a0, .inr (3, [.int (nI (0)), .int (nI (0)), .int (nI (0)), .ref a1, .null, .null, .null, .null, .null])), (a1, .inl (E.2.1.1, 6, .inl (nA (fun _ => 0))))]) rfl (q := 12) dX3_init_9 rfl ?_
  refine x_aload_n C (q := 13) dX3_init_12 rfl rfl rfl ?_
  refine x_bipush C (v := nI 6) (q := 15) dX3_init_13 rfl (by decide) ?_
  refine x_newI C (N := 6) (f := (nA (fun _ => 0))) (fun _ => nI_0) (by decide) (by decide) (Nat.le_of_ble_eq_true rfl) (Nat.le_of_ble_eq_true rfl) (kn' := (2, 12)) rfl (q := 17) dX3_init_15 rfl (fun a2 => ?_)
  refine x_eq [(a0, .inr (3, [.int (nI (0)), .int (nI (0)), .int (nI (0)), .ref a1, .null, .null, .null, .null, .null])), (a1, .inl (E.2.1.1, 6, .inl (nA (fun _ => 0)))), (a2, .inl (E.2.1.1, 6, .inl (nA (fun _ => 0))))] rfl ?_
  refine x_putF C (ty := (.array .int)) rfl inX3 tyX3 tyX3_ok nmX3 rfl 4 (by decide) mf_X3_15 rfl rfl hmn (by decide +kernel) rfl rfl 0 rfl (Nat.le_of_ble_eq_true rfl) (ws' := [(a0, .inr (3, [.int (nI (0)), .int (nI (0)), .int (nI (0)), .ref a1, .ref a2, .null, .null, .null, .null])), (a1, .inl (E.2.1.1, 6, .inl (nA (fun _ => 0)))), (a2, .inl (E.2.1.1, 6, .inl (nA (fun _ => 0))))]) rfl (q := 20) dX3_init_17 rfl ?_
  refine x_aload_n C (q := 21) dX3_init_20 rfl rfl rfl ?_
  refine x_bipush C (v := nI 6) (q := 23) dX3_init_21 rfl (by decide) ?_
  refine x_newI C (N := 6) (f := (nA (fun _ => 0))) (fun _ => nI_0) (by decide) (by decide) (Nat.le_of_ble_eq_true rfl) (Nat.le_of_ble_eq_true rfl) (kn' := (3, 18)) rfl (q := 25) dX3_init_23 rfl (fun a3 => ?_)
  refine x_eq [(a0, .inr (3, [.int (nI (0)), .int (nI (0)), .int (nI (0)), .ref a1, .ref a2, .null, .null, .null, .null])), (a1, .inl (E.2.1.1, 6, .inl (nA (fun _ => 0)))), (a2, .inl (E.2.1.1, 6, .inl (nA (fun _ => 0)))), (a3, .inl (E.2.1.1, 6, .inl (nA (fun _ => 0))))] rfl ?_
  refine x_putF C (ty := (.array .int)) rfl inX3 tyX3 tyX3_ok nmX3 rfl 5 (by decide) mf_X3_18 rfl rfl hmn (by decide +kernel) rfl rfl 0 rfl (Nat.le_of_ble_eq_true rfl) (ws' := [(a0, .inr (3, [.int (nI (0)), .int (nI (0)), .int (nI (0)), .ref a1, .ref a2, .ref a3, .null, .null, .null])), (a1, .inl (E.2.1.1, 6, .inl (nA (fun _ => 0)))), (a2, .inl (E.2.1.1, 6, .inl (nA (fun _ => 0)))), (a3, .inl (E.2.1.1, 6, .inl (nA (fun _ => 0))))]) rfl (q := 28) dX3_init_25 rfl ?_
  refine x_aload_n C (q := 29) dX3_init_28 rfl rfl rfl ?_
  refine x_bipush C (v := nI 6) (q := 31) dX3_init_29 rfl (by decide) ?_
  refine x_newI C (N := 6) (f := (fun _ => 0)) (fun _ => rfl) (by decide) (by decide) (Nat.le_of_ble_eq_true rfl) (Nat.le_of_ble_eq_true rfl) (kn' := (4, 24)) rfl (q := 33) dX3_init_31 rfl (fun a4 => ?_)
  refine x_eq [(a0, .inr (3, [.int (nI (0)), .int (nI (0)), .int (nI (0)), .ref a1, .ref a2, .ref a3, .null, .null, .null])), (a1, .inl (E.2.1.1, 6, .inl (nA (fun _ => 0)))), (a2, .inl (E.2.1.1, 6, .inl (nA (fun _ => 0)))), (a3, .inl (E.2.1.1, 6, .inl (nA (fun _ => 0)))), (a4, .inl (E.2.1.1, 6, .inl (fun _ => 0)))] rfl ?_
  refine x_putF C (ty := (.array .int)) rfl inX3 tyX3 tyX3_ok nmX3 rfl 6 (by decide) mf_X3_21 rfl rfl hmn (by decide +kernel) rfl rfl 0 rfl (Nat.le_of_ble_eq_true rfl) (ws' := [(a0, .inr (3, [.int (nI (0)), .int (nI (0)), .int (nI (0)), .ref a1, .ref a2, .ref a3, .ref a4, .null, .null])), (a1, .inl (E.2.1.1, 6, .inl (nA (fun _ => 0)))), (a2, .inl (E.2.1.1, 6, .inl (nA (fun _ => 0)))), (a3, .inl (E.2.1.1, 6, .inl (nA (fun _ => 0)))), (a4, .inl (E.2.1.1, 6, .inl (fun _ => 0)))]) rfl (q := 36) dX3_init_33 rfl ?_
  refine x_aload_n C (q := 37) dX3_init_36 rfl rfl rfl ?_
  refine x_bipush C (v := nI 6) (q := 39) dX3_init_37 rfl (by decide) ?_
  refine x_newI C (N := 6) (f := (nA (fun _ => 0))) (fun _ => nI_0) (by decide) (by decide) (Nat.le_of_ble_eq_true rfl) (Nat.le_of_ble_eq_true rfl) (kn' := (5, 30)) rfl (q := 41) dX3_init_39 rfl (fun a5 => ?_)
  refine x_eq [(a0, .inr (3, [.int (nI (0)), .int (nI (0)), .int (nI (0)), .ref a1, .ref a2, .ref a3, .ref a4, .null, .null])), (a1, .inl (E.2.1.1, 6, .inl (nA (fun _ => 0)))), (a2, .inl (E.2.1.1, 6, .inl (nA (fun _ => 0)))), (a3, .inl (E.2.1.1, 6, .inl (nA (fun _ => 0)))), (a4, .inl (E.2.1.1, 6, .inl (fun _ => 0))), (a5, .inl (E.2.1.1, 6, .inl (nA (fun _ => 0))))] rfl ?_
  refine x_putF C (ty := (.array .int)) rfl inX3 tyX3 tyX3_ok nmX3 rfl 7 (by decide) mf_X3_24 rfl rfl hmn (by decide +kernel) rfl rfl 0 rfl (Nat.le_of_ble_eq_true rfl) (ws' := [(a0, .inr (3, [.int (nI (0)), .int (nI (0)), .int (nI (0)), .ref a1, .ref a2, .ref a3, .ref a4, .ref a5, .null])), (a1, .inl (E.2.1.1, 6, .inl (nA (fun _ => 0)))), (a2, .inl (E.2.1.1, 6, .inl (nA (fun _ => 0)))), (a3, .inl (E.2.1.1, 6, .inl (nA (fun _ => 0)))), (a4, .inl (E.2.1.1, 6, .inl (fun _ => 0))), (a5, .inl (E.2.1.1, 6, .inl (nA (fun _ => 0))))]) rfl (q := 44) dX3_init_41 rfl ?_
  refine x_aload_n C (q := 45) dX3_init_44 rfl rfl rfl ?_
  refine x_new C (own := RX3) rfl inX2 tyX2 tyX2_ok cl_X3_27 it_X2 mi_X2 (ci := 2) rfl (fs := [.int (nI (0)), .int (nI (0)), .null, .null, .null, .null, .null, .null]) (fun j hj => by rcases (show j = 0 ∨ j = 1 ∨ j = 2 ∨ j = 3 ∨ j = 4 ∨ j = 5 ∨ j = 6 ∨ j = 7 by omega) with rfl | rfl | rfl | rfl | rfl | rfl | rfl | rfl <;> rfl) (Nat.le_of_ble_eq_true rfl) (Nat.le_of_ble_eq_true rfl) (kn' := (6, 38)) rfl (q := 48) dX3_init_45 rfl (fun a6 => ?_)
  refine x_dup C (q := 49) dX3_init_48 rfl rfl ?_
  refine x_callJ C hnw (host := "PoundBoys") (Or.inr (nwOK_at hnw 2 rfl)) in_X2 mi_X2 ic_X2 rfl pdI_X2 (by decide) (i_folk) (Nat.le_of_ble_eq_true rfl) (Nat.le_of_ble_eq_true rfl) (Nat.le_of_ble_eq_true rfl) (Nat.le_of_ble_eq_true rfl) (kn' := (12, 94)) rfl rfl (rest := [.ref a6, .ref a0]) rfl (Nat.le_of_ble_eq_true rfl) (q := 52) dX3_init_49 rfl ?_
  rintro w' ⟨a7, a8, a9, a10, a11, a12, rfl⟩
  refine x_eq [(a0, .inr (3, [.int (nI (0)), .int (nI (0)), .int (nI (0)), .ref a1, .ref a2, .ref a3, .ref a4, .ref a5, .null])), (a1, .inl (E.2.1.1, 6, .inl (nA (fun _ => 0)))), (a2, .inl (E.2.1.1, 6, .inl (nA (fun _ => 0)))), (a3, .inl (E.2.1.1, 6, .inl (nA (fun _ => 0)))), (a4, .inl (E.2.1.1, 6, .inl (fun _ => 0))), (a5, .inl (E.2.1.1, 6, .inl (nA (fun _ => 0)))), (a6, .inr (2, [.int (nI (0)), .int (nI (0)), .ref a7, .ref a8, .ref a9, .ref a10, .ref a11, .ref a12])), (a7, .inl (E.2.1.1, 10, .inl (nA (fun _ => 0)))), (a8, .inl (E.2.1.1, 10, .inl (nA (fun _ => 0)))), (a9, .inl (E.2.1.1, 10, .inl (nA (fun _ => 0)))), (a10, .inl (E.2.1.1, 10, .inl (nA (fun _ => 0)))), (a11, .inl (E.2.1.1, 10, .inl (nA (fun _ => 0)))), (a12, .inl (E.2.1.1, 6, .inl (fun _ => 0)))] rfl ?_
  refine x_putF C (ty := (.object "PoundBoys$Folk")) rfl inX3 tyX3 tyX3_ok nmX3 rfl 8 (by decide) mf_X3_30 rfl rfl hmn (by decide +kernel) rfl rfl 0 rfl (Nat.le_of_ble_eq_true rfl) (ws' := [(a0, .inr (3, [.int (nI (0)), .int (nI (0)), .int (nI (0)), .ref a1, .ref a2, .ref a3, .ref a4, .ref a5, .ref a6])), (a1, .inl (E.2.1.1, 6, .inl (nA (fun _ => 0)))), (a2, .inl (E.2.1.1, 6, .inl (nA (fun _ => 0)))), (a3, .inl (E.2.1.1, 6, .inl (nA (fun _ => 0)))), (a4, .inl (E.2.1.1, 6, .inl (fun _ => 0))), (a5, .inl (E.2.1.1, 6, .inl (nA (fun _ => 0)))), (a6, .inr (2, [.int (nI (0)), .int (nI (0)), .ref a7, .ref a8, .ref a9, .ref a10, .ref a11, .ref a12])), (a7, .inl (E.2.1.1, 10, .inl (nA (fun _ => 0)))), (a8, .inl (E.2.1.1, 10, .inl (nA (fun _ => 0)))), (a9, .inl (E.2.1.1, 10, .inl (nA (fun _ => 0)))), (a10, .inl (E.2.1.1, 10, .inl (nA (fun _ => 0)))), (a11, .inl (E.2.1.1, 10, .inl (nA (fun _ => 0)))), (a12, .inl (E.2.1.1, 6, .inl (fun _ => 0)))]) rfl (q := 55) dX3_init_52 rfl ?_
  exact hret _ _ _ ⟨a1, a2, a3, a4, a5, a6, a7, a8, a9, a10, a11, a12, rfl⟩ dX3_init_55
set_option maxHeartbeats 4000000 in
set_option maxRecDepth 40000 in
theorem i_exch {E : EN} {a0 : Nat} : CI E yX1_init cX1_init 1 1 2 16 [.ref a0] [(a0, .inr (1, [.int (nI (0)), .null, .null]))] (fun w => ∃ (a1 a2 : Nat), w = [(a0, .inr (1, [.int (nI (0)), .ref a1, .ref a2])), (a1, .inl (E.2.1.1, 8, .inl (nA (fun _ => 0)))), (a2, .inl (E.2.1.1, 8, .inl (nA (fun _ => 0))))]) := by
  refine ci_of (by decide +kernel) rfl (Nat.le_of_ble_eq_true rfl) (lv := [(0, .ref a0)]) rfl (fun Y A Q C hnw hmn hret => ?_)
  refine x_aload_n C (q := 1) dX1_init_0 rfl rfl rfl ?_
  refine x_obj C (own := RX1) rfl ol_X1 (Nat.le_of_ble_eq_true rfl) (Nat.le_of_ble_eq_true rfl) (q := 4) dX1_init_1 rfl ?_
  refine x_aload_n C (q := 5) dX1_init_4 rfl rfl rfl ?_
  refine x_bipush C (v := nI 8) (q := 7) dX1_init_5 rfl (by decide) ?_
  refine x_newI C (N := 8) (f := (nA (fun _ => 0))) (fun _ => nI_0) (by decide) (by decide) (Nat.le_of_ble_eq_true rfl) (Nat.le_of_ble_eq_true rfl) (kn' := (1, 8)) rfl (q := 9) dX1_init_7 rfl (fun a1 => ?_)
  refine x_eq [(a0, .inr (1, [.int (nI (0)), .null, .null])), (a1, .inl (E.2.1.1, 8, .inl (nA (fun _ => 0))))] rfl ?_
  refine x_putF C (ty := (.array .int)) rfl inX1 tyX1 tyX1_ok nmX1 rfl 1 (by decide) mf_X1_9 rfl rfl hmn (by decide +kernel) rfl rfl 0 rfl (Nat.le_of_ble_eq_true rfl) (ws' := [(a0, .inr (1, [.int (nI (0)), .ref a1, .null])), (a1, .inl (E.2.1.1, 8, .inl (nA (fun _ => 0))))]) rfl (q := 12) dX1_init_9 rfl ?_
  refine x_aload_n C (q := 13) dX1_init_12 rfl rfl rfl ?_
  refine x_bipush C (v := nI 8) (q := 15) dX1_init_13 rfl (by decide) ?_
  refine x_newI C (N := 8) (f := (nA (fun _ => 0))) (fun _ => nI_0) (by decide) (by decide) (Nat.le_of_ble_eq_true rfl) (Nat.le_of_ble_eq_true rfl) (kn' := (2, 16)) rfl (q := 17) dX1_init_15 rfl (fun a2 => ?_)
  refine x_eq [(a0, .inr (1, [.int (nI (0)), .ref a1, .null])), (a1, .inl (E.2.1.1, 8, .inl (nA (fun _ => 0)))), (a2, .inl (E.2.1.1, 8, .inl (nA (fun _ => 0))))] rfl ?_
  refine x_putF C (ty := (.array .int)) rfl inX1 tyX1 tyX1_ok nmX1 rfl 2 (by decide) mf_X1_15 rfl rfl hmn (by decide +kernel) rfl rfl 0 rfl (Nat.le_of_ble_eq_true rfl) (ws' := [(a0, .inr (1, [.int (nI (0)), .ref a1, .ref a2])), (a1, .inl (E.2.1.1, 8, .inl (nA (fun _ => 0)))), (a2, .inl (E.2.1.1, 8, .inl (nA (fun _ => 0))))]) rfl (q := 20) dX1_init_17 rfl ?_
  exact hret _ _ _ ⟨a1, a2, rfl⟩ dX1_init_20
set_option maxHeartbeats 4000000 in
set_option maxRecDepth 40000 in
theorem i_cal {E : EN} {a0 : Nat} : CI E yX0_init cX0_init 1 1 1 6 [.ref a0] [(a0, .inr (0, [.null]))] (fun w => ∃ (a1 : Nat), w = [(a0, .inr (0, [.ref a1])), (a1, .inl (E.2.1.1, 6, .inl (fun _ => 0)))]) := by
  refine ci_of (by decide +kernel) rfl (Nat.le_of_ble_eq_true rfl) (lv := [(0, .ref a0)]) rfl (fun Y A Q C hnw hmn hret => ?_)
  refine x_aload_n C (q := 1) dX0_init_0 rfl rfl rfl ?_
  refine x_obj C (own := RX0) rfl ol_X0 (Nat.le_of_ble_eq_true rfl) (Nat.le_of_ble_eq_true rfl) (q := 4) dX0_init_1 rfl ?_
  refine x_aload_n C (q := 5) dX0_init_4 rfl rfl rfl ?_
  refine x_bipush C (v := nI 6) (q := 7) dX0_init_5 rfl (by decide) ?_
  refine x_newI C (N := 6) (f := (fun _ => 0)) (fun _ => rfl) (by decide) (by decide) (Nat.le_of_ble_eq_true rfl) (Nat.le_of_ble_eq_true rfl) (kn' := (1, 6)) rfl (q := 9) dX0_init_7 rfl (fun a1 => ?_)
  refine x_eq [(a0, .inr (0, [.null])), (a1, .inl (E.2.1.1, 6, .inl (fun _ => 0)))] rfl ?_
  refine x_putF C (ty := (.array .int)) rfl inX0 tyX0 tyX0_ok nmX0 rfl 0 (by decide) mf_X0_9 rfl rfl hmn (by decide +kernel) rfl rfl 0 rfl (Nat.le_of_ble_eq_true rfl) (ws' := [(a0, .inr (0, [.ref a1])), (a1, .inl (E.2.1.1, 6, .inl (fun _ => 0)))]) rfl (q := 12) dX0_init_9 rfl ?_
  exact hret _ _ _ ⟨a1, rfl⟩ dX0_init_12
set_option maxHeartbeats 4000000 in
set_option maxRecDepth 40000 in
theorem i_ring {E : EN} {a0 b1 b2 : Nat} : CI E yX5_init cX5_init 3 1 3 22 [.ref a0, .ref b1, .ref b2] [(a0, .inr (5, [.int (nI (0)), .int (nI (0)), .null, .null, .null, .null, .null]))] (fun w => ∃ (a1 a2 a3 : Nat), w = [(a0, .inr (5, [.int (nI (0)), .int (nI (0)), .ref a1, .ref a2, .ref a3, .ref b1, .ref b2])), (a1, .inl (E.2.1.1, 6, .inl (nA (fun _ => 0)))), (a2, .inl (E.2.1.1, 6, .inl (nA (fun _ => 0)))), (a3, .inl (E.2.1.1, 10, .inl (nA (fun _ => 0))))]) := by
  refine ci_of (by decide +kernel) rfl (Nat.le_of_ble_eq_true rfl) (lv := [(0, .ref a0), (1, .ref b1), (2, .ref b2)]) rfl (fun Y A Q C hnw hmn hret => ?_)
  refine x_aload_n C (q := 1) dX5_init_0 rfl rfl rfl ?_
  refine x_obj C (own := RX5) rfl ol_X5 (Nat.le_of_ble_eq_true rfl) (Nat.le_of_ble_eq_true rfl) (q := 4) dX5_init_1 rfl ?_
  refine x_aload_n C (q := 5) dX5_init_4 rfl rfl rfl ?_
  refine x_bipush C (v := nI 6) (q := 7) dX5_init_5 rfl (by decide) ?_
  refine x_newI C (N := 6) (f := (nA (fun _ => 0))) (fun _ => nI_0) (by decide) (by decide) (Nat.le_of_ble_eq_true rfl) (Nat.le_of_ble_eq_true rfl) (kn' := (1, 6)) rfl (q := 9) dX5_init_7 rfl (fun a1 => ?_)
  refine x_eq [(a0, .inr (5, [.int (nI (0)), .int (nI (0)), .null, .null, .null, .null, .null])), (a1, .inl (E.2.1.1, 6, .inl (nA (fun _ => 0))))] rfl ?_
  refine x_putF C (ty := (.array .int)) rfl inX5 tyX5 tyX5_ok nmX5 rfl 2 (by decide) mf_X5_9 rfl rfl hmn (by decide +kernel) rfl rfl 0 rfl (Nat.le_of_ble_eq_true rfl) (ws' := [(a0, .inr (5, [.int (nI (0)), .int (nI (0)), .ref a1, .null, .null, .null, .null])), (a1, .inl (E.2.1.1, 6, .inl (nA (fun _ => 0))))]) rfl (q := 12) dX5_init_9 rfl ?_
  refine x_aload_n C (q := 13) dX5_init_12 rfl rfl rfl ?_
  refine x_bipush C (v := nI 6) (q := 15) dX5_init_13 rfl (by decide) ?_
  refine x_newI C (N := 6) (f := (nA (fun _ => 0))) (fun _ => nI_0) (by decide) (by decide) (Nat.le_of_ble_eq_true rfl) (Nat.le_of_ble_eq_true rfl) (kn' := (2, 12)) rfl (q := 17) dX5_init_15 rfl (fun a2 => ?_)
  refine x_eq [(a0, .inr (5, [.int (nI (0)), .int (nI (0)), .ref a1, .null, .null, .null, .null])), (a1, .inl (E.2.1.1, 6, .inl (nA (fun _ => 0)))), (a2, .inl (E.2.1.1, 6, .inl (nA (fun _ => 0))))] rfl ?_
  refine x_putF C (ty := (.array .int)) rfl inX5 tyX5 tyX5_ok nmX5 rfl 3 (by decide) mf_X5_15 rfl rfl hmn (by decide +kernel) rfl rfl 0 rfl (Nat.le_of_ble_eq_true rfl) (ws' := [(a0, .inr (5, [.int (nI (0)), .int (nI (0)), .ref a1, .ref a2, .null, .null, .null])), (a1, .inl (E.2.1.1, 6, .inl (nA (fun _ => 0)))), (a2, .inl (E.2.1.1, 6, .inl (nA (fun _ => 0))))]) rfl (q := 20) dX5_init_17 rfl ?_
  refine x_aload_n C (q := 21) dX5_init_20 rfl rfl rfl ?_
  refine x_bipush C (v := nI 10) (q := 23) dX5_init_21 rfl (by decide) ?_
  refine x_newI C (N := 10) (f := (nA (fun _ => 0))) (fun _ => nI_0) (by decide) (by decide) (Nat.le_of_ble_eq_true rfl) (Nat.le_of_ble_eq_true rfl) (kn' := (3, 22)) rfl (q := 25) dX5_init_23 rfl (fun a3 => ?_)
  refine x_eq [(a0, .inr (5, [.int (nI (0)), .int (nI (0)), .ref a1, .ref a2, .null, .null, .null])), (a1, .inl (E.2.1.1, 6, .inl (nA (fun _ => 0)))), (a2, .inl (E.2.1.1, 6, .inl (nA (fun _ => 0)))), (a3, .inl (E.2.1.1, 10, .inl (nA (fun _ => 0))))] rfl ?_
  refine x_putF C (ty := (.array .int)) rfl inX5 tyX5 tyX5_ok nmX5 rfl 4 (by decide) mf_X5_18 rfl rfl hmn (by decide +kernel) rfl rfl 0 rfl (Nat.le_of_ble_eq_true rfl) (ws' := [(a0, .inr (5, [.int (nI (0)), .int (nI (0)), .ref a1, .ref a2, .ref a3, .null, .null])), (a1, .inl (E.2.1.1, 6, .inl (nA (fun _ => 0)))), (a2, .inl (E.2.1.1, 6, .inl (nA (fun _ => 0)))), (a3, .inl (E.2.1.1, 10, .inl (nA (fun _ => 0))))]) rfl (q := 28) dX5_init_25 rfl ?_
  refine x_aload_n C (q := 29) dX5_init_28 rfl rfl rfl ?_
  refine x_aload_n C (q := 30) dX5_init_29 rfl rfl rfl ?_
  refine x_putF C (ty := (.object "PoundBoys$Folk")) rfl inX5 tyX5 tyX5_ok nmX5 rfl 5 (by decide) mf_X5_21 rfl rfl hmn (by decide +kernel) rfl rfl 0 rfl (Nat.le_of_ble_eq_true rfl) (ws' := [(a0, .inr (5, [.int (nI (0)), .int (nI (0)), .ref a1, .ref a2, .ref a3, .ref b1, .null])), (a1, .inl (E.2.1.1, 6, .inl (nA (fun _ => 0)))), (a2, .inl (E.2.1.1, 6, .inl (nA (fun _ => 0)))), (a3, .inl (E.2.1.1, 10, .inl (nA (fun _ => 0))))]) rfl (q := 33) dX5_init_30 rfl ?_
  refine x_aload_n C (q := 34) dX5_init_33 rfl rfl rfl ?_
  refine x_aload_n C (q := 35) dX5_init_34 rfl rfl rfl ?_
  refine x_putF C (ty := (.object "PoundBoys$League")) rfl inX5 tyX5 tyX5_ok nmX5 rfl 6 (by decide) mf_X5_25 rfl rfl hmn (by decide +kernel) rfl rfl 0 rfl (Nat.le_of_ble_eq_true rfl) (ws' := [(a0, .inr (5, [.int (nI (0)), .int (nI (0)), .ref a1, .ref a2, .ref a3, .ref b1, .ref b2])), (a1, .inl (E.2.1.1, 6, .inl (nA (fun _ => 0)))), (a2, .inl (E.2.1.1, 6, .inl (nA (fun _ => 0)))), (a3, .inl (E.2.1.1, 10, .inl (nA (fun _ => 0))))]) rfl (q := 38) dX5_init_35 rfl ?_
  exact hret _ _ _ ⟨a1, a2, a3, rfl⟩ dX5_init_38
set_option maxHeartbeats 4000000 in
set_option maxRecDepth 40000 in
theorem i_scal {E : EN} {a0 : Nat} : CI E yX7_init cX7_init 1 1 3 36 [.ref a0] [(a0, .inr (7, [.int (nI (0)), .null, .null, .null]))] (fun w => ∃ (a1 a2 a3 : Nat), w = [(a0, .inr (7, [.int (nI (0)), .ref a1, .ref a2, .ref a3])), (a1, .inl (E.2.1.1, 12, .inl (nA (fun _ => 0)))), (a2, .inl (E.2.1.1, 12, .inl (nA (fun _ => 0)))), (a3, .inl (E.2.1.1, 12, .inl (nA (fun _ => 0))))]) := by
  refine ci_of (by decide +kernel) rfl (Nat.le_of_ble_eq_true rfl) (lv := [(0, .ref a0)]) rfl (fun Y A Q C hnw hmn hret => ?_)
  refine x_aload_n C (q := 1) dX7_init_0 rfl rfl rfl ?_
  refine x_obj C (own := RX7) rfl ol_X7 (Nat.le_of_ble_eq_true rfl) (Nat.le_of_ble_eq_true rfl) (q := 4) dX7_init_1 rfl ?_
  refine x_aload_n C (q := 5) dX7_init_4 rfl rfl rfl ?_
  refine x_bipush C (v := nI 12) (q := 7) dX7_init_5 rfl (by decide) ?_
  refine x_newI C (N := 12) (f := (nA (fun _ => 0))) (fun _ => nI_0) (by decide) (by decide) (Nat.le_of_ble_eq_true rfl) (Nat.le_of_ble_eq_true rfl) (kn' := (1, 12)) rfl (q := 9) dX7_init_7 rfl (fun a1 => ?_)
  refine x_eq [(a0, .inr (7, [.int (nI (0)), .null, .null, .null])), (a1, .inl (E.2.1.1, 12, .inl (nA (fun _ => 0))))] rfl ?_
  refine x_putF C (ty := (.array .int)) rfl inX7 tyX7 tyX7_ok nmX7 rfl 1 (by decide) mf_X7_9 rfl rfl hmn (by decide +kernel) rfl rfl 0 rfl (Nat.le_of_ble_eq_true rfl) (ws' := [(a0, .inr (7, [.int (nI (0)), .ref a1, .null, .null])), (a1, .inl (E.2.1.1, 12, .inl (nA (fun _ => 0))))]) rfl (q := 12) dX7_init_9 rfl ?_
  refine x_aload_n C (q := 13) dX7_init_12 rfl rfl rfl ?_
  refine x_bipush C (v := nI 12) (q := 15) dX7_init_13 rfl (by decide) ?_
  refine x_newI C (N := 12) (f := (nA (fun _ => 0))) (fun _ => nI_0) (by decide) (by decide) (Nat.le_of_ble_eq_true rfl) (Nat.le_of_ble_eq_true rfl) (kn' := (2, 24)) rfl (q := 17) dX7_init_15 rfl (fun a2 => ?_)
  refine x_eq [(a0, .inr (7, [.int (nI (0)), .ref a1, .null, .null])), (a1, .inl (E.2.1.1, 12, .inl (nA (fun _ => 0)))), (a2, .inl (E.2.1.1, 12, .inl (nA (fun _ => 0))))] rfl ?_
  refine x_putF C (ty := (.array .int)) rfl inX7 tyX7 tyX7_ok nmX7 rfl 2 (by decide) mf_X7_15 rfl rfl hmn (by decide +kernel) rfl rfl 0 rfl (Nat.le_of_ble_eq_true rfl) (ws' := [(a0, .inr (7, [.int (nI (0)), .ref a1, .ref a2, .null])), (a1, .inl (E.2.1.1, 12, .inl (nA (fun _ => 0)))), (a2, .inl (E.2.1.1, 12, .inl (nA (fun _ => 0))))]) rfl (q := 20) dX7_init_17 rfl ?_
  refine x_aload_n C (q := 21) dX7_init_20 rfl rfl rfl ?_
  refine x_bipush C (v := nI 12) (q := 23) dX7_init_21 rfl (by decide) ?_
  refine x_newI C (N := 12) (f := (nA (fun _ => 0))) (fun _ => nI_0) (by decide) (by decide) (Nat.le_of_ble_eq_true rfl) (Nat.le_of_ble_eq_true rfl) (kn' := (3, 36)) rfl (q := 25) dX7_init_23 rfl (fun a3 => ?_)
  refine x_eq [(a0, .inr (7, [.int (nI (0)), .ref a1, .ref a2, .null])), (a1, .inl (E.2.1.1, 12, .inl (nA (fun _ => 0)))), (a2, .inl (E.2.1.1, 12, .inl (nA (fun _ => 0)))), (a3, .inl (E.2.1.1, 12, .inl (nA (fun _ => 0))))] rfl ?_
  refine x_putF C (ty := (.array .int)) rfl inX7 tyX7 tyX7_ok nmX7 rfl 3 (by decide) mf_X7_18 rfl rfl hmn (by decide +kernel) rfl rfl 0 rfl (Nat.le_of_ble_eq_true rfl) (ws' := [(a0, .inr (7, [.int (nI (0)), .ref a1, .ref a2, .ref a3])), (a1, .inl (E.2.1.1, 12, .inl (nA (fun _ => 0)))), (a2, .inl (E.2.1.1, 12, .inl (nA (fun _ => 0)))), (a3, .inl (E.2.1.1, 12, .inl (nA (fun _ => 0))))]) rfl (q := 28) dX7_init_25 rfl ?_
  exact hret _ _ _ ⟨a1, a2, a3, rfl⟩ dX7_init_28
set_option maxHeartbeats 4000000 in
set_option maxRecDepth 40000 in
theorem i_road {E : EN} {a0 : Nat} : CI E yX6_init cX6_init 1 1 4 1042 [.ref a0] [(a0, .inr (6, [.int (nI (0)), .null, .null, .null, .null]))] (fun w => ∃ (a1 a2 a3 a4 : Nat), w = [(a0, .inr (6, [.int (nI (0)), .ref a1, .ref a2, .ref a3, .ref a4])), (a1, .inl (E.2.1.1, 6, .inl (nA (fun _ => 0)))), (a2, .inl (E.2.1.1, 6, .inl (nA (fun _ => 0)))), (a3, .inl (E.2.1.1, 6, .inl (fun _ => 0))), (a4, .inl (E.2.1.1, 1024, .inl (nA (fun _ => 0))))]) := by
  refine ci_of (by decide +kernel) rfl (Nat.le_of_ble_eq_true rfl) (lv := [(0, .ref a0)]) rfl (fun Y A Q C hnw hmn hret => ?_)
  refine x_aload_n C (q := 1) dX6_init_0 rfl rfl rfl ?_
  refine x_obj C (own := RX6) rfl ol_X6 (Nat.le_of_ble_eq_true rfl) (Nat.le_of_ble_eq_true rfl) (q := 4) dX6_init_1 rfl ?_
  refine x_aload_n C (q := 5) dX6_init_4 rfl rfl rfl ?_
  refine x_bipush C (v := nI 6) (q := 7) dX6_init_5 rfl (by decide) ?_
  refine x_newI C (N := 6) (f := (nA (fun _ => 0))) (fun _ => nI_0) (by decide) (by decide) (Nat.le_of_ble_eq_true rfl) (Nat.le_of_ble_eq_true rfl) (kn' := (1, 6)) rfl (q := 9) dX6_init_7 rfl (fun a1 => ?_)
  refine x_eq [(a0, .inr (6, [.int (nI (0)), .null, .null, .null, .null])), (a1, .inl (E.2.1.1, 6, .inl (nA (fun _ => 0))))] rfl ?_
  refine x_putF C (ty := (.array .int)) rfl inX6 tyX6 tyX6_ok nmX6 rfl 1 (by decide) mf_X6_9 rfl rfl hmn (by decide +kernel) rfl rfl 0 rfl (Nat.le_of_ble_eq_true rfl) (ws' := [(a0, .inr (6, [.int (nI (0)), .ref a1, .null, .null, .null])), (a1, .inl (E.2.1.1, 6, .inl (nA (fun _ => 0))))]) rfl (q := 12) dX6_init_9 rfl ?_
  refine x_aload_n C (q := 13) dX6_init_12 rfl rfl rfl ?_
  refine x_bipush C (v := nI 6) (q := 15) dX6_init_13 rfl (by decide) ?_
  refine x_newI C (N := 6) (f := (nA (fun _ => 0))) (fun _ => nI_0) (by decide) (by decide) (Nat.le_of_ble_eq_true rfl) (Nat.le_of_ble_eq_true rfl) (kn' := (2, 12)) rfl (q := 17) dX6_init_15 rfl (fun a2 => ?_)
  refine x_eq [(a0, .inr (6, [.int (nI (0)), .ref a1, .null, .null, .null])), (a1, .inl (E.2.1.1, 6, .inl (nA (fun _ => 0)))), (a2, .inl (E.2.1.1, 6, .inl (nA (fun _ => 0))))] rfl ?_
  refine x_putF C (ty := (.array .int)) rfl inX6 tyX6 tyX6_ok nmX6 rfl 2 (by decide) mf_X6_15 rfl rfl hmn (by decide +kernel) rfl rfl 0 rfl (Nat.le_of_ble_eq_true rfl) (ws' := [(a0, .inr (6, [.int (nI (0)), .ref a1, .ref a2, .null, .null])), (a1, .inl (E.2.1.1, 6, .inl (nA (fun _ => 0)))), (a2, .inl (E.2.1.1, 6, .inl (nA (fun _ => 0))))]) rfl (q := 20) dX6_init_17 rfl ?_
  refine x_aload_n C (q := 21) dX6_init_20 rfl rfl rfl ?_
  refine x_bipush C (v := nI 6) (q := 23) dX6_init_21 rfl (by decide) ?_
  refine x_newI C (N := 6) (f := (fun _ => 0)) (fun _ => rfl) (by decide) (by decide) (Nat.le_of_ble_eq_true rfl) (Nat.le_of_ble_eq_true rfl) (kn' := (3, 18)) rfl (q := 25) dX6_init_23 rfl (fun a3 => ?_)
  refine x_eq [(a0, .inr (6, [.int (nI (0)), .ref a1, .ref a2, .null, .null])), (a1, .inl (E.2.1.1, 6, .inl (nA (fun _ => 0)))), (a2, .inl (E.2.1.1, 6, .inl (nA (fun _ => 0)))), (a3, .inl (E.2.1.1, 6, .inl (fun _ => 0)))] rfl ?_
  refine x_putF C (ty := (.array .int)) rfl inX6 tyX6 tyX6_ok nmX6 rfl 3 (by decide) mf_X6_18 rfl rfl hmn (by decide +kernel) rfl rfl 0 rfl (Nat.le_of_ble_eq_true rfl) (ws' := [(a0, .inr (6, [.int (nI (0)), .ref a1, .ref a2, .ref a3, .null])), (a1, .inl (E.2.1.1, 6, .inl (nA (fun _ => 0)))), (a2, .inl (E.2.1.1, 6, .inl (nA (fun _ => 0)))), (a3, .inl (E.2.1.1, 6, .inl (fun _ => 0)))]) rfl (q := 28) dX6_init_25 rfl ?_
  refine x_aload_n C (q := 29) dX6_init_28 rfl rfl rfl ?_
  refine x_sipush C (v := nI 1024) (q := 32) dX6_init_29 rfl (by decide) ?_
  refine x_newI C (N := 1024) (f := (nA (fun _ => 0))) (fun _ => nI_0) (by decide) (by decide) (Nat.le_of_ble_eq_true rfl) (Nat.le_of_ble_eq_true rfl) (kn' := (4, 1042)) rfl (q := 34) dX6_init_32 rfl (fun a4 => ?_)
  refine x_eq [(a0, .inr (6, [.int (nI (0)), .ref a1, .ref a2, .ref a3, .null])), (a1, .inl (E.2.1.1, 6, .inl (nA (fun _ => 0)))), (a2, .inl (E.2.1.1, 6, .inl (nA (fun _ => 0)))), (a3, .inl (E.2.1.1, 6, .inl (fun _ => 0))), (a4, .inl (E.2.1.1, 1024, .inl (nA (fun _ => 0))))] rfl ?_
  refine x_putF C (ty := (.array .int)) rfl inX6 tyX6 tyX6_ok nmX6 rfl 4 (by decide) mf_X6_21 rfl rfl hmn (by decide +kernel) rfl rfl 0 rfl (Nat.le_of_ble_eq_true rfl) (ws' := [(a0, .inr (6, [.int (nI (0)), .ref a1, .ref a2, .ref a3, .ref a4])), (a1, .inl (E.2.1.1, 6, .inl (nA (fun _ => 0)))), (a2, .inl (E.2.1.1, 6, .inl (nA (fun _ => 0)))), (a3, .inl (E.2.1.1, 6, .inl (fun _ => 0))), (a4, .inl (E.2.1.1, 1024, .inl (nA (fun _ => 0))))]) rfl (q := 37) dX6_init_34 rfl ?_
  exact hret _ _ _ ⟨a1, a2, a3, a4, rfl⟩ dX6_init_37
set_option maxHeartbeats 4000000 in
set_option maxRecDepth 40000 in
theorem i_read {E : EN} {a0 b1 : Nat} : CI E yX4_init cX4_init 2 3 14 107 [.ref a0, .ref b1] [(a0, .inr (4, [.null, .int (nI (0)), .null, .null, .int (nI (0)), .int (nI (0)), .int (nI (0))]))] (fun w => ∃ (a1 a2 a3 a4 a5 a6 a7 a8 a9 a10 a11 a12 a13 a14 : Nat), w = [(a0, .inr (4, [.ref a1, .int (nI (0)), .ref b1, .ref a14, .int (nI (0)), .int (nI (0)), .int (nI (0))])), (a1, .inr (3, [.int (nI (0)), .int (nI (0)), .int (nI (0)), .ref a2, .ref a3, .ref a4, .ref a5, .ref a6, .ref a7])), (a2, .inl (E.2.1.1, 6, .inl (nA (fun _ => 0)))), (a3, .inl (E.2.1.1, 6, .inl (nA (fun _ => 0)))), (a4, .inl (E.2.1.1, 6, .inl (nA (fun _ => 0)))), (a5, .inl (E.2.1.1, 6, .inl (fun _ => 0))), (a6, .inl (E.2.1.1, 6, .inl (nA (fun _ => 0)))), (a7, .inr (2, [.int (nI (0)), .int (nI (0)), .ref a8, .ref a9, .ref a10, .ref a11, .ref a12, .ref a13])), (a8, .inl (E.2.1.1, 10, .inl (nA (fun _ => 0)))), (a9, .inl (E.2.1.1, 10, .inl (nA (fun _ => 0)))), (a10, .inl (E.2.1.1, 10, .inl (nA (fun _ => 0)))), (a11, .inl (E.2.1.1, 10, .inl (nA (fun _ => 0)))), (a12, .inl (E.2.1.1, 10, .inl (nA (fun _ => 0)))), (a13, .inl (E.2.1.1, 6, .inl (fun _ => 0))), (a14, .inl (E.2.1.1, 4, .inl (nA (fun _ => 0))))]) := by
  refine ci_of (by decide +kernel) rfl (Nat.le_of_ble_eq_true rfl) (lv := [(0, .ref a0), (1, .ref b1)]) rfl (fun Y A Q C hnw hmn hret => ?_)
  refine x_aload_n C (q := 1) dX4_init_0 rfl rfl rfl ?_
  refine x_obj C (own := RX4) rfl ol_X4 (Nat.le_of_ble_eq_true rfl) (Nat.le_of_ble_eq_true rfl) (q := 4) dX4_init_1 rfl ?_
  refine x_aload_n C (q := 5) dX4_init_4 rfl rfl rfl ?_
  refine x_new C (own := RX4) rfl inX3 tyX3 tyX3_ok cl_X4_9 it_X3 mi_X3 (ci := 3) rfl (fs := [.int (nI (0)), .int (nI (0)), .int (nI (0)), .null, .null, .null, .null, .null, .null]) (fun j hj => by rcases (show j = 0 ∨ j = 1 ∨ j = 2 ∨ j = 3 ∨ j = 4 ∨ j = 5 ∨ j = 6 ∨ j = 7 ∨ j = 8 by omega) with rfl | rfl | rfl | rfl | rfl | rfl | rfl | rfl | rfl <;> rfl) (Nat.le_of_ble_eq_true rfl) (Nat.le_of_ble_eq_true rfl) (kn' := (1, 9)) rfl (q := 8) dX4_init_5 rfl (fun a1 => ?_)
  refine x_dup C (q := 9) dX4_init_8 rfl rfl ?_
  refine x_callJ C hnw (host := "PoundBoys") (Or.inr (nwOK_at hnw 3 rfl)) in_X3 mi_X3 ic_X3 rfl pdI_X3 (by decide) (i_leag) (Nat.le_of_ble_eq_true rfl) (Nat.le_of_ble_eq_true rfl) (Nat.le_of_ble_eq_true rfl) (Nat.le_of_ble_eq_true rfl) (kn' := (13, 103)) rfl rfl (rest := [.ref a1, .ref a0]) rfl (Nat.le_of_ble_eq_true rfl) (q := 12) dX4_init_9 rfl ?_
  rintro w' ⟨a2, a3, a4, a5, a6, a7, a8, a9, a10, a11, a12, a13, rfl⟩
  refine x_eq [(a0, .inr (4, [.null, .int (nI (0)), .null, .null, .int (nI (0)), .int (nI (0)), .int (nI (0))])), (a1, .inr (3, [.int (nI (0)), .int (nI (0)), .int (nI (0)), .ref a2, .ref a3, .ref a4, .ref a5, .ref a6, .ref a7])), (a2, .inl (E.2.1.1, 6, .inl (nA (fun _ => 0)))), (a3, .inl (E.2.1.1, 6, .inl (nA (fun _ => 0)))), (a4, .inl (E.2.1.1, 6, .inl (nA (fun _ => 0)))), (a5, .inl (E.2.1.1, 6, .inl (fun _ => 0))), (a6, .inl (E.2.1.1, 6, .inl (nA (fun _ => 0)))), (a7, .inr (2, [.int (nI (0)), .int (nI (0)), .ref a8, .ref a9, .ref a10, .ref a11, .ref a12, .ref a13])), (a8, .inl (E.2.1.1, 10, .inl (nA (fun _ => 0)))), (a9, .inl (E.2.1.1, 10, .inl (nA (fun _ => 0)))), (a10, .inl (E.2.1.1, 10, .inl (nA (fun _ => 0)))), (a11, .inl (E.2.1.1, 10, .inl (nA (fun _ => 0)))), (a12, .inl (E.2.1.1, 10, .inl (nA (fun _ => 0)))), (a13, .inl (E.2.1.1, 6, .inl (fun _ => 0)))] rfl ?_
  refine x_putF C (ty := (.object "PoundBoys$League")) rfl inX4 tyX4 tyX4_ok nmX4 rfl 0 (by decide) mf_X4_12 rfl rfl hmn (by decide +kernel) rfl rfl 0 rfl (Nat.le_of_ble_eq_true rfl) (ws' := [(a0, .inr (4, [.ref a1, .int (nI (0)), .null, .null, .int (nI (0)), .int (nI (0)), .int (nI (0))])), (a1, .inr (3, [.int (nI (0)), .int (nI (0)), .int (nI (0)), .ref a2, .ref a3, .ref a4, .ref a5, .ref a6, .ref a7])), (a2, .inl (E.2.1.1, 6, .inl (nA (fun _ => 0)))), (a3, .inl (E.2.1.1, 6, .inl (nA (fun _ => 0)))), (a4, .inl (E.2.1.1, 6, .inl (nA (fun _ => 0)))), (a5, .inl (E.2.1.1, 6, .inl (fun _ => 0))), (a6, .inl (E.2.1.1, 6, .inl (nA (fun _ => 0)))), (a7, .inr (2, [.int (nI (0)), .int (nI (0)), .ref a8, .ref a9, .ref a10, .ref a11, .ref a12, .ref a13])), (a8, .inl (E.2.1.1, 10, .inl (nA (fun _ => 0)))), (a9, .inl (E.2.1.1, 10, .inl (nA (fun _ => 0)))), (a10, .inl (E.2.1.1, 10, .inl (nA (fun _ => 0)))), (a11, .inl (E.2.1.1, 10, .inl (nA (fun _ => 0)))), (a12, .inl (E.2.1.1, 10, .inl (nA (fun _ => 0)))), (a13, .inl (E.2.1.1, 6, .inl (fun _ => 0)))]) rfl (q := 15) dX4_init_12 rfl ?_
  refine x_aload_n C (q := 16) dX4_init_15 rfl rfl rfl ?_
  refine x_iconst C (v := nI 4) (q := 17) dX4_init_16 rfl (by decide) ?_
  refine x_newI C (N := 4) (f := (nA (fun _ => 0))) (fun _ => nI_0) (by decide) (by decide) (Nat.le_of_ble_eq_true rfl) (Nat.le_of_ble_eq_true rfl) (kn' := (14, 107)) rfl (q := 19) dX4_init_17 rfl (fun a14 => ?_)
  refine x_eq [(a0, .inr (4, [.ref a1, .int (nI (0)), .null, .null, .int (nI (0)), .int (nI (0)), .int (nI (0))])), (a1, .inr (3, [.int (nI (0)), .int (nI (0)), .int (nI (0)), .ref a2, .ref a3, .ref a4, .ref a5, .ref a6, .ref a7])), (a2, .inl (E.2.1.1, 6, .inl (nA (fun _ => 0)))), (a3, .inl (E.2.1.1, 6, .inl (nA (fun _ => 0)))), (a4, .inl (E.2.1.1, 6, .inl (nA (fun _ => 0)))), (a5, .inl (E.2.1.1, 6, .inl (fun _ => 0))), (a6, .inl (E.2.1.1, 6, .inl (nA (fun _ => 0)))), (a7, .inr (2, [.int (nI (0)), .int (nI (0)), .ref a8, .ref a9, .ref a10, .ref a11, .ref a12, .ref a13])), (a8, .inl (E.2.1.1, 10, .inl (nA (fun _ => 0)))), (a9, .inl (E.2.1.1, 10, .inl (nA (fun _ => 0)))), (a10, .inl (E.2.1.1, 10, .inl (nA (fun _ => 0)))), (a11, .inl (E.2.1.1, 10, .inl (nA (fun _ => 0)))), (a12, .inl (E.2.1.1, 10, .inl (nA (fun _ => 0)))), (a13, .inl (E.2.1.1, 6, .inl (fun _ => 0))), (a14, .inl (E.2.1.1, 4, .inl (nA (fun _ => 0))))] rfl ?_
  refine x_putF C (ty := (.array .int)) rfl inX4 tyX4 tyX4_ok nmX4 rfl 3 (by decide) mf_X4_18 rfl rfl hmn (by decide +kernel) rfl rfl 0 rfl (Nat.le_of_ble_eq_true rfl) (ws' := [(a0, .inr (4, [.ref a1, .int (nI (0)), .null, .ref a14, .int (nI (0)), .int (nI (0)), .int (nI (0))])), (a1, .inr (3, [.int (nI (0)), .int (nI (0)), .int (nI (0)), .ref a2, .ref a3, .ref a4, .ref a5, .ref a6, .ref a7])), (a2, .inl (E.2.1.1, 6, .inl (nA (fun _ => 0)))), (a3, .inl (E.2.1.1, 6, .inl (nA (fun _ => 0)))), (a4, .inl (E.2.1.1, 6, .inl (nA (fun _ => 0)))), (a5, .inl (E.2.1.1, 6, .inl (fun _ => 0))), (a6, .inl (E.2.1.1, 6, .inl (nA (fun _ => 0)))), (a7, .inr (2, [.int (nI (0)), .int (nI (0)), .ref a8, .ref a9, .ref a10, .ref a11, .ref a12, .ref a13])), (a8, .inl (E.2.1.1, 10, .inl (nA (fun _ => 0)))), (a9, .inl (E.2.1.1, 10, .inl (nA (fun _ => 0)))), (a10, .inl (E.2.1.1, 10, .inl (nA (fun _ => 0)))), (a11, .inl (E.2.1.1, 10, .inl (nA (fun _ => 0)))), (a12, .inl (E.2.1.1, 10, .inl (nA (fun _ => 0)))), (a13, .inl (E.2.1.1, 6, .inl (fun _ => 0))), (a14, .inl (E.2.1.1, 4, .inl (nA (fun _ => 0))))]) rfl (q := 22) dX4_init_19 rfl ?_
  refine x_aload_n C (q := 23) dX4_init_22 rfl rfl rfl ?_
  refine x_aload_n C (q := 24) dX4_init_23 rfl rfl rfl ?_
  refine x_putF C (ty := (.object "PoundBoys$Text")) rfl inX4 tyX4 tyX4_ok nmX4 rfl 2 (by decide) mf_X4_22 rfl rfl hmn (by decide +kernel) rfl rfl 0 rfl (Nat.le_of_ble_eq_true rfl) (ws' := [(a0, .inr (4, [.ref a1, .int (nI (0)), .ref b1, .ref a14, .int (nI (0)), .int (nI (0)), .int (nI (0))])), (a1, .inr (3, [.int (nI (0)), .int (nI (0)), .int (nI (0)), .ref a2, .ref a3, .ref a4, .ref a5, .ref a6, .ref a7])), (a2, .inl (E.2.1.1, 6, .inl (nA (fun _ => 0)))), (a3, .inl (E.2.1.1, 6, .inl (nA (fun _ => 0)))), (a4, .inl (E.2.1.1, 6, .inl (nA (fun _ => 0)))), (a5, .inl (E.2.1.1, 6, .inl (fun _ => 0))), (a6, .inl (E.2.1.1, 6, .inl (nA (fun _ => 0)))), (a7, .inr (2, [.int (nI (0)), .int (nI (0)), .ref a8, .ref a9, .ref a10, .ref a11, .ref a12, .ref a13])), (a8, .inl (E.2.1.1, 10, .inl (nA (fun _ => 0)))), (a9, .inl (E.2.1.1, 10, .inl (nA (fun _ => 0)))), (a10, .inl (E.2.1.1, 10, .inl (nA (fun _ => 0)))), (a11, .inl (E.2.1.1, 10, .inl (nA (fun _ => 0)))), (a12, .inl (E.2.1.1, 10, .inl (nA (fun _ => 0)))), (a13, .inl (E.2.1.1, 6, .inl (fun _ => 0))), (a14, .inl (E.2.1.1, 4, .inl (nA (fun _ => 0))))]) rfl (q := 27) dX4_init_24 rfl ?_
  exact hret _ _ _ ⟨a1, a2, a3, a4, a5, a6, a7, a8, a9, a10, a11, a12, a13, a14, rfl⟩ dX4_init_27
