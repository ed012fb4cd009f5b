theorem inv_0 : Inv 3 0 0 0 (fun _ => 0) (fun _ => 1) (fun _ => 1) (fun _ => -1) (nx0 3) (fun _ => 0) (fun _ => 0) (fun _ => 0) (fun _ => 0) (fun _ => 0) (nxM 3) 0 (fun _ => 0) 0 (fun _ => 0) (fun _ => 0) (fun _ => 0) (fun _ => 0) (fun _ => 0) 0 (fun _ => 0) (fun _ => 0) 0 (fun _ => 0) (fun _ => 0) (fun _ => 0) 0 (fun _ => 0) (fun _ => 0) (false, 0, 0, fun _ => 0, fun _ => 0, fun _ => 0, fun _ => 0, fun _ => 0, fun _ => 0) (false, 0, 0, fun _ => 0, fun _ => 0, fun _ => 0, fun _ => 0, fun _ => 0, fun _ => 0) := by
  refine ⟨⟨⟨by decide, by decide, by decide, by decide, by decide⟩, ⟨fun _ _ => Nat.le_of_ble_eq_true rfl, fun _ _ => Nat.le_of_ble_eq_true rfl, fun _ _ => Nat.le_of_ble_eq_true rfl, fun j hj => nx0_lt 3 j (by decide) hj⟩, ⟨fun _ _ => Nat.le_of_ble_eq_true rfl, fun _ _ => Nat.le_of_ble_eq_true rfl, fun _ _ => Nat.le_of_ble_eq_true rfl, fun _ _ => Nat.le_of_ble_eq_true rfl, fun _ _ => Nat.le_of_ble_eq_true rfl⟩, fun j hj => absurd hj (Nat.not_lt_zero j), fun j hj => absurd hj (Nat.not_lt_zero j)⟩, fun j hj => ?_, ⟨by decide, fun j hj => absurd hj (Nat.not_lt_zero j)⟩, by decide, ⟨⟨fun _ _ => Nat.le_of_ble_eq_true rfl, fun _ _ => Nat.le_of_ble_eq_true rfl, fun _ _ => Nat.le_of_ble_eq_true rfl, fun _ _ => Nat.le_of_ble_eq_true rfl⟩, fun j hj => absurd hj (Nat.not_lt_zero j), fun j hj => absurd hj (Nat.not_lt_zero j)⟩, okE_0, ⟨by decide, fun _ _ => Nat.le_of_ble_eq_true rfl, fun j hj => absurd hj (Nat.not_lt_zero j)⟩, ⟨by decide, fun _ _ => Nat.le_of_ble_eq_true rfl, fun _ _ => Nat.le_of_ble_eq_true rfl⟩, (fun h => by cases h), (fun h => by cases h)⟩
  unfold nxM nx0
  rcases (show j = 0 ∨ j = 1 ∨ j = 2 by omega) with rfl | rfl | rfl <;> rfl
theorem cl_L_7 : Cond.classLink RL 7 RX9 ∈ TB := tb_in 78 (by decide +kernel) rfl
theorem cl_L_10 : Cond.classLink RL 10 RX10 ∈ TB := tb_in 846 (by decide +kernel) rfl
theorem it_X9 : Cond.instantiable RX9 14 ∈ TB := tb_in 79 (by decide +kernel) rfl
theorem it_X10 : Cond.instantiable RX10 35 ∈ TB := tb_in 847 (by decide +kernel) rfl
theorem il_L_9 : Cond.methodLink RL 9 yX9_init ∈ TB := tb_in 80 (by decide +kernel) rfl
theorem il_L_12 : Cond.methodLink RL 12 yX10_init ∈ TB := tb_in 848 (by decide +kernel) rfl
theorem in_X9 : Cond.instanceMethod yX9_init ∈ TB := tb_in 81 (by decide +kernel) rfl
theorem in_X10 : Cond.instanceMethod yX10_init ∈ TB := tb_in 849 (by decide +kernel) rfl
theorem ic_X9 : Cond.code yX9_init cX9_init 1 none ∈ TB := tb_in 82 (by decide +kernel) rfl
theorem ic_X10 : Cond.code yX10_init cX10_init 1 none ∈ TB := tb_in 850 (by decide +kernel) rfl
theorem pdI_X9 : yX9_init.cls ≠ "java/lang/invoke/MethodHandle" ∧ yX9_init.cls ≠ "java/lang/invoke/VarHandle" ∧ (parseMethodDescriptor yX9_init.desc).map (fun d => d.parameters.length) = some 0 := ⟨by decide +kernel, by decide +kernel, by decide +kernel⟩
theorem pdI_X10 : yX10_init.cls ≠ "java/lang/invoke/MethodHandle" ∧ yX10_init.cls ≠ "java/lang/invoke/VarHandle" ∧ (parseMethodDescriptor yX10_init.desc).map (fun d => d.parameters.length) = some 0 := ⟨by decide +kernel, by decide +kernel, by decide +kernel⟩
