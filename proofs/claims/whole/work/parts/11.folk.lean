set_option maxHeartbeats 2000000 in
set_option maxRecDepth 20000 in
theorem c_isNotIn {E : EN} {x a b : Int32} : CT E yX9_isNotIn cX9_isNotIn 3 (some .boolean) 0 [.int (x), .int (a), .int (b)] [] (xQ (some (.int (bI (ninB x a b)))) []) := by
  refine ct_of (by decide +kernel) (Nat.le_of_ble_eq_true rfl) (lv := [(0, .int (x)), (1, .int (a)), (2, .int (b))]) rfl (fun A => ?_)
  refine g_iload_n (q := 1) dX9_isNotIn_0 rfl rfl rfl ?_
  refine g_iload_n (q := 2) dX9_isNotIn_1 rfl rfl rfl ?_
  refine g_icmp_lt (t := 10) (q := 5) dX9_isNotIn_2 (by decide) rfl (fun c2 => ?_) (fun c2 => ?_)
  · skip
    refine g_iconst (v := nI 1) (q := 11) dX9_isNotIn_10 rfl ki_1 ?_
    refine g_goto (q := 15) dX9_isNotIn_11 (by decide) ?_
    refine g_iret (st := []) dX9_isNotIn_15 rfl (narZ (by first | exact Or.inl rfl | exact Or.inr rfl)) rfl ?_
    exact xr (by unfold ninB; first | (simp [bI, *]; done) | (simp [bI, *]; rfl) | (have h9 := Int32.not_lt.mpr c7; simp [bI, *]; done) | (have h9 := Int32.not_lt.mpr c7; simp [bI, *]; rfl) | (have h9 := Int32.not_le.mp c7; simp [bI, *]; rfl))
  · skip
    refine g_iload_n (q := 6) dX9_isNotIn_5 rfl rfl rfl ?_
    refine g_iload_n (q := 7) dX9_isNotIn_6 rfl rfl rfl ?_
    refine g_icmp_le (t := 14) (q := 10) dX9_isNotIn_7 (by decide) rfl (fun c7 => ?_) (fun c7 => ?_)
    · skip
      refine g_iconst (v := nI 0) (q := 15) dX9_isNotIn_14 rfl ki_0 ?_
      refine g_iret (st := []) dX9_isNotIn_15 rfl (narZ (by first | exact Or.inl rfl | exact Or.inr rfl)) rfl ?_
      exact xr (by unfold ninB; first | (simp [bI, *]; done) | (simp [bI, *]; rfl) | (have h9 := Int32.not_lt.mpr c7; simp [bI, *]; done) | (have h9 := Int32.not_lt.mpr c7; simp [bI, *]; rfl) | (have h9 := Int32.not_le.mp c7; simp [bI, *]; rfl))
    · skip
      refine g_iconst (v := nI 1) (q := 11) dX9_isNotIn_10 rfl ki_1 ?_
      refine g_goto (q := 15) dX9_isNotIn_11 (by decide) ?_
      refine g_iret (st := []) dX9_isNotIn_15 rfl (narZ (by first | exact Or.inl rfl | exact Or.inr rfl)) rfl ?_
      exact xr (by unfold ninB; first | (simp [bI, *]; done) | (simp [bI, *]; rfl) | (have h9 := Int32.not_lt.mpr c7; simp [bI, *]; done) | (have h9 := Int32.not_lt.mpr c7; simp [bI, *]; rfl) | (have h9 := Int32.not_le.mp c7; simp [bI, *]; rfl))
set_option maxHeartbeats 2000000 in
set_option maxRecDepth 20000 in
theorem c_fedWeight {E : EN} {w f : Nat} (hw : 1 ≤ w) (hw2 : w < 1000) (hf : f < 1000) : CT E yX9_fedWeight cX9_fedWeight 2 (some .int) 1 [.int (nI (w)), .int (nI (f))] [] (xQ (some (.int (nI (fed w f)))) []) := by
  refine ct_of (by decide +kernel) (Nat.le_of_ble_eq_true rfl) (lv := [(0, .int (nI (w))), (1, .int (nI (f)))]) rfl (fun A => ?_)
  refine g_iconst (v := nI 1) (q := 1) dX9_fedWeight_0 rfl ki_1 ?_
  refine g_bipush (v := nI 99) (q := 3) dX9_fedWeight_1 rfl kb_99 ?_
  refine g_iload_n (q := 4) dX9_fedWeight_3 rfl rfl rfl ?_
  refine g_iconst (v := nI 1) (q := 5) dX9_fedWeight_4 rfl ki_1 ?_
  refine g_isubN (q := 6) dX9_fedWeight_5 rfl (by omega) ?_
  refine g_iload_n (q := 7) dX9_fedWeight_6 rfl rfl rfl ?_
  refine g_iaddN (q := 8) dX9_fedWeight_7 rfl ?_
  refine g_mminN rfl ml_X9_286 (Nat.le_of_ble_eq_true rfl) (Nat.le_of_ble_eq_true rfl) (by omega) (by omega) (q := 11) dX9_fedWeight_8 rfl ?_
  refine g_mmaxN rfl ml_X9_291 (Nat.le_of_ble_eq_true rfl) (Nat.le_of_ble_eq_true rfl) (by omega) (by omega) (q := 14) dX9_fedWeight_11 rfl ?_
  refine g_iret (st := []) dX9_fedWeight_14 rfl rfl rfl ?_
  exact (xr rfl)
set_option maxHeartbeats 2000000 in
set_option maxRecDepth 20000 in
theorem c_poundsOf {E : EN} {k w : Nat} (hk : k < 1000) (hw : w < 1000) : CT E yX9_poundsOf cX9_poundsOf 2 (some .int) 0 [.int (nI (k)), .int (nI (w))] [] (xQ (some (.int (nI (pnd k w)))) []) := by
  refine ct_of (by decide +kernel) (Nat.le_of_ble_eq_true rfl) (lv := [(0, .int (nI (k))), (1, .int (nI (w)))]) rfl (fun A => ?_)
  refine g_iload_n (q := 1) dX9_poundsOf_0 rfl rfl rfl ?_
  refine g_iconst (v := nI 2) (q := 2) dX9_poundsOf_1 rfl ki_2 ?_
  refine g_icmp_neN (t := 11) (q := 5) dX9_poundsOf_2 (by decide) rfl (by omega) (by omega) (fun c2 => ?_) (fun c2 => ?_)
  · skip
    refine g_iload_n (q := 12) dX9_poundsOf_11 rfl rfl rfl ?_
    refine g_iret (st := []) dX9_poundsOf_12 rfl rfl rfl ?_
    exact (xr (by simp [pnd, *]))
  · skip
    refine g_iload_n (q := 6) dX9_poundsOf_5 rfl rfl rfl ?_
    refine g_iconst (v := nI 2) (q := 7) dX9_poundsOf_6 rfl ki_2 ?_
    refine g_idivN (q := 8) dX9_poundsOf_7 rfl (by omega) (by decide) (by decide) ?_
    refine g_goto (q := 12) dX9_poundsOf_8 (by decide) ?_
    refine g_iret (st := []) dX9_poundsOf_12 rfl rfl rfl ?_
    exact (xr (by simp [pnd, *]))
set_option maxHeartbeats 2000000 in
set_option maxRecDepth 20000 in
theorem c_pounds {E : EN} {f0 fk ft fw fs fg fc nb : Nat} {yr : Int32} {kd wt : Nat → Nat} {b : Nat} (hb : b < 10) (hkd : ∀ j, j < 10 → kd j < 4) (hwt : ∀ j, j < 10 → wt j < 100) : CT E yX2_pounds cX2_pounds 2 (some .int) 1 [.ref f0, .int (nI (b))] [(f0, .inr (2, [.int (nI (nb)), .int (yr), .ref fk, .ref ft, .ref fw, .ref fs, .ref fg, .ref fc])), (fk, .inl (E.2.1.1, 10, .inl (nA (kd)))), (fw, .inl (E.2.1.1, 10, .inl (nA (wt))))] (xQ (some (.int (nI (pnd (kd b) (wt b))))) [(f0, .inr (2, [.int (nI (nb)), .int (yr), .ref fk, .ref ft, .ref fw, .ref fs, .ref fg, .ref fc])), (fk, .inl (E.2.1.1, 10, .inl (nA (kd)))), (fw, .inl (E.2.1.1, 10, .inl (nA (wt))))]) := by
  refine ct_of (by decide +kernel) (Nat.le_of_ble_eq_true rfl) (lv := [(0, .ref f0), (1, .int (nI (b)))]) rfl (fun A => ?_)
  refine g_aload_n (q := 1) dX2_pounds_0 rfl rfl rfl ?_
  refine gf_X2_9 rfl 0 rfl rfl (q := 4) dX2_pounds_1 rfl ?_
  refine g_iload_n (q := 5) dX2_pounds_4 rfl rfl rfl ?_
  have hb1 := hkd (b) (by omega)
  refine g_iald (v := nI (kd b)) 1 rfl (ixIn (j := b) rfl (by omega) (by decide)) (ixV (j := b) rfl (by omega)) (q := 6) dX2_pounds_5 rfl ?_
  refine g_aload_n (q := 7) dX2_pounds_6 rfl rfl rfl ?_
  refine gf_X2_18 rfl 0 rfl rfl (q := 10) dX2_pounds_7 rfl ?_
  refine g_iload_n (q := 11) dX2_pounds_10 rfl rfl rfl ?_
  have hb2 := hwt (b) (by omega)
  refine g_iald (v := nI (wt b)) 2 rfl (ixIn (j := b) rfl (by omega) (by decide)) (ixV (j := b) rfl (by omega)) (q := 12) dX2_pounds_11 rfl ?_
  refine gc_X2_43 (c_poundsOf (by omega) (by omega)) rfl (Nat.le_of_ble_eq_true rfl) rfl [] rfl rfl (rest := []) rfl (Nat.le_of_ble_eq_true rfl) (q := 15) dX2_pounds_12 rfl (exK (ws' := [_, _, _]) (st' := [.int (nI (pnd (kd b) (wt b)))]) rfl rfl ?_)
  refine g_iret (st := []) dX2_pounds_15 rfl rfl rfl ?_
  exact (xr rfl)
set_option maxHeartbeats 2000000 in
set_option maxRecDepth 20000 in
theorem c_worth {E : EN} {f0 fk ft fw fs fg fc nb : Nat} {yr : Int32} {ra : Nat} {kd tw wt rt : Nat → Nat} {b : Nat} (hb : b < 10) (hkd : ∀ j, j < 10 → kd j < 4) (htw : ∀ j, j < 10 → tw j < 6) (hwt : ∀ j, j < 10 → wt j < 100) (hrt : ∀ j, j < 6 → rt j < 10) : CT E yX2_worth cX2_worth 3 (some .int) 2 [.ref f0, .int (nI (b)), .ref ra] [(f0, .inr (2, [.int (nI (nb)), .int (yr), .ref fk, .ref ft, .ref fw, .ref fs, .ref fg, .ref fc])), (fk, .inl (E.2.1.1, 10, .inl (nA (kd)))), (ft, .inl (E.2.1.1, 10, .inl (nA (tw)))), (fw, .inl (E.2.1.1, 10, .inl (nA (wt)))), (ra, .inl (E.2.1.1, 6, .inl (nA (rt))))] (xQ (some (.int (nI (pnd (kd b) (wt b) * rt (tw b))))) [(f0, .inr (2, [.int (nI (nb)), .int (yr), .ref fk, .ref ft, .ref fw, .ref fs, .ref fg, .ref fc])), (fk, .inl (E.2.1.1, 10, .inl (nA (kd)))), (ft, .inl (E.2.1.1, 10, .inl (nA (tw)))), (fw, .inl (E.2.1.1, 10, .inl (nA (wt)))), (ra, .inl (E.2.1.1, 6, .inl (nA (rt))))]) := by
  refine ct_of (by decide +kernel) (Nat.le_of_ble_eq_true rfl) (lv := [(0, .ref f0), (1, .int (nI (b))), (2, .ref ra)]) rfl (fun A => ?_)
  refine g_aload_n (q := 1) dX2_worth_0 rfl rfl rfl ?_
  refine g_iload_n (q := 2) dX2_worth_1 rfl rfl rfl ?_
  refine gc_X2_47 (c_pounds (by omega) hkd hwt) rfl (Nat.le_of_ble_eq_true rfl) rfl 0 rfl [0, 1, 3] rfl rfl (rest := []) rfl (Nat.le_of_ble_eq_true rfl) (q := 5) dX2_worth_2 rfl (exK (ws' := [_, _, _, _, _]) (st' := [.int (nI (pnd (kd b) (wt b)))]) rfl rfl ?_)
  refine g_aload_n (q := 6) dX2_worth_5 rfl rfl rfl ?_
  refine g_aload_n (q := 7) dX2_worth_6 rfl rfl rfl ?_
  refine gf_X2_15 rfl 0 rfl rfl (q := 10) dX2_worth_7 rfl ?_
  refine g_iload_n (q := 11) dX2_worth_10 rfl rfl rfl ?_
  have hb1 := htw (b) (by omega)
  refine g_iald (v := nI (tw b)) 2 rfl (ixIn (j := b) rfl (by omega) (by decide)) (ixV (j := b) rfl (by omega)) (q := 12) dX2_worth_11 rfl ?_
  have hb2 := hrt (tw b) (by omega)
  refine g_iald (v := nI (rt (tw b))) 4 rfl (ixIn (j := tw b) rfl (by omega) (by decide)) (ixV (j := tw b) rfl (by omega)) (q := 13) dX2_worth_12 rfl ?_
  refine g_imulN (q := 14) dX2_worth_13 rfl ?_
  refine g_iret (st := []) dX2_worth_14 rfl rfl rfl ?_
  exact (xr rfl)
set_option maxHeartbeats 2000000 in
set_option maxRecDepth 20000 in
theorem c_boysIn {E : EN} {f0 fk ft fw fs fg fc nb : Nat} {yr : Int32} {tw : Nat → Nat} {p : Nat} (hn : nb ≤ 10) (hp : p < 6) (htw : ∀ j, j < 10 → tw j < 6) : CT E yX2_boysIn cX2_boysIn 4 (some .int) 0 [.ref f0, .int (nI (p))] [(f0, .inr (2, [.int (nI (nb)), .int (yr), .ref fk, .ref ft, .ref fw, .ref fs, .ref fg, .ref fc])), (ft, .inl (E.2.1.1, 10, .inl (nA (tw))))] (xQ (some (.int (nI (cntN (fun b => decide (tw b = p)) nb)))) [(f0, .inr (2, [.int (nI (nb)), .int (yr), .ref fk, .ref ft, .ref fw, .ref fs, .ref fg, .ref fc])), (ft, .inl (E.2.1.1, 10, .inl (nA (tw))))]) := by
  refine ct_of (by decide +kernel) (Nat.le_of_ble_eq_true rfl) (lv := [(0, .ref f0), (1, .int (nI (p)))]) rfl (fun A => ?_)
  refine g_iconst (v := nI 0) (q := 1) dX2_boysIn_0 rfl ki_0 ?_
  refine g_istore_n (lv' := [(0, _), (1, _), (2, _)]) (q := 2) dX2_boysIn_1 rfl rfl (Nat.le_of_ble_eq_true rfl) rfl ?_
  refine g_iconst (v := nI 0) (q := 3) dX2_boysIn_2 rfl ki_0 ?_
  refine g_istore_n (lv' := [(0, _), (1, _), (2, _), (3, _)]) (q := 4) dX2_boysIn_3 rfl rfl (Nat.le_of_ble_eq_true rfl) rfl ?_
  refine g_loop (nb) (fun i => [(f0, .inr (2, [.int (nI (nb)), .int (yr), .ref fk, .ref ft, .ref fw, .ref fs, .ref fg, .ref fc])), (ft, .inl (E.2.1.1, 10, .inl (nA (tw))))]) (fun i => [(0, .ref f0), (1, .int (nI (p))), (2, .int (nI (cntN (fun b => decide (tw b = p)) (i)))), (3, .int (nI (i)))]) ?_ ?_ 0 (Nat.zero_le _)
  · intro i hi4 ih4
    show G E _ [(f0, .inr (2, [.int (nI (nb)), .int (yr), .ref fk, .ref ft, .ref fw, .ref fs, .ref fg, .ref fc])), (ft, .inl (E.2.1.1, 10, .inl (nA (tw))))] 4 [(0, .ref f0), (1, .int (nI (p))), (2, .int (nI (cntN (fun b => decide (tw b = p)) (i)))), (3, .int (nI (i)))] []
    refine g_iload_n (q := 5) dX2_boysIn_4 rfl rfl rfl ?_
    refine g_aload_n (q := 6) dX2_boysIn_5 rfl rfl rfl ?_
    refine gf_X2_30 rfl 0 rfl rfl (q := 9) dX2_boysIn_6 rfl ?_
    refine g_icmp_geN (t := 31) (q := 12) dX2_boysIn_9 (by decide) rfl (by omega) (by omega) (fun c9 => ?_) (fun c9 => ?_)
    · omega
    · skip
      refine g_aload_n (q := 13) dX2_boysIn_12 rfl rfl rfl ?_
      refine gf_X2_15 rfl 0 rfl rfl (q := 16) dX2_boysIn_13 rfl ?_
      refine g_iload_n (q := 17) dX2_boysIn_16 rfl rfl rfl ?_
      have hb1 := htw (i) (by omega)
      refine g_iald (v := nI (tw i)) 1 rfl (ixIn (j := i) rfl (by omega) (by decide)) (ixV (j := i) rfl (by omega)) (q := 18) dX2_boysIn_17 rfl ?_
      refine g_iload_n (q := 19) dX2_boysIn_18 rfl rfl rfl ?_
      refine g_icmp_neN (t := 25) (q := 22) dX2_boysIn_19 (by decide) rfl (by omega) (by omega) (fun c19 => ?_) (fun c19 => ?_)
      · skip
        refine g_iinc (lv' := [(0, _), (1, _), (2, _), (3, _)]) (v := nI (i + 1)) (q := 28) dX2_boysIn_25 rfl rfl (nI_inc _) (Nat.le_of_ble_eq_true rfl) rfl ?_
        refine g_goto (q := 4) dX2_boysIn_28 (by decide) ?_
        simp only [cntN, c19, decide_true, decide_false, if_true, Bool.false_eq_true, if_false, Nat.add_zero] at ih4
        exact ih4
      · skip
        refine g_iinc (lv' := [(0, _), (1, _), (2, _), (3, _)]) (v := nI (cntN (fun b => decide (tw b = p)) (i) + 1)) (q := 25) dX2_boysIn_22 rfl rfl (nI_inc _) (Nat.le_of_ble_eq_true rfl) rfl ?_
        refine g_iinc (lv' := [(0, _), (1, _), (2, _), (3, _)]) (v := nI (i + 1)) (q := 28) dX2_boysIn_25 rfl rfl (nI_inc _) (Nat.le_of_ble_eq_true rfl) rfl ?_
        refine g_goto (q := 4) dX2_boysIn_28 (by decide) ?_
        simp only [cntN, c19, decide_true, decide_false, if_true, Bool.false_eq_true, if_false, Nat.add_zero] at ih4
        exact ih4
  · skip
    show G E _ [(f0, .inr (2, [.int (nI (nb)), .int (yr), .ref fk, .ref ft, .ref fw, .ref fs, .ref fg, .ref fc])), (ft, .inl (E.2.1.1, 10, .inl (nA (tw))))] 4 [(0, .ref f0), (1, .int (nI (p))), (2, .int (nI (cntN (fun b => decide (tw b = p)) (nb)))), (3, .int (nI (nb)))] []
    refine g_iload_n (q := 5) dX2_boysIn_4 rfl rfl rfl ?_
    refine g_aload_n (q := 6) dX2_boysIn_5 rfl rfl rfl ?_
    refine gf_X2_30 rfl 0 rfl rfl (q := 9) dX2_boysIn_6 rfl ?_
    refine g_icmp_geN (t := 31) (q := 12) dX2_boysIn_9 (by decide) rfl (by omega) (by omega) (fun c9 => ?_) (fun c9 => ?_)
    · skip
      refine g_iload_n (q := 32) dX2_boysIn_31 rfl rfl rfl ?_
      refine g_iret (st := []) dX2_boysIn_32 rfl rfl rfl ?_
      exact (xr rfl)
    · omega
set_option maxHeartbeats 2000000 in
set_option maxRecDepth 20000 in
theorem c_isOf {E : EN} {f0 fk ft fw fs fg fc nb : Nat} {yr : Int32} {kd : Nat → Nat} {b x : Nat} (hb : b < 10) (hkd : kd b < 4) (hx : x < 5) : CT E yX2_isOf cX2_isOf 5 (some .boolean) 0 [.ref f0, .int (nI (b)), .int (nI (x))] [(f0, .inr (2, [.int (nI (nb)), .int (yr), .ref fk, .ref ft, .ref fw, .ref fs, .ref fg, .ref fc])), (fk, .inl (E.2.1.1, 10, .inl (nA (kd))))] (xQ (some (.int (bI (isK (kd b) x)))) [(f0, .inr (2, [.int (nI (nb)), .int (yr), .ref fk, .ref ft, .ref fw, .ref fs, .ref fg, .ref fc])), (fk, .inl (E.2.1.1, 10, .inl (nA (kd))))]) := by
  refine ct_of (by decide +kernel) (Nat.le_of_ble_eq_true rfl) (lv := [(0, .ref f0), (1, .int (nI (b))), (2, .int (nI (x)))]) rfl (fun A => ?_)
  refine g_aload_n (q := 1) dX2_isOf_0 rfl rfl rfl ?_
  refine gf_X2_9 rfl 0 rfl rfl (q := 4) dX2_isOf_1 rfl ?_
  refine g_iload_n (q := 5) dX2_isOf_4 rfl rfl rfl ?_
  refine g_iald (v := nI (kd b)) 1 rfl (ixIn (j := b) rfl (by omega) (by decide)) (ixV (j := b) rfl (by omega)) (q := 6) dX2_isOf_5 rfl ?_
  rcases (show kd b = 0 ∨ kd b = 1 ∨ kd b = 2 ∨ kd b = 3 by omega) with hk | hk | hk | hk
  · rw [hk]
    refine g_iconst (v := nI 1) (q := 7) dX2_isOf_6 rfl ki_1 ?_
    refine g_iaddN (q := 8) dX2_isOf_7 rfl ?_
    refine g_istore_n (lv' := [(0, _), (1, _), (2, _), (3, _)]) (q := 9) dX2_isOf_8 rfl rfl (Nat.le_of_ble_eq_true rfl) rfl ?_
    refine g_iconst (v := nI 0) (q := 10) dX2_isOf_9 rfl ki_0 ?_
    refine g_istore (lv' := [(0, _), (1, _), (2, _), (3, _), (4, _)]) (q := 12) dX2_isOf_10 rfl (Nat.le_of_ble_eq_true rfl) rfl ?_
    refine g_iload (q := 14) dX2_isOf_12 rfl rfl ?_
    refine g_koN rfl (q := 17) dX2_isOf_14 rfl ?_
    refine g_kolenN (q := 18) dX2_isOf_17 rfl ?_
    refine g_icmp_geN (t := 45) (q := 21) dX2_isOf_18 (by decide) rfl (by omega) (by omega) (fun c18 => ?_) (fun c18 => ?_)
    · omega
    · skip
      refine g_iload_n (q := 22) dX2_isOf_21 rfl rfl rfl ?_
      refine g_iconst (v := (-1)) (q := 23) dX2_isOf_22 rfl ki_m1 ?_
      refine g_icmp_eq (t := 45) (q := 26) dX2_isOf_23 (by decide) rfl (fun c23 => ?_) (fun c23 => ?_)
      · exact absurd c23 (by decide)
      · skip
        refine g_iload_n (q := 27) dX2_isOf_26 rfl rfl rfl ?_
        refine g_iload_n (q := 28) dX2_isOf_27 rfl rfl rfl ?_
        refine g_icmp_neN (t := 33) (q := 31) dX2_isOf_28 (by decide) rfl (by omega) (by omega) (fun c28 => ?_) (fun c28 => ?_)
        · skip
          refine g_koN rfl (q := 36) dX2_isOf_33 rfl ?_
          refine g_iload_n (q := 37) dX2_isOf_36 rfl rfl rfl ?_
          refine g_koldC (j := 0 + 1) (v := nI (0)) (by omega) (by decide) (q := 38) dX2_isOf_37 rfl ?_
          refine g_istore_n (lv' := [(0, _), (1, _), (2, _), (3, _), (4, _)]) (q := 39) dX2_isOf_38 rfl rfl (Nat.le_of_ble_eq_true rfl) rfl ?_
          refine g_iinc (lv' := [(0, _), (1, _), (2, _), (3, _), (4, _)]) (v := nI (1)) (q := 42) dX2_isOf_39 rfl rfl (nI_inc _) (Nat.le_of_ble_eq_true rfl) rfl ?_
          refine g_goto (q := 12) dX2_isOf_42 (by decide) ?_
          refine g_iload (q := 14) dX2_isOf_12 rfl rfl ?_
          refine g_koN rfl (q := 17) dX2_isOf_14 rfl ?_
          refine g_kolenN (q := 18) dX2_isOf_17 rfl ?_
          refine g_icmp_geN (t := 45) (q := 21) dX2_isOf_18 (by decide) rfl (by omega) (by omega) (fun c18 => ?_) (fun c18 => ?_)
          · omega
          · skip
            refine g_iload_n (q := 22) dX2_isOf_21 rfl rfl rfl ?_
            refine g_iconst (v := (-1)) (q := 23) dX2_isOf_22 rfl ki_m1 ?_
            refine g_icmp_eq (t := 45) (q := 26) dX2_isOf_23 (by decide) rfl (fun c23 => ?_) (fun c23 => ?_)
            · exact absurd c23 (by decide)
            · skip
              refine g_iload_n (q := 27) dX2_isOf_26 rfl rfl rfl ?_
              refine g_iload_n (q := 28) dX2_isOf_27 rfl rfl rfl ?_
              refine g_icmp_neN (t := 33) (q := 31) dX2_isOf_28 (by decide) rfl (by omega) (by omega) (fun c28 => ?_) (fun c28 => ?_)
              · skip
                refine g_koN rfl (q := 36) dX2_isOf_33 rfl ?_
                refine g_iload_n (q := 37) dX2_isOf_36 rfl rfl rfl ?_
                refine g_koldC (j := 0) (v := (-1)) (by omega) (by decide) (q := 38) dX2_isOf_37 rfl ?_
                refine g_istore_n (lv' := [(0, _), (1, _), (2, _), (3, _), (4, _)]) (q := 39) dX2_isOf_38 rfl rfl (Nat.le_of_ble_eq_true rfl) rfl ?_
                refine g_iinc (lv' := [(0, _), (1, _), (2, _), (3, _), (4, _)]) (v := nI (2)) (q := 42) dX2_isOf_39 rfl rfl (nI_inc _) (Nat.le_of_ble_eq_true rfl) rfl ?_
                refine g_goto (q := 12) dX2_isOf_42 (by decide) ?_
                refine g_iload (q := 14) dX2_isOf_12 rfl rfl ?_
                refine g_koN rfl (q := 17) dX2_isOf_14 rfl ?_
                refine g_kolenN (q := 18) dX2_isOf_17 rfl ?_
                refine g_icmp_geN (t := 45) (q := 21) dX2_isOf_18 (by decide) rfl (by omega) (by omega) (fun c18 => ?_) (fun c18 => ?_)
                · omega
                · skip
                  refine g_iload_n (q := 22) dX2_isOf_21 rfl rfl rfl ?_
                  refine g_iconst (v := (-1)) (q := 23) dX2_isOf_22 rfl ki_m1 ?_
                  refine g_icmp_eq (t := 45) (q := 26) dX2_isOf_23 (by decide) rfl (fun c23 => ?_) (fun c23 => ?_)
                  · skip
                    refine g_iconst (v := nI 0) (q := 46) dX2_isOf_45 rfl ki_0 ?_
                    refine g_iret (st := []) dX2_isOf_46 rfl (narZ (by first | exact Or.inl rfl | exact Or.inr rfl)) rfl ?_
                    exact (xr (bI_f (by omega)))
                  · exact absurd (by decide) c23
              · skip
                refine g_iconst (v := nI 1) (q := 32) dX2_isOf_31 rfl ki_1 ?_
                refine g_iret (st := []) dX2_isOf_32 rfl (narZ (by first | exact Or.inl rfl | exact Or.inr rfl)) rfl ?_
                exact (xr (bI_t (by omega)))
        · skip
          refine g_iconst (v := nI 1) (q := 32) dX2_isOf_31 rfl ki_1 ?_
          refine g_iret (st := []) dX2_isOf_32 rfl (narZ (by first | exact Or.inl rfl | exact Or.inr rfl)) rfl ?_
          exact (xr (bI_t (by omega)))
  · rw [hk]
    refine g_iconst (v := nI 1) (q := 7) dX2_isOf_6 rfl ki_1 ?_
    refine g_iaddN (q := 8) dX2_isOf_7 rfl ?_
    refine g_istore_n (lv' := [(0, _), (1, _), (2, _), (3, _)]) (q := 9) dX2_isOf_8 rfl rfl (Nat.le_of_ble_eq_true rfl) rfl ?_
    refine g_iconst (v := nI 0) (q := 10) dX2_isOf_9 rfl ki_0 ?_
    refine g_istore (lv' := [(0, _), (1, _), (2, _), (3, _), (4, _)]) (q := 12) dX2_isOf_10 rfl (Nat.le_of_ble_eq_true rfl) rfl ?_
    refine g_iload (q := 14) dX2_isOf_12 rfl rfl ?_
    refine g_koN rfl (q := 17) dX2_isOf_14 rfl ?_
    refine g_kolenN (q := 18) dX2_isOf_17 rfl ?_
    refine g_icmp_geN (t := 45) (q := 21) dX2_isOf_18 (by decide) rfl (by omega) (by omega) (fun c18 => ?_) (fun c18 => ?_)
    · omega
    · skip
      refine g_iload_n (q := 22) dX2_isOf_21 rfl rfl rfl ?_
      refine g_iconst (v := (-1)) (q := 23) dX2_isOf_22 rfl ki_m1 ?_
      refine g_icmp_eq (t := 45) (q := 26) dX2_isOf_23 (by decide) rfl (fun c23 => ?_) (fun c23 => ?_)
      · exact absurd c23 (by decide)
      · skip
        refine g_iload_n (q := 27) dX2_isOf_26 rfl rfl rfl ?_
        refine g_iload_n (q := 28) dX2_isOf_27 rfl rfl rfl ?_
        refine g_icmp_neN (t := 33) (q := 31) dX2_isOf_28 (by decide) rfl (by omega) (by omega) (fun c28 => ?_) (fun c28 => ?_)
        · skip
          refine g_koN rfl (q := 36) dX2_isOf_33 rfl ?_
          refine g_iload_n (q := 37) dX2_isOf_36 rfl rfl rfl ?_
          refine g_koldC (j := 1 + 1) (v := nI (1)) (by omega) (by decide) (q := 38) dX2_isOf_37 rfl ?_
          refine g_istore_n (lv' := [(0, _), (1, _), (2, _), (3, _), (4, _)]) (q := 39) dX2_isOf_38 rfl rfl (Nat.le_of_ble_eq_true rfl) rfl ?_
          refine g_iinc (lv' := [(0, _), (1, _), (2, _), (3, _), (4, _)]) (v := nI (1)) (q := 42) dX2_isOf_39 rfl rfl (nI_inc _) (Nat.le_of_ble_eq_true rfl) rfl ?_
          refine g_goto (q := 12) dX2_isOf_42 (by decide) ?_
          refine g_iload (q := 14) dX2_isOf_12 rfl rfl ?_
          refine g_koN rfl (q := 17) dX2_isOf_14 rfl ?_
          refine g_kolenN (q := 18) dX2_isOf_17 rfl ?_
          refine g_icmp_geN (t := 45) (q := 21) dX2_isOf_18 (by decide) rfl (by omega) (by omega) (fun c18 => ?_) (fun c18 => ?_)
          · omega
          · skip
            refine g_iload_n (q := 22) dX2_isOf_21 rfl rfl rfl ?_
            refine g_iconst (v := (-1)) (q := 23) dX2_isOf_22 rfl ki_m1 ?_
            refine g_icmp_eq (t := 45) (q := 26) dX2_isOf_23 (by decide) rfl (fun c23 => ?_) (fun c23 => ?_)
            · exact absurd c23 (by decide)
            · skip
              refine g_iload_n (q := 27) dX2_isOf_26 rfl rfl rfl ?_
              refine g_iload_n (q := 28) dX2_isOf_27 rfl rfl rfl ?_
              refine g_icmp_neN (t := 33) (q := 31) dX2_isOf_28 (by decide) rfl (by omega) (by omega) (fun c28 => ?_) (fun c28 => ?_)
              · skip
                refine g_koN rfl (q := 36) dX2_isOf_33 rfl ?_
                refine g_iload_n (q := 37) dX2_isOf_36 rfl rfl rfl ?_
                refine g_koldC (j := 1) (v := nI (0)) (by omega) (by decide) (q := 38) dX2_isOf_37 rfl ?_
                refine g_istore_n (lv' := [(0, _), (1, _), (2, _), (3, _), (4, _)]) (q := 39) dX2_isOf_38 rfl rfl (Nat.le_of_ble_eq_true rfl) rfl ?_
                refine g_iinc (lv' := [(0, _), (1, _), (2, _), (3, _), (4, _)]) (v := nI (2)) (q := 42) dX2_isOf_39 rfl rfl (nI_inc _) (Nat.le_of_ble_eq_true rfl) rfl ?_
                refine g_goto (q := 12) dX2_isOf_42 (by decide) ?_
                refine g_iload (q := 14) dX2_isOf_12 rfl rfl ?_
                refine g_koN rfl (q := 17) dX2_isOf_14 rfl ?_
                refine g_kolenN (q := 18) dX2_isOf_17 rfl ?_
                refine g_icmp_geN (t := 45) (q := 21) dX2_isOf_18 (by decide) rfl (by omega) (by omega) (fun c18 => ?_) (fun c18 => ?_)
                · omega
                · skip
                  refine g_iload_n (q := 22) dX2_isOf_21 rfl rfl rfl ?_
                  refine g_iconst (v := (-1)) (q := 23) dX2_isOf_22 rfl ki_m1 ?_
                  refine g_icmp_eq (t := 45) (q := 26) dX2_isOf_23 (by decide) rfl (fun c23 => ?_) (fun c23 => ?_)
                  · exact absurd c23 (by decide)
                  · skip
                    refine g_iload_n (q := 27) dX2_isOf_26 rfl rfl rfl ?_
                    refine g_iload_n (q := 28) dX2_isOf_27 rfl rfl rfl ?_
                    refine g_icmp_neN (t := 33) (q := 31) dX2_isOf_28 (by decide) rfl (by omega) (by omega) (fun c28 => ?_) (fun c28 => ?_)
                    · skip
                      refine g_koN rfl (q := 36) dX2_isOf_33 rfl ?_
                      refine g_iload_n (q := 37) dX2_isOf_36 rfl rfl rfl ?_
                      refine g_koldC (j := 0) (v := (-1)) (by omega) (by decide) (q := 38) dX2_isOf_37 rfl ?_
                      refine g_istore_n (lv' := [(0, _), (1, _), (2, _), (3, _), (4, _)]) (q := 39) dX2_isOf_38 rfl rfl (Nat.le_of_ble_eq_true rfl) rfl ?_
                      refine g_iinc (lv' := [(0, _), (1, _), (2, _), (3, _), (4, _)]) (v := nI (3)) (q := 42) dX2_isOf_39 rfl rfl (nI_inc _) (Nat.le_of_ble_eq_true rfl) rfl ?_
                      refine g_goto (q := 12) dX2_isOf_42 (by decide) ?_
                      refine g_iload (q := 14) dX2_isOf_12 rfl rfl ?_
                      refine g_koN rfl (q := 17) dX2_isOf_14 rfl ?_
                      refine g_kolenN (q := 18) dX2_isOf_17 rfl ?_
                      refine g_icmp_geN (t := 45) (q := 21) dX2_isOf_18 (by decide) rfl (by omega) (by omega) (fun c18 => ?_) (fun c18 => ?_)
                      · omega
                      · skip
                        refine g_iload_n (q := 22) dX2_isOf_21 rfl rfl rfl ?_
                        refine g_iconst (v := (-1)) (q := 23) dX2_isOf_22 rfl ki_m1 ?_
                        refine g_icmp_eq (t := 45) (q := 26) dX2_isOf_23 (by decide) rfl (fun c23 => ?_) (fun c23 => ?_)
                        · skip
                          refine g_iconst (v := nI 0) (q := 46) dX2_isOf_45 rfl ki_0 ?_
                          refine g_iret (st := []) dX2_isOf_46 rfl (narZ (by first | exact Or.inl rfl | exact Or.inr rfl)) rfl ?_
                          exact (xr (bI_f (by omega)))
                        · exact absurd (by decide) c23
                    · skip
                      refine g_iconst (v := nI 1) (q := 32) dX2_isOf_31 rfl ki_1 ?_
                      refine g_iret (st := []) dX2_isOf_32 rfl (narZ (by first | exact Or.inl rfl | exact Or.inr rfl)) rfl ?_
                      exact (xr (bI_t (by omega)))
              · skip
                refine g_iconst (v := nI 1) (q := 32) dX2_isOf_31 rfl ki_1 ?_
                refine g_iret (st := []) dX2_isOf_32 rfl (narZ (by first | exact Or.inl rfl | exact Or.inr rfl)) rfl ?_
                exact (xr (bI_t (by omega)))
        · skip
          refine g_iconst (v := nI 1) (q := 32) dX2_isOf_31 rfl ki_1 ?_
          refine g_iret (st := []) dX2_isOf_32 rfl (narZ (by first | exact Or.inl rfl | exact Or.inr rfl)) rfl ?_
          exact (xr (bI_t (by omega)))
  · rw [hk]
    refine g_iconst (v := nI 1) (q := 7) dX2_isOf_6 rfl ki_1 ?_
    refine g_iaddN (q := 8) dX2_isOf_7 rfl ?_
    refine g_istore_n (lv' := [(0, _), (1, _), (2, _), (3, _)]) (q := 9) dX2_isOf_8 rfl rfl (Nat.le_of_ble_eq_true rfl) rfl ?_
    refine g_iconst (v := nI 0) (q := 10) dX2_isOf_9 rfl ki_0 ?_
    refine g_istore (lv' := [(0, _), (1, _), (2, _), (3, _), (4, _)]) (q := 12) dX2_isOf_10 rfl (Nat.le_of_ble_eq_true rfl) rfl ?_
    refine g_iload (q := 14) dX2_isOf_12 rfl rfl ?_
    refine g_koN rfl (q := 17) dX2_isOf_14 rfl ?_
    refine g_kolenN (q := 18) dX2_isOf_17 rfl ?_
    refine g_icmp_geN (t := 45) (q := 21) dX2_isOf_18 (by decide) rfl (by omega) (by omega) (fun c18 => ?_) (fun c18 => ?_)
    · omega
    · skip
      refine g_iload_n (q := 22) dX2_isOf_21 rfl rfl rfl ?_
      refine g_iconst (v := (-1)) (q := 23) dX2_isOf_22 rfl ki_m1 ?_
      refine g_icmp_eq (t := 45) (q := 26) dX2_isOf_23 (by decide) rfl (fun c23 => ?_) (fun c23 => ?_)
      · exact absurd c23 (by decide)
      · skip
        refine g_iload_n (q := 27) dX2_isOf_26 rfl rfl rfl ?_
        refine g_iload_n (q := 28) dX2_isOf_27 rfl rfl rfl ?_
        refine g_icmp_neN (t := 33) (q := 31) dX2_isOf_28 (by decide) rfl (by omega) (by omega) (fun c28 => ?_) (fun c28 => ?_)
        · skip
          refine g_koN rfl (q := 36) dX2_isOf_33 rfl ?_
          refine g_iload_n (q := 37) dX2_isOf_36 rfl rfl rfl ?_
          refine g_koldC (j := 2 + 1) (v := nI (1)) (by omega) (by decide) (q := 38) dX2_isOf_37 rfl ?_
          refine g_istore_n (lv' := [(0, _), (1, _), (2, _), (3, _), (4, _)]) (q := 39) dX2_isOf_38 rfl rfl (Nat.le_of_ble_eq_true rfl) rfl ?_
          refine g_iinc (lv' := [(0, _), (1, _), (2, _), (3, _), (4, _)]) (v := nI (1)) (q := 42) dX2_isOf_39 rfl rfl (nI_inc _) (Nat.le_of_ble_eq_true rfl) rfl ?_
          refine g_goto (q := 12) dX2_isOf_42 (by decide) ?_
          refine g_iload (q := 14) dX2_isOf_12 rfl rfl ?_
          refine g_koN rfl (q := 17) dX2_isOf_14 rfl ?_
          refine g_kolenN (q := 18) dX2_isOf_17 rfl ?_
          refine g_icmp_geN (t := 45) (q := 21) dX2_isOf_18 (by decide) rfl (by omega) (by omega) (fun c18 => ?_) (fun c18 => ?_)
          · omega
          · skip
            refine g_iload_n (q := 22) dX2_isOf_21 rfl rfl rfl ?_
            refine g_iconst (v := (-1)) (q := 23) dX2_isOf_22 rfl ki_m1 ?_
            refine g_icmp_eq (t := 45) (q := 26) dX2_isOf_23 (by decide) rfl (fun c23 => ?_) (fun c23 => ?_)
            · exact absurd c23 (by decide)
            · skip
              refine g_iload_n (q := 27) dX2_isOf_26 rfl rfl rfl ?_
              refine g_iload_n (q := 28) dX2_isOf_27 rfl rfl rfl ?_
              refine g_icmp_neN (t := 33) (q := 31) dX2_isOf_28 (by decide) rfl (by omega) (by omega) (fun c28 => ?_) (fun c28 => ?_)
              · skip
                refine g_koN rfl (q := 36) dX2_isOf_33 rfl ?_
                refine g_iload_n (q := 37) dX2_isOf_36 rfl rfl rfl ?_
                refine g_koldC (j := 1) (v := nI (0)) (by omega) (by decide) (q := 38) dX2_isOf_37 rfl ?_
                refine g_istore_n (lv' := [(0, _), (1, _), (2, _), (3, _), (4, _)]) (q := 39) dX2_isOf_38 rfl rfl (Nat.le_of_ble_eq_true rfl) rfl ?_
                refine g_iinc (lv' := [(0, _), (1, _), (2, _), (3, _), (4, _)]) (v := nI (2)) (q := 42) dX2_isOf_39 rfl rfl (nI_inc _) (Nat.le_of_ble_eq_true rfl) rfl ?_
                refine g_goto (q := 12) dX2_isOf_42 (by decide) ?_
                refine g_iload (q := 14) dX2_isOf_12 rfl rfl ?_
                refine g_koN rfl (q := 17) dX2_isOf_14 rfl ?_
                refine g_kolenN (q := 18) dX2_isOf_17 rfl ?_
                refine g_icmp_geN (t := 45) (q := 21) dX2_isOf_18 (by decide) rfl (by omega) (by omega) (fun c18 => ?_) (fun c18 => ?_)
                · omega
                · skip
                  refine g_iload_n (q := 22) dX2_isOf_21 rfl rfl rfl ?_
                  refine g_iconst (v := (-1)) (q := 23) dX2_isOf_22 rfl ki_m1 ?_
                  refine g_icmp_eq (t := 45) (q := 26) dX2_isOf_23 (by decide) rfl (fun c23 => ?_) (fun c23 => ?_)
                  · exact absurd c23 (by decide)
                  · skip
                    refine g_iload_n (q := 27) dX2_isOf_26 rfl rfl rfl ?_
                    refine g_iload_n (q := 28) dX2_isOf_27 rfl rfl rfl ?_
                    refine g_icmp_neN (t := 33) (q := 31) dX2_isOf_28 (by decide) rfl (by omega) (by omega) (fun c28 => ?_) (fun c28 => ?_)
                    · skip
                      refine g_koN rfl (q := 36) dX2_isOf_33 rfl ?_
                      refine g_iload_n (q := 37) dX2_isOf_36 rfl rfl rfl ?_
                      refine g_koldC (j := 0) (v := (-1)) (by omega) (by decide) (q := 38) dX2_isOf_37 rfl ?_
                      refine g_istore_n (lv' := [(0, _), (1, _), (2, _), (3, _), (4, _)]) (q := 39) dX2_isOf_38 rfl rfl (Nat.le_of_ble_eq_true rfl) rfl ?_
                      refine g_iinc (lv' := [(0, _), (1, _), (2, _), (3, _), (4, _)]) (v := nI (3)) (q := 42) dX2_isOf_39 rfl rfl (nI_inc _) (Nat.le_of_ble_eq_true rfl) rfl ?_
                      refine g_goto (q := 12) dX2_isOf_42 (by decide) ?_
                      refine g_iload (q := 14) dX2_isOf_12 rfl rfl ?_
                      refine g_koN rfl (q := 17) dX2_isOf_14 rfl ?_
                      refine g_kolenN (q := 18) dX2_isOf_17 rfl ?_
                      refine g_icmp_geN (t := 45) (q := 21) dX2_isOf_18 (by decide) rfl (by omega) (by omega) (fun c18 => ?_) (fun c18 => ?_)
                      · omega
                      · skip
                        refine g_iload_n (q := 22) dX2_isOf_21 rfl rfl rfl ?_
                        refine g_iconst (v := (-1)) (q := 23) dX2_isOf_22 rfl ki_m1 ?_
                        refine g_icmp_eq (t := 45) (q := 26) dX2_isOf_23 (by decide) rfl (fun c23 => ?_) (fun c23 => ?_)
                        · skip
                          refine g_iconst (v := nI 0) (q := 46) dX2_isOf_45 rfl ki_0 ?_
                          refine g_iret (st := []) dX2_isOf_46 rfl (narZ (by first | exact Or.inl rfl | exact Or.inr rfl)) rfl ?_
                          exact (xr (bI_f (by omega)))
                        · exact absurd (by decide) c23
                    · skip
                      refine g_iconst (v := nI 1) (q := 32) dX2_isOf_31 rfl ki_1 ?_
                      refine g_iret (st := []) dX2_isOf_32 rfl (narZ (by first | exact Or.inl rfl | exact Or.inr rfl)) rfl ?_
                      exact (xr (bI_t (by omega)))
              · skip
                refine g_iconst (v := nI 1) (q := 32) dX2_isOf_31 rfl ki_1 ?_
                refine g_iret (st := []) dX2_isOf_32 rfl (narZ (by first | exact Or.inl rfl | exact Or.inr rfl)) rfl ?_
                exact (xr (bI_t (by omega)))
        · skip
          refine g_iconst (v := nI 1) (q := 32) dX2_isOf_31 rfl ki_1 ?_
          refine g_iret (st := []) dX2_isOf_32 rfl (narZ (by first | exact Or.inl rfl | exact Or.inr rfl)) rfl ?_
          exact (xr (bI_t (by omega)))
  · rw [hk]
    refine g_iconst (v := nI 1) (q := 7) dX2_isOf_6 rfl ki_1 ?_
    refine g_iaddN (q := 8) dX2_isOf_7 rfl ?_
    refine g_istore_n (lv' := [(0, _), (1, _), (2, _), (3, _)]) (q := 9) dX2_isOf_8 rfl rfl (Nat.le_of_ble_eq_true rfl) rfl ?_
    refine g_iconst (v := nI 0) (q := 10) dX2_isOf_9 rfl ki_0 ?_
    refine g_istore (lv' := [(0, _), (1, _), (2, _), (3, _), (4, _)]) (q := 12) dX2_isOf_10 rfl (Nat.le_of_ble_eq_true rfl) rfl ?_
    refine g_iload (q := 14) dX2_isOf_12 rfl rfl ?_
    refine g_koN rfl (q := 17) dX2_isOf_14 rfl ?_
    refine g_kolenN (q := 18) dX2_isOf_17 rfl ?_
    refine g_icmp_geN (t := 45) (q := 21) dX2_isOf_18 (by decide) rfl (by omega) (by omega) (fun c18 => ?_) (fun c18 => ?_)
    · omega
    · skip
      refine g_iload_n (q := 22) dX2_isOf_21 rfl rfl rfl ?_
      refine g_iconst (v := (-1)) (q := 23) dX2_isOf_22 rfl ki_m1 ?_
      refine g_icmp_eq (t := 45) (q := 26) dX2_isOf_23 (by decide) rfl (fun c23 => ?_) (fun c23 => ?_)
      · exact absurd c23 (by decide)
      · skip
        refine g_iload_n (q := 27) dX2_isOf_26 rfl rfl rfl ?_
        refine g_iload_n (q := 28) dX2_isOf_27 rfl rfl rfl ?_
        refine g_icmp_neN (t := 33) (q := 31) dX2_isOf_28 (by decide) rfl (by omega) (by omega) (fun c28 => ?_) (fun c28 => ?_)
        · skip
          refine g_koN rfl (q := 36) dX2_isOf_33 rfl ?_
          refine g_iload_n (q := 37) dX2_isOf_36 rfl rfl rfl ?_
          refine g_koldC (j := 3 + 1) (v := nI (0)) (by omega) (by decide) (q := 38) dX2_isOf_37 rfl ?_
          refine g_istore_n (lv' := [(0, _), (1, _), (2, _), (3, _), (4, _)]) (q := 39) dX2_isOf_38 rfl rfl (Nat.le_of_ble_eq_true rfl) rfl ?_
          refine g_iinc (lv' := [(0, _), (1, _), (2, _), (3, _), (4, _)]) (v := nI (1)) (q := 42) dX2_isOf_39 rfl rfl (nI_inc _) (Nat.le_of_ble_eq_true rfl) rfl ?_
          refine g_goto (q := 12) dX2_isOf_42 (by decide) ?_
          refine g_iload (q := 14) dX2_isOf_12 rfl rfl ?_
          refine g_koN rfl (q := 17) dX2_isOf_14 rfl ?_
          refine g_kolenN (q := 18) dX2_isOf_17 rfl ?_
          refine g_icmp_geN (t := 45) (q := 21) dX2_isOf_18 (by decide) rfl (by omega) (by omega) (fun c18 => ?_) (fun c18 => ?_)
          · omega
          · skip
            refine g_iload_n (q := 22) dX2_isOf_21 rfl rfl rfl ?_
            refine g_iconst (v := (-1)) (q := 23) dX2_isOf_22 rfl ki_m1 ?_
            refine g_icmp_eq (t := 45) (q := 26) dX2_isOf_23 (by decide) rfl (fun c23 => ?_) (fun c23 => ?_)
            · exact absurd c23 (by decide)
            · skip
              refine g_iload_n (q := 27) dX2_isOf_26 rfl rfl rfl ?_
              refine g_iload_n (q := 28) dX2_isOf_27 rfl rfl rfl ?_
              refine g_icmp_neN (t := 33) (q := 31) dX2_isOf_28 (by decide) rfl (by omega) (by omega) (fun c28 => ?_) (fun c28 => ?_)
              · skip
                refine g_koN rfl (q := 36) dX2_isOf_33 rfl ?_
                refine g_iload_n (q := 37) dX2_isOf_36 rfl rfl rfl ?_
                refine g_koldC (j := 0) (v := (-1)) (by omega) (by decide) (q := 38) dX2_isOf_37 rfl ?_
                refine g_istore_n (lv' := [(0, _), (1, _), (2, _), (3, _), (4, _)]) (q := 39) dX2_isOf_38 rfl rfl (Nat.le_of_ble_eq_true rfl) rfl ?_
                refine g_iinc (lv' := [(0, _), (1, _), (2, _), (3, _), (4, _)]) (v := nI (2)) (q := 42) dX2_isOf_39 rfl rfl (nI_inc _) (Nat.le_of_ble_eq_true rfl) rfl ?_
                refine g_goto (q := 12) dX2_isOf_42 (by decide) ?_
                refine g_iload (q := 14) dX2_isOf_12 rfl rfl ?_
                refine g_koN rfl (q := 17) dX2_isOf_14 rfl ?_
                refine g_kolenN (q := 18) dX2_isOf_17 rfl ?_
                refine g_icmp_geN (t := 45) (q := 21) dX2_isOf_18 (by decide) rfl (by omega) (by omega) (fun c18 => ?_) (fun c18 => ?_)
                · omega
                · skip
                  refine g_iload_n (q := 22) dX2_isOf_21 rfl rfl rfl ?_
                  refine g_iconst (v := (-1)) (q := 23) dX2_isOf_22 rfl ki_m1 ?_
                  refine g_icmp_eq (t := 45) (q := 26) dX2_isOf_23 (by decide) rfl (fun c23 => ?_) (fun c23 => ?_)
                  · skip
                    refine g_iconst (v := nI 0) (q := 46) dX2_isOf_45 rfl ki_0 ?_
                    refine g_iret (st := []) dX2_isOf_46 rfl (narZ (by first | exact Or.inl rfl | exact Or.inr rfl)) rfl ?_
                    exact (xr (bI_f (by omega)))
                  · exact absurd (by decide) c23
              · skip
                refine g_iconst (v := nI 1) (q := 32) dX2_isOf_31 rfl ki_1 ?_
                refine g_iret (st := []) dX2_isOf_32 rfl (narZ (by first | exact Or.inl rfl | exact Or.inr rfl)) rfl ?_
                exact (xr (bI_t (by omega)))
        · skip
          refine g_iconst (v := nI 1) (q := 32) dX2_isOf_31 rfl ki_1 ?_
          refine g_iret (st := []) dX2_isOf_32 rfl (narZ (by first | exact Or.inl rfl | exact Or.inr rfl)) rfl ?_
          exact (xr (bI_t (by omega)))
set_option maxHeartbeats 2000000 in
set_option maxRecDepth 20000 in
theorem c_become {E : EN} {f0 fk ft fw fs fg fc nb : Nat} {yr : Int32} {o0 ok ot ow os og oc nb2 : Nat} {yr2 : Int32} {kd tw wt sk gr kd2 tw2 wt2 sk2 gr2 : Nat → Nat} {ch ch2 : Nat → Int32} : CT E yX2_become cX2_become 2 (none) 1 [.ref f0, .ref o0] [(f0, .inr (2, [.int (nI (nb)), .int (yr), .ref fk, .ref ft, .ref fw, .ref fs, .ref fg, .ref fc])), (fk, .inl (E.2.1.1, 10, .inl (nA (kd)))), (ft, .inl (E.2.1.1, 10, .inl (nA (tw)))), (fw, .inl (E.2.1.1, 10, .inl (nA (wt)))), (fs, .inl (E.2.1.1, 10, .inl (nA (sk)))), (fg, .inl (E.2.1.1, 10, .inl (nA (gr)))), (fc, .inl (E.2.1.1, 6, .inl (ch))), (o0, .inr (2, [.int (nI (nb2)), .int (yr2), .ref ok, .ref ot, .ref ow, .ref os, .ref og, .ref oc])), (ok, .inl (E.2.1.1, 10, .inl (nA (kd2)))), (ot, .inl (E.2.1.1, 10, .inl (nA (tw2)))), (ow, .inl (E.2.1.1, 10, .inl (nA (wt2)))), (os, .inl (E.2.1.1, 10, .inl (nA (sk2)))), (og, .inl (E.2.1.1, 10, .inl (nA (gr2)))), (oc, .inl (E.2.1.1, 6, .inl (ch2)))] (xQ none [(f0, .inr (2, [.int (nI (nb2)), .int (yr2), .ref fk, .ref ft, .ref fw, .ref fs, .ref fg, .ref fc])), (fk, .inl (E.2.1.1, 10, .inl (nA (kd2)))), (ft, .inl (E.2.1.1, 10, .inl (nA (tw2)))), (fw, .inl (E.2.1.1, 10, .inl (nA (wt2)))), (fs, .inl (E.2.1.1, 10, .inl (nA (sk2)))), (fg, .inl (E.2.1.1, 10, .inl (nA (gr2)))), (fc, .inl (E.2.1.1, 6, .inl (ch2))), (o0, .inr (2, [.int (nI (nb2)), .int (yr2), .ref ok, .ref ot, .ref ow, .ref os, .ref og, .ref oc])), (ok, .inl (E.2.1.1, 10, .inl (nA (kd2)))), (ot, .inl (E.2.1.1, 10, .inl (nA (tw2)))), (ow, .inl (E.2.1.1, 10, .inl (nA (wt2)))), (os, .inl (E.2.1.1, 10, .inl (nA (sk2)))), (og, .inl (E.2.1.1, 10, .inl (nA (gr2)))), (oc, .inl (E.2.1.1, 6, .inl (ch2)))]) := by
  refine ct_of (by decide +kernel) (Nat.le_of_ble_eq_true rfl) (lv := [(0, .ref f0), (1, .ref o0)]) rfl (fun A => ?_)
  refine g_aload_n (q := 1) dX2_become_0 rfl rfl rfl ?_
  refine g_aload_n (q := 2) dX2_become_1 rfl rfl rfl ?_
  refine gf_X2_30 rfl 7 rfl rfl (q := 5) dX2_become_2 rfl ?_
  refine pf_X2_30 rfl 0 rfl (Nat.le_of_ble_eq_true rfl) (ws' := [(_, .inr (_, [_, _, _, _, _, _, _, _])), _, _, _, _, _, _, _, _, _, _, _, _, _]) rfl (q := 8) dX2_become_5 rfl ?_
  refine g_aload_n (q := 9) dX2_become_8 rfl rfl rfl ?_
  refine g_aload_n (q := 10) dX2_become_9 rfl rfl rfl ?_
  refine gf_X2_34 rfl 7 rfl rfl (q := 13) dX2_become_10 rfl ?_
  refine pf_X2_34 rfl 0 rfl (Nat.le_of_ble_eq_true rfl) (ws' := [(_, .inr (_, [_, _, _, _, _, _, _, _])), _, _, _, _, _, _, _, _, _, _, _, _, _]) rfl (q := 16) dX2_become_13 rfl ?_
  refine g_aload_n (q := 17) dX2_become_16 rfl rfl rfl ?_
  refine gf_X2_9 rfl 7 rfl rfl (q := 20) dX2_become_17 rfl ?_
  refine g_iconst (v := nI 0) (q := 21) dX2_become_20 rfl ki_0 ?_
  refine g_aload_n (q := 22) dX2_become_21 rfl rfl rfl ?_
  refine gf_X2_9 rfl 0 rfl rfl (q := 25) dX2_become_22 rfl ?_
  refine g_iconst (v := nI 0) (q := 26) dX2_become_25 rfl ki_0 ?_
  refine g_bipush (v := nI 10) (q := 28) dX2_become_26 rfl kb_10 ?_
  refine g_copyW rfl ml_X2_37 8 1 rfl rfl (n := 10) (by decide) (by decide) (hd := Nat.le_of_ble_eq_true rfl) (Nat.le_of_ble_eq_true rfl) (ws' := [_, (_, .inl (_, _, .inl _)), _, _, _, _, _, _, _, _, _, _, _, _]) rfl (q := 31) dX2_become_28 rfl ?_
  refine g_aload_n (q := 32) dX2_become_31 rfl rfl rfl ?_
  refine gf_X2_15 rfl 7 rfl rfl (q := 35) dX2_become_32 rfl ?_
  refine g_iconst (v := nI 0) (q := 36) dX2_become_35 rfl ki_0 ?_
  refine g_aload_n (q := 37) dX2_become_36 rfl rfl rfl ?_
  refine gf_X2_15 rfl 0 rfl rfl (q := 40) dX2_become_37 rfl ?_
  refine g_iconst (v := nI 0) (q := 41) dX2_become_40 rfl ki_0 ?_
  refine g_bipush (v := nI 10) (q := 43) dX2_become_41 rfl kb_10 ?_
  refine g_copyW rfl ml_X2_37 9 2 rfl rfl (n := 10) (by decide) (by decide) (hd := Nat.le_of_ble_eq_true rfl) (Nat.le_of_ble_eq_true rfl) (ws' := [_, _, (_, .inl (_, _, .inl _)), _, _, _, _, _, _, _, _, _, _, _]) rfl (q := 46) dX2_become_43 rfl ?_
  refine g_aload_n (q := 47) dX2_become_46 rfl rfl rfl ?_
  refine gf_X2_18 rfl 7 rfl rfl (q := 50) dX2_become_47 rfl ?_
  refine g_iconst (v := nI 0) (q := 51) dX2_become_50 rfl ki_0 ?_
  refine g_aload_n (q := 52) dX2_become_51 rfl rfl rfl ?_
  refine gf_X2_18 rfl 0 rfl rfl (q := 55) dX2_become_52 rfl ?_
  refine g_iconst (v := nI 0) (q := 56) dX2_become_55 rfl ki_0 ?_
  refine g_bipush (v := nI 10) (q := 58) dX2_become_56 rfl kb_10 ?_
  refine g_copyW rfl ml_X2_37 10 3 rfl rfl (n := 10) (by decide) (by decide) (hd := Nat.le_of_ble_eq_true rfl) (Nat.le_of_ble_eq_true rfl) (ws' := [_, _, _, (_, .inl (_, _, .inl _)), _, _, _, _, _, _, _, _, _, _]) rfl (q := 61) dX2_become_58 rfl ?_
  refine g_aload_n (q := 62) dX2_become_61 rfl rfl rfl ?_
  refine gf_X2_21 rfl 7 rfl rfl (q := 65) dX2_become_62 rfl ?_
  refine g_iconst (v := nI 0) (q := 66) dX2_become_65 rfl ki_0 ?_
  refine g_aload_n (q := 67) dX2_become_66 rfl rfl rfl ?_
  refine gf_X2_21 rfl 0 rfl rfl (q := 70) dX2_become_67 rfl ?_
  refine g_iconst (v := nI 0) (q := 71) dX2_become_70 rfl ki_0 ?_
  refine g_bipush (v := nI 10) (q := 73) dX2_become_71 rfl kb_10 ?_
  refine g_copyW rfl ml_X2_37 11 4 rfl rfl (n := 10) (by decide) (by decide) (hd := Nat.le_of_ble_eq_true rfl) (Nat.le_of_ble_eq_true rfl) (ws' := [_, _, _, _, (_, .inl (_, _, .inl _)), _, _, _, _, _, _, _, _, _]) rfl (q := 76) dX2_become_73 rfl ?_
  refine g_aload_n (q := 77) dX2_become_76 rfl rfl rfl ?_
  refine gf_X2_24 rfl 7 rfl rfl (q := 80) dX2_become_77 rfl ?_
  refine g_iconst (v := nI 0) (q := 81) dX2_become_80 rfl ki_0 ?_
  refine g_aload_n (q := 82) dX2_become_81 rfl rfl rfl ?_
  refine gf_X2_24 rfl 0 rfl rfl (q := 85) dX2_become_82 rfl ?_
  refine g_iconst (v := nI 0) (q := 86) dX2_become_85 rfl ki_0 ?_
  refine g_bipush (v := nI 10) (q := 88) dX2_become_86 rfl kb_10 ?_
  refine g_copyW rfl ml_X2_37 12 5 rfl rfl (n := 10) (by decide) (by decide) (hd := Nat.le_of_ble_eq_true rfl) (Nat.le_of_ble_eq_true rfl) (ws' := [_, _, _, _, _, (_, .inl (_, _, .inl _)), _, _, _, _, _, _, _, _]) rfl (q := 91) dX2_become_88 rfl ?_
  refine g_aload_n (q := 92) dX2_become_91 rfl rfl rfl ?_
  refine gf_X2_27 rfl 7 rfl rfl (q := 95) dX2_become_92 rfl ?_
  refine g_iconst (v := nI 0) (q := 96) dX2_become_95 rfl ki_0 ?_
  refine g_aload_n (q := 97) dX2_become_96 rfl rfl rfl ?_
  refine gf_X2_27 rfl 0 rfl rfl (q := 100) dX2_become_97 rfl ?_
  refine g_iconst (v := nI 0) (q := 101) dX2_become_100 rfl ki_0 ?_
  refine g_bipush (v := nI 6) (q := 103) dX2_become_101 rfl kb_6 ?_
  refine g_copyW rfl ml_X2_37 13 6 rfl rfl (n := 6) (by decide) (by decide) (hd := Nat.le_of_ble_eq_true rfl) (Nat.le_of_ble_eq_true rfl) (ws' := [_, _, _, _, _, _, (_, .inl (_, _, .inl _)), _, _, _, _, _, _, _]) rfl (q := 106) dX2_become_103 rfl ?_
  refine g_vret (st := []) dX2_become_106 rfl rfl ?_
  exact xv
