set_option maxHeartbeats 2000000 in
set_option maxRecDepth 20000 in
theorem c_xadd {E : EN} {x0 xb xg en : Nat} {eb eg : Nat → Nat} {b t : Nat} (hn : en < 8) : CT E yX1_add cX1_add 3 (none) 0 [.ref x0, .int (nI (b)), .int (nI (t))] [(x0, .inr (1, [.int (nI (en)), .ref xb, .ref xg])), (xb, .inl (E.2.1.1, 8, .inl (nA (eb)))), (xg, .inl (E.2.1.1, 8, .inl (nA (eg))))] (xQ none [(x0, .inr (1, [.int (nI (en + 1)), .ref xb, .ref xg])), (xb, .inl (E.2.1.1, 8, .inl (nA (updn eb en b)))), (xg, .inl (E.2.1.1, 8, .inl (nA (updn eg en t))))]) := by
  refine ct_of (by decide +kernel) (Nat.le_of_ble_eq_true rfl) (lv := [(0, .ref x0), (1, .int (nI (b))), (2, .int (nI (t)))]) rfl (fun A => ?_)
  refine g_aload_n (q := 1) dX1_add_0 rfl rfl rfl ?_
  refine gf_X1_18 rfl 0 rfl rfl (q := 4) dX1_add_1 rfl ?_
  refine g_bipush (v := nI 8) (q := 6) dX1_add_4 rfl kb_8 ?_
  refine g_icmp_geN (t := 39) (q := 9) dX1_add_6 (by decide) rfl (by omega) (by omega) (fun c6 => ?_) (fun c6 => ?_)
  · omega
  · skip
    refine g_aload_n (q := 10) dX1_add_9 rfl rfl rfl ?_
    refine gf_X1_9 rfl 0 rfl rfl (q := 13) dX1_add_10 rfl ?_
    refine g_aload_n (q := 14) dX1_add_13 rfl rfl rfl ?_
    refine gf_X1_18 rfl 0 rfl rfl (q := 17) dX1_add_14 rfl ?_
    refine g_iload_n (q := 18) dX1_add_17 rfl rfl rfl ?_
    refine g_iast (f' := (nA (updn eb en b))) 1 rfl (ixIn (j := en) rfl (by omega) (by decide)) (ixUn (j := en) rfl (by omega)) (ws' := [_, (_, .inl (_, _, .inl _)), _]) rfl (q := 19) dX1_add_18 rfl ?_
    refine g_aload_n (q := 20) dX1_add_19 rfl rfl rfl ?_
    refine gf_X1_15 rfl 0 rfl rfl (q := 23) dX1_add_20 rfl ?_
    refine g_aload_n (q := 24) dX1_add_23 rfl rfl rfl ?_
    refine gf_X1_18 rfl 0 rfl rfl (q := 27) dX1_add_24 rfl ?_
    refine g_iload_n (q := 28) dX1_add_27 rfl rfl rfl ?_
    refine g_iast (f' := (nA (updn eg en t))) 2 rfl (ixIn (j := en) rfl (by omega) (by decide)) (ixUn (j := en) rfl (by omega)) (ws' := [_, _, (_, .inl (_, _, .inl _))]) rfl (q := 29) dX1_add_28 rfl ?_
    refine g_aload_n (q := 30) dX1_add_29 rfl rfl rfl ?_
    refine g_dup (q := 31) dX1_add_30 rfl rfl ?_
    refine gf_X1_18 rfl 0 rfl rfl (q := 34) dX1_add_31 rfl ?_
    refine g_iconst (v := nI 1) (q := 35) dX1_add_34 rfl ki_1 ?_
    refine g_iaddN (q := 36) dX1_add_35 rfl ?_
    refine pf_X1_18 rfl 0 rfl (Nat.le_of_ble_eq_true rfl) (ws' := [(_, .inr (_, [_, _, _])), _, _]) rfl (q := 39) dX1_add_36 rfl ?_
    refine g_vret (st := []) dX1_add_39 rfl rfl ?_
    exact xv
set_option maxHeartbeats 2000000 in
set_option maxRecDepth 20000 in
theorem c_comesTo {E : EN} {f0 fk ft fw fs fg fc nb : Nat} {yr : Int32}{x0 xb xg en : Nat} {eb eg : Nat → Nat} {tw : Nat → Nat} {t i : Nat} (hi : i < en) (hn : en ≤ 8) (ht : t < 1000) (heb : ∀ i, i < en → eb i < 10) (heg : ∀ i, i < en → eg i < 6) (htw : ∀ j, j < 10 → tw j < 6)  : CT E yX1_comesTo cX1_comesTo 4 (some .int) 0 [.ref x0, .int (nI (t)), .int (nI (i)), .ref f0] [(x0, .inr (1, [.int (nI (en)), .ref xb, .ref xg])), (xb, .inl (E.2.1.1, 8, .inl (nA (eb)))), (xg, .inl (E.2.1.1, 8, .inl (nA (eg)))), (f0, .inr (2, [.int (nI (nb)), .int (yr), .ref fk, .ref ft, .ref fw, .ref fs, .ref fg, .ref fc])), (ft, .inl (E.2.1.1, 10, .inl (nA (tw))))] (xQ (some (.int (cmI t (tw (eb i)) (eg i)))) [(x0, .inr (1, [.int (nI (en)), .ref xb, .ref xg])), (xb, .inl (E.2.1.1, 8, .inl (nA (eb)))), (xg, .inl (E.2.1.1, 8, .inl (nA (eg)))), (f0, .inr (2, [.int (nI (nb)), .int (yr), .ref fk, .ref ft, .ref fw, .ref fs, .ref fg, .ref fc])), (ft, .inl (E.2.1.1, 10, .inl (nA (tw))))]) := by
  refine ct_of (by decide +kernel) (Nat.le_of_ble_eq_true rfl) (lv := [(0, .ref x0), (1, .int (nI (t))), (2, .int (nI (i))), (3, .ref f0)]) rfl (fun A => ?_)
  refine g_aload_n (q := 1) dX1_comesTo_0 rfl rfl rfl ?_
  have he1 := heb i hi
  have he2 := heg i hi
  have he3 := htw (eb i) he1
  refine gf_X1_15 rfl 0 rfl rfl (q := 4) dX1_comesTo_1 rfl ?_
  refine g_iload_n (q := 5) dX1_comesTo_4 rfl rfl rfl ?_
  refine g_iald (v := nI (eg i)) 2 rfl (ixIn (j := i) rfl (by omega) (by decide)) (ixV (j := i) rfl (by omega)) (q := 6) dX1_comesTo_5 rfl ?_
  refine g_iload_n (q := 7) dX1_comesTo_6 rfl rfl rfl ?_
  refine g_icmp_neN (t := 12) (q := 10) dX1_comesTo_7 (by decide) rfl (by omega) (by omega) (fun c7 => ?_) (fun c7 => ?_)
  · skip
    refine g_aload_n (q := 13) dX1_comesTo_12 rfl rfl rfl ?_
    refine gf_X1_50 rfl 3 rfl rfl (q := 16) dX1_comesTo_13 rfl ?_
    refine g_aload_n (q := 17) dX1_comesTo_16 rfl rfl rfl ?_
    refine gf_X1_9 rfl 0 rfl rfl (q := 20) dX1_comesTo_17 rfl ?_
    refine g_iload_n (q := 21) dX1_comesTo_20 rfl rfl rfl ?_
    refine g_iald (v := nI (eb i)) 1 rfl (ixIn (j := i) rfl (by omega) (by decide)) (ixV (j := i) rfl (by omega)) (q := 22) dX1_comesTo_21 rfl ?_
    refine g_iald (v := nI (tw (eb i))) 4 rfl (ixIn (j := eb i) rfl (by omega) (by decide)) (ixV (j := eb i) rfl (by omega)) (q := 23) dX1_comesTo_22 rfl ?_
    refine g_iload_n (q := 24) dX1_comesTo_23 rfl rfl rfl ?_
    refine g_icmp_neN (t := 31) (q := 27) dX1_comesTo_24 (by decide) rfl (by omega) (by omega) (fun c24 => ?_) (fun c24 => ?_)
    · skip
      refine g_iconst (v := nI 0) (q := 32) dX1_comesTo_31 rfl ki_0 ?_
      refine g_iret (st := []) dX1_comesTo_32 rfl rfl rfl ?_
      exact (xr (by simp [cmI, *]; try rfl))
    · skip
      refine g_iconst (v := (-1)) (q := 28) dX1_comesTo_27 rfl ki_m1 ?_
      refine g_goto (q := 32) dX1_comesTo_28 (by decide) ?_
      refine g_iret (st := []) dX1_comesTo_32 rfl rfl rfl ?_
      exact (xr (by simp [cmI, *]; try rfl))
  · skip
    refine g_iconst (v := nI 1) (q := 11) dX1_comesTo_10 rfl ki_1 ?_
    refine g_iret (st := []) dX1_comesTo_11 rfl rfl rfl ?_
    exact (xr (by simp [cmI, *]; try rfl))
set_option maxHeartbeats 2000000 in
set_option maxRecDepth 20000 in
theorem c_balanceOf {E : EN} {f0 fk ft fw fs fg fc nb : Nat} {yr : Int32}{x0 xb xg en : Nat} {eb eg : Nat → Nat} {ra : Nat} {kd tw wt rt : Nat → Nat} {t : Nat} (hn : en ≤ 8) (ht : t < 1000) (heb : ∀ i, i < en → eb i < 10) (heg : ∀ i, i < en → eg i < 6) (hkd : ∀ j, j < 10 → kd j < 4) (htw : ∀ j, j < 10 → tw j < 6) (hwt : ∀ j, j < 10 → wt j < 100) (hrt : ∀ j, j < 6 → rt j < 10)  : CT E yX1_balanceOf cX1_balanceOf 6 (some .int) 3 [.ref x0, .int (nI (t)), .ref f0, .ref ra] [(x0, .inr (1, [.int (nI (en)), .ref xb, .ref xg])), (xb, .inl (E.2.1.1, 8, .inl (nA (eb)))), (xg, .inl (E.2.1.1, 8, .inl (nA (eg)))), (f0, .inr (2, [.int (nI (nb)), .int (yr), .ref fk, .ref ft, .ref fw, .ref fs, .ref fg, .ref fc])), (fk, .inl (E.2.1.1, 10, .inl (nA (kd)))), (ft, .inl (E.2.1.1, 10, .inl (nA (tw)))), (fw, .inl (E.2.1.1, 10, .inl (nA (wt)))), (ra, .inl (E.2.1.1, 6, .inl (nA (rt))))] (xQ (some (.int (balL kd tw wt rt eb eg t  en))) [(x0, .inr (1, [.int (nI (en)), .ref xb, .ref xg])), (xb, .inl (E.2.1.1, 8, .inl (nA (eb)))), (xg, .inl (E.2.1.1, 8, .inl (nA (eg)))), (f0, .inr (2, [.int (nI (nb)), .int (yr), .ref fk, .ref ft, .ref fw, .ref fs, .ref fg, .ref fc])), (fk, .inl (E.2.1.1, 10, .inl (nA (kd)))), (ft, .inl (E.2.1.1, 10, .inl (nA (tw)))), (fw, .inl (E.2.1.1, 10, .inl (nA (wt)))), (ra, .inl (E.2.1.1, 6, .inl (nA (rt))))]) := by
  refine ct_of (by decide +kernel) (Nat.le_of_ble_eq_true rfl) (lv := [(0, .ref x0), (1, .int (nI (t))), (2, .ref f0), (3, .ref ra)]) rfl (fun A => ?_)
  refine g_iconst (v := nI 0) (q := 1) dX1_balanceOf_0 rfl ki_0 ?_
  refine g_istore (lv' := [(0, _), (1, _), (2, _), (3, _), (4, _)]) (q := 3) dX1_balanceOf_1 rfl (Nat.le_of_ble_eq_true rfl) rfl ?_
  refine g_iconst (v := nI 0) (q := 4) dX1_balanceOf_3 rfl ki_0 ?_
  refine g_istore (lv' := [(0, _), (1, _), (2, _), (3, _), (4, _), (5, _)]) (q := 6) dX1_balanceOf_4 rfl (Nat.le_of_ble_eq_true rfl) rfl ?_
  refine g_loop (en) (fun i => [(x0, .inr (1, [.int (nI (en)), .ref xb, .ref xg])), (xb, .inl (E.2.1.1, 8, .inl (nA (eb)))), (xg, .inl (E.2.1.1, 8, .inl (nA (eg)))), (f0, .inr (2, [.int (nI (nb)), .int (yr), .ref fk, .ref ft, .ref fw, .ref fs, .ref fg, .ref fc])), (fk, .inl (E.2.1.1, 10, .inl (nA (kd)))), (ft, .inl (E.2.1.1, 10, .inl (nA (tw)))), (fw, .inl (E.2.1.1, 10, .inl (nA (wt)))), (ra, .inl (E.2.1.1, 6, .inl (nA (rt))))]) (fun i => [(0, .ref x0), (1, .int (nI (t))), (2, .ref f0), (3, .ref ra), (4, .int (balL kd tw wt rt eb eg t i)), (5, .int (nI (i)))]) ?_ ?_ 0 (Nat.zero_le _)
  · intro i hi6 ih6
    have he1 := heb i hi6
    show G E _ [(x0, .inr (1, [.int (nI (en)), .ref xb, .ref xg])), (xb, .inl (E.2.1.1, 8, .inl (nA (eb)))), (xg, .inl (E.2.1.1, 8, .inl (nA (eg)))), (f0, .inr (2, [.int (nI (nb)), .int (yr), .ref fk, .ref ft, .ref fw, .ref fs, .ref fg, .ref fc])), (fk, .inl (E.2.1.1, 10, .inl (nA (kd)))), (ft, .inl (E.2.1.1, 10, .inl (nA (tw)))), (fw, .inl (E.2.1.1, 10, .inl (nA (wt)))), (ra, .inl (E.2.1.1, 6, .inl (nA (rt))))] 6 [(0, .ref x0), (1, .int (nI (t))), (2, .ref f0), (3, .ref ra), (4, .int (balL kd tw wt rt eb eg t i)), (5, .int (nI (i)))] []
    refine g_iload (q := 8) dX1_balanceOf_6 rfl rfl ?_
    refine g_aload_n (q := 9) dX1_balanceOf_8 rfl rfl rfl ?_
    refine gf_X1_18 rfl 0 rfl rfl (q := 12) dX1_balanceOf_9 rfl ?_
    refine g_icmp_geN (t := 47) (q := 15) dX1_balanceOf_12 (by decide) rfl (by omega) (by omega) (fun c12 => ?_) (fun c12 => ?_)
    · omega
    · skip
      refine g_iload (q := 17) dX1_balanceOf_15 rfl rfl ?_
      refine g_aload_n (q := 18) dX1_balanceOf_17 rfl rfl rfl ?_
      refine g_iload_n (q := 19) dX1_balanceOf_18 rfl rfl rfl ?_
      refine g_iload (q := 21) dX1_balanceOf_19 rfl rfl ?_
      refine g_aload_n (q := 22) dX1_balanceOf_21 rfl rfl rfl ?_
      refine gc_X1_22 (c_comesTo hi6 hn ht heb heg htw) rfl (Nat.le_of_ble_eq_true rfl) rfl 0 rfl [0, 1, 2, 3, 5] rfl rfl (rest := [_]) rfl (Nat.le_of_ble_eq_true rfl) (q := 25) dX1_balanceOf_22 rfl (exK (ws' := [_, _, _, _, _, _, _, _]) (st' := [.int (cmI t (tw (eb i)) (eg i)), _]) rfl rfl ?_)
      refine g_aload_n (q := 26) dX1_balanceOf_25 rfl rfl rfl ?_
      refine g_aload_n (q := 27) dX1_balanceOf_26 rfl rfl rfl ?_
      refine gf_X1_9 rfl 0 rfl rfl (q := 30) dX1_balanceOf_27 rfl ?_
      refine g_iload (q := 32) dX1_balanceOf_30 rfl rfl ?_
      refine g_iald (v := nI (eb i)) 1 rfl (ixIn (j := i) rfl (by omega) (by decide)) (ixV (j := i) rfl (by omega)) (q := 33) dX1_balanceOf_32 rfl ?_
      refine g_aload_n (q := 34) dX1_balanceOf_33 rfl rfl rfl ?_
      refine gc_X1_26 (c_worth he1 hkd htw hwt hrt) rfl (Nat.le_of_ble_eq_true rfl) rfl 3 rfl [3, 4, 5, 6, 7] rfl rfl (rest := [_, _]) rfl (Nat.le_of_ble_eq_true rfl) (q := 37) dX1_balanceOf_34 rfl (exK (ws' := [_, _, _, _, _, _, _, _]) (st' := [.int (nI (pnd (kd (eb i)) (wt (eb i)) * rt (tw (eb i)))), _, _]) rfl rfl ?_)
      refine g_imul (q := 38) dX1_balanceOf_37 rfl ?_
      refine g_iadd (q := 39) dX1_balanceOf_38 rfl ?_
      refine g_istore (lv' := [(0, _), (1, _), (2, _), (3, _), (4, _), (5, _)]) (q := 41) dX1_balanceOf_39 rfl (Nat.le_of_ble_eq_true rfl) rfl ?_
      refine g_iinc (lv' := [(0, _), (1, _), (2, _), (3, _), (4, _), (5, _)]) (v := nI (i + 1)) (q := 44) dX1_balanceOf_41 rfl rfl (nI_inc _) (Nat.le_of_ble_eq_true rfl) rfl ?_
      refine g_goto (q := 6) dX1_balanceOf_44 (by decide) ?_
      exact ih6
  · skip
    show G E _ [(x0, .inr (1, [.int (nI (en)), .ref xb, .ref xg])), (xb, .inl (E.2.1.1, 8, .inl (nA (eb)))), (xg, .inl (E.2.1.1, 8, .inl (nA (eg)))), (f0, .inr (2, [.int (nI (nb)), .int (yr), .ref fk, .ref ft, .ref fw, .ref fs, .ref fg, .ref fc])), (fk, .inl (E.2.1.1, 10, .inl (nA (kd)))), (ft, .inl (E.2.1.1, 10, .inl (nA (tw)))), (fw, .inl (E.2.1.1, 10, .inl (nA (wt)))), (ra, .inl (E.2.1.1, 6, .inl (nA (rt))))] 6 [(0, .ref x0), (1, .int (nI (t))), (2, .ref f0), (3, .ref ra), (4, .int (balL kd tw wt rt eb eg t en)), (5, .int (nI (en)))] []
    refine g_iload (q := 8) dX1_balanceOf_6 rfl rfl ?_
    refine g_aload_n (q := 9) dX1_balanceOf_8 rfl rfl rfl ?_
    refine gf_X1_18 rfl 0 rfl rfl (q := 12) dX1_balanceOf_9 rfl ?_
    refine g_icmp_geN (t := 47) (q := 15) dX1_balanceOf_12 (by decide) rfl (by omega) (by omega) (fun c12 => ?_) (fun c12 => ?_)
    · skip
      refine g_iload (q := 49) dX1_balanceOf_47 rfl rfl ?_
      refine g_iret (st := []) dX1_balanceOf_49 rfl rfl rfl ?_
      exact (xr rfl)
    · omega
set_option maxHeartbeats 2000000 in
set_option maxRecDepth 20000 in
theorem c_closesAt {E : EN} {f0 fk ft fw fs fg fc nb : Nat} {yr : Int32}{x0 xb xg en : Nat} {eb eg : Nat → Nat} {l0 lc lr lf lv ln t0 nt lw sl : Nat} {kd tw wt rt : Nat → Nat} {t : Nat} (hsl : sl < 1000) (hn : en ≤ 8) (ht : t < 1000) (heb : ∀ i, i < en → eb i < 10) (heg : ∀ i, i < en → eg i < 6) (hkd : ∀ j, j < 10 → kd j < 4) (htw : ∀ j, j < 10 → tw j < 6) (hwt : ∀ j, j < 10 → wt j < 100) (hrt : ∀ j, j < 6 → rt j < 10)  : CT E yX1_closesAt cX1_closesAt 6 (some .boolean) 4 [.ref x0, .int (nI (t)), .ref f0, .ref l0] [(x0, .inr (1, [.int (nI (en)), .ref xb, .ref xg])), (xb, .inl (E.2.1.1, 8, .inl (nA (eb)))), (xg, .inl (E.2.1.1, 8, .inl (nA (eg)))), (f0, .inr (2, [.int (nI (nb)), .int (yr), .ref fk, .ref ft, .ref fw, .ref fs, .ref fg, .ref fc])), (fk, .inl (E.2.1.1, 10, .inl (nA (kd)))), (ft, .inl (E.2.1.1, 10, .inl (nA (tw)))), (fw, .inl (E.2.1.1, 10, .inl (nA (wt)))), (l0, .inr (3, [.int (nI (nt)), .int (nI (lw)), .int (nI (sl)), .ref lc, .ref lr, .ref lf, .ref lv, .ref ln, .ref t0])), (lr, .inl (E.2.1.1, 6, .inl (nA (rt))))] (xQ (some (.int (bI (decide (cmS tw eb eg t en = 0 ∧ absI (balL kd tw wt rt eb eg t  en) ≤ nI sl))))) [(x0, .inr (1, [.int (nI (en)), .ref xb, .ref xg])), (xb, .inl (E.2.1.1, 8, .inl (nA (eb)))), (xg, .inl (E.2.1.1, 8, .inl (nA (eg)))), (f0, .inr (2, [.int (nI (nb)), .int (yr), .ref fk, .ref ft, .ref fw, .ref fs, .ref fg, .ref fc])), (fk, .inl (E.2.1.1, 10, .inl (nA (kd)))), (ft, .inl (E.2.1.1, 10, .inl (nA (tw)))), (fw, .inl (E.2.1.1, 10, .inl (nA (wt)))), (l0, .inr (3, [.int (nI (nt)), .int (nI (lw)), .int (nI (sl)), .ref lc, .ref lr, .ref lf, .ref lv, .ref ln, .ref t0])), (lr, .inl (E.2.1.1, 6, .inl (nA (rt))))]) := by
  refine ct_of (by decide +kernel) (Nat.le_of_ble_eq_true rfl) (lv := [(0, .ref x0), (1, .int (nI (t))), (2, .ref f0), (3, .ref l0)]) rfl (fun A => ?_)
  refine g_iconst (v := nI 0) (q := 1) dX1_closesAt_0 rfl ki_0 ?_
  refine g_istore (lv' := [(0, _), (1, _), (2, _), (3, _), (4, _)]) (q := 3) dX1_closesAt_1 rfl (Nat.le_of_ble_eq_true rfl) rfl ?_
  refine g_iconst (v := nI 0) (q := 4) dX1_closesAt_3 rfl ki_0 ?_
  refine g_istore (lv' := [(0, _), (1, _), (2, _), (3, _), (4, _), (5, _)]) (q := 6) dX1_closesAt_4 rfl (Nat.le_of_ble_eq_true rfl) rfl ?_
  refine g_loop (en) (fun i => [(x0, .inr (1, [.int (nI (en)), .ref xb, .ref xg])), (xb, .inl (E.2.1.1, 8, .inl (nA (eb)))), (xg, .inl (E.2.1.1, 8, .inl (nA (eg)))), (f0, .inr (2, [.int (nI (nb)), .int (yr), .ref fk, .ref ft, .ref fw, .ref fs, .ref fg, .ref fc])), (fk, .inl (E.2.1.1, 10, .inl (nA (kd)))), (ft, .inl (E.2.1.1, 10, .inl (nA (tw)))), (fw, .inl (E.2.1.1, 10, .inl (nA (wt)))), (l0, .inr (3, [.int (nI (nt)), .int (nI (lw)), .int (nI (sl)), .ref lc, .ref lr, .ref lf, .ref lv, .ref ln, .ref t0])), (lr, .inl (E.2.1.1, 6, .inl (nA (rt))))]) (fun i => [(0, .ref x0), (1, .int (nI (t))), (2, .ref f0), (3, .ref l0), (4, .int (cmS tw eb eg t i)), (5, .int (nI (i)))]) ?_ ?_ 0 (Nat.zero_le _)
  · intro i hi6 ih6
    show G E _ [(x0, .inr (1, [.int (nI (en)), .ref xb, .ref xg])), (xb, .inl (E.2.1.1, 8, .inl (nA (eb)))), (xg, .inl (E.2.1.1, 8, .inl (nA (eg)))), (f0, .inr (2, [.int (nI (nb)), .int (yr), .ref fk, .ref ft, .ref fw, .ref fs, .ref fg, .ref fc])), (fk, .inl (E.2.1.1, 10, .inl (nA (kd)))), (ft, .inl (E.2.1.1, 10, .inl (nA (tw)))), (fw, .inl (E.2.1.1, 10, .inl (nA (wt)))), (l0, .inr (3, [.int (nI (nt)), .int (nI (lw)), .int (nI (sl)), .ref lc, .ref lr, .ref lf, .ref lv, .ref ln, .ref t0])), (lr, .inl (E.2.1.1, 6, .inl (nA (rt))))] 6 [(0, .ref x0), (1, .int (nI (t))), (2, .ref f0), (3, .ref l0), (4, .int (cmS tw eb eg t i)), (5, .int (nI (i)))] []
    refine g_iload (q := 8) dX1_closesAt_6 rfl rfl ?_
    refine g_aload_n (q := 9) dX1_closesAt_8 rfl rfl rfl ?_
    refine gf_X1_18 rfl 0 rfl rfl (q := 12) dX1_closesAt_9 rfl ?_
    refine g_icmp_geN (t := 34) (q := 15) dX1_closesAt_12 (by decide) rfl (by omega) (by omega) (fun c12 => ?_) (fun c12 => ?_)
    · omega
    · skip
      refine g_iload (q := 17) dX1_closesAt_15 rfl rfl ?_
      refine g_aload_n (q := 18) dX1_closesAt_17 rfl rfl rfl ?_
      refine g_iload_n (q := 19) dX1_closesAt_18 rfl rfl rfl ?_
      refine g_iload (q := 21) dX1_closesAt_19 rfl rfl ?_
      refine g_aload_n (q := 22) dX1_closesAt_21 rfl rfl rfl ?_
      refine gc_X1_22 (c_comesTo hi6 hn ht heb heg htw) rfl (Nat.le_of_ble_eq_true rfl) rfl 0 rfl [0, 1, 2, 3, 5] rfl rfl (rest := [_]) rfl (Nat.le_of_ble_eq_true rfl) (q := 25) dX1_closesAt_22 rfl (exK (ws' := [_, _, _, _, _, _, _, _, _]) (st' := [.int (cmI t (tw (eb i)) (eg i)), _]) rfl rfl ?_)
      refine g_iadd (q := 26) dX1_closesAt_25 rfl ?_
      refine g_istore (lv' := [(0, _), (1, _), (2, _), (3, _), (4, _), (5, _)]) (q := 28) dX1_closesAt_26 rfl (Nat.le_of_ble_eq_true rfl) rfl ?_
      refine g_iinc (lv' := [(0, _), (1, _), (2, _), (3, _), (4, _), (5, _)]) (v := nI (i + 1)) (q := 31) dX1_closesAt_28 rfl rfl (nI_inc _) (Nat.le_of_ble_eq_true rfl) rfl ?_
      refine g_goto (q := 6) dX1_closesAt_31 (by decide) ?_
      exact ih6
  · skip
    show G E _ [(x0, .inr (1, [.int (nI (en)), .ref xb, .ref xg])), (xb, .inl (E.2.1.1, 8, .inl (nA (eb)))), (xg, .inl (E.2.1.1, 8, .inl (nA (eg)))), (f0, .inr (2, [.int (nI (nb)), .int (yr), .ref fk, .ref ft, .ref fw, .ref fs, .ref fg, .ref fc])), (fk, .inl (E.2.1.1, 10, .inl (nA (kd)))), (ft, .inl (E.2.1.1, 10, .inl (nA (tw)))), (fw, .inl (E.2.1.1, 10, .inl (nA (wt)))), (l0, .inr (3, [.int (nI (nt)), .int (nI (lw)), .int (nI (sl)), .ref lc, .ref lr, .ref lf, .ref lv, .ref ln, .ref t0])), (lr, .inl (E.2.1.1, 6, .inl (nA (rt))))] 6 [(0, .ref x0), (1, .int (nI (t))), (2, .ref f0), (3, .ref l0), (4, .int (cmS tw eb eg t en)), (5, .int (nI (en)))] []
    refine g_iload (q := 8) dX1_closesAt_6 rfl rfl ?_
    refine g_aload_n (q := 9) dX1_closesAt_8 rfl rfl rfl ?_
    refine gf_X1_18 rfl 0 rfl rfl (q := 12) dX1_closesAt_9 rfl ?_
    refine g_icmp_geN (t := 34) (q := 15) dX1_closesAt_12 (by decide) rfl (by omega) (by omega) (fun c12 => ?_) (fun c12 => ?_)
    · skip
      refine g_iload (q := 36) dX1_closesAt_34 rfl rfl ?_
      refine g_if_ne (t := 63) (q := 39) dX1_closesAt_36 (by decide) rfl (fun c36 => ?_) (fun c36 => ?_)
      · skip
        refine g_iconst (v := nI 0) (q := 64) dX1_closesAt_63 rfl ki_0 ?_
        refine g_iret (st := []) dX1_closesAt_64 rfl (narZ (by first | exact Or.inl rfl | exact Or.inr rfl)) rfl ?_
        first | exact xr (bI_t ⟨c36, Int32.not_lt.mp c56⟩) | exact xr (bI_f (fun z => c36 z.1)) | exact xr (bI_f (fun z => Int32.not_le.mpr c56 z.2))
      · skip
        refine g_aload_n (q := 40) dX1_closesAt_39 rfl rfl rfl ?_
        refine g_iload_n (q := 41) dX1_closesAt_40 rfl rfl rfl ?_
        refine g_aload_n (q := 42) dX1_closesAt_41 rfl rfl rfl ?_
        refine g_aload_n (q := 43) dX1_closesAt_42 rfl rfl rfl ?_
        refine gf_X1_32 rfl 7 rfl rfl (q := 46) dX1_closesAt_43 rfl ?_
        refine gc_X1_37 (c_balanceOf hn ht heb heg hkd htw hwt hrt) rfl (Nat.le_of_ble_eq_true rfl) rfl 0 rfl [0, 1, 2, 3, 4, 5, 6, 8] rfl rfl (rest := []) rfl (Nat.le_of_ble_eq_true rfl) (q := 49) dX1_closesAt_46 rfl (exK (ws' := [_, _, _, _, _, _, _, _, _]) (st' := [.int (balL kd tw wt rt eb eg t en)]) rfl rfl ?_)
        refine g_mabs rfl ml_X1_41 mt_mabs mi_J9 mc_mabs (Nat.le_of_ble_eq_true rfl) (Nat.le_of_ble_eq_true rfl) (q := 52) dX1_closesAt_49 rfl ?_
        refine g_aload_n (q := 53) dX1_closesAt_52 rfl rfl rfl ?_
        refine gf_X1_47 rfl 7 rfl rfl (q := 56) dX1_closesAt_53 rfl ?_
        refine g_icmp_gt (t := 63) (q := 59) dX1_closesAt_56 (by decide) rfl (fun c56 => ?_) (fun c56 => ?_)
        · skip
          refine g_iconst (v := nI 0) (q := 64) dX1_closesAt_63 rfl ki_0 ?_
          refine g_iret (st := []) dX1_closesAt_64 rfl (narZ (by first | exact Or.inl rfl | exact Or.inr rfl)) rfl ?_
          first | exact xr (bI_t ⟨c36, Int32.not_lt.mp c56⟩) | exact xr (bI_f (fun z => c36 z.1)) | exact xr (bI_f (fun z => Int32.not_le.mpr c56 z.2))
        · skip
          refine g_iconst (v := nI 1) (q := 60) dX1_closesAt_59 rfl ki_1 ?_
          refine g_goto (q := 64) dX1_closesAt_60 (by decide) ?_
          refine g_iret (st := []) dX1_closesAt_64 rfl (narZ (by first | exact Or.inl rfl | exact Or.inr rfl)) rfl ?_
          first | exact xr (bI_t ⟨c36, Int32.not_lt.mp c56⟩) | exact xr (bI_f (fun z => c36 z.1)) | exact xr (bI_f (fun z => Int32.not_le.mpr c56 z.2))
    · omega
set_option maxHeartbeats 2000000 in
set_option maxRecDepth 20000 in
theorem c_doIn {E : EN} {f0 fk ft fw fs fg fc nb : Nat} {yr : Int32}{x0 xb xg en : Nat} {eb eg : Nat → Nat} {l0 lc lr lf lv ln t0 nt lw sl : Nat} {kd tw wt rt : Nat → Nat} {ch : Nat → Int32} (hnt : nt ≤ 6) (hn : en ≤ 8) (heb : ∀ i, i < en → eb i < 10) (heg : ∀ i, i < en → eg i < 6) (hkd : ∀ j, j < 10 → kd j < 4) (htw : ∀ j, j < 10 → tw j < 6) (hwt : ∀ j, j < 10 → wt j < 100) (hrt : ∀ j, j < 6 → rt j < 10)  : CT E yX1_doIn cX1_doIn 4 (none) 4 [.ref x0, .ref f0, .ref l0] [(x0, .inr (1, [.int (nI (en)), .ref xb, .ref xg])), (xb, .inl (E.2.1.1, 8, .inl (nA (eb)))), (xg, .inl (E.2.1.1, 8, .inl (nA (eg)))), (f0, .inr (2, [.int (nI (nb)), .int (yr), .ref fk, .ref ft, .ref fw, .ref fs, .ref fg, .ref fc])), (fk, .inl (E.2.1.1, 10, .inl (nA (kd)))), (ft, .inl (E.2.1.1, 10, .inl (nA (tw)))), (fw, .inl (E.2.1.1, 10, .inl (nA (wt)))), (fc, .inl (E.2.1.1, 6, .inl (ch))), (l0, .inr (3, [.int (nI (nt)), .int (nI (lw)), .int (nI (sl)), .ref lc, .ref lr, .ref lf, .ref lv, .ref ln, .ref t0])), (lr, .inl (E.2.1.1, 6, .inl (nA (rt))))] (xQ none [(x0, .inr (1, [.int (nI (en)), .ref xb, .ref xg])), (xb, .inl (E.2.1.1, 8, .inl (nA (eb)))), (xg, .inl (E.2.1.1, 8, .inl (nA (eg)))), (f0, .inr (2, [.int (nI (nb)), .int (yr), .ref fk, .ref ft, .ref fw, .ref fs, .ref fg, .ref fc])), (fk, .inl (E.2.1.1, 10, .inl (nA (kd)))), (ft, .inl (E.2.1.1, 10, .inl (nA (twG tw eb eg en)))), (fw, .inl (E.2.1.1, 10, .inl (nA (wt)))), (fc, .inl (E.2.1.1, 6, .inl (chD ch (fun t => balL kd tw wt rt eb eg t en) nt))), (l0, .inr (3, [.int (nI (nt)), .int (nI (lw)), .int (nI (sl)), .ref lc, .ref lr, .ref lf, .ref lv, .ref ln, .ref t0])), (lr, .inl (E.2.1.1, 6, .inl (nA (rt))))]) := by
  refine ct_of (by decide +kernel) (Nat.le_of_ble_eq_true rfl) (lv := [(0, .ref x0), (1, .ref f0), (2, .ref l0)]) rfl (fun A => ?_)
  refine g_iconst (v := nI 0) (q := 1) dX1_doIn_0 rfl ki_0 ?_
  refine g_istore_n (lv' := [(0, _), (1, _), (2, _), (3, _)]) (q := 2) dX1_doIn_1 rfl rfl (Nat.le_of_ble_eq_true rfl) rfl ?_
  refine g_eq (ws' := [(x0, .inr (1, [.int (nI (en)), .ref xb, .ref xg])), (xb, .inl (E.2.1.1, 8, .inl (nA (eb)))), (xg, .inl (E.2.1.1, 8, .inl (nA (eg)))), (f0, .inr (2, [.int (nI (nb)), .int (yr), .ref fk, .ref ft, .ref fw, .ref fs, .ref fg, .ref fc])), (fk, .inl (E.2.1.1, 10, .inl (nA (kd)))), (ft, .inl (E.2.1.1, 10, .inl (nA (tw)))), (fw, .inl (E.2.1.1, 10, .inl (nA (wt)))), (fc, .inl (E.2.1.1, 6, .inl (chD ch (fun t => balL kd tw wt rt eb eg t en) 0))), (l0, .inr (3, [.int (nI (nt)), .int (nI (lw)), .int (nI (sl)), .ref lc, .ref lr, .ref lf, .ref lv, .ref ln, .ref t0])), (lr, .inl (E.2.1.1, 6, .inl (nA (rt))))]) ?_ (by rw [chD_0]) rfl rfl
  refine g_loop (nt) (fun i => [(x0, .inr (1, [.int (nI (en)), .ref xb, .ref xg])), (xb, .inl (E.2.1.1, 8, .inl (nA (eb)))), (xg, .inl (E.2.1.1, 8, .inl (nA (eg)))), (f0, .inr (2, [.int (nI (nb)), .int (yr), .ref fk, .ref ft, .ref fw, .ref fs, .ref fg, .ref fc])), (fk, .inl (E.2.1.1, 10, .inl (nA (kd)))), (ft, .inl (E.2.1.1, 10, .inl (nA (tw)))), (fw, .inl (E.2.1.1, 10, .inl (nA (wt)))), (fc, .inl (E.2.1.1, 6, .inl (chD ch (fun t => balL kd tw wt rt eb eg t en) i))), (l0, .inr (3, [.int (nI (nt)), .int (nI (lw)), .int (nI (sl)), .ref lc, .ref lr, .ref lf, .ref lv, .ref ln, .ref t0])), (lr, .inl (E.2.1.1, 6, .inl (nA (rt))))]) (fun i => [(0, .ref x0), (1, .ref f0), (2, .ref l0), (3, .int (nI (i)))]) ?_ ?_ 0 (Nat.zero_le _)
  · intro i hi2 ih2
    show G E _ [(x0, .inr (1, [.int (nI (en)), .ref xb, .ref xg])), (xb, .inl (E.2.1.1, 8, .inl (nA (eb)))), (xg, .inl (E.2.1.1, 8, .inl (nA (eg)))), (f0, .inr (2, [.int (nI (nb)), .int (yr), .ref fk, .ref ft, .ref fw, .ref fs, .ref fg, .ref fc])), (fk, .inl (E.2.1.1, 10, .inl (nA (kd)))), (ft, .inl (E.2.1.1, 10, .inl (nA (tw)))), (fw, .inl (E.2.1.1, 10, .inl (nA (wt)))), (fc, .inl (E.2.1.1, 6, .inl (chD ch (fun t => balL kd tw wt rt eb eg t en) i))), (l0, .inr (3, [.int (nI (nt)), .int (nI (lw)), .int (nI (sl)), .ref lc, .ref lr, .ref lf, .ref lv, .ref ln, .ref t0])), (lr, .inl (E.2.1.1, 6, .inl (nA (rt))))] 2 [(0, .ref x0), (1, .ref f0), (2, .ref l0), (3, .int (nI (i)))] []
    refine g_iload_n (q := 3) dX1_doIn_2 rfl rfl rfl ?_
    refine g_aload_n (q := 4) dX1_doIn_3 rfl rfl rfl ?_
    refine gf_X1_53 rfl 8 rfl rfl (q := 7) dX1_doIn_4 rfl ?_
    refine g_icmp_geN (t := 35) (q := 10) dX1_doIn_7 (by decide) rfl (by omega) (by omega) (fun c7 => ?_) (fun c7 => ?_)
    · omega
    · skip
      refine g_aload_n (q := 11) dX1_doIn_10 rfl rfl rfl ?_
      refine gf_X1_56 rfl 3 rfl rfl (q := 14) dX1_doIn_11 rfl ?_
      refine g_iload_n (q := 15) dX1_doIn_14 rfl rfl rfl ?_
      refine g_dup2 (q := 16) dX1_doIn_15 rfl rfl rfl ?_
      refine g_iald (v := (chD ch (fun t => balL kd tw wt rt eb eg t en) i) i) 7 rfl (ixIn (j := i) rfl (by omega) (by decide)) (ixV (j := i) rfl (by omega)) (q := 17) dX1_doIn_16 rfl ?_
      refine g_aload_n (q := 18) dX1_doIn_17 rfl rfl rfl ?_
      refine g_iload_n (q := 19) dX1_doIn_18 rfl rfl rfl ?_
      refine g_aload_n (q := 20) dX1_doIn_19 rfl rfl rfl ?_
      refine g_aload_n (q := 21) dX1_doIn_20 rfl rfl rfl ?_
      refine gf_X1_32 rfl 8 rfl rfl (q := 24) dX1_doIn_21 rfl ?_
      refine gc_X1_37 (c_balanceOf hn (by omega) heb heg hkd htw hwt hrt) rfl (Nat.le_of_ble_eq_true rfl) rfl 0 rfl [0, 1, 2, 3, 4, 5, 6, 9] rfl rfl (rest := [_, _, _]) rfl (Nat.le_of_ble_eq_true rfl) (q := 27) dX1_doIn_24 rfl (exK (ws' := [_, _, _, _, _, _, _, _, _, _]) (st' := [.int (balL kd tw wt rt eb eg i en), _, _, _]) rfl rfl ?_)
      refine g_isub (q := 28) dX1_doIn_27 rfl ?_
      refine g_iast (f' := (upd (chD ch (fun t => balL kd tw wt rt eb eg t en) i) i (((chD ch (fun t => balL kd tw wt rt eb eg t en) i) i) - (balL kd tw wt rt eb eg i en)))) 7 rfl (ixIn (j := i) rfl (by omega) (by decide)) (ixU (j := i) rfl (by omega)) (ws' := [_, _, _, _, _, _, _, (_, .inl (_, _, .inl _)), _, _]) rfl (q := 29) dX1_doIn_28 rfl ?_
      refine g_iinc (lv' := [(0, _), (1, _), (2, _), (3, _)]) (v := nI (i + 1)) (q := 32) dX1_doIn_29 rfl rfl (nI_inc _) (Nat.le_of_ble_eq_true rfl) rfl ?_
      refine g_goto (q := 2) dX1_doIn_32 (by decide) ?_
      rw [chD_s] at ih2
      exact ih2
  · skip
    show G E _ [(x0, .inr (1, [.int (nI (en)), .ref xb, .ref xg])), (xb, .inl (E.2.1.1, 8, .inl (nA (eb)))), (xg, .inl (E.2.1.1, 8, .inl (nA (eg)))), (f0, .inr (2, [.int (nI (nb)), .int (yr), .ref fk, .ref ft, .ref fw, .ref fs, .ref fg, .ref fc])), (fk, .inl (E.2.1.1, 10, .inl (nA (kd)))), (ft, .inl (E.2.1.1, 10, .inl (nA (tw)))), (fw, .inl (E.2.1.1, 10, .inl (nA (wt)))), (fc, .inl (E.2.1.1, 6, .inl (chD ch (fun t => balL kd tw wt rt eb eg t en) nt))), (l0, .inr (3, [.int (nI (nt)), .int (nI (lw)), .int (nI (sl)), .ref lc, .ref lr, .ref lf, .ref lv, .ref ln, .ref t0])), (lr, .inl (E.2.1.1, 6, .inl (nA (rt))))] 2 [(0, .ref x0), (1, .ref f0), (2, .ref l0), (3, .int (nI (nt)))] []
    refine g_iload_n (q := 3) dX1_doIn_2 rfl rfl rfl ?_
    refine g_aload_n (q := 4) dX1_doIn_3 rfl rfl rfl ?_
    refine gf_X1_53 rfl 8 rfl rfl (q := 7) dX1_doIn_4 rfl ?_
    refine g_icmp_geN (t := 35) (q := 10) dX1_doIn_7 (by decide) rfl (by omega) (by omega) (fun c7 => ?_) (fun c7 => ?_)
    · skip
      refine g_iconst (v := nI 0) (q := 36) dX1_doIn_35 rfl ki_0 ?_
      refine g_istore_n (lv' := [(0, _), (1, _), (2, _), (3, _)]) (q := 37) dX1_doIn_36 rfl rfl (Nat.le_of_ble_eq_true rfl) rfl ?_
      refine g_loop (en) (fun i => [(x0, .inr (1, [.int (nI (en)), .ref xb, .ref xg])), (xb, .inl (E.2.1.1, 8, .inl (nA (eb)))), (xg, .inl (E.2.1.1, 8, .inl (nA (eg)))), (f0, .inr (2, [.int (nI (nb)), .int (yr), .ref fk, .ref ft, .ref fw, .ref fs, .ref fg, .ref fc])), (fk, .inl (E.2.1.1, 10, .inl (nA (kd)))), (ft, .inl (E.2.1.1, 10, .inl (nA (twG tw eb eg i)))), (fw, .inl (E.2.1.1, 10, .inl (nA (wt)))), (fc, .inl (E.2.1.1, 6, .inl (chD ch (fun t => balL kd tw wt rt eb eg t en) nt))), (l0, .inr (3, [.int (nI (nt)), .int (nI (lw)), .int (nI (sl)), .ref lc, .ref lr, .ref lf, .ref lv, .ref ln, .ref t0])), (lr, .inl (E.2.1.1, 6, .inl (nA (rt))))]) (fun i => [(0, .ref x0), (1, .ref f0), (2, .ref l0), (3, .int (nI (i)))]) ?_ ?_ 0 (Nat.zero_le _)
      · intro i hi37 ih37
        have he1 := heb i hi37
        have he2 := heg i hi37
        show G E _ [(x0, .inr (1, [.int (nI (en)), .ref xb, .ref xg])), (xb, .inl (E.2.1.1, 8, .inl (nA (eb)))), (xg, .inl (E.2.1.1, 8, .inl (nA (eg)))), (f0, .inr (2, [.int (nI (nb)), .int (yr), .ref fk, .ref ft, .ref fw, .ref fs, .ref fg, .ref fc])), (fk, .inl (E.2.1.1, 10, .inl (nA (kd)))), (ft, .inl (E.2.1.1, 10, .inl (nA (twG tw eb eg i)))), (fw, .inl (E.2.1.1, 10, .inl (nA (wt)))), (fc, .inl (E.2.1.1, 6, .inl (chD ch (fun t => balL kd tw wt rt eb eg t en) nt))), (l0, .inr (3, [.int (nI (nt)), .int (nI (lw)), .int (nI (sl)), .ref lc, .ref lr, .ref lf, .ref lv, .ref ln, .ref t0])), (lr, .inl (E.2.1.1, 6, .inl (nA (rt))))] 37 [(0, .ref x0), (1, .ref f0), (2, .ref l0), (3, .int (nI (i)))] []
        refine g_iload_n (q := 38) dX1_doIn_37 rfl rfl rfl ?_
        refine g_aload_n (q := 39) dX1_doIn_38 rfl rfl rfl ?_
        refine gf_X1_18 rfl 0 rfl rfl (q := 42) dX1_doIn_39 rfl ?_
        refine g_icmp_geN (t := 68) (q := 45) dX1_doIn_42 (by decide) rfl (by omega) (by omega) (fun c42 => ?_) (fun c42 => ?_)
        · omega
        · skip
          refine g_aload_n (q := 46) dX1_doIn_45 rfl rfl rfl ?_
          refine gf_X1_50 rfl 3 rfl rfl (q := 49) dX1_doIn_46 rfl ?_
          refine g_aload_n (q := 50) dX1_doIn_49 rfl rfl rfl ?_
          refine gf_X1_9 rfl 0 rfl rfl (q := 53) dX1_doIn_50 rfl ?_
          refine g_iload_n (q := 54) dX1_doIn_53 rfl rfl rfl ?_
          refine g_iald (v := nI (eb i)) 1 rfl (ixIn (j := i) rfl (by omega) (by decide)) (ixV (j := i) rfl (by omega)) (q := 55) dX1_doIn_54 rfl ?_
          refine g_aload_n (q := 56) dX1_doIn_55 rfl rfl rfl ?_
          refine gf_X1_15 rfl 0 rfl rfl (q := 59) dX1_doIn_56 rfl ?_
          refine g_iload_n (q := 60) dX1_doIn_59 rfl rfl rfl ?_
          refine g_iald (v := nI (eg i)) 2 rfl (ixIn (j := i) rfl (by omega) (by decide)) (ixV (j := i) rfl (by omega)) (q := 61) dX1_doIn_60 rfl ?_
          refine g_iast (f' := (nA (updn (twG tw eb eg i) (eb i) (eg i)))) 5 rfl (ixIn (j := eb i) rfl (by omega) (by decide)) (ixUn (j := eb i) rfl (by omega)) (ws' := [_, _, _, _, _, (_, .inl (_, _, .inl _)), _, _, _, _]) rfl (q := 62) dX1_doIn_61 rfl ?_
          refine g_iinc (lv' := [(0, _), (1, _), (2, _), (3, _)]) (v := nI (i + 1)) (q := 65) dX1_doIn_62 rfl rfl (nI_inc _) (Nat.le_of_ble_eq_true rfl) rfl ?_
          refine g_goto (q := 37) dX1_doIn_65 (by decide) ?_
          exact ih37
      · skip
        show G E _ [(x0, .inr (1, [.int (nI (en)), .ref xb, .ref xg])), (xb, .inl (E.2.1.1, 8, .inl (nA (eb)))), (xg, .inl (E.2.1.1, 8, .inl (nA (eg)))), (f0, .inr (2, [.int (nI (nb)), .int (yr), .ref fk, .ref ft, .ref fw, .ref fs, .ref fg, .ref fc])), (fk, .inl (E.2.1.1, 10, .inl (nA (kd)))), (ft, .inl (E.2.1.1, 10, .inl (nA (twG tw eb eg en)))), (fw, .inl (E.2.1.1, 10, .inl (nA (wt)))), (fc, .inl (E.2.1.1, 6, .inl (chD ch (fun t => balL kd tw wt rt eb eg t en) nt))), (l0, .inr (3, [.int (nI (nt)), .int (nI (lw)), .int (nI (sl)), .ref lc, .ref lr, .ref lf, .ref lv, .ref ln, .ref t0])), (lr, .inl (E.2.1.1, 6, .inl (nA (rt))))] 37 [(0, .ref x0), (1, .ref f0), (2, .ref l0), (3, .int (nI (en)))] []
        refine g_iload_n (q := 38) dX1_doIn_37 rfl rfl rfl ?_
        refine g_aload_n (q := 39) dX1_doIn_38 rfl rfl rfl ?_
        refine gf_X1_18 rfl 0 rfl rfl (q := 42) dX1_doIn_39 rfl ?_
        refine g_icmp_geN (t := 68) (q := 45) dX1_doIn_42 (by decide) rfl (by omega) (by omega) (fun c42 => ?_) (fun c42 => ?_)
        · skip
          refine g_vret (st := []) dX1_doIn_68 rfl rfl ?_
          exact xv
        · omega
    · omega
