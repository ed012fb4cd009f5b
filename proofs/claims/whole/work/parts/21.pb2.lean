set_option maxHeartbeats 2000000 in
set_option maxRecDepth 20000 in
theorem c_give {E : EN} {p0 u0 l0 r0 f0 kp ik x0 s0 q0 g0 b0 ora c0 d0 : Nat} {fk ft fw fs fg fc nb yr : Nat} {lc lr lf lv ln t0 nt lw sl : Nat} {xb xg en : Nat} {eb eg : Nat → Nat} {tw : Nat → Nat} {x y : Int32} (hnb : nb ≤ 10) (hnt : nt ≤ 6) (hn : en ≤ 8) (heb : ∀ i, i < en → eb i < 10) (htw : ∀ j, j < 10 → tw j < 6) : CT E yX9_give cX9_give 3 (some .int) 2 [.ref p0, .int (x), .int (y)] [(p0, .inr (9, [.ref u0, .ref l0, .ref r0, .ref f0, .ref kp, .ref ik, .ref x0, .ref s0, .ref q0, .ref g0, .ref b0, .ref ora, .ref c0, .ref d0])), (f0, .inr (2, [.int (nI (nb)), .int (nI (yr)), .ref fk, .ref ft, .ref fw, .ref fs, .ref fg, .ref fc])), (ft, .inl (E.2.1.1, 10, .inl (nA (tw)))), (l0, .inr (3, [.int (nI (nt)), .int (nI (lw)), .int (nI (sl)), .ref lc, .ref lr, .ref lf, .ref lv, .ref ln, .ref t0])), (x0, .inr (1, [.int (nI (en)), .ref xb, .ref xg])), (xb, .inl (E.2.1.1, 8, .inl (nA (eb)))), (xg, .inl (E.2.1.1, 8, .inl (nA (eg))))] (xQ (some (.int (opGive nb nt en tw eb eg x y).1)) [(p0, .inr (9, [.ref u0, .ref l0, .ref r0, .ref f0, .ref kp, .ref ik, .ref x0, .ref s0, .ref q0, .ref g0, .ref b0, .ref ora, .ref c0, .ref d0])), (f0, .inr (2, [.int (nI (nb)), .int (nI (yr)), .ref fk, .ref ft, .ref fw, .ref fs, .ref fg, .ref fc])), (ft, .inl (E.2.1.1, 10, .inl (nA (tw)))), (l0, .inr (3, [.int (nI (nt)), .int (nI (lw)), .int (nI (sl)), .ref lc, .ref lr, .ref lf, .ref lv, .ref ln, .ref t0])), (x0, .inr (1, [.int (nI ((opGive nb nt en tw eb eg x y).2.1)), .ref xb, .ref xg])), (xb, .inl (E.2.1.1, 8, .inl (nA ((opGive nb nt en tw eb eg x y).2.2.1)))), (xg, .inl (E.2.1.1, 8, .inl (nA ((opGive nb nt en tw eb eg x y).2.2.2))))]) := by
  refine ct_of (by decide +kernel) (Nat.le_of_ble_eq_true rfl) (lv := [(0, .ref p0), (1, .int (x)), (2, .int (y))]) rfl (fun A => ?_)
  refine g_aload_n (q := 1) dX9_give_0 rfl rfl rfl ?_
  refine g_iload_n (q := 2) dX9_give_1 rfl rfl rfl ?_
  refine gc_X9_162 (c_isNoBoy (by omega)) rfl (Nat.le_of_ble_eq_true rfl) rfl 0 rfl [0, 1] rfl rfl (rest := []) rfl (Nat.le_of_ble_eq_true rfl) (q := 5) dX9_give_2 rfl (exK (ws' := [_, _, _, _, _, _, _]) (st' := [.int (bI (tn x nb).isNone)]) rfl rfl ?_)
  refine g_if_ne (t := 16) (q := 8) dX9_give_5 (by decide) rfl (fun c5 => ?_) (fun c5 => ?_)
  · have nb := isNone_t (bI_ne0.mp c5)
    refine g_bipush (v := (-2)) (q := 18) dX9_give_16 rfl kb_m2 ?_
    refine g_iret (st := []) dX9_give_18 rfl rfl rfl ?_
    cases htn : tn y nt <;> simp [opGive, nb, xQ]
  · obtain ⟨b, hb⟩ := isNone_f (bI_eq0.mp c5)
    obtain ⟨hb1, rfl⟩ := tn_some hb
    refine g_aload_n (q := 9) dX9_give_8 rfl rfl rfl ?_
    refine g_iload_n (q := 10) dX9_give_9 rfl rfl rfl ?_
    refine gc_X9_135 (c_isNoTown (by omega)) rfl (Nat.le_of_ble_eq_true rfl) rfl 0 rfl [0, 3] rfl rfl (rest := []) rfl (Nat.le_of_ble_eq_true rfl) (q := 13) dX9_give_10 rfl (exK (ws' := [_, _, _, _, _, _, _]) (st' := [.int (bI (tn y nt).isNone)]) rfl rfl ?_)
    refine g_if_eq (t := 19) (q := 16) dX9_give_13 (by decide) rfl (fun c13 => ?_) (fun c13 => ?_)
    · obtain ⟨t, ht⟩ := isNone_f (bI_eq0.mp c13)
      obtain ⟨ht1, rfl⟩ := tn_some ht
      have q1 := htw b (by omega)
      refine g_aload_n (q := 20) dX9_give_19 rfl rfl rfl ?_
      refine gf_X9_35 rfl 0 rfl rfl (q := 23) dX9_give_20 rfl ?_
      refine gf_X9_168 rfl 1 rfl rfl (q := 26) dX9_give_23 rfl ?_
      refine g_iload_n (q := 27) dX9_give_26 rfl rfl rfl ?_
      refine g_iald (v := nI (tw b)) 2 rfl (ixIn (j := b) rfl (by omega) (by decide)) (ixV (j := b) rfl (by omega)) (q := 28) dX9_give_27 rfl ?_
      refine g_iload_n (q := 29) dX9_give_28 rfl rfl rfl ?_
      refine g_icmp_neN (t := 35) (q := 32) dX9_give_29 (by decide) rfl (by omega) (by omega) (fun c29 => ?_) (fun c29 => ?_)
      · skip
        refine g_aload_n (q := 36) dX9_give_35 rfl rfl rfl ?_
        refine gf_X9_50 rfl 0 rfl rfl (q := 39) dX9_give_36 rfl ?_
        refine g_iload_n (q := 40) dX9_give_39 rfl rfl rfl ?_
        refine gc_X9_198 (c_xhas (by omega) (by omega) heb) rfl (Nat.le_of_ble_eq_true rfl) rfl 4 rfl [4, 5, 6] rfl rfl (rest := []) rfl (Nat.le_of_ble_eq_true rfl) (q := 43) dX9_give_40 rfl (exK (ws' := [_, _, _, _, _, _, _]) (st' := [.int (bI (hasE eb b en))]) rfl rfl ?_)
        refine g_if_eq (t := 49) (q := 46) dX9_give_43 (by decide) rfl (fun c43 => ?_) (fun c43 => ?_)
        · skip
          refine g_aload_n (q := 50) dX9_give_49 rfl rfl rfl ?_
          refine gf_X9_50 rfl 0 rfl rfl (q := 53) dX9_give_50 rfl ?_
          refine gf_X9_130 rfl 4 rfl rfl (q := 56) dX9_give_53 rfl ?_
          refine g_bipush (v := nI 8) (q := 58) dX9_give_56 rfl kb_8 ?_
          refine g_icmp_ltN (t := 64) (q := 61) dX9_give_58 (by decide) rfl (by omega) (by omega) (fun c58 => ?_) (fun c58 => ?_)
          · skip
            refine g_aload_n (q := 65) dX9_give_64 rfl rfl rfl ?_
            refine gf_X9_50 rfl 0 rfl rfl (q := 68) dX9_give_65 rfl ?_
            refine g_iload_n (q := 69) dX9_give_68 rfl rfl rfl ?_
            refine g_iload_n (q := 70) dX9_give_69 rfl rfl rfl ?_
            refine gc_X9_201 (c_xadd (by omega)) rfl (Nat.le_of_ble_eq_true rfl) rfl 4 rfl [4, 5, 6] rfl rfl (rest := []) rfl (Nat.le_of_ble_eq_true rfl) (q := 73) dX9_give_70 rfl (exK (ws' := [_, _, _, _, (_, .inr (_, [_, _, _])), (_, .inl (_, _, .inl _)), (_, .inl (_, _, .inl _))]) (st' := []) rfl rfl ?_)
            refine g_aload_n (q := 74) dX9_give_73 rfl rfl rfl ?_
            refine gf_X9_50 rfl 0 rfl rfl (q := 77) dX9_give_74 rfl ?_
            refine gf_X9_130 rfl 4 rfl rfl (q := 80) dX9_give_77 rfl ?_
            refine g_iret (st := []) dX9_give_80 rfl rfl rfl ?_
            simp [opGive, hb, ht, c29, bI_eq0.mp c43, show ¬ 8 ≤ en by omega, xQ]
          · skip
            refine g_bipush (v := (-5)) (q := 63) dX9_give_61 rfl kb_m5 ?_
            refine g_iret (st := []) dX9_give_63 rfl rfl rfl ?_
            simp [opGive, hb, ht, c29, bI_eq0.mp c43, show 8 ≤ en by omega, xQ]
        · skip
          refine g_bipush (v := (-4)) (q := 48) dX9_give_46 rfl kb_m4 ?_
          refine g_iret (st := []) dX9_give_48 rfl rfl rfl ?_
          simp [opGive, hb, ht, c29, bI_ne0.mp c43, xQ]
      · skip
        refine g_bipush (v := (-3)) (q := 34) dX9_give_32 rfl kb_m3 ?_
        refine g_iret (st := []) dX9_give_34 rfl rfl rfl ?_
        simp [opGive, hb, ht, c29, xQ]
    · have nt := isNone_t (bI_ne0.mp c13)
      refine g_bipush (v := (-2)) (q := 18) dX9_give_16 rfl kb_m2 ?_
      refine g_iret (st := []) dX9_give_18 rfl rfl rfl ?_
      simp [opGive, hb, nt, xQ]
set_option maxHeartbeats 2000000 in
set_option maxRecDepth 20000 in
theorem c_balance {E : EN} {p0 u0 l0 r0 f0 kp ik x0 s0 q0 g0 b0 ora c0 d0 : Nat} {fk ft fw fs fg fc nb yr : Nat} {lc lr lf lv ln t0 nt lw sl : Nat} {xb xg en : Nat} {eb eg : Nat → Nat} {kd tw wt rt : Nat → Nat} {x : Int32} (hnb : nb ≤ 10) (hnt : nt ≤ 6) (hn : en ≤ 8) (heb : ∀ i, i < en → eb i < 10) (heg : ∀ i, i < en → eg i < 6) (hkd : ∀ j, j < 10 → kd j < 4) (htw : ∀ j, j < 10 → tw j < 6) (hwt : ∀ j, j < 10 → wt j < 100) (hrt : ∀ j, j < 6 → rt j < 10)  : CT E yX9_balance cX9_balance 2 (some .int) 4 [.ref p0, .int (x)] [(p0, .inr (9, [.ref u0, .ref l0, .ref r0, .ref f0, .ref kp, .ref ik, .ref x0, .ref s0, .ref q0, .ref g0, .ref b0, .ref ora, .ref c0, .ref d0])), (l0, .inr (3, [.int (nI (nt)), .int (nI (lw)), .int (nI (sl)), .ref lc, .ref lr, .ref lf, .ref lv, .ref ln, .ref t0])), (lr, .inl (E.2.1.1, 6, .inl (nA (rt)))), (f0, .inr (2, [.int (nI (nb)), .int (nI (yr)), .ref fk, .ref ft, .ref fw, .ref fs, .ref fg, .ref fc])), (fk, .inl (E.2.1.1, 10, .inl (nA (kd)))), (ft, .inl (E.2.1.1, 10, .inl (nA (tw)))), (fw, .inl (E.2.1.1, 10, .inl (nA (wt)))), (x0, .inr (1, [.int (nI (en)), .ref xb, .ref xg])), (xb, .inl (E.2.1.1, 8, .inl (nA (eb)))), (xg, .inl (E.2.1.1, 8, .inl (nA (eg))))] (xQ (some (.int (opBalance nt en kd tw wt rt eb eg x))) [(p0, .inr (9, [.ref u0, .ref l0, .ref r0, .ref f0, .ref kp, .ref ik, .ref x0, .ref s0, .ref q0, .ref g0, .ref b0, .ref ora, .ref c0, .ref d0])), (l0, .inr (3, [.int (nI (nt)), .int (nI (lw)), .int (nI (sl)), .ref lc, .ref lr, .ref lf, .ref lv, .ref ln, .ref t0])), (lr, .inl (E.2.1.1, 6, .inl (nA (rt)))), (f0, .inr (2, [.int (nI (nb)), .int (nI (yr)), .ref fk, .ref ft, .ref fw, .ref fs, .ref fg, .ref fc])), (fk, .inl (E.2.1.1, 10, .inl (nA (kd)))), (ft, .inl (E.2.1.1, 10, .inl (nA (tw)))), (fw, .inl (E.2.1.1, 10, .inl (nA (wt)))), (x0, .inr (1, [.int (nI (en)), .ref xb, .ref xg])), (xb, .inl (E.2.1.1, 8, .inl (nA (eb)))), (xg, .inl (E.2.1.1, 8, .inl (nA (eg))))]) := by
  refine ct_of (by decide +kernel) (Nat.le_of_ble_eq_true rfl) (lv := [(0, .ref p0), (1, .int (x))]) rfl (fun A => ?_)
  refine g_aload_n (q := 1) dX9_balance_0 rfl rfl rfl ?_
  refine g_iload_n (q := 2) dX9_balance_1 rfl rfl rfl ?_
  refine gc_X9_135 (c_isNoTown (by omega)) rfl (Nat.le_of_ble_eq_true rfl) rfl 0 rfl [0, 1] rfl rfl (rest := []) rfl (Nat.le_of_ble_eq_true rfl) (q := 5) dX9_balance_2 rfl (exK (ws' := [_, _, _, _, _, _, _, _, _, _]) (st' := [.int (bI (tn x nt).isNone)]) rfl rfl ?_)
  refine g_if_eq (t := 11) (q := 8) dX9_balance_5 (by decide) rfl (fun c5 => ?_) (fun c5 => ?_)
  · obtain ⟨t, ht⟩ := isNone_f (bI_eq0.mp c5)
    obtain ⟨ht1, rfl⟩ := tn_some ht
    refine g_ldc (v := nI 10000000) rfl mkX9_154 (q := 13) dX9_balance_11 rfl ?_
    refine g_aload_n (q := 14) dX9_balance_13 rfl rfl rfl ?_
    refine gf_X9_50 rfl 0 rfl rfl (q := 17) dX9_balance_14 rfl ?_
    refine g_iload_n (q := 18) dX9_balance_17 rfl rfl rfl ?_
    refine g_aload_n (q := 19) dX9_balance_18 rfl rfl rfl ?_
    refine gf_X9_35 rfl 0 rfl rfl (q := 22) dX9_balance_19 rfl ?_
    refine g_aload_n (q := 23) dX9_balance_22 rfl rfl rfl ?_
    refine gf_X9_19 rfl 0 rfl rfl (q := 26) dX9_balance_23 rfl ?_
    refine gf_X9_142 rfl 1 rfl rfl (q := 29) dX9_balance_26 rfl ?_
    refine gc_X9_205 (c_balanceOf hn (by omega) heb heg hkd htw hwt hrt) rfl (Nat.le_of_ble_eq_true rfl) rfl 7 rfl [7, 8, 9, 3, 4, 5, 6, 2] rfl rfl (rest := [_]) rfl (Nat.le_of_ble_eq_true rfl) (q := 32) dX9_balance_29 rfl (exK (ws' := [_, _, _, _, _, _, _, _, _, _]) (st' := [.int (balL kd tw wt rt eb eg t en), _]) rfl rfl ?_)
    refine g_iadd (q := 33) dX9_balance_32 rfl ?_
    refine g_iret (st := []) dX9_balance_33 rfl rfl rfl ?_
    exact xr (by simp [opBalance, ht])
  · have nt := isNone_t (bI_ne0.mp c5)
    refine g_bipush (v := (-2)) (q := 10) dX9_balance_8 rfl kb_m2 ?_
    refine g_iret (st := []) dX9_balance_10 rfl rfl rfl ?_
    exact xr (by simp [opBalance, nt])
set_option maxHeartbeats 2000000 in
set_option maxRecDepth 20000 in
theorem c_judge {E : EN} {p0 u0 l0 r0 f0 kp ik x0 s0 q0 g0 b0 ora c0 d0 : Nat} {fk ft fw fs fg fc nb yr : Nat} {lc lr lf lv ln t0 nt lw sl : Nat} {xb xg en : Nat} {eb eg : Nat → Nat} {kd tw wt rt : Nat → Nat} (hsl : sl < 1000) (hnb : nb ≤ 10) (hnt : nt ≤ 6) (hn : en ≤ 8) (heb : ∀ i, i < en → eb i < 10) (heg : ∀ i, i < en → eg i < 6) (hkd : ∀ j, j < 10 → kd j < 4) (htw : ∀ j, j < 10 → tw j < 6) (hwt : ∀ j, j < 10 → wt j < 100) (hrt : ∀ j, j < 6 → rt j < 10)  : CT E yX9_judge cX9_judge 2 (some .int) 5 [.ref p0] [(p0, .inr (9, [.ref u0, .ref l0, .ref r0, .ref f0, .ref kp, .ref ik, .ref x0, .ref s0, .ref q0, .ref g0, .ref b0, .ref ora, .ref c0, .ref d0])), (l0, .inr (3, [.int (nI (nt)), .int (nI (lw)), .int (nI (sl)), .ref lc, .ref lr, .ref lf, .ref lv, .ref ln, .ref t0])), (lr, .inl (E.2.1.1, 6, .inl (nA (rt)))), (f0, .inr (2, [.int (nI (nb)), .int (nI (yr)), .ref fk, .ref ft, .ref fw, .ref fs, .ref fg, .ref fc])), (fk, .inl (E.2.1.1, 10, .inl (nA (kd)))), (ft, .inl (E.2.1.1, 10, .inl (nA (tw)))), (fw, .inl (E.2.1.1, 10, .inl (nA (wt)))), (x0, .inr (1, [.int (nI (en)), .ref xb, .ref xg])), (xb, .inl (E.2.1.1, 8, .inl (nA (eb)))), (xg, .inl (E.2.1.1, 8, .inl (nA (eg))))] (xQ (some (.int (opJudge nt sl en kd tw wt rt eb eg))) [(p0, .inr (9, [.ref u0, .ref l0, .ref r0, .ref f0, .ref kp, .ref ik, .ref x0, .ref s0, .ref q0, .ref g0, .ref b0, .ref ora, .ref c0, .ref d0])), (l0, .inr (3, [.int (nI (nt)), .int (nI (lw)), .int (nI (sl)), .ref lc, .ref lr, .ref lf, .ref lv, .ref ln, .ref t0])), (lr, .inl (E.2.1.1, 6, .inl (nA (rt)))), (f0, .inr (2, [.int (nI (nb)), .int (nI (yr)), .ref fk, .ref ft, .ref fw, .ref fs, .ref fg, .ref fc])), (fk, .inl (E.2.1.1, 10, .inl (nA (kd)))), (ft, .inl (E.2.1.1, 10, .inl (nA (tw)))), (fw, .inl (E.2.1.1, 10, .inl (nA (wt)))), (x0, .inr (1, [.int (nI (en)), .ref xb, .ref xg])), (xb, .inl (E.2.1.1, 8, .inl (nA (eb)))), (xg, .inl (E.2.1.1, 8, .inl (nA (eg))))]) := by
  refine ct_of (by decide +kernel) (Nat.le_of_ble_eq_true rfl) (lv := [(0, .ref p0)]) rfl (fun A => ?_)
  refine g_iconst (v := nI 0) (q := 1) dX9_judge_0 rfl ki_0 ?_
  refine g_istore_n (lv' := [(0, _), (1, _)]) (q := 2) dX9_judge_1 rfl rfl (Nat.le_of_ble_eq_true rfl) rfl ?_
  refine g_loopI (nt) (fun i => fstN (clo sl en kd tw wt rt eb eg) i = none) (fun i => [(p0, .inr (9, [.ref u0, .ref l0, .ref r0, .ref f0, .ref kp, .ref ik, .ref x0, .ref s0, .ref q0, .ref g0, .ref b0, .ref ora, .ref c0, .ref d0])), (l0, .inr (3, [.int (nI (nt)), .int (nI (lw)), .int (nI (sl)), .ref lc, .ref lr, .ref lf, .ref lv, .ref ln, .ref t0])), (lr, .inl (E.2.1.1, 6, .inl (nA (rt)))), (f0, .inr (2, [.int (nI (nb)), .int (nI (yr)), .ref fk, .ref ft, .ref fw, .ref fs, .ref fg, .ref fc])), (fk, .inl (E.2.1.1, 10, .inl (nA (kd)))), (ft, .inl (E.2.1.1, 10, .inl (nA (tw)))), (fw, .inl (E.2.1.1, 10, .inl (nA (wt)))), (x0, .inr (1, [.int (nI (en)), .ref xb, .ref xg])), (xb, .inl (E.2.1.1, 8, .inl (nA (eb)))), (xg, .inl (E.2.1.1, 8, .inl (nA (eg))))]) (fun i => [(0, .ref p0), (1, .int (nI (i)))]) ?_ ?_ 0 (Nat.zero_le _) (rfl)
  · intro i hi2 hv2 ih2
    show G E _ [(p0, .inr (9, [.ref u0, .ref l0, .ref r0, .ref f0, .ref kp, .ref ik, .ref x0, .ref s0, .ref q0, .ref g0, .ref b0, .ref ora, .ref c0, .ref d0])), (l0, .inr (3, [.int (nI (nt)), .int (nI (lw)), .int (nI (sl)), .ref lc, .ref lr, .ref lf, .ref lv, .ref ln, .ref t0])), (lr, .inl (E.2.1.1, 6, .inl (nA (rt)))), (f0, .inr (2, [.int (nI (nb)), .int (nI (yr)), .ref fk, .ref ft, .ref fw, .ref fs, .ref fg, .ref fc])), (fk, .inl (E.2.1.1, 10, .inl (nA (kd)))), (ft, .inl (E.2.1.1, 10, .inl (nA (tw)))), (fw, .inl (E.2.1.1, 10, .inl (nA (wt)))), (x0, .inr (1, [.int (nI (en)), .ref xb, .ref xg])), (xb, .inl (E.2.1.1, 8, .inl (nA (eb)))), (xg, .inl (E.2.1.1, 8, .inl (nA (eg))))] 2 [(0, .ref p0), (1, .int (nI (i)))] []
    refine g_iload_n (q := 3) dX9_judge_2 rfl rfl rfl ?_
    refine g_aload_n (q := 4) dX9_judge_3 rfl rfl rfl ?_
    refine gf_X9_19 rfl 0 rfl rfl (q := 7) dX9_judge_4 rfl ?_
    refine gf_X9_209 rfl 1 rfl rfl (q := 10) dX9_judge_7 rfl ?_
    refine g_icmp_geN (t := 40) (q := 13) dX9_judge_10 (by decide) rfl (by omega) (by omega) (fun c10 => ?_) (fun c10 => ?_)
    · omega
    · skip
      refine g_aload_n (q := 14) dX9_judge_13 rfl rfl rfl ?_
      refine gf_X9_50 rfl 0 rfl rfl (q := 17) dX9_judge_14 rfl ?_
      refine g_iload_n (q := 18) dX9_judge_17 rfl rfl rfl ?_
      refine g_aload_n (q := 19) dX9_judge_18 rfl rfl rfl ?_
      refine gf_X9_35 rfl 0 rfl rfl (q := 22) dX9_judge_19 rfl ?_
      refine g_aload_n (q := 23) dX9_judge_22 rfl rfl rfl ?_
      refine gf_X9_19 rfl 0 rfl rfl (q := 26) dX9_judge_23 rfl ?_
      refine gc_X9_212 (c_closesAt hsl hn (by omega) heb heg hkd htw hwt hrt) rfl (Nat.le_of_ble_eq_true rfl) rfl 7 rfl [7, 8, 9, 3, 4, 5, 6, 1, 2] rfl rfl (rest := []) rfl (Nat.le_of_ble_eq_true rfl) (q := 29) dX9_judge_26 rfl (exK (ws' := [_, _, _, _, _, _, _, _, _, _]) (st' := [.int (bI (clo sl en kd tw wt rt eb eg i))]) rfl rfl ?_)
      refine g_if_ne (t := 34) (q := 32) dX9_judge_29 (by decide) rfl (fun c29 => ?_) (fun c29 => ?_)
      · skip
        refine g_iinc (lv' := [(0, _), (1, _)]) (v := nI (i + 1)) (q := 37) dX9_judge_34 rfl rfl (nI_inc _) (Nat.le_of_ble_eq_true rfl) rfl ?_
        refine g_goto (q := 2) dX9_judge_37 (by decide) ?_
        exact ih2 (fstN_s hv2 (bI_ne0.mp c29))
      · skip
        refine g_iload_n (q := 33) dX9_judge_32 rfl rfl rfl ?_
        refine g_iret (st := []) dX9_judge_33 rfl rfl rfl ?_
        exact xr (by rw [opJudge, fstN_hit hv2 (bI_eq0.mp c29) hi2]; rfl)
  · intro hv2
    show G E _ [(p0, .inr (9, [.ref u0, .ref l0, .ref r0, .ref f0, .ref kp, .ref ik, .ref x0, .ref s0, .ref q0, .ref g0, .ref b0, .ref ora, .ref c0, .ref d0])), (l0, .inr (3, [.int (nI (nt)), .int (nI (lw)), .int (nI (sl)), .ref lc, .ref lr, .ref lf, .ref lv, .ref ln, .ref t0])), (lr, .inl (E.2.1.1, 6, .inl (nA (rt)))), (f0, .inr (2, [.int (nI (nb)), .int (nI (yr)), .ref fk, .ref ft, .ref fw, .ref fs, .ref fg, .ref fc])), (fk, .inl (E.2.1.1, 10, .inl (nA (kd)))), (ft, .inl (E.2.1.1, 10, .inl (nA (tw)))), (fw, .inl (E.2.1.1, 10, .inl (nA (wt)))), (x0, .inr (1, [.int (nI (en)), .ref xb, .ref xg])), (xb, .inl (E.2.1.1, 8, .inl (nA (eb)))), (xg, .inl (E.2.1.1, 8, .inl (nA (eg))))] 2 [(0, .ref p0), (1, .int (nI (nt)))] []
    refine g_iload_n (q := 3) dX9_judge_2 rfl rfl rfl ?_
    refine g_aload_n (q := 4) dX9_judge_3 rfl rfl rfl ?_
    refine gf_X9_19 rfl 0 rfl rfl (q := 7) dX9_judge_4 rfl ?_
    refine gf_X9_209 rfl 1 rfl rfl (q := 10) dX9_judge_7 rfl ?_
    refine g_icmp_geN (t := 40) (q := 13) dX9_judge_10 (by decide) rfl (by omega) (by omega) (fun c10 => ?_) (fun c10 => ?_)
    · skip
      refine g_iconst (v := (-1)) (q := 41) dX9_judge_40 rfl ki_m1 ?_
      refine g_iret (st := []) dX9_judge_41 rfl rfl rfl ?_
      exact xr (by rw [opJudge, hv2]; rfl)
    · omega
theorem fstN_lt {c : Nat → Bool} {t : Nat} : ∀ {n : Nat}, fstN c n = some t → t < n
  | 0, h => by simp [fstN] at h
  | n + 1, h => by
    rw [fstN] at h
    cases hf : fstN c n with
    | some u =>
      rw [hf] at h
      cases h
      exact Nat.lt_succ_of_lt (fstN_lt hf)
    | none =>
      rw [hf] at h
      by_cases hc : c n = true
      · simp [hc] at h
      · simp [hc] at h
        omega
set_option maxHeartbeats 2000000 in
set_option maxRecDepth 20000 in
theorem c_deal {E : EN} {p0 u0 l0 r0 f0 kp ik x0 s0 q0 g0 b0 ora c0 d0 : Nat} {fk ft fw fs fg fc nb yr : Nat} {lc lr lf lv ln t0 nt lw sl : Nat} {xb xg en : Nat} {eb eg : Nat → Nat} {kd tw wt rt : Nat → Nat} {ch : Nat → Int32} (hsl : sl < 1000) (hnb : nb ≤ 10) (hnt : nt ≤ 6) (hn : en ≤ 8) (heb : ∀ i, i < en → eb i < 10) (heg : ∀ i, i < en → eg i < 6) (hkd : ∀ j, j < 10 → kd j < 4) (htw : ∀ j, j < 10 → tw j < 6) (hwt : ∀ j, j < 10 → wt j < 100) (hrt : ∀ j, j < 6 → rt j < 10)  : CT E yX9_deal cX9_deal 1 (some .int) 6 [.ref p0] [(p0, .inr (9, [.ref u0, .ref l0, .ref r0, .ref f0, .ref kp, .ref ik, .ref x0, .ref s0, .ref q0, .ref g0, .ref b0, .ref ora, .ref c0, .ref d0])), (l0, .inr (3, [.int (nI (nt)), .int (nI (lw)), .int (nI (sl)), .ref lc, .ref lr, .ref lf, .ref lv, .ref ln, .ref t0])), (lr, .inl (E.2.1.1, 6, .inl (nA (rt)))), (f0, .inr (2, [.int (nI (nb)), .int (nI (yr)), .ref fk, .ref ft, .ref fw, .ref fs, .ref fg, .ref fc])), (fk, .inl (E.2.1.1, 10, .inl (nA (kd)))), (ft, .inl (E.2.1.1, 10, .inl (nA (tw)))), (fw, .inl (E.2.1.1, 10, .inl (nA (wt)))), (fc, .inl (E.2.1.1, 6, .inl (ch))), (x0, .inr (1, [.int (nI (en)), .ref xb, .ref xg])), (xb, .inl (E.2.1.1, 8, .inl (nA (eb)))), (xg, .inl (E.2.1.1, 8, .inl (nA (eg))))] (xQ (some (.int (opDeal nt sl en kd tw wt rt eb eg ch).1)) [(p0, .inr (9, [.ref u0, .ref l0, .ref r0, .ref f0, .ref kp, .ref ik, .ref x0, .ref s0, .ref q0, .ref g0, .ref b0, .ref ora, .ref c0, .ref d0])), (l0, .inr (3, [.int (nI (nt)), .int (nI (lw)), .int (nI (sl)), .ref lc, .ref lr, .ref lf, .ref lv, .ref ln, .ref t0])), (lr, .inl (E.2.1.1, 6, .inl (nA (rt)))), (f0, .inr (2, [.int (nI (nb)), .int (nI (yr)), .ref fk, .ref ft, .ref fw, .ref fs, .ref fg, .ref fc])), (fk, .inl (E.2.1.1, 10, .inl (nA (kd)))), (ft, .inl (E.2.1.1, 10, .inl (nA ((opDeal nt sl en kd tw wt rt eb eg ch).2.2.1)))), (fw, .inl (E.2.1.1, 10, .inl (nA (wt)))), (fc, .inl (E.2.1.1, 6, .inl ((opDeal nt sl en kd tw wt rt eb eg ch).2.2.2))), (x0, .inr (1, [.int (nI ((opDeal nt sl en kd tw wt rt eb eg ch).2.1)), .ref xb, .ref xg])), (xb, .inl (E.2.1.1, 8, .inl (nA (eb)))), (xg, .inl (E.2.1.1, 8, .inl (nA (eg))))]) := by
  refine ct_of (by decide +kernel) (Nat.le_of_ble_eq_true rfl) (lv := [(0, .ref p0)]) rfl (fun A => ?_)
  refine g_aload_n (q := 1) dX9_deal_0 rfl rfl rfl ?_
  refine gc_X9_216 (c_judge hsl hnb hnt hn heb heg hkd htw hwt hrt) rfl (Nat.le_of_ble_eq_true rfl) rfl 0 rfl [0, 1, 2, 3, 4, 5, 6, 8, 9, 10] rfl rfl (rest := []) rfl (Nat.le_of_ble_eq_true rfl) (q := 4) dX9_deal_1 rfl (exKM (ws' := [_, _, _, _, _, _, _, _, _, _, _]) (st' := [.int (opJudge nt sl en kd tw wt rt eb eg)]) rfl rfl rfl ?_)
  rcases hJ : fstN (clo sl en kd tw wt rt eb eg) nt with _ | t
  · refine g_top (y := (-1)) (by rw [opJudge, hJ]; rfl) ?_
    refine g_iconst (v := (-1)) (q := 5) dX9_deal_4 rfl ki_m1 ?_
    refine g_icmp_eq (t := 11) (q := 8) dX9_deal_5 (by decide) rfl (fun c5 => ?_) (fun c5 => ?_)
    · skip
      refine g_aload_n (q := 12) dX9_deal_11 rfl rfl rfl ?_
      refine gf_X9_50 rfl 0 rfl rfl (q := 15) dX9_deal_12 rfl ?_
      refine g_aload_n (q := 16) dX9_deal_15 rfl rfl rfl ?_
      refine gf_X9_35 rfl 0 rfl rfl (q := 19) dX9_deal_16 rfl ?_
      refine g_aload_n (q := 20) dX9_deal_19 rfl rfl rfl ?_
      refine gf_X9_19 rfl 0 rfl rfl (q := 23) dX9_deal_20 rfl ?_
      refine gc_X9_220 (c_doIn hnt hn heb heg hkd htw hwt hrt) rfl (Nat.le_of_ble_eq_true rfl) rfl 8 rfl [8, 9, 10, 3, 4, 5, 6, 7, 1, 2] rfl rfl (rest := []) rfl (Nat.le_of_ble_eq_true rfl) (q := 26) dX9_deal_23 rfl (exK (ws' := [_, (_, .inr (_, [_, _, _, _, _, _, _, _, _])), (_, .inl (_, _, .inl _)), (_, .inr (_, [_, _, _, _, _, _, _, _])), (_, .inl (_, _, .inl _)), (_, .inl (_, _, .inl _)), (_, .inl (_, _, .inl _)), (_, .inl (_, _, .inl _)), (_, .inr (_, [_, _, _])), (_, .inl (_, _, .inl _)), (_, .inl (_, _, .inl _))]) (st' := []) rfl rfl ?_)
      refine g_aload_n (q := 27) dX9_deal_26 rfl rfl rfl ?_
      refine gc_X9_223 (c_drop) rfl (Nat.le_of_ble_eq_true rfl) rfl 0 rfl [0, 8] rfl rfl (rest := []) rfl (Nat.le_of_ble_eq_true rfl) (q := 30) dX9_deal_27 rfl (exK (ws' := [(_, .inr (_, [_, _, _, _, _, _, _, _, _, _, _, _, _, _])), _, _, _, _, _, _, _, (_, .inr (_, [_, _, _])), _, _]) (st' := [.int (nI (en))]) rfl rfl ?_)
      refine g_iret (st := []) dX9_deal_30 rfl rfl rfl ?_
      simp [opDeal, hJ, xQ]
    · exact absurd (by decide) c5
  · have hb9 := fstN_lt hJ
    refine g_top (y := nI t) (by rw [opJudge, hJ]; rfl) ?_
    refine g_iconst (v := (-1)) (q := 5) dX9_deal_4 rfl ki_m1 ?_
    refine g_icmp_eq (t := 11) (q := 8) dX9_deal_5 (by decide) rfl (fun c5 => ?_) (fun c5 => ?_)
    · exact absurd c5 (nI_m1 (by omega))
    · skip
      refine g_bipush (v := (-4)) (q := 10) dX9_deal_8 rfl kb_m4 ?_
      refine g_iret (st := []) dX9_deal_10 rfl rfl rfl ?_
      simp [opDeal, hJ, xQ]
set_option maxHeartbeats 2000000 in
set_option maxRecDepth 20000 in
theorem c_go {E : EN} {p0 u0 l0 r0 f0 kp ik x0 s0 q0 g0 b0 ora c0 d0 : Nat} {s1 xb xg en : Nat} {fk ft fw fs fg fc nb yr : Nat} {lc lr lf lv ln t0 nt lw sl : Nat} {kd tw wt sk gr : Nat → Nat} {ch : Nat → Int32} {cr rt fd nx : Nat → Nat} {sn : Nat → Int32} {x : Int32} (hyr : yr < 2000) (hP : okL ((nb, nt, lw), kd, cr, rt, fd, nx)) (hY : okY (tw, wt, sk, gr, ch)) (hB : okB nb nt (tw, wt, sk, gr, ch))  : CT E yX9_go cX9_go 2 (some .int) 5 [.ref p0, .int (x)] [(p0, .inr (9, [.ref u0, .ref l0, .ref r0, .ref f0, .ref kp, .ref ik, .ref x0, .ref s0, .ref q0, .ref g0, .ref b0, .ref ora, .ref c0, .ref d0])), (s0, .inr (0, [.ref s1])), (s1, .inl (E.2.1.1, 6, .inl (sn))), (f0, .inr (2, [.int (nI (nb)), .int (nI (yr)), .ref fk, .ref ft, .ref fw, .ref fs, .ref fg, .ref fc])), (fk, .inl (E.2.1.1, 10, .inl (nA (kd)))), (ft, .inl (E.2.1.1, 10, .inl (nA (tw)))), (fw, .inl (E.2.1.1, 10, .inl (nA (wt)))), (fs, .inl (E.2.1.1, 10, .inl (nA (sk)))), (fg, .inl (E.2.1.1, 10, .inl (nA (gr)))), (fc, .inl (E.2.1.1, 6, .inl (ch))), (l0, .inr (3, [.int (nI (nt)), .int (nI (lw)), .int (nI (sl)), .ref lc, .ref lr, .ref lf, .ref lv, .ref ln, .ref t0])), (lc, .inl (E.2.1.1, 6, .inl (nA (cr)))), (lr, .inl (E.2.1.1, 6, .inl (nA (rt)))), (lf, .inl (E.2.1.1, 6, .inl (nA (fd)))), (ln, .inl (E.2.1.1, 6, .inl (nA (nx)))), (x0, .inr (1, [.int (nI (en)), .ref xb, .ref xg]))] (fun r w => ∃ sn', xQ (some (.int (opGo ((nb, nt, lw), kd, cr, rt, fd, nx) (tw, wt, sk, gr, ch) yr en x).1)) [(p0, .inr (9, [.ref u0, .ref l0, .ref r0, .ref f0, .ref kp, .ref ik, .ref x0, .ref s0, .ref q0, .ref g0, .ref b0, .ref ora, .ref c0, .ref d0])), (s0, .inr (0, [.ref s1])), (s1, .inl (E.2.1.1, 6, .inl (sn'))), (f0, .inr (2, [.int (nI (nb)), .int (nI ((opGo ((nb, nt, lw), kd, cr, rt, fd, nx) (tw, wt, sk, gr, ch) yr en x).2.2.1)), .ref fk, .ref ft, .ref fw, .ref fs, .ref fg, .ref fc])), (fk, .inl (E.2.1.1, 10, .inl (nA (kd)))), (ft, .inl (E.2.1.1, 10, .inl (nA ((opGo ((nb, nt, lw), kd, cr, rt, fd, nx) (tw, wt, sk, gr, ch) yr en x).2.1.1)))), (fw, .inl (E.2.1.1, 10, .inl (nA ((opGo ((nb, nt, lw), kd, cr, rt, fd, nx) (tw, wt, sk, gr, ch) yr en x).2.1.2.1)))), (fs, .inl (E.2.1.1, 10, .inl (nA ((opGo ((nb, nt, lw), kd, cr, rt, fd, nx) (tw, wt, sk, gr, ch) yr en x).2.1.2.2.1)))), (fg, .inl (E.2.1.1, 10, .inl (nA ((opGo ((nb, nt, lw), kd, cr, rt, fd, nx) (tw, wt, sk, gr, ch) yr en x).2.1.2.2.2.1)))), (fc, .inl (E.2.1.1, 6, .inl ((opGo ((nb, nt, lw), kd, cr, rt, fd, nx) (tw, wt, sk, gr, ch) yr en x).2.1.2.2.2.2))), (l0, .inr (3, [.int (nI (nt)), .int (nI (lw)), .int (nI (sl)), .ref lc, .ref lr, .ref lf, .ref lv, .ref ln, .ref t0])), (lc, .inl (E.2.1.1, 6, .inl (nA (cr)))), (lr, .inl (E.2.1.1, 6, .inl (nA (rt)))), (lf, .inl (E.2.1.1, 6, .inl (nA (fd)))), (ln, .inl (E.2.1.1, 6, .inl (nA (nx)))), (x0, .inr (1, [.int (nI ((opGo ((nb, nt, lw), kd, cr, rt, fd, nx) (tw, wt, sk, gr, ch) yr en x).2.2.2)), .ref xb, .ref xg]))] r w) := by
  refine ct_of (by decide +kernel) (Nat.le_of_ble_eq_true rfl) (lv := [(0, .ref p0), (1, .int (x))]) rfl (fun A => ?_)
  refine g_iload_n (q := 1) dX9_go_0 rfl rfl rfl ?_
  refine g_iconst (v := nI 1) (q := 2) dX9_go_1 rfl ki_1 ?_
  refine g_bipush (v := nI 99) (q := 4) dX9_go_2 rfl kb_99 ?_
  refine gc_X9_187 (c_isNotIn) rfl (Nat.le_of_ble_eq_true rfl) rfl [] rfl rfl (rest := []) rfl (Nat.le_of_ble_eq_true rfl) (q := 7) dX9_go_4 rfl (exK (ws' := [_, _, _, _, _, _, _, _, _, _, _, _, _, _, _, _]) (st' := [.int (bI (ninB x (nI 1) (nI 99)))]) rfl rfl ?_)
  refine g_top (y := bI (rn x 1 99).isNone) (by rw [ninB_rn (by decide) (by decide)]) ?_
  refine g_if_eq (t := 13) (q := 10) dX9_go_7 (by decide) rfl (fun c7 => ?_) (fun c7 => ?_)
  · obtain ⟨n, hn⟩ := isNone_f (bI_eq0.mp c7)
    obtain ⟨hn1, hn2, rfl⟩ := rn_some hn
    refine g_aload_n (q := 14) dX9_go_13 rfl rfl rfl ?_
    refine gf_X9_35 rfl 0 rfl rfl (q := 17) dX9_go_14 rfl ?_
    refine gf_X9_238 rfl 3 rfl rfl (q := 20) dX9_go_17 rfl ?_
    refine g_iload_n (q := 21) dX9_go_20 rfl rfl rfl ?_
    refine g_iaddN (q := 22) dX9_go_21 rfl ?_
    refine g_sipush (v := nI 999) (q := 25) dX9_go_22 rfl ks_999 ?_
    refine g_icmp_leN (t := 31) (q := 28) dX9_go_25 (by decide) rfl (by omega) (by omega) (fun c25 => ?_) (fun c25 => ?_)
    · skip
      refine g_aload_n (q := 32) dX9_go_31 rfl rfl rfl ?_
      refine gf_X9_57 rfl 0 rfl rfl (q := 35) dX9_go_32 rfl ?_
      refine g_iload_n (q := 36) dX9_go_35 rfl rfl rfl ?_
      refine g_aload_n (q := 37) dX9_go_36 rfl rfl rfl ?_
      refine gf_X9_35 rfl 0 rfl rfl (q := 40) dX9_go_37 rfl ?_
      refine g_aload_n (q := 41) dX9_go_40 rfl rfl rfl ?_
      refine gf_X9_19 rfl 0 rfl rfl (q := 44) dX9_go_41 rfl ?_
      refine g_aload_n (q := 45) dX9_go_44 rfl rfl rfl ?_
      refine gf_X9_19 rfl 0 rfl rfl (q := 48) dX9_go_45 rfl ?_
      refine gf_X9_142 rfl 10 rfl rfl (q := 51) dX9_go_48 rfl ?_
      refine gc_X9_241 (c_pass (by omega) hP hY hB) rfl (Nat.le_of_ble_eq_true rfl) rfl 1 rfl [1, 2, 3, 4, 5, 6, 7, 8, 9, 10, 11, 13, 14, 12] rfl rfl (rest := []) rfl (Nat.le_of_ble_eq_true rfl) (q := 54) dX9_go_51 rfl (exK (ws' := [_, (_, .inr (_, [_])), (_, .inl (_, _, .inl _)), (_, .inr (_, [_, _, _, _, _, _, _, _])), (_, .inl (_, _, .inl _)), (_, .inl (_, _, .inl _)), (_, .inl (_, _, .inl _)), (_, .inl (_, _, .inl _)), (_, .inl (_, _, .inl _)), (_, .inl (_, _, .inl _)), (_, .inr (_, [_, _, _, _, _, _, _, _, _])), (_, .inl (_, _, .inl _)), (_, .inl (_, _, .inl _)), (_, .inl (_, _, .inl _)), (_, .inl (_, _, .inl _)), _]) (st' := []) rfl rfl ?_)
      refine g_aload_n (q := 55) dX9_go_54 rfl rfl rfl ?_
      refine gf_X9_50 rfl 0 rfl rfl (q := 58) dX9_go_55 rfl ?_
      refine g_iconst (v := nI 0) (q := 59) dX9_go_58 rfl ki_0 ?_
      refine pf_X9_130 rfl 15 rfl (Nat.le_of_ble_eq_true rfl) (ws' := [_, _, _, _, _, _, _, _, _, _, _, _, _, _, _, (_, .inr (_, [_, _, _]))]) rfl (q := 62) dX9_go_59 rfl ?_
      refine g_aload_n (q := 63) dX9_go_62 rfl rfl rfl ?_
      refine gf_X9_35 rfl 0 rfl rfl (q := 66) dX9_go_63 rfl ?_
      refine gf_X9_238 rfl 3 rfl rfl (q := 69) dX9_go_66 rfl ?_
      refine g_iret (st := []) dX9_go_69 rfl rfl rfl ?_
      refine ⟨(snY ((nb, nt, lw), kd, cr, rt, fd, nx) (tw, wt, sk, gr, ch) sn n), ?_⟩
      simp only [opGo, hn, if_neg (show ¬ 999 < yr + n by omega)]
      exact ⟨rfl, rfl⟩
    · skip
      refine g_bipush (v := (-5)) (q := 30) dX9_go_28 rfl kb_m5 ?_
      refine g_iret (st := []) dX9_go_30 rfl rfl rfl ?_
      refine ⟨(sn), ?_⟩
      simp only [opGo, hn, if_pos (show 999 < yr + n by omega)]
      exact ⟨rfl, rfl⟩
  · have nn := isNone_t (bI_ne0.mp c7)
    refine g_bipush (v := (-3)) (q := 12) dX9_go_10 rfl kb_m3 ?_
    refine g_iret (st := []) dX9_go_12 rfl rfl rfl ?_
    refine ⟨(sn), ?_⟩
    simp only [opGo, nn]
    exact ⟨rfl, rfl⟩
set_option maxHeartbeats 2000000 in
set_option maxRecDepth 20000 in
theorem c_foretell {E : EN} {p0 u0 l0 r0 f0 kp ik x0 s0 q0 g0 b0 ora c0 d0 : Nat} {s1 : Nat} {fk ft fw fs fg fc nb yr : Nat} {lc lr lf lv ln t0 nt lw sl : Nat} {kd tw wt sk gr : Nat → Nat} {ch : Nat → Int32} {cr rt fd nx : Nat → Nat} {gk gt gw gs gg gc an ay : Nat} {akd : Nat → Nat} {aS : YS} {sn : Nat → Int32} {n : Nat} (hn : n < 1000) (hP : okL ((nb, nt, lw), kd, cr, rt, fd, nx)) (hY : okY (tw, wt, sk, gr, ch)) (hB : okB nb nt (tw, wt, sk, gr, ch))  : CT E yX9_foretell cX9_foretell 2 (none) 5 [.ref p0, .int (nI (n))] [(p0, .inr (9, [.ref u0, .ref l0, .ref r0, .ref f0, .ref kp, .ref ik, .ref x0, .ref s0, .ref q0, .ref g0, .ref b0, .ref ora, .ref c0, .ref d0])), (s0, .inr (0, [.ref s1])), (s1, .inl (E.2.1.1, 6, .inl (sn))), (f0, .inr (2, [.int (nI (nb)), .int (nI (yr)), .ref fk, .ref ft, .ref fw, .ref fs, .ref fg, .ref fc])), (fk, .inl (E.2.1.1, 10, .inl (nA (kd)))), (ft, .inl (E.2.1.1, 10, .inl (nA (tw)))), (fw, .inl (E.2.1.1, 10, .inl (nA (wt)))), (fs, .inl (E.2.1.1, 10, .inl (nA (sk)))), (fg, .inl (E.2.1.1, 10, .inl (nA (gr)))), (fc, .inl (E.2.1.1, 6, .inl (ch))), (g0, .inr (2, [.int (nI (an)), .int (nI (ay)), .ref gk, .ref gt, .ref gw, .ref gs, .ref gg, .ref gc])), (gk, .inl (E.2.1.1, 10, .inl (nA (akd)))), (gt, .inl (E.2.1.1, 10, .inl (nA (aS.1)))), (gw, .inl (E.2.1.1, 10, .inl (nA (aS.2.1)))), (gs, .inl (E.2.1.1, 10, .inl (nA (aS.2.2.1)))), (gg, .inl (E.2.1.1, 10, .inl (nA (aS.2.2.2.1)))), (gc, .inl (E.2.1.1, 6, .inl (aS.2.2.2.2))), (l0, .inr (3, [.int (nI (nt)), .int (nI (lw)), .int (nI (sl)), .ref lc, .ref lr, .ref lf, .ref lv, .ref ln, .ref t0])), (lc, .inl (E.2.1.1, 6, .inl (nA (cr)))), (lr, .inl (E.2.1.1, 6, .inl (nA (rt)))), (lf, .inl (E.2.1.1, 6, .inl (nA (fd)))), (ln, .inl (E.2.1.1, 6, .inl (nA (nx))))] (xQ none [(p0, .inr (9, [.ref u0, .ref l0, .ref r0, .ref f0, .ref kp, .ref ik, .ref x0, .ref s0, .ref q0, .ref g0, .ref b0, .ref ora, .ref c0, .ref d0])), (s0, .inr (0, [.ref s1])), (s1, .inl (E.2.1.1, 6, .inl (snY ((nb, nt, lw), kd, cr, rt, fd, nx) (tw, wt, sk, gr, ch) sn n))), (f0, .inr (2, [.int (nI (nb)), .int (nI (yr)), .ref fk, .ref ft, .ref fw, .ref fs, .ref fg, .ref fc])), (fk, .inl (E.2.1.1, 10, .inl (nA (kd)))), (ft, .inl (E.2.1.1, 10, .inl (nA (tw)))), (fw, .inl (E.2.1.1, 10, .inl (nA (wt)))), (fs, .inl (E.2.1.1, 10, .inl (nA (sk)))), (fg, .inl (E.2.1.1, 10, .inl (nA (gr)))), (fc, .inl (E.2.1.1, 6, .inl (ch))), (g0, .inr (2, [.int (nI (nb)), .int (nI (yr + n)), .ref gk, .ref gt, .ref gw, .ref gs, .ref gg, .ref gc])), (gk, .inl (E.2.1.1, 10, .inl (nA (kd)))), (gt, .inl (E.2.1.1, 10, .inl (nA ((years ((nb, nt, lw), kd, cr, rt, fd, nx) n (tw, wt, sk, gr, ch)).1)))), (gw, .inl (E.2.1.1, 10, .inl (nA ((years ((nb, nt, lw), kd, cr, rt, fd, nx) n (tw, wt, sk, gr, ch)).2.1)))), (gs, .inl (E.2.1.1, 10, .inl (nA ((years ((nb, nt, lw), kd, cr, rt, fd, nx) n (tw, wt, sk, gr, ch)).2.2.1)))), (gg, .inl (E.2.1.1, 10, .inl (nA ((years ((nb, nt, lw), kd, cr, rt, fd, nx) n (tw, wt, sk, gr, ch)).2.2.2.1)))), (gc, .inl (E.2.1.1, 6, .inl ((years ((nb, nt, lw), kd, cr, rt, fd, nx) n (tw, wt, sk, gr, ch)).2.2.2.2))), (l0, .inr (3, [.int (nI (nt)), .int (nI (lw)), .int (nI (sl)), .ref lc, .ref lr, .ref lf, .ref lv, .ref ln, .ref t0])), (lc, .inl (E.2.1.1, 6, .inl (nA (cr)))), (lr, .inl (E.2.1.1, 6, .inl (nA (rt)))), (lf, .inl (E.2.1.1, 6, .inl (nA (fd)))), (ln, .inl (E.2.1.1, 6, .inl (nA (nx))))]) := by
  refine ct_of (by decide +kernel) (Nat.le_of_ble_eq_true rfl) (lv := [(0, .ref p0), (1, .int (nI (n)))]) rfl (fun A => ?_)
  refine g_aload_n (q := 1) dX9_foretell_0 rfl rfl rfl ?_
  refine gf_X9_70 rfl 0 rfl rfl (q := 4) dX9_foretell_1 rfl ?_
  refine g_aload_n (q := 5) dX9_foretell_4 rfl rfl rfl ?_
  refine gf_X9_35 rfl 0 rfl rfl (q := 8) dX9_foretell_5 rfl ?_
  refine gc_X9_127 (c_become) rfl (Nat.le_of_ble_eq_true rfl) rfl 10 rfl [10, 11, 12, 13, 14, 15, 16, 3, 4, 5, 6, 7, 8, 9] rfl rfl (rest := []) rfl (Nat.le_of_ble_eq_true rfl) (q := 11) dX9_foretell_8 rfl (exK (ws' := [_, _, _, (_, .inr (_, [_, _, _, _, _, _, _, _])), (_, .inl (_, _, .inl _)), (_, .inl (_, _, .inl _)), (_, .inl (_, _, .inl _)), (_, .inl (_, _, .inl _)), (_, .inl (_, _, .inl _)), (_, .inl (_, _, .inl _)), (_, .inr (_, [_, _, _, _, _, _, _, _])), (_, .inl (_, _, .inl _)), (_, .inl (_, _, .inl _)), (_, .inl (_, _, .inl _)), (_, .inl (_, _, .inl _)), (_, .inl (_, _, .inl _)), (_, .inl (_, _, .inl _)), _, _, _, _, _]) (st' := []) rfl rfl ?_)
  refine g_aload_n (q := 12) dX9_foretell_11 rfl rfl rfl ?_
  refine gf_X9_57 rfl 0 rfl rfl (q := 15) dX9_foretell_12 rfl ?_
  refine g_iload_n (q := 16) dX9_foretell_15 rfl rfl rfl ?_
  refine g_aload_n (q := 17) dX9_foretell_16 rfl rfl rfl ?_
  refine gf_X9_70 rfl 0 rfl rfl (q := 20) dX9_foretell_17 rfl ?_
  refine g_aload_n (q := 21) dX9_foretell_20 rfl rfl rfl ?_
  refine gf_X9_19 rfl 0 rfl rfl (q := 24) dX9_foretell_21 rfl ?_
  refine g_aload_n (q := 25) dX9_foretell_24 rfl rfl rfl ?_
  refine gf_X9_19 rfl 0 rfl rfl (q := 28) dX9_foretell_25 rfl ?_
  refine gf_X9_142 rfl 17 rfl rfl (q := 31) dX9_foretell_28 rfl ?_
  refine gc_X9_241 (c_pass hn hP hY hB) rfl (Nat.le_of_ble_eq_true rfl) rfl 1 rfl [1, 2, 10, 11, 12, 13, 14, 15, 16, 17, 18, 20, 21, 19] rfl rfl (rest := []) rfl (Nat.le_of_ble_eq_true rfl) (q := 34) dX9_foretell_31 rfl (exK (ws' := [_, (_, .inr (_, [_])), (_, .inl (_, _, .inl _)), _, _, _, _, _, _, _, (_, .inr (_, [_, _, _, _, _, _, _, _])), (_, .inl (_, _, .inl _)), (_, .inl (_, _, .inl _)), (_, .inl (_, _, .inl _)), (_, .inl (_, _, .inl _)), (_, .inl (_, _, .inl _)), (_, .inl (_, _, .inl _)), (_, .inr (_, [_, _, _, _, _, _, _, _, _])), (_, .inl (_, _, .inl _)), (_, .inl (_, _, .inl _)), (_, .inl (_, _, .inl _)), (_, .inl (_, _, .inl _))]) (st' := []) rfl rfl ?_)
  refine g_vret (st := []) dX9_foretell_34 rfl rfl ?_
  exact xv
