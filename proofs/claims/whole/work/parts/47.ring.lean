set_option maxHeartbeats 2000000 in
set_option maxRecDepth 20000 in
theorem c_isWanted {E : EN} {q0 qb qr qw bs bc : Nat} {f0 fk ft fw fs fg fc nb : Nat} {yr : Int32} {l0 lc lr lf lv ln t0 nt lw sl : Nat} {sk : Nat → Nat} {wn : Nat → Int32} {b t : Nat} (hb : b < 10) (ht : t < 6)  : CT E yX5_isWanted cX5_isWanted 3 (some .boolean) 0 [.ref q0, .int (nI (b)), .int (nI (t))] [(q0, .inr (5, [.int (nI (bs)), .int (nI (bc)), .ref qb, .ref qr, .ref qw, .ref f0, .ref l0])), (f0, .inr (2, [.int (nI (nb)), .int (yr), .ref fk, .ref ft, .ref fw, .ref fs, .ref fg, .ref fc])), (fs, .inl (E.2.1.1, 10, .inl (nA (sk)))), (l0, .inr (3, [.int (nI (nt)), .int (nI (lw)), .int (nI (sl)), .ref lc, .ref lr, .ref lf, .ref lv, .ref ln, .ref t0])), (lv, .inl (E.2.1.1, 6, .inl (wn)))] (xQ (some (.int (bI (wanB sk wn b t)))) [(q0, .inr (5, [.int (nI (bs)), .int (nI (bc)), .ref qb, .ref qr, .ref qw, .ref f0, .ref l0])), (f0, .inr (2, [.int (nI (nb)), .int (yr), .ref fk, .ref ft, .ref fw, .ref fs, .ref fg, .ref fc])), (fs, .inl (E.2.1.1, 10, .inl (nA (sk)))), (l0, .inr (3, [.int (nI (nt)), .int (nI (lw)), .int (nI (sl)), .ref lc, .ref lr, .ref lf, .ref lv, .ref ln, .ref t0])), (lv, .inl (E.2.1.1, 6, .inl (wn)))]) := by
  refine ct_of (by decide +kernel) (Nat.le_of_ble_eq_true rfl) (lv := [(0, .ref q0), (1, .int (nI (b))), (2, .int (nI (t)))]) rfl (fun A => ?_)
  refine g_aload_n (q := 1) dX5_isWanted_0 rfl rfl rfl ?_
  refine gf_X5_21 rfl 0 rfl rfl (q := 4) dX5_isWanted_1 rfl ?_
  refine gf_X5_68 rfl 1 rfl rfl (q := 7) dX5_isWanted_4 rfl ?_
  refine g_iload_n (q := 8) dX5_isWanted_7 rfl rfl rfl ?_
  refine g_iald (v := nI (sk b)) 2 rfl (ixIn (j := b) rfl (by omega) (by decide)) (ixV (j := b) rfl (by omega)) (q := 9) dX5_isWanted_8 rfl ?_
  refine g_aload_n (q := 10) dX5_isWanted_9 rfl rfl rfl ?_
  refine gf_X5_25 rfl 0 rfl rfl (q := 13) dX5_isWanted_10 rfl ?_
  refine gf_X5_71 rfl 3 rfl rfl (q := 16) dX5_isWanted_13 rfl ?_
  refine g_iload_n (q := 17) dX5_isWanted_16 rfl rfl rfl ?_
  refine g_iald (v := wn t) 4 rfl (ixIn (j := t) rfl (by omega) (by decide)) (ixV (j := t) rfl (by omega)) (q := 18) dX5_isWanted_17 rfl ?_
  refine g_icmp_ne (t := 25) (q := 21) dX5_isWanted_18 (by decide) rfl (fun c18 => ?_) (fun c18 => ?_)
  · skip
    refine g_iconst (v := nI 0) (q := 26) dX5_isWanted_25 rfl ki_0 ?_
    refine g_iret (st := []) dX5_isWanted_26 rfl (narZ (by first | exact Or.inl rfl | exact Or.inr rfl)) rfl ?_
    exact xr (show nI (0) = bI (wanB sk wn b t) by exact bI_f c18)
  · skip
    refine g_iconst (v := nI 1) (q := 22) dX5_isWanted_21 rfl ki_1 ?_
    refine g_goto (q := 26) dX5_isWanted_22 (by decide) ?_
    refine g_iret (st := []) dX5_isWanted_26 rfl (narZ (by first | exact Or.inl rfl | exact Or.inr rfl)) rfl ?_
    exact xr (show nI (1) = bI (wanB sk wn b t) by exact bI_t c18)
set_option maxHeartbeats 2000000 in
set_option maxRecDepth 20000 in
theorem c_owedFor {E : EN} {q0 qb qr qw bs bc : Nat} {f0 l0 : Nat} {wo : Nat → Nat} {a b : Nat} (ha : a < 10) (hb : b < 10) (hwa : wo a < 1000) (hwb : wo b < 1000)  : CT E yX5_owedFor cX5_owedFor 3 (some .int) 1 [.ref q0, .int (nI (a)), .int (nI (b))] [(q0, .inr (5, [.int (nI (bs)), .int (nI (bc)), .ref qb, .ref qr, .ref qw, .ref f0, .ref l0])), (qw, .inl (E.2.1.1, 10, .inl (nA (wo))))] (xQ (some (.int (nI (owe wo a b)))) [(q0, .inr (5, [.int (nI (bs)), .int (nI (bc)), .ref qb, .ref qr, .ref qw, .ref f0, .ref l0])), (qw, .inl (E.2.1.1, 10, .inl (nA (wo))))]) := by
  refine ct_of (by decide +kernel) (Nat.le_of_ble_eq_true rfl) (lv := [(0, .ref q0), (1, .int (nI (a))), (2, .int (nI (b)))]) rfl (fun A => ?_)
  refine g_iconst (v := nI 0) (q := 1) dX5_owedFor_0 rfl ki_0 ?_
  refine g_aload_n (q := 2) dX5_owedFor_1 rfl rfl rfl ?_
  refine gf_X5_18 rfl 0 rfl rfl (q := 5) dX5_owedFor_2 rfl ?_
  refine g_iload_n (q := 6) dX5_owedFor_5 rfl rfl rfl ?_
  refine g_iald (v := nI (wo a)) 1 rfl (ixIn (j := a) rfl (by omega) (by decide)) (ixV (j := a) rfl (by omega)) (q := 7) dX5_owedFor_6 rfl ?_
  refine g_aload_n (q := 8) dX5_owedFor_7 rfl rfl rfl ?_
  refine gf_X5_18 rfl 0 rfl rfl (q := 11) dX5_owedFor_8 rfl ?_
  refine g_iload_n (q := 12) dX5_owedFor_11 rfl rfl rfl ?_
  refine g_iald (v := nI (wo b)) 1 rfl (ixIn (j := b) rfl (by omega) (by decide)) (ixV (j := b) rfl (by omega)) (q := 13) dX5_owedFor_12 rfl ?_
  refine g_isub (q := 14) dX5_owedFor_13 rfl ?_
  refine g_mmax rfl ml_X5_74 mt_mmax mi_J9 mc_mmax (Nat.le_of_ble_eq_true rfl) (Nat.le_of_ble_eq_true rfl) (q := 17) dX5_owedFor_14 rfl ?_
  refine g_iret (st := []) dX5_owedFor_17 rfl rfl rfl ?_
  exact (xr (max0s hwa hwb))
set_option maxHeartbeats 2000000 in
set_option maxRecDepth 20000 in
theorem c_takeIfBetter {E : EN} {q0 qb qr qw bs bc : Nat} {f0 l0 : Nat} {r be : Nat → Nat} {size ch : Nat} (hs : size ≤ 6) (hch : ch ≤ 7000) (hbs : bs ≤ 6) (hbc : bc ≤ 7000)  : CT E yX5_takeIfBetter cX5_takeIfBetter 3 (none) 1 [.ref q0, .int (nI (size)), .int (nI (ch))] [(q0, .inr (5, [.int (nI (bs)), .int (nI (bc)), .ref qb, .ref qr, .ref qw, .ref f0, .ref l0])), (qb, .inl (E.2.1.1, 6, .inl (nA (be)))), (qr, .inl (E.2.1.1, 6, .inl (nA (r))))] (xQ none [(q0, .inr (5, [.int (nI ((takeB size ch r (bs, bc, be)).1)), .int (nI ((takeB size ch r (bs, bc, be)).2.1)), .ref qb, .ref qr, .ref qw, .ref f0, .ref l0])), (qb, .inl (E.2.1.1, 6, .inl (nA ((takeB size ch r (bs, bc, be)).2.2)))), (qr, .inl (E.2.1.1, 6, .inl (nA (r))))]) := by
  refine ct_of (by decide +kernel) (Nat.le_of_ble_eq_true rfl) (lv := [(0, .ref q0), (1, .int (nI (size))), (2, .int (nI (ch)))]) rfl (fun A => ?_)
  refine g_aload_n (q := 1) dX5_takeIfBetter_0 rfl rfl rfl ?_
  refine gf_X5_29 rfl 0 rfl rfl (q := 4) dX5_takeIfBetter_1 rfl ?_
  refine g_if_eqN (t := 15) (q := 7) dX5_takeIfBetter_4 (by decide) rfl (by omega) (fun c4 => ?_) (fun c4 => ?_)
  · skip
    refine g_aload_n (q := 16) dX5_takeIfBetter_15 rfl rfl rfl ?_
    refine g_iload_n (q := 17) dX5_takeIfBetter_16 rfl rfl rfl ?_
    refine pf_X5_29 rfl 0 rfl (Nat.le_of_ble_eq_true rfl) (ws' := [(_, .inr (_, [_, _, _, _, _, _, _])), _, _]) rfl (q := 20) dX5_takeIfBetter_17 rfl ?_
    refine g_aload_n (q := 21) dX5_takeIfBetter_20 rfl rfl rfl ?_
    refine g_iload_n (q := 22) dX5_takeIfBetter_21 rfl rfl rfl ?_
    refine pf_X5_33 rfl 0 rfl (Nat.le_of_ble_eq_true rfl) (ws' := [(_, .inr (_, [_, _, _, _, _, _, _])), _, _]) rfl (q := 25) dX5_takeIfBetter_22 rfl ?_
    refine g_aload_n (q := 26) dX5_takeIfBetter_25 rfl rfl rfl ?_
    refine gf_X5_15 rfl 0 rfl rfl (q := 29) dX5_takeIfBetter_26 rfl ?_
    refine g_iconst (v := nI 0) (q := 30) dX5_takeIfBetter_29 rfl ki_0 ?_
    refine g_aload_n (q := 31) dX5_takeIfBetter_30 rfl rfl rfl ?_
    refine gf_X5_9 rfl 0 rfl rfl (q := 34) dX5_takeIfBetter_31 rfl ?_
    refine g_iconst (v := nI 0) (q := 35) dX5_takeIfBetter_34 rfl ki_0 ?_
    refine g_iload_n (q := 36) dX5_takeIfBetter_35 rfl rfl rfl ?_
    refine g_copyP rfl ml_X5_79 2 1 rfl rfl (by decide) (by omega) (Nat.le_of_ble_eq_true rfl) (Nat.le_of_ble_eq_true rfl) (ws' := [_, (_, .inl (_, _, .inl _)), _]) rfl (q := 39) dX5_takeIfBetter_36 rfl ?_
    refine g_vret (st := []) dX5_takeIfBetter_39 rfl rfl ?_
    exact xv (by rw [show takeB size ch r (bs, bc, be) = (size, ch, mpN r be size) from if_pos (Or.inl c4)])
  · skip
    refine g_iload_n (q := 8) dX5_takeIfBetter_7 rfl rfl rfl ?_
    refine g_aload_n (q := 9) dX5_takeIfBetter_8 rfl rfl rfl ?_
    refine gf_X5_33 rfl 0 rfl rfl (q := 12) dX5_takeIfBetter_9 rfl ?_
    refine g_icmp_geN (t := 39) (q := 15) dX5_takeIfBetter_12 (by decide) rfl (by omega) (by omega) (fun c12 => ?_) (fun c12 => ?_)
    · skip
      refine g_vret (st := []) dX5_takeIfBetter_39 rfl rfl ?_
      exact xv (by rw [show takeB size ch r (bs, bc, be) = (bs, bc, be) from if_neg (show ¬ (bs = 0 ∨ ch < bc) by omega)])
    · skip
      refine g_aload_n (q := 16) dX5_takeIfBetter_15 rfl rfl rfl ?_
      refine g_iload_n (q := 17) dX5_takeIfBetter_16 rfl rfl rfl ?_
      refine pf_X5_29 rfl 0 rfl (Nat.le_of_ble_eq_true rfl) (ws' := [(_, .inr (_, [_, _, _, _, _, _, _])), _, _]) rfl (q := 20) dX5_takeIfBetter_17 rfl ?_
      refine g_aload_n (q := 21) dX5_takeIfBetter_20 rfl rfl rfl ?_
      refine g_iload_n (q := 22) dX5_takeIfBetter_21 rfl rfl rfl ?_
      refine pf_X5_33 rfl 0 rfl (Nat.le_of_ble_eq_true rfl) (ws' := [(_, .inr (_, [_, _, _, _, _, _, _])), _, _]) rfl (q := 25) dX5_takeIfBetter_22 rfl ?_
      refine g_aload_n (q := 26) dX5_takeIfBetter_25 rfl rfl rfl ?_
      refine gf_X5_15 rfl 0 rfl rfl (q := 29) dX5_takeIfBetter_26 rfl ?_
      refine g_iconst (v := nI 0) (q := 30) dX5_takeIfBetter_29 rfl ki_0 ?_
      refine g_aload_n (q := 31) dX5_takeIfBetter_30 rfl rfl rfl ?_
      refine gf_X5_9 rfl 0 rfl rfl (q := 34) dX5_takeIfBetter_31 rfl ?_
      refine g_iconst (v := nI 0) (q := 35) dX5_takeIfBetter_34 rfl ki_0 ?_
      refine g_iload_n (q := 36) dX5_takeIfBetter_35 rfl rfl rfl ?_
      refine g_copyP rfl ml_X5_79 2 1 rfl rfl (by decide) (by omega) (Nat.le_of_ble_eq_true rfl) (Nat.le_of_ble_eq_true rfl) (ws' := [_, (_, .inl (_, _, .inl _)), _]) rfl (q := 39) dX5_takeIfBetter_36 rfl ?_
      refine g_vret (st := []) dX5_takeIfBetter_39 rfl rfl ?_
      exact xv (by rw [show takeB size ch r (bs, bc, be) = (size, ch, mpN r be size) from if_pos (show bs = 0 ∨ ch < bc by omega)])
set_option maxHeartbeats 2000000 in
set_option maxRecDepth 20000 in
theorem c_extend0 {E : EN} {q0 qb qr qw : Nat} {f0 fk ft fw fs fg fc nb : Nat} {yr : Int32} {l0 lc lr lf lv ln t0 nt lw sl : Nat} {tw sk wo : Nat → Nat} {wn : Nat → Int32} {size bs bc ch : Nat} {r be : Nat → Nat} (hs : size + 0 = 6) (h0 : 1 ≤ size) (hr : ∀ k, k < size → r k < nb) (hch : ch ≤ 1000 * (size - 1)) (hB : okBt (bs, bc, be)) (hnb : nb ≤ 10) (hwo : ∀ j, j < nb → wo j < 1000) (htw : ∀ j, j < 10 → tw j < 6)  : CT E yX5_extend cX5_extend 7 (none) 3 [.ref q0, .int (nI (size)), .int (bitsI (usdB tw r size) 6), .int (nI (ch))] [(q0, .inr (5, [.int (nI (bs)), .int (nI (bc)), .ref qb, .ref qr, .ref qw, .ref f0, .ref l0])), (qb, .inl (E.2.1.1, 6, .inl (nA (be)))), (qr, .inl (E.2.1.1, 6, .inl (nA (r)))), (qw, .inl (E.2.1.1, 10, .inl (nA (wo)))), (f0, .inr (2, [.int (nI (nb)), .int (yr), .ref fk, .ref ft, .ref fw, .ref fs, .ref fg, .ref fc])), (ft, .inl (E.2.1.1, 10, .inl (nA (tw)))), (fs, .inl (E.2.1.1, 10, .inl (nA (sk)))), (l0, .inr (3, [.int (nI (nt)), .int (nI (lw)), .int (nI (sl)), .ref lc, .ref lr, .ref lf, .ref lv, .ref ln, .ref t0])), (lv, .inl (E.2.1.1, 6, .inl (wn)))] (fun r1 w => ∃ (q' : Nat → Nat), agr q' r size ∧ xQ none [(q0, .inr (5, [.int (nI ((extC nb tw sk wn wo 0 size r ch (bs, bc, be)).1)), .int (nI ((extC nb tw sk wn wo 0 size r ch (bs, bc, be)).2.1)), .ref qb, .ref qr, .ref qw, .ref f0, .ref l0])), (qb, .inl (E.2.1.1, 6, .inl (nA ((extC nb tw sk wn wo 0 size r ch (bs, bc, be)).2.2)))), (qr, .inl (E.2.1.1, 6, .inl (nA (q')))), (qw, .inl (E.2.1.1, 10, .inl (nA (wo)))), (f0, .inr (2, [.int (nI (nb)), .int (yr), .ref fk, .ref ft, .ref fw, .ref fs, .ref fg, .ref fc])), (ft, .inl (E.2.1.1, 10, .inl (nA (tw)))), (fs, .inl (E.2.1.1, 10, .inl (nA (sk)))), (l0, .inr (3, [.int (nI (nt)), .int (nI (lw)), .int (nI (sl)), .ref lc, .ref lr, .ref lf, .ref lv, .ref ln, .ref t0])), (lv, .inl (E.2.1.1, 6, .inl (wn)))] r1 w) := by
  refine ct_of (by decide +kernel) (Nat.le_of_ble_eq_true rfl) (lv := [(0, .ref q0), (1, .int (nI (size))), (2, .int (bitsI (usdB tw r size) 6)), (3, .int (nI (ch)))]) rfl (fun A => ?_)
  have hB1 := hB.1
  have hB2 := hB.2
  simp only at hB1 hB2
  refine g_aload_n (q := 1) dX5_extend_0 rfl rfl rfl ?_
  refine gf_X5_29 rfl 0 rfl rfl (q := 4) dX5_extend_1 rfl ?_
  refine g_if_le (t := 16) (q := 7) dX5_extend_4 (by decide) rfl (fun c4 => ?_) (fun c4 => ?_)
  · have d4 := (nI_le0 (by have := hB.1; omega)).mp c4
    refine g_aload_n (q := 17) dX5_extend_16 rfl rfl rfl ?_
    refine gf_X5_15 rfl 0 rfl rfl (q := 20) dX5_extend_17 rfl ?_
    refine g_iload_n (q := 21) dX5_extend_20 rfl rfl rfl ?_
    refine g_iconst (v := nI 1) (q := 22) dX5_extend_21 rfl ki_1 ?_
    refine g_isubN (q := 23) dX5_extend_22 rfl (by omega) ?_
    have hb1 := hr (size - 1) (by omega)
    refine g_iald (v := nI (r (size - 1))) 2 rfl (ixIn (j := size - 1) rfl (by omega) (by decide)) (ixV (j := size - 1) rfl (by omega)) (q := 24) dX5_extend_23 rfl ?_
    refine g_istore (lv' := [(0, _), (1, _), (2, _), (3, _), (4, _)]) (q := 26) dX5_extend_24 rfl (Nat.le_of_ble_eq_true rfl) rfl ?_
    refine g_iload_n (q := 27) dX5_extend_26 rfl rfl rfl ?_
    refine g_iconst (v := nI 1) (q := 28) dX5_extend_27 rfl ki_1 ?_
    refine g_icmp_leN (t := 73) (q := 31) dX5_extend_28 (by decide) rfl (by omega) (by omega) (fun c28 => ?_) (fun c28 => ?_)
    · skip
      refine g_eq (ws' := [(q0, .inr (5, [.int (nI ((nodeB tw sk wn wo size r ch (bs, bc, be)).1)), .int (nI ((nodeB tw sk wn wo size r ch (bs, bc, be)).2.1)), .ref qb, .ref qr, .ref qw, .ref f0, .ref l0])), (qb, .inl (E.2.1.1, 6, .inl (nA ((nodeB tw sk wn wo size r ch (bs, bc, be)).2.2)))), (qr, .inl (E.2.1.1, 6, .inl (nA (r)))), (qw, .inl (E.2.1.1, 10, .inl (nA (wo)))), (f0, .inr (2, [.int (nI (nb)), .int (yr), .ref fk, .ref ft, .ref fw, .ref fs, .ref fg, .ref fc])), (ft, .inl (E.2.1.1, 10, .inl (nA (tw)))), (fs, .inl (E.2.1.1, 10, .inl (nA (sk)))), (l0, .inr (3, [.int (nI (nt)), .int (nI (lw)), .int (nI (sl)), .ref lc, .ref lr, .ref lf, .ref lv, .ref ln, .ref t0])), (lv, .inl (E.2.1.1, 6, .inl (wn)))]) ?_ (by rw [show nodeB tw sk wn wo size r ch (bs, bc, be) = (bs, bc, be) from if_neg (by simp [clsB]; omega)]) rfl rfl
      have hN : okBt (nodeB tw sk wn wo size r ch (bs, bc, be)) := nodeB_ok hwo (by omega) h0 hr hch hB
      refine g_iload_n (q := 74) dX5_extend_73 rfl rfl rfl ?_
      refine g_bipush (v := nI 6) (q := 76) dX5_extend_74 rfl kb_6 ?_
      refine g_icmp_ltN (t := 80) (q := 79) dX5_extend_76 (by decide) rfl (by omega) (by omega) (fun c76 => ?_) (fun c76 => ?_)
      · omega
      · skip
        refine g_vret (st := []) dX5_extend_79 rfl rfl ?_
        exact ⟨r, fun k hk => rfl, xv (by rw [extC, if_neg (show ¬ (0 < bs ∧ bc ≤ ch) by omega)])⟩
    · skip
      refine g_aload_n (q := 32) dX5_extend_31 rfl rfl rfl ?_
      refine g_iload (q := 34) dX5_extend_32 rfl rfl ?_
      refine g_aload_n (q := 35) dX5_extend_34 rfl rfl rfl ?_
      refine gf_X5_21 rfl 0 rfl rfl (q := 38) dX5_extend_35 rfl ?_
      refine gf_X5_49 rfl 4 rfl rfl (q := 41) dX5_extend_38 rfl ?_
      refine g_aload_n (q := 42) dX5_extend_41 rfl rfl rfl ?_
      refine gf_X5_15 rfl 0 rfl rfl (q := 45) dX5_extend_42 rfl ?_
      refine g_iconst (v := nI 0) (q := 46) dX5_extend_45 rfl ki_0 ?_
      have hb2 := hr (0) (by omega)
      refine g_iald (v := nI (r 0)) 2 rfl (ixIn (j := 0) rfl (by omega) (by decide)) (ixV (j := 0) rfl (by omega)) (q := 47) dX5_extend_46 rfl ?_
      have hb3 := htw (r 0) (by omega)
      refine g_iald (v := nI (tw (r 0))) 5 rfl (ixIn (j := r 0) rfl (by omega) (by decide)) (ixV (j := r 0) rfl (by omega)) (q := 48) dX5_extend_47 rfl ?_
      refine gc_X5_56 (c_isWanted (by omega) (by omega)) rfl (Nat.le_of_ble_eq_true rfl) rfl 0 rfl [0, 4, 6, 7, 8] rfl rfl (rest := []) rfl (Nat.le_of_ble_eq_true rfl) (q := 51) dX5_extend_48 rfl (exK (ws' := [_, _, _, _, _, _, _, _, _]) (st' := [.int (bI (wanB sk wn (r (size - 1)) (tw (r 0))))]) rfl rfl ?_)
      refine g_if_eq (t := 73) (q := 54) dX5_extend_51 (by decide) rfl (fun c51 => ?_) (fun c51 => ?_)
      · skip
        refine g_eq (ws' := [(q0, .inr (5, [.int (nI ((nodeB tw sk wn wo size r ch (bs, bc, be)).1)), .int (nI ((nodeB tw sk wn wo size r ch (bs, bc, be)).2.1)), .ref qb, .ref qr, .ref qw, .ref f0, .ref l0])), (qb, .inl (E.2.1.1, 6, .inl (nA ((nodeB tw sk wn wo size r ch (bs, bc, be)).2.2)))), (qr, .inl (E.2.1.1, 6, .inl (nA (r)))), (qw, .inl (E.2.1.1, 10, .inl (nA (wo)))), (f0, .inr (2, [.int (nI (nb)), .int (yr), .ref fk, .ref ft, .ref fw, .ref fs, .ref fg, .ref fc])), (ft, .inl (E.2.1.1, 10, .inl (nA (tw)))), (fs, .inl (E.2.1.1, 10, .inl (nA (sk)))), (l0, .inr (3, [.int (nI (nt)), .int (nI (lw)), .int (nI (sl)), .ref lc, .ref lr, .ref lf, .ref lv, .ref ln, .ref t0])), (lv, .inl (E.2.1.1, 6, .inl (wn)))]) ?_ (by rw [show nodeB tw sk wn wo size r ch (bs, bc, be) = (bs, bc, be) from if_neg (by simp [clsB, bI_eq0.mp c51])]) rfl rfl
        have hN : okBt (nodeB tw sk wn wo size r ch (bs, bc, be)) := nodeB_ok hwo (by omega) h0 hr hch hB
        refine g_iload_n (q := 74) dX5_extend_73 rfl rfl rfl ?_
        refine g_bipush (v := nI 6) (q := 76) dX5_extend_74 rfl kb_6 ?_
        refine g_icmp_ltN (t := 80) (q := 79) dX5_extend_76 (by decide) rfl (by omega) (by omega) (fun c76 => ?_) (fun c76 => ?_)
        · omega
        · skip
          refine g_vret (st := []) dX5_extend_79 rfl rfl ?_
          exact ⟨r, fun k hk => rfl, xv (by rw [extC, if_neg (show ¬ (0 < bs ∧ bc ≤ ch) by omega)])⟩
      · skip
        refine g_aload_n (q := 55) dX5_extend_54 rfl rfl rfl ?_
        refine g_iload_n (q := 56) dX5_extend_55 rfl rfl rfl ?_
        refine g_iload_n (q := 57) dX5_extend_56 rfl rfl rfl ?_
        refine g_aload_n (q := 58) dX5_extend_57 rfl rfl rfl ?_
        refine g_iload (q := 60) dX5_extend_58 rfl rfl ?_
        refine g_aload_n (q := 61) dX5_extend_60 rfl rfl rfl ?_
        refine gf_X5_15 rfl 0 rfl rfl (q := 64) dX5_extend_61 rfl ?_
        refine g_iconst (v := nI 0) (q := 65) dX5_extend_64 rfl ki_0 ?_
        have hb4 := hr (0) (by omega)
        refine g_iald (v := nI (r 0)) 2 rfl (ixIn (j := 0) rfl (by omega) (by decide)) (ixV (j := 0) rfl (by omega)) (q := 66) dX5_extend_65 rfl ?_
        refine gc_X5_60 (c_owedFor (by omega) (by omega) (hwo _ (by omega)) (hwo _ (by omega))) rfl (Nat.le_of_ble_eq_true rfl) rfl 0 rfl [0, 3] rfl rfl (rest := [_, _, _]) rfl (Nat.le_of_ble_eq_true rfl) (q := 69) dX5_extend_66 rfl (exK (ws' := [_, _, _, _, _, _, _, _, _]) (st' := [.int (nI (owe wo (r (size - 1)) (r 0))), _, _, _]) rfl rfl ?_)
        refine g_iaddN (q := 70) dX5_extend_69 rfl ?_
        have ho := owe_le hwo (b := r 0) (hr (size - 1) (by omega))
        refine gc_X5_64 (c_takeIfBetter (by omega) (by omega) hB.1 hB.2) rfl (Nat.le_of_ble_eq_true rfl) rfl 0 rfl [0, 1, 2] rfl rfl (rest := []) rfl (Nat.le_of_ble_eq_true rfl) (q := 73) dX5_extend_70 rfl (exK (ws' := [(_, .inr (_, [_, _, _, _, _, _, _])), (_, .inl (_, _, .inl _)), (_, .inl (_, _, .inl _)), _, _, _, _, _, _]) (st' := []) rfl rfl ?_)
        refine g_eq (ws' := [(q0, .inr (5, [.int (nI ((nodeB tw sk wn wo size r ch (bs, bc, be)).1)), .int (nI ((nodeB tw sk wn wo size r ch (bs, bc, be)).2.1)), .ref qb, .ref qr, .ref qw, .ref f0, .ref l0])), (qb, .inl (E.2.1.1, 6, .inl (nA ((nodeB tw sk wn wo size r ch (bs, bc, be)).2.2)))), (qr, .inl (E.2.1.1, 6, .inl (nA (r)))), (qw, .inl (E.2.1.1, 10, .inl (nA (wo)))), (f0, .inr (2, [.int (nI (nb)), .int (yr), .ref fk, .ref ft, .ref fw, .ref fs, .ref fg, .ref fc])), (ft, .inl (E.2.1.1, 10, .inl (nA (tw)))), (fs, .inl (E.2.1.1, 10, .inl (nA (sk)))), (l0, .inr (3, [.int (nI (nt)), .int (nI (lw)), .int (nI (sl)), .ref lc, .ref lr, .ref lf, .ref lv, .ref ln, .ref t0])), (lv, .inl (E.2.1.1, 6, .inl (wn)))]) ?_ (by rw [show nodeB tw sk wn wo size r ch (bs, bc, be) = takeB size (ch + owe wo (r (size - 1)) (r 0)) r (bs, bc, be) from if_pos (by simp [clsB, bI_ne0.mp c51]; omega)]) rfl rfl
        have hN : okBt (nodeB tw sk wn wo size r ch (bs, bc, be)) := nodeB_ok hwo (by omega) h0 hr hch hB
        refine g_iload_n (q := 74) dX5_extend_73 rfl rfl rfl ?_
        refine g_bipush (v := nI 6) (q := 76) dX5_extend_74 rfl kb_6 ?_
        refine g_icmp_ltN (t := 80) (q := 79) dX5_extend_76 (by decide) rfl (by omega) (by omega) (fun c76 => ?_) (fun c76 => ?_)
        · omega
        · skip
          refine g_vret (st := []) dX5_extend_79 rfl rfl ?_
          exact ⟨r, fun k hk => rfl, xv (by rw [extC, if_neg (show ¬ (0 < bs ∧ bc ≤ ch) by omega)])⟩
  · have d4 : ¬ bs = 0 := fun z => c4 ((nI_le0 (by omega)).mpr z)
    refine g_iload_n (q := 8) dX5_extend_7 rfl rfl rfl ?_
    refine g_aload_n (q := 9) dX5_extend_8 rfl rfl rfl ?_
    refine gf_X5_33 rfl 0 rfl rfl (q := 12) dX5_extend_9 rfl ?_
    refine g_icmp_ltN (t := 16) (q := 15) dX5_extend_12 (by decide) rfl (by omega) (by omega) (fun c12 => ?_) (fun c12 => ?_)
    · skip
      refine g_aload_n (q := 17) dX5_extend_16 rfl rfl rfl ?_
      refine gf_X5_15 rfl 0 rfl rfl (q := 20) dX5_extend_17 rfl ?_
      refine g_iload_n (q := 21) dX5_extend_20 rfl rfl rfl ?_
      refine g_iconst (v := nI 1) (q := 22) dX5_extend_21 rfl ki_1 ?_
      refine g_isubN (q := 23) dX5_extend_22 rfl (by omega) ?_
      have hb5 := hr (size - 1) (by omega)
      refine g_iald (v := nI (r (size - 1))) 2 rfl (ixIn (j := size - 1) rfl (by omega) (by decide)) (ixV (j := size - 1) rfl (by omega)) (q := 24) dX5_extend_23 rfl ?_
      refine g_istore (lv' := [(0, _), (1, _), (2, _), (3, _), (4, _)]) (q := 26) dX5_extend_24 rfl (Nat.le_of_ble_eq_true rfl) rfl ?_
      refine g_iload_n (q := 27) dX5_extend_26 rfl rfl rfl ?_
      refine g_iconst (v := nI 1) (q := 28) dX5_extend_27 rfl ki_1 ?_
      refine g_icmp_leN (t := 73) (q := 31) dX5_extend_28 (by decide) rfl (by omega) (by omega) (fun c28 => ?_) (fun c28 => ?_)
      · skip
        refine g_eq (ws' := [(q0, .inr (5, [.int (nI ((nodeB tw sk wn wo size r ch (bs, bc, be)).1)), .int (nI ((nodeB tw sk wn wo size r ch (bs, bc, be)).2.1)), .ref qb, .ref qr, .ref qw, .ref f0, .ref l0])), (qb, .inl (E.2.1.1, 6, .inl (nA ((nodeB tw sk wn wo size r ch (bs, bc, be)).2.2)))), (qr, .inl (E.2.1.1, 6, .inl (nA (r)))), (qw, .inl (E.2.1.1, 10, .inl (nA (wo)))), (f0, .inr (2, [.int (nI (nb)), .int (yr), .ref fk, .ref ft, .ref fw, .ref fs, .ref fg, .ref fc])), (ft, .inl (E.2.1.1, 10, .inl (nA (tw)))), (fs, .inl (E.2.1.1, 10, .inl (nA (sk)))), (l0, .inr (3, [.int (nI (nt)), .int (nI (lw)), .int (nI (sl)), .ref lc, .ref lr, .ref lf, .ref lv, .ref ln, .ref t0])), (lv, .inl (E.2.1.1, 6, .inl (wn)))]) ?_ (by rw [show nodeB tw sk wn wo size r ch (bs, bc, be) = (bs, bc, be) from if_neg (by simp [clsB]; omega)]) rfl rfl
        have hN : okBt (nodeB tw sk wn wo size r ch (bs, bc, be)) := nodeB_ok hwo (by omega) h0 hr hch hB
        refine g_iload_n (q := 74) dX5_extend_73 rfl rfl rfl ?_
        refine g_bipush (v := nI 6) (q := 76) dX5_extend_74 rfl kb_6 ?_
        refine g_icmp_ltN (t := 80) (q := 79) dX5_extend_76 (by decide) rfl (by omega) (by omega) (fun c76 => ?_) (fun c76 => ?_)
        · omega
        · skip
          refine g_vret (st := []) dX5_extend_79 rfl rfl ?_
          exact ⟨r, fun k hk => rfl, xv (by rw [extC, if_neg (show ¬ (0 < bs ∧ bc ≤ ch) by omega)])⟩
      · skip
        refine g_aload_n (q := 32) dX5_extend_31 rfl rfl rfl ?_
        refine g_iload (q := 34) dX5_extend_32 rfl rfl ?_
        refine g_aload_n (q := 35) dX5_extend_34 rfl rfl rfl ?_
        refine gf_X5_21 rfl 0 rfl rfl (q := 38) dX5_extend_35 rfl ?_
        refine gf_X5_49 rfl 4 rfl rfl (q := 41) dX5_extend_38 rfl ?_
        refine g_aload_n (q := 42) dX5_extend_41 rfl rfl rfl ?_
        refine gf_X5_15 rfl 0 rfl rfl (q := 45) dX5_extend_42 rfl ?_
        refine g_iconst (v := nI 0) (q := 46) dX5_extend_45 rfl ki_0 ?_
        have hb6 := hr (0) (by omega)
        refine g_iald (v := nI (r 0)) 2 rfl (ixIn (j := 0) rfl (by omega) (by decide)) (ixV (j := 0) rfl (by omega)) (q := 47) dX5_extend_46 rfl ?_
        have hb7 := htw (r 0) (by omega)
        refine g_iald (v := nI (tw (r 0))) 5 rfl (ixIn (j := r 0) rfl (by omega) (by decide)) (ixV (j := r 0) rfl (by omega)) (q := 48) dX5_extend_47 rfl ?_
        refine gc_X5_56 (c_isWanted (by omega) (by omega)) rfl (Nat.le_of_ble_eq_true rfl) rfl 0 rfl [0, 4, 6, 7, 8] rfl rfl (rest := []) rfl (Nat.le_of_ble_eq_true rfl) (q := 51) dX5_extend_48 rfl (exK (ws' := [_, _, _, _, _, _, _, _, _]) (st' := [.int (bI (wanB sk wn (r (size - 1)) (tw (r 0))))]) rfl rfl ?_)
        refine g_if_eq (t := 73) (q := 54) dX5_extend_51 (by decide) rfl (fun c51 => ?_) (fun c51 => ?_)
        · skip
          refine g_eq (ws' := [(q0, .inr (5, [.int (nI ((nodeB tw sk wn wo size r ch (bs, bc, be)).1)), .int (nI ((nodeB tw sk wn wo size r ch (bs, bc, be)).2.1)), .ref qb, .ref qr, .ref qw, .ref f0, .ref l0])), (qb, .inl (E.2.1.1, 6, .inl (nA ((nodeB tw sk wn wo size r ch (bs, bc, be)).2.2)))), (qr, .inl (E.2.1.1, 6, .inl (nA (r)))), (qw, .inl (E.2.1.1, 10, .inl (nA (wo)))), (f0, .inr (2, [.int (nI (nb)), .int (yr), .ref fk, .ref ft, .ref fw, .ref fs, .ref fg, .ref fc])), (ft, .inl (E.2.1.1, 10, .inl (nA (tw)))), (fs, .inl (E.2.1.1, 10, .inl (nA (sk)))), (l0, .inr (3, [.int (nI (nt)), .int (nI (lw)), .int (nI (sl)), .ref lc, .ref lr, .ref lf, .ref lv, .ref ln, .ref t0])), (lv, .inl (E.2.1.1, 6, .inl (wn)))]) ?_ (by rw [show nodeB tw sk wn wo size r ch (bs, bc, be) = (bs, bc, be) from if_neg (by simp [clsB, bI_eq0.mp c51])]) rfl rfl
          have hN : okBt (nodeB tw sk wn wo size r ch (bs, bc, be)) := nodeB_ok hwo (by omega) h0 hr hch hB
          refine g_iload_n (q := 74) dX5_extend_73 rfl rfl rfl ?_
          refine g_bipush (v := nI 6) (q := 76) dX5_extend_74 rfl kb_6 ?_
          refine g_icmp_ltN (t := 80) (q := 79) dX5_extend_76 (by decide) rfl (by omega) (by omega) (fun c76 => ?_) (fun c76 => ?_)
          · omega
          · skip
            refine g_vret (st := []) dX5_extend_79 rfl rfl ?_
            exact ⟨r, fun k hk => rfl, xv (by rw [extC, if_neg (show ¬ (0 < bs ∧ bc ≤ ch) by omega)])⟩
        · skip
          refine g_aload_n (q := 55) dX5_extend_54 rfl rfl rfl ?_
          refine g_iload_n (q := 56) dX5_extend_55 rfl rfl rfl ?_
          refine g_iload_n (q := 57) dX5_extend_56 rfl rfl rfl ?_
          refine g_aload_n (q := 58) dX5_extend_57 rfl rfl rfl ?_
          refine g_iload (q := 60) dX5_extend_58 rfl rfl ?_
          refine g_aload_n (q := 61) dX5_extend_60 rfl rfl rfl ?_
          refine gf_X5_15 rfl 0 rfl rfl (q := 64) dX5_extend_61 rfl ?_
          refine g_iconst (v := nI 0) (q := 65) dX5_extend_64 rfl ki_0 ?_
          have hb8 := hr (0) (by omega)
          refine g_iald (v := nI (r 0)) 2 rfl (ixIn (j := 0) rfl (by omega) (by decide)) (ixV (j := 0) rfl (by omega)) (q := 66) dX5_extend_65 rfl ?_
          refine gc_X5_60 (c_owedFor (by omega) (by omega) (hwo _ (by omega)) (hwo _ (by omega))) rfl (Nat.le_of_ble_eq_true rfl) rfl 0 rfl [0, 3] rfl rfl (rest := [_, _, _]) rfl (Nat.le_of_ble_eq_true rfl) (q := 69) dX5_extend_66 rfl (exK (ws' := [_, _, _, _, _, _, _, _, _]) (st' := [.int (nI (owe wo (r (size - 1)) (r 0))), _, _, _]) rfl rfl ?_)
          refine g_iaddN (q := 70) dX5_extend_69 rfl ?_
          have ho := owe_le hwo (b := r 0) (hr (size - 1) (by omega))
          refine gc_X5_64 (c_takeIfBetter (by omega) (by omega) hB.1 hB.2) rfl (Nat.le_of_ble_eq_true rfl) rfl 0 rfl [0, 1, 2] rfl rfl (rest := []) rfl (Nat.le_of_ble_eq_true rfl) (q := 73) dX5_extend_70 rfl (exK (ws' := [(_, .inr (_, [_, _, _, _, _, _, _])), (_, .inl (_, _, .inl _)), (_, .inl (_, _, .inl _)), _, _, _, _, _, _]) (st' := []) rfl rfl ?_)
          refine g_eq (ws' := [(q0, .inr (5, [.int (nI ((nodeB tw sk wn wo size r ch (bs, bc, be)).1)), .int (nI ((nodeB tw sk wn wo size r ch (bs, bc, be)).2.1)), .ref qb, .ref qr, .ref qw, .ref f0, .ref l0])), (qb, .inl (E.2.1.1, 6, .inl (nA ((nodeB tw sk wn wo size r ch (bs, bc, be)).2.2)))), (qr, .inl (E.2.1.1, 6, .inl (nA (r)))), (qw, .inl (E.2.1.1, 10, .inl (nA (wo)))), (f0, .inr (2, [.int (nI (nb)), .int (yr), .ref fk, .ref ft, .ref fw, .ref fs, .ref fg, .ref fc])), (ft, .inl (E.2.1.1, 10, .inl (nA (tw)))), (fs, .inl (E.2.1.1, 10, .inl (nA (sk)))), (l0, .inr (3, [.int (nI (nt)), .int (nI (lw)), .int (nI (sl)), .ref lc, .ref lr, .ref lf, .ref lv, .ref ln, .ref t0])), (lv, .inl (E.2.1.1, 6, .inl (wn)))]) ?_ (by rw [show nodeB tw sk wn wo size r ch (bs, bc, be) = takeB size (ch + owe wo (r (size - 1)) (r 0)) r (bs, bc, be) from if_pos (by simp [clsB, bI_ne0.mp c51]; omega)]) rfl rfl
          have hN : okBt (nodeB tw sk wn wo size r ch (bs, bc, be)) := nodeB_ok hwo (by omega) h0 hr hch hB
          refine g_iload_n (q := 74) dX5_extend_73 rfl rfl rfl ?_
          refine g_bipush (v := nI 6) (q := 76) dX5_extend_74 rfl kb_6 ?_
          refine g_icmp_ltN (t := 80) (q := 79) dX5_extend_76 (by decide) rfl (by omega) (by omega) (fun c76 => ?_) (fun c76 => ?_)
          · omega
          · skip
            refine g_vret (st := []) dX5_extend_79 rfl rfl ?_
            exact ⟨r, fun k hk => rfl, xv (by rw [extC, if_neg (show ¬ (0 < bs ∧ bc ≤ ch) by omega)])⟩
    · skip
      refine g_vret (st := []) dX5_extend_15 rfl rfl ?_
      exact ⟨r, fun k hk => rfl, xv (by rw [show extC nb tw sk wn wo 0 size r ch (bs, bc, be) = (bs, bc, be) from by rw [extC]; exact if_pos (show 0 < bs ∧ bc ≤ ch by omega)])⟩
set_option maxHeartbeats 2000000 in
set_option maxRecDepth 20000 in
theorem c_extendS {E : EN} {q0 qb qr qw : Nat} {f0 fk ft fw fs fg fc nb : Nat} {yr : Int32} {l0 lc lr lf lv ln t0 nt lw sl : Nat} {tw sk wo : Nat → Nat} {wn : Nat → Int32} {f : Nat} (ih : ∀ {size bs bc ch : Nat} {r be : Nat → Nat} (hs : size + f = 6) (h0 : 1 ≤ size) (hr : ∀ k, k < size → r k < nb) (hch : ch ≤ 1000 * (size - 1)) (hB : okBt (bs, bc, be)) , CT E yX5_extend cX5_extend 7 (none) (f + 3) [.ref q0, .int (nI (size)), .int (bitsI (usdB tw r size) 6), .int (nI (ch))] [(q0, .inr (5, [.int (nI (bs)), .int (nI (bc)), .ref qb, .ref qr, .ref qw, .ref f0, .ref l0])), (qb, .inl (E.2.1.1, 6, .inl (nA (be)))), (qr, .inl (E.2.1.1, 6, .inl (nA (r)))), (qw, .inl (E.2.1.1, 10, .inl (nA (wo)))), (f0, .inr (2, [.int (nI (nb)), .int (yr), .ref fk, .ref ft, .ref fw, .ref fs, .ref fg, .ref fc])), (ft, .inl (E.2.1.1, 10, .inl (nA (tw)))), (fs, .inl (E.2.1.1, 10, .inl (nA (sk)))), (l0, .inr (3, [.int (nI (nt)), .int (nI (lw)), .int (nI (sl)), .ref lc, .ref lr, .ref lf, .ref lv, .ref ln, .ref t0])), (lv, .inl (E.2.1.1, 6, .inl (wn)))] (fun r1 w => ∃ (q' : Nat → Nat), agr q' r size ∧ xQ none [(q0, .inr (5, [.int (nI ((extC nb tw sk wn wo f size r ch (bs, bc, be)).1)), .int (nI ((extC nb tw sk wn wo f size r ch (bs, bc, be)).2.1)), .ref qb, .ref qr, .ref qw, .ref f0, .ref l0])), (qb, .inl (E.2.1.1, 6, .inl (nA ((extC nb tw sk wn wo f size r ch (bs, bc, be)).2.2)))), (qr, .inl (E.2.1.1, 6, .inl (nA (q')))), (qw, .inl (E.2.1.1, 10, .inl (nA (wo)))), (f0, .inr (2, [.int (nI (nb)), .int (yr), .ref fk, .ref ft, .ref fw, .ref fs, .ref fg, .ref fc])), (ft, .inl (E.2.1.1, 10, .inl (nA (tw)))), (fs, .inl (E.2.1.1, 10, .inl (nA (sk)))), (l0, .inr (3, [.int (nI (nt)), .int (nI (lw)), .int (nI (sl)), .ref lc, .ref lr, .ref lf, .ref lv, .ref ln, .ref t0])), (lv, .inl (E.2.1.1, 6, .inl (wn)))] r1 w)) {size bs bc ch : Nat} {r be : Nat → Nat} (hs : size + (f + 1) = 6) (h0 : 1 ≤ size) (hr : ∀ k, k < size → r k < nb) (hch : ch ≤ 1000 * (size - 1)) (hB : okBt (bs, bc, be)) (hnb : nb ≤ 10) (hwo : ∀ j, j < nb → wo j < 1000) (htw : ∀ j, j < 10 → tw j < 6)  : CT E yX5_extend cX5_extend 7 (none) (f + 3 + 1) [.ref q0, .int (nI (size)), .int (bitsI (usdB tw r size) 6), .int (nI (ch))] [(q0, .inr (5, [.int (nI (bs)), .int (nI (bc)), .ref qb, .ref qr, .ref qw, .ref f0, .ref l0])), (qb, .inl (E.2.1.1, 6, .inl (nA (be)))), (qr, .inl (E.2.1.1, 6, .inl (nA (r)))), (qw, .inl (E.2.1.1, 10, .inl (nA (wo)))), (f0, .inr (2, [.int (nI (nb)), .int (yr), .ref fk, .ref ft, .ref fw, .ref fs, .ref fg, .ref fc])), (ft, .inl (E.2.1.1, 10, .inl (nA (tw)))), (fs, .inl (E.2.1.1, 10, .inl (nA (sk)))), (l0, .inr (3, [.int (nI (nt)), .int (nI (lw)), .int (nI (sl)), .ref lc, .ref lr, .ref lf, .ref lv, .ref ln, .ref t0])), (lv, .inl (E.2.1.1, 6, .inl (wn)))] (fun r1 w => ∃ (q' : Nat → Nat), agr q' r size ∧ xQ none [(q0, .inr (5, [.int (nI ((extC nb tw sk wn wo (f + 1) size r ch (bs, bc, be)).1)), .int (nI ((extC nb tw sk wn wo (f + 1) size r ch (bs, bc, be)).2.1)), .ref qb, .ref qr, .ref qw, .ref f0, .ref l0])), (qb, .inl (E.2.1.1, 6, .inl (nA ((extC nb tw sk wn wo (f + 1) size r ch (bs, bc, be)).2.2)))), (qr, .inl (E.2.1.1, 6, .inl (nA (q')))), (qw, .inl (E.2.1.1, 10, .inl (nA (wo)))), (f0, .inr (2, [.int (nI (nb)), .int (yr), .ref fk, .ref ft, .ref fw, .ref fs, .ref fg, .ref fc])), (ft, .inl (E.2.1.1, 10, .inl (nA (tw)))), (fs, .inl (E.2.1.1, 10, .inl (nA (sk)))), (l0, .inr (3, [.int (nI (nt)), .int (nI (lw)), .int (nI (sl)), .ref lc, .ref lr, .ref lf, .ref lv, .ref ln, .ref t0])), (lv, .inl (E.2.1.1, 6, .inl (wn)))] r1 w) := by
  refine ct_of (by decide +kernel) (Nat.le_of_ble_eq_true rfl) (lv := [(0, .ref q0), (1, .int (nI (size))), (2, .int (bitsI (usdB tw r size) 6)), (3, .int (nI (ch)))]) rfl (fun A => ?_)
  have hB1 := hB.1
  have hB2 := hB.2
  simp only at hB1 hB2
  refine g_aload_n (q := 1) dX5_extend_0 rfl rfl rfl ?_
  refine gf_X5_29 rfl 0 rfl rfl (q := 4) dX5_extend_1 rfl ?_
  refine g_if_le (t := 16) (q := 7) dX5_extend_4 (by decide) rfl (fun c4 => ?_) (fun c4 => ?_)
  · have d4 := (nI_le0 (by have := hB.1; omega)).mp c4
    refine g_aload_n (q := 17) dX5_extend_16 rfl rfl rfl ?_
    refine gf_X5_15 rfl 0 rfl rfl (q := 20) dX5_extend_17 rfl ?_
    refine g_iload_n (q := 21) dX5_extend_20 rfl rfl rfl ?_
    refine g_iconst (v := nI 1) (q := 22) dX5_extend_21 rfl ki_1 ?_
    refine g_isubN (q := 23) dX5_extend_22 rfl (by omega) ?_
    have hb1 := hr (size - 1) (by omega)
    refine g_iald (v := nI (r (size - 1))) 2 rfl (ixIn (j := size - 1) rfl (by omega) (by decide)) (ixV (j := size - 1) rfl (by omega)) (q := 24) dX5_extend_23 rfl ?_
    refine g_istore (lv' := [(0, _), (1, _), (2, _), (3, _), (4, _)]) (q := 26) dX5_extend_24 rfl (Nat.le_of_ble_eq_true rfl) rfl ?_
    refine g_iload_n (q := 27) dX5_extend_26 rfl rfl rfl ?_
    refine g_iconst (v := nI 1) (q := 28) dX5_extend_27 rfl ki_1 ?_
    refine g_icmp_leN (t := 73) (q := 31) dX5_extend_28 (by decide) rfl (by omega) (by omega) (fun c28 => ?_) (fun c28 => ?_)
    · skip
      refine g_eq (ws' := [(q0, .inr (5, [.int (nI ((nodeB tw sk wn wo size r ch (bs, bc, be)).1)), .int (nI ((nodeB tw sk wn wo size r ch (bs, bc, be)).2.1)), .ref qb, .ref qr, .ref qw, .ref f0, .ref l0])), (qb, .inl (E.2.1.1, 6, .inl (nA ((nodeB tw sk wn wo size r ch (bs, bc, be)).2.2)))), (qr, .inl (E.2.1.1, 6, .inl (nA (r)))), (qw, .inl (E.2.1.1, 10, .inl (nA (wo)))), (f0, .inr (2, [.int (nI (nb)), .int (yr), .ref fk, .ref ft, .ref fw, .ref fs, .ref fg, .ref fc])), (ft, .inl (E.2.1.1, 10, .inl (nA (tw)))), (fs, .inl (E.2.1.1, 10, .inl (nA (sk)))), (l0, .inr (3, [.int (nI (nt)), .int (nI (lw)), .int (nI (sl)), .ref lc, .ref lr, .ref lf, .ref lv, .ref ln, .ref t0])), (lv, .inl (E.2.1.1, 6, .inl (wn)))]) ?_ (by rw [show nodeB tw sk wn wo size r ch (bs, bc, be) = (bs, bc, be) from if_neg (by simp [clsB]; omega)]) rfl rfl
      have hN : okBt (nodeB tw sk wn wo size r ch (bs, bc, be)) := nodeB_ok hwo (by omega) h0 hr hch hB
      refine g_iload_n (q := 74) dX5_extend_73 rfl rfl rfl ?_
      refine g_bipush (v := nI 6) (q := 76) dX5_extend_74 rfl kb_6 ?_
      refine g_icmp_ltN (t := 80) (q := 79) dX5_extend_76 (by decide) rfl (by omega) (by omega) (fun c76 => ?_) (fun c76 => ?_)
      · skip
        refine g_iconst (v := nI 0) (q := 81) dX5_extend_80 rfl ki_0 ?_
        refine g_istore (lv' := [(0, _), (1, _), (2, _), (3, _), (4, _), (5, _)]) (q := 83) dX5_extend_81 rfl (Nat.le_of_ble_eq_true rfl) rfl ?_
        refine g_loopG (σ := Nat → Nat) (nb) (fun b q => agr q r size) (fun b q => [(q0, .inr (5, [.int (nI ((extF nb tw sk wn wo f size r ch (nodeB tw sk wn wo size r ch (bs, bc, be)) b).1)), .int (nI ((extF nb tw sk wn wo f size r ch (nodeB tw sk wn wo size r ch (bs, bc, be)) b).2.1)), .ref qb, .ref qr, .ref qw, .ref f0, .ref l0])), (qb, .inl (E.2.1.1, 6, .inl (nA ((extF nb tw sk wn wo f size r ch (nodeB tw sk wn wo size r ch (bs, bc, be)) b).2.2)))), (qr, .inl (E.2.1.1, 6, .inl (nA (q)))), (qw, .inl (E.2.1.1, 10, .inl (nA (wo)))), (f0, .inr (2, [.int (nI (nb)), .int (yr), .ref fk, .ref ft, .ref fw, .ref fs, .ref fg, .ref fc])), (ft, .inl (E.2.1.1, 10, .inl (nA (tw)))), (fs, .inl (E.2.1.1, 10, .inl (nA (sk)))), (l0, .inr (3, [.int (nI (nt)), .int (nI (lw)), .int (nI (sl)), .ref lc, .ref lr, .ref lf, .ref lv, .ref ln, .ref t0])), (lv, .inl (E.2.1.1, 6, .inl (wn)))]) (fun b q => [(0, .ref q0), (1, .int (nI (size))), (2, .int (bitsI (usdB tw r size) 6)), (3, .int (nI (ch))), (4, .int (nI (r (size - 1)))), (5, .int (nI (b)))]) ?_ ?_ 0 (Nat.zero_le _) (r) (fun k hk => rfl)
        · intro b q hb83 hI83 ih83
          have hS1 := extF_ok (tw := tw) (sk := sk) (wn := wn) hwo hs h0 hr hch hN (n := b) (by omega)
          generalize hS : (extF nb tw sk wn wo f size r ch (nodeB tw sk wn wo size r ch (bs, bc, be)) b) = S at hS1 ⊢
          obtain ⟨s1, s2, s3⟩ := S
          have hrl := hr (size - 1) (by omega)
          show G E _ [(q0, .inr (5, [.int (nI (s1)), .int (nI (s2)), .ref qb, .ref qr, .ref qw, .ref f0, .ref l0])), (qb, .inl (E.2.1.1, 6, .inl (nA (s3)))), (qr, .inl (E.2.1.1, 6, .inl (nA (q)))), (qw, .inl (E.2.1.1, 10, .inl (nA (wo)))), (f0, .inr (2, [.int (nI (nb)), .int (yr), .ref fk, .ref ft, .ref fw, .ref fs, .ref fg, .ref fc])), (ft, .inl (E.2.1.1, 10, .inl (nA (tw)))), (fs, .inl (E.2.1.1, 10, .inl (nA (sk)))), (l0, .inr (3, [.int (nI (nt)), .int (nI (lw)), .int (nI (sl)), .ref lc, .ref lr, .ref lf, .ref lv, .ref ln, .ref t0])), (lv, .inl (E.2.1.1, 6, .inl (wn)))] 83 [(0, .ref q0), (1, .int (nI (size))), (2, .int (bitsI (usdB tw r size) 6)), (3, .int (nI (ch))), (4, .int (nI (r (size - 1)))), (5, .int (nI (b)))] []
          refine g_iload (q := 85) dX5_extend_83 rfl rfl ?_
          refine g_aload_n (q := 86) dX5_extend_85 rfl rfl rfl ?_
          refine gf_X5_21 rfl 0 rfl rfl (q := 89) dX5_extend_86 rfl ?_
          refine gf_X5_36 rfl 4 rfl rfl (q := 92) dX5_extend_89 rfl ?_
          refine g_icmp_geN (t := 183) (q := 95) dX5_extend_92 (by decide) rfl (by omega) (by omega) (fun c92 => ?_) (fun c92 => ?_)
          · omega
          · skip
            refine g_aload_n (q := 96) dX5_extend_95 rfl rfl rfl ?_
            refine gf_X5_21 rfl 0 rfl rfl (q := 99) dX5_extend_96 rfl ?_
            refine gf_X5_49 rfl 4 rfl rfl (q := 102) dX5_extend_99 rfl ?_
            refine g_iload (q := 104) dX5_extend_102 rfl rfl ?_
            have hb2 := htw (b) (by omega)
            refine g_iald (v := nI (tw b)) 5 rfl (ixIn (j := b) rfl (by omega) (by decide)) (ixV (j := b) rfl (by omega)) (q := 105) dX5_extend_104 rfl ?_
            refine g_istore (lv' := [(0, _), (1, _), (2, _), (3, _), (4, _), (5, _), (6, _)]) (q := 107) dX5_extend_105 rfl (Nat.le_of_ble_eq_true rfl) rfl ?_
            refine g_iload (q := 109) dX5_extend_107 rfl rfl ?_
            refine g_aload_n (q := 110) dX5_extend_109 rfl rfl rfl ?_
            refine gf_X5_21 rfl 0 rfl rfl (q := 113) dX5_extend_110 rfl ?_
            refine gf_X5_49 rfl 4 rfl rfl (q := 116) dX5_extend_113 rfl ?_
            refine g_aload_n (q := 117) dX5_extend_116 rfl rfl rfl ?_
            refine gf_X5_15 rfl 0 rfl rfl (q := 120) dX5_extend_117 rfl ?_
            refine g_iconst (v := nI 0) (q := 121) dX5_extend_120 rfl ki_0 ?_
            refine g_iald (v := nI (q 0)) 2 rfl (ixIn (j := 0) rfl (by omega) (by decide)) (ixV (j := 0) rfl (by omega)) (q := 122) dX5_extend_121 rfl ?_
            have hr0 := hr 0 (by omega)
            refine g_top (y := nI (r 0)) (congrArg nI (hI83 0 (by omega))) ?_
            have hb3 := htw (r 0) (by omega)
            refine g_iald (v := nI (tw (r 0))) 5 rfl (ixIn (j := r 0) rfl (by omega) (by decide)) (ixV (j := r 0) rfl (by omega)) (q := 123) dX5_extend_122 rfl ?_
            refine g_icmp_leN (t := 177) (q := 126) dX5_extend_123 (by decide) rfl (by omega) (by omega) (fun c123 => ?_) (fun c123 => ?_)
            · skip
              refine g_iinc (lv' := [(0, _), (1, _), (2, _), (3, _), (4, _), (5, _), (6, _)]) (v := nI (b + 1)) (q := 180) dX5_extend_177 rfl rfl (nI_inc _) (Nat.le_of_ble_eq_true rfl) rfl ?_
              refine g_goto (q := 83) dX5_extend_180 (by decide) ?_
              refine g_less (lv' := [(0, _), (1, _), (2, _), (3, _), (4, _), (5, _)]) 6 rfl ?_
              rw [extF_f (by unfold chdB; rw [decide_eq_false (show ¬ tw (r 0) < tw b by omega)]; rfl), hS] at ih83
              exact ih83 q hI83
            · skip
              refine g_iload_n (q := 127) dX5_extend_126 rfl rfl rfl ?_
              refine g_iload (q := 129) dX5_extend_127 rfl rfl ?_
              refine g_ishr (q := 130) dX5_extend_129 rfl ?_
              refine g_iconst (v := nI 1) (q := 131) dX5_extend_130 rfl ki_1 ?_
              refine g_iand (q := 132) dX5_extend_131 rfl ?_
              refine g_if_ne (t := 177) (q := 135) dX5_extend_132 (by decide) rfl (fun c132 => ?_) (fun c132 => ?_)
              · skip
                refine g_iinc (lv' := [(0, _), (1, _), (2, _), (3, _), (4, _), (5, _), (6, _)]) (v := nI (b + 1)) (q := 180) dX5_extend_177 rfl rfl (nI_inc _) (Nat.le_of_ble_eq_true rfl) rfl ?_
                refine g_goto (q := 83) dX5_extend_180 (by decide) ?_
                refine g_less (lv' := [(0, _), (1, _), (2, _), (3, _), (4, _), (5, _)]) 6 rfl ?_
                rw [extF_f (by unfold chdB; rw [show usdB tw r size (tw b) = true from (Bool.not_eq_false _).mp (fun z => c132 ((usd_bit (by omega)).mpr z))]; simp), hS] at ih83
                exact ih83 q hI83
              · skip
                refine g_aload_n (q := 136) dX5_extend_135 rfl rfl rfl ?_
                refine g_iload (q := 138) dX5_extend_136 rfl rfl ?_
                refine g_iload (q := 140) dX5_extend_138 rfl rfl ?_
                refine gc_X5_56 (c_isWanted (by omega) (by omega)) rfl (Nat.le_of_ble_eq_true rfl) rfl 0 rfl [0, 4, 6, 7, 8] rfl rfl (rest := []) rfl (Nat.le_of_ble_eq_true rfl) (q := 143) dX5_extend_140 rfl (exK (ws' := [_, _, _, _, _, _, _, _, _]) (st' := [.int (bI (wanB sk wn (r (size - 1)) (tw b)))]) rfl rfl ?_)
                refine g_if_eq (t := 177) (q := 146) dX5_extend_143 (by decide) rfl (fun c143 => ?_) (fun c143 => ?_)
                · skip
                  refine g_iinc (lv' := [(0, _), (1, _), (2, _), (3, _), (4, _), (5, _), (6, _)]) (v := nI (b + 1)) (q := 180) dX5_extend_177 rfl rfl (nI_inc _) (Nat.le_of_ble_eq_true rfl) rfl ?_
                  refine g_goto (q := 83) dX5_extend_180 (by decide) ?_
                  refine g_less (lv' := [(0, _), (1, _), (2, _), (3, _), (4, _), (5, _)]) 6 rfl ?_
                  rw [extF_f (by unfold chdB; rw [bI_eq0.mp c143]; simp), hS] at ih83
                  exact ih83 q hI83
                · skip
                  refine g_aload_n (q := 147) dX5_extend_146 rfl rfl rfl ?_
                  refine gf_X5_15 rfl 0 rfl rfl (q := 150) dX5_extend_147 rfl ?_
                  refine g_iload_n (q := 151) dX5_extend_150 rfl rfl rfl ?_
                  refine g_iload (q := 153) dX5_extend_151 rfl rfl ?_
                  refine g_iast (f' := (nA (updn q size b))) 2 rfl (ixIn (j := size) rfl (by omega) (by decide)) (ixUn (j := size) rfl (by omega)) (ws' := [_, _, (_, .inl (_, _, .inl _)), _, _, _, _, _, _]) rfl (q := 154) dX5_extend_153 rfl ?_
                  refine g_aload_n (q := 155) dX5_extend_154 rfl rfl rfl ?_
                  refine g_iload_n (q := 156) dX5_extend_155 rfl rfl rfl ?_
                  refine g_iconst (v := nI 1) (q := 157) dX5_extend_156 rfl ki_1 ?_
                  refine g_iaddN (q := 158) dX5_extend_157 rfl ?_
                  refine g_iload_n (q := 159) dX5_extend_158 rfl rfl rfl ?_
                  refine g_iconst (v := nI 1) (q := 160) dX5_extend_159 rfl ki_1 ?_
                  refine g_iload (q := 162) dX5_extend_160 rfl rfl ?_
                  refine g_ishl (q := 163) dX5_extend_162 rfl ?_
                  refine g_ior (q := 164) dX5_extend_163 rfl ?_
                  refine g_top (y := bitsI (usdB tw (updn q size b) (size + 1)) 6) (usd_or hI83 (by omega)) ?_
                  refine g_iload_n (q := 165) dX5_extend_164 rfl rfl rfl ?_
                  refine g_aload_n (q := 166) dX5_extend_165 rfl rfl rfl ?_
                  refine g_iload (q := 168) dX5_extend_166 rfl rfl ?_
                  refine g_iload (q := 170) dX5_extend_168 rfl rfl ?_
                  refine gc_X5_60 (c_owedFor (by omega) (by omega) (hwo _ (by omega)) (hwo _ (by omega))) rfl (Nat.le_of_ble_eq_true rfl) rfl 0 rfl [0, 3] rfl rfl (rest := [_, _, _, _]) rfl (Nat.le_of_ble_eq_true rfl) (q := 173) dX5_extend_170 rfl (exK (ws' := [_, _, _, _, _, _, _, _, _]) (st' := [.int (nI (owe wo (r (size - 1)) b)), _, _, _, _]) rfl rfl ?_)
                  refine g_iaddN (q := 174) dX5_extend_173 rfl ?_
                  have ho := owe_le hwo (b := b) (hr (size - 1) (by omega))
                  refine gc_X5_52 (ih (by omega) (by omega) (fun k hk => by unfold updn; split; omega; rw [hI83 k (by omega)]; exact hr k (by omega)) (by omega) hS1) rfl (Nat.le_refl _) rfl 0 rfl [0, 1, 2, 3, 4, 5, 6, 7, 8] rfl rfl (rest := []) rfl (Nat.le_of_ble_eq_true rfl) (q := 177) dX5_extend_174 rfl (exKPM rfl (fun q2 hq2 => ?_))
                  refine g_eq (ws' := [(q0, .inr (5, [.int (nI ((extC nb tw sk wn wo f (size + 1) (updn q size b) (ch + owe wo (r (size - 1)) b) (s1, s2, s3)).1)), .int (nI ((extC nb tw sk wn wo f (size + 1) (updn q size b) (ch + owe wo (r (size - 1)) b) (s1, s2, s3)).2.1)), .ref qb, .ref qr, .ref qw, .ref f0, .ref l0])), (qb, .inl (E.2.1.1, 6, .inl (nA ((extC nb tw sk wn wo f (size + 1) (updn q size b) (ch + owe wo (r (size - 1)) b) (s1, s2, s3)).2.2)))), (qr, .inl (E.2.1.1, 6, .inl (nA (q2)))), (qw, .inl (E.2.1.1, 10, .inl (nA (wo)))), (f0, .inr (2, [.int (nI (nb)), .int (yr), .ref fk, .ref ft, .ref fw, .ref fs, .ref fg, .ref fc])), (ft, .inl (E.2.1.1, 10, .inl (nA (tw)))), (fs, .inl (E.2.1.1, 10, .inl (nA (sk)))), (l0, .inr (3, [.int (nI (nt)), .int (nI (lw)), .int (nI (sl)), .ref lc, .ref lr, .ref lf, .ref lv, .ref ln, .ref t0])), (lv, .inl (E.2.1.1, 6, .inl (wn)))]) (st' := []) ?_ rfl rfl rfl
                  refine g_iinc (lv' := [(0, _), (1, _), (2, _), (3, _), (4, _), (5, _), (6, _)]) (v := nI (b + 1)) (q := 180) dX5_extend_177 rfl rfl (nI_inc _) (Nat.le_of_ble_eq_true rfl) rfl ?_
                  refine g_goto (q := 83) dX5_extend_180 (by decide) ?_
                  refine g_less (lv' := [(0, _), (1, _), (2, _), (3, _), (4, _), (5, _)]) 6 rfl ?_
                  rw [extF_t (by unfold chdB; rw [decide_eq_true (show tw (r 0) < tw b by omega), (usd_bit (by omega)).mp c132, bI_ne0.mp c143]; rfl), hS, ← extC_c (q := updn q size b) (by omega) (agr_upd hI83)] at ih83
                  exact ih83 q2 (fun k hk => by rw [hq2 k (by omega), updn_n (by omega)]; exact hI83 k hk)
        · intro q hI83
          show G E _ [(q0, .inr (5, [.int (nI ((extF nb tw sk wn wo f size r ch (nodeB tw sk wn wo size r ch (bs, bc, be)) nb).1)), .int (nI ((extF nb tw sk wn wo f size r ch (nodeB tw sk wn wo size r ch (bs, bc, be)) nb).2.1)), .ref qb, .ref qr, .ref qw, .ref f0, .ref l0])), (qb, .inl (E.2.1.1, 6, .inl (nA ((extF nb tw sk wn wo f size r ch (nodeB tw sk wn wo size r ch (bs, bc, be)) nb).2.2)))), (qr, .inl (E.2.1.1, 6, .inl (nA (q)))), (qw, .inl (E.2.1.1, 10, .inl (nA (wo)))), (f0, .inr (2, [.int (nI (nb)), .int (yr), .ref fk, .ref ft, .ref fw, .ref fs, .ref fg, .ref fc])), (ft, .inl (E.2.1.1, 10, .inl (nA (tw)))), (fs, .inl (E.2.1.1, 10, .inl (nA (sk)))), (l0, .inr (3, [.int (nI (nt)), .int (nI (lw)), .int (nI (sl)), .ref lc, .ref lr, .ref lf, .ref lv, .ref ln, .ref t0])), (lv, .inl (E.2.1.1, 6, .inl (wn)))] 83 [(0, .ref q0), (1, .int (nI (size))), (2, .int (bitsI (usdB tw r size) 6)), (3, .int (nI (ch))), (4, .int (nI (r (size - 1)))), (5, .int (nI (nb)))] []
          refine g_iload (q := 85) dX5_extend_83 rfl rfl ?_
          refine g_aload_n (q := 86) dX5_extend_85 rfl rfl rfl ?_
          refine gf_X5_21 rfl 0 rfl rfl (q := 89) dX5_extend_86 rfl ?_
          refine gf_X5_36 rfl 4 rfl rfl (q := 92) dX5_extend_89 rfl ?_
          refine g_icmp_geN (t := 183) (q := 95) dX5_extend_92 (by decide) rfl (by omega) (by omega) (fun c92 => ?_) (fun c92 => ?_)
          · skip
            refine g_vret (st := []) dX5_extend_183 rfl rfl ?_
            exact ⟨q, hI83, xv (by rw [extC_s (show ¬ (0 < bs ∧ bc ≤ ch) by omega)])⟩
          · omega
      · omega
    · skip
      refine g_aload_n (q := 32) dX5_extend_31 rfl rfl rfl ?_
      refine g_iload (q := 34) dX5_extend_32 rfl rfl ?_
      refine g_aload_n (q := 35) dX5_extend_34 rfl rfl rfl ?_
      refine gf_X5_21 rfl 0 rfl rfl (q := 38) dX5_extend_35 rfl ?_
      refine gf_X5_49 rfl 4 rfl rfl (q := 41) dX5_extend_38 rfl ?_
      refine g_aload_n (q := 42) dX5_extend_41 rfl rfl rfl ?_
      refine gf_X5_15 rfl 0 rfl rfl (q := 45) dX5_extend_42 rfl ?_
      refine g_iconst (v := nI 0) (q := 46) dX5_extend_45 rfl ki_0 ?_
      have hb4 := hr (0) (by omega)
      refine g_iald (v := nI (r 0)) 2 rfl (ixIn (j := 0) rfl (by omega) (by decide)) (ixV (j := 0) rfl (by omega)) (q := 47) dX5_extend_46 rfl ?_
      have hb5 := htw (r 0) (by omega)
      refine g_iald (v := nI (tw (r 0))) 5 rfl (ixIn (j := r 0) rfl (by omega) (by decide)) (ixV (j := r 0) rfl (by omega)) (q := 48) dX5_extend_47 rfl ?_
      refine gc_X5_56 (c_isWanted (by omega) (by omega)) rfl (Nat.le_of_ble_eq_true rfl) rfl 0 rfl [0, 4, 6, 7, 8] rfl rfl (rest := []) rfl (Nat.le_of_ble_eq_true rfl) (q := 51) dX5_extend_48 rfl (exK (ws' := [_, _, _, _, _, _, _, _, _]) (st' := [.int (bI (wanB sk wn (r (size - 1)) (tw (r 0))))]) rfl rfl ?_)
      refine g_if_eq (t := 73) (q := 54) dX5_extend_51 (by decide) rfl (fun c51 => ?_) (fun c51 => ?_)
      · skip
        refine g_eq (ws' := [(q0, .inr (5, [.int (nI ((nodeB tw sk wn wo size r ch (bs, bc, be)).1)), .int (nI ((nodeB tw sk wn wo size r ch (bs, bc, be)).2.1)), .ref qb, .ref qr, .ref qw, .ref f0, .ref l0])), (qb, .inl (E.2.1.1, 6, .inl (nA ((nodeB tw sk wn wo size r ch (bs, bc, be)).2.2)))), (qr, .inl (E.2.1.1, 6, .inl (nA (r)))), (qw, .inl (E.2.1.1, 10, .inl (nA (wo)))), (f0, .inr (2, [.int (nI (nb)), .int (yr), .ref fk, .ref ft, .ref fw, .ref fs, .ref fg, .ref fc])), (ft, .inl (E.2.1.1, 10, .inl (nA (tw)))), (fs, .inl (E.2.1.1, 10, .inl (nA (sk)))), (l0, .inr (3, [.int (nI (nt)), .int (nI (lw)), .int (nI (sl)), .ref lc, .ref lr, .ref lf, .ref lv, .ref ln, .ref t0])), (lv, .inl (E.2.1.1, 6, .inl (wn)))]) ?_ (by rw [show nodeB tw sk wn wo size r ch (bs, bc, be) = (bs, bc, be) from if_neg (by simp [clsB, bI_eq0.mp c51])]) rfl rfl
        have hN : okBt (nodeB tw sk wn wo size r ch (bs, bc, be)) := nodeB_ok hwo (by omega) h0 hr hch hB
        refine g_iload_n (q := 74) dX5_extend_73 rfl rfl rfl ?_
        refine g_bipush (v := nI 6) (q := 76) dX5_extend_74 rfl kb_6 ?_
        refine g_icmp_ltN (t := 80) (q := 79) dX5_extend_76 (by decide) rfl (by omega) (by omega) (fun c76 => ?_) (fun c76 => ?_)
        · skip
          refine g_iconst (v := nI 0) (q := 81) dX5_extend_80 rfl ki_0 ?_
          refine g_istore (lv' := [(0, _), (1, _), (2, _), (3, _), (4, _), (5, _)]) (q := 83) dX5_extend_81 rfl (Nat.le_of_ble_eq_true rfl) rfl ?_
          refine g_loopG (σ := Nat → Nat) (nb) (fun b q => agr q r size) (fun b q => [(q0, .inr (5, [.int (nI ((extF nb tw sk wn wo f size r ch (nodeB tw sk wn wo size r ch (bs, bc, be)) b).1)), .int (nI ((extF nb tw sk wn wo f size r ch (nodeB tw sk wn wo size r ch (bs, bc, be)) b).2.1)), .ref qb, .ref qr, .ref qw, .ref f0, .ref l0])), (qb, .inl (E.2.1.1, 6, .inl (nA ((extF nb tw sk wn wo f size r ch (nodeB tw sk wn wo size r ch (bs, bc, be)) b).2.2)))), (qr, .inl (E.2.1.1, 6, .inl (nA (q)))), (qw, .inl (E.2.1.1, 10, .inl (nA (wo)))), (f0, .inr (2, [.int (nI (nb)), .int (yr), .ref fk, .ref ft, .ref fw, .ref fs, .ref fg, .ref fc])), (ft, .inl (E.2.1.1, 10, .inl (nA (tw)))), (fs, .inl (E.2.1.1, 10, .inl (nA (sk)))), (l0, .inr (3, [.int (nI (nt)), .int (nI (lw)), .int (nI (sl)), .ref lc, .ref lr, .ref lf, .ref lv, .ref ln, .ref t0])), (lv, .inl (E.2.1.1, 6, .inl (wn)))]) (fun b q => [(0, .ref q0), (1, .int (nI (size))), (2, .int (bitsI (usdB tw r size) 6)), (3, .int (nI (ch))), (4, .int (nI (r (size - 1)))), (5, .int (nI (b)))]) ?_ ?_ 0 (Nat.zero_le _) (r) (fun k hk => rfl)
          · intro b q hb83 hI83 ih83
            have hS1 := extF_ok (tw := tw) (sk := sk) (wn := wn) hwo hs h0 hr hch hN (n := b) (by omega)
            generalize hS : (extF nb tw sk wn wo f size r ch (nodeB tw sk wn wo size r ch (bs, bc, be)) b) = S at hS1 ⊢
            obtain ⟨s1, s2, s3⟩ := S
            have hrl := hr (size - 1) (by omega)
            show G E _ [(q0, .inr (5, [.int (nI (s1)), .int (nI (s2)), .ref qb, .ref qr, .ref qw, .ref f0, .ref l0])), (qb, .inl (E.2.1.1, 6, .inl (nA (s3)))), (qr, .inl (E.2.1.1, 6, .inl (nA (q)))), (qw, .inl (E.2.1.1, 10, .inl (nA (wo)))), (f0, .inr (2, [.int (nI (nb)), .int (yr), .ref fk, .ref ft, .ref fw, .ref fs, .ref fg, .ref fc])), (ft, .inl (E.2.1.1, 10, .inl (nA (tw)))), (fs, .inl (E.2.1.1, 10, .inl (nA (sk)))), (l0, .inr (3, [.int (nI (nt)), .int (nI (lw)), .int (nI (sl)), .ref lc, .ref lr, .ref lf, .ref lv, .ref ln, .ref t0])), (lv, .inl (E.2.1.1, 6, .inl (wn)))] 83 [(0, .ref q0), (1, .int (nI (size))), (2, .int (bitsI (usdB tw r size) 6)), (3, .int (nI (ch))), (4, .int (nI (r (size - 1)))), (5, .int (nI (b)))] []
            refine g_iload (q := 85) dX5_extend_83 rfl rfl ?_
            refine g_aload_n (q := 86) dX5_extend_85 rfl rfl rfl ?_
            refine gf_X5_21 rfl 0 rfl rfl (q := 89) dX5_extend_86 rfl ?_
            refine gf_X5_36 rfl 4 rfl rfl (q := 92) dX5_extend_89 rfl ?_
            refine g_icmp_geN (t := 183) (q := 95) dX5_extend_92 (by decide) rfl (by omega) (by omega) (fun c92 => ?_) (fun c92 => ?_)
            · omega
            · skip
              refine g_aload_n (q := 96) dX5_extend_95 rfl rfl rfl ?_
              refine gf_X5_21 rfl 0 rfl rfl (q := 99) dX5_extend_96 rfl ?_
              refine gf_X5_49 rfl 4 rfl rfl (q := 102) dX5_extend_99 rfl ?_
              refine g_iload (q := 104) dX5_extend_102 rfl rfl ?_
              have hb6 := htw (b) (by omega)
              refine g_iald (v := nI (tw b)) 5 rfl (ixIn (j := b) rfl (by omega) (by decide)) (ixV (j := b) rfl (by omega)) (q := 105) dX5_extend_104 rfl ?_
              refine g_istore (lv' := [(0, _), (1, _), (2, _), (3, _), (4, _), (5, _), (6, _)]) (q := 107) dX5_extend_105 rfl (Nat.le_of_ble_eq_true rfl) rfl ?_
              refine g_iload (q := 109) dX5_extend_107 rfl rfl ?_
              refine g_aload_n (q := 110) dX5_extend_109 rfl rfl rfl ?_
              refine gf_X5_21 rfl 0 rfl rfl (q := 113) dX5_extend_110 rfl ?_
              refine gf_X5_49 rfl 4 rfl rfl (q := 116) dX5_extend_113 rfl ?_
              refine g_aload_n (q := 117) dX5_extend_116 rfl rfl rfl ?_
              refine gf_X5_15 rfl 0 rfl rfl (q := 120) dX5_extend_117 rfl ?_
              refine g_iconst (v := nI 0) (q := 121) dX5_extend_120 rfl ki_0 ?_
              refine g_iald (v := nI (q 0)) 2 rfl (ixIn (j := 0) rfl (by omega) (by decide)) (ixV (j := 0) rfl (by omega)) (q := 122) dX5_extend_121 rfl ?_
              have hr0 := hr 0 (by omega)
              refine g_top (y := nI (r 0)) (congrArg nI (hI83 0 (by omega))) ?_
              have hb7 := htw (r 0) (by omega)
              refine g_iald (v := nI (tw (r 0))) 5 rfl (ixIn (j := r 0) rfl (by omega) (by decide)) (ixV (j := r 0) rfl (by omega)) (q := 123) dX5_extend_122 rfl ?_
              refine g_icmp_leN (t := 177) (q := 126) dX5_extend_123 (by decide) rfl (by omega) (by omega) (fun c123 => ?_) (fun c123 => ?_)
              · skip
                refine g_iinc (lv' := [(0, _), (1, _), (2, _), (3, _), (4, _), (5, _), (6, _)]) (v := nI (b + 1)) (q := 180) dX5_extend_177 rfl rfl (nI_inc _) (Nat.le_of_ble_eq_true rfl) rfl ?_
                refine g_goto (q := 83) dX5_extend_180 (by decide) ?_
                refine g_less (lv' := [(0, _), (1, _), (2, _), (3, _), (4, _), (5, _)]) 6 rfl ?_
                rw [extF_f (by unfold chdB; rw [decide_eq_false (show ¬ tw (r 0) < tw b by omega)]; rfl), hS] at ih83
                exact ih83 q hI83
              · skip
                refine g_iload_n (q := 127) dX5_extend_126 rfl rfl rfl ?_
                refine g_iload (q := 129) dX5_extend_127 rfl rfl ?_
                refine g_ishr (q := 130) dX5_extend_129 rfl ?_
                refine g_iconst (v := nI 1) (q := 131) dX5_extend_130 rfl ki_1 ?_
                refine g_iand (q := 132) dX5_extend_131 rfl ?_
                refine g_if_ne (t := 177) (q := 135) dX5_extend_132 (by decide) rfl (fun c132 => ?_) (fun c132 => ?_)
                · skip
                  refine g_iinc (lv' := [(0, _), (1, _), (2, _), (3, _), (4, _), (5, _), (6, _)]) (v := nI (b + 1)) (q := 180) dX5_extend_177 rfl rfl (nI_inc _) (Nat.le_of_ble_eq_true rfl) rfl ?_
                  refine g_goto (q := 83) dX5_extend_180 (by decide) ?_
                  refine g_less (lv' := [(0, _), (1, _), (2, _), (3, _), (4, _), (5, _)]) 6 rfl ?_
                  rw [extF_f (by unfold chdB; rw [show usdB tw r size (tw b) = true from (Bool.not_eq_false _).mp (fun z => c132 ((usd_bit (by omega)).mpr z))]; simp), hS] at ih83
                  exact ih83 q hI83
                · skip
                  refine g_aload_n (q := 136) dX5_extend_135 rfl rfl rfl ?_
                  refine g_iload (q := 138) dX5_extend_136 rfl rfl ?_
                  refine g_iload (q := 140) dX5_extend_138 rfl rfl ?_
                  refine gc_X5_56 (c_isWanted (by omega) (by omega)) rfl (Nat.le_of_ble_eq_true rfl) rfl 0 rfl [0, 4, 6, 7, 8] rfl rfl (rest := []) rfl (Nat.le_of_ble_eq_true rfl) (q := 143) dX5_extend_140 rfl (exK (ws' := [_, _, _, _, _, _, _, _, _]) (st' := [.int (bI (wanB sk wn (r (size - 1)) (tw b)))]) rfl rfl ?_)
                  refine g_if_eq (t := 177) (q := 146) dX5_extend_143 (by decide) rfl (fun c143 => ?_) (fun c143 => ?_)
                  · skip
                    refine g_iinc (lv' := [(0, _), (1, _), (2, _), (3, _), (4, _), (5, _), (6, _)]) (v := nI (b + 1)) (q := 180) dX5_extend_177 rfl rfl (nI_inc _) (Nat.le_of_ble_eq_true rfl) rfl ?_
                    refine g_goto (q := 83) dX5_extend_180 (by decide) ?_
                    refine g_less (lv' := [(0, _), (1, _), (2, _), (3, _), (4, _), (5, _)]) 6 rfl ?_
                    rw [extF_f (by unfold chdB; rw [bI_eq0.mp c143]; simp), hS] at ih83
                    exact ih83 q hI83
                  · skip
                    refine g_aload_n (q := 147) dX5_extend_146 rfl rfl rfl ?_
                    refine gf_X5_15 rfl 0 rfl rfl (q := 150) dX5_extend_147 rfl ?_
                    refine g_iload_n (q := 151) dX5_extend_150 rfl rfl rfl ?_
                    refine g_iload (q := 153) dX5_extend_151 rfl rfl ?_
                    refine g_iast (f' := (nA (updn q size b))) 2 rfl (ixIn (j := size) rfl (by omega) (by decide)) (ixUn (j := size) rfl (by omega)) (ws' := [_, _, (_, .inl (_, _, .inl _)), _, _, _, _, _, _]) rfl (q := 154) dX5_extend_153 rfl ?_
                    refine g_aload_n (q := 155) dX5_extend_154 rfl rfl rfl ?_
                    refine g_iload_n (q := 156) dX5_extend_155 rfl rfl rfl ?_
                    refine g_iconst (v := nI 1) (q := 157) dX5_extend_156 rfl ki_1 ?_
                    refine g_iaddN (q := 158) dX5_extend_157 rfl ?_
                    refine g_iload_n (q := 159) dX5_extend_158 rfl rfl rfl ?_
                    refine g_iconst (v := nI 1) (q := 160) dX5_extend_159 rfl ki_1 ?_
                    refine g_iload (q := 162) dX5_extend_160 rfl rfl ?_
                    refine g_ishl (q := 163) dX5_extend_162 rfl ?_
                    refine g_ior (q := 164) dX5_extend_163 rfl ?_
                    refine g_top (y := bitsI (usdB tw (updn q size b) (size + 1)) 6) (usd_or hI83 (by omega)) ?_
                    refine g_iload_n (q := 165) dX5_extend_164 rfl rfl rfl ?_
                    refine g_aload_n (q := 166) dX5_extend_165 rfl rfl rfl ?_
                    refine g_iload (q := 168) dX5_extend_166 rfl rfl ?_
                    refine g_iload (q := 170) dX5_extend_168 rfl rfl ?_
                    refine gc_X5_60 (c_owedFor (by omega) (by omega) (hwo _ (by omega)) (hwo _ (by omega))) rfl (Nat.le_of_ble_eq_true rfl) rfl 0 rfl [0, 3] rfl rfl (rest := [_, _, _, _]) rfl (Nat.le_of_ble_eq_true rfl) (q := 173) dX5_extend_170 rfl (exK (ws' := [_, _, _, _, _, _, _, _, _]) (st' := [.int (nI (owe wo (r (size - 1)) b)), _, _, _, _]) rfl rfl ?_)
                    refine g_iaddN (q := 174) dX5_extend_173 rfl ?_
                    have ho := owe_le hwo (b := b) (hr (size - 1) (by omega))
                    refine gc_X5_52 (ih (by omega) (by omega) (fun k hk => by unfold updn; split; omega; rw [hI83 k (by omega)]; exact hr k (by omega)) (by omega) hS1) rfl (Nat.le_refl _) rfl 0 rfl [0, 1, 2, 3, 4, 5, 6, 7, 8] rfl rfl (rest := []) rfl (Nat.le_of_ble_eq_true rfl) (q := 177) dX5_extend_174 rfl (exKPM rfl (fun q2 hq2 => ?_))
                    refine g_eq (ws' := [(q0, .inr (5, [.int (nI ((extC nb tw sk wn wo f (size + 1) (updn q size b) (ch + owe wo (r (size - 1)) b) (s1, s2, s3)).1)), .int (nI ((extC nb tw sk wn wo f (size + 1) (updn q size b) (ch + owe wo (r (size - 1)) b) (s1, s2, s3)).2.1)), .ref qb, .ref qr, .ref qw, .ref f0, .ref l0])), (qb, .inl (E.2.1.1, 6, .inl (nA ((extC nb tw sk wn wo f (size + 1) (updn q size b) (ch + owe wo (r (size - 1)) b) (s1, s2, s3)).2.2)))), (qr, .inl (E.2.1.1, 6, .inl (nA (q2)))), (qw, .inl (E.2.1.1, 10, .inl (nA (wo)))), (f0, .inr (2, [.int (nI (nb)), .int (yr), .ref fk, .ref ft, .ref fw, .ref fs, .ref fg, .ref fc])), (ft, .inl (E.2.1.1, 10, .inl (nA (tw)))), (fs, .inl (E.2.1.1, 10, .inl (nA (sk)))), (l0, .inr (3, [.int (nI (nt)), .int (nI (lw)), .int (nI (sl)), .ref lc, .ref lr, .ref lf, .ref lv, .ref ln, .ref t0])), (lv, .inl (E.2.1.1, 6, .inl (wn)))]) (st' := []) ?_ rfl rfl rfl
                    refine g_iinc (lv' := [(0, _), (1, _), (2, _), (3, _), (4, _), (5, _), (6, _)]) (v := nI (b + 1)) (q := 180) dX5_extend_177 rfl rfl (nI_inc _) (Nat.le_of_ble_eq_true rfl) rfl ?_
                    refine g_goto (q := 83) dX5_extend_180 (by decide) ?_
                    refine g_less (lv' := [(0, _), (1, _), (2, _), (3, _), (4, _), (5, _)]) 6 rfl ?_
                    rw [extF_t (by unfold chdB; rw [decide_eq_true (show tw (r 0) < tw b by omega), (usd_bit (by omega)).mp c132, bI_ne0.mp c143]; rfl), hS, ← extC_c (q := updn q size b) (by omega) (agr_upd hI83)] at ih83
                    exact ih83 q2 (fun k hk => by rw [hq2 k (by omega), updn_n (by omega)]; exact hI83 k hk)
          · intro q hI83
            show G E _ [(q0, .inr (5, [.int (nI ((extF nb tw sk wn wo f size r ch (nodeB tw sk wn wo size r ch (bs, bc, be)) nb).1)), .int (nI ((extF nb tw sk wn wo f size r ch (nodeB tw sk wn wo size r ch (bs, bc, be)) nb).2.1)), .ref qb, .ref qr, .ref qw, .ref f0, .ref l0])), (qb, .inl (E.2.1.1, 6, .inl (nA ((extF nb tw sk wn wo f size r ch (nodeB tw sk wn wo size r ch (bs, bc, be)) nb).2.2)))), (qr, .inl (E.2.1.1, 6, .inl (nA (q)))), (qw, .inl (E.2.1.1, 10, .inl (nA (wo)))), (f0, .inr (2, [.int (nI (nb)), .int (yr), .ref fk, .ref ft, .ref fw, .ref fs, .ref fg, .ref fc])), (ft, .inl (E.2.1.1, 10, .inl (nA (tw)))), (fs, .inl (E.2.1.1, 10, .inl (nA (sk)))), (l0, .inr (3, [.int (nI (nt)), .int (nI (lw)), .int (nI (sl)), .ref lc, .ref lr, .ref lf, .ref lv, .ref ln, .ref t0])), (lv, .inl (E.2.1.1, 6, .inl (wn)))] 83 [(0, .ref q0), (1, .int (nI (size))), (2, .int (bitsI (usdB tw r size) 6)), (3, .int (nI (ch))), (4, .int (nI (r (size - 1)))), (5, .int (nI (nb)))] []
            refine g_iload (q := 85) dX5_extend_83 rfl rfl ?_
            refine g_aload_n (q := 86) dX5_extend_85 rfl rfl rfl ?_
            refine gf_X5_21 rfl 0 rfl rfl (q := 89) dX5_extend_86 rfl ?_
            refine gf_X5_36 rfl 4 rfl rfl (q := 92) dX5_extend_89 rfl ?_
            refine g_icmp_geN (t := 183) (q := 95) dX5_extend_92 (by decide) rfl (by omega) (by omega) (fun c92 => ?_) (fun c92 => ?_)
            · skip
              refine g_vret (st := []) dX5_extend_183 rfl rfl ?_
              exact ⟨q, hI83, xv (by rw [extC_s (show ¬ (0 < bs ∧ bc ≤ ch) by omega)])⟩
            · omega
        · omega
      · skip
        refine g_aload_n (q := 55) dX5_extend_54 rfl rfl rfl ?_
        refine g_iload_n (q := 56) dX5_extend_55 rfl rfl rfl ?_
        refine g_iload_n (q := 57) dX5_extend_56 rfl rfl rfl ?_
        refine g_aload_n (q := 58) dX5_extend_57 rfl rfl rfl ?_
        refine g_iload (q := 60) dX5_extend_58 rfl rfl ?_
        refine g_aload_n (q := 61) dX5_extend_60 rfl rfl rfl ?_
        refine gf_X5_15 rfl 0 rfl rfl (q := 64) dX5_extend_61 rfl ?_
        refine g_iconst (v := nI 0) (q := 65) dX5_extend_64 rfl ki_0 ?_
        have hb8 := hr (0) (by omega)
        refine g_iald (v := nI (r 0)) 2 rfl (ixIn (j := 0) rfl (by omega) (by decide)) (ixV (j := 0) rfl (by omega)) (q := 66) dX5_extend_65 rfl ?_
        refine gc_X5_60 (c_owedFor (by omega) (by omega) (hwo _ (by omega)) (hwo _ (by omega))) rfl (Nat.le_of_ble_eq_true rfl) rfl 0 rfl [0, 3] rfl rfl (rest := [_, _, _]) rfl (Nat.le_of_ble_eq_true rfl) (q := 69) dX5_extend_66 rfl (exK (ws' := [_, _, _, _, _, _, _, _, _]) (st' := [.int (nI (owe wo (r (size - 1)) (r 0))), _, _, _]) rfl rfl ?_)
        refine g_iaddN (q := 70) dX5_extend_69 rfl ?_
        have ho := owe_le hwo (b := r 0) (hr (size - 1) (by omega))
        refine gc_X5_64 (c_takeIfBetter (by omega) (by omega) hB.1 hB.2) rfl (Nat.le_of_ble_eq_true rfl) rfl 0 rfl [0, 1, 2] rfl rfl (rest := []) rfl (Nat.le_of_ble_eq_true rfl) (q := 73) dX5_extend_70 rfl (exK (ws' := [(_, .inr (_, [_, _, _, _, _, _, _])), (_, .inl (_, _, .inl _)), (_, .inl (_, _, .inl _)), _, _, _, _, _, _]) (st' := []) rfl rfl ?_)
        refine g_eq (ws' := [(q0, .inr (5, [.int (nI ((nodeB tw sk wn wo size r ch (bs, bc, be)).1)), .int (nI ((nodeB tw sk wn wo size r ch (bs, bc, be)).2.1)), .ref qb, .ref qr, .ref qw, .ref f0, .ref l0])), (qb, .inl (E.2.1.1, 6, .inl (nA ((nodeB tw sk wn wo size r ch (bs, bc, be)).2.2)))), (qr, .inl (E.2.1.1, 6, .inl (nA (r)))), (qw, .inl (E.2.1.1, 10, .inl (nA (wo)))), (f0, .inr (2, [.int (nI (nb)), .int (yr), .ref fk, .ref ft, .ref fw, .ref fs, .ref fg, .ref fc])), (ft, .inl (E.2.1.1, 10, .inl (nA (tw)))), (fs, .inl (E.2.1.1, 10, .inl (nA (sk)))), (l0, .inr (3, [.int (nI (nt)), .int (nI (lw)), .int (nI (sl)), .ref lc, .ref lr, .ref lf, .ref lv, .ref ln, .ref t0])), (lv, .inl (E.2.1.1, 6, .inl (wn)))]) ?_ (by rw [show nodeB tw sk wn wo size r ch (bs, bc, be) = takeB size (ch + owe wo (r (size - 1)) (r 0)) r (bs, bc, be) from if_pos (by simp [clsB, bI_ne0.mp c51]; omega)]) rfl rfl
        have hN : okBt (nodeB tw sk wn wo size r ch (bs, bc, be)) := nodeB_ok hwo (by omega) h0 hr hch hB
        refine g_iload_n (q := 74) dX5_extend_73 rfl rfl rfl ?_
        refine g_bipush (v := nI 6) (q := 76) dX5_extend_74 rfl kb_6 ?_
        refine g_icmp_ltN (t := 80) (q := 79) dX5_extend_76 (by decide) rfl (by omega) (by omega) (fun c76 => ?_) (fun c76 => ?_)
        · skip
          refine g_iconst (v := nI 0) (q := 81) dX5_extend_80 rfl ki_0 ?_
          refine g_istore (lv' := [(0, _), (1, _), (2, _), (3, _), (4, _), (5, _)]) (q := 83) dX5_extend_81 rfl (Nat.le_of_ble_eq_true rfl) rfl ?_
          refine g_loopG (σ := Nat → Nat) (nb) (fun b q => agr q r size) (fun b q => [(q0, .inr (5, [.int (nI ((extF nb tw sk wn wo f size r ch (nodeB tw sk wn wo size r ch (bs, bc, be)) b).1)), .int (nI ((extF nb tw sk wn wo f size r ch (nodeB tw sk wn wo size r ch (bs, bc, be)) b).2.1)), .ref qb, .ref qr, .ref qw, .ref f0, .ref l0])), (qb, .inl (E.2.1.1, 6, .inl (nA ((extF nb tw sk wn wo f size r ch (nodeB tw sk wn wo size r ch (bs, bc, be)) b).2.2)))), (qr, .inl (E.2.1.1, 6, .inl (nA (q)))), (qw, .inl (E.2.1.1, 10, .inl (nA (wo)))), (f0, .inr (2, [.int (nI (nb)), .int (yr), .ref fk, .ref ft, .ref fw, .ref fs, .ref fg, .ref fc])), (ft, .inl (E.2.1.1, 10, .inl (nA (tw)))), (fs, .inl (E.2.1.1, 10, .inl (nA (sk)))), (l0, .inr (3, [.int (nI (nt)), .int (nI (lw)), .int (nI (sl)), .ref lc, .ref lr, .ref lf, .ref lv, .ref ln, .ref t0])), (lv, .inl (E.2.1.1, 6, .inl (wn)))]) (fun b q => [(0, .ref q0), (1, .int (nI (size))), (2, .int (bitsI (usdB tw r size) 6)), (3, .int (nI (ch))), (4, .int (nI (r (size - 1)))), (5, .int (nI (b)))]) ?_ ?_ 0 (Nat.zero_le _) (r) (fun k hk => rfl)
          · intro b q hb83 hI83 ih83
            have hS1 := extF_ok (tw := tw) (sk := sk) (wn := wn) hwo hs h0 hr hch hN (n := b) (by omega)
            generalize hS : (extF nb tw sk wn wo f size r ch (nodeB tw sk wn wo size r ch (bs, bc, be)) b) = S at hS1 ⊢
            obtain ⟨s1, s2, s3⟩ := S
            have hrl := hr (size - 1) (by omega)
            show G E _ [(q0, .inr (5, [.int (nI (s1)), .int (nI (s2)), .ref qb, .ref qr, .ref qw, .ref f0, .ref l0])), (qb, .inl (E.2.1.1, 6, .inl (nA (s3)))), (qr, .inl (E.2.1.1, 6, .inl (nA (q)))), (qw, .inl (E.2.1.1, 10, .inl (nA (wo)))), (f0, .inr (2, [.int (nI (nb)), .int (yr), .ref fk, .ref ft, .ref fw, .ref fs, .ref fg, .ref fc])), (ft, .inl (E.2.1.1, 10, .inl (nA (tw)))), (fs, .inl (E.2.1.1, 10, .inl (nA (sk)))), (l0, .inr (3, [.int (nI (nt)), .int (nI (lw)), .int (nI (sl)), .ref lc, .ref lr, .ref lf, .ref lv, .ref ln, .ref t0])), (lv, .inl (E.2.1.1, 6, .inl (wn)))] 83 [(0, .ref q0), (1, .int (nI (size))), (2, .int (bitsI (usdB tw r size) 6)), (3, .int (nI (ch))), (4, .int (nI (r (size - 1)))), (5, .int (nI (b)))] []
            refine g_iload (q := 85) dX5_extend_83 rfl rfl ?_
            refine g_aload_n (q := 86) dX5_extend_85 rfl rfl rfl ?_
            refine gf_X5_21 rfl 0 rfl rfl (q := 89) dX5_extend_86 rfl ?_
            refine gf_X5_36 rfl 4 rfl rfl (q := 92) dX5_extend_89 rfl ?_
            refine g_icmp_geN (t := 183) (q := 95) dX5_extend_92 (by decide) rfl (by omega) (by omega) (fun c92 => ?_) (fun c92 => ?_)
            · omega
            · skip
              refine g_aload_n (q := 96) dX5_extend_95 rfl rfl rfl ?_
              refine gf_X5_21 rfl 0 rfl rfl (q := 99) dX5_extend_96 rfl ?_
              refine gf_X5_49 rfl 4 rfl rfl (q := 102) dX5_extend_99 rfl ?_
              refine g_iload (q := 104) dX5_extend_102 rfl rfl ?_
              have hb9 := htw (b) (by omega)
              refine g_iald (v := nI (tw b)) 5 rfl (ixIn (j := b) rfl (by omega) (by decide)) (ixV (j := b) rfl (by omega)) (q := 105) dX5_extend_104 rfl ?_
              refine g_istore (lv' := [(0, _), (1, _), (2, _), (3, _), (4, _), (5, _), (6, _)]) (q := 107) dX5_extend_105 rfl (Nat.le_of_ble_eq_true rfl) rfl ?_
              refine g_iload (q := 109) dX5_extend_107 rfl rfl ?_
              refine g_aload_n (q := 110) dX5_extend_109 rfl rfl rfl ?_
              refine gf_X5_21 rfl 0 rfl rfl (q := 113) dX5_extend_110 rfl ?_
              refine gf_X5_49 rfl 4 rfl rfl (q := 116) dX5_extend_113 rfl ?_
              refine g_aload_n (q := 117) dX5_extend_116 rfl rfl rfl ?_
              refine gf_X5_15 rfl 0 rfl rfl (q := 120) dX5_extend_117 rfl ?_
              refine g_iconst (v := nI 0) (q := 121) dX5_extend_120 rfl ki_0 ?_
              refine g_iald (v := nI (q 0)) 2 rfl (ixIn (j := 0) rfl (by omega) (by decide)) (ixV (j := 0) rfl (by omega)) (q := 122) dX5_extend_121 rfl ?_
              have hr0 := hr 0 (by omega)
              refine g_top (y := nI (r 0)) (congrArg nI (hI83 0 (by omega))) ?_
              have hb10 := htw (r 0) (by omega)
              refine g_iald (v := nI (tw (r 0))) 5 rfl (ixIn (j := r 0) rfl (by omega) (by decide)) (ixV (j := r 0) rfl (by omega)) (q := 123) dX5_extend_122 rfl ?_
              refine g_icmp_leN (t := 177) (q := 126) dX5_extend_123 (by decide) rfl (by omega) (by omega) (fun c123 => ?_) (fun c123 => ?_)
              · skip
                refine g_iinc (lv' := [(0, _), (1, _), (2, _), (3, _), (4, _), (5, _), (6, _)]) (v := nI (b + 1)) (q := 180) dX5_extend_177 rfl rfl (nI_inc _) (Nat.le_of_ble_eq_true rfl) rfl ?_
                refine g_goto (q := 83) dX5_extend_180 (by decide) ?_
                refine g_less (lv' := [(0, _), (1, _), (2, _), (3, _), (4, _), (5, _)]) 6 rfl ?_
                rw [extF_f (by unfold chdB; rw [decide_eq_false (show ¬ tw (r 0) < tw b by omega)]; rfl), hS] at ih83
                exact ih83 q hI83
              · skip
                refine g_iload_n (q := 127) dX5_extend_126 rfl rfl rfl ?_
                refine g_iload (q := 129) dX5_extend_127 rfl rfl ?_
                refine g_ishr (q := 130) dX5_extend_129 rfl ?_
                refine g_iconst (v := nI 1) (q := 131) dX5_extend_130 rfl ki_1 ?_
                refine g_iand (q := 132) dX5_extend_131 rfl ?_
                refine g_if_ne (t := 177) (q := 135) dX5_extend_132 (by decide) rfl (fun c132 => ?_) (fun c132 => ?_)
                · skip
                  refine g_iinc (lv' := [(0, _), (1, _), (2, _), (3, _), (4, _), (5, _), (6, _)]) (v := nI (b + 1)) (q := 180) dX5_extend_177 rfl rfl (nI_inc _) (Nat.le_of_ble_eq_true rfl) rfl ?_
                  refine g_goto (q := 83) dX5_extend_180 (by decide) ?_
                  refine g_less (lv' := [(0, _), (1, _), (2, _), (3, _), (4, _), (5, _)]) 6 rfl ?_
                  rw [extF_f (by unfold chdB; rw [show usdB tw r size (tw b) = true from (Bool.not_eq_false _).mp (fun z => c132 ((usd_bit (by omega)).mpr z))]; simp), hS] at ih83
                  exact ih83 q hI83
                · skip
                  refine g_aload_n (q := 136) dX5_extend_135 rfl rfl rfl ?_
                  refine g_iload (q := 138) dX5_extend_136 rfl rfl ?_
                  refine g_iload (q := 140) dX5_extend_138 rfl rfl ?_
                  refine gc_X5_56 (c_isWanted (by omega) (by omega)) rfl (Nat.le_of_ble_eq_true rfl) rfl 0 rfl [0, 4, 6, 7, 8] rfl rfl (rest := []) rfl (Nat.le_of_ble_eq_true rfl) (q := 143) dX5_extend_140 rfl (exK (ws' := [_, _, _, _, _, _, _, _, _]) (st' := [.int (bI (wanB sk wn (r (size - 1)) (tw b)))]) rfl rfl ?_)
                  refine g_if_eq (t := 177) (q := 146) dX5_extend_143 (by decide) rfl (fun c143 => ?_) (fun c143 => ?_)
                  · skip
                    refine g_iinc (lv' := [(0, _), (1, _), (2, _), (3, _), (4, _), (5, _), (6, _)]) (v := nI (b + 1)) (q := 180) dX5_extend_177 rfl rfl (nI_inc _) (Nat.le_of_ble_eq_true rfl) rfl ?_
                    refine g_goto (q := 83) dX5_extend_180 (by decide) ?_
                    refine g_less (lv' := [(0, _), (1, _), (2, _), (3, _), (4, _), (5, _)]) 6 rfl ?_
                    rw [extF_f (by unfold chdB; rw [bI_eq0.mp c143]; simp), hS] at ih83
                    exact ih83 q hI83
                  · skip
                    refine g_aload_n (q := 147) dX5_extend_146 rfl rfl rfl ?_
                    refine gf_X5_15 rfl 0 rfl rfl (q := 150) dX5_extend_147 rfl ?_
                    refine g_iload_n (q := 151) dX5_extend_150 rfl rfl rfl ?_
                    refine g_iload (q := 153) dX5_extend_151 rfl rfl ?_
                    refine g_iast (f' := (nA (updn q size b))) 2 rfl (ixIn (j := size) rfl (by omega) (by decide)) (ixUn (j := size) rfl (by omega)) (ws' := [_, _, (_, .inl (_, _, .inl _)), _, _, _, _, _, _]) rfl (q := 154) dX5_extend_153 rfl ?_
                    refine g_aload_n (q := 155) dX5_extend_154 rfl rfl rfl ?_
                    refine g_iload_n (q := 156) dX5_extend_155 rfl rfl rfl ?_
                    refine g_iconst (v := nI 1) (q := 157) dX5_extend_156 rfl ki_1 ?_
                    refine g_iaddN (q := 158) dX5_extend_157 rfl ?_
                    refine g_iload_n (q := 159) dX5_extend_158 rfl rfl rfl ?_
                    refine g_iconst (v := nI 1) (q := 160) dX5_extend_159 rfl ki_1 ?_
                    refine g_iload (q := 162) dX5_extend_160 rfl rfl ?_
                    refine g_ishl (q := 163) dX5_extend_162 rfl ?_
                    refine g_ior (q := 164) dX5_extend_163 rfl ?_
                    refine g_top (y := bitsI (usdB tw (updn q size b) (size + 1)) 6) (usd_or hI83 (by omega)) ?_
                    refine g_iload_n (q := 165) dX5_extend_164 rfl rfl rfl ?_
                    refine g_aload_n (q := 166) dX5_extend_165 rfl rfl rfl ?_
                    refine g_iload (q := 168) dX5_extend_166 rfl rfl ?_
                    refine g_iload (q := 170) dX5_extend_168 rfl rfl ?_
                    refine gc_X5_60 (c_owedFor (by omega) (by omega) (hwo _ (by omega)) (hwo _ (by omega))) rfl (Nat.le_of_ble_eq_true rfl) rfl 0 rfl [0, 3] rfl rfl (rest := [_, _, _, _]) rfl (Nat.le_of_ble_eq_true rfl) (q := 173) dX5_extend_170 rfl (exK (ws' := [_, _, _, _, _, _, _, _, _]) (st' := [.int (nI (owe wo (r (size - 1)) b)), _, _, _, _]) rfl rfl ?_)
                    refine g_iaddN (q := 174) dX5_extend_173 rfl ?_
                    have ho := owe_le hwo (b := b) (hr (size - 1) (by omega))
                    refine gc_X5_52 (ih (by omega) (by omega) (fun k hk => by unfold updn; split; omega; rw [hI83 k (by omega)]; exact hr k (by omega)) (by omega) hS1) rfl (Nat.le_refl _) rfl 0 rfl [0, 1, 2, 3, 4, 5, 6, 7, 8] rfl rfl (rest := []) rfl (Nat.le_of_ble_eq_true rfl) (q := 177) dX5_extend_174 rfl (exKPM rfl (fun q2 hq2 => ?_))
                    refine g_eq (ws' := [(q0, .inr (5, [.int (nI ((extC nb tw sk wn wo f (size + 1) (updn q size b) (ch + owe wo (r (size - 1)) b) (s1, s2, s3)).1)), .int (nI ((extC nb tw sk wn wo f (size + 1) (updn q size b) (ch + owe wo (r (size - 1)) b) (s1, s2, s3)).2.1)), .ref qb, .ref qr, .ref qw, .ref f0, .ref l0])), (qb, .inl (E.2.1.1, 6, .inl (nA ((extC nb tw sk wn wo f (size + 1) (updn q size b) (ch + owe wo (r (size - 1)) b) (s1, s2, s3)).2.2)))), (qr, .inl (E.2.1.1, 6, .inl (nA (q2)))), (qw, .inl (E.2.1.1, 10, .inl (nA (wo)))), (f0, .inr (2, [.int (nI (nb)), .int (yr), .ref fk, .ref ft, .ref fw, .ref fs, .ref fg, .ref fc])), (ft, .inl (E.2.1.1, 10, .inl (nA (tw)))), (fs, .inl (E.2.1.1, 10, .inl (nA (sk)))), (l0, .inr (3, [.int (nI (nt)), .int (nI (lw)), .int (nI (sl)), .ref lc, .ref lr, .ref lf, .ref lv, .ref ln, .ref t0])), (lv, .inl (E.2.1.1, 6, .inl (wn)))]) (st' := []) ?_ rfl rfl rfl
                    refine g_iinc (lv' := [(0, _), (1, _), (2, _), (3, _), (4, _), (5, _), (6, _)]) (v := nI (b + 1)) (q := 180) dX5_extend_177 rfl rfl (nI_inc _) (Nat.le_of_ble_eq_true rfl) rfl ?_
                    refine g_goto (q := 83) dX5_extend_180 (by decide) ?_
                    refine g_less (lv' := [(0, _), (1, _), (2, _), (3, _), (4, _), (5, _)]) 6 rfl ?_
                    rw [extF_t (by unfold chdB; rw [decide_eq_true (show tw (r 0) < tw b by omega), (usd_bit (by omega)).mp c132, bI_ne0.mp c143]; rfl), hS, ← extC_c (q := updn q size b) (by omega) (agr_upd hI83)] at ih83
                    exact ih83 q2 (fun k hk => by rw [hq2 k (by omega), updn_n (by omega)]; exact hI83 k hk)
          · intro q hI83
            show G E _ [(q0, .inr (5, [.int (nI ((extF nb tw sk wn wo f size r ch (nodeB tw sk wn wo size r ch (bs, bc, be)) nb).1)), .int (nI ((extF nb tw sk wn wo f size r ch (nodeB tw sk wn wo size r ch (bs, bc, be)) nb).2.1)), .ref qb, .ref qr, .ref qw, .ref f0, .ref l0])), (qb, .inl (E.2.1.1, 6, .inl (nA ((extF nb tw sk wn wo f size r ch (nodeB tw sk wn wo size r ch (bs, bc, be)) nb).2.2)))), (qr, .inl (E.2.1.1, 6, .inl (nA (q)))), (qw, .inl (E.2.1.1, 10, .inl (nA (wo)))), (f0, .inr (2, [.int (nI (nb)), .int (yr), .ref fk, .ref ft, .ref fw, .ref fs, .ref fg, .ref fc])), (ft, .inl (E.2.1.1, 10, .inl (nA (tw)))), (fs, .inl (E.2.1.1, 10, .inl (nA (sk)))), (l0, .inr (3, [.int (nI (nt)), .int (nI (lw)), .int (nI (sl)), .ref lc, .ref lr, .ref lf, .ref lv, .ref ln, .ref t0])), (lv, .inl (E.2.1.1, 6, .inl (wn)))] 83 [(0, .ref q0), (1, .int (nI (size))), (2, .int (bitsI (usdB tw r size) 6)), (3, .int (nI (ch))), (4, .int (nI (r (size - 1)))), (5, .int (nI (nb)))] []
            refine g_iload (q := 85) dX5_extend_83 rfl rfl ?_
            refine g_aload_n (q := 86) dX5_extend_85 rfl rfl rfl ?_
            refine gf_X5_21 rfl 0 rfl rfl (q := 89) dX5_extend_86 rfl ?_
            refine gf_X5_36 rfl 4 rfl rfl (q := 92) dX5_extend_89 rfl ?_
            refine g_icmp_geN (t := 183) (q := 95) dX5_extend_92 (by decide) rfl (by omega) (by omega) (fun c92 => ?_) (fun c92 => ?_)
            · skip
              refine g_vret (st := []) dX5_extend_183 rfl rfl ?_
              exact ⟨q, hI83, xv (by rw [extC_s (show ¬ (0 < bs ∧ bc ≤ ch) by omega)])⟩
            · omega
        · omega
  · have d4 : ¬ bs = 0 := fun z => c4 ((nI_le0 (by omega)).mpr z)
    refine g_iload_n (q := 8) dX5_extend_7 rfl rfl rfl ?_
    refine g_aload_n (q := 9) dX5_extend_8 rfl rfl rfl ?_
    refine gf_X5_33 rfl 0 rfl rfl (q := 12) dX5_extend_9 rfl ?_
    refine g_icmp_ltN (t := 16) (q := 15) dX5_extend_12 (by decide) rfl (by omega) (by omega) (fun c12 => ?_) (fun c12 => ?_)
    · skip
      refine g_aload_n (q := 17) dX5_extend_16 rfl rfl rfl ?_
      refine gf_X5_15 rfl 0 rfl rfl (q := 20) dX5_extend_17 rfl ?_
      refine g_iload_n (q := 21) dX5_extend_20 rfl rfl rfl ?_
      refine g_iconst (v := nI 1) (q := 22) dX5_extend_21 rfl ki_1 ?_
      refine g_isubN (q := 23) dX5_extend_22 rfl (by omega) ?_
      have hb11 := hr (size - 1) (by omega)
      refine g_iald (v := nI (r (size - 1))) 2 rfl (ixIn (j := size - 1) rfl (by omega) (by decide)) (ixV (j := size - 1) rfl (by omega)) (q := 24) dX5_extend_23 rfl ?_
      refine g_istore (lv' := [(0, _), (1, _), (2, _), (3, _), (4, _)]) (q := 26) dX5_extend_24 rfl (Nat.le_of_ble_eq_true rfl) rfl ?_
      refine g_iload_n (q := 27) dX5_extend_26 rfl rfl rfl ?_
      refine g_iconst (v := nI 1) (q := 28) dX5_extend_27 rfl ki_1 ?_
      refine g_icmp_leN (t := 73) (q := 31) dX5_extend_28 (by decide) rfl (by omega) (by omega) (fun c28 => ?_) (fun c28 => ?_)
      · skip
        refine g_eq (ws' := [(q0, .inr (5, [.int (nI ((nodeB tw sk wn wo size r ch (bs, bc, be)).1)), .int (nI ((nodeB tw sk wn wo size r ch (bs, bc, be)).2.1)), .ref qb, .ref qr, .ref qw, .ref f0, .ref l0])), (qb, .inl (E.2.1.1, 6, .inl (nA ((nodeB tw sk wn wo size r ch (bs, bc, be)).2.2)))), (qr, .inl (E.2.1.1, 6, .inl (nA (r)))), (qw, .inl (E.2.1.1, 10, .inl (nA (wo)))), (f0, .inr (2, [.int (nI (nb)), .int (yr), .ref fk, .ref ft, .ref fw, .ref fs, .ref fg, .ref fc])), (ft, .inl (E.2.1.1, 10, .inl (nA (tw)))), (fs, .inl (E.2.1.1, 10, .inl (nA (sk)))), (l0, .inr (3, [.int (nI (nt)), .int (nI (lw)), .int (nI (sl)), .ref lc, .ref lr, .ref lf, .ref lv, .ref ln, .ref t0])), (lv, .inl (E.2.1.1, 6, .inl (wn)))]) ?_ (by rw [show nodeB tw sk wn wo size r ch (bs, bc, be) = (bs, bc, be) from if_neg (by simp [clsB]; omega)]) rfl rfl
        have hN : okBt (nodeB tw sk wn wo size r ch (bs, bc, be)) := nodeB_ok hwo (by omega) h0 hr hch hB
        refine g_iload_n (q := 74) dX5_extend_73 rfl rfl rfl ?_
        refine g_bipush (v := nI 6) (q := 76) dX5_extend_74 rfl kb_6 ?_
        refine g_icmp_ltN (t := 80) (q := 79) dX5_extend_76 (by decide) rfl (by omega) (by omega) (fun c76 => ?_) (fun c76 => ?_)
        · skip
          refine g_iconst (v := nI 0) (q := 81) dX5_extend_80 rfl ki_0 ?_
          refine g_istore (lv' := [(0, _), (1, _), (2, _), (3, _), (4, _), (5, _)]) (q := 83) dX5_extend_81 rfl (Nat.le_of_ble_eq_true rfl) rfl ?_
          refine g_loopG (σ := Nat → Nat) (nb) (fun b q => agr q r size) (fun b q => [(q0, .inr (5, [.int (nI ((extF nb tw sk wn wo f size r ch (nodeB tw sk wn wo size r ch (bs, bc, be)) b).1)), .int (nI ((extF nb tw sk wn wo f size r ch (nodeB tw sk wn wo size r ch (bs, bc, be)) b).2.1)), .ref qb, .ref qr, .ref qw, .ref f0, .ref l0])), (qb, .inl (E.2.1.1, 6, .inl (nA ((extF nb tw sk wn wo f size r ch (nodeB tw sk wn wo size r ch (bs, bc, be)) b).2.2)))), (qr, .inl (E.2.1.1, 6, .inl (nA (q)))), (qw, .inl (E.2.1.1, 10, .inl (nA (wo)))), (f0, .inr (2, [.int (nI (nb)), .int (yr), .ref fk, .ref ft, .ref fw, .ref fs, .ref fg, .ref fc])), (ft, .inl (E.2.1.1, 10, .inl (nA (tw)))), (fs, .inl (E.2.1.1, 10, .inl (nA (sk)))), (l0, .inr (3, [.int (nI (nt)), .int (nI (lw)), .int (nI (sl)), .ref lc, .ref lr, .ref lf, .ref lv, .ref ln, .ref t0])), (lv, .inl (E.2.1.1, 6, .inl (wn)))]) (fun b q => [(0, .ref q0), (1, .int (nI (size))), (2, .int (bitsI (usdB tw r size) 6)), (3, .int (nI (ch))), (4, .int (nI (r (size - 1)))), (5, .int (nI (b)))]) ?_ ?_ 0 (Nat.zero_le _) (r) (fun k hk => rfl)
          · intro b q hb83 hI83 ih83
            have hS1 := extF_ok (tw := tw) (sk := sk) (wn := wn) hwo hs h0 hr hch hN (n := b) (by omega)
            generalize hS : (extF nb tw sk wn wo f size r ch (nodeB tw sk wn wo size r ch (bs, bc, be)) b) = S at hS1 ⊢
            obtain ⟨s1, s2, s3⟩ := S
            have hrl := hr (size - 1) (by omega)
            show G E _ [(q0, .inr (5, [.int (nI (s1)), .int (nI (s2)), .ref qb, .ref qr, .ref qw, .ref f0, .ref l0])), (qb, .inl (E.2.1.1, 6, .inl (nA (s3)))), (qr, .inl (E.2.1.1, 6, .inl (nA (q)))), (qw, .inl (E.2.1.1, 10, .inl (nA (wo)))), (f0, .inr (2, [.int (nI (nb)), .int (yr), .ref fk, .ref ft, .ref fw, .ref fs, .ref fg, .ref fc])), (ft, .inl (E.2.1.1, 10, .inl (nA (tw)))), (fs, .inl (E.2.1.1, 10, .inl (nA (sk)))), (l0, .inr (3, [.int (nI (nt)), .int (nI (lw)), .int (nI (sl)), .ref lc, .ref lr, .ref lf, .ref lv, .ref ln, .ref t0])), (lv, .inl (E.2.1.1, 6, .inl (wn)))] 83 [(0, .ref q0), (1, .int (nI (size))), (2, .int (bitsI (usdB tw r size) 6)), (3, .int (nI (ch))), (4, .int (nI (r (size - 1)))), (5, .int (nI (b)))] []
            refine g_iload (q := 85) dX5_extend_83 rfl rfl ?_
            refine g_aload_n (q := 86) dX5_extend_85 rfl rfl rfl ?_
            refine gf_X5_21 rfl 0 rfl rfl (q := 89) dX5_extend_86 rfl ?_
            refine gf_X5_36 rfl 4 rfl rfl (q := 92) dX5_extend_89 rfl ?_
            refine g_icmp_geN (t := 183) (q := 95) dX5_extend_92 (by decide) rfl (by omega) (by omega) (fun c92 => ?_) (fun c92 => ?_)
            · omega
            · skip
              refine g_aload_n (q := 96) dX5_extend_95 rfl rfl rfl ?_
              refine gf_X5_21 rfl 0 rfl rfl (q := 99) dX5_extend_96 rfl ?_
              refine gf_X5_49 rfl 4 rfl rfl (q := 102) dX5_extend_99 rfl ?_
              refine g_iload (q := 104) dX5_extend_102 rfl rfl ?_
              have hb12 := htw (b) (by omega)
              refine g_iald (v := nI (tw b)) 5 rfl (ixIn (j := b) rfl (by omega) (by decide)) (ixV (j := b) rfl (by omega)) (q := 105) dX5_extend_104 rfl ?_
              refine g_istore (lv' := [(0, _), (1, _), (2, _), (3, _), (4, _), (5, _), (6, _)]) (q := 107) dX5_extend_105 rfl (Nat.le_of_ble_eq_true rfl) rfl ?_
              refine g_iload (q := 109) dX5_extend_107 rfl rfl ?_
              refine g_aload_n (q := 110) dX5_extend_109 rfl rfl rfl ?_
              refine gf_X5_21 rfl 0 rfl rfl (q := 113) dX5_extend_110 rfl ?_
              refine gf_X5_49 rfl 4 rfl rfl (q := 116) dX5_extend_113 rfl ?_
              refine g_aload_n (q := 117) dX5_extend_116 rfl rfl rfl ?_
              refine gf_X5_15 rfl 0 rfl rfl (q := 120) dX5_extend_117 rfl ?_
              refine g_iconst (v := nI 0) (q := 121) dX5_extend_120 rfl ki_0 ?_
              refine g_iald (v := nI (q 0)) 2 rfl (ixIn (j := 0) rfl (by omega) (by decide)) (ixV (j := 0) rfl (by omega)) (q := 122) dX5_extend_121 rfl ?_
              have hr0 := hr 0 (by omega)
              refine g_top (y := nI (r 0)) (congrArg nI (hI83 0 (by omega))) ?_
              have hb13 := htw (r 0) (by omega)
              refine g_iald (v := nI (tw (r 0))) 5 rfl (ixIn (j := r 0) rfl (by omega) (by decide)) (ixV (j := r 0) rfl (by omega)) (q := 123) dX5_extend_122 rfl ?_
              refine g_icmp_leN (t := 177) (q := 126) dX5_extend_123 (by decide) rfl (by omega) (by omega) (fun c123 => ?_) (fun c123 => ?_)
              · skip
                refine g_iinc (lv' := [(0, _), (1, _), (2, _), (3, _), (4, _), (5, _), (6, _)]) (v := nI (b + 1)) (q := 180) dX5_extend_177 rfl rfl (nI_inc _) (Nat.le_of_ble_eq_true rfl) rfl ?_
                refine g_goto (q := 83) dX5_extend_180 (by decide) ?_
                refine g_less (lv' := [(0, _), (1, _), (2, _), (3, _), (4, _), (5, _)]) 6 rfl ?_
                rw [extF_f (by unfold chdB; rw [decide_eq_false (show ¬ tw (r 0) < tw b by omega)]; rfl), hS] at ih83
                exact ih83 q hI83
              · skip
                refine g_iload_n (q := 127) dX5_extend_126 rfl rfl rfl ?_
                refine g_iload (q := 129) dX5_extend_127 rfl rfl ?_
                refine g_ishr (q := 130) dX5_extend_129 rfl ?_
                refine g_iconst (v := nI 1) (q := 131) dX5_extend_130 rfl ki_1 ?_
                refine g_iand (q := 132) dX5_extend_131 rfl ?_
                refine g_if_ne (t := 177) (q := 135) dX5_extend_132 (by decide) rfl (fun c132 => ?_) (fun c132 => ?_)
                · skip
                  refine g_iinc (lv' := [(0, _), (1, _), (2, _), (3, _), (4, _), (5, _), (6, _)]) (v := nI (b + 1)) (q := 180) dX5_extend_177 rfl rfl (nI_inc _) (Nat.le_of_ble_eq_true rfl) rfl ?_
                  refine g_goto (q := 83) dX5_extend_180 (by decide) ?_
                  refine g_less (lv' := [(0, _), (1, _), (2, _), (3, _), (4, _), (5, _)]) 6 rfl ?_
                  rw [extF_f (by unfold chdB; rw [show usdB tw r size (tw b) = true from (Bool.not_eq_false _).mp (fun z => c132 ((usd_bit (by omega)).mpr z))]; simp), hS] at ih83
                  exact ih83 q hI83
                · skip
                  refine g_aload_n (q := 136) dX5_extend_135 rfl rfl rfl ?_
                  refine g_iload (q := 138) dX5_extend_136 rfl rfl ?_
                  refine g_iload (q := 140) dX5_extend_138 rfl rfl ?_
                  refine gc_X5_56 (c_isWanted (by omega) (by omega)) rfl (Nat.le_of_ble_eq_true rfl) rfl 0 rfl [0, 4, 6, 7, 8] rfl rfl (rest := []) rfl (Nat.le_of_ble_eq_true rfl) (q := 143) dX5_extend_140 rfl (exK (ws' := [_, _, _, _, _, _, _, _, _]) (st' := [.int (bI (wanB sk wn (r (size - 1)) (tw b)))]) rfl rfl ?_)
                  refine g_if_eq (t := 177) (q := 146) dX5_extend_143 (by decide) rfl (fun c143 => ?_) (fun c143 => ?_)
                  · skip
                    refine g_iinc (lv' := [(0, _), (1, _), (2, _), (3, _), (4, _), (5, _), (6, _)]) (v := nI (b + 1)) (q := 180) dX5_extend_177 rfl rfl (nI_inc _) (Nat.le_of_ble_eq_true rfl) rfl ?_
                    refine g_goto (q := 83) dX5_extend_180 (by decide) ?_
                    refine g_less (lv' := [(0, _), (1, _), (2, _), (3, _), (4, _), (5, _)]) 6 rfl ?_
                    rw [extF_f (by unfold chdB; rw [bI_eq0.mp c143]; simp), hS] at ih83
                    exact ih83 q hI83
                  · skip
                    refine g_aload_n (q := 147) dX5_extend_146 rfl rfl rfl ?_
                    refine gf_X5_15 rfl 0 rfl rfl (q := 150) dX5_extend_147 rfl ?_
                    refine g_iload_n (q := 151) dX5_extend_150 rfl rfl rfl ?_
                    refine g_iload (q := 153) dX5_extend_151 rfl rfl ?_
                    refine g_iast (f' := (nA (updn q size b))) 2 rfl (ixIn (j := size) rfl (by omega) (by decide)) (ixUn (j := size) rfl (by omega)) (ws' := [_, _, (_, .inl (_, _, .inl _)), _, _, _, _, _, _]) rfl (q := 154) dX5_extend_153 rfl ?_
                    refine g_aload_n (q := 155) dX5_extend_154 rfl rfl rfl ?_
                    refine g_iload_n (q := 156) dX5_extend_155 rfl rfl rfl ?_
                    refine g_iconst (v := nI 1) (q := 157) dX5_extend_156 rfl ki_1 ?_
                    refine g_iaddN (q := 158) dX5_extend_157 rfl ?_
                    refine g_iload_n (q := 159) dX5_extend_158 rfl rfl rfl ?_
                    refine g_iconst (v := nI 1) (q := 160) dX5_extend_159 rfl ki_1 ?_
                    refine g_iload (q := 162) dX5_extend_160 rfl rfl ?_
                    refine g_ishl (q := 163) dX5_extend_162 rfl ?_
                    refine g_ior (q := 164) dX5_extend_163 rfl ?_
                    refine g_top (y := bitsI (usdB tw (updn q size b) (size + 1)) 6) (usd_or hI83 (by omega)) ?_
                    refine g_iload_n (q := 165) dX5_extend_164 rfl rfl rfl ?_
                    refine g_aload_n (q := 166) dX5_extend_165 rfl rfl rfl ?_
                    refine g_iload (q := 168) dX5_extend_166 rfl rfl ?_
                    refine g_iload (q := 170) dX5_extend_168 rfl rfl ?_
                    refine gc_X5_60 (c_owedFor (by omega) (by omega) (hwo _ (by omega)) (hwo _ (by omega))) rfl (Nat.le_of_ble_eq_true rfl) rfl 0 rfl [0, 3] rfl rfl (rest := [_, _, _, _]) rfl (Nat.le_of_ble_eq_true rfl) (q := 173) dX5_extend_170 rfl (exK (ws' := [_, _, _, _, _, _, _, _, _]) (st' := [.int (nI (owe wo (r (size - 1)) b)), _, _, _, _]) rfl rfl ?_)
                    refine g_iaddN (q := 174) dX5_extend_173 rfl ?_
                    have ho := owe_le hwo (b := b) (hr (size - 1) (by omega))
                    refine gc_X5_52 (ih (by omega) (by omega) (fun k hk => by unfold updn; split; omega; rw [hI83 k (by omega)]; exact hr k (by omega)) (by omega) hS1) rfl (Nat.le_refl _) rfl 0 rfl [0, 1, 2, 3, 4, 5, 6, 7, 8] rfl rfl (rest := []) rfl (Nat.le_of_ble_eq_true rfl) (q := 177) dX5_extend_174 rfl (exKPM rfl (fun q2 hq2 => ?_))
                    refine g_eq (ws' := [(q0, .inr (5, [.int (nI ((extC nb tw sk wn wo f (size + 1) (updn q size b) (ch + owe wo (r (size - 1)) b) (s1, s2, s3)).1)), .int (nI ((extC nb tw sk wn wo f (size + 1) (updn q size b) (ch + owe wo (r (size - 1)) b) (s1, s2, s3)).2.1)), .ref qb, .ref qr, .ref qw, .ref f0, .ref l0])), (qb, .inl (E.2.1.1, 6, .inl (nA ((extC nb tw sk wn wo f (size + 1) (updn q size b) (ch + owe wo (r (size - 1)) b) (s1, s2, s3)).2.2)))), (qr, .inl (E.2.1.1, 6, .inl (nA (q2)))), (qw, .inl (E.2.1.1, 10, .inl (nA (wo)))), (f0, .inr (2, [.int (nI (nb)), .int (yr), .ref fk, .ref ft, .ref fw, .ref fs, .ref fg, .ref fc])), (ft, .inl (E.2.1.1, 10, .inl (nA (tw)))), (fs, .inl (E.2.1.1, 10, .inl (nA (sk)))), (l0, .inr (3, [.int (nI (nt)), .int (nI (lw)), .int (nI (sl)), .ref lc, .ref lr, .ref lf, .ref lv, .ref ln, .ref t0])), (lv, .inl (E.2.1.1, 6, .inl (wn)))]) (st' := []) ?_ rfl rfl rfl
                    refine g_iinc (lv' := [(0, _), (1, _), (2, _), (3, _), (4, _), (5, _), (6, _)]) (v := nI (b + 1)) (q := 180) dX5_extend_177 rfl rfl (nI_inc _) (Nat.le_of_ble_eq_true rfl) rfl ?_
                    refine g_goto (q := 83) dX5_extend_180 (by decide) ?_
                    refine g_less (lv' := [(0, _), (1, _), (2, _), (3, _), (4, _), (5, _)]) 6 rfl ?_
                    rw [extF_t (by unfold chdB; rw [decide_eq_true (show tw (r 0) < tw b by omega), (usd_bit (by omega)).mp c132, bI_ne0.mp c143]; rfl), hS, ← extC_c (q := updn q size b) (by omega) (agr_upd hI83)] at ih83
                    exact ih83 q2 (fun k hk => by rw [hq2 k (by omega), updn_n (by omega)]; exact hI83 k hk)
          · intro q hI83
            show G E _ [(q0, .inr (5, [.int (nI ((extF nb tw sk wn wo f size r ch (nodeB tw sk wn wo size r ch (bs, bc, be)) nb).1)), .int (nI ((extF nb tw sk wn wo f size r ch (nodeB tw sk wn wo size r ch (bs, bc, be)) nb).2.1)), .ref qb, .ref qr, .ref qw, .ref f0, .ref l0])), (qb, .inl (E.2.1.1, 6, .inl (nA ((extF nb tw sk wn wo f size r ch (nodeB tw sk wn wo size r ch (bs, bc, be)) nb).2.2)))), (qr, .inl (E.2.1.1, 6, .inl (nA (q)))), (qw, .inl (E.2.1.1, 10, .inl (nA (wo)))), (f0, .inr (2, [.int (nI (nb)), .int (yr), .ref fk, .ref ft, .ref fw, .ref fs, .ref fg, .ref fc])), (ft, .inl (E.2.1.1, 10, .inl (nA (tw)))), (fs, .inl (E.2.1.1, 10, .inl (nA (sk)))), (l0, .inr (3, [.int (nI (nt)), .int (nI (lw)), .int (nI (sl)), .ref lc, .ref lr, .ref lf, .ref lv, .ref ln, .ref t0])), (lv, .inl (E.2.1.1, 6, .inl (wn)))] 83 [(0, .ref q0), (1, .int (nI (size))), (2, .int (bitsI (usdB tw r size) 6)), (3, .int (nI (ch))), (4, .int (nI (r (size - 1)))), (5, .int (nI (nb)))] []
            refine g_iload (q := 85) dX5_extend_83 rfl rfl ?_
            refine g_aload_n (q := 86) dX5_extend_85 rfl rfl rfl ?_
            refine gf_X5_21 rfl 0 rfl rfl (q := 89) dX5_extend_86 rfl ?_
            refine gf_X5_36 rfl 4 rfl rfl (q := 92) dX5_extend_89 rfl ?_
            refine g_icmp_geN (t := 183) (q := 95) dX5_extend_92 (by decide) rfl (by omega) (by omega) (fun c92 => ?_) (fun c92 => ?_)
            · skip
              refine g_vret (st := []) dX5_extend_183 rfl rfl ?_
              exact ⟨q, hI83, xv (by rw [extC_s (show ¬ (0 < bs ∧ bc ≤ ch) by omega)])⟩
            · omega
        · omega
      · skip
        refine g_aload_n (q := 32) dX5_extend_31 rfl rfl rfl ?_
        refine g_iload (q := 34) dX5_extend_32 rfl rfl ?_
        refine g_aload_n (q := 35) dX5_extend_34 rfl rfl rfl ?_
        refine gf_X5_21 rfl 0 rfl rfl (q := 38) dX5_extend_35 rfl ?_
        refine gf_X5_49 rfl 4 rfl rfl (q := 41) dX5_extend_38 rfl ?_
        refine g_aload_n (q := 42) dX5_extend_41 rfl rfl rfl ?_
        refine gf_X5_15 rfl 0 rfl rfl (q := 45) dX5_extend_42 rfl ?_
        refine g_iconst (v := nI 0) (q := 46) dX5_extend_45 rfl ki_0 ?_
        have hb14 := hr (0) (by omega)
        refine g_iald (v := nI (r 0)) 2 rfl (ixIn (j := 0) rfl (by omega) (by decide)) (ixV (j := 0) rfl (by omega)) (q := 47) dX5_extend_46 rfl ?_
        have hb15 := htw (r 0) (by omega)
        refine g_iald (v := nI (tw (r 0))) 5 rfl (ixIn (j := r 0) rfl (by omega) (by decide)) (ixV (j := r 0) rfl (by omega)) (q := 48) dX5_extend_47 rfl ?_
        refine gc_X5_56 (c_isWanted (by omega) (by omega)) rfl (Nat.le_of_ble_eq_true rfl) rfl 0 rfl [0, 4, 6, 7, 8] rfl rfl (rest := []) rfl (Nat.le_of_ble_eq_true rfl) (q := 51) dX5_extend_48 rfl (exK (ws' := [_, _, _, _, _, _, _, _, _]) (st' := [.int (bI (wanB sk wn (r (size - 1)) (tw (r 0))))]) rfl rfl ?_)
        refine g_if_eq (t := 73) (q := 54) dX5_extend_51 (by decide) rfl (fun c51 => ?_) (fun c51 => ?_)
        · skip
          refine g_eq (ws' := [(q0, .inr (5, [.int (nI ((nodeB tw sk wn wo size r ch (bs, bc, be)).1)), .int (nI ((nodeB tw sk wn wo size r ch (bs, bc, be)).2.1)), .ref qb, .ref qr, .ref qw, .ref f0, .ref l0])), (qb, .inl (E.2.1.1, 6, .inl (nA ((nodeB tw sk wn wo size r ch (bs, bc, be)).2.2)))), (qr, .inl (E.2.1.1, 6, .inl (nA (r)))), (qw, .inl (E.2.1.1, 10, .inl (nA (wo)))), (f0, .inr (2, [.int (nI (nb)), .int (yr), .ref fk, .ref ft, .ref fw, .ref fs, .ref fg, .ref fc])), (ft, .inl (E.2.1.1, 10, .inl (nA (tw)))), (fs, .inl (E.2.1.1, 10, .inl (nA (sk)))), (l0, .inr (3, [.int (nI (nt)), .int (nI (lw)), .int (nI (sl)), .ref lc, .ref lr, .ref lf, .ref lv, .ref ln, .ref t0])), (lv, .inl (E.2.1.1, 6, .inl (wn)))]) ?_ (by rw [show nodeB tw sk wn wo size r ch (bs, bc, be) = (bs, bc, be) from if_neg (by simp [clsB, bI_eq0.mp c51])]) rfl rfl
          have hN : okBt (nodeB tw sk wn wo size r ch (bs, bc, be)) := nodeB_ok hwo (by omega) h0 hr hch hB
          refine g_iload_n (q := 74) dX5_extend_73 rfl rfl rfl ?_
          refine g_bipush (v := nI 6) (q := 76) dX5_extend_74 rfl kb_6 ?_
          refine g_icmp_ltN (t := 80) (q := 79) dX5_extend_76 (by decide) rfl (by omega) (by omega) (fun c76 => ?_) (fun c76 => ?_)
          · skip
            refine g_iconst (v := nI 0) (q := 81) dX5_extend_80 rfl ki_0 ?_
            refine g_istore (lv' := [(0, _), (1, _), (2, _), (3, _), (4, _), (5, _)]) (q := 83) dX5_extend_81 rfl (Nat.le_of_ble_eq_true rfl) rfl ?_
            refine g_loopG (σ := Nat → Nat) (nb) (fun b q => agr q r size) (fun b q => [(q0, .inr (5, [.int (nI ((extF nb tw sk wn wo f size r ch (nodeB tw sk wn wo size r ch (bs, bc, be)) b).1)), .int (nI ((extF nb tw sk wn wo f size r ch (nodeB tw sk wn wo size r ch (bs, bc, be)) b).2.1)), .ref qb, .ref qr, .ref qw, .ref f0, .ref l0])), (qb, .inl (E.2.1.1, 6, .inl (nA ((extF nb tw sk wn wo f size r ch (nodeB tw sk wn wo size r ch (bs, bc, be)) b).2.2)))), (qr, .inl (E.2.1.1, 6, .inl (nA (q)))), (qw, .inl (E.2.1.1, 10, .inl (nA (wo)))), (f0, .inr (2, [.int (nI (nb)), .int (yr), .ref fk, .ref ft, .ref fw, .ref fs, .ref fg, .ref fc])), (ft, .inl (E.2.1.1, 10, .inl (nA (tw)))), (fs, .inl (E.2.1.1, 10, .inl (nA (sk)))), (l0, .inr (3, [.int (nI (nt)), .int (nI (lw)), .int (nI (sl)), .ref lc, .ref lr, .ref lf, .ref lv, .ref ln, .ref t0])), (lv, .inl (E.2.1.1, 6, .inl (wn)))]) (fun b q => [(0, .ref q0), (1, .int (nI (size))), (2, .int (bitsI (usdB tw r size) 6)), (3, .int (nI (ch))), (4, .int (nI (r (size - 1)))), (5, .int (nI (b)))]) ?_ ?_ 0 (Nat.zero_le _) (r) (fun k hk => rfl)
            · intro b q hb83 hI83 ih83
              have hS1 := extF_ok (tw := tw) (sk := sk) (wn := wn) hwo hs h0 hr hch hN (n := b) (by omega)
              generalize hS : (extF nb tw sk wn wo f size r ch (nodeB tw sk wn wo size r ch (bs, bc, be)) b) = S at hS1 ⊢
              obtain ⟨s1, s2, s3⟩ := S
              have hrl := hr (size - 1) (by omega)
              show G E _ [(q0, .inr (5, [.int (nI (s1)), .int (nI (s2)), .ref qb, .ref qr, .ref qw, .ref f0, .ref l0])), (qb, .inl (E.2.1.1, 6, .inl (nA (s3)))), (qr, .inl (E.2.1.1, 6, .inl (nA (q)))), (qw, .inl (E.2.1.1, 10, .inl (nA (wo)))), (f0, .inr (2, [.int (nI (nb)), .int (yr), .ref fk, .ref ft, .ref fw, .ref fs, .ref fg, .ref fc])), (ft, .inl (E.2.1.1, 10, .inl (nA (tw)))), (fs, .inl (E.2.1.1, 10, .inl (nA (sk)))), (l0, .inr (3, [.int (nI (nt)), .int (nI (lw)), .int (nI (sl)), .ref lc, .ref lr, .ref lf, .ref lv, .ref ln, .ref t0])), (lv, .inl (E.2.1.1, 6, .inl (wn)))] 83 [(0, .ref q0), (1, .int (nI (size))), (2, .int (bitsI (usdB tw r size) 6)), (3, .int (nI (ch))), (4, .int (nI (r (size - 1)))), (5, .int (nI (b)))] []
              refine g_iload (q := 85) dX5_extend_83 rfl rfl ?_
              refine g_aload_n (q := 86) dX5_extend_85 rfl rfl rfl ?_
              refine gf_X5_21 rfl 0 rfl rfl (q := 89) dX5_extend_86 rfl ?_
              refine gf_X5_36 rfl 4 rfl rfl (q := 92) dX5_extend_89 rfl ?_
              refine g_icmp_geN (t := 183) (q := 95) dX5_extend_92 (by decide) rfl (by omega) (by omega) (fun c92 => ?_) (fun c92 => ?_)
              · omega
              · skip
                refine g_aload_n (q := 96) dX5_extend_95 rfl rfl rfl ?_
                refine gf_X5_21 rfl 0 rfl rfl (q := 99) dX5_extend_96 rfl ?_
                refine gf_X5_49 rfl 4 rfl rfl (q := 102) dX5_extend_99 rfl ?_
                refine g_iload (q := 104) dX5_extend_102 rfl rfl ?_
                have hb16 := htw (b) (by omega)
                refine g_iald (v := nI (tw b)) 5 rfl (ixIn (j := b) rfl (by omega) (by decide)) (ixV (j := b) rfl (by omega)) (q := 105) dX5_extend_104 rfl ?_
                refine g_istore (lv' := [(0, _), (1, _), (2, _), (3, _), (4, _), (5, _), (6, _)]) (q := 107) dX5_extend_105 rfl (Nat.le_of_ble_eq_true rfl) rfl ?_
                refine g_iload (q := 109) dX5_extend_107 rfl rfl ?_
                refine g_aload_n (q := 110) dX5_extend_109 rfl rfl rfl ?_
                refine gf_X5_21 rfl 0 rfl rfl (q := 113) dX5_extend_110 rfl ?_
                refine gf_X5_49 rfl 4 rfl rfl (q := 116) dX5_extend_113 rfl ?_
                refine g_aload_n (q := 117) dX5_extend_116 rfl rfl rfl ?_
                refine gf_X5_15 rfl 0 rfl rfl (q := 120) dX5_extend_117 rfl ?_
                refine g_iconst (v := nI 0) (q := 121) dX5_extend_120 rfl ki_0 ?_
                refine g_iald (v := nI (q 0)) 2 rfl (ixIn (j := 0) rfl (by omega) (by decide)) (ixV (j := 0) rfl (by omega)) (q := 122) dX5_extend_121 rfl ?_
                have hr0 := hr 0 (by omega)
                refine g_top (y := nI (r 0)) (congrArg nI (hI83 0 (by omega))) ?_
                have hb17 := htw (r 0) (by omega)
                refine g_iald (v := nI (tw (r 0))) 5 rfl (ixIn (j := r 0) rfl (by omega) (by decide)) (ixV (j := r 0) rfl (by omega)) (q := 123) dX5_extend_122 rfl ?_
                refine g_icmp_leN (t := 177) (q := 126) dX5_extend_123 (by decide) rfl (by omega) (by omega) (fun c123 => ?_) (fun c123 => ?_)
                · skip
                  refine g_iinc (lv' := [(0, _), (1, _), (2, _), (3, _), (4, _), (5, _), (6, _)]) (v := nI (b + 1)) (q := 180) dX5_extend_177 rfl rfl (nI_inc _) (Nat.le_of_ble_eq_true rfl) rfl ?_
                  refine g_goto (q := 83) dX5_extend_180 (by decide) ?_
                  refine g_less (lv' := [(0, _), (1, _), (2, _), (3, _), (4, _), (5, _)]) 6 rfl ?_
                  rw [extF_f (by unfold chdB; rw [decide_eq_false (show ¬ tw (r 0) < tw b by omega)]; rfl), hS] at ih83
                  exact ih83 q hI83
                · skip
                  refine g_iload_n (q := 127) dX5_extend_126 rfl rfl rfl ?_
                  refine g_iload (q := 129) dX5_extend_127 rfl rfl ?_
                  refine g_ishr (q := 130) dX5_extend_129 rfl ?_
                  refine g_iconst (v := nI 1) (q := 131) dX5_extend_130 rfl ki_1 ?_
                  refine g_iand (q := 132) dX5_extend_131 rfl ?_
                  refine g_if_ne (t := 177) (q := 135) dX5_extend_132 (by decide) rfl (fun c132 => ?_) (fun c132 => ?_)
                  · skip
                    refine g_iinc (lv' := [(0, _), (1, _), (2, _), (3, _), (4, _), (5, _), (6, _)]) (v := nI (b + 1)) (q := 180) dX5_extend_177 rfl rfl (nI_inc _) (Nat.le_of_ble_eq_true rfl) rfl ?_
                    refine g_goto (q := 83) dX5_extend_180 (by decide) ?_
                    refine g_less (lv' := [(0, _), (1, _), (2, _), (3, _), (4, _), (5, _)]) 6 rfl ?_
                    rw [extF_f (by unfold chdB; rw [show usdB tw r size (tw b) = true from (Bool.not_eq_false _).mp (fun z => c132 ((usd_bit (by omega)).mpr z))]; simp), hS] at ih83
                    exact ih83 q hI83
                  · skip
                    refine g_aload_n (q := 136) dX5_extend_135 rfl rfl rfl ?_
                    refine g_iload (q := 138) dX5_extend_136 rfl rfl ?_
                    refine g_iload (q := 140) dX5_extend_138 rfl rfl ?_
                    refine gc_X5_56 (c_isWanted (by omega) (by omega)) rfl (Nat.le_of_ble_eq_true rfl) rfl 0 rfl [0, 4, 6, 7, 8] rfl rfl (rest := []) rfl (Nat.le_of_ble_eq_true rfl) (q := 143) dX5_extend_140 rfl (exK (ws' := [_, _, _, _, _, _, _, _, _]) (st' := [.int (bI (wanB sk wn (r (size - 1)) (tw b)))]) rfl rfl ?_)
                    refine g_if_eq (t := 177) (q := 146) dX5_extend_143 (by decide) rfl (fun c143 => ?_) (fun c143 => ?_)
                    · skip
                      refine g_iinc (lv' := [(0, _), (1, _), (2, _), (3, _), (4, _), (5, _), (6, _)]) (v := nI (b + 1)) (q := 180) dX5_extend_177 rfl rfl (nI_inc _) (Nat.le_of_ble_eq_true rfl) rfl ?_
                      refine g_goto (q := 83) dX5_extend_180 (by decide) ?_
                      refine g_less (lv' := [(0, _), (1, _), (2, _), (3, _), (4, _), (5, _)]) 6 rfl ?_
                      rw [extF_f (by unfold chdB; rw [bI_eq0.mp c143]; simp), hS] at ih83
                      exact ih83 q hI83
                    · skip
                      refine g_aload_n (q := 147) dX5_extend_146 rfl rfl rfl ?_
                      refine gf_X5_15 rfl 0 rfl rfl (q := 150) dX5_extend_147 rfl ?_
                      refine g_iload_n (q := 151) dX5_extend_150 rfl rfl rfl ?_
                      refine g_iload (q := 153) dX5_extend_151 rfl rfl ?_
                      refine g_iast (f' := (nA (updn q size b))) 2 rfl (ixIn (j := size) rfl (by omega) (by decide)) (ixUn (j := size) rfl (by omega)) (ws' := [_, _, (_, .inl (_, _, .inl _)), _, _, _, _, _, _]) rfl (q := 154) dX5_extend_153 rfl ?_
                      refine g_aload_n (q := 155) dX5_extend_154 rfl rfl rfl ?_
                      refine g_iload_n (q := 156) dX5_extend_155 rfl rfl rfl ?_
                      refine g_iconst (v := nI 1) (q := 157) dX5_extend_156 rfl ki_1 ?_
                      refine g_iaddN (q := 158) dX5_extend_157 rfl ?_
                      refine g_iload_n (q := 159) dX5_extend_158 rfl rfl rfl ?_
                      refine g_iconst (v := nI 1) (q := 160) dX5_extend_159 rfl ki_1 ?_
                      refine g_iload (q := 162) dX5_extend_160 rfl rfl ?_
                      refine g_ishl (q := 163) dX5_extend_162 rfl ?_
                      refine g_ior (q := 164) dX5_extend_163 rfl ?_
                      refine g_top (y := bitsI (usdB tw (updn q size b) (size + 1)) 6) (usd_or hI83 (by omega)) ?_
                      refine g_iload_n (q := 165) dX5_extend_164 rfl rfl rfl ?_
                      refine g_aload_n (q := 166) dX5_extend_165 rfl rfl rfl ?_
                      refine g_iload (q := 168) dX5_extend_166 rfl rfl ?_
                      refine g_iload (q := 170) dX5_extend_168 rfl rfl ?_
                      refine gc_X5_60 (c_owedFor (by omega) (by omega) (hwo _ (by omega)) (hwo _ (by omega))) rfl (Nat.le_of_ble_eq_true rfl) rfl 0 rfl [0, 3] rfl rfl (rest := [_, _, _, _]) rfl (Nat.le_of_ble_eq_true rfl) (q := 173) dX5_extend_170 rfl (exK (ws' := [_, _, _, _, _, _, _, _, _]) (st' := [.int (nI (owe wo (r (size - 1)) b)), _, _, _, _]) rfl rfl ?_)
                      refine g_iaddN (q := 174) dX5_extend_173 rfl ?_
                      have ho := owe_le hwo (b := b) (hr (size - 1) (by omega))
                      refine gc_X5_52 (ih (by omega) (by omega) (fun k hk => by unfold updn; split; omega; rw [hI83 k (by omega)]; exact hr k (by omega)) (by omega) hS1) rfl (Nat.le_refl _) rfl 0 rfl [0, 1, 2, 3, 4, 5, 6, 7, 8] rfl rfl (rest := []) rfl (Nat.le_of_ble_eq_true rfl) (q := 177) dX5_extend_174 rfl (exKPM rfl (fun q2 hq2 => ?_))
                      refine g_eq (ws' := [(q0, .inr (5, [.int (nI ((extC nb tw sk wn wo f (size + 1) (updn q size b) (ch + owe wo (r (size - 1)) b) (s1, s2, s3)).1)), .int (nI ((extC nb tw sk wn wo f (size + 1) (updn q size b) (ch + owe wo (r (size - 1)) b) (s1, s2, s3)).2.1)), .ref qb, .ref qr, .ref qw, .ref f0, .ref l0])), (qb, .inl (E.2.1.1, 6, .inl (nA ((extC nb tw sk wn wo f (size + 1) (updn q size b) (ch + owe wo (r (size - 1)) b) (s1, s2, s3)).2.2)))), (qr, .inl (E.2.1.1, 6, .inl (nA (q2)))), (qw, .inl (E.2.1.1, 10, .inl (nA (wo)))), (f0, .inr (2, [.int (nI (nb)), .int (yr), .ref fk, .ref ft, .ref fw, .ref fs, .ref fg, .ref fc])), (ft, .inl (E.2.1.1, 10, .inl (nA (tw)))), (fs, .inl (E.2.1.1, 10, .inl (nA (sk)))), (l0, .inr (3, [.int (nI (nt)), .int (nI (lw)), .int (nI (sl)), .ref lc, .ref lr, .ref lf, .ref lv, .ref ln, .ref t0])), (lv, .inl (E.2.1.1, 6, .inl (wn)))]) (st' := []) ?_ rfl rfl rfl
                      refine g_iinc (lv' := [(0, _), (1, _), (2, _), (3, _), (4, _), (5, _), (6, _)]) (v := nI (b + 1)) (q := 180) dX5_extend_177 rfl rfl (nI_inc _) (Nat.le_of_ble_eq_true rfl) rfl ?_
                      refine g_goto (q := 83) dX5_extend_180 (by decide) ?_
                      refine g_less (lv' := [(0, _), (1, _), (2, _), (3, _), (4, _), (5, _)]) 6 rfl ?_
                      rw [extF_t (by unfold chdB; rw [decide_eq_true (show tw (r 0) < tw b by omega), (usd_bit (by omega)).mp c132, bI_ne0.mp c143]; rfl), hS, ← extC_c (q := updn q size b) (by omega) (agr_upd hI83)] at ih83
                      exact ih83 q2 (fun k hk => by rw [hq2 k (by omega), updn_n (by omega)]; exact hI83 k hk)
            · intro q hI83
              show G E _ [(q0, .inr (5, [.int (nI ((extF nb tw sk wn wo f size r ch (nodeB tw sk wn wo size r ch (bs, bc, be)) nb).1)), .int (nI ((extF nb tw sk wn wo f size r ch (nodeB tw sk wn wo size r ch (bs, bc, be)) nb).2.1)), .ref qb, .ref qr, .ref qw, .ref f0, .ref l0])), (qb, .inl (E.2.1.1, 6, .inl (nA ((extF nb tw sk wn wo f size r ch (nodeB tw sk wn wo size r ch (bs, bc, be)) nb).2.2)))), (qr, .inl (E.2.1.1, 6, .inl (nA (q)))), (qw, .inl (E.2.1.1, 10, .inl (nA (wo)))), (f0, .inr (2, [.int (nI (nb)), .int (yr), .ref fk, .ref ft, .ref fw, .ref fs, .ref fg, .ref fc])), (ft, .inl (E.2.1.1, 10, .inl (nA (tw)))), (fs, .inl (E.2.1.1, 10, .inl (nA (sk)))), (l0, .inr (3, [.int (nI (nt)), .int (nI (lw)), .int (nI (sl)), .ref lc, .ref lr, .ref lf, .ref lv, .ref ln, .ref t0])), (lv, .inl (E.2.1.1, 6, .inl (wn)))] 83 [(0, .ref q0), (1, .int (nI (size))), (2, .int (bitsI (usdB tw r size) 6)), (3, .int (nI (ch))), (4, .int (nI (r (size - 1)))), (5, .int (nI (nb)))] []
              refine g_iload (q := 85) dX5_extend_83 rfl rfl ?_
              refine g_aload_n (q := 86) dX5_extend_85 rfl rfl rfl ?_
              refine gf_X5_21 rfl 0 rfl rfl (q := 89) dX5_extend_86 rfl ?_
              refine gf_X5_36 rfl 4 rfl rfl (q := 92) dX5_extend_89 rfl ?_
              refine g_icmp_geN (t := 183) (q := 95) dX5_extend_92 (by decide) rfl (by omega) (by omega) (fun c92 => ?_) (fun c92 => ?_)
              · skip
                refine g_vret (st := []) dX5_extend_183 rfl rfl ?_
                exact ⟨q, hI83, xv (by rw [extC_s (show ¬ (0 < bs ∧ bc ≤ ch) by omega)])⟩
              · omega
          · omega
        · skip
          refine g_aload_n (q := 55) dX5_extend_54 rfl rfl rfl ?_
          refine g_iload_n (q := 56) dX5_extend_55 rfl rfl rfl ?_
          refine g_iload_n (q := 57) dX5_extend_56 rfl rfl rfl ?_
          refine g_aload_n (q := 58) dX5_extend_57 rfl rfl rfl ?_
          refine g_iload (q := 60) dX5_extend_58 rfl rfl ?_
          refine g_aload_n (q := 61) dX5_extend_60 rfl rfl rfl ?_
          refine gf_X5_15 rfl 0 rfl rfl (q := 64) dX5_extend_61 rfl ?_
          refine g_iconst (v := nI 0) (q := 65) dX5_extend_64 rfl ki_0 ?_
          have hb18 := hr (0) (by omega)
          refine g_iald (v := nI (r 0)) 2 rfl (ixIn (j := 0) rfl (by omega) (by decide)) (ixV (j := 0) rfl (by omega)) (q := 66) dX5_extend_65 rfl ?_
          refine gc_X5_60 (c_owedFor (by omega) (by omega) (hwo _ (by omega)) (hwo _ (by omega))) rfl (Nat.le_of_ble_eq_true rfl) rfl 0 rfl [0, 3] rfl rfl (rest := [_, _, _]) rfl (Nat.le_of_ble_eq_true rfl) (q := 69) dX5_extend_66 rfl (exK (ws' := [_, _, _, _, _, _, _, _, _]) (st' := [.int (nI (owe wo (r (size - 1)) (r 0))), _, _, _]) rfl rfl ?_)
          refine g_iaddN (q := 70) dX5_extend_69 rfl ?_
          have ho := owe_le hwo (b := r 0) (hr (size - 1) (by omega))
          refine gc_X5_64 (c_takeIfBetter (by omega) (by omega) hB.1 hB.2) rfl (Nat.le_of_ble_eq_true rfl) rfl 0 rfl [0, 1, 2] rfl rfl (rest := []) rfl (Nat.le_of_ble_eq_true rfl) (q := 73) dX5_extend_70 rfl (exK (ws' := [(_, .inr (_, [_, _, _, _, _, _, _])), (_, .inl (_, _, .inl _)), (_, .inl (_, _, .inl _)), _, _, _, _, _, _]) (st' := []) rfl rfl ?_)
          refine g_eq (ws' := [(q0, .inr (5, [.int (nI ((nodeB tw sk wn wo size r ch (bs, bc, be)).1)), .int (nI ((nodeB tw sk wn wo size r ch (bs, bc, be)).2.1)), .ref qb, .ref qr, .ref qw, .ref f0, .ref l0])), (qb, .inl (E.2.1.1, 6, .inl (nA ((nodeB tw sk wn wo size r ch (bs, bc, be)).2.2)))), (qr, .inl (E.2.1.1, 6, .inl (nA (r)))), (qw, .inl (E.2.1.1, 10, .inl (nA (wo)))), (f0, .inr (2, [.int (nI (nb)), .int (yr), .ref fk, .ref ft, .ref fw, .ref fs, .ref fg, .ref fc])), (ft, .inl (E.2.1.1, 10, .inl (nA (tw)))), (fs, .inl (E.2.1.1, 10, .inl (nA (sk)))), (l0, .inr (3, [.int (nI (nt)), .int (nI (lw)), .int (nI (sl)), .ref lc, .ref lr, .ref lf, .ref lv, .ref ln, .ref t0])), (lv, .inl (E.2.1.1, 6, .inl (wn)))]) ?_ (by rw [show nodeB tw sk wn wo size r ch (bs, bc, be) = takeB size (ch + owe wo (r (size - 1)) (r 0)) r (bs, bc, be) from if_pos (by simp [clsB, bI_ne0.mp c51]; omega)]) rfl rfl
          have hN : okBt (nodeB tw sk wn wo size r ch (bs, bc, be)) := nodeB_ok hwo (by omega) h0 hr hch hB
          refine g_iload_n (q := 74) dX5_extend_73 rfl rfl rfl ?_
          refine g_bipush (v := nI 6) (q := 76) dX5_extend_74 rfl kb_6 ?_
          refine g_icmp_ltN (t := 80) (q := 79) dX5_extend_76 (by decide) rfl (by omega) (by omega) (fun c76 => ?_) (fun c76 => ?_)
          · skip
            refine g_iconst (v := nI 0) (q := 81) dX5_extend_80 rfl ki_0 ?_
            refine g_istore (lv' := [(0, _), (1, _), (2, _), (3, _), (4, _), (5, _)]) (q := 83) dX5_extend_81 rfl (Nat.le_of_ble_eq_true rfl) rfl ?_
            refine g_loopG (σ := Nat → Nat) (nb) (fun b q => agr q r size) (fun b q => [(q0, .inr (5, [.int (nI ((extF nb tw sk wn wo f size r ch (nodeB tw sk wn wo size r ch (bs, bc, be)) b).1)), .int (nI ((extF nb tw sk wn wo f size r ch (nodeB tw sk wn wo size r ch (bs, bc, be)) b).2.1)), .ref qb, .ref qr, .ref qw, .ref f0, .ref l0])), (qb, .inl (E.2.1.1, 6, .inl (nA ((extF nb tw sk wn wo f size r ch (nodeB tw sk wn wo size r ch (bs, bc, be)) b).2.2)))), (qr, .inl (E.2.1.1, 6, .inl (nA (q)))), (qw, .inl (E.2.1.1, 10, .inl (nA (wo)))), (f0, .inr (2, [.int (nI (nb)), .int (yr), .ref fk, .ref ft, .ref fw, .ref fs, .ref fg, .ref fc])), (ft, .inl (E.2.1.1, 10, .inl (nA (tw)))), (fs, .inl (E.2.1.1, 10, .inl (nA (sk)))), (l0, .inr (3, [.int (nI (nt)), .int (nI (lw)), .int (nI (sl)), .ref lc, .ref lr, .ref lf, .ref lv, .ref ln, .ref t0])), (lv, .inl (E.2.1.1, 6, .inl (wn)))]) (fun b q => [(0, .ref q0), (1, .int (nI (size))), (2, .int (bitsI (usdB tw r size) 6)), (3, .int (nI (ch))), (4, .int (nI (r (size - 1)))), (5, .int (nI (b)))]) ?_ ?_ 0 (Nat.zero_le _) (r) (fun k hk => rfl)
            · intro b q hb83 hI83 ih83
              have hS1 := extF_ok (tw := tw) (sk := sk) (wn := wn) hwo hs h0 hr hch hN (n := b) (by omega)
              generalize hS : (extF nb tw sk wn wo f size r ch (nodeB tw sk wn wo size r ch (bs, bc, be)) b) = S at hS1 ⊢
              obtain ⟨s1, s2, s3⟩ := S
              have hrl := hr (size - 1) (by omega)
              show G E _ [(q0, .inr (5, [.int (nI (s1)), .int (nI (s2)), .ref qb, .ref qr, .ref qw, .ref f0, .ref l0])), (qb, .inl (E.2.1.1, 6, .inl (nA (s3)))), (qr, .inl (E.2.1.1, 6, .inl (nA (q)))), (qw, .inl (E.2.1.1, 10, .inl (nA (wo)))), (f0, .inr (2, [.int (nI (nb)), .int (yr), .ref fk, .ref ft, .ref fw, .ref fs, .ref fg, .ref fc])), (ft, .inl (E.2.1.1, 10, .inl (nA (tw)))), (fs, .inl (E.2.1.1, 10, .inl (nA (sk)))), (l0, .inr (3, [.int (nI (nt)), .int (nI (lw)), .int (nI (sl)), .ref lc, .ref lr, .ref lf, .ref lv, .ref ln, .ref t0])), (lv, .inl (E.2.1.1, 6, .inl (wn)))] 83 [(0, .ref q0), (1, .int (nI (size))), (2, .int (bitsI (usdB tw r size) 6)), (3, .int (nI (ch))), (4, .int (nI (r (size - 1)))), (5, .int (nI (b)))] []
              refine g_iload (q := 85) dX5_extend_83 rfl rfl ?_
              refine g_aload_n (q := 86) dX5_extend_85 rfl rfl rfl ?_
              refine gf_X5_21 rfl 0 rfl rfl (q := 89) dX5_extend_86 rfl ?_
              refine gf_X5_36 rfl 4 rfl rfl (q := 92) dX5_extend_89 rfl ?_
              refine g_icmp_geN (t := 183) (q := 95) dX5_extend_92 (by decide) rfl (by omega) (by omega) (fun c92 => ?_) (fun c92 => ?_)
              · omega
              · skip
                refine g_aload_n (q := 96) dX5_extend_95 rfl rfl rfl ?_
                refine gf_X5_21 rfl 0 rfl rfl (q := 99) dX5_extend_96 rfl ?_
                refine gf_X5_49 rfl 4 rfl rfl (q := 102) dX5_extend_99 rfl ?_
                refine g_iload (q := 104) dX5_extend_102 rfl rfl ?_
                have hb19 := htw (b) (by omega)
                refine g_iald (v := nI (tw b)) 5 rfl (ixIn (j := b) rfl (by omega) (by decide)) (ixV (j := b) rfl (by omega)) (q := 105) dX5_extend_104 rfl ?_
                refine g_istore (lv' := [(0, _), (1, _), (2, _), (3, _), (4, _), (5, _), (6, _)]) (q := 107) dX5_extend_105 rfl (Nat.le_of_ble_eq_true rfl) rfl ?_
                refine g_iload (q := 109) dX5_extend_107 rfl rfl ?_
                refine g_aload_n (q := 110) dX5_extend_109 rfl rfl rfl ?_
                refine gf_X5_21 rfl 0 rfl rfl (q := 113) dX5_extend_110 rfl ?_
                refine gf_X5_49 rfl 4 rfl rfl (q := 116) dX5_extend_113 rfl ?_
                refine g_aload_n (q := 117) dX5_extend_116 rfl rfl rfl ?_
                refine gf_X5_15 rfl 0 rfl rfl (q := 120) dX5_extend_117 rfl ?_
                refine g_iconst (v := nI 0) (q := 121) dX5_extend_120 rfl ki_0 ?_
                refine g_iald (v := nI (q 0)) 2 rfl (ixIn (j := 0) rfl (by omega) (by decide)) (ixV (j := 0) rfl (by omega)) (q := 122) dX5_extend_121 rfl ?_
                have hr0 := hr 0 (by omega)
                refine g_top (y := nI (r 0)) (congrArg nI (hI83 0 (by omega))) ?_
                have hb20 := htw (r 0) (by omega)
                refine g_iald (v := nI (tw (r 0))) 5 rfl (ixIn (j := r 0) rfl (by omega) (by decide)) (ixV (j := r 0) rfl (by omega)) (q := 123) dX5_extend_122 rfl ?_
                refine g_icmp_leN (t := 177) (q := 126) dX5_extend_123 (by decide) rfl (by omega) (by omega) (fun c123 => ?_) (fun c123 => ?_)
                · skip
                  refine g_iinc (lv' := [(0, _), (1, _), (2, _), (3, _), (4, _), (5, _), (6, _)]) (v := nI (b + 1)) (q := 180) dX5_extend_177 rfl rfl (nI_inc _) (Nat.le_of_ble_eq_true rfl) rfl ?_
                  refine g_goto (q := 83) dX5_extend_180 (by decide) ?_
                  refine g_less (lv' := [(0, _), (1, _), (2, _), (3, _), (4, _), (5, _)]) 6 rfl ?_
                  rw [extF_f (by unfold chdB; rw [decide_eq_false (show ¬ tw (r 0) < tw b by omega)]; rfl), hS] at ih83
                  exact ih83 q hI83
                · skip
                  refine g_iload_n (q := 127) dX5_extend_126 rfl rfl rfl ?_
                  refine g_iload (q := 129) dX5_extend_127 rfl rfl ?_
                  refine g_ishr (q := 130) dX5_extend_129 rfl ?_
                  refine g_iconst (v := nI 1) (q := 131) dX5_extend_130 rfl ki_1 ?_
                  refine g_iand (q := 132) dX5_extend_131 rfl ?_
                  refine g_if_ne (t := 177) (q := 135) dX5_extend_132 (by decide) rfl (fun c132 => ?_) (fun c132 => ?_)
                  · skip
                    refine g_iinc (lv' := [(0, _), (1, _), (2, _), (3, _), (4, _), (5, _), (6, _)]) (v := nI (b + 1)) (q := 180) dX5_extend_177 rfl rfl (nI_inc _) (Nat.le_of_ble_eq_true rfl) rfl ?_
                    refine g_goto (q := 83) dX5_extend_180 (by decide) ?_
                    refine g_less (lv' := [(0, _), (1, _), (2, _), (3, _), (4, _), (5, _)]) 6 rfl ?_
                    rw [extF_f (by unfold chdB; rw [show usdB tw r size (tw b) = true from (Bool.not_eq_false _).mp (fun z => c132 ((usd_bit (by omega)).mpr z))]; simp), hS] at ih83
                    exact ih83 q hI83
                  · skip
                    refine g_aload_n (q := 136) dX5_extend_135 rfl rfl rfl ?_
                    refine g_iload (q := 138) dX5_extend_136 rfl rfl ?_
                    refine g_iload (q := 140) dX5_extend_138 rfl rfl ?_
                    refine gc_X5_56 (c_isWanted (by omega) (by omega)) rfl (Nat.le_of_ble_eq_true rfl) rfl 0 rfl [0, 4, 6, 7, 8] rfl rfl (rest := []) rfl (Nat.le_of_ble_eq_true rfl) (q := 143) dX5_extend_140 rfl (exK (ws' := [_, _, _, _, _, _, _, _, _]) (st' := [.int (bI (wanB sk wn (r (size - 1)) (tw b)))]) rfl rfl ?_)
                    refine g_if_eq (t := 177) (q := 146) dX5_extend_143 (by decide) rfl (fun c143 => ?_) (fun c143 => ?_)
                    · skip
                      refine g_iinc (lv' := [(0, _), (1, _), (2, _), (3, _), (4, _), (5, _), (6, _)]) (v := nI (b + 1)) (q := 180) dX5_extend_177 rfl rfl (nI_inc _) (Nat.le_of_ble_eq_true rfl) rfl ?_
                      refine g_goto (q := 83) dX5_extend_180 (by decide) ?_
                      refine g_less (lv' := [(0, _), (1, _), (2, _), (3, _), (4, _), (5, _)]) 6 rfl ?_
                      rw [extF_f (by unfold chdB; rw [bI_eq0.mp c143]; simp), hS] at ih83
                      exact ih83 q hI83
                    · skip
                      refine g_aload_n (q := 147) dX5_extend_146 rfl rfl rfl ?_
                      refine gf_X5_15 rfl 0 rfl rfl (q := 150) dX5_extend_147 rfl ?_
                      refine g_iload_n (q := 151) dX5_extend_150 rfl rfl rfl ?_
                      refine g_iload (q := 153) dX5_extend_151 rfl rfl ?_
                      refine g_iast (f' := (nA (updn q size b))) 2 rfl (ixIn (j := size) rfl (by omega) (by decide)) (ixUn (j := size) rfl (by omega)) (ws' := [_, _, (_, .inl (_, _, .inl _)), _, _, _, _, _, _]) rfl (q := 154) dX5_extend_153 rfl ?_
                      refine g_aload_n (q := 155) dX5_extend_154 rfl rfl rfl ?_
                      refine g_iload_n (q := 156) dX5_extend_155 rfl rfl rfl ?_
                      refine g_iconst (v := nI 1) (q := 157) dX5_extend_156 rfl ki_1 ?_
                      refine g_iaddN (q := 158) dX5_extend_157 rfl ?_
                      refine g_iload_n (q := 159) dX5_extend_158 rfl rfl rfl ?_
                      refine g_iconst (v := nI 1) (q := 160) dX5_extend_159 rfl ki_1 ?_
                      refine g_iload (q := 162) dX5_extend_160 rfl rfl ?_
                      refine g_ishl (q := 163) dX5_extend_162 rfl ?_
                      refine g_ior (q := 164) dX5_extend_163 rfl ?_
                      refine g_top (y := bitsI (usdB tw (updn q size b) (size + 1)) 6) (usd_or hI83 (by omega)) ?_
                      refine g_iload_n (q := 165) dX5_extend_164 rfl rfl rfl ?_
                      refine g_aload_n (q := 166) dX5_extend_165 rfl rfl rfl ?_
                      refine g_iload (q := 168) dX5_extend_166 rfl rfl ?_
                      refine g_iload (q := 170) dX5_extend_168 rfl rfl ?_
                      refine gc_X5_60 (c_owedFor (by omega) (by omega) (hwo _ (by omega)) (hwo _ (by omega))) rfl (Nat.le_of_ble_eq_true rfl) rfl 0 rfl [0, 3] rfl rfl (rest := [_, _, _, _]) rfl (Nat.le_of_ble_eq_true rfl) (q := 173) dX5_extend_170 rfl (exK (ws' := [_, _, _, _, _, _, _, _, _]) (st' := [.int (nI (owe wo (r (size - 1)) b)), _, _, _, _]) rfl rfl ?_)
                      refine g_iaddN (q := 174) dX5_extend_173 rfl ?_
                      have ho := owe_le hwo (b := b) (hr (size - 1) (by omega))
                      refine gc_X5_52 (ih (by omega) (by omega) (fun k hk => by unfold updn; split; omega; rw [hI83 k (by omega)]; exact hr k (by omega)) (by omega) hS1) rfl (Nat.le_refl _) rfl 0 rfl [0, 1, 2, 3, 4, 5, 6, 7, 8] rfl rfl (rest := []) rfl (Nat.le_of_ble_eq_true rfl) (q := 177) dX5_extend_174 rfl (exKPM rfl (fun q2 hq2 => ?_))
                      refine g_eq (ws' := [(q0, .inr (5, [.int (nI ((extC nb tw sk wn wo f (size + 1) (updn q size b) (ch + owe wo (r (size - 1)) b) (s1, s2, s3)).1)), .int (nI ((extC nb tw sk wn wo f (size + 1) (updn q size b) (ch + owe wo (r (size - 1)) b) (s1, s2, s3)).2.1)), .ref qb, .ref qr, .ref qw, .ref f0, .ref l0])), (qb, .inl (E.2.1.1, 6, .inl (nA ((extC nb tw sk wn wo f (size + 1) (updn q size b) (ch + owe wo (r (size - 1)) b) (s1, s2, s3)).2.2)))), (qr, .inl (E.2.1.1, 6, .inl (nA (q2)))), (qw, .inl (E.2.1.1, 10, .inl (nA (wo)))), (f0, .inr (2, [.int (nI (nb)), .int (yr), .ref fk, .ref ft, .ref fw, .ref fs, .ref fg, .ref fc])), (ft, .inl (E.2.1.1, 10, .inl (nA (tw)))), (fs, .inl (E.2.1.1, 10, .inl (nA (sk)))), (l0, .inr (3, [.int (nI (nt)), .int (nI (lw)), .int (nI (sl)), .ref lc, .ref lr, .ref lf, .ref lv, .ref ln, .ref t0])), (lv, .inl (E.2.1.1, 6, .inl (wn)))]) (st' := []) ?_ rfl rfl rfl
                      refine g_iinc (lv' := [(0, _), (1, _), (2, _), (3, _), (4, _), (5, _), (6, _)]) (v := nI (b + 1)) (q := 180) dX5_extend_177 rfl rfl (nI_inc _) (Nat.le_of_ble_eq_true rfl) rfl ?_
                      refine g_goto (q := 83) dX5_extend_180 (by decide) ?_
                      refine g_less (lv' := [(0, _), (1, _), (2, _), (3, _), (4, _), (5, _)]) 6 rfl ?_
                      rw [extF_t (by unfold chdB; rw [decide_eq_true (show tw (r 0) < tw b by omega), (usd_bit (by omega)).mp c132, bI_ne0.mp c143]; rfl), hS, ← extC_c (q := updn q size b) (by omega) (agr_upd hI83)] at ih83
                      exact ih83 q2 (fun k hk => by rw [hq2 k (by omega), updn_n (by omega)]; exact hI83 k hk)
            · intro q hI83
              show G E _ [(q0, .inr (5, [.int (nI ((extF nb tw sk wn wo f size r ch (nodeB tw sk wn wo size r ch (bs, bc, be)) nb).1)), .int (nI ((extF nb tw sk wn wo f size r ch (nodeB tw sk wn wo size r ch (bs, bc, be)) nb).2.1)), .ref qb, .ref qr, .ref qw, .ref f0, .ref l0])), (qb, .inl (E.2.1.1, 6, .inl (nA ((extF nb tw sk wn wo f size r ch (nodeB tw sk wn wo size r ch (bs, bc, be)) nb).2.2)))), (qr, .inl (E.2.1.1, 6, .inl (nA (q)))), (qw, .inl (E.2.1.1, 10, .inl (nA (wo)))), (f0, .inr (2, [.int (nI (nb)), .int (yr), .ref fk, .ref ft, .ref fw, .ref fs, .ref fg, .ref fc])), (ft, .inl (E.2.1.1, 10, .inl (nA (tw)))), (fs, .inl (E.2.1.1, 10, .inl (nA (sk)))), (l0, .inr (3, [.int (nI (nt)), .int (nI (lw)), .int (nI (sl)), .ref lc, .ref lr, .ref lf, .ref lv, .ref ln, .ref t0])), (lv, .inl (E.2.1.1, 6, .inl (wn)))] 83 [(0, .ref q0), (1, .int (nI (size))), (2, .int (bitsI (usdB tw r size) 6)), (3, .int (nI (ch))), (4, .int (nI (r (size - 1)))), (5, .int (nI (nb)))] []
              refine g_iload (q := 85) dX5_extend_83 rfl rfl ?_
              refine g_aload_n (q := 86) dX5_extend_85 rfl rfl rfl ?_
              refine gf_X5_21 rfl 0 rfl rfl (q := 89) dX5_extend_86 rfl ?_
              refine gf_X5_36 rfl 4 rfl rfl (q := 92) dX5_extend_89 rfl ?_
              refine g_icmp_geN (t := 183) (q := 95) dX5_extend_92 (by decide) rfl (by omega) (by omega) (fun c92 => ?_) (fun c92 => ?_)
              · skip
                refine g_vret (st := []) dX5_extend_183 rfl rfl ?_
                exact ⟨q, hI83, xv (by rw [extC_s (show ¬ (0 < bs ∧ bc ≤ ch) by omega)])⟩
              · omega
          · omega
    · skip
      refine g_vret (st := []) dX5_extend_15 rfl rfl ?_
      exact ⟨r, fun k hk => rfl, xv (by rw [show extC nb tw sk wn wo (f + 1) size r ch (bs, bc, be) = (bs, bc, be) from by rw [extC]; exact if_pos (show 0 < bs ∧ bc ≤ ch by omega)])⟩
theorem c_extend {E : EN} {q0 qb qr qw : Nat} {f0 fk ft fw fs fg fc nb : Nat} {yr : Int32} {l0 lc lr lf lv ln t0 nt lw sl : Nat} {tw sk wo : Nat → Nat} {wn : Nat → Int32} {f : Nat} (hf : f ≤ 5) (hnb : nb ≤ 10) (hwo : ∀ j, j < nb → wo j < 1000) (htw : ∀ j, j < 10 → tw j < 6)  : ∀ {size bs bc ch : Nat} {r be : Nat → Nat} (hs : size + f = 6) (h0 : 1 ≤ size) (hr : ∀ k, k < size → r k < nb) (hch : ch ≤ 1000 * (size - 1)) (hB : okBt (bs, bc, be)) , CT E yX5_extend cX5_extend 7 (none) (f + 3) [.ref q0, .int (nI (size)), .int (bitsI (usdB tw r size) 6), .int (nI (ch))] [(q0, .inr (5, [.int (nI (bs)), .int (nI (bc)), .ref qb, .ref qr, .ref qw, .ref f0, .ref l0])), (qb, .inl (E.2.1.1, 6, .inl (nA (be)))), (qr, .inl (E.2.1.1, 6, .inl (nA (r)))), (qw, .inl (E.2.1.1, 10, .inl (nA (wo)))), (f0, .inr (2, [.int (nI (nb)), .int (yr), .ref fk, .ref ft, .ref fw, .ref fs, .ref fg, .ref fc])), (ft, .inl (E.2.1.1, 10, .inl (nA (tw)))), (fs, .inl (E.2.1.1, 10, .inl (nA (sk)))), (l0, .inr (3, [.int (nI (nt)), .int (nI (lw)), .int (nI (sl)), .ref lc, .ref lr, .ref lf, .ref lv, .ref ln, .ref t0])), (lv, .inl (E.2.1.1, 6, .inl (wn)))] (fun r1 w => ∃ (q' : Nat → Nat), agr q' r size ∧ xQ none [(q0, .inr (5, [.int (nI ((extC nb tw sk wn wo f size r ch (bs, bc, be)).1)), .int (nI ((extC nb tw sk wn wo f size r ch (bs, bc, be)).2.1)), .ref qb, .ref qr, .ref qw, .ref f0, .ref l0])), (qb, .inl (E.2.1.1, 6, .inl (nA ((extC nb tw sk wn wo f size r ch (bs, bc, be)).2.2)))), (qr, .inl (E.2.1.1, 6, .inl (nA (q')))), (qw, .inl (E.2.1.1, 10, .inl (nA (wo)))), (f0, .inr (2, [.int (nI (nb)), .int (yr), .ref fk, .ref ft, .ref fw, .ref fs, .ref fg, .ref fc])), (ft, .inl (E.2.1.1, 10, .inl (nA (tw)))), (fs, .inl (E.2.1.1, 10, .inl (nA (sk)))), (l0, .inr (3, [.int (nI (nt)), .int (nI (lw)), .int (nI (sl)), .ref lc, .ref lr, .ref lf, .ref lv, .ref ln, .ref t0])), (lv, .inl (E.2.1.1, 6, .inl (wn)))] r1 w) := by
  induction f with
  | zero => intro size bs bc ch r be hs h0 hr hch hB; exact c_extend0 hs h0 hr hch hB hnb hwo htw
  | succ f ih => intro size bs bc ch r be hs h0 hr hch hB; exact c_extendS (ih (by omega)) hs h0 hr hch hB hnb hwo htw
set_option maxHeartbeats 2000000 in
set_option maxRecDepth 20000 in
theorem c_seek {E : EN} {q0 qb qr qw bs bc : Nat} {f0 fk ft fw fs fg fc nb : Nat} {yr : Int32} {l0 lc lr lf lv ln t0 nt lw sl : Nat} {kd tw wt sk rt wo r be : Nat → Nat} {wn : Nat → Int32} (hnb : nb ≤ 10) (hkd : ∀ j, j < 10 → kd j < 4) (htw : ∀ j, j < 10 → tw j < 6) (hwt : ∀ j, j < 10 → wt j < 100) (hrt : ∀ j, j < 6 → rt j < 10)  : CT E yX5_seek cX5_seek 2 (none) 9 [.ref q0] [(q0, .inr (5, [.int (nI (bs)), .int (nI (bc)), .ref qb, .ref qr, .ref qw, .ref f0, .ref l0])), (qb, .inl (E.2.1.1, 6, .inl (nA (be)))), (qr, .inl (E.2.1.1, 6, .inl (nA (r)))), (qw, .inl (E.2.1.1, 10, .inl (nA (wo)))), (f0, .inr (2, [.int (nI (nb)), .int (yr), .ref fk, .ref ft, .ref fw, .ref fs, .ref fg, .ref fc])), (fk, .inl (E.2.1.1, 10, .inl (nA (kd)))), (ft, .inl (E.2.1.1, 10, .inl (nA (tw)))), (fw, .inl (E.2.1.1, 10, .inl (nA (wt)))), (fs, .inl (E.2.1.1, 10, .inl (nA (sk)))), (l0, .inr (3, [.int (nI (nt)), .int (nI (lw)), .int (nI (sl)), .ref lc, .ref lr, .ref lf, .ref lv, .ref ln, .ref t0])), (lr, .inl (E.2.1.1, 6, .inl (nA (rt)))), (lv, .inl (E.2.1.1, 6, .inl (wn)))] (fun r1 w => ∃ (q' : Nat → Nat), True ∧ xQ none [(q0, .inr (5, [.int (nI ((skB nb tw sk wn (mpN (worN kd tw wt rt) wo nb) (0, 0, be) nb).1)), .int (nI ((skB nb tw sk wn (mpN (worN kd tw wt rt) wo nb) (0, 0, be) nb).2.1)), .ref qb, .ref qr, .ref qw, .ref f0, .ref l0])), (qb, .inl (E.2.1.1, 6, .inl (nA ((skB nb tw sk wn (mpN (worN kd tw wt rt) wo nb) (0, 0, be) nb).2.2)))), (qr, .inl (E.2.1.1, 6, .inl (nA (q')))), (qw, .inl (E.2.1.1, 10, .inl (nA (mpN (worN kd tw wt rt) wo nb)))), (f0, .inr (2, [.int (nI (nb)), .int (yr), .ref fk, .ref ft, .ref fw, .ref fs, .ref fg, .ref fc])), (fk, .inl (E.2.1.1, 10, .inl (nA (kd)))), (ft, .inl (E.2.1.1, 10, .inl (nA (tw)))), (fw, .inl (E.2.1.1, 10, .inl (nA (wt)))), (fs, .inl (E.2.1.1, 10, .inl (nA (sk)))), (l0, .inr (3, [.int (nI (nt)), .int (nI (lw)), .int (nI (sl)), .ref lc, .ref lr, .ref lf, .ref lv, .ref ln, .ref t0])), (lr, .inl (E.2.1.1, 6, .inl (nA (rt)))), (lv, .inl (E.2.1.1, 6, .inl (wn)))] r1 w) := by
  refine ct_of (by decide +kernel) (Nat.le_of_ble_eq_true rfl) (lv := [(0, .ref q0)]) rfl (fun A => ?_)
  refine g_aload_n (q := 1) dX5_seek_0 rfl rfl rfl ?_
  refine g_iconst (v := nI 0) (q := 2) dX5_seek_1 rfl ki_0 ?_
  refine pf_X5_29 rfl 0 rfl (Nat.le_of_ble_eq_true rfl) (ws' := [(_, .inr (_, [_, _, _, _, _, _, _])), _, _, _, _, _, _, _, _, _, _, _]) rfl (q := 5) dX5_seek_2 rfl ?_
  refine g_aload_n (q := 6) dX5_seek_5 rfl rfl rfl ?_
  refine g_iconst (v := nI 0) (q := 7) dX5_seek_6 rfl ki_0 ?_
  refine pf_X5_33 rfl 0 rfl (Nat.le_of_ble_eq_true rfl) (ws' := [(_, .inr (_, [_, _, _, _, _, _, _])), _, _, _, _, _, _, _, _, _, _, _]) rfl (q := 10) dX5_seek_7 rfl ?_
  refine g_iconst (v := nI 0) (q := 11) dX5_seek_10 rfl ki_0 ?_
  refine g_istore_n (lv' := [(0, _), (1, _)]) (q := 12) dX5_seek_11 rfl rfl (Nat.le_of_ble_eq_true rfl) rfl ?_
  refine g_eq (ws' := [(q0, .inr (5, [.int (nI (0)), .int (nI (0)), .ref qb, .ref qr, .ref qw, .ref f0, .ref l0])), (qb, .inl (E.2.1.1, 6, .inl (nA (be)))), (qr, .inl (E.2.1.1, 6, .inl (nA (r)))), (qw, .inl (E.2.1.1, 10, .inl (nA (mpN (worN kd tw wt rt) wo 0)))), (f0, .inr (2, [.int (nI (nb)), .int (yr), .ref fk, .ref ft, .ref fw, .ref fs, .ref fg, .ref fc])), (fk, .inl (E.2.1.1, 10, .inl (nA (kd)))), (ft, .inl (E.2.1.1, 10, .inl (nA (tw)))), (fw, .inl (E.2.1.1, 10, .inl (nA (wt)))), (fs, .inl (E.2.1.1, 10, .inl (nA (sk)))), (l0, .inr (3, [.int (nI (nt)), .int (nI (lw)), .int (nI (sl)), .ref lc, .ref lr, .ref lf, .ref lv, .ref ln, .ref t0])), (lr, .inl (E.2.1.1, 6, .inl (nA (rt)))), (lv, .inl (E.2.1.1, 6, .inl (wn)))]) ?_ (by rw [mpN_0]) rfl rfl
  refine g_loop (nb) (fun i => [(q0, .inr (5, [.int (nI (0)), .int (nI (0)), .ref qb, .ref qr, .ref qw, .ref f0, .ref l0])), (qb, .inl (E.2.1.1, 6, .inl (nA (be)))), (qr, .inl (E.2.1.1, 6, .inl (nA (r)))), (qw, .inl (E.2.1.1, 10, .inl (nA (mpN (worN kd tw wt rt) wo i)))), (f0, .inr (2, [.int (nI (nb)), .int (yr), .ref fk, .ref ft, .ref fw, .ref fs, .ref fg, .ref fc])), (fk, .inl (E.2.1.1, 10, .inl (nA (kd)))), (ft, .inl (E.2.1.1, 10, .inl (nA (tw)))), (fw, .inl (E.2.1.1, 10, .inl (nA (wt)))), (fs, .inl (E.2.1.1, 10, .inl (nA (sk)))), (l0, .inr (3, [.int (nI (nt)), .int (nI (lw)), .int (nI (sl)), .ref lc, .ref lr, .ref lf, .ref lv, .ref ln, .ref t0])), (lr, .inl (E.2.1.1, 6, .inl (nA (rt)))), (lv, .inl (E.2.1.1, 6, .inl (wn)))]) (fun i => [(0, .ref q0), (1, .int (nI (i)))]) ?_ ?_ 0 (Nat.zero_le _)
  · intro i hi12 ih12
    show G E _ [(q0, .inr (5, [.int (nI (0)), .int (nI (0)), .ref qb, .ref qr, .ref qw, .ref f0, .ref l0])), (qb, .inl (E.2.1.1, 6, .inl (nA (be)))), (qr, .inl (E.2.1.1, 6, .inl (nA (r)))), (qw, .inl (E.2.1.1, 10, .inl (nA (mpN (worN kd tw wt rt) wo i)))), (f0, .inr (2, [.int (nI (nb)), .int (yr), .ref fk, .ref ft, .ref fw, .ref fs, .ref fg, .ref fc])), (fk, .inl (E.2.1.1, 10, .inl (nA (kd)))), (ft, .inl (E.2.1.1, 10, .inl (nA (tw)))), (fw, .inl (E.2.1.1, 10, .inl (nA (wt)))), (fs, .inl (E.2.1.1, 10, .inl (nA (sk)))), (l0, .inr (3, [.int (nI (nt)), .int (nI (lw)), .int (nI (sl)), .ref lc, .ref lr, .ref lf, .ref lv, .ref ln, .ref t0])), (lr, .inl (E.2.1.1, 6, .inl (nA (rt)))), (lv, .inl (E.2.1.1, 6, .inl (wn)))] 12 [(0, .ref q0), (1, .int (nI (i)))] []
    refine g_iload_n (q := 13) dX5_seek_12 rfl rfl rfl ?_
    refine g_aload_n (q := 14) dX5_seek_13 rfl rfl rfl ?_
    refine gf_X5_21 rfl 0 rfl rfl (q := 17) dX5_seek_14 rfl ?_
    refine gf_X5_36 rfl 4 rfl rfl (q := 20) dX5_seek_17 rfl ?_
    refine g_icmp_geN (t := 50) (q := 23) dX5_seek_20 (by decide) rfl (by omega) (by omega) (fun c20 => ?_) (fun c20 => ?_)
    · omega
    · skip
      refine g_aload_n (q := 24) dX5_seek_23 rfl rfl rfl ?_
      refine gf_X5_18 rfl 0 rfl rfl (q := 27) dX5_seek_24 rfl ?_
      refine g_iload_n (q := 28) dX5_seek_27 rfl rfl rfl ?_
      refine g_aload_n (q := 29) dX5_seek_28 rfl rfl rfl ?_
      refine gf_X5_21 rfl 0 rfl rfl (q := 32) dX5_seek_29 rfl ?_
      refine g_iload_n (q := 33) dX5_seek_32 rfl rfl rfl ?_
      refine g_aload_n (q := 34) dX5_seek_33 rfl rfl rfl ?_
      refine gf_X5_25 rfl 0 rfl rfl (q := 37) dX5_seek_34 rfl ?_
      refine gf_X5_41 rfl 9 rfl rfl (q := 40) dX5_seek_37 rfl ?_
      refine gc_X5_46 (c_worth (by omega) hkd htw hwt hrt) rfl (Nat.le_of_ble_eq_true rfl) rfl 4 rfl [4, 5, 6, 7, 10] rfl rfl (rest := [_, _]) rfl (Nat.le_of_ble_eq_true rfl) (q := 43) dX5_seek_40 rfl (exK (ws' := [_, _, _, _, _, _, _, _, _, _, _, _]) (st' := [.int (nI (worN kd tw wt rt i)), _, _]) rfl rfl ?_)
      refine g_iast (f' := (nA (updn (mpN (worN kd tw wt rt) wo i) i (worN kd tw wt rt i)))) 3 rfl (ixIn (j := i) rfl (by omega) (by decide)) (ixUn (j := i) rfl (by omega)) (ws' := [_, _, _, (_, .inl (_, _, .inl _)), _, _, _, _, _, _, _, _]) rfl (q := 44) dX5_seek_43 rfl ?_
      refine g_iinc (lv' := [(0, _), (1, _)]) (v := nI (i + 1)) (q := 47) dX5_seek_44 rfl rfl (nI_inc _) (Nat.le_of_ble_eq_true rfl) rfl ?_
      refine g_goto (q := 12) dX5_seek_47 (by decide) ?_
      rw [mpN_s] at ih12
      exact ih12
  · skip
    show G E _ [(q0, .inr (5, [.int (nI (0)), .int (nI (0)), .ref qb, .ref qr, .ref qw, .ref f0, .ref l0])), (qb, .inl (E.2.1.1, 6, .inl (nA (be)))), (qr, .inl (E.2.1.1, 6, .inl (nA (r)))), (qw, .inl (E.2.1.1, 10, .inl (nA (mpN (worN kd tw wt rt) wo nb)))), (f0, .inr (2, [.int (nI (nb)), .int (yr), .ref fk, .ref ft, .ref fw, .ref fs, .ref fg, .ref fc])), (fk, .inl (E.2.1.1, 10, .inl (nA (kd)))), (ft, .inl (E.2.1.1, 10, .inl (nA (tw)))), (fw, .inl (E.2.1.1, 10, .inl (nA (wt)))), (fs, .inl (E.2.1.1, 10, .inl (nA (sk)))), (l0, .inr (3, [.int (nI (nt)), .int (nI (lw)), .int (nI (sl)), .ref lc, .ref lr, .ref lf, .ref lv, .ref ln, .ref t0])), (lr, .inl (E.2.1.1, 6, .inl (nA (rt)))), (lv, .inl (E.2.1.1, 6, .inl (wn)))] 12 [(0, .ref q0), (1, .int (nI (nb)))] []
    refine g_iload_n (q := 13) dX5_seek_12 rfl rfl rfl ?_
    refine g_aload_n (q := 14) dX5_seek_13 rfl rfl rfl ?_
    refine gf_X5_21 rfl 0 rfl rfl (q := 17) dX5_seek_14 rfl ?_
    refine gf_X5_36 rfl 4 rfl rfl (q := 20) dX5_seek_17 rfl ?_
    refine g_icmp_geN (t := 50) (q := 23) dX5_seek_20 (by decide) rfl (by omega) (by omega) (fun c20 => ?_) (fun c20 => ?_)
    · skip
      refine g_iconst (v := nI 0) (q := 51) dX5_seek_50 rfl ki_0 ?_
      refine g_istore_n (lv' := [(0, _), (1, _)]) (q := 52) dX5_seek_51 rfl rfl (Nat.le_of_ble_eq_true rfl) rfl ?_
      have hwo1 : ∀ j, j < nb → (mpN (worN kd tw wt rt) wo nb) j < 1000 := fun j hj => by rw [mpN_lt hj]; exact worN_lt hkd htw hwt hrt (by omega)
      refine g_eq (ws' := [(q0, .inr (5, [.int (nI ((skB nb tw sk wn (mpN (worN kd tw wt rt) wo nb) (0, 0, be) 0).1)), .int (nI ((skB nb tw sk wn (mpN (worN kd tw wt rt) wo nb) (0, 0, be) 0).2.1)), .ref qb, .ref qr, .ref qw, .ref f0, .ref l0])), (qb, .inl (E.2.1.1, 6, .inl (nA ((skB nb tw sk wn (mpN (worN kd tw wt rt) wo nb) (0, 0, be) 0).2.2)))), (qr, .inl (E.2.1.1, 6, .inl (nA (r)))), (qw, .inl (E.2.1.1, 10, .inl (nA (mpN (worN kd tw wt rt) wo nb)))), (f0, .inr (2, [.int (nI (nb)), .int (yr), .ref fk, .ref ft, .ref fw, .ref fs, .ref fg, .ref fc])), (fk, .inl (E.2.1.1, 10, .inl (nA (kd)))), (ft, .inl (E.2.1.1, 10, .inl (nA (tw)))), (fw, .inl (E.2.1.1, 10, .inl (nA (wt)))), (fs, .inl (E.2.1.1, 10, .inl (nA (sk)))), (l0, .inr (3, [.int (nI (nt)), .int (nI (lw)), .int (nI (sl)), .ref lc, .ref lr, .ref lf, .ref lv, .ref ln, .ref t0])), (lr, .inl (E.2.1.1, 6, .inl (nA (rt)))), (lv, .inl (E.2.1.1, 6, .inl (wn)))]) ?_ (rfl) rfl rfl
      refine g_loopG (σ := Nat → Nat) (nb) (fun b q => True) (fun b q => [(q0, .inr (5, [.int (nI ((skB nb tw sk wn (mpN (worN kd tw wt rt) wo nb) (0, 0, be) b).1)), .int (nI ((skB nb tw sk wn (mpN (worN kd tw wt rt) wo nb) (0, 0, be) b).2.1)), .ref qb, .ref qr, .ref qw, .ref f0, .ref l0])), (qb, .inl (E.2.1.1, 6, .inl (nA ((skB nb tw sk wn (mpN (worN kd tw wt rt) wo nb) (0, 0, be) b).2.2)))), (qr, .inl (E.2.1.1, 6, .inl (nA (q)))), (qw, .inl (E.2.1.1, 10, .inl (nA (mpN (worN kd tw wt rt) wo nb)))), (f0, .inr (2, [.int (nI (nb)), .int (yr), .ref fk, .ref ft, .ref fw, .ref fs, .ref fg, .ref fc])), (fk, .inl (E.2.1.1, 10, .inl (nA (kd)))), (ft, .inl (E.2.1.1, 10, .inl (nA (tw)))), (fw, .inl (E.2.1.1, 10, .inl (nA (wt)))), (fs, .inl (E.2.1.1, 10, .inl (nA (sk)))), (l0, .inr (3, [.int (nI (nt)), .int (nI (lw)), .int (nI (sl)), .ref lc, .ref lr, .ref lf, .ref lv, .ref ln, .ref t0])), (lr, .inl (E.2.1.1, 6, .inl (nA (rt)))), (lv, .inl (E.2.1.1, 6, .inl (wn)))]) (fun b q => [(0, .ref q0), (1, .int (nI (b)))]) ?_ ?_ 0 (Nat.zero_le _) (r) (trivial)
      · intro b q hb52 hI52 ih52
        have hS1 := skB_ok (tw := tw) (sk := sk) (wn := wn) (B := (0, 0, be)) hwo1 ⟨Nat.zero_le _, Nat.zero_le _⟩ (n := b) (by omega)
        generalize hS : (skB nb tw sk wn (mpN (worN kd tw wt rt) wo nb) (0, 0, be) b) = S at hS1 ⊢
        obtain ⟨s1, s2, s3⟩ := S
        show G E _ [(q0, .inr (5, [.int (nI (s1)), .int (nI (s2)), .ref qb, .ref qr, .ref qw, .ref f0, .ref l0])), (qb, .inl (E.2.1.1, 6, .inl (nA (s3)))), (qr, .inl (E.2.1.1, 6, .inl (nA (q)))), (qw, .inl (E.2.1.1, 10, .inl (nA (mpN (worN kd tw wt rt) wo nb)))), (f0, .inr (2, [.int (nI (nb)), .int (yr), .ref fk, .ref ft, .ref fw, .ref fs, .ref fg, .ref fc])), (fk, .inl (E.2.1.1, 10, .inl (nA (kd)))), (ft, .inl (E.2.1.1, 10, .inl (nA (tw)))), (fw, .inl (E.2.1.1, 10, .inl (nA (wt)))), (fs, .inl (E.2.1.1, 10, .inl (nA (sk)))), (l0, .inr (3, [.int (nI (nt)), .int (nI (lw)), .int (nI (sl)), .ref lc, .ref lr, .ref lf, .ref lv, .ref ln, .ref t0])), (lr, .inl (E.2.1.1, 6, .inl (nA (rt)))), (lv, .inl (E.2.1.1, 6, .inl (wn)))] 52 [(0, .ref q0), (1, .int (nI (b)))] []
        refine g_iload_n (q := 53) dX5_seek_52 rfl rfl rfl ?_
        refine g_aload_n (q := 54) dX5_seek_53 rfl rfl rfl ?_
        refine gf_X5_21 rfl 0 rfl rfl (q := 57) dX5_seek_54 rfl ?_
        refine gf_X5_36 rfl 4 rfl rfl (q := 60) dX5_seek_57 rfl ?_
        refine g_icmp_geN (t := 93) (q := 63) dX5_seek_60 (by decide) rfl (by omega) (by omega) (fun c60 => ?_) (fun c60 => ?_)
        · omega
        · skip
          refine g_aload_n (q := 64) dX5_seek_63 rfl rfl rfl ?_
          refine gf_X5_15 rfl 0 rfl rfl (q := 67) dX5_seek_64 rfl ?_
          refine g_iconst (v := nI 0) (q := 68) dX5_seek_67 rfl ki_0 ?_
          refine g_iload_n (q := 69) dX5_seek_68 rfl rfl rfl ?_
          refine g_iast (f' := (nA (updn q 0 b))) 2 rfl (ixIn (j := 0) rfl (by omega) (by decide)) (ixUn (j := 0) rfl (by omega)) (ws' := [_, _, (_, .inl (_, _, .inl _)), _, _, _, _, _, _, _, _, _]) rfl (q := 70) dX5_seek_69 rfl ?_
          refine g_aload_n (q := 71) dX5_seek_70 rfl rfl rfl ?_
          refine g_iconst (v := nI 1) (q := 72) dX5_seek_71 rfl ki_1 ?_
          refine g_iconst (v := nI 1) (q := 73) dX5_seek_72 rfl ki_1 ?_
          refine g_aload_n (q := 74) dX5_seek_73 rfl rfl rfl ?_
          refine gf_X5_21 rfl 0 rfl rfl (q := 77) dX5_seek_74 rfl ?_
          refine gf_X5_49 rfl 4 rfl rfl (q := 80) dX5_seek_77 rfl ?_
          refine g_iload_n (q := 81) dX5_seek_80 rfl rfl rfl ?_
          have hb1 := htw (b) (by omega)
          refine g_iald (v := nI (tw b)) 6 rfl (ixIn (j := b) rfl (by omega) (by decide)) (ixV (j := b) rfl (by omega)) (q := 82) dX5_seek_81 rfl ?_
          refine g_ishl (q := 83) dX5_seek_82 rfl ?_
          refine g_top (y := bitsI (usdB tw (updn q 0 b) 1) 6) (usd_1 (by omega)) ?_
          refine g_iconst (v := nI 0) (q := 84) dX5_seek_83 rfl ki_0 ?_
          refine gc_X5_52 (c_extend (f := 5) (by decide) hnb hwo1 htw rfl (Nat.le_refl 1) (fun k hk => by rw [show k = 0 by omega, updn_s]; omega) (Nat.zero_le _) hS1) rfl (Nat.le_of_ble_eq_true rfl) rfl 0 rfl [0, 1, 2, 3, 4, 6, 8, 9, 11] rfl rfl (rest := []) rfl (Nat.le_of_ble_eq_true rfl) (q := 87) dX5_seek_84 rfl (exKPM rfl (fun q2 hq2 => ?_))
          refine g_eq (ws' := [(q0, .inr (5, [.int (nI ((extC nb tw sk wn (mpN (worN kd tw wt rt) wo nb) 5 1 (updn q 0 b) 0 (s1, s2, s3)).1)), .int (nI ((extC nb tw sk wn (mpN (worN kd tw wt rt) wo nb) 5 1 (updn q 0 b) 0 (s1, s2, s3)).2.1)), .ref qb, .ref qr, .ref qw, .ref f0, .ref l0])), (qb, .inl (E.2.1.1, 6, .inl (nA ((extC nb tw sk wn (mpN (worN kd tw wt rt) wo nb) 5 1 (updn q 0 b) 0 (s1, s2, s3)).2.2)))), (qr, .inl (E.2.1.1, 6, .inl (nA (q2)))), (qw, .inl (E.2.1.1, 10, .inl (nA (mpN (worN kd tw wt rt) wo nb)))), (f0, .inr (2, [.int (nI (nb)), .int (yr), .ref fk, .ref ft, .ref fw, .ref fs, .ref fg, .ref fc])), (fk, .inl (E.2.1.1, 10, .inl (nA (kd)))), (ft, .inl (E.2.1.1, 10, .inl (nA (tw)))), (fw, .inl (E.2.1.1, 10, .inl (nA (wt)))), (fs, .inl (E.2.1.1, 10, .inl (nA (sk)))), (l0, .inr (3, [.int (nI (nt)), .int (nI (lw)), .int (nI (sl)), .ref lc, .ref lr, .ref lf, .ref lv, .ref ln, .ref t0])), (lr, .inl (E.2.1.1, 6, .inl (nA (rt)))), (lv, .inl (E.2.1.1, 6, .inl (wn)))]) (st' := []) ?_ rfl rfl rfl
          refine g_iinc (lv' := [(0, _), (1, _)]) (v := nI (b + 1)) (q := 90) dX5_seek_87 rfl rfl (nI_inc _) (Nat.le_of_ble_eq_true rfl) rfl ?_
          refine g_goto (q := 52) dX5_seek_90 (by decide) ?_
          rw [show (skB nb tw sk wn (mpN (worN kd tw wt rt) wo nb) (0, 0, be) (b + 1)) = extC nb tw sk wn (mpN (worN kd tw wt rt) wo nb) 5 1 (updn (fun _ => 0) 0 b) 0 (skB nb tw sk wn (mpN (worN kd tw wt rt) wo nb) (0, 0, be) b) from rfl, hS, ← extC_c (q := updn q 0 b) (Nat.le_refl 1) (agr_upd (fun k hk => absurd hk (Nat.not_lt_zero k)))] at ih52
          exact ih52 q2 trivial
      · intro q hI52
        show G E _ [(q0, .inr (5, [.int (nI ((skB nb tw sk wn (mpN (worN kd tw wt rt) wo nb) (0, 0, be) nb).1)), .int (nI ((skB nb tw sk wn (mpN (worN kd tw wt rt) wo nb) (0, 0, be) nb).2.1)), .ref qb, .ref qr, .ref qw, .ref f0, .ref l0])), (qb, .inl (E.2.1.1, 6, .inl (nA ((skB nb tw sk wn (mpN (worN kd tw wt rt) wo nb) (0, 0, be) nb).2.2)))), (qr, .inl (E.2.1.1, 6, .inl (nA (q)))), (qw, .inl (E.2.1.1, 10, .inl (nA (mpN (worN kd tw wt rt) wo nb)))), (f0, .inr (2, [.int (nI (nb)), .int (yr), .ref fk, .ref ft, .ref fw, .ref fs, .ref fg, .ref fc])), (fk, .inl (E.2.1.1, 10, .inl (nA (kd)))), (ft, .inl (E.2.1.1, 10, .inl (nA (tw)))), (fw, .inl (E.2.1.1, 10, .inl (nA (wt)))), (fs, .inl (E.2.1.1, 10, .inl (nA (sk)))), (l0, .inr (3, [.int (nI (nt)), .int (nI (lw)), .int (nI (sl)), .ref lc, .ref lr, .ref lf, .ref lv, .ref ln, .ref t0])), (lr, .inl (E.2.1.1, 6, .inl (nA (rt)))), (lv, .inl (E.2.1.1, 6, .inl (wn)))] 52 [(0, .ref q0), (1, .int (nI (nb)))] []
        refine g_iload_n (q := 53) dX5_seek_52 rfl rfl rfl ?_
        refine g_aload_n (q := 54) dX5_seek_53 rfl rfl rfl ?_
        refine gf_X5_21 rfl 0 rfl rfl (q := 57) dX5_seek_54 rfl ?_
        refine gf_X5_36 rfl 4 rfl rfl (q := 60) dX5_seek_57 rfl ?_
        refine g_icmp_geN (t := 93) (q := 63) dX5_seek_60 (by decide) rfl (by omega) (by omega) (fun c60 => ?_) (fun c60 => ?_)
        · skip
          refine g_vret (st := []) dX5_seek_93 rfl rfl ?_
          exact ⟨q, trivial, xv rfl⟩
        · omega
    · omega
set_option maxHeartbeats 2000000 in
set_option maxRecDepth 20000 in
theorem c_ring {E : EN} {p0 u0 l0 r0 f0 kp ik x0 s0 q0 g0 b0 ora c0 d0 : Nat} {fk ft fw fs fg fc nb yr : Nat} {lc lr lf lv ln t0 nt lw sl : Nat} {qb qr qw bs bc : Nat} {kd tw wt sk rt wo r be : Nat → Nat} {wn : Nat → Int32} {x : Int32} (hnb : nb ≤ 10) (hkd : ∀ j, j < 10 → kd j < 4) (htw : ∀ j, j < 10 → tw j < 6) (hwt : ∀ j, j < 10 → wt j < 100) (hrt : ∀ j, j < 6 → rt j < 10)  : CT E yX9_ring cX9_ring 5 (some .int) 10 [.ref p0, .int (x)] [(p0, .inr (9, [.ref u0, .ref l0, .ref r0, .ref f0, .ref kp, .ref ik, .ref x0, .ref s0, .ref q0, .ref g0, .ref b0, .ref ora, .ref c0, .ref d0])), (q0, .inr (5, [.int (nI (bs)), .int (nI (bc)), .ref qb, .ref qr, .ref qw, .ref f0, .ref l0])), (qb, .inl (E.2.1.1, 6, .inl (nA (be)))), (qr, .inl (E.2.1.1, 6, .inl (nA (r)))), (qw, .inl (E.2.1.1, 10, .inl (nA (wo)))), (f0, .inr (2, [.int (nI (nb)), .int (nI (yr)), .ref fk, .ref ft, .ref fw, .ref fs, .ref fg, .ref fc])), (fk, .inl (E.2.1.1, 10, .inl (nA (kd)))), (ft, .inl (E.2.1.1, 10, .inl (nA (tw)))), (fw, .inl (E.2.1.1, 10, .inl (nA (wt)))), (fs, .inl (E.2.1.1, 10, .inl (nA (sk)))), (l0, .inr (3, [.int (nI (nt)), .int (nI (lw)), .int (nI (sl)), .ref lc, .ref lr, .ref lf, .ref lv, .ref ln, .ref t0])), (lr, .inl (E.2.1.1, 6, .inl (nA (rt)))), (lv, .inl (E.2.1.1, 6, .inl (wn)))] (fun r1 w => ∃ (bs' bc' : Nat) (be' r' wo' : Nat → Nat), xQ (some (.int (opRing (skB nb tw sk wn (mpN (worN kd tw wt rt) wo nb) (0, 0, be) nb) x))) [(p0, .inr (9, [.ref u0, .ref l0, .ref r0, .ref f0, .ref kp, .ref ik, .ref x0, .ref s0, .ref q0, .ref g0, .ref b0, .ref ora, .ref c0, .ref d0])), (q0, .inr (5, [.int (nI (bs')), .int (nI (bc')), .ref qb, .ref qr, .ref qw, .ref f0, .ref l0])), (qb, .inl (E.2.1.1, 6, .inl (nA (be')))), (qr, .inl (E.2.1.1, 6, .inl (nA (r')))), (qw, .inl (E.2.1.1, 10, .inl (nA (wo')))), (f0, .inr (2, [.int (nI (nb)), .int (nI (yr)), .ref fk, .ref ft, .ref fw, .ref fs, .ref fg, .ref fc])), (fk, .inl (E.2.1.1, 10, .inl (nA (kd)))), (ft, .inl (E.2.1.1, 10, .inl (nA (tw)))), (fw, .inl (E.2.1.1, 10, .inl (nA (wt)))), (fs, .inl (E.2.1.1, 10, .inl (nA (sk)))), (l0, .inr (3, [.int (nI (nt)), .int (nI (lw)), .int (nI (sl)), .ref lc, .ref lr, .ref lf, .ref lv, .ref ln, .ref t0])), (lr, .inl (E.2.1.1, 6, .inl (nA (rt)))), (lv, .inl (E.2.1.1, 6, .inl (wn)))] r1 w) := by
  refine ct_of (by decide +kernel) (Nat.le_of_ble_eq_true rfl) (lv := [(0, .ref p0), (1, .int (x))]) rfl (fun A => ?_)
  rcases hk : rq x with _ | k
  · obtain ⟨n0, n1, n2⟩ := rq_none hk
    refine g_iload_n (q := 1) dX9_ring_0 rfl rfl rfl ?_
    refine g_bipush (v := nI 10) (q := 3) dX9_ring_1 rfl kb_10 ?_
    refine g_icmp_lt (t := 16) (q := 6) dX9_ring_3 (by decide) rfl (fun c3 => ?_) (fun c3 => ?_)
    · skip
      refine g_iconst (v := nI 0) (q := 17) dX9_ring_16 rfl ki_0 ?_
      refine g_istore_n (lv' := [(0, _), (1, _), (2, _)]) (q := 18) dX9_ring_17 rfl rfl (Nat.le_of_ble_eq_true rfl) rfl ?_
      refine g_iload_n (q := 19) dX9_ring_18 rfl rfl rfl ?_
      refine g_if_eq (t := 34) (q := 22) dX9_ring_19 (by decide) rfl (fun c19 => ?_) (fun c19 => ?_)
      · exact absurd c19 n0
      · skip
        refine g_iload_n (q := 23) dX9_ring_22 rfl rfl rfl ?_
        refine g_iconst (v := nI 1) (q := 24) dX9_ring_23 rfl ki_1 ?_
        refine g_icmp_eq (t := 34) (q := 27) dX9_ring_24 (by decide) rfl (fun c24 => ?_) (fun c24 => ?_)
        · exact absurd c24 n1
        · skip
          refine g_iload_n (q := 28) dX9_ring_27 rfl rfl rfl ?_
          refine g_if_neN (t := 34) (q := 31) dX9_ring_28 (by decide) rfl (by omega) (fun c28 => ?_) (fun c28 => ?_)
          · omega
          · skip
            refine g_bipush (v := (-3)) (q := 33) dX9_ring_31 rfl kb_m3 ?_
            refine g_iret (st := []) dX9_ring_33 rfl rfl rfl ?_
            exact ⟨bs, bc, be, r, wo, xr (by simp only [opRing, hk])⟩
    · skip
      refine g_iload_n (q := 7) dX9_ring_6 rfl rfl rfl ?_
      refine g_bipush (v := nI 16) (q := 9) dX9_ring_7 rfl kb_16 ?_
      refine g_icmp_ge (t := 16) (q := 12) dX9_ring_9 (by decide) rfl (fun c9 => ?_) (fun c9 => ?_)
      · skip
        refine g_iconst (v := nI 0) (q := 17) dX9_ring_16 rfl ki_0 ?_
        refine g_istore_n (lv' := [(0, _), (1, _), (2, _)]) (q := 18) dX9_ring_17 rfl rfl (Nat.le_of_ble_eq_true rfl) rfl ?_
        refine g_iload_n (q := 19) dX9_ring_18 rfl rfl rfl ?_
        refine g_if_eq (t := 34) (q := 22) dX9_ring_19 (by decide) rfl (fun c19 => ?_) (fun c19 => ?_)
        · exact absurd c19 n0
        · skip
          refine g_iload_n (q := 23) dX9_ring_22 rfl rfl rfl ?_
          refine g_iconst (v := nI 1) (q := 24) dX9_ring_23 rfl ki_1 ?_
          refine g_icmp_eq (t := 34) (q := 27) dX9_ring_24 (by decide) rfl (fun c24 => ?_) (fun c24 => ?_)
          · exact absurd c24 n1
          · skip
            refine g_iload_n (q := 28) dX9_ring_27 rfl rfl rfl ?_
            refine g_if_neN (t := 34) (q := 31) dX9_ring_28 (by decide) rfl (by omega) (fun c28 => ?_) (fun c28 => ?_)
            · omega
            · skip
              refine g_bipush (v := (-3)) (q := 33) dX9_ring_31 rfl kb_m3 ?_
              refine g_iret (st := []) dX9_ring_33 rfl rfl rfl ?_
              exact ⟨bs, bc, be, r, wo, xr (by simp only [opRing, hk])⟩
      · exact absurd (n2 c3) c9
  · obtain ⟨rfl, hk0⟩ := rq_some hk
    rcases hk0 with rfl | rfl | ⟨hk1, hk2⟩
    · skip
      refine g_iload_n (q := 1) dX9_ring_0 rfl rfl rfl ?_
      refine g_bipush (v := nI 10) (q := 3) dX9_ring_1 rfl kb_10 ?_
      refine g_icmp_ltN (t := 16) (q := 6) dX9_ring_3 (by decide) rfl (by omega) (by omega) (fun c3 => ?_) (fun c3 => ?_)
      · skip
        refine g_iconst (v := nI 0) (q := 17) dX9_ring_16 rfl ki_0 ?_
        refine g_istore_n (lv' := [(0, _), (1, _), (2, _)]) (q := 18) dX9_ring_17 rfl rfl (Nat.le_of_ble_eq_true rfl) rfl ?_
        refine g_iload_n (q := 19) dX9_ring_18 rfl rfl rfl ?_
        refine g_if_eqN (t := 34) (q := 22) dX9_ring_19 (by decide) rfl (by omega) (fun c19 => ?_) (fun c19 => ?_)
        · skip
          refine g_aload_n (q := 35) dX9_ring_34 rfl rfl rfl ?_
          refine gf_X9_66 rfl 0 rfl rfl (q := 38) dX9_ring_35 rfl ?_
          refine gc_X9_226 (c_seek hnb hkd htw hwt hrt) rfl (Nat.le_of_ble_eq_true rfl) rfl 1 rfl [1, 2, 3, 4, 5, 6, 7, 8, 9, 10, 11, 12] rfl rfl (rest := []) rfl (Nat.le_of_ble_eq_true rfl) (q := 41) dX9_ring_38 rfl (exKPM rfl (fun q2 _ => ?_))
          refine g_eq (ws' := [(p0, .inr (9, [.ref u0, .ref l0, .ref r0, .ref f0, .ref kp, .ref ik, .ref x0, .ref s0, .ref q0, .ref g0, .ref b0, .ref ora, .ref c0, .ref d0])), (q0, .inr (5, [.int (nI ((skB nb tw sk wn (mpN (worN kd tw wt rt) wo nb) (0, 0, be) nb).1)), .int (nI ((skB nb tw sk wn (mpN (worN kd tw wt rt) wo nb) (0, 0, be) nb).2.1)), .ref qb, .ref qr, .ref qw, .ref f0, .ref l0])), (qb, .inl (E.2.1.1, 6, .inl (nA ((skB nb tw sk wn (mpN (worN kd tw wt rt) wo nb) (0, 0, be) nb).2.2)))), (qr, .inl (E.2.1.1, 6, .inl (nA (q2)))), (qw, .inl (E.2.1.1, 10, .inl (nA (mpN (worN kd tw wt rt) wo nb)))), (f0, .inr (2, [.int (nI (nb)), .int (nI (yr)), .ref fk, .ref ft, .ref fw, .ref fs, .ref fg, .ref fc])), (fk, .inl (E.2.1.1, 10, .inl (nA (kd)))), (ft, .inl (E.2.1.1, 10, .inl (nA (tw)))), (fw, .inl (E.2.1.1, 10, .inl (nA (wt)))), (fs, .inl (E.2.1.1, 10, .inl (nA (sk)))), (l0, .inr (3, [.int (nI (nt)), .int (nI (lw)), .int (nI (sl)), .ref lc, .ref lr, .ref lf, .ref lv, .ref ln, .ref t0])), (lr, .inl (E.2.1.1, 6, .inl (nA (rt)))), (lv, .inl (E.2.1.1, 6, .inl (wn)))]) (st' := []) ?_ rfl rfl rfl
          have hwo1 : ∀ j, j < nb → (mpN (worN kd tw wt rt) wo nb) j < 1000 := fun j hj => by rw [mpN_lt hj]; exact worN_lt hkd htw hwt hrt (by omega)
          have hSK := skB_ok (tw := tw) (sk := sk) (wn := wn) (B := (0, 0, be)) hwo1 ⟨Nat.zero_le _, Nat.zero_le _⟩ (Nat.le_refl nb)
          have hSK1 := hSK.1
          refine g_aload_n (q := 42) dX9_ring_41 rfl rfl rfl ?_
          refine gf_X9_66 rfl 0 rfl rfl (q := 45) dX9_ring_42 rfl ?_
          refine gf_X9_229 rfl 1 rfl rfl (q := 48) dX9_ring_45 rfl ?_
          refine g_istore_n (lv' := [(0, _), (1, _), (2, _), (3, _)]) (q := 49) dX9_ring_48 rfl rfl (Nat.le_of_ble_eq_true rfl) rfl ?_
          refine g_iload_n (q := 50) dX9_ring_49 rfl rfl rfl ?_
          refine g_if_eqN (t := 80) (q := 53) dX9_ring_50 (by decide) rfl (by omega) (fun c50 => ?_) (fun c50 => ?_)
          · skip
            refine g_iload_n (q := 81) dX9_ring_80 rfl rfl rfl ?_
            refine g_if_neN (t := 86) (q := 84) dX9_ring_81 (by decide) rfl (by omega) (fun c81 => ?_) (fun c81 => ?_)
            · skip
              refine g_iload_n (q := 87) dX9_ring_86 rfl rfl rfl ?_
              refine g_if_neN (t := 100) (q := 90) dX9_ring_87 (by decide) rfl (by omega) (fun c87 => ?_) (fun c87 => ?_)
              · omega
              · skip
                refine g_aload_n (q := 91) dX9_ring_90 rfl rfl rfl ?_
                refine gf_X9_66 rfl 0 rfl rfl (q := 94) dX9_ring_91 rfl ?_
                refine gf_X9_235 rfl 1 rfl rfl (q := 97) dX9_ring_94 rfl ?_
                refine g_goto (q := 101) dX9_ring_97 (by decide) ?_
                refine g_iret (st := []) dX9_ring_101 rfl rfl rfl ?_
                exact ⟨((skB nb tw sk wn (mpN (worN kd tw wt rt) wo nb) (0, 0, be) nb).1), ((skB nb tw sk wn (mpN (worN kd tw wt rt) wo nb) (0, 0, be) nb).2.1), ((skB nb tw sk wn (mpN (worN kd tw wt rt) wo nb) (0, 0, be) nb).2.2), q2, (mpN (worN kd tw wt rt) wo nb), xr (by simp only [opRing, hk]; rw [if_pos (by decide), if_neg c81]; rfl)⟩
            · skip
              refine g_iconst (v := (-1)) (q := 85) dX9_ring_84 rfl ki_m1 ?_
              refine g_iret (st := []) dX9_ring_85 rfl rfl rfl ?_
              exact ⟨((skB nb tw sk wn (mpN (worN kd tw wt rt) wo nb) (0, 0, be) nb).1), ((skB nb tw sk wn (mpN (worN kd tw wt rt) wo nb) (0, 0, be) nb).2.1), ((skB nb tw sk wn (mpN (worN kd tw wt rt) wo nb) (0, 0, be) nb).2.2), q2, (mpN (worN kd tw wt rt) wo nb), xr (by simp only [opRing, hk]; rw [if_pos (by decide), if_pos c81])⟩
          · omega
        · omega
      · omega
    · skip
      refine g_iload_n (q := 1) dX9_ring_0 rfl rfl rfl ?_
      refine g_bipush (v := nI 10) (q := 3) dX9_ring_1 rfl kb_10 ?_
      refine g_icmp_ltN (t := 16) (q := 6) dX9_ring_3 (by decide) rfl (by omega) (by omega) (fun c3 => ?_) (fun c3 => ?_)
      · skip
        refine g_iconst (v := nI 0) (q := 17) dX9_ring_16 rfl ki_0 ?_
        refine g_istore_n (lv' := [(0, _), (1, _), (2, _)]) (q := 18) dX9_ring_17 rfl rfl (Nat.le_of_ble_eq_true rfl) rfl ?_
        refine g_iload_n (q := 19) dX9_ring_18 rfl rfl rfl ?_
        refine g_if_eqN (t := 34) (q := 22) dX9_ring_19 (by decide) rfl (by omega) (fun c19 => ?_) (fun c19 => ?_)
        · omega
        · skip
          refine g_iload_n (q := 23) dX9_ring_22 rfl rfl rfl ?_
          refine g_iconst (v := nI 1) (q := 24) dX9_ring_23 rfl ki_1 ?_
          refine g_icmp_eqN (t := 34) (q := 27) dX9_ring_24 (by decide) rfl (by omega) (by omega) (fun c24 => ?_) (fun c24 => ?_)
          · skip
            refine g_aload_n (q := 35) dX9_ring_34 rfl rfl rfl ?_
            refine gf_X9_66 rfl 0 rfl rfl (q := 38) dX9_ring_35 rfl ?_
            refine gc_X9_226 (c_seek hnb hkd htw hwt hrt) rfl (Nat.le_of_ble_eq_true rfl) rfl 1 rfl [1, 2, 3, 4, 5, 6, 7, 8, 9, 10, 11, 12] rfl rfl (rest := []) rfl (Nat.le_of_ble_eq_true rfl) (q := 41) dX9_ring_38 rfl (exKPM rfl (fun q2 _ => ?_))
            refine g_eq (ws' := [(p0, .inr (9, [.ref u0, .ref l0, .ref r0, .ref f0, .ref kp, .ref ik, .ref x0, .ref s0, .ref q0, .ref g0, .ref b0, .ref ora, .ref c0, .ref d0])), (q0, .inr (5, [.int (nI ((skB nb tw sk wn (mpN (worN kd tw wt rt) wo nb) (0, 0, be) nb).1)), .int (nI ((skB nb tw sk wn (mpN (worN kd tw wt rt) wo nb) (0, 0, be) nb).2.1)), .ref qb, .ref qr, .ref qw, .ref f0, .ref l0])), (qb, .inl (E.2.1.1, 6, .inl (nA ((skB nb tw sk wn (mpN (worN kd tw wt rt) wo nb) (0, 0, be) nb).2.2)))), (qr, .inl (E.2.1.1, 6, .inl (nA (q2)))), (qw, .inl (E.2.1.1, 10, .inl (nA (mpN (worN kd tw wt rt) wo nb)))), (f0, .inr (2, [.int (nI (nb)), .int (nI (yr)), .ref fk, .ref ft, .ref fw, .ref fs, .ref fg, .ref fc])), (fk, .inl (E.2.1.1, 10, .inl (nA (kd)))), (ft, .inl (E.2.1.1, 10, .inl (nA (tw)))), (fw, .inl (E.2.1.1, 10, .inl (nA (wt)))), (fs, .inl (E.2.1.1, 10, .inl (nA (sk)))), (l0, .inr (3, [.int (nI (nt)), .int (nI (lw)), .int (nI (sl)), .ref lc, .ref lr, .ref lf, .ref lv, .ref ln, .ref t0])), (lr, .inl (E.2.1.1, 6, .inl (nA (rt)))), (lv, .inl (E.2.1.1, 6, .inl (wn)))]) (st' := []) ?_ rfl rfl rfl
            have hwo1 : ∀ j, j < nb → (mpN (worN kd tw wt rt) wo nb) j < 1000 := fun j hj => by rw [mpN_lt hj]; exact worN_lt hkd htw hwt hrt (by omega)
            have hSK := skB_ok (tw := tw) (sk := sk) (wn := wn) (B := (0, 0, be)) hwo1 ⟨Nat.zero_le _, Nat.zero_le _⟩ (Nat.le_refl nb)
            have hSK1 := hSK.1
            refine g_aload_n (q := 42) dX9_ring_41 rfl rfl rfl ?_
            refine gf_X9_66 rfl 0 rfl rfl (q := 45) dX9_ring_42 rfl ?_
            refine gf_X9_229 rfl 1 rfl rfl (q := 48) dX9_ring_45 rfl ?_
            refine g_istore_n (lv' := [(0, _), (1, _), (2, _), (3, _)]) (q := 49) dX9_ring_48 rfl rfl (Nat.le_of_ble_eq_true rfl) rfl ?_
            refine g_iload_n (q := 50) dX9_ring_49 rfl rfl rfl ?_
            refine g_if_eqN (t := 80) (q := 53) dX9_ring_50 (by decide) rfl (by omega) (fun c50 => ?_) (fun c50 => ?_)
            · skip
              refine g_iload_n (q := 81) dX9_ring_80 rfl rfl rfl ?_
              refine g_if_neN (t := 86) (q := 84) dX9_ring_81 (by decide) rfl (by omega) (fun c81 => ?_) (fun c81 => ?_)
              · skip
                refine g_iload_n (q := 87) dX9_ring_86 rfl rfl rfl ?_
                refine g_if_neN (t := 100) (q := 90) dX9_ring_87 (by decide) rfl (by omega) (fun c87 => ?_) (fun c87 => ?_)
                · skip
                  refine g_iload_n (q := 101) dX9_ring_100 rfl rfl rfl ?_
                  refine g_iret (st := []) dX9_ring_101 rfl rfl rfl ?_
                  exact ⟨((skB nb tw sk wn (mpN (worN kd tw wt rt) wo nb) (0, 0, be) nb).1), ((skB nb tw sk wn (mpN (worN kd tw wt rt) wo nb) (0, 0, be) nb).2.1), ((skB nb tw sk wn (mpN (worN kd tw wt rt) wo nb) (0, 0, be) nb).2.2), q2, (mpN (worN kd tw wt rt) wo nb), xr (by simp only [opRing, hk]; rw [if_pos (by decide), if_neg c81]; rfl)⟩
                · omega
              · skip
                refine g_iconst (v := (-1)) (q := 85) dX9_ring_84 rfl ki_m1 ?_
                refine g_iret (st := []) dX9_ring_85 rfl rfl rfl ?_
                exact ⟨((skB nb tw sk wn (mpN (worN kd tw wt rt) wo nb) (0, 0, be) nb).1), ((skB nb tw sk wn (mpN (worN kd tw wt rt) wo nb) (0, 0, be) nb).2.1), ((skB nb tw sk wn (mpN (worN kd tw wt rt) wo nb) (0, 0, be) nb).2.2), q2, (mpN (worN kd tw wt rt) wo nb), xr (by simp only [opRing, hk]; rw [if_pos (by decide), if_pos c81])⟩
            · omega
          · omega
      · omega
    · skip
      refine g_iload_n (q := 1) dX9_ring_0 rfl rfl rfl ?_
      refine g_bipush (v := nI 10) (q := 3) dX9_ring_1 rfl kb_10 ?_
      refine g_icmp_ltN (t := 16) (q := 6) dX9_ring_3 (by decide) rfl (by omega) (by omega) (fun c3 => ?_) (fun c3 => ?_)
      · omega
      · skip
        refine g_iload_n (q := 7) dX9_ring_6 rfl rfl rfl ?_
        refine g_bipush (v := nI 16) (q := 9) dX9_ring_7 rfl kb_16 ?_
        refine g_icmp_geN (t := 16) (q := 12) dX9_ring_9 (by decide) rfl (by omega) (by omega) (fun c9 => ?_) (fun c9 => ?_)
        · omega
        · skip
          refine g_iconst (v := nI 1) (q := 13) dX9_ring_12 rfl ki_1 ?_
          refine g_goto (q := 17) dX9_ring_13 (by decide) ?_
          refine g_istore_n (lv' := [(0, _), (1, _), (2, _)]) (q := 18) dX9_ring_17 rfl rfl (Nat.le_of_ble_eq_true rfl) rfl ?_
          refine g_iload_n (q := 19) dX9_ring_18 rfl rfl rfl ?_
          refine g_if_eqN (t := 34) (q := 22) dX9_ring_19 (by decide) rfl (by omega) (fun c19 => ?_) (fun c19 => ?_)
          · omega
          · skip
            refine g_iload_n (q := 23) dX9_ring_22 rfl rfl rfl ?_
            refine g_iconst (v := nI 1) (q := 24) dX9_ring_23 rfl ki_1 ?_
            refine g_icmp_eqN (t := 34) (q := 27) dX9_ring_24 (by decide) rfl (by omega) (by omega) (fun c24 => ?_) (fun c24 => ?_)
            · omega
            · skip
              refine g_iload_n (q := 28) dX9_ring_27 rfl rfl rfl ?_
              refine g_if_neN (t := 34) (q := 31) dX9_ring_28 (by decide) rfl (by omega) (fun c28 => ?_) (fun c28 => ?_)
              · skip
                refine g_aload_n (q := 35) dX9_ring_34 rfl rfl rfl ?_
                refine gf_X9_66 rfl 0 rfl rfl (q := 38) dX9_ring_35 rfl ?_
                refine gc_X9_226 (c_seek hnb hkd htw hwt hrt) rfl (Nat.le_of_ble_eq_true rfl) rfl 1 rfl [1, 2, 3, 4, 5, 6, 7, 8, 9, 10, 11, 12] rfl rfl (rest := []) rfl (Nat.le_of_ble_eq_true rfl) (q := 41) dX9_ring_38 rfl (exKPM rfl (fun q2 _ => ?_))
                refine g_eq (ws' := [(p0, .inr (9, [.ref u0, .ref l0, .ref r0, .ref f0, .ref kp, .ref ik, .ref x0, .ref s0, .ref q0, .ref g0, .ref b0, .ref ora, .ref c0, .ref d0])), (q0, .inr (5, [.int (nI ((skB nb tw sk wn (mpN (worN kd tw wt rt) wo nb) (0, 0, be) nb).1)), .int (nI ((skB nb tw sk wn (mpN (worN kd tw wt rt) wo nb) (0, 0, be) nb).2.1)), .ref qb, .ref qr, .ref qw, .ref f0, .ref l0])), (qb, .inl (E.2.1.1, 6, .inl (nA ((skB nb tw sk wn (mpN (worN kd tw wt rt) wo nb) (0, 0, be) nb).2.2)))), (qr, .inl (E.2.1.1, 6, .inl (nA (q2)))), (qw, .inl (E.2.1.1, 10, .inl (nA (mpN (worN kd tw wt rt) wo nb)))), (f0, .inr (2, [.int (nI (nb)), .int (nI (yr)), .ref fk, .ref ft, .ref fw, .ref fs, .ref fg, .ref fc])), (fk, .inl (E.2.1.1, 10, .inl (nA (kd)))), (ft, .inl (E.2.1.1, 10, .inl (nA (tw)))), (fw, .inl (E.2.1.1, 10, .inl (nA (wt)))), (fs, .inl (E.2.1.1, 10, .inl (nA (sk)))), (l0, .inr (3, [.int (nI (nt)), .int (nI (lw)), .int (nI (sl)), .ref lc, .ref lr, .ref lf, .ref lv, .ref ln, .ref t0])), (lr, .inl (E.2.1.1, 6, .inl (nA (rt)))), (lv, .inl (E.2.1.1, 6, .inl (wn)))]) (st' := []) ?_ rfl rfl rfl
                have hwo1 : ∀ j, j < nb → (mpN (worN kd tw wt rt) wo nb) j < 1000 := fun j hj => by rw [mpN_lt hj]; exact worN_lt hkd htw hwt hrt (by omega)
                have hSK := skB_ok (tw := tw) (sk := sk) (wn := wn) (B := (0, 0, be)) hwo1 ⟨Nat.zero_le _, Nat.zero_le _⟩ (Nat.le_refl nb)
                have hSK1 := hSK.1
                refine g_aload_n (q := 42) dX9_ring_41 rfl rfl rfl ?_
                refine gf_X9_66 rfl 0 rfl rfl (q := 45) dX9_ring_42 rfl ?_
                refine gf_X9_229 rfl 1 rfl rfl (q := 48) dX9_ring_45 rfl ?_
                refine g_istore_n (lv' := [(0, _), (1, _), (2, _), (3, _)]) (q := 49) dX9_ring_48 rfl rfl (Nat.le_of_ble_eq_true rfl) rfl ?_
                refine g_iload_n (q := 50) dX9_ring_49 rfl rfl rfl ?_
                refine g_if_eqN (t := 80) (q := 53) dX9_ring_50 (by decide) rfl (by omega) (fun c50 => ?_) (fun c50 => ?_)
                · omega
                · skip
                  refine g_iload_n (q := 54) dX9_ring_53 rfl rfl rfl ?_
                  refine g_bipush (v := nI 10) (q := 56) dX9_ring_54 rfl kb_10 ?_
                  refine g_isubN (q := 57) dX9_ring_56 rfl (by omega) ?_
                  refine g_istore (lv' := [(0, _), (1, _), (2, _), (3, _), (4, _)]) (q := 59) dX9_ring_57 rfl (Nat.le_of_ble_eq_true rfl) rfl ?_
                  refine g_iload (q := 61) dX9_ring_59 rfl rfl ?_
                  refine g_iload_n (q := 62) dX9_ring_61 rfl rfl rfl ?_
                  refine g_icmp_geN (t := 78) (q := 65) dX9_ring_62 (by decide) rfl (by omega) (by omega) (fun c62 => ?_) (fun c62 => ?_)
                  · skip
                    refine g_iconst (v := (-1)) (q := 79) dX9_ring_78 rfl ki_m1 ?_
                    refine g_iret (st := []) dX9_ring_79 rfl rfl rfl ?_
                    exact ⟨((skB nb tw sk wn (mpN (worN kd tw wt rt) wo nb) (0, 0, be) nb).1), ((skB nb tw sk wn (mpN (worN kd tw wt rt) wo nb) (0, 0, be) nb).2.1), ((skB nb tw sk wn (mpN (worN kd tw wt rt) wo nb) (0, 0, be) nb).2.2), q2, (mpN (worN kd tw wt rt) wo nb), xr (by simp only [opRing, hk]; rw [if_neg (by omega), if_neg (by omega)])⟩
                  · skip
                    refine g_aload_n (q := 66) dX9_ring_65 rfl rfl rfl ?_
                    refine gf_X9_66 rfl 0 rfl rfl (q := 69) dX9_ring_66 rfl ?_
                    refine gf_X9_232 rfl 1 rfl rfl (q := 72) dX9_ring_69 rfl ?_
                    refine g_iload (q := 74) dX9_ring_72 rfl rfl ?_
                    refine g_iald (v := nI (((skB nb tw sk wn (mpN (worN kd tw wt rt) wo nb) (0, 0, be) nb).2.2) (k - 10))) 2 rfl (ixIn (j := k - 10) rfl (by omega) (by decide)) (ixV (j := k - 10) rfl (by omega)) (q := 75) dX9_ring_74 rfl ?_
                    refine g_goto (q := 79) dX9_ring_75 (by decide) ?_
                    refine g_iret (st := []) dX9_ring_79 rfl rfl rfl ?_
                    exact ⟨((skB nb tw sk wn (mpN (worN kd tw wt rt) wo nb) (0, 0, be) nb).1), ((skB nb tw sk wn (mpN (worN kd tw wt rt) wo nb) (0, 0, be) nb).2.1), ((skB nb tw sk wn (mpN (worN kd tw wt rt) wo nb) (0, 0, be) nb).2.2), q2, (mpN (worN kd tw wt rt) wo nb), xr (by simp only [opRing, hk]; rw [if_neg (by omega), if_pos (by omega)])⟩
              · omega
