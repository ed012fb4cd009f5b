set_option maxHeartbeats 2000000 in
set_option maxRecDepth 20000 in
theorem c_fitsBehind {E : EN} {m0 mt mk mb mx mr mn ma mi mj mg ms md mc me mh mo mw nt nb lw sl tl en sn dn : Nat} {po ta dg nu fa rm_ rto rbo ga : Int32} {tk : Int64} {tw wt sk gr : Nat → Nat} {ch : Nat → Int32} {yr : Nat} {cr rt fd nx : Nat → Nat} {wn : Nat → Int32} {b c : Nat} (hb : b < 10) (hc : c < 10) (htw : ∀ j, j < 10 → tw j < 6)  : CT E yX10_fitsBehind cX10_fitsBehind 3 (some .boolean) 0 [.ref m0, .int (nI (b)), .int (nI (c))] [(m0, .inr (10, (.int (nI (nt)) :: .ref mt :: .int (nI (nb)) :: .ref mk :: .ref mb :: .int (nI (lw)) :: .int (nI (sl)) :: .int (nI (tl)) :: .ref mx :: .int (po) :: .int (ta) :: .long (tk) :: .int (dg) :: .int (nu) :: .int (fa) :: .int (rm_) :: .int (rto) :: .int (rbo) :: .ref mr :: .ref mn :: .ref ma :: .ref mi :: .ref mj :: .int (nI (en)) :: .ref mg :: .int (nI (sn)) :: .ref ms :: .int (nI (dn)) :: .ref md :: .ref mc :: .ref me :: .int (ga) :: .ref mh :: .ref mo :: .ref mw :: []))), (mt, .inl (E.2.1.1, 30, .inl (townF cr rt fd wn nx))), (mn, .inl (E.2.1.1, 47, .inl (nowF tw wt sk gr ch yr)))] (xQ (some (.int (bI (wanB sk wn b (tw c))))) [(m0, .inr (10, (.int (nI (nt)) :: .ref mt :: .int (nI (nb)) :: .ref mk :: .ref mb :: .int (nI (lw)) :: .int (nI (sl)) :: .int (nI (tl)) :: .ref mx :: .int (po) :: .int (ta) :: .long (tk) :: .int (dg) :: .int (nu) :: .int (fa) :: .int (rm_) :: .int (rto) :: .int (rbo) :: .ref mr :: .ref mn :: .ref ma :: .ref mi :: .ref mj :: .int (nI (en)) :: .ref mg :: .int (nI (sn)) :: .ref ms :: .int (nI (dn)) :: .ref md :: .ref mc :: .ref me :: .int (ga) :: .ref mh :: .ref mo :: .ref mw :: []))), (mt, .inl (E.2.1.1, 30, .inl (townF cr rt fd wn nx))), (mn, .inl (E.2.1.1, 47, .inl (nowF tw wt sk gr ch yr)))]) := by
  refine ct_of (by decide +kernel) (Nat.le_of_ble_eq_true rfl) (lv := [(0, .ref m0), (1, .int (nI (b))), (2, .int (nI (c)))]) rfl (fun A => ?_)
  refine g_aload_n (q := 1) dX10_fitsBehind_0 rfl rfl rfl ?_
  refine gf_X10_29 rfl 0 rfl rfl (q := 4) dX10_fitsBehind_1 rfl ?_
  refine g_bipush (v := nI 20) (q := 6) dX10_fitsBehind_4 rfl kb_20 ?_
  refine g_iload_n (q := 7) dX10_fitsBehind_6 rfl rfl rfl ?_
  refine g_iaddN (q := 8) dX10_fitsBehind_7 rfl ?_
  refine g_iald (v := nI (sk b)) 2 rfl (ixIn (j := 20 + b) rfl (by omega) (by decide)) ((ixV (j := 20 + b) rfl (by omega)).trans (nowF_s (by omega))) (q := 9) dX10_fitsBehind_8 rfl ?_
  refine g_aload_n (q := 10) dX10_fitsBehind_9 rfl rfl rfl ?_
  refine gf_X10_13 rfl 0 rfl rfl (q := 13) dX10_fitsBehind_10 rfl ?_
  refine g_iconst (v := nI 5) (q := 14) dX10_fitsBehind_13 rfl ki_5 ?_
  refine g_aload_n (q := 15) dX10_fitsBehind_14 rfl rfl rfl ?_
  refine gf_X10_29 rfl 0 rfl rfl (q := 18) dX10_fitsBehind_15 rfl ?_
  refine g_iload_n (q := 19) dX10_fitsBehind_18 rfl rfl rfl ?_
  have hb1 := htw (c) (by omega)
  refine g_iald (v := nI (tw c)) 2 rfl (ixIn (j := c) rfl (by omega) (by decide)) ((ixV (j := c) rfl (by omega)).trans (nowF_t (by omega))) (q := 20) dX10_fitsBehind_19 rfl ?_
  refine g_imulN (q := 21) dX10_fitsBehind_20 rfl ?_
  refine g_iconst (v := nI 3) (q := 22) dX10_fitsBehind_21 rfl ki_3 ?_
  refine g_iaddN (q := 23) dX10_fitsBehind_22 rfl ?_
  refine g_iald (v := wn (tw c)) 1 rfl (ixIn (j := 5 * (tw c) + 3) rfl (by omega) (by decide)) ((ixV (j := 5 * (tw c) + 3) rfl (by omega)).trans (townF_3 (tw c))) (q := 24) dX10_fitsBehind_23 rfl ?_
  refine g_icmp_ne (t := 31) (q := 27) dX10_fitsBehind_24 (by decide) rfl (fun c24 => ?_) (fun c24 => ?_)
  · skip
    refine g_iconst (v := nI 0) (q := 32) dX10_fitsBehind_31 rfl ki_0 ?_
    refine g_iret (st := []) dX10_fitsBehind_32 rfl (narZ (by first | exact Or.inl rfl | exact Or.inr rfl)) rfl ?_
    exact xr (show nI (0) = bI (wanB sk wn b (tw c)) by exact bI_f c24)
  · skip
    refine g_iconst (v := nI 1) (q := 28) dX10_fitsBehind_27 rfl ki_1 ?_
    refine g_goto (q := 32) dX10_fitsBehind_28 (by decide) ?_
    refine g_iret (st := []) dX10_fitsBehind_32 rfl (narZ (by first | exact Or.inl rfl | exact Or.inr rfl)) rfl ?_
    exact xr (show nI (1) = bI (wanB sk wn b (tw c)) by exact bI_t c24)
set_option maxHeartbeats 2000000 in
set_option maxRecDepth 20000 in
theorem c_isOnce {E : EN} {m0 mt mk mb mx mr mn ma mi mj mg ms md mc me mh mo mw nt nb lw sl tl en sn dn : Nat} {po ta dg nu fa rm_ rto rbo ga : Int32} {tk : Int64} {tw wt sk gr : Nat → Nat} {ch : Nat → Int32} {yr : Nat} {r : Nat → Nat} {d : Nat} (hd : d < 7) (h1 : 1 ≤ d) (hr : ∀ k, k < d + 1 → 1 ≤ r k ∧ r k ≤ 10) (htw : ∀ j, j < 10 → tw j < 6)  : CT E yX10_isOnce cX10_isOnce 4 (some .boolean) 0 [.ref m0, .int (nI (d))] [(m0, .inr (10, (.int (nI (nt)) :: .ref mt :: .int (nI (nb)) :: .ref mk :: .ref mb :: .int (nI (lw)) :: .int (nI (sl)) :: .int (nI (tl)) :: .ref mx :: .int (po) :: .int (ta) :: .long (tk) :: .int (dg) :: .int (nu) :: .int (fa) :: .int (rm_) :: .int (rto) :: .int (rbo) :: .ref mr :: .ref mn :: .ref ma :: .ref mi :: .ref mj :: .int (nI (en)) :: .ref mg :: .int (nI (sn)) :: .ref ms :: .int (nI (dn)) :: .ref md :: .ref mc :: .ref me :: .int (ga) :: .ref mh :: .ref mo :: .ref mw :: []))), (mn, .inl (E.2.1.1, 47, .inl (nowF tw wt sk gr ch yr))), (mc, .inl (E.2.1.1, 7, .inl (rwF (r))))] (xQ (some (.int (bI (onB tw (qf r) d d)))) [(m0, .inr (10, (.int (nI (nt)) :: .ref mt :: .int (nI (nb)) :: .ref mk :: .ref mb :: .int (nI (lw)) :: .int (nI (sl)) :: .int (nI (tl)) :: .ref mx :: .int (po) :: .int (ta) :: .long (tk) :: .int (dg) :: .int (nu) :: .int (fa) :: .int (rm_) :: .int (rto) :: .int (rbo) :: .ref mr :: .ref mn :: .ref ma :: .ref mi :: .ref mj :: .int (nI (en)) :: .ref mg :: .int (nI (sn)) :: .ref ms :: .int (nI (dn)) :: .ref md :: .ref mc :: .ref me :: .int (ga) :: .ref mh :: .ref mo :: .ref mw :: []))), (mn, .inl (E.2.1.1, 47, .inl (nowF tw wt sk gr ch yr))), (mc, .inl (E.2.1.1, 7, .inl (rwF (r))))]) := by
  refine ct_of (by decide +kernel) (Nat.le_of_ble_eq_true rfl) (lv := [(0, .ref m0), (1, .int (nI (d)))]) rfl (fun A => ?_)
  have hq_d : qf r d < 10 := by have := hr d (by omega); unfold qf; omega
  have hq_0 : qf r 0 < 10 := by have := hr 0 (by omega); unfold qf; omega
  refine g_aload_n (q := 1) dX10_isOnce_0 rfl rfl rfl ?_
  refine gf_X10_29 rfl 0 rfl rfl (q := 4) dX10_isOnce_1 rfl ?_
  refine g_aload_n (q := 5) dX10_isOnce_4 rfl rfl rfl ?_
  refine gf_X10_51 rfl 0 rfl rfl (q := 8) dX10_isOnce_5 rfl ?_
  refine g_iload_n (q := 9) dX10_isOnce_8 rfl rfl rfl ?_
  refine g_iald (v := nI (r d) - 1) 2 rfl (ixIn (j := d) rfl (by omega) (by decide)) (ixV (j := d) rfl (by omega)) (q := 10) dX10_isOnce_9 rfl ?_
  refine g_top (y := nI (qf r d)) (qf_I (hr d (by omega)).1) ?_
  have hb1 := htw (qf r d) (by omega)
  refine g_iald (v := nI (tw (qf r d))) 1 rfl (ixIn (j := qf r d) rfl (by omega) (by decide)) ((ixV (j := qf r d) rfl (by omega)).trans (nowF_t (by omega))) (q := 11) dX10_isOnce_10 rfl ?_
  refine g_aload_n (q := 12) dX10_isOnce_11 rfl rfl rfl ?_
  refine gf_X10_29 rfl 0 rfl rfl (q := 15) dX10_isOnce_12 rfl ?_
  refine g_aload_n (q := 16) dX10_isOnce_15 rfl rfl rfl ?_
  refine gf_X10_51 rfl 0 rfl rfl (q := 19) dX10_isOnce_16 rfl ?_
  refine g_iconst (v := nI 0) (q := 20) dX10_isOnce_19 rfl ki_0 ?_
  refine g_iald (v := nI (r 0) - 1) 2 rfl (ixIn (j := 0) rfl (by omega) (by decide)) (ixV (j := 0) rfl (by omega)) (q := 21) dX10_isOnce_20 rfl ?_
  refine g_top (y := nI (qf r 0)) (qf_I (hr 0 (by omega)).1) ?_
  have hb2 := htw (qf r 0) (by omega)
  refine g_iald (v := nI (tw (qf r 0))) 1 rfl (ixIn (j := qf r 0) rfl (by omega) (by decide)) ((ixV (j := qf r 0) rfl (by omega)).trans (nowF_t (by omega))) (q := 22) dX10_isOnce_21 rfl ?_
  refine g_icmp_leN (t := 29) (q := 25) dX10_isOnce_22 (by decide) rfl (by omega) (by omega) (fun c22 => ?_) (fun c22 => ?_)
  · skip
    refine g_iconst (v := nI 0) (q := 30) dX10_isOnce_29 rfl ki_0 ?_
    refine g_istore_n (lv' := [(0, _), (1, _), (2, _)]) (q := 31) dX10_isOnce_30 rfl rfl (Nat.le_of_ble_eq_true rfl) rfl ?_
    refine g_iconst (v := nI 1) (q := 32) dX10_isOnce_31 rfl ki_1 ?_
    refine g_istore_n (lv' := [(0, _), (1, _), (2, _), (3, _)]) (q := 33) dX10_isOnce_32 rfl rfl (Nat.le_of_ble_eq_true rfl) rfl ?_
    refine g_eq (lv' := [(0, .ref m0), (1, .int (nI d)), (2, .int (bI (onB tw (qf r) d 1))), (3, .int (nI 1))]) ?_ rfl (by rw [onB_1, decide_eq_false (show ¬ tw (qf r 0) < tw (qf r d) by omega)]; rfl) rfl
    refine g_loopI (d) (fun k => 1 ≤ k) (fun k => [(m0, .inr (10, (.int (nI (nt)) :: .ref mt :: .int (nI (nb)) :: .ref mk :: .ref mb :: .int (nI (lw)) :: .int (nI (sl)) :: .int (nI (tl)) :: .ref mx :: .int (po) :: .int (ta) :: .long (tk) :: .int (dg) :: .int (nu) :: .int (fa) :: .int (rm_) :: .int (rto) :: .int (rbo) :: .ref mr :: .ref mn :: .ref ma :: .ref mi :: .ref mj :: .int (nI (en)) :: .ref mg :: .int (nI (sn)) :: .ref ms :: .int (nI (dn)) :: .ref md :: .ref mc :: .ref me :: .int (ga) :: .ref mh :: .ref mo :: .ref mw :: []))), (mn, .inl (E.2.1.1, 47, .inl (nowF tw wt sk gr ch yr))), (mc, .inl (E.2.1.1, 7, .inl (rwF (r))))]) (fun k => [(0, .ref m0), (1, .int (nI (d))), (2, .int (bI (onB tw (qf r) d k))), (3, .int (nI (k)))]) ?_ ?_ 1 (h1) (Nat.le_refl 1)
    · intro k hk33 hv33 ih33
      have hqk : qf r k < 10 := by have := hr k (by omega); unfold qf; omega
      show G E _ [(m0, .inr (10, (.int (nI (nt)) :: .ref mt :: .int (nI (nb)) :: .ref mk :: .ref mb :: .int (nI (lw)) :: .int (nI (sl)) :: .int (nI (tl)) :: .ref mx :: .int (po) :: .int (ta) :: .long (tk) :: .int (dg) :: .int (nu) :: .int (fa) :: .int (rm_) :: .int (rto) :: .int (rbo) :: .ref mr :: .ref mn :: .ref ma :: .ref mi :: .ref mj :: .int (nI (en)) :: .ref mg :: .int (nI (sn)) :: .ref ms :: .int (nI (dn)) :: .ref md :: .ref mc :: .ref me :: .int (ga) :: .ref mh :: .ref mo :: .ref mw :: []))), (mn, .inl (E.2.1.1, 47, .inl (nowF tw wt sk gr ch yr))), (mc, .inl (E.2.1.1, 7, .inl (rwF (r))))] 33 [(0, .ref m0), (1, .int (nI (d))), (2, .int (bI (onB tw (qf r) d k))), (3, .int (nI (k)))] []
      refine g_iload_n (q := 34) dX10_isOnce_33 rfl rfl rfl ?_
      refine g_iload_n (q := 35) dX10_isOnce_34 rfl rfl rfl ?_
      refine g_icmp_geN (t := 79) (q := 38) dX10_isOnce_35 (by decide) rfl (by omega) (by omega) (fun c35 => ?_) (fun c35 => ?_)
      · omega
      · skip
        refine g_iload_n (q := 39) dX10_isOnce_38 rfl rfl rfl ?_
        refine g_if_eq (t := 71) (q := 42) dX10_isOnce_39 (by decide) rfl (fun c39 => ?_) (fun c39 => ?_)
        · skip
          refine g_iconst (v := nI 0) (q := 72) dX10_isOnce_71 rfl ki_0 ?_
          refine g_istore_n (lv' := [(0, _), (1, _), (2, _), (3, _)]) (q := 73) dX10_isOnce_72 rfl rfl (Nat.le_of_ble_eq_true rfl) rfl ?_
          refine g_iinc (lv' := [(0, _), (1, _), (2, _), (3, _)]) (v := nI (k + 1)) (q := 76) dX10_isOnce_73 rfl rfl (nI_inc _) (Nat.le_of_ble_eq_true rfl) rfl ?_
          refine g_goto (q := 33) dX10_isOnce_76 (by decide) ?_
          rw [onB_s, bI_eq0.mp c39] at ih33
          exact ih33 (by omega)
        · skip
          refine g_aload_n (q := 43) dX10_isOnce_42 rfl rfl rfl ?_
          refine gf_X10_29 rfl 0 rfl rfl (q := 46) dX10_isOnce_43 rfl ?_
          refine g_aload_n (q := 47) dX10_isOnce_46 rfl rfl rfl ?_
          refine gf_X10_51 rfl 0 rfl rfl (q := 50) dX10_isOnce_47 rfl ?_
          refine g_iload_n (q := 51) dX10_isOnce_50 rfl rfl rfl ?_
          refine g_iald (v := nI (r k) - 1) 2 rfl (ixIn (j := k) rfl (by omega) (by decide)) (ixV (j := k) rfl (by omega)) (q := 52) dX10_isOnce_51 rfl ?_
          refine g_top (y := nI (qf r k)) (qf_I (hr k (by omega)).1) ?_
          have hb3 := htw (qf r k) (by omega)
          refine g_iald (v := nI (tw (qf r k))) 1 rfl (ixIn (j := qf r k) rfl (by omega) (by decide)) ((ixV (j := qf r k) rfl (by omega)).trans (nowF_t (by omega))) (q := 53) dX10_isOnce_52 rfl ?_
          refine g_aload_n (q := 54) dX10_isOnce_53 rfl rfl rfl ?_
          refine gf_X10_29 rfl 0 rfl rfl (q := 57) dX10_isOnce_54 rfl ?_
          refine g_aload_n (q := 58) dX10_isOnce_57 rfl rfl rfl ?_
          refine gf_X10_51 rfl 0 rfl rfl (q := 61) dX10_isOnce_58 rfl ?_
          refine g_iload_n (q := 62) dX10_isOnce_61 rfl rfl rfl ?_
          refine g_iald (v := nI (r d) - 1) 2 rfl (ixIn (j := d) rfl (by omega) (by decide)) (ixV (j := d) rfl (by omega)) (q := 63) dX10_isOnce_62 rfl ?_
          refine g_top (y := nI (qf r d)) (qf_I (hr d (by omega)).1) ?_
          have hb4 := htw (qf r d) (by omega)
          refine g_iald (v := nI (tw (qf r d))) 1 rfl (ixIn (j := qf r d) rfl (by omega) (by decide)) ((ixV (j := qf r d) rfl (by omega)).trans (nowF_t (by omega))) (q := 64) dX10_isOnce_63 rfl ?_
          refine g_icmp_eqN (t := 71) (q := 67) dX10_isOnce_64 (by decide) rfl (by omega) (by omega) (fun c64 => ?_) (fun c64 => ?_)
          · skip
            refine g_iconst (v := nI 0) (q := 72) dX10_isOnce_71 rfl ki_0 ?_
            refine g_istore_n (lv' := [(0, _), (1, _), (2, _), (3, _)]) (q := 73) dX10_isOnce_72 rfl rfl (Nat.le_of_ble_eq_true rfl) rfl ?_
            refine g_iinc (lv' := [(0, _), (1, _), (2, _), (3, _)]) (v := nI (k + 1)) (q := 76) dX10_isOnce_73 rfl rfl (nI_inc _) (Nat.le_of_ble_eq_true rfl) rfl ?_
            refine g_goto (q := 33) dX10_isOnce_76 (by decide) ?_
            rw [onB_s, bI_ne0.mp c39, decide_eq_true c64, decide_eq_false (show ¬ k = 0 by omega)] at ih33
            exact ih33 (by omega)
          · skip
            refine g_iconst (v := nI 1) (q := 68) dX10_isOnce_67 rfl ki_1 ?_
            refine g_goto (q := 72) dX10_isOnce_68 (by decide) ?_
            refine g_istore_n (lv' := [(0, _), (1, _), (2, _), (3, _)]) (q := 73) dX10_isOnce_72 rfl rfl (Nat.le_of_ble_eq_true rfl) rfl ?_
            refine g_iinc (lv' := [(0, _), (1, _), (2, _), (3, _)]) (v := nI (k + 1)) (q := 76) dX10_isOnce_73 rfl rfl (nI_inc _) (Nat.le_of_ble_eq_true rfl) rfl ?_
            refine g_goto (q := 33) dX10_isOnce_76 (by decide) ?_
            rw [onB_s, bI_ne0.mp c39, decide_eq_false c64, decide_eq_false (show ¬ k = 0 by omega)] at ih33
            exact ih33 (by omega)
    · intro hv33
      show G E _ [(m0, .inr (10, (.int (nI (nt)) :: .ref mt :: .int (nI (nb)) :: .ref mk :: .ref mb :: .int (nI (lw)) :: .int (nI (sl)) :: .int (nI (tl)) :: .ref mx :: .int (po) :: .int (ta) :: .long (tk) :: .int (dg) :: .int (nu) :: .int (fa) :: .int (rm_) :: .int (rto) :: .int (rbo) :: .ref mr :: .ref mn :: .ref ma :: .ref mi :: .ref mj :: .int (nI (en)) :: .ref mg :: .int (nI (sn)) :: .ref ms :: .int (nI (dn)) :: .ref md :: .ref mc :: .ref me :: .int (ga) :: .ref mh :: .ref mo :: .ref mw :: []))), (mn, .inl (E.2.1.1, 47, .inl (nowF tw wt sk gr ch yr))), (mc, .inl (E.2.1.1, 7, .inl (rwF (r))))] 33 [(0, .ref m0), (1, .int (nI (d))), (2, .int (bI (onB tw (qf r) d d))), (3, .int (nI (d)))] []
      refine g_iload_n (q := 34) dX10_isOnce_33 rfl rfl rfl ?_
      refine g_iload_n (q := 35) dX10_isOnce_34 rfl rfl rfl ?_
      refine g_icmp_geN (t := 79) (q := 38) dX10_isOnce_35 (by decide) rfl (by omega) (by omega) (fun c35 => ?_) (fun c35 => ?_)
      · skip
        refine g_iload_n (q := 80) dX10_isOnce_79 rfl rfl rfl ?_
        refine g_iret (st := []) dX10_isOnce_80 rfl (narZ (bI_01 _)) rfl ?_
        exact (xr rfl)
      · omega
  · skip
    refine g_iconst (v := nI 1) (q := 26) dX10_isOnce_25 rfl ki_1 ?_
    refine g_goto (q := 30) dX10_isOnce_26 (by decide) ?_
    refine g_istore_n (lv' := [(0, _), (1, _), (2, _)]) (q := 31) dX10_isOnce_30 rfl rfl (Nat.le_of_ble_eq_true rfl) rfl ?_
    refine g_iconst (v := nI 1) (q := 32) dX10_isOnce_31 rfl ki_1 ?_
    refine g_istore_n (lv' := [(0, _), (1, _), (2, _), (3, _)]) (q := 33) dX10_isOnce_32 rfl rfl (Nat.le_of_ble_eq_true rfl) rfl ?_
    refine g_eq (lv' := [(0, .ref m0), (1, .int (nI d)), (2, .int (bI (onB tw (qf r) d 1))), (3, .int (nI 1))]) ?_ rfl (by rw [onB_1, decide_eq_true (show tw (qf r 0) < tw (qf r d) by omega)]; rfl) rfl
    refine g_loopI (d) (fun k => 1 ≤ k) (fun k => [(m0, .inr (10, (.int (nI (nt)) :: .ref mt :: .int (nI (nb)) :: .ref mk :: .ref mb :: .int (nI (lw)) :: .int (nI (sl)) :: .int (nI (tl)) :: .ref mx :: .int (po) :: .int (ta) :: .long (tk) :: .int (dg) :: .int (nu) :: .int (fa) :: .int (rm_) :: .int (rto) :: .int (rbo) :: .ref mr :: .ref mn :: .ref ma :: .ref mi :: .ref mj :: .int (nI (en)) :: .ref mg :: .int (nI (sn)) :: .ref ms :: .int (nI (dn)) :: .ref md :: .ref mc :: .ref me :: .int (ga) :: .ref mh :: .ref mo :: .ref mw :: []))), (mn, .inl (E.2.1.1, 47, .inl (nowF tw wt sk gr ch yr))), (mc, .inl (E.2.1.1, 7, .inl (rwF (r))))]) (fun k => [(0, .ref m0), (1, .int (nI (d))), (2, .int (bI (onB tw (qf r) d k))), (3, .int (nI (k)))]) ?_ ?_ 1 (h1) (Nat.le_refl 1)
    · intro k hk33 hv33 ih33
      have hqk : qf r k < 10 := by have := hr k (by omega); unfold qf; omega
      show G E _ [(m0, .inr (10, (.int (nI (nt)) :: .ref mt :: .int (nI (nb)) :: .ref mk :: .ref mb :: .int (nI (lw)) :: .int (nI (sl)) :: .int (nI (tl)) :: .ref mx :: .int (po) :: .int (ta) :: .long (tk) :: .int (dg) :: .int (nu) :: .int (fa) :: .int (rm_) :: .int (rto) :: .int (rbo) :: .ref mr :: .ref mn :: .ref ma :: .ref mi :: .ref mj :: .int (nI (en)) :: .ref mg :: .int (nI (sn)) :: .ref ms :: .int (nI (dn)) :: .ref md :: .ref mc :: .ref me :: .int (ga) :: .ref mh :: .ref mo :: .ref mw :: []))), (mn, .inl (E.2.1.1, 47, .inl (nowF tw wt sk gr ch yr))), (mc, .inl (E.2.1.1, 7, .inl (rwF (r))))] 33 [(0, .ref m0), (1, .int (nI (d))), (2, .int (bI (onB tw (qf r) d k))), (3, .int (nI (k)))] []
      refine g_iload_n (q := 34) dX10_isOnce_33 rfl rfl rfl ?_
      refine g_iload_n (q := 35) dX10_isOnce_34 rfl rfl rfl ?_
      refine g_icmp_geN (t := 79) (q := 38) dX10_isOnce_35 (by decide) rfl (by omega) (by omega) (fun c35 => ?_) (fun c35 => ?_)
      · omega
      · skip
        refine g_iload_n (q := 39) dX10_isOnce_38 rfl rfl rfl ?_
        refine g_if_eq (t := 71) (q := 42) dX10_isOnce_39 (by decide) rfl (fun c39 => ?_) (fun c39 => ?_)
        · skip
          refine g_iconst (v := nI 0) (q := 72) dX10_isOnce_71 rfl ki_0 ?_
          refine g_istore_n (lv' := [(0, _), (1, _), (2, _), (3, _)]) (q := 73) dX10_isOnce_72 rfl rfl (Nat.le_of_ble_eq_true rfl) rfl ?_
          refine g_iinc (lv' := [(0, _), (1, _), (2, _), (3, _)]) (v := nI (k + 1)) (q := 76) dX10_isOnce_73 rfl rfl (nI_inc _) (Nat.le_of_ble_eq_true rfl) rfl ?_
          refine g_goto (q := 33) dX10_isOnce_76 (by decide) ?_
          rw [onB_s, bI_eq0.mp c39] at ih33
          exact ih33 (by omega)
        · skip
          refine g_aload_n (q := 43) dX10_isOnce_42 rfl rfl rfl ?_
          refine gf_X10_29 rfl 0 rfl rfl (q := 46) dX10_isOnce_43 rfl ?_
          refine g_aload_n (q := 47) dX10_isOnce_46 rfl rfl rfl ?_
          refine gf_X10_51 rfl 0 rfl rfl (q := 50) dX10_isOnce_47 rfl ?_
          refine g_iload_n (q := 51) dX10_isOnce_50 rfl rfl rfl ?_
          refine g_iald (v := nI (r k) - 1) 2 rfl (ixIn (j := k) rfl (by omega) (by decide)) (ixV (j := k) rfl (by omega)) (q := 52) dX10_isOnce_51 rfl ?_
          refine g_top (y := nI (qf r k)) (qf_I (hr k (by omega)).1) ?_
          have hb5 := htw (qf r k) (by omega)
          refine g_iald (v := nI (tw (qf r k))) 1 rfl (ixIn (j := qf r k) rfl (by omega) (by decide)) ((ixV (j := qf r k) rfl (by omega)).trans (nowF_t (by omega))) (q := 53) dX10_isOnce_52 rfl ?_
          refine g_aload_n (q := 54) dX10_isOnce_53 rfl rfl rfl ?_
          refine gf_X10_29 rfl 0 rfl rfl (q := 57) dX10_isOnce_54 rfl ?_
          refine g_aload_n (q := 58) dX10_isOnce_57 rfl rfl rfl ?_
          refine gf_X10_51 rfl 0 rfl rfl (q := 61) dX10_isOnce_58 rfl ?_
          refine g_iload_n (q := 62) dX10_isOnce_61 rfl rfl rfl ?_
          refine g_iald (v := nI (r d) - 1) 2 rfl (ixIn (j := d) rfl (by omega) (by decide)) (ixV (j := d) rfl (by omega)) (q := 63) dX10_isOnce_62 rfl ?_
          refine g_top (y := nI (qf r d)) (qf_I (hr d (by omega)).1) ?_
          have hb6 := htw (qf r d) (by omega)
          refine g_iald (v := nI (tw (qf r d))) 1 rfl (ixIn (j := qf r d) rfl (by omega) (by decide)) ((ixV (j := qf r d) rfl (by omega)).trans (nowF_t (by omega))) (q := 64) dX10_isOnce_63 rfl ?_
          refine g_icmp_eqN (t := 71) (q := 67) dX10_isOnce_64 (by decide) rfl (by omega) (by omega) (fun c64 => ?_) (fun c64 => ?_)
          · skip
            refine g_iconst (v := nI 0) (q := 72) dX10_isOnce_71 rfl ki_0 ?_
            refine g_istore_n (lv' := [(0, _), (1, _), (2, _), (3, _)]) (q := 73) dX10_isOnce_72 rfl rfl (Nat.le_of_ble_eq_true rfl) rfl ?_
            refine g_iinc (lv' := [(0, _), (1, _), (2, _), (3, _)]) (v := nI (k + 1)) (q := 76) dX10_isOnce_73 rfl rfl (nI_inc _) (Nat.le_of_ble_eq_true rfl) rfl ?_
            refine g_goto (q := 33) dX10_isOnce_76 (by decide) ?_
            rw [onB_s, bI_ne0.mp c39, decide_eq_true c64, decide_eq_false (show ¬ k = 0 by omega)] at ih33
            exact ih33 (by omega)
          · skip
            refine g_iconst (v := nI 1) (q := 68) dX10_isOnce_67 rfl ki_1 ?_
            refine g_goto (q := 72) dX10_isOnce_68 (by decide) ?_
            refine g_istore_n (lv' := [(0, _), (1, _), (2, _), (3, _)]) (q := 73) dX10_isOnce_72 rfl rfl (Nat.le_of_ble_eq_true rfl) rfl ?_
            refine g_iinc (lv' := [(0, _), (1, _), (2, _), (3, _)]) (v := nI (k + 1)) (q := 76) dX10_isOnce_73 rfl rfl (nI_inc _) (Nat.le_of_ble_eq_true rfl) rfl ?_
            refine g_goto (q := 33) dX10_isOnce_76 (by decide) ?_
            rw [onB_s, bI_ne0.mp c39, decide_eq_false c64, decide_eq_false (show ¬ k = 0 by omega)] at ih33
            exact ih33 (by omega)
    · intro hv33
      show G E _ [(m0, .inr (10, (.int (nI (nt)) :: .ref mt :: .int (nI (nb)) :: .ref mk :: .ref mb :: .int (nI (lw)) :: .int (nI (sl)) :: .int (nI (tl)) :: .ref mx :: .int (po) :: .int (ta) :: .long (tk) :: .int (dg) :: .int (nu) :: .int (fa) :: .int (rm_) :: .int (rto) :: .int (rbo) :: .ref mr :: .ref mn :: .ref ma :: .ref mi :: .ref mj :: .int (nI (en)) :: .ref mg :: .int (nI (sn)) :: .ref ms :: .int (nI (dn)) :: .ref md :: .ref mc :: .ref me :: .int (ga) :: .ref mh :: .ref mo :: .ref mw :: []))), (mn, .inl (E.2.1.1, 47, .inl (nowF tw wt sk gr ch yr))), (mc, .inl (E.2.1.1, 7, .inl (rwF (r))))] 33 [(0, .ref m0), (1, .int (nI (d))), (2, .int (bI (onB tw (qf r) d d))), (3, .int (nI (d)))] []
      refine g_iload_n (q := 34) dX10_isOnce_33 rfl rfl rfl ?_
      refine g_iload_n (q := 35) dX10_isOnce_34 rfl rfl rfl ?_
      refine g_icmp_geN (t := 79) (q := 38) dX10_isOnce_35 (by decide) rfl (by omega) (by omega) (fun c35 => ?_) (fun c35 => ?_)
      · skip
        refine g_iload_n (q := 80) dX10_isOnce_79 rfl rfl rfl ?_
        refine g_iret (st := []) dX10_isOnce_80 rfl (narZ (bI_01 _)) rfl ?_
        exact (xr rfl)
      · omega
set_option maxHeartbeats 2000000 in
set_option maxRecDepth 20000 in
theorem c_cheeseOf {E : EN} {m0 mt mk mb mx mr mn ma mi mj mg ms md mc me mh mo mw nt nb lw sl tl en sn dn : Nat} {po ta dg nu fa rm_ rto rbo ga : Int32} {tk : Int64} {kd tw wt sk gr : Nat → Nat} {ch : Nat → Int32} {yr : Nat} {cr rt fd nx : Nat → Nat} {wn : Nat → Int32} {r : Nat → Nat} {size : Nat} (hs1 : 1 ≤ size) (hs : size ≤ 6) (hr : ∀ k, k < size → 1 ≤ r k ∧ r k ≤ 10) (hkd : ∀ j, j < 10 → kd j < 4) (htw : ∀ j, j < 10 → tw j < 6) (hwt : ∀ j, j < 10 → wt j < 100) (hrt : ∀ j, j < 6 → rt j < 10)  : CT E yX10_cheeseOf cX10_cheeseOf 5 (some .int) 2 [.ref m0, .int (nI (size))] [(m0, .inr (10, (.int (nI (nt)) :: .ref mt :: .int (nI (nb)) :: .ref mk :: .ref mb :: .int (nI (lw)) :: .int (nI (sl)) :: .int (nI (tl)) :: .ref mx :: .int (po) :: .int (ta) :: .long (tk) :: .int (dg) :: .int (nu) :: .int (fa) :: .int (rm_) :: .int (rto) :: .int (rbo) :: .ref mr :: .ref mn :: .ref ma :: .ref mi :: .ref mj :: .int (nI (en)) :: .ref mg :: .int (nI (sn)) :: .ref ms :: .int (nI (dn)) :: .ref md :: .ref mc :: .ref me :: .int (ga) :: .ref mh :: .ref mo :: .ref mw :: []))), (mk, .inl (E.2.1.1, 10, .inl (nA (kd)))), (mt, .inl (E.2.1.1, 30, .inl (townF cr rt fd wn nx))), (mn, .inl (E.2.1.1, 47, .inl (nowF tw wt sk gr ch yr))), (mc, .inl (E.2.1.1, 7, .inl (rwF (r))))] (xQ (some (.int (nI (cheS (worN kd tw wt rt) (qf r) size size)))) [(m0, .inr (10, (.int (nI (nt)) :: .ref mt :: .int (nI (nb)) :: .ref mk :: .ref mb :: .int (nI (lw)) :: .int (nI (sl)) :: .int (nI (tl)) :: .ref mx :: .int (po) :: .int (ta) :: .long (tk) :: .int (dg) :: .int (nu) :: .int (fa) :: .int (rm_) :: .int (rto) :: .int (rbo) :: .ref mr :: .ref mn :: .ref ma :: .ref mi :: .ref mj :: .int (nI (en)) :: .ref mg :: .int (nI (sn)) :: .ref ms :: .int (nI (dn)) :: .ref md :: .ref mc :: .ref me :: .int (ga) :: .ref mh :: .ref mo :: .ref mw :: []))), (mk, .inl (E.2.1.1, 10, .inl (nA (kd)))), (mt, .inl (E.2.1.1, 30, .inl (townF cr rt fd wn nx))), (mn, .inl (E.2.1.1, 47, .inl (nowF tw wt sk gr ch yr))), (mc, .inl (E.2.1.1, 7, .inl (rwF (r))))]) := by
  refine ct_of (by decide +kernel) (Nat.le_of_ble_eq_true rfl) (lv := [(0, .ref m0), (1, .int (nI (size)))]) rfl (fun A => ?_)
  refine g_iconst (v := nI 0) (q := 1) dX10_cheeseOf_0 rfl ki_0 ?_
  refine g_istore_n (lv' := [(0, _), (1, _), (2, _)]) (q := 2) dX10_cheeseOf_1 rfl rfl (Nat.le_of_ble_eq_true rfl) rfl ?_
  refine g_iconst (v := nI 0) (q := 3) dX10_cheeseOf_2 rfl ki_0 ?_
  refine g_istore_n (lv' := [(0, _), (1, _), (2, _), (3, _)]) (q := 4) dX10_cheeseOf_3 rfl rfl (Nat.le_of_ble_eq_true rfl) rfl ?_
  refine g_loop (size) (fun k => [(m0, .inr (10, (.int (nI (nt)) :: .ref mt :: .int (nI (nb)) :: .ref mk :: .ref mb :: .int (nI (lw)) :: .int (nI (sl)) :: .int (nI (tl)) :: .ref mx :: .int (po) :: .int (ta) :: .long (tk) :: .int (dg) :: .int (nu) :: .int (fa) :: .int (rm_) :: .int (rto) :: .int (rbo) :: .ref mr :: .ref mn :: .ref ma :: .ref mi :: .ref mj :: .int (nI (en)) :: .ref mg :: .int (nI (sn)) :: .ref ms :: .int (nI (dn)) :: .ref md :: .ref mc :: .ref me :: .int (ga) :: .ref mh :: .ref mo :: .ref mw :: []))), (mk, .inl (E.2.1.1, 10, .inl (nA (kd)))), (mt, .inl (E.2.1.1, 30, .inl (townF cr rt fd wn nx))), (mn, .inl (E.2.1.1, 47, .inl (nowF tw wt sk gr ch yr))), (mc, .inl (E.2.1.1, 7, .inl (rwF (r))))]) (fun k => [(0, .ref m0), (1, .int (nI (size))), (2, .int (nI (cheS (worN kd tw wt rt) (qf r) size k))), (3, .int (nI (k)))]) ?_ ?_ 0 (Nat.zero_le _)
  · intro k hk4 ih4
    have hm := Nat.mod_lt ((k + size) - 1) (show 0 < size by omega)
    have hqk : qf r k < 10 := by have := hr k (by omega); unfold qf; omega
    have hqm : qf r (((k + size) - 1) % size) < 10 := by have := hr _ hm; unfold qf; omega
    have hwa := worN_lt hkd htw hwt hrt hqm
    have hwb := worN_lt hkd htw hwt hrt hqk
    show G E _ [(m0, .inr (10, (.int (nI (nt)) :: .ref mt :: .int (nI (nb)) :: .ref mk :: .ref mb :: .int (nI (lw)) :: .int (nI (sl)) :: .int (nI (tl)) :: .ref mx :: .int (po) :: .int (ta) :: .long (tk) :: .int (dg) :: .int (nu) :: .int (fa) :: .int (rm_) :: .int (rto) :: .int (rbo) :: .ref mr :: .ref mn :: .ref ma :: .ref mi :: .ref mj :: .int (nI (en)) :: .ref mg :: .int (nI (sn)) :: .ref ms :: .int (nI (dn)) :: .ref md :: .ref mc :: .ref me :: .int (ga) :: .ref mh :: .ref mo :: .ref mw :: []))), (mk, .inl (E.2.1.1, 10, .inl (nA (kd)))), (mt, .inl (E.2.1.1, 30, .inl (townF cr rt fd wn nx))), (mn, .inl (E.2.1.1, 47, .inl (nowF tw wt sk gr ch yr))), (mc, .inl (E.2.1.1, 7, .inl (rwF (r))))] 4 [(0, .ref m0), (1, .int (nI (size))), (2, .int (nI (cheS (worN kd tw wt rt) (qf r) size k))), (3, .int (nI (k)))] []
    refine g_iload_n (q := 5) dX10_cheeseOf_4 rfl rfl rfl ?_
    refine g_iload_n (q := 6) dX10_cheeseOf_5 rfl rfl rfl ?_
    refine g_icmp_geN (t := 58) (q := 9) dX10_cheeseOf_6 (by decide) rfl (by omega) (by omega) (fun c6 => ?_) (fun c6 => ?_)
    · omega
    · skip
      refine g_aload_n (q := 10) dX10_cheeseOf_9 rfl rfl rfl ?_
      refine g_aload_n (q := 11) dX10_cheeseOf_10 rfl rfl rfl ?_
      refine gf_X10_51 rfl 0 rfl rfl (q := 14) dX10_cheeseOf_11 rfl ?_
      refine g_iload_n (q := 15) dX10_cheeseOf_14 rfl rfl rfl ?_
      refine g_iload_n (q := 16) dX10_cheeseOf_15 rfl rfl rfl ?_
      refine g_iaddN (q := 17) dX10_cheeseOf_16 rfl ?_
      refine g_iconst (v := nI 1) (q := 18) dX10_cheeseOf_17 rfl ki_1 ?_
      refine g_isubN (q := 19) dX10_cheeseOf_18 rfl (by omega) ?_
      refine g_iload_n (q := 20) dX10_cheeseOf_19 rfl rfl rfl ?_
      refine g_iremN (q := 21) dX10_cheeseOf_20 rfl (by omega) (by omega) (by omega) ?_
      refine g_iald (v := nI (r (((k + size) - 1) % size)) - 1) 4 rfl (ixIn (j := ((k + size) - 1) % size) rfl (by omega) (by decide)) (ixV (j := ((k + size) - 1) % size) rfl (by omega)) (q := 22) dX10_cheeseOf_21 rfl ?_
      refine g_top (y := nI (qf r (((k + size) - 1) % size))) (qf_I (hr _ hm).1) ?_
      refine gc_X10_214 (c_worthOf (by omega) hkd htw hwt hrt) rfl (Nat.le_of_ble_eq_true rfl) rfl 0 rfl [0, 1, 3, 2] rfl rfl (rest := []) rfl (Nat.le_of_ble_eq_true rfl) (q := 25) dX10_cheeseOf_22 rfl (exK (ws' := [_, _, _, _, _]) (st' := [.int (nI (worN kd tw wt rt (qf r (((k + size) - 1) % size))))]) rfl rfl ?_)
      refine g_aload_n (q := 26) dX10_cheeseOf_25 rfl rfl rfl ?_
      refine g_aload_n (q := 27) dX10_cheeseOf_26 rfl rfl rfl ?_
      refine gf_X10_51 rfl 0 rfl rfl (q := 30) dX10_cheeseOf_27 rfl ?_
      refine g_iload_n (q := 31) dX10_cheeseOf_30 rfl rfl rfl ?_
      refine g_iald (v := nI (r k) - 1) 4 rfl (ixIn (j := k) rfl (by omega) (by decide)) (ixV (j := k) rfl (by omega)) (q := 32) dX10_cheeseOf_31 rfl ?_
      refine g_top (y := nI (qf r k)) (qf_I (hr k (by omega)).1) ?_
      refine gc_X10_214 (c_worthOf (by omega) hkd htw hwt hrt) rfl (Nat.le_of_ble_eq_true rfl) rfl 0 rfl [0, 1, 3, 2] rfl rfl (rest := [_]) rfl (Nat.le_of_ble_eq_true rfl) (q := 35) dX10_cheeseOf_32 rfl (exK (ws' := [_, _, _, _, _]) (st' := [.int (nI (worN kd tw wt rt (qf r k))), _]) rfl rfl ?_)
      refine g_isub (q := 36) dX10_cheeseOf_35 rfl ?_
      refine g_istore (lv' := [(0, _), (1, _), (2, _), (3, _), (4, _)]) (q := 38) dX10_cheeseOf_36 rfl (Nat.le_of_ble_eq_true rfl) rfl ?_
      refine g_iload_n (q := 39) dX10_cheeseOf_38 rfl rfl rfl ?_
      refine g_iload (q := 41) dX10_cheeseOf_39 rfl rfl ?_
      refine g_if_le (t := 49) (q := 44) dX10_cheeseOf_41 (by decide) rfl (fun c41 => ?_) (fun c41 => ?_)
      · skip
        refine g_iconst (v := nI 0) (q := 50) dX10_cheeseOf_49 rfl ki_0 ?_
        refine g_iaddN (q := 51) dX10_cheeseOf_50 rfl ?_
        refine g_istore_n (lv' := [(0, _), (1, _), (2, _), (3, _), (4, _)]) (q := 52) dX10_cheeseOf_51 rfl rfl (Nat.le_of_ble_eq_true rfl) rfl ?_
        refine g_iinc (lv' := [(0, _), (1, _), (2, _), (3, _), (4, _)]) (v := nI (k + 1)) (q := 55) dX10_cheeseOf_52 rfl rfl (nI_inc _) (Nat.le_of_ble_eq_true rfl) rfl ?_
        refine g_goto (q := 4) dX10_cheeseOf_55 (by decide) ?_
        refine g_less (lv' := [(0, _), (1, _), (2, _), (3, _)]) 4 rfl ?_
        rw [cheS, show owe (worN kd tw wt rt) (qf r (((k + size) - 1) % size)) (qf r k) = 0 from le0s hwa hwb c41] at ih4
        exact ih4
      · skip
        refine g_iload (q := 46) dX10_cheeseOf_44 rfl rfl ?_
        refine g_top (y := nI (owe (worN kd tw wt rt) (qf r (((k + size) - 1) % size)) (qf r k))) (gt0s hwa hwb c41) ?_
        refine g_goto (q := 50) dX10_cheeseOf_46 (by decide) ?_
        refine g_iaddN (q := 51) dX10_cheeseOf_50 rfl ?_
        refine g_istore_n (lv' := [(0, _), (1, _), (2, _), (3, _), (4, _)]) (q := 52) dX10_cheeseOf_51 rfl rfl (Nat.le_of_ble_eq_true rfl) rfl ?_
        refine g_iinc (lv' := [(0, _), (1, _), (2, _), (3, _), (4, _)]) (v := nI (k + 1)) (q := 55) dX10_cheeseOf_52 rfl rfl (nI_inc _) (Nat.le_of_ble_eq_true rfl) rfl ?_
        refine g_goto (q := 4) dX10_cheeseOf_55 (by decide) ?_
        refine g_less (lv' := [(0, _), (1, _), (2, _), (3, _)]) 4 rfl ?_
        rw [cheS] at ih4
        exact ih4
  · skip
    show G E _ [(m0, .inr (10, (.int (nI (nt)) :: .ref mt :: .int (nI (nb)) :: .ref mk :: .ref mb :: .int (nI (lw)) :: .int (nI (sl)) :: .int (nI (tl)) :: .ref mx :: .int (po) :: .int (ta) :: .long (tk) :: .int (dg) :: .int (nu) :: .int (fa) :: .int (rm_) :: .int (rto) :: .int (rbo) :: .ref mr :: .ref mn :: .ref ma :: .ref mi :: .ref mj :: .int (nI (en)) :: .ref mg :: .int (nI (sn)) :: .ref ms :: .int (nI (dn)) :: .ref md :: .ref mc :: .ref me :: .int (ga) :: .ref mh :: .ref mo :: .ref mw :: []))), (mk, .inl (E.2.1.1, 10, .inl (nA (kd)))), (mt, .inl (E.2.1.1, 30, .inl (townF cr rt fd wn nx))), (mn, .inl (E.2.1.1, 47, .inl (nowF tw wt sk gr ch yr))), (mc, .inl (E.2.1.1, 7, .inl (rwF (r))))] 4 [(0, .ref m0), (1, .int (nI (size))), (2, .int (nI (cheS (worN kd tw wt rt) (qf r) size size))), (3, .int (nI (size)))] []
    refine g_iload_n (q := 5) dX10_cheeseOf_4 rfl rfl rfl ?_
    refine g_iload_n (q := 6) dX10_cheeseOf_5 rfl rfl rfl ?_
    refine g_icmp_geN (t := 58) (q := 9) dX10_cheeseOf_6 (by decide) rfl (by omega) (by omega) (fun c6 => ?_) (fun c6 => ?_)
    · skip
      refine g_iload_n (q := 59) dX10_cheeseOf_58 rfl rfl rfl ?_
      refine g_iret (st := []) dX10_cheeseOf_59 rfl rfl rfl ?_
      exact (xr rfl)
    · omega
set_option maxHeartbeats 2000000 in
set_option maxRecDepth 20000 in
theorem c_findRing {E : EN} {m0 mt mk mb mx mr mn ma mi mj mg ms md mc me mh mo mw nt nb lw sl tl en sn dn : Nat} {po ta dg nu fa rm_ rto rbo ga : Int32} {tk : Int64} {kd tw wt sk gr : Nat → Nat} {ch : Nat → Int32} {yr : Nat} {cr rt fd nx : Nat → Nat} {wn : Nat → Int32} {r0 be : Nat → Nat} (hnt1 : 1 ≤ nt) (hnt : nt ≤ 6) (hnb : nb ≤ 10) (hr0 : ∀ k, r0 k ≤ 11) (hkd : ∀ j, j < 10 → kd j < 4) (htw : ∀ j, j < 10 → tw j < 6) (hwt : ∀ j, j < 10 → wt j < 100) (hrt : ∀ j, j < 6 → rt j < 10)  : CT E yX10_findRing cX10_findRing 7 (some .int) 3 [.ref m0] [(m0, .inr (10, (.int (nI (nt)) :: .ref mt :: .int (nI (nb)) :: .ref mk :: .ref mb :: .int (nI (lw)) :: .int (nI (sl)) :: .int (nI (tl)) :: .ref mx :: .int (po) :: .int (ta) :: .long (tk) :: .int (dg) :: .int (nu) :: .int (fa) :: .int (rm_) :: .int (rto) :: .int (rbo) :: .ref mr :: .ref mn :: .ref ma :: .ref mi :: .ref mj :: .int (nI (en)) :: .ref mg :: .int (nI (sn)) :: .ref ms :: .int (nI (dn)) :: .ref md :: .ref mc :: .ref me :: .int (ga) :: .ref mh :: .ref mo :: .ref mw :: []))), (mk, .inl (E.2.1.1, 10, .inl (nA (kd)))), (mt, .inl (E.2.1.1, 30, .inl (townF cr rt fd wn nx))), (mn, .inl (E.2.1.1, 47, .inl (nowF tw wt sk gr ch yr))), (mc, .inl (E.2.1.1, 7, .inl (rwF (r0)))), (me, .inl (E.2.1.1, 7, .inl (nA (be))))] (fun r w => ∃ (r' : Nat → Nat), ((∀ k, r' k ≤ 11) ∧ okBt (dfsV (okR tw sk wn) (visR tw sk wn (worN kd tw wt rt)) nb nt nt (fun _ => 0) (0, 0, be))) ∧ xQ (some (.int (szI (dfsV (okR tw sk wn) (visR tw sk wn (worN kd tw wt rt)) nb nt nt (fun _ => 0) (0, 0, be)).1))) [(m0, .inr (10, (.int (nI (nt)) :: .ref mt :: .int (nI (nb)) :: .ref mk :: .ref mb :: .int (nI (lw)) :: .int (nI (sl)) :: .int (nI (tl)) :: .ref mx :: .int (po) :: .int (ta) :: .long (tk) :: .int (dg) :: .int (nu) :: .int (fa) :: .int (rm_) :: .int (rto) :: .int (rbo) :: .ref mr :: .ref mn :: .ref ma :: .ref mi :: .ref mj :: .int (nI (en)) :: .ref mg :: .int (nI (sn)) :: .ref ms :: .int (nI (dn)) :: .ref md :: .ref mc :: .ref me :: .int (ga) :: .ref mh :: .ref mo :: .ref mw :: []))), (mk, .inl (E.2.1.1, 10, .inl (nA (kd)))), (mt, .inl (E.2.1.1, 30, .inl (townF cr rt fd wn nx))), (mn, .inl (E.2.1.1, 47, .inl (nowF tw wt sk gr ch yr))), (mc, .inl (E.2.1.1, 7, .inl (rwF (r')))), (me, .inl (E.2.1.1, 7, .inl (nA (updn (dfsV (okR tw sk wn) (visR tw sk wn (worN kd tw wt rt)) nb nt nt (fun _ => 0) (0, 0, be)).2.2 6 (dfsV (okR tw sk wn) (visR tw sk wn (worN kd tw wt rt)) nb nt nt (fun _ => 0) (0, 0, be)).2.1))))] r w) := by
  refine ct_of (by decide +kernel) (Nat.le_of_ble_eq_true rfl) (lv := [(0, .ref m0)]) rfl (fun A => ?_)
  refine g_iconst (v := (-1)) (q := 1) dX10_findRing_0 rfl ki_m1 ?_
  refine g_istore_n (lv' := [(0, _), (1, _)]) (q := 2) dX10_findRing_1 rfl rfl (Nat.le_of_ble_eq_true rfl) rfl ?_
  refine g_iconst (v := nI 0) (q := 3) dX10_findRing_2 rfl ki_0 ?_
  refine g_istore_n (lv' := [(0, _), (1, _), (2, _)]) (q := 4) dX10_findRing_3 rfl rfl (Nat.le_of_ble_eq_true rfl) rfl ?_
  refine g_iconst (v := nI 0) (q := 5) dX10_findRing_4 rfl ki_0 ?_
  refine g_istore_n (lv' := [(0, _), (1, _), (2, _), (3, _)]) (q := 6) dX10_findRing_5 rfl rfl (Nat.le_of_ble_eq_true rfl) rfl ?_
  refine g_aload_n (q := 7) dX10_findRing_6 rfl rfl rfl ?_
  refine gf_X10_51 rfl 0 rfl rfl (q := 10) dX10_findRing_7 rfl ?_
  refine g_iconst (v := nI 0) (q := 11) dX10_findRing_10 rfl ki_0 ?_
  refine g_iconst (v := (-1)) (q := 12) dX10_findRing_11 rfl ki_m1 ?_
  refine g_iast (f' := (rwF (updn r0 0 0))) 4 rfl (ixIn (j := 0) rfl (by omega) (by decide)) ((ixU (j := 0) rfl (by omega)).trans (rwF_n _ _)) (ws' := [_, _, _, _, (_, .inl (_, _, .inl _)), _]) rfl (q := 13) dX10_findRing_12 rfl ?_
  refine g_eq (ws' := [(m0, .inr (10, (.int (nI (nt)) :: .ref mt :: .int (nI (nb)) :: .ref mk :: .ref mb :: .int (nI (lw)) :: .int (nI (sl)) :: .int (nI (tl)) :: .ref mx :: .int (po) :: .int (ta) :: .long (tk) :: .int (dg) :: .int (nu) :: .int (fa) :: .int (rm_) :: .int (rto) :: .int (rbo) :: .ref mr :: .ref mn :: .ref ma :: .ref mi :: .ref mj :: .int (nI (en)) :: .ref mg :: .int (nI (sn)) :: .ref ms :: .int (nI (dn)) :: .ref md :: .ref mc :: .ref me :: .int (ga) :: .ref mh :: .ref mo :: .ref mw :: []))), (mk, .inl (E.2.1.1, 10, .inl (nA (kd)))), (mt, .inl (E.2.1.1, 30, .inl (townF cr rt fd wn nx))), (mn, .inl (E.2.1.1, 47, .inl (nowF tw wt sk gr ch yr))), (mc, .inl (E.2.1.1, 7, .inl (rwF (updn r0 0 0)))), (me, .inl (E.2.1.1, 7, .inl (nA (be))))]) (lv' := [(0, .ref m0), (1, .int (szI 0)), (2, .int (nI (0))), (3, .int (nI (0 + 1) - 1))]) ?_ rfl (by rw [rw_1]; rfl) rfl
  refine ring_dfs0 (ok := (okR tw sk wn)) (vis := (visR tw sk wn (worN kd tw wt rt))) (nb := nb) (dn := nt) (B := 11) (by omega) (okR_c tw sk wn) (visR_c tw sk wn (worN kd tw wt rt)) (fun D r s => okBt s → G E _ [(m0, .inr (10, (.int (nI (nt)) :: .ref mt :: .int (nI (nb)) :: .ref mk :: .ref mb :: .int (nI (lw)) :: .int (nI (sl)) :: .int (nI (tl)) :: .ref mx :: .int (po) :: .int (ta) :: .long (tk) :: .int (dg) :: .int (nu) :: .int (fa) :: .int (rm_) :: .int (rto) :: .int (rbo) :: .ref mr :: .ref mn :: .ref ma :: .ref mi :: .ref mj :: .int (nI (en)) :: .ref mg :: .int (nI (sn)) :: .ref ms :: .int (nI (dn)) :: .ref md :: .ref mc :: .ref me :: .int (ga) :: .ref mh :: .ref mo :: .ref mw :: []))), (mk, .inl (E.2.1.1, 10, .inl (nA (kd)))), (mt, .inl (E.2.1.1, 30, .inl (townF cr rt fd wn nx))), (mn, .inl (E.2.1.1, 47, .inl (nowF tw wt sk gr ch yr))), (mc, .inl (E.2.1.1, 7, .inl (rwF (r)))), (me, .inl (E.2.1.1, 7, .inl (nA (s.2.2))))] 13 [(0, .ref m0), (1, .int (szI s.1)), (2, .int (nI s.2.1)), (3, .int (nI D - 1))] []) ?_ (s := (0, 0, be)) (r := updn r0 0 0) (fun k => by unfold updn; split; omega; exact hr0 k) updn_s (by omega) ?_ ⟨Nat.zero_le _, Nat.zero_le _⟩
  · intro d r s hd hr hrd hp k1 k2 k3 k4 hs
    obtain ⟨s1, s2, s3⟩ := s
    have hs1 := hs.1
    have hs2 := hs.2
    simp only at hs1 hs2
    refine g_eq (ws' := [(m0, .inr (10, (.int (nI (nt)) :: .ref mt :: .int (nI (nb)) :: .ref mk :: .ref mb :: .int (nI (lw)) :: .int (nI (sl)) :: .int (nI (tl)) :: .ref mx :: .int (po) :: .int (ta) :: .long (tk) :: .int (dg) :: .int (nu) :: .int (fa) :: .int (rm_) :: .int (rto) :: .int (rbo) :: .ref mr :: .ref mn :: .ref ma :: .ref mi :: .ref mj :: .int (nI (en)) :: .ref mg :: .int (nI (sn)) :: .ref ms :: .int (nI (dn)) :: .ref md :: .ref mc :: .ref me :: .int (ga) :: .ref mh :: .ref mo :: .ref mw :: []))), (mk, .inl (E.2.1.1, 10, .inl (nA (kd)))), (mt, .inl (E.2.1.1, 30, .inl (townF cr rt fd wn nx))), (mn, .inl (E.2.1.1, 47, .inl (nowF tw wt sk gr ch yr))), (mc, .inl (E.2.1.1, 7, .inl (rwF (r)))), (me, .inl (E.2.1.1, 7, .inl (nA (s3))))]) (lv' := [(0, .ref m0), (1, .int (szI s1)), (2, .int (nI (s2))), (3, .int (nI d))]) ?_ rfl (by rw [rw_1]) rfl
    refine g_iload_n (q := 14) dX10_findRing_13 rfl rfl rfl ?_
    refine g_if_lt (t := 202) (q := 17) dX10_findRing_14 (by decide) rfl (fun c14 => ?_) (fun c14 => ?_)
    · exact absurd c14 (nI_pos (by omega))
    · skip
      refine g_aload_n (q := 18) dX10_findRing_17 rfl rfl rfl ?_
      refine gf_X10_51 rfl 0 rfl rfl (q := 21) dX10_findRing_18 rfl ?_
      refine g_iload_n (q := 22) dX10_findRing_21 rfl rfl rfl ?_
      refine g_dup2 (q := 23) dX10_findRing_22 rfl rfl rfl ?_
      refine g_iald (v := nI (r d) - 1) 4 rfl (ixIn (j := d) rfl (by omega) (by decide)) (ixV (j := d) rfl (by omega)) (q := 24) dX10_findRing_23 rfl ?_
      refine g_iconst (v := nI 1) (q := 25) dX10_findRing_24 rfl ki_1 ?_
      refine g_iadd (q := 26) dX10_findRing_25 rfl ?_
      refine g_top (y := nI (r d)) (rw_inc _) ?_
      refine g_iast (f' := (rwF (updn r d (r d + 1)))) 4 rfl (ixIn (j := d) rfl (by omega) (by decide)) ((ixU (j := d) rfl (by omega)).trans (rwF_w _ _ _)) (ws' := [_, _, _, _, (_, .inl (_, _, .inl _)), _]) rfl (q := 27) dX10_findRing_26 rfl ?_
      refine g_aload_n (q := 28) dX10_findRing_27 rfl rfl rfl ?_
      refine gf_X10_51 rfl 0 rfl rfl (q := 31) dX10_findRing_28 rfl ?_
      refine g_iload_n (q := 32) dX10_findRing_31 rfl rfl rfl ?_
      refine g_iald (v := nI (r d)) 4 rfl (ixIn (j := d) rfl (by omega) (by decide)) ((ixV (j := d) rfl (by omega)).trans rw_at) (q := 33) dX10_findRing_32 rfl ?_
      refine g_aload_n (q := 34) dX10_findRing_33 rfl rfl rfl ?_
      refine gf_X10_77 rfl 0 rfl rfl (q := 37) dX10_findRing_34 rfl ?_
      refine g_icmp_ltN (t := 46) (q := 40) dX10_findRing_37 (by decide) rfl (by omega) (by omega) (fun c37 => ?_) (fun c37 => ?_)
      · skip
        have hRR : ∀ k, k < d + 1 → 1 ≤ (updn r d (r d + 1)) k ∧ (updn r d (r d + 1)) k ≤ 10 := fun k hk => by unfold updn; split; omega; have := hp k (by omega); omega
        have hqd : qf (updn r d (r d + 1)) d = r d := qf_s
        have hq : ∀ k, k < d + 1 → qf (updn r d (r d + 1)) k < 10 := fun k hk => by have := hRR k hk; unfold qf; omega
        have hq0 := hq 0 (by omega)
        refine g_iload_n (q := 47) dX10_findRing_46 rfl rfl rfl ?_
        refine g_if_eqN (t := 79) (q := 50) dX10_findRing_47 (by decide) rfl (by omega) (fun c47 => ?_) (fun c47 => ?_)
        · skip
          refine g_iload_n (q := 80) dX10_findRing_79 rfl rfl rfl ?_
          refine g_if_le (t := 106) (q := 83) dX10_findRing_80 (by decide) rfl (fun c80 => ?_) (fun c80 => ?_)
          · skip
            refine g_iconst (v := nI 0) (q := 107) dX10_findRing_106 rfl ki_0 ?_
            refine g_istore (lv' := [(0, _), (1, _), (2, _), (3, _), (4, _)]) (q := 109) dX10_findRing_107 rfl (Nat.le_of_ble_eq_true rfl) rfl ?_
            refine g_iload (q := 111) dX10_findRing_109 rfl rfl ?_
            refine g_if_eqN (t := 124) (q := 114) dX10_findRing_111 (by decide) rfl (by omega) (fun c111 => ?_) (fun c111 => ?_)
            · skip
              refine g_iconst (v := nI 0) (q := 125) dX10_findRing_124 rfl ki_0 ?_
              refine g_istore (lv' := [(0, _), (1, _), (2, _), (3, _), (4, _), (5, _)]) (q := 127) dX10_findRing_125 rfl (Nat.le_of_ble_eq_true rfl) rfl ?_
              refine g_iload (q := 129) dX10_findRing_127 rfl rfl ?_
              refine g_if_eqN (t := 179) (q := 132) dX10_findRing_129 (by decide) rfl (by omega) (fun c129 => ?_) (fun c129 => ?_)
              · skip
                refine g_iload_n (q := 180) dX10_findRing_179 rfl rfl rfl ?_
                refine g_iconst (v := nI 1) (q := 181) dX10_findRing_180 rfl ki_1 ?_
                refine g_iaddN (q := 182) dX10_findRing_181 rfl ?_
                refine g_aload_n (q := 183) dX10_findRing_182 rfl rfl rfl ?_
                refine gf_X10_7 rfl 0 rfl rfl (q := 186) dX10_findRing_183 rfl ?_
                refine g_icmp_geN (t := 199) (q := 189) dX10_findRing_186 (by decide) rfl (by omega) (by omega) (fun c186 => ?_) (fun c186 => ?_)
                · skip
                  refine g_goto (q := 13) dX10_findRing_199 (by decide) ?_
                  refine g_less (lv' := [(0, _), (1, _), (2, _), (3, _)]) 4 rfl ?_
                  have hvok : okBt (visR tw sk wn (worN kd tw wt rt) d (updn r d (r d + 1)) (s1, s2, s3)) := visR_ok (by omega) (fun k hk => worN_lt hkd htw hwt hrt (hq k hk)) hs
                  have hv : (visR tw sk wn (worN kd tw wt rt) d (updn r d (r d + 1)) (s1, s2, s3)) = (s1, s2, s3) := if_neg (by unfold clsB; rw [decide_eq_false (show ¬ 1 < d + 1 by omega)]; simp)
                  refine g_eq (ws' := [(m0, .inr (10, (.int (nI (nt)) :: .ref mt :: .int (nI (nb)) :: .ref mk :: .ref mb :: .int (nI (lw)) :: .int (nI (sl)) :: .int (nI (tl)) :: .ref mx :: .int (po) :: .int (ta) :: .long (tk) :: .int (dg) :: .int (nu) :: .int (fa) :: .int (rm_) :: .int (rto) :: .int (rbo) :: .ref mr :: .ref mn :: .ref ma :: .ref mi :: .ref mj :: .int (nI (en)) :: .ref mg :: .int (nI (sn)) :: .ref ms :: .int (nI (dn)) :: .ref md :: .ref mc :: .ref me :: .int (ga) :: .ref mh :: .ref mo :: .ref mw :: []))), (mk, .inl (E.2.1.1, 10, .inl (nA (kd)))), (mt, .inl (E.2.1.1, 30, .inl (townF cr rt fd wn nx))), (mn, .inl (E.2.1.1, 47, .inl (nowF tw wt sk gr ch yr))), (mc, .inl (E.2.1.1, 7, .inl (rwF (updn r d (r d + 1))))), (me, .inl (E.2.1.1, 7, .inl (nA ((visR tw sk wn (worN kd tw wt rt) d (updn r d (r d + 1)) (s1, s2, s3)).2.2))))]) (lv' := [(0, .ref m0), (1, .int (szI (visR tw sk wn (worN kd tw wt rt) d (updn r d (r d + 1)) (s1, s2, s3)).1)), (2, .int (nI ((visR tw sk wn (worN kd tw wt rt) d (updn r d (r d + 1)) (s1, s2, s3)).2.1))), (3, .int (nI (d + 1) - 1))]) ?_ (by rw [hv]) (by rw [hv]; simp only [rw_1]) rfl
                  exact k2 c37 (by rw [okR, decide_eq_true c47]; rfl) (by omega) hvok
                · skip
                  refine g_iinc (lv' := [(0, _), (1, _), (2, _), (3, _), (4, _), (5, _)]) (v := nI (d + 1)) (q := 192) dX10_findRing_189 rfl rfl (nI_inc _) (Nat.le_of_ble_eq_true rfl) rfl ?_
                  refine g_aload_n (q := 193) dX10_findRing_192 rfl rfl rfl ?_
                  refine gf_X10_51 rfl 0 rfl rfl (q := 196) dX10_findRing_193 rfl ?_
                  refine g_iload_n (q := 197) dX10_findRing_196 rfl rfl rfl ?_
                  refine g_iconst (v := (-1)) (q := 198) dX10_findRing_197 rfl ki_m1 ?_
                  refine g_iast (f' := (rwF (updn (updn r d (r d + 1)) (d + 1) 0))) 4 rfl (ixIn (j := d + 1) rfl (by omega) (by decide)) ((ixU (j := d + 1) rfl (by omega)).trans (rwF_n _ _)) (ws' := [_, _, _, _, (_, .inl (_, _, .inl _)), _]) rfl (q := 199) dX10_findRing_198 rfl ?_
                  refine g_goto (q := 13) dX10_findRing_199 (by decide) ?_
                  refine g_less (lv' := [(0, _), (1, _), (2, _), (3, _)]) 4 rfl ?_
                  have hvok : okBt (visR tw sk wn (worN kd tw wt rt) d (updn r d (r d + 1)) (s1, s2, s3)) := visR_ok (by omega) (fun k hk => worN_lt hkd htw hwt hrt (hq k hk)) hs
                  have hv : (visR tw sk wn (worN kd tw wt rt) d (updn r d (r d + 1)) (s1, s2, s3)) = (s1, s2, s3) := if_neg (by unfold clsB; rw [decide_eq_false (show ¬ 1 < d + 1 by omega)]; simp)
                  refine g_eq (ws' := [(m0, .inr (10, (.int (nI (nt)) :: .ref mt :: .int (nI (nb)) :: .ref mk :: .ref mb :: .int (nI (lw)) :: .int (nI (sl)) :: .int (nI (tl)) :: .ref mx :: .int (po) :: .int (ta) :: .long (tk) :: .int (dg) :: .int (nu) :: .int (fa) :: .int (rm_) :: .int (rto) :: .int (rbo) :: .ref mr :: .ref mn :: .ref ma :: .ref mi :: .ref mj :: .int (nI (en)) :: .ref mg :: .int (nI (sn)) :: .ref ms :: .int (nI (dn)) :: .ref md :: .ref mc :: .ref me :: .int (ga) :: .ref mh :: .ref mo :: .ref mw :: []))), (mk, .inl (E.2.1.1, 10, .inl (nA (kd)))), (mt, .inl (E.2.1.1, 30, .inl (townF cr rt fd wn nx))), (mn, .inl (E.2.1.1, 47, .inl (nowF tw wt sk gr ch yr))), (mc, .inl (E.2.1.1, 7, .inl (rwF (updn (updn r d (r d + 1)) (d + 1) 0)))), (me, .inl (E.2.1.1, 7, .inl (nA ((visR tw sk wn (worN kd tw wt rt) d (updn r d (r d + 1)) (s1, s2, s3)).2.2))))]) (lv' := [(0, .ref m0), (1, .int (szI (visR tw sk wn (worN kd tw wt rt) d (updn r d (r d + 1)) (s1, s2, s3)).1)), (2, .int (nI ((visR tw sk wn (worN kd tw wt rt) d (updn r d (r d + 1)) (s1, s2, s3)).2.1))), (3, .int (nI (d + 2) - 1))]) ?_ (by rw [hv]) (by rw [hv]; simp only [show d + 2 = (d + 1) + 1 from rfl, rw_1]) rfl
                  exact k3 c37 (by rw [okR, decide_eq_true c47]; rfl) (by omega) hvok
              · omega
            · omega
          · exact absurd ((nI_le0 (by omega)).mpr c47) c80
        · skip
          refine g_aload_n (q := 51) dX10_findRing_50 rfl rfl rfl ?_
          refine g_iload_n (q := 52) dX10_findRing_51 rfl rfl rfl ?_
          refine gc_X10_228 (c_isOnce (by omega) (by omega) hRR htw) rfl (Nat.le_of_ble_eq_true rfl) rfl 0 rfl [0, 3, 4] rfl rfl (rest := []) rfl (Nat.le_of_ble_eq_true rfl) (q := 55) dX10_findRing_52 rfl (exK (ws' := [_, _, _, _, _, _]) (st' := [.int (bI (onB tw (qf (updn r d (r d + 1))) d d))]) rfl rfl ?_)
          refine g_if_eq (t := 13) (q := 58) dX10_findRing_55 (by decide) rfl (fun c55 => ?_) (fun c55 => ?_)
          · skip
            refine g_eq (lv' := [(0, .ref m0), (1, .int (szI s1)), (2, .int (nI (s2))), (3, .int (nI (d + 1) - 1))]) ?_ rfl (by rw [rw_1]) rfl
            exact k4 c37 (by rw [okR, decide_eq_false c47, bI_eq0.mp c55]; rfl) hs
          · skip
            refine g_aload_n (q := 59) dX10_findRing_58 rfl rfl rfl ?_
            refine g_aload_n (q := 60) dX10_findRing_59 rfl rfl rfl ?_
            refine gf_X10_51 rfl 0 rfl rfl (q := 63) dX10_findRing_60 rfl ?_
            refine g_iload_n (q := 64) dX10_findRing_63 rfl rfl rfl ?_
            refine g_iconst (v := nI 1) (q := 65) dX10_findRing_64 rfl ki_1 ?_
            refine g_isubN (q := 66) dX10_findRing_65 rfl (by omega) ?_
            refine g_iald (v := nI ((updn r d (r d + 1)) (d - 1)) - 1) 4 rfl (ixIn (j := d - 1) rfl (by omega) (by decide)) (ixV (j := d - 1) rfl (by omega)) (q := 67) dX10_findRing_66 rfl ?_
            refine g_top (y := nI (qf (updn r d (r d + 1)) (d - 1))) (qf_I (hRR (d - 1) (by omega)).1) ?_
            refine g_aload_n (q := 68) dX10_findRing_67 rfl rfl rfl ?_
            refine gf_X10_51 rfl 0 rfl rfl (q := 71) dX10_findRing_68 rfl ?_
            refine g_iload_n (q := 72) dX10_findRing_71 rfl rfl rfl ?_
            refine g_iald (v := nI (r d)) 4 rfl (ixIn (j := d) rfl (by omega) (by decide)) ((ixV (j := d) rfl (by omega)).trans rw_at) (q := 73) dX10_findRing_72 rfl ?_
            have hq1 := hq (d - 1) (by omega)
            refine gc_X10_231 (c_fitsBehind (by omega) (by omega) htw) rfl (Nat.le_of_ble_eq_true rfl) rfl 0 rfl [0, 2, 3] rfl rfl (rest := []) rfl (Nat.le_of_ble_eq_true rfl) (q := 76) dX10_findRing_73 rfl (exK (ws' := [_, _, _, _, _, _]) (st' := [.int (bI (wanB sk wn (qf (updn r d (r d + 1)) (d - 1)) (tw (r d))))]) rfl rfl ?_)
            refine g_if_eq (t := 13) (q := 79) dX10_findRing_76 (by decide) rfl (fun c76 => ?_) (fun c76 => ?_)
            · skip
              refine g_eq (lv' := [(0, .ref m0), (1, .int (szI s1)), (2, .int (nI (s2))), (3, .int (nI (d + 1) - 1))]) ?_ rfl (by rw [rw_1]) rfl
              exact k4 c37 (by rw [okR, decide_eq_false c47, bI_ne0.mp c55, hqd, bI_eq0.mp c76]; rfl) hs
            · skip
              refine g_iload_n (q := 80) dX10_findRing_79 rfl rfl rfl ?_
              refine g_if_le (t := 106) (q := 83) dX10_findRing_80 (by decide) rfl (fun c80 => ?_) (fun c80 => ?_)
              · exact absurd ((nI_le0 (by omega)).mp c80) c47
              · skip
                refine g_aload_n (q := 84) dX10_findRing_83 rfl rfl rfl ?_
                refine g_aload_n (q := 85) dX10_findRing_84 rfl rfl rfl ?_
                refine gf_X10_51 rfl 0 rfl rfl (q := 88) dX10_findRing_85 rfl ?_
                refine g_iload_n (q := 89) dX10_findRing_88 rfl rfl rfl ?_
                refine g_iald (v := nI (r d)) 4 rfl (ixIn (j := d) rfl (by omega) (by decide)) ((ixV (j := d) rfl (by omega)).trans rw_at) (q := 90) dX10_findRing_89 rfl ?_
                refine g_aload_n (q := 91) dX10_findRing_90 rfl rfl rfl ?_
                refine gf_X10_51 rfl 0 rfl rfl (q := 94) dX10_findRing_91 rfl ?_
                refine g_iconst (v := nI 0) (q := 95) dX10_findRing_94 rfl ki_0 ?_
                refine g_iald (v := nI ((updn r d (r d + 1)) 0) - 1) 4 rfl (ixIn (j := 0) rfl (by omega) (by decide)) (ixV (j := 0) rfl (by omega)) (q := 96) dX10_findRing_95 rfl ?_
                refine g_top (y := nI (qf (updn r d (r d + 1)) 0)) (qf_I (hRR 0 (by omega)).1) ?_
                refine gc_X10_231 (c_fitsBehind (by omega) (by omega) htw) rfl (Nat.le_of_ble_eq_true rfl) rfl 0 rfl [0, 2, 3] rfl rfl (rest := []) rfl (Nat.le_of_ble_eq_true rfl) (q := 99) dX10_findRing_96 rfl (exK (ws' := [_, _, _, _, _, _]) (st' := [.int (bI (wanB sk wn (r d) (tw (qf (updn r d (r d + 1)) 0))))]) rfl rfl ?_)
                refine g_if_eq (t := 106) (q := 102) dX10_findRing_99 (by decide) rfl (fun c99 => ?_) (fun c99 => ?_)
                · skip
                  refine g_iconst (v := nI 0) (q := 107) dX10_findRing_106 rfl ki_0 ?_
                  refine g_istore (lv' := [(0, _), (1, _), (2, _), (3, _), (4, _)]) (q := 109) dX10_findRing_107 rfl (Nat.le_of_ble_eq_true rfl) rfl ?_
                  refine g_iload (q := 111) dX10_findRing_109 rfl rfl ?_
                  refine g_if_eqN (t := 124) (q := 114) dX10_findRing_111 (by decide) rfl (by omega) (fun c111 => ?_) (fun c111 => ?_)
                  · skip
                    refine g_iconst (v := nI 0) (q := 125) dX10_findRing_124 rfl ki_0 ?_
                    refine g_istore (lv' := [(0, _), (1, _), (2, _), (3, _), (4, _), (5, _)]) (q := 127) dX10_findRing_125 rfl (Nat.le_of_ble_eq_true rfl) rfl ?_
                    refine g_iload (q := 129) dX10_findRing_127 rfl rfl ?_
                    refine g_if_eqN (t := 179) (q := 132) dX10_findRing_129 (by decide) rfl (by omega) (fun c129 => ?_) (fun c129 => ?_)
                    · skip
                      refine g_iload_n (q := 180) dX10_findRing_179 rfl rfl rfl ?_
                      refine g_iconst (v := nI 1) (q := 181) dX10_findRing_180 rfl ki_1 ?_
                      refine g_iaddN (q := 182) dX10_findRing_181 rfl ?_
                      refine g_aload_n (q := 183) dX10_findRing_182 rfl rfl rfl ?_
                      refine gf_X10_7 rfl 0 rfl rfl (q := 186) dX10_findRing_183 rfl ?_
                      refine g_icmp_geN (t := 199) (q := 189) dX10_findRing_186 (by decide) rfl (by omega) (by omega) (fun c186 => ?_) (fun c186 => ?_)
                      · skip
                        refine g_goto (q := 13) dX10_findRing_199 (by decide) ?_
                        refine g_less (lv' := [(0, _), (1, _), (2, _), (3, _)]) 4 rfl ?_
                        have hvok : okBt (visR tw sk wn (worN kd tw wt rt) d (updn r d (r d + 1)) (s1, s2, s3)) := visR_ok (by omega) (fun k hk => worN_lt hkd htw hwt hrt (hq k hk)) hs
                        have hv : (visR tw sk wn (worN kd tw wt rt) d (updn r d (r d + 1)) (s1, s2, s3)) = (s1, s2, s3) := if_neg (by unfold clsB; rw [show qf (updn r d (r d + 1)) (d + 1 - 1) = r d from hqd, bI_eq0.mp c99]; simp)
                        refine g_eq (ws' := [(m0, .inr (10, (.int (nI (nt)) :: .ref mt :: .int (nI (nb)) :: .ref mk :: .ref mb :: .int (nI (lw)) :: .int (nI (sl)) :: .int (nI (tl)) :: .ref mx :: .int (po) :: .int (ta) :: .long (tk) :: .int (dg) :: .int (nu) :: .int (fa) :: .int (rm_) :: .int (rto) :: .int (rbo) :: .ref mr :: .ref mn :: .ref ma :: .ref mi :: .ref mj :: .int (nI (en)) :: .ref mg :: .int (nI (sn)) :: .ref ms :: .int (nI (dn)) :: .ref md :: .ref mc :: .ref me :: .int (ga) :: .ref mh :: .ref mo :: .ref mw :: []))), (mk, .inl (E.2.1.1, 10, .inl (nA (kd)))), (mt, .inl (E.2.1.1, 30, .inl (townF cr rt fd wn nx))), (mn, .inl (E.2.1.1, 47, .inl (nowF tw wt sk gr ch yr))), (mc, .inl (E.2.1.1, 7, .inl (rwF (updn r d (r d + 1))))), (me, .inl (E.2.1.1, 7, .inl (nA ((visR tw sk wn (worN kd tw wt rt) d (updn r d (r d + 1)) (s1, s2, s3)).2.2))))]) (lv' := [(0, .ref m0), (1, .int (szI (visR tw sk wn (worN kd tw wt rt) d (updn r d (r d + 1)) (s1, s2, s3)).1)), (2, .int (nI ((visR tw sk wn (worN kd tw wt rt) d (updn r d (r d + 1)) (s1, s2, s3)).2.1))), (3, .int (nI (d + 1) - 1))]) ?_ (by rw [hv]) (by rw [hv]; simp only [rw_1]) rfl
                        exact k2 c37 (by rw [okR, bI_ne0.mp c55, hqd, bI_ne0.mp c76]; simp) (by omega) hvok
                      · skip
                        refine g_iinc (lv' := [(0, _), (1, _), (2, _), (3, _), (4, _), (5, _)]) (v := nI (d + 1)) (q := 192) dX10_findRing_189 rfl rfl (nI_inc _) (Nat.le_of_ble_eq_true rfl) rfl ?_
                        refine g_aload_n (q := 193) dX10_findRing_192 rfl rfl rfl ?_
                        refine gf_X10_51 rfl 0 rfl rfl (q := 196) dX10_findRing_193 rfl ?_
                        refine g_iload_n (q := 197) dX10_findRing_196 rfl rfl rfl ?_
                        refine g_iconst (v := (-1)) (q := 198) dX10_findRing_197 rfl ki_m1 ?_
                        refine g_iast (f' := (rwF (updn (updn r d (r d + 1)) (d + 1) 0))) 4 rfl (ixIn (j := d + 1) rfl (by omega) (by decide)) ((ixU (j := d + 1) rfl (by omega)).trans (rwF_n _ _)) (ws' := [_, _, _, _, (_, .inl (_, _, .inl _)), _]) rfl (q := 199) dX10_findRing_198 rfl ?_
                        refine g_goto (q := 13) dX10_findRing_199 (by decide) ?_
                        refine g_less (lv' := [(0, _), (1, _), (2, _), (3, _)]) 4 rfl ?_
                        have hvok : okBt (visR tw sk wn (worN kd tw wt rt) d (updn r d (r d + 1)) (s1, s2, s3)) := visR_ok (by omega) (fun k hk => worN_lt hkd htw hwt hrt (hq k hk)) hs
                        have hv : (visR tw sk wn (worN kd tw wt rt) d (updn r d (r d + 1)) (s1, s2, s3)) = (s1, s2, s3) := if_neg (by unfold clsB; rw [show qf (updn r d (r d + 1)) (d + 1 - 1) = r d from hqd, bI_eq0.mp c99]; simp)
                        refine g_eq (ws' := [(m0, .inr (10, (.int (nI (nt)) :: .ref mt :: .int (nI (nb)) :: .ref mk :: .ref mb :: .int (nI (lw)) :: .int (nI (sl)) :: .int (nI (tl)) :: .ref mx :: .int (po) :: .int (ta) :: .long (tk) :: .int (dg) :: .int (nu) :: .int (fa) :: .int (rm_) :: .int (rto) :: .int (rbo) :: .ref mr :: .ref mn :: .ref ma :: .ref mi :: .ref mj :: .int (nI (en)) :: .ref mg :: .int (nI (sn)) :: .ref ms :: .int (nI (dn)) :: .ref md :: .ref mc :: .ref me :: .int (ga) :: .ref mh :: .ref mo :: .ref mw :: []))), (mk, .inl (E.2.1.1, 10, .inl (nA (kd)))), (mt, .inl (E.2.1.1, 30, .inl (townF cr rt fd wn nx))), (mn, .inl (E.2.1.1, 47, .inl (nowF tw wt sk gr ch yr))), (mc, .inl (E.2.1.1, 7, .inl (rwF (updn (updn r d (r d + 1)) (d + 1) 0)))), (me, .inl (E.2.1.1, 7, .inl (nA ((visR tw sk wn (worN kd tw wt rt) d (updn r d (r d + 1)) (s1, s2, s3)).2.2))))]) (lv' := [(0, .ref m0), (1, .int (szI (visR tw sk wn (worN kd tw wt rt) d (updn r d (r d + 1)) (s1, s2, s3)).1)), (2, .int (nI ((visR tw sk wn (worN kd tw wt rt) d (updn r d (r d + 1)) (s1, s2, s3)).2.1))), (3, .int (nI (d + 2) - 1))]) ?_ (by rw [hv]) (by rw [hv]; simp only [show d + 2 = (d + 1) + 1 from rfl, rw_1]) rfl
                        exact k3 c37 (by rw [okR, bI_ne0.mp c55, hqd, bI_ne0.mp c76]; simp) (by omega) hvok
                    · omega
                  · omega
                · skip
                  refine g_iconst (v := nI 1) (q := 103) dX10_findRing_102 rfl ki_1 ?_
                  refine g_goto (q := 107) dX10_findRing_103 (by decide) ?_
                  refine g_istore (lv' := [(0, _), (1, _), (2, _), (3, _), (4, _)]) (q := 109) dX10_findRing_107 rfl (Nat.le_of_ble_eq_true rfl) rfl ?_
                  refine g_iload (q := 111) dX10_findRing_109 rfl rfl ?_
                  refine g_if_eqN (t := 124) (q := 114) dX10_findRing_111 (by decide) rfl (by omega) (fun c111 => ?_) (fun c111 => ?_)
                  · omega
                  · skip
                    refine g_aload_n (q := 115) dX10_findRing_114 rfl rfl rfl ?_
                    refine g_iload_n (q := 116) dX10_findRing_115 rfl rfl rfl ?_
                    refine g_iconst (v := nI 1) (q := 117) dX10_findRing_116 rfl ki_1 ?_
                    refine g_iaddN (q := 118) dX10_findRing_117 rfl ?_
                    refine gc_X10_235 (c_cheeseOf (size := d + 1) (by omega) (by omega) hRR hkd htw hwt hrt) rfl (Nat.le_of_ble_eq_true rfl) rfl 0 rfl [0, 1, 2, 3, 4] rfl rfl (rest := []) rfl (Nat.le_of_ble_eq_true rfl) (q := 121) dX10_findRing_118 rfl (exK (ws' := [_, _, _, _, _, _]) (st' := [.int (nI (cheS (worN kd tw wt rt) (qf (updn r d (r d + 1))) (d + 1) (d + 1)))]) rfl rfl ?_)
                    have hch := cheS_le (wo := (worN kd tw wt rt)) (q := qf (updn r d (r d + 1))) (size := d + 1) (fun k hk => worN_lt hkd htw hwt hrt (hq k hk)) (d + 1) (Nat.le_refl _)
                    refine g_goto (q := 125) dX10_findRing_121 (by decide) ?_
                    refine g_istore (lv' := [(0, _), (1, _), (2, _), (3, _), (4, _), (5, _)]) (q := 127) dX10_findRing_125 rfl (Nat.le_of_ble_eq_true rfl) rfl ?_
                    refine g_iload (q := 129) dX10_findRing_127 rfl rfl ?_
                    refine g_if_eqN (t := 179) (q := 132) dX10_findRing_129 (by decide) rfl (by omega) (fun c129 => ?_) (fun c129 => ?_)
                    · omega
                    · skip
                      refine g_iload_n (q := 133) dX10_findRing_132 rfl rfl rfl ?_
                      refine g_iconst (v := (-1)) (q := 134) dX10_findRing_133 rfl ki_m1 ?_
                      refine g_icmp_eq (t := 143) (q := 137) dX10_findRing_134 (by decide) rfl (fun c134 => ?_) (fun c134 => ?_)
                      · skip
                        refine g_iload_n (q := 144) dX10_findRing_143 rfl rfl rfl ?_
                        refine g_iconst (v := nI 1) (q := 145) dX10_findRing_144 rfl ki_1 ?_
                        refine g_iaddN (q := 146) dX10_findRing_145 rfl ?_
                        refine g_istore_n (lv' := [(0, _), (1, _), (2, _), (3, _), (4, _), (5, _)]) (q := 147) dX10_findRing_146 rfl rfl (Nat.le_of_ble_eq_true rfl) rfl ?_
                        refine g_iload (q := 149) dX10_findRing_147 rfl rfl ?_
                        refine g_istore_n (lv' := [(0, _), (1, _), (2, _), (3, _), (4, _), (5, _)]) (q := 150) dX10_findRing_149 rfl rfl (Nat.le_of_ble_eq_true rfl) rfl ?_
                        refine g_iconst (v := nI 0) (q := 151) dX10_findRing_150 rfl ki_0 ?_
                        refine g_istore (lv' := [(0, _), (1, _), (2, _), (3, _), (4, _), (5, _), (6, _)]) (q := 153) dX10_findRing_151 rfl (Nat.le_of_ble_eq_true rfl) rfl ?_
                        refine g_eq (ws' := [(m0, .inr (10, (.int (nI (nt)) :: .ref mt :: .int (nI (nb)) :: .ref mk :: .ref mb :: .int (nI (lw)) :: .int (nI (sl)) :: .int (nI (tl)) :: .ref mx :: .int (po) :: .int (ta) :: .long (tk) :: .int (dg) :: .int (nu) :: .int (fa) :: .int (rm_) :: .int (rto) :: .int (rbo) :: .ref mr :: .ref mn :: .ref ma :: .ref mi :: .ref mj :: .int (nI (en)) :: .ref mg :: .int (nI (sn)) :: .ref ms :: .int (nI (dn)) :: .ref md :: .ref mc :: .ref me :: .int (ga) :: .ref mh :: .ref mo :: .ref mw :: []))), (mk, .inl (E.2.1.1, 10, .inl (nA (kd)))), (mt, .inl (E.2.1.1, 30, .inl (townF cr rt fd wn nx))), (mn, .inl (E.2.1.1, 47, .inl (nowF tw wt sk gr ch yr))), (mc, .inl (E.2.1.1, 7, .inl (rwF (updn r d (r d + 1))))), (me, .inl (E.2.1.1, 7, .inl (nA (mpN (qf (updn r d (r d + 1))) s3 0))))]) ?_ (by rw [mpN_0]) rfl rfl
                        refine g_loop (d + 1) (fun k => [(m0, .inr (10, (.int (nI (nt)) :: .ref mt :: .int (nI (nb)) :: .ref mk :: .ref mb :: .int (nI (lw)) :: .int (nI (sl)) :: .int (nI (tl)) :: .ref mx :: .int (po) :: .int (ta) :: .long (tk) :: .int (dg) :: .int (nu) :: .int (fa) :: .int (rm_) :: .int (rto) :: .int (rbo) :: .ref mr :: .ref mn :: .ref ma :: .ref mi :: .ref mj :: .int (nI (en)) :: .ref mg :: .int (nI (sn)) :: .ref ms :: .int (nI (dn)) :: .ref md :: .ref mc :: .ref me :: .int (ga) :: .ref mh :: .ref mo :: .ref mw :: []))), (mk, .inl (E.2.1.1, 10, .inl (nA (kd)))), (mt, .inl (E.2.1.1, 30, .inl (townF cr rt fd wn nx))), (mn, .inl (E.2.1.1, 47, .inl (nowF tw wt sk gr ch yr))), (mc, .inl (E.2.1.1, 7, .inl (rwF (updn r d (r d + 1))))), (me, .inl (E.2.1.1, 7, .inl (nA (mpN (qf (updn r d (r d + 1))) s3 k))))]) (fun k => [(0, .ref m0), (1, .int (nI (d + 1))), (2, .int (nI (cheS (worN kd tw wt rt) (qf (updn r d (r d + 1))) (d + 1) (d + 1)))), (3, .int (nI (d))), (4, .int (nI (1))), (5, .int (nI (cheS (worN kd tw wt rt) (qf (updn r d (r d + 1))) (d + 1) (d + 1)))), (6, .int (nI (k)))]) ?_ ?_ 0 (Nat.zero_le _)
                        · intro k hk153 ih153
                          show G E _ [(m0, .inr (10, (.int (nI (nt)) :: .ref mt :: .int (nI (nb)) :: .ref mk :: .ref mb :: .int (nI (lw)) :: .int (nI (sl)) :: .int (nI (tl)) :: .ref mx :: .int (po) :: .int (ta) :: .long (tk) :: .int (dg) :: .int (nu) :: .int (fa) :: .int (rm_) :: .int (rto) :: .int (rbo) :: .ref mr :: .ref mn :: .ref ma :: .ref mi :: .ref mj :: .int (nI (en)) :: .ref mg :: .int (nI (sn)) :: .ref ms :: .int (nI (dn)) :: .ref md :: .ref mc :: .ref me :: .int (ga) :: .ref mh :: .ref mo :: .ref mw :: []))), (mk, .inl (E.2.1.1, 10, .inl (nA (kd)))), (mt, .inl (E.2.1.1, 30, .inl (townF cr rt fd wn nx))), (mn, .inl (E.2.1.1, 47, .inl (nowF tw wt sk gr ch yr))), (mc, .inl (E.2.1.1, 7, .inl (rwF (updn r d (r d + 1))))), (me, .inl (E.2.1.1, 7, .inl (nA (mpN (qf (updn r d (r d + 1))) s3 k))))] 153 [(0, .ref m0), (1, .int (nI (d + 1))), (2, .int (nI (cheS (worN kd tw wt rt) (qf (updn r d (r d + 1))) (d + 1) (d + 1)))), (3, .int (nI (d))), (4, .int (nI (1))), (5, .int (nI (cheS (worN kd tw wt rt) (qf (updn r d (r d + 1))) (d + 1) (d + 1)))), (6, .int (nI (k)))] []
                          refine g_iload (q := 155) dX10_findRing_153 rfl rfl ?_
                          refine g_iload_n (q := 156) dX10_findRing_155 rfl rfl rfl ?_
                          refine g_icmp_geN (t := 179) (q := 159) dX10_findRing_156 (by decide) rfl (by omega) (by omega) (fun c156 => ?_) (fun c156 => ?_)
                          · omega
                          · skip
                            refine g_aload_n (q := 160) dX10_findRing_159 rfl rfl rfl ?_
                            refine gf_X10_54 rfl 0 rfl rfl (q := 163) dX10_findRing_160 rfl ?_
                            refine g_iload (q := 165) dX10_findRing_163 rfl rfl ?_
                            refine g_aload_n (q := 166) dX10_findRing_165 rfl rfl rfl ?_
                            refine gf_X10_51 rfl 0 rfl rfl (q := 169) dX10_findRing_166 rfl ?_
                            refine g_iload (q := 171) dX10_findRing_169 rfl rfl ?_
                            refine g_iald (v := nI ((updn r d (r d + 1)) k) - 1) 4 rfl (ixIn (j := k) rfl (by omega) (by decide)) (ixV (j := k) rfl (by omega)) (q := 172) dX10_findRing_171 rfl ?_
                            refine g_top (y := nI (qf (updn r d (r d + 1)) k)) (qf_I (hRR k (by omega)).1) ?_
                            refine g_iast (f' := (nA (updn (mpN (qf (updn r d (r d + 1))) s3 k) k (qf (updn r d (r d + 1)) k)))) 5 rfl (ixIn (j := k) rfl (by omega) (by decide)) (ixUn (j := k) rfl (by omega)) (ws' := [_, _, _, _, _, (_, .inl (_, _, .inl _))]) rfl (q := 173) dX10_findRing_172 rfl ?_
                            refine g_iinc (lv' := [(0, _), (1, _), (2, _), (3, _), (4, _), (5, _), (6, _)]) (v := nI (k + 1)) (q := 176) dX10_findRing_173 rfl rfl (nI_inc _) (Nat.le_of_ble_eq_true rfl) rfl ?_
                            refine g_goto (q := 153) dX10_findRing_176 (by decide) ?_
                            rw [mpN_s] at ih153
                            exact ih153
                        · skip
                          show G E _ [(m0, .inr (10, (.int (nI (nt)) :: .ref mt :: .int (nI (nb)) :: .ref mk :: .ref mb :: .int (nI (lw)) :: .int (nI (sl)) :: .int (nI (tl)) :: .ref mx :: .int (po) :: .int (ta) :: .long (tk) :: .int (dg) :: .int (nu) :: .int (fa) :: .int (rm_) :: .int (rto) :: .int (rbo) :: .ref mr :: .ref mn :: .ref ma :: .ref mi :: .ref mj :: .int (nI (en)) :: .ref mg :: .int (nI (sn)) :: .ref ms :: .int (nI (dn)) :: .ref md :: .ref mc :: .ref me :: .int (ga) :: .ref mh :: .ref mo :: .ref mw :: []))), (mk, .inl (E.2.1.1, 10, .inl (nA (kd)))), (mt, .inl (E.2.1.1, 30, .inl (townF cr rt fd wn nx))), (mn, .inl (E.2.1.1, 47, .inl (nowF tw wt sk gr ch yr))), (mc, .inl (E.2.1.1, 7, .inl (rwF (updn r d (r d + 1))))), (me, .inl (E.2.1.1, 7, .inl (nA (mpN (qf (updn r d (r d + 1))) s3 (d + 1)))))] 153 [(0, .ref m0), (1, .int (nI (d + 1))), (2, .int (nI (cheS (worN kd tw wt rt) (qf (updn r d (r d + 1))) (d + 1) (d + 1)))), (3, .int (nI (d))), (4, .int (nI (1))), (5, .int (nI (cheS (worN kd tw wt rt) (qf (updn r d (r d + 1))) (d + 1) (d + 1)))), (6, .int (nI (d + 1)))] []
                          refine g_iload (q := 155) dX10_findRing_153 rfl rfl ?_
                          refine g_iload_n (q := 156) dX10_findRing_155 rfl rfl rfl ?_
                          refine g_icmp_geN (t := 179) (q := 159) dX10_findRing_156 (by decide) rfl (by omega) (by omega) (fun c156 => ?_) (fun c156 => ?_)
                          · skip
                            refine g_iload_n (q := 180) dX10_findRing_179 rfl rfl rfl ?_
                            refine g_iconst (v := nI 1) (q := 181) dX10_findRing_180 rfl ki_1 ?_
                            refine g_iaddN (q := 182) dX10_findRing_181 rfl ?_
                            refine g_aload_n (q := 183) dX10_findRing_182 rfl rfl rfl ?_
                            refine gf_X10_7 rfl 0 rfl rfl (q := 186) dX10_findRing_183 rfl ?_
                            refine g_icmp_geN (t := 199) (q := 189) dX10_findRing_186 (by decide) rfl (by omega) (by omega) (fun c186 => ?_) (fun c186 => ?_)
                            · skip
                              refine g_goto (q := 13) dX10_findRing_199 (by decide) ?_
                              refine g_less (lv' := [(0, _), (1, _), (2, _), (3, _)]) 4 rfl ?_
                              have hvok : okBt (visR tw sk wn (worN kd tw wt rt) d (updn r d (r d + 1)) (s1, s2, s3)) := visR_ok (by omega) (fun k hk => worN_lt hkd htw hwt hrt (hq k hk)) hs
                              have hv : (visR tw sk wn (worN kd tw wt rt) d (updn r d (r d + 1)) (s1, s2, s3)) = (d + 1, cheS (worN kd tw wt rt) (qf (updn r d (r d + 1))) (d + 1) (d + 1), mpN (qf (updn r d (r d + 1))) s3 (d + 1)) := (if_pos (by unfold clsB; rw [show qf (updn r d (r d + 1)) (d + 1 - 1) = r d from hqd, bI_ne0.mp c99, decide_eq_true (show 1 < d + 1 by omega)]; rfl)).trans (if_pos (Or.inl ((szI_0 hs1).mp c134)))
                              refine g_eq (ws' := [(m0, .inr (10, (.int (nI (nt)) :: .ref mt :: .int (nI (nb)) :: .ref mk :: .ref mb :: .int (nI (lw)) :: .int (nI (sl)) :: .int (nI (tl)) :: .ref mx :: .int (po) :: .int (ta) :: .long (tk) :: .int (dg) :: .int (nu) :: .int (fa) :: .int (rm_) :: .int (rto) :: .int (rbo) :: .ref mr :: .ref mn :: .ref ma :: .ref mi :: .ref mj :: .int (nI (en)) :: .ref mg :: .int (nI (sn)) :: .ref ms :: .int (nI (dn)) :: .ref md :: .ref mc :: .ref me :: .int (ga) :: .ref mh :: .ref mo :: .ref mw :: []))), (mk, .inl (E.2.1.1, 10, .inl (nA (kd)))), (mt, .inl (E.2.1.1, 30, .inl (townF cr rt fd wn nx))), (mn, .inl (E.2.1.1, 47, .inl (nowF tw wt sk gr ch yr))), (mc, .inl (E.2.1.1, 7, .inl (rwF (updn r d (r d + 1))))), (me, .inl (E.2.1.1, 7, .inl (nA ((visR tw sk wn (worN kd tw wt rt) d (updn r d (r d + 1)) (s1, s2, s3)).2.2))))]) (lv' := [(0, .ref m0), (1, .int (szI (visR tw sk wn (worN kd tw wt rt) d (updn r d (r d + 1)) (s1, s2, s3)).1)), (2, .int (nI ((visR tw sk wn (worN kd tw wt rt) d (updn r d (r d + 1)) (s1, s2, s3)).2.1))), (3, .int (nI (d + 1) - 1))]) ?_ (by rw [hv]) (by rw [hv]; simp only [rw_1, szI_s]) rfl
                              exact k2 c37 (by rw [okR, bI_ne0.mp c55, hqd, bI_ne0.mp c76]; simp) (by omega) hvok
                            · skip
                              refine g_iinc (lv' := [(0, _), (1, _), (2, _), (3, _), (4, _), (5, _), (6, _)]) (v := nI (d + 1)) (q := 192) dX10_findRing_189 rfl rfl (nI_inc _) (Nat.le_of_ble_eq_true rfl) rfl ?_
                              refine g_aload_n (q := 193) dX10_findRing_192 rfl rfl rfl ?_
                              refine gf_X10_51 rfl 0 rfl rfl (q := 196) dX10_findRing_193 rfl ?_
                              refine g_iload_n (q := 197) dX10_findRing_196 rfl rfl rfl ?_
                              refine g_iconst (v := (-1)) (q := 198) dX10_findRing_197 rfl ki_m1 ?_
                              refine g_iast (f' := (rwF (updn (updn r d (r d + 1)) (d + 1) 0))) 4 rfl (ixIn (j := d + 1) rfl (by omega) (by decide)) ((ixU (j := d + 1) rfl (by omega)).trans (rwF_n _ _)) (ws' := [_, _, _, _, (_, .inl (_, _, .inl _)), _]) rfl (q := 199) dX10_findRing_198 rfl ?_
                              refine g_goto (q := 13) dX10_findRing_199 (by decide) ?_
                              refine g_less (lv' := [(0, _), (1, _), (2, _), (3, _)]) 4 rfl ?_
                              have hvok : okBt (visR tw sk wn (worN kd tw wt rt) d (updn r d (r d + 1)) (s1, s2, s3)) := visR_ok (by omega) (fun k hk => worN_lt hkd htw hwt hrt (hq k hk)) hs
                              have hv : (visR tw sk wn (worN kd tw wt rt) d (updn r d (r d + 1)) (s1, s2, s3)) = (d + 1, cheS (worN kd tw wt rt) (qf (updn r d (r d + 1))) (d + 1) (d + 1), mpN (qf (updn r d (r d + 1))) s3 (d + 1)) := (if_pos (by unfold clsB; rw [show qf (updn r d (r d + 1)) (d + 1 - 1) = r d from hqd, bI_ne0.mp c99, decide_eq_true (show 1 < d + 1 by omega)]; rfl)).trans (if_pos (Or.inl ((szI_0 hs1).mp c134)))
                              refine g_eq (ws' := [(m0, .inr (10, (.int (nI (nt)) :: .ref mt :: .int (nI (nb)) :: .ref mk :: .ref mb :: .int (nI (lw)) :: .int (nI (sl)) :: .int (nI (tl)) :: .ref mx :: .int (po) :: .int (ta) :: .long (tk) :: .int (dg) :: .int (nu) :: .int (fa) :: .int (rm_) :: .int (rto) :: .int (rbo) :: .ref mr :: .ref mn :: .ref ma :: .ref mi :: .ref mj :: .int (nI (en)) :: .ref mg :: .int (nI (sn)) :: .ref ms :: .int (nI (dn)) :: .ref md :: .ref mc :: .ref me :: .int (ga) :: .ref mh :: .ref mo :: .ref mw :: []))), (mk, .inl (E.2.1.1, 10, .inl (nA (kd)))), (mt, .inl (E.2.1.1, 30, .inl (townF cr rt fd wn nx))), (mn, .inl (E.2.1.1, 47, .inl (nowF tw wt sk gr ch yr))), (mc, .inl (E.2.1.1, 7, .inl (rwF (updn (updn r d (r d + 1)) (d + 1) 0)))), (me, .inl (E.2.1.1, 7, .inl (nA ((visR tw sk wn (worN kd tw wt rt) d (updn r d (r d + 1)) (s1, s2, s3)).2.2))))]) (lv' := [(0, .ref m0), (1, .int (szI (visR tw sk wn (worN kd tw wt rt) d (updn r d (r d + 1)) (s1, s2, s3)).1)), (2, .int (nI ((visR tw sk wn (worN kd tw wt rt) d (updn r d (r d + 1)) (s1, s2, s3)).2.1))), (3, .int (nI (d + 2) - 1))]) ?_ (by rw [hv]) (by rw [hv]; simp only [show d + 2 = (d + 1) + 1 from rfl, rw_1, szI_s]) rfl
                              exact k3 c37 (by rw [okR, bI_ne0.mp c55, hqd, bI_ne0.mp c76]; simp) (by omega) hvok
                          · omega
                      · skip
                        refine g_iload (q := 139) dX10_findRing_137 rfl rfl ?_
                        refine g_iload_n (q := 140) dX10_findRing_139 rfl rfl rfl ?_
                        refine g_icmp_geN (t := 179) (q := 143) dX10_findRing_140 (by decide) rfl (by omega) (by omega) (fun c140 => ?_) (fun c140 => ?_)
                        · skip
                          refine g_iload_n (q := 180) dX10_findRing_179 rfl rfl rfl ?_
                          refine g_iconst (v := nI 1) (q := 181) dX10_findRing_180 rfl ki_1 ?_
                          refine g_iaddN (q := 182) dX10_findRing_181 rfl ?_
                          refine g_aload_n (q := 183) dX10_findRing_182 rfl rfl rfl ?_
                          refine gf_X10_7 rfl 0 rfl rfl (q := 186) dX10_findRing_183 rfl ?_
                          refine g_icmp_geN (t := 199) (q := 189) dX10_findRing_186 (by decide) rfl (by omega) (by omega) (fun c186 => ?_) (fun c186 => ?_)
                          · skip
                            refine g_goto (q := 13) dX10_findRing_199 (by decide) ?_
                            refine g_less (lv' := [(0, _), (1, _), (2, _), (3, _)]) 4 rfl ?_
                            have hvok : okBt (visR tw sk wn (worN kd tw wt rt) d (updn r d (r d + 1)) (s1, s2, s3)) := visR_ok (by omega) (fun k hk => worN_lt hkd htw hwt hrt (hq k hk)) hs
                            have hv : (visR tw sk wn (worN kd tw wt rt) d (updn r d (r d + 1)) (s1, s2, s3)) = (s1, s2, s3) := (if_pos (by unfold clsB; rw [show qf (updn r d (r d + 1)) (d + 1 - 1) = r d from hqd, bI_ne0.mp c99, decide_eq_true (show 1 < d + 1 by omega)]; rfl)).trans (if_neg (fun z => z.elim (fun z => c134 ((szI_0 hs1).mpr z)) (fun z => absurd z (Nat.not_lt.mpr c140))))
                            refine g_eq (ws' := [(m0, .inr (10, (.int (nI (nt)) :: .ref mt :: .int (nI (nb)) :: .ref mk :: .ref mb :: .int (nI (lw)) :: .int (nI (sl)) :: .int (nI (tl)) :: .ref mx :: .int (po) :: .int (ta) :: .long (tk) :: .int (dg) :: .int (nu) :: .int (fa) :: .int (rm_) :: .int (rto) :: .int (rbo) :: .ref mr :: .ref mn :: .ref ma :: .ref mi :: .ref mj :: .int (nI (en)) :: .ref mg :: .int (nI (sn)) :: .ref ms :: .int (nI (dn)) :: .ref md :: .ref mc :: .ref me :: .int (ga) :: .ref mh :: .ref mo :: .ref mw :: []))), (mk, .inl (E.2.1.1, 10, .inl (nA (kd)))), (mt, .inl (E.2.1.1, 30, .inl (townF cr rt fd wn nx))), (mn, .inl (E.2.1.1, 47, .inl (nowF tw wt sk gr ch yr))), (mc, .inl (E.2.1.1, 7, .inl (rwF (updn r d (r d + 1))))), (me, .inl (E.2.1.1, 7, .inl (nA ((visR tw sk wn (worN kd tw wt rt) d (updn r d (r d + 1)) (s1, s2, s3)).2.2))))]) (lv' := [(0, .ref m0), (1, .int (szI (visR tw sk wn (worN kd tw wt rt) d (updn r d (r d + 1)) (s1, s2, s3)).1)), (2, .int (nI ((visR tw sk wn (worN kd tw wt rt) d (updn r d (r d + 1)) (s1, s2, s3)).2.1))), (3, .int (nI (d + 1) - 1))]) ?_ (by rw [hv]) (by rw [hv]; simp only [rw_1]) rfl
                            exact k2 c37 (by rw [okR, bI_ne0.mp c55, hqd, bI_ne0.mp c76]; simp) (by omega) hvok
                          · skip
                            refine g_iinc (lv' := [(0, _), (1, _), (2, _), (3, _), (4, _), (5, _)]) (v := nI (d + 1)) (q := 192) dX10_findRing_189 rfl rfl (nI_inc _) (Nat.le_of_ble_eq_true rfl) rfl ?_
                            refine g_aload_n (q := 193) dX10_findRing_192 rfl rfl rfl ?_
                            refine gf_X10_51 rfl 0 rfl rfl (q := 196) dX10_findRing_193 rfl ?_
                            refine g_iload_n (q := 197) dX10_findRing_196 rfl rfl rfl ?_
                            refine g_iconst (v := (-1)) (q := 198) dX10_findRing_197 rfl ki_m1 ?_
                            refine g_iast (f' := (rwF (updn (updn r d (r d + 1)) (d + 1) 0))) 4 rfl (ixIn (j := d + 1) rfl (by omega) (by decide)) ((ixU (j := d + 1) rfl (by omega)).trans (rwF_n _ _)) (ws' := [_, _, _, _, (_, .inl (_, _, .inl _)), _]) rfl (q := 199) dX10_findRing_198 rfl ?_
                            refine g_goto (q := 13) dX10_findRing_199 (by decide) ?_
                            refine g_less (lv' := [(0, _), (1, _), (2, _), (3, _)]) 4 rfl ?_
                            have hvok : okBt (visR tw sk wn (worN kd tw wt rt) d (updn r d (r d + 1)) (s1, s2, s3)) := visR_ok (by omega) (fun k hk => worN_lt hkd htw hwt hrt (hq k hk)) hs
                            have hv : (visR tw sk wn (worN kd tw wt rt) d (updn r d (r d + 1)) (s1, s2, s3)) = (s1, s2, s3) := (if_pos (by unfold clsB; rw [show qf (updn r d (r d + 1)) (d + 1 - 1) = r d from hqd, bI_ne0.mp c99, decide_eq_true (show 1 < d + 1 by omega)]; rfl)).trans (if_neg (fun z => z.elim (fun z => c134 ((szI_0 hs1).mpr z)) (fun z => absurd z (Nat.not_lt.mpr c140))))
                            refine g_eq (ws' := [(m0, .inr (10, (.int (nI (nt)) :: .ref mt :: .int (nI (nb)) :: .ref mk :: .ref mb :: .int (nI (lw)) :: .int (nI (sl)) :: .int (nI (tl)) :: .ref mx :: .int (po) :: .int (ta) :: .long (tk) :: .int (dg) :: .int (nu) :: .int (fa) :: .int (rm_) :: .int (rto) :: .int (rbo) :: .ref mr :: .ref mn :: .ref ma :: .ref mi :: .ref mj :: .int (nI (en)) :: .ref mg :: .int (nI (sn)) :: .ref ms :: .int (nI (dn)) :: .ref md :: .ref mc :: .ref me :: .int (ga) :: .ref mh :: .ref mo :: .ref mw :: []))), (mk, .inl (E.2.1.1, 10, .inl (nA (kd)))), (mt, .inl (E.2.1.1, 30, .inl (townF cr rt fd wn nx))), (mn, .inl (E.2.1.1, 47, .inl (nowF tw wt sk gr ch yr))), (mc, .inl (E.2.1.1, 7, .inl (rwF (updn (updn r d (r d + 1)) (d + 1) 0)))), (me, .inl (E.2.1.1, 7, .inl (nA ((visR tw sk wn (worN kd tw wt rt) d (updn r d (r d + 1)) (s1, s2, s3)).2.2))))]) (lv' := [(0, .ref m0), (1, .int (szI (visR tw sk wn (worN kd tw wt rt) d (updn r d (r d + 1)) (s1, s2, s3)).1)), (2, .int (nI ((visR tw sk wn (worN kd tw wt rt) d (updn r d (r d + 1)) (s1, s2, s3)).2.1))), (3, .int (nI (d + 2) - 1))]) ?_ (by rw [hv]) (by rw [hv]; simp only [show d + 2 = (d + 1) + 1 from rfl, rw_1]) rfl
                            exact k3 c37 (by rw [okR, bI_ne0.mp c55, hqd, bI_ne0.mp c76]; simp) (by omega) hvok
                        · skip
                          refine g_iload_n (q := 144) dX10_findRing_143 rfl rfl rfl ?_
                          refine g_iconst (v := nI 1) (q := 145) dX10_findRing_144 rfl ki_1 ?_
                          refine g_iaddN (q := 146) dX10_findRing_145 rfl ?_
                          refine g_istore_n (lv' := [(0, _), (1, _), (2, _), (3, _), (4, _), (5, _)]) (q := 147) dX10_findRing_146 rfl rfl (Nat.le_of_ble_eq_true rfl) rfl ?_
                          refine g_iload (q := 149) dX10_findRing_147 rfl rfl ?_
                          refine g_istore_n (lv' := [(0, _), (1, _), (2, _), (3, _), (4, _), (5, _)]) (q := 150) dX10_findRing_149 rfl rfl (Nat.le_of_ble_eq_true rfl) rfl ?_
                          refine g_iconst (v := nI 0) (q := 151) dX10_findRing_150 rfl ki_0 ?_
                          refine g_istore (lv' := [(0, _), (1, _), (2, _), (3, _), (4, _), (5, _), (6, _)]) (q := 153) dX10_findRing_151 rfl (Nat.le_of_ble_eq_true rfl) rfl ?_
                          refine g_eq (ws' := [(m0, .inr (10, (.int (nI (nt)) :: .ref mt :: .int (nI (nb)) :: .ref mk :: .ref mb :: .int (nI (lw)) :: .int (nI (sl)) :: .int (nI (tl)) :: .ref mx :: .int (po) :: .int (ta) :: .long (tk) :: .int (dg) :: .int (nu) :: .int (fa) :: .int (rm_) :: .int (rto) :: .int (rbo) :: .ref mr :: .ref mn :: .ref ma :: .ref mi :: .ref mj :: .int (nI (en)) :: .ref mg :: .int (nI (sn)) :: .ref ms :: .int (nI (dn)) :: .ref md :: .ref mc :: .ref me :: .int (ga) :: .ref mh :: .ref mo :: .ref mw :: []))), (mk, .inl (E.2.1.1, 10, .inl (nA (kd)))), (mt, .inl (E.2.1.1, 30, .inl (townF cr rt fd wn nx))), (mn, .inl (E.2.1.1, 47, .inl (nowF tw wt sk gr ch yr))), (mc, .inl (E.2.1.1, 7, .inl (rwF (updn r d (r d + 1))))), (me, .inl (E.2.1.1, 7, .inl (nA (mpN (qf (updn r d (r d + 1))) s3 0))))]) ?_ (by rw [mpN_0]) rfl rfl
                          refine g_loop (d + 1) (fun k => [(m0, .inr (10, (.int (nI (nt)) :: .ref mt :: .int (nI (nb)) :: .ref mk :: .ref mb :: .int (nI (lw)) :: .int (nI (sl)) :: .int (nI (tl)) :: .ref mx :: .int (po) :: .int (ta) :: .long (tk) :: .int (dg) :: .int (nu) :: .int (fa) :: .int (rm_) :: .int (rto) :: .int (rbo) :: .ref mr :: .ref mn :: .ref ma :: .ref mi :: .ref mj :: .int (nI (en)) :: .ref mg :: .int (nI (sn)) :: .ref ms :: .int (nI (dn)) :: .ref md :: .ref mc :: .ref me :: .int (ga) :: .ref mh :: .ref mo :: .ref mw :: []))), (mk, .inl (E.2.1.1, 10, .inl (nA (kd)))), (mt, .inl (E.2.1.1, 30, .inl (townF cr rt fd wn nx))), (mn, .inl (E.2.1.1, 47, .inl (nowF tw wt sk gr ch yr))), (mc, .inl (E.2.1.1, 7, .inl (rwF (updn r d (r d + 1))))), (me, .inl (E.2.1.1, 7, .inl (nA (mpN (qf (updn r d (r d + 1))) s3 k))))]) (fun k => [(0, .ref m0), (1, .int (nI (d + 1))), (2, .int (nI (cheS (worN kd tw wt rt) (qf (updn r d (r d + 1))) (d + 1) (d + 1)))), (3, .int (nI (d))), (4, .int (nI (1))), (5, .int (nI (cheS (worN kd tw wt rt) (qf (updn r d (r d + 1))) (d + 1) (d + 1)))), (6, .int (nI (k)))]) ?_ ?_ 0 (Nat.zero_le _)
                          · intro k hk153 ih153
                            show G E _ [(m0, .inr (10, (.int (nI (nt)) :: .ref mt :: .int (nI (nb)) :: .ref mk :: .ref mb :: .int (nI (lw)) :: .int (nI (sl)) :: .int (nI (tl)) :: .ref mx :: .int (po) :: .int (ta) :: .long (tk) :: .int (dg) :: .int (nu) :: .int (fa) :: .int (rm_) :: .int (rto) :: .int (rbo) :: .ref mr :: .ref mn :: .ref ma :: .ref mi :: .ref mj :: .int (nI (en)) :: .ref mg :: .int (nI (sn)) :: .ref ms :: .int (nI (dn)) :: .ref md :: .ref mc :: .ref me :: .int (ga) :: .ref mh :: .ref mo :: .ref mw :: []))), (mk, .inl (E.2.1.1, 10, .inl (nA (kd)))), (mt, .inl (E.2.1.1, 30, .inl (townF cr rt fd wn nx))), (mn, .inl (E.2.1.1, 47, .inl (nowF tw wt sk gr ch yr))), (mc, .inl (E.2.1.1, 7, .inl (rwF (updn r d (r d + 1))))), (me, .inl (E.2.1.1, 7, .inl (nA (mpN (qf (updn r d (r d + 1))) s3 k))))] 153 [(0, .ref m0), (1, .int (nI (d + 1))), (2, .int (nI (cheS (worN kd tw wt rt) (qf (updn r d (r d + 1))) (d + 1) (d + 1)))), (3, .int (nI (d))), (4, .int (nI (1))), (5, .int (nI (cheS (worN kd tw wt rt) (qf (updn r d (r d + 1))) (d + 1) (d + 1)))), (6, .int (nI (k)))] []
                            refine g_iload (q := 155) dX10_findRing_153 rfl rfl ?_
                            refine g_iload_n (q := 156) dX10_findRing_155 rfl rfl rfl ?_
                            refine g_icmp_geN (t := 179) (q := 159) dX10_findRing_156 (by decide) rfl (by omega) (by omega) (fun c156 => ?_) (fun c156 => ?_)
                            · omega
                            · skip
                              refine g_aload_n (q := 160) dX10_findRing_159 rfl rfl rfl ?_
                              refine gf_X10_54 rfl 0 rfl rfl (q := 163) dX10_findRing_160 rfl ?_
                              refine g_iload (q := 165) dX10_findRing_163 rfl rfl ?_
                              refine g_aload_n (q := 166) dX10_findRing_165 rfl rfl rfl ?_
                              refine gf_X10_51 rfl 0 rfl rfl (q := 169) dX10_findRing_166 rfl ?_
                              refine g_iload (q := 171) dX10_findRing_169 rfl rfl ?_
                              refine g_iald (v := nI ((updn r d (r d + 1)) k) - 1) 4 rfl (ixIn (j := k) rfl (by omega) (by decide)) (ixV (j := k) rfl (by omega)) (q := 172) dX10_findRing_171 rfl ?_
                              refine g_top (y := nI (qf (updn r d (r d + 1)) k)) (qf_I (hRR k (by omega)).1) ?_
                              refine g_iast (f' := (nA (updn (mpN (qf (updn r d (r d + 1))) s3 k) k (qf (updn r d (r d + 1)) k)))) 5 rfl (ixIn (j := k) rfl (by omega) (by decide)) (ixUn (j := k) rfl (by omega)) (ws' := [_, _, _, _, _, (_, .inl (_, _, .inl _))]) rfl (q := 173) dX10_findRing_172 rfl ?_
                              refine g_iinc (lv' := [(0, _), (1, _), (2, _), (3, _), (4, _), (5, _), (6, _)]) (v := nI (k + 1)) (q := 176) dX10_findRing_173 rfl rfl (nI_inc _) (Nat.le_of_ble_eq_true rfl) rfl ?_
                              refine g_goto (q := 153) dX10_findRing_176 (by decide) ?_
                              rw [mpN_s] at ih153
                              exact ih153
                          · skip
                            show G E _ [(m0, .inr (10, (.int (nI (nt)) :: .ref mt :: .int (nI (nb)) :: .ref mk :: .ref mb :: .int (nI (lw)) :: .int (nI (sl)) :: .int (nI (tl)) :: .ref mx :: .int (po) :: .int (ta) :: .long (tk) :: .int (dg) :: .int (nu) :: .int (fa) :: .int (rm_) :: .int (rto) :: .int (rbo) :: .ref mr :: .ref mn :: .ref ma :: .ref mi :: .ref mj :: .int (nI (en)) :: .ref mg :: .int (nI (sn)) :: .ref ms :: .int (nI (dn)) :: .ref md :: .ref mc :: .ref me :: .int (ga) :: .ref mh :: .ref mo :: .ref mw :: []))), (mk, .inl (E.2.1.1, 10, .inl (nA (kd)))), (mt, .inl (E.2.1.1, 30, .inl (townF cr rt fd wn nx))), (mn, .inl (E.2.1.1, 47, .inl (nowF tw wt sk gr ch yr))), (mc, .inl (E.2.1.1, 7, .inl (rwF (updn r d (r d + 1))))), (me, .inl (E.2.1.1, 7, .inl (nA (mpN (qf (updn r d (r d + 1))) s3 (d + 1)))))] 153 [(0, .ref m0), (1, .int (nI (d + 1))), (2, .int (nI (cheS (worN kd tw wt rt) (qf (updn r d (r d + 1))) (d + 1) (d + 1)))), (3, .int (nI (d))), (4, .int (nI (1))), (5, .int (nI (cheS (worN kd tw wt rt) (qf (updn r d (r d + 1))) (d + 1) (d + 1)))), (6, .int (nI (d + 1)))] []
                            refine g_iload (q := 155) dX10_findRing_153 rfl rfl ?_
                            refine g_iload_n (q := 156) dX10_findRing_155 rfl rfl rfl ?_
                            refine g_icmp_geN (t := 179) (q := 159) dX10_findRing_156 (by decide) rfl (by omega) (by omega) (fun c156 => ?_) (fun c156 => ?_)
                            · skip
                              refine g_iload_n (q := 180) dX10_findRing_179 rfl rfl rfl ?_
                              refine g_iconst (v := nI 1) (q := 181) dX10_findRing_180 rfl ki_1 ?_
                              refine g_iaddN (q := 182) dX10_findRing_181 rfl ?_
                              refine g_aload_n (q := 183) dX10_findRing_182 rfl rfl rfl ?_
                              refine gf_X10_7 rfl 0 rfl rfl (q := 186) dX10_findRing_183 rfl ?_
                              refine g_icmp_geN (t := 199) (q := 189) dX10_findRing_186 (by decide) rfl (by omega) (by omega) (fun c186 => ?_) (fun c186 => ?_)
                              · skip
                                refine g_goto (q := 13) dX10_findRing_199 (by decide) ?_
                                refine g_less (lv' := [(0, _), (1, _), (2, _), (3, _)]) 4 rfl ?_
                                have hvok : okBt (visR tw sk wn (worN kd tw wt rt) d (updn r d (r d + 1)) (s1, s2, s3)) := visR_ok (by omega) (fun k hk => worN_lt hkd htw hwt hrt (hq k hk)) hs
                                have hv : (visR tw sk wn (worN kd tw wt rt) d (updn r d (r d + 1)) (s1, s2, s3)) = (d + 1, cheS (worN kd tw wt rt) (qf (updn r d (r d + 1))) (d + 1) (d + 1), mpN (qf (updn r d (r d + 1))) s3 (d + 1)) := (if_pos (by unfold clsB; rw [show qf (updn r d (r d + 1)) (d + 1 - 1) = r d from hqd, bI_ne0.mp c99, decide_eq_true (show 1 < d + 1 by omega)]; rfl)).trans (if_pos (Or.inr (Nat.not_le.mp c140)))
                                refine g_eq (ws' := [(m0, .inr (10, (.int (nI (nt)) :: .ref mt :: .int (nI (nb)) :: .ref mk :: .ref mb :: .int (nI (lw)) :: .int (nI (sl)) :: .int (nI (tl)) :: .ref mx :: .int (po) :: .int (ta) :: .long (tk) :: .int (dg) :: .int (nu) :: .int (fa) :: .int (rm_) :: .int (rto) :: .int (rbo) :: .ref mr :: .ref mn :: .ref ma :: .ref mi :: .ref mj :: .int (nI (en)) :: .ref mg :: .int (nI (sn)) :: .ref ms :: .int (nI (dn)) :: .ref md :: .ref mc :: .ref me :: .int (ga) :: .ref mh :: .ref mo :: .ref mw :: []))), (mk, .inl (E.2.1.1, 10, .inl (nA (kd)))), (mt, .inl (E.2.1.1, 30, .inl (townF cr rt fd wn nx))), (mn, .inl (E.2.1.1, 47, .inl (nowF tw wt sk gr ch yr))), (mc, .inl (E.2.1.1, 7, .inl (rwF (updn r d (r d + 1))))), (me, .inl (E.2.1.1, 7, .inl (nA ((visR tw sk wn (worN kd tw wt rt) d (updn r d (r d + 1)) (s1, s2, s3)).2.2))))]) (lv' := [(0, .ref m0), (1, .int (szI (visR tw sk wn (worN kd tw wt rt) d (updn r d (r d + 1)) (s1, s2, s3)).1)), (2, .int (nI ((visR tw sk wn (worN kd tw wt rt) d (updn r d (r d + 1)) (s1, s2, s3)).2.1))), (3, .int (nI (d + 1) - 1))]) ?_ (by rw [hv]) (by rw [hv]; simp only [rw_1, szI_s]) rfl
                                exact k2 c37 (by rw [okR, bI_ne0.mp c55, hqd, bI_ne0.mp c76]; simp) (by omega) hvok
                              · skip
                                refine g_iinc (lv' := [(0, _), (1, _), (2, _), (3, _), (4, _), (5, _), (6, _)]) (v := nI (d + 1)) (q := 192) dX10_findRing_189 rfl rfl (nI_inc _) (Nat.le_of_ble_eq_true rfl) rfl ?_
                                refine g_aload_n (q := 193) dX10_findRing_192 rfl rfl rfl ?_
                                refine gf_X10_51 rfl 0 rfl rfl (q := 196) dX10_findRing_193 rfl ?_
                                refine g_iload_n (q := 197) dX10_findRing_196 rfl rfl rfl ?_
                                refine g_iconst (v := (-1)) (q := 198) dX10_findRing_197 rfl ki_m1 ?_
                                refine g_iast (f' := (rwF (updn (updn r d (r d + 1)) (d + 1) 0))) 4 rfl (ixIn (j := d + 1) rfl (by omega) (by decide)) ((ixU (j := d + 1) rfl (by omega)).trans (rwF_n _ _)) (ws' := [_, _, _, _, (_, .inl (_, _, .inl _)), _]) rfl (q := 199) dX10_findRing_198 rfl ?_
                                refine g_goto (q := 13) dX10_findRing_199 (by decide) ?_
                                refine g_less (lv' := [(0, _), (1, _), (2, _), (3, _)]) 4 rfl ?_
                                have hvok : okBt (visR tw sk wn (worN kd tw wt rt) d (updn r d (r d + 1)) (s1, s2, s3)) := visR_ok (by omega) (fun k hk => worN_lt hkd htw hwt hrt (hq k hk)) hs
                                have hv : (visR tw sk wn (worN kd tw wt rt) d (updn r d (r d + 1)) (s1, s2, s3)) = (d + 1, cheS (worN kd tw wt rt) (qf (updn r d (r d + 1))) (d + 1) (d + 1), mpN (qf (updn r d (r d + 1))) s3 (d + 1)) := (if_pos (by unfold clsB; rw [show qf (updn r d (r d + 1)) (d + 1 - 1) = r d from hqd, bI_ne0.mp c99, decide_eq_true (show 1 < d + 1 by omega)]; rfl)).trans (if_pos (Or.inr (Nat.not_le.mp c140)))
                                refine g_eq (ws' := [(m0, .inr (10, (.int (nI (nt)) :: .ref mt :: .int (nI (nb)) :: .ref mk :: .ref mb :: .int (nI (lw)) :: .int (nI (sl)) :: .int (nI (tl)) :: .ref mx :: .int (po) :: .int (ta) :: .long (tk) :: .int (dg) :: .int (nu) :: .int (fa) :: .int (rm_) :: .int (rto) :: .int (rbo) :: .ref mr :: .ref mn :: .ref ma :: .ref mi :: .ref mj :: .int (nI (en)) :: .ref mg :: .int (nI (sn)) :: .ref ms :: .int (nI (dn)) :: .ref md :: .ref mc :: .ref me :: .int (ga) :: .ref mh :: .ref mo :: .ref mw :: []))), (mk, .inl (E.2.1.1, 10, .inl (nA (kd)))), (mt, .inl (E.2.1.1, 30, .inl (townF cr rt fd wn nx))), (mn, .inl (E.2.1.1, 47, .inl (nowF tw wt sk gr ch yr))), (mc, .inl (E.2.1.1, 7, .inl (rwF (updn (updn r d (r d + 1)) (d + 1) 0)))), (me, .inl (E.2.1.1, 7, .inl (nA ((visR tw sk wn (worN kd tw wt rt) d (updn r d (r d + 1)) (s1, s2, s3)).2.2))))]) (lv' := [(0, .ref m0), (1, .int (szI (visR tw sk wn (worN kd tw wt rt) d (updn r d (r d + 1)) (s1, s2, s3)).1)), (2, .int (nI ((visR tw sk wn (worN kd tw wt rt) d (updn r d (r d + 1)) (s1, s2, s3)).2.1))), (3, .int (nI (d + 2) - 1))]) ?_ (by rw [hv]) (by rw [hv]; simp only [show d + 2 = (d + 1) + 1 from rfl, rw_1, szI_s]) rfl
                                exact k3 c37 (by rw [okR, bI_ne0.mp c55, hqd, bI_ne0.mp c76]; simp) (by omega) hvok
                            · omega
      · skip
        refine g_iinc (lv' := [(0, _), (1, _), (2, _), (3, _)]) (v := (nI (d)) - 1) (q := 43) dX10_findRing_40 rfl rfl (nI_decI _) (Nat.le_of_ble_eq_true rfl) rfl ?_
        refine g_goto (q := 13) dX10_findRing_43 (by decide) ?_
        exact k1 (by omega) hs
  · intro r2 hr2 hS
    refine g_eq (ws' := [(m0, .inr (10, (.int (nI (nt)) :: .ref mt :: .int (nI (nb)) :: .ref mk :: .ref mb :: .int (nI (lw)) :: .int (nI (sl)) :: .int (nI (tl)) :: .ref mx :: .int (po) :: .int (ta) :: .long (tk) :: .int (dg) :: .int (nu) :: .int (fa) :: .int (rm_) :: .int (rto) :: .int (rbo) :: .ref mr :: .ref mn :: .ref ma :: .ref mi :: .ref mj :: .int (nI (en)) :: .ref mg :: .int (nI (sn)) :: .ref ms :: .int (nI (dn)) :: .ref md :: .ref mc :: .ref me :: .int (ga) :: .ref mh :: .ref mo :: .ref mw :: []))), (mk, .inl (E.2.1.1, 10, .inl (nA (kd)))), (mt, .inl (E.2.1.1, 30, .inl (townF cr rt fd wn nx))), (mn, .inl (E.2.1.1, 47, .inl (nowF tw wt sk gr ch yr))), (mc, .inl (E.2.1.1, 7, .inl (rwF (r2)))), (me, .inl (E.2.1.1, 7, .inl (nA ((dfsV (okR tw sk wn) (visR tw sk wn (worN kd tw wt rt)) nb nt nt (fun _ => 0) (0, 0, be)).2.2))))]) (lv' := [(0, .ref m0), (1, .int (szI (dfsV (okR tw sk wn) (visR tw sk wn (worN kd tw wt rt)) nb nt nt (fun _ => 0) (0, 0, be)).1)), (2, .int (nI ((dfsV (okR tw sk wn) (visR tw sk wn (worN kd tw wt rt)) nb nt nt (fun _ => 0) (0, 0, be)).2.1))), (3, .int (-1))]) ?_ rfl (by rw [show nI 0 - 1 = (-1 : Int32) from by decide]) rfl
    refine g_iload_n (q := 14) dX10_findRing_13 rfl rfl rfl ?_
    refine g_if_lt (t := 202) (q := 17) dX10_findRing_14 (by decide) rfl (fun c14 => ?_) (fun c14 => ?_)
    · skip
      refine g_aload_n (q := 203) dX10_findRing_202 rfl rfl rfl ?_
      refine gf_X10_54 rfl 0 rfl rfl (q := 206) dX10_findRing_203 rfl ?_
      refine g_bipush (v := nI 6) (q := 208) dX10_findRing_206 rfl kb_6 ?_
      refine g_iload_n (q := 209) dX10_findRing_208 rfl rfl rfl ?_
      refine g_iast (f' := (nA (updn ((dfsV (okR tw sk wn) (visR tw sk wn (worN kd tw wt rt)) nb nt nt (fun _ => 0) (0, 0, be)).2.2) 6 ((dfsV (okR tw sk wn) (visR tw sk wn (worN kd tw wt rt)) nb nt nt (fun _ => 0) (0, 0, be)).2.1)))) 5 rfl (ixIn (j := 6) rfl (by omega) (by decide)) (ixUn (j := 6) rfl (by omega)) (ws' := [_, _, _, _, _, (_, .inl (_, _, .inl _))]) rfl (q := 210) dX10_findRing_209 rfl ?_
      refine g_iload_n (q := 211) dX10_findRing_210 rfl rfl rfl ?_
      refine g_iret (st := []) dX10_findRing_211 rfl rfl rfl ?_
      exact ⟨r2, ⟨hr2, hS⟩, xr rfl⟩
    · exact absurd (by decide) c14
set_option maxHeartbeats 2000000 in
set_option maxRecDepth 20000 in
theorem c_mring {E : EN} {m0 mt mk mb mx mr mn ma mi mj mg ms md mc me mh mo mw nt nb lw sl tl en sn dn : Nat} {po ta dg nu fa rm_ rto rbo ga : Int32} {tk : Int64} {kd tw wt sk gr : Nat → Nat} {ch : Nat → Int32} {yr : Nat} {cr rt fd nx : Nat → Nat} {wn : Nat → Int32} {r0 be : Nat → Nat} {x : Int32} (hnt1 : 1 ≤ nt) (hnt : nt ≤ 6) (hnb : nb ≤ 10) (hr0 : ∀ k, r0 k ≤ 11) (hkd : ∀ j, j < 10 → kd j < 4) (htw : ∀ j, j < 10 → tw j < 6) (hwt : ∀ j, j < 10 → wt j < 100) (hrt : ∀ j, j < 6 → rt j < 10)  : CT E yX10_ring cX10_ring 3 (some .int) 4 [.ref m0, .int (x)] [(m0, .inr (10, (.int (nI (nt)) :: .ref mt :: .int (nI (nb)) :: .ref mk :: .ref mb :: .int (nI (lw)) :: .int (nI (sl)) :: .int (nI (tl)) :: .ref mx :: .int (po) :: .int (ta) :: .long (tk) :: .int (dg) :: .int (nu) :: .int (fa) :: .int (rm_) :: .int (rto) :: .int (rbo) :: .ref mr :: .ref mn :: .ref ma :: .ref mi :: .ref mj :: .int (nI (en)) :: .ref mg :: .int (nI (sn)) :: .ref ms :: .int (nI (dn)) :: .ref md :: .ref mc :: .ref me :: .int (ga) :: .ref mh :: .ref mo :: .ref mw :: []))), (mk, .inl (E.2.1.1, 10, .inl (nA (kd)))), (mt, .inl (E.2.1.1, 30, .inl (townF cr rt fd wn nx))), (mn, .inl (E.2.1.1, 47, .inl (nowF tw wt sk gr ch yr))), (mc, .inl (E.2.1.1, 7, .inl (rwF (r0)))), (me, .inl (E.2.1.1, 7, .inl (nA (be))))] (fun r w => ∃ (r' be' : Nat → Nat), (∀ k, r' k ≤ 11) ∧ xQ (some (.int (opRing (dfsV (okR tw sk wn) (visR tw sk wn (worN kd tw wt rt)) nb nt nt (fun _ => 0) (0, 0, be)) x))) [(m0, .inr (10, (.int (nI (nt)) :: .ref mt :: .int (nI (nb)) :: .ref mk :: .ref mb :: .int (nI (lw)) :: .int (nI (sl)) :: .int (nI (tl)) :: .ref mx :: .int (po) :: .int (ta) :: .long (tk) :: .int (dg) :: .int (nu) :: .int (fa) :: .int (rm_) :: .int (rto) :: .int (rbo) :: .ref mr :: .ref mn :: .ref ma :: .ref mi :: .ref mj :: .int (nI (en)) :: .ref mg :: .int (nI (sn)) :: .ref ms :: .int (nI (dn)) :: .ref md :: .ref mc :: .ref me :: .int (ga) :: .ref mh :: .ref mo :: .ref mw :: []))), (mk, .inl (E.2.1.1, 10, .inl (nA (kd)))), (mt, .inl (E.2.1.1, 30, .inl (townF cr rt fd wn nx))), (mn, .inl (E.2.1.1, 47, .inl (nowF tw wt sk gr ch yr))), (mc, .inl (E.2.1.1, 7, .inl (rwF (r')))), (me, .inl (E.2.1.1, 7, .inl (nA (be'))))] r w) := by
  refine ct_of (by decide +kernel) (Nat.le_of_ble_eq_true rfl) (lv := [(0, .ref m0), (1, .int (x))]) rfl (fun A => ?_)
  rcases hk : rq x with _ | k
  · have hk2 := hk
    unfold rq at hk2
    rcases ht2 : tn x 2 with _ | j2
    · rw [ht2] at hk2
      have hk3 : rn x 10 15 = none := hk2
      refine g_iload_n (q := 1) dX10_ring_0 rfl rfl rfl ?_
      refine g_iconst (v := nI 0) (q := 2) dX10_ring_1 rfl ki_0 ?_
      refine g_iconst (v := nI 1) (q := 3) dX10_ring_2 rfl ki_1 ?_
      refine gc_X10_73 (c_in) rfl (Nat.le_of_ble_eq_true rfl) rfl [] rfl rfl (rest := []) rfl (Nat.le_of_ble_eq_true rfl) (q := 6) dX10_ring_3 rfl (exK (ws' := [_, _, _, _, _, _]) (st' := [.int (bI (!ninB x (nI 0) (nI 1)))]) rfl rfl ?_)
      refine g_top (y := nI 0) (by rw [ninB_out (n := 2) ht2 (by decide) (by decide)]; rfl) ?_
      refine g_if_neN (t := 23) (q := 9) dX10_ring_6 (by decide) rfl (by omega) (fun c6 => ?_) (fun c6 => ?_)
      · omega
      · skip
        refine g_iload_n (q := 10) dX10_ring_9 rfl rfl rfl ?_
        refine g_bipush (v := nI 10) (q := 12) dX10_ring_10 rfl kb_10 ?_
        refine g_bipush (v := nI 15) (q := 14) dX10_ring_12 rfl kb_15 ?_
        refine gc_X10_73 (c_in) rfl (Nat.le_of_ble_eq_true rfl) rfl [] rfl rfl (rest := []) rfl (Nat.le_of_ble_eq_true rfl) (q := 17) dX10_ring_14 rfl (exK (ws' := [_, _, _, _, _, _]) (st' := [.int (bI (!ninB x (nI 10) (nI 15)))]) rfl rfl ?_)
        refine g_top (y := nI 0) (by rw [ninB_rn (by decide) (by decide), hk3]; rfl) ?_
        refine g_if_neN (t := 23) (q := 20) dX10_ring_17 (by decide) rfl (by omega) (fun c17 => ?_) (fun c17 => ?_)
        · omega
        · skip
          refine g_bipush (v := (-3)) (q := 22) dX10_ring_20 rfl kb_m3 ?_
          refine g_iret (st := []) dX10_ring_22 rfl rfl rfl ?_
          exact ⟨r0, be, hr0, xr (by simp only [opRing, hk])⟩
    · rw [ht2] at hk2
      cases hk2
  · obtain ⟨rfl, hk0⟩ := rq_some hk
    rcases (show k = 0 ∨ k = 1 ∨ k = 10 ∨ k = 11 ∨ k = 12 ∨ k = 13 ∨ k = 14 ∨ k = 15 by omega) with rfl | rfl | rfl | rfl | rfl | rfl | rfl | rfl
    · skip
      refine g_iload_n (q := 1) dX10_ring_0 rfl rfl rfl ?_
      refine g_iconst (v := nI 0) (q := 2) dX10_ring_1 rfl ki_0 ?_
      refine g_iconst (v := nI 1) (q := 3) dX10_ring_2 rfl ki_1 ?_
      refine gc_X10_73 (c_in) rfl (Nat.le_of_ble_eq_true rfl) rfl [] rfl rfl (rest := []) rfl (Nat.le_of_ble_eq_true rfl) (q := 6) dX10_ring_3 rfl (exK (ws' := [_, _, _, _, _, _]) (st' := [.int (bI (!ninB (nI (0)) (nI 0) (nI 1)))]) rfl rfl ?_)
      refine g_top (y := nI 1) (by decide) ?_
      refine g_if_neN (t := 23) (q := 9) dX10_ring_6 (by decide) rfl (by omega) (fun c6 => ?_) (fun c6 => ?_)
      · skip
        refine g_aload_n (q := 24) dX10_ring_23 rfl rfl rfl ?_
        refine gc_X10_238 (c_findRing (by omega) hnt hnb hr0 hkd htw hwt hrt) rfl (Nat.le_of_ble_eq_true rfl) rfl 0 rfl [0, 1, 2, 3, 4, 5] rfl rfl (rest := []) rfl (Nat.le_of_ble_eq_true rfl) (q := 27) dX10_ring_24 rfl (exKPM rfl (fun q2 hq2 => ?_))
        refine g_eq (ws' := [(m0, .inr (10, (.int (nI (nt)) :: .ref mt :: .int (nI (nb)) :: .ref mk :: .ref mb :: .int (nI (lw)) :: .int (nI (sl)) :: .int (nI (tl)) :: .ref mx :: .int (po) :: .int (ta) :: .long (tk) :: .int (dg) :: .int (nu) :: .int (fa) :: .int (rm_) :: .int (rto) :: .int (rbo) :: .ref mr :: .ref mn :: .ref ma :: .ref mi :: .ref mj :: .int (nI (en)) :: .ref mg :: .int (nI (sn)) :: .ref ms :: .int (nI (dn)) :: .ref md :: .ref mc :: .ref me :: .int (ga) :: .ref mh :: .ref mo :: .ref mw :: []))), (mk, .inl (E.2.1.1, 10, .inl (nA (kd)))), (mt, .inl (E.2.1.1, 30, .inl (townF cr rt fd wn nx))), (mn, .inl (E.2.1.1, 47, .inl (nowF tw wt sk gr ch yr))), (mc, .inl (E.2.1.1, 7, .inl (rwF (q2)))), (me, .inl (E.2.1.1, 7, .inl (nA (updn (dfsV (okR tw sk wn) (visR tw sk wn (worN kd tw wt rt)) nb nt nt (fun _ => 0) (0, 0, be)).2.2 6 (dfsV (okR tw sk wn) (visR tw sk wn (worN kd tw wt rt)) nb nt nt (fun _ => 0) (0, 0, be)).2.1))))]) (st' := [.int (szI (dfsV (okR tw sk wn) (visR tw sk wn (worN kd tw wt rt)) nb nt nt (fun _ => 0) (0, 0, be)).1)]) ?_ rfl rfl rfl
        generalize hDF : (dfsV (okR tw sk wn) (visR tw sk wn (worN kd tw wt rt)) nb nt nt (fun _ => 0) (0, 0, be)) = B at hq2 ⊢
        obtain ⟨b1, b2, b3⟩ := B
        have hb1 := hq2.2.1
        simp only at hb1
        show G E _ [(m0, .inr (10, (.int (nI (nt)) :: .ref mt :: .int (nI (nb)) :: .ref mk :: .ref mb :: .int (nI (lw)) :: .int (nI (sl)) :: .int (nI (tl)) :: .ref mx :: .int (po) :: .int (ta) :: .long (tk) :: .int (dg) :: .int (nu) :: .int (fa) :: .int (rm_) :: .int (rto) :: .int (rbo) :: .ref mr :: .ref mn :: .ref ma :: .ref mi :: .ref mj :: .int (nI (en)) :: .ref mg :: .int (nI (sn)) :: .ref ms :: .int (nI (dn)) :: .ref md :: .ref mc :: .ref me :: .int (ga) :: .ref mh :: .ref mo :: .ref mw :: []))), (mk, .inl (E.2.1.1, 10, .inl (nA (kd)))), (mt, .inl (E.2.1.1, 30, .inl (townF cr rt fd wn nx))), (mn, .inl (E.2.1.1, 47, .inl (nowF tw wt sk gr ch yr))), (mc, .inl (E.2.1.1, 7, .inl (rwF (q2)))), (me, .inl (E.2.1.1, 7, .inl (nA (updn b3 6 b2))))] 27 [(0, .ref m0), (1, .int (nI (0)))] [.int (szI b1)]
        refine g_istore_n (lv' := [(0, _), (1, _), (2, _)]) (q := 28) dX10_ring_27 rfl rfl (Nat.le_of_ble_eq_true rfl) rfl ?_
        refine g_iload_n (q := 29) dX10_ring_28 rfl rfl rfl ?_
        refine g_iconst (v := (-1)) (q := 30) dX10_ring_29 rfl ki_m1 ?_
        refine g_icmp_ne (t := 35) (q := 33) dX10_ring_30 (by decide) rfl (fun c30 => ?_) (fun c30 => ?_)
        · have hb0 : ¬ b1 = 0 := fun z => c30 ((szI_0 hb1).mpr z)
          refine g_eq (lv' := [(0, .ref m0), (1, .int (nI (0))), (2, .int (nI (b1)))]) ?_ rfl (by rw [szI_n hb0]) rfl
          refine g_iload_n (q := 36) dX10_ring_35 rfl rfl rfl ?_
          refine g_if_neN (t := 49) (q := 39) dX10_ring_36 (by decide) rfl (by omega) (fun c36 => ?_) (fun c36 => ?_)
          · omega
          · skip
            refine g_aload_n (q := 40) dX10_ring_39 rfl rfl rfl ?_
            refine gf_X10_54 rfl 0 rfl rfl (q := 43) dX10_ring_40 rfl ?_
            refine g_bipush (v := nI 6) (q := 45) dX10_ring_43 rfl kb_6 ?_
            refine g_iald (v := nI (b2)) 5 rfl (ixIn (j := 6) rfl (by omega) (by decide)) (ixVs (by omega)) (q := 46) dX10_ring_45 rfl ?_
            refine g_goto (q := 79) dX10_ring_46 (by decide) ?_
            refine g_iret (st := []) dX10_ring_79 rfl rfl rfl ?_
            exact ⟨q2, updn b3 6 b2, hq2.1, xr (by simp only [opRing, hk]; rw [if_pos (by decide), if_neg hb0]; rfl)⟩
        · have hb0 : b1 = 0 := (szI_0 hb1).mp c30
          refine g_iconst (v := (-1)) (q := 34) dX10_ring_33 rfl ki_m1 ?_
          refine g_iret (st := []) dX10_ring_34 rfl rfl rfl ?_
          exact ⟨q2, updn b3 6 b2, hq2.1, xr (by simp only [opRing, hk]; rw [if_pos (by decide), if_pos hb0])⟩
      · omega
    · skip
      refine g_iload_n (q := 1) dX10_ring_0 rfl rfl rfl ?_
      refine g_iconst (v := nI 0) (q := 2) dX10_ring_1 rfl ki_0 ?_
      refine g_iconst (v := nI 1) (q := 3) dX10_ring_2 rfl ki_1 ?_
      refine gc_X10_73 (c_in) rfl (Nat.le_of_ble_eq_true rfl) rfl [] rfl rfl (rest := []) rfl (Nat.le_of_ble_eq_true rfl) (q := 6) dX10_ring_3 rfl (exK (ws' := [_, _, _, _, _, _]) (st' := [.int (bI (!ninB (nI (1)) (nI 0) (nI 1)))]) rfl rfl ?_)
      refine g_top (y := nI 1) (by decide) ?_
      refine g_if_neN (t := 23) (q := 9) dX10_ring_6 (by decide) rfl (by omega) (fun c6 => ?_) (fun c6 => ?_)
      · skip
        refine g_aload_n (q := 24) dX10_ring_23 rfl rfl rfl ?_
        refine gc_X10_238 (c_findRing (by omega) hnt hnb hr0 hkd htw hwt hrt) rfl (Nat.le_of_ble_eq_true rfl) rfl 0 rfl [0, 1, 2, 3, 4, 5] rfl rfl (rest := []) rfl (Nat.le_of_ble_eq_true rfl) (q := 27) dX10_ring_24 rfl (exKPM rfl (fun q2 hq2 => ?_))
        refine g_eq (ws' := [(m0, .inr (10, (.int (nI (nt)) :: .ref mt :: .int (nI (nb)) :: .ref mk :: .ref mb :: .int (nI (lw)) :: .int (nI (sl)) :: .int (nI (tl)) :: .ref mx :: .int (po) :: .int (ta) :: .long (tk) :: .int (dg) :: .int (nu) :: .int (fa) :: .int (rm_) :: .int (rto) :: .int (rbo) :: .ref mr :: .ref mn :: .ref ma :: .ref mi :: .ref mj :: .int (nI (en)) :: .ref mg :: .int (nI (sn)) :: .ref ms :: .int (nI (dn)) :: .ref md :: .ref mc :: .ref me :: .int (ga) :: .ref mh :: .ref mo :: .ref mw :: []))), (mk, .inl (E.2.1.1, 10, .inl (nA (kd)))), (mt, .inl (E.2.1.1, 30, .inl (townF cr rt fd wn nx))), (mn, .inl (E.2.1.1, 47, .inl (nowF tw wt sk gr ch yr))), (mc, .inl (E.2.1.1, 7, .inl (rwF (q2)))), (me, .inl (E.2.1.1, 7, .inl (nA (updn (dfsV (okR tw sk wn) (visR tw sk wn (worN kd tw wt rt)) nb nt nt (fun _ => 0) (0, 0, be)).2.2 6 (dfsV (okR tw sk wn) (visR tw sk wn (worN kd tw wt rt)) nb nt nt (fun _ => 0) (0, 0, be)).2.1))))]) (st' := [.int (szI (dfsV (okR tw sk wn) (visR tw sk wn (worN kd tw wt rt)) nb nt nt (fun _ => 0) (0, 0, be)).1)]) ?_ rfl rfl rfl
        generalize hDF : (dfsV (okR tw sk wn) (visR tw sk wn (worN kd tw wt rt)) nb nt nt (fun _ => 0) (0, 0, be)) = B at hq2 ⊢
        obtain ⟨b1, b2, b3⟩ := B
        have hb1 := hq2.2.1
        simp only at hb1
        show G E _ [(m0, .inr (10, (.int (nI (nt)) :: .ref mt :: .int (nI (nb)) :: .ref mk :: .ref mb :: .int (nI (lw)) :: .int (nI (sl)) :: .int (nI (tl)) :: .ref mx :: .int (po) :: .int (ta) :: .long (tk) :: .int (dg) :: .int (nu) :: .int (fa) :: .int (rm_) :: .int (rto) :: .int (rbo) :: .ref mr :: .ref mn :: .ref ma :: .ref mi :: .ref mj :: .int (nI (en)) :: .ref mg :: .int (nI (sn)) :: .ref ms :: .int (nI (dn)) :: .ref md :: .ref mc :: .ref me :: .int (ga) :: .ref mh :: .ref mo :: .ref mw :: []))), (mk, .inl (E.2.1.1, 10, .inl (nA (kd)))), (mt, .inl (E.2.1.1, 30, .inl (townF cr rt fd wn nx))), (mn, .inl (E.2.1.1, 47, .inl (nowF tw wt sk gr ch yr))), (mc, .inl (E.2.1.1, 7, .inl (rwF (q2)))), (me, .inl (E.2.1.1, 7, .inl (nA (updn b3 6 b2))))] 27 [(0, .ref m0), (1, .int (nI (1)))] [.int (szI b1)]
        refine g_istore_n (lv' := [(0, _), (1, _), (2, _)]) (q := 28) dX10_ring_27 rfl rfl (Nat.le_of_ble_eq_true rfl) rfl ?_
        refine g_iload_n (q := 29) dX10_ring_28 rfl rfl rfl ?_
        refine g_iconst (v := (-1)) (q := 30) dX10_ring_29 rfl ki_m1 ?_
        refine g_icmp_ne (t := 35) (q := 33) dX10_ring_30 (by decide) rfl (fun c30 => ?_) (fun c30 => ?_)
        · have hb0 : ¬ b1 = 0 := fun z => c30 ((szI_0 hb1).mpr z)
          refine g_eq (lv' := [(0, .ref m0), (1, .int (nI (1))), (2, .int (nI (b1)))]) ?_ rfl (by rw [szI_n hb0]) rfl
          refine g_iload_n (q := 36) dX10_ring_35 rfl rfl rfl ?_
          refine g_if_neN (t := 49) (q := 39) dX10_ring_36 (by decide) rfl (by omega) (fun c36 => ?_) (fun c36 => ?_)
          · skip
            refine g_iload_n (q := 50) dX10_ring_49 rfl rfl rfl ?_
            refine g_iconst (v := nI 1) (q := 51) dX10_ring_50 rfl ki_1 ?_
            refine g_icmp_neN (t := 58) (q := 54) dX10_ring_51 (by decide) rfl (by omega) (by omega) (fun c51 => ?_) (fun c51 => ?_)
            · omega
            · skip
              refine g_iload_n (q := 55) dX10_ring_54 rfl rfl rfl ?_
              refine g_goto (q := 79) dX10_ring_55 (by decide) ?_
              refine g_iret (st := []) dX10_ring_79 rfl rfl rfl ?_
              exact ⟨q2, updn b3 6 b2, hq2.1, xr (by simp only [opRing, hk]; rw [if_pos (by decide), if_neg hb0]; rfl)⟩
          · omega
        · have hb0 : b1 = 0 := (szI_0 hb1).mp c30
          refine g_iconst (v := (-1)) (q := 34) dX10_ring_33 rfl ki_m1 ?_
          refine g_iret (st := []) dX10_ring_34 rfl rfl rfl ?_
          exact ⟨q2, updn b3 6 b2, hq2.1, xr (by simp only [opRing, hk]; rw [if_pos (by decide), if_pos hb0])⟩
      · omega
    · skip
      refine g_iload_n (q := 1) dX10_ring_0 rfl rfl rfl ?_
      refine g_iconst (v := nI 0) (q := 2) dX10_ring_1 rfl ki_0 ?_
      refine g_iconst (v := nI 1) (q := 3) dX10_ring_2 rfl ki_1 ?_
      refine gc_X10_73 (c_in) rfl (Nat.le_of_ble_eq_true rfl) rfl [] rfl rfl (rest := []) rfl (Nat.le_of_ble_eq_true rfl) (q := 6) dX10_ring_3 rfl (exK (ws' := [_, _, _, _, _, _]) (st' := [.int (bI (!ninB (nI (10)) (nI 0) (nI 1)))]) rfl rfl ?_)
      refine g_top (y := nI 0) (by decide) ?_
      refine g_if_neN (t := 23) (q := 9) dX10_ring_6 (by decide) rfl (by omega) (fun c6 => ?_) (fun c6 => ?_)
      · omega
      · skip
        refine g_iload_n (q := 10) dX10_ring_9 rfl rfl rfl ?_
        refine g_bipush (v := nI 10) (q := 12) dX10_ring_10 rfl kb_10 ?_
        refine g_bipush (v := nI 15) (q := 14) dX10_ring_12 rfl kb_15 ?_
        refine gc_X10_73 (c_in) rfl (Nat.le_of_ble_eq_true rfl) rfl [] rfl rfl (rest := []) rfl (Nat.le_of_ble_eq_true rfl) (q := 17) dX10_ring_14 rfl (exK (ws' := [_, _, _, _, _, _]) (st' := [.int (bI (!ninB (nI (10)) (nI 10) (nI 15)))]) rfl rfl ?_)
        refine g_top (y := nI 1) (by decide) ?_
        refine g_if_neN (t := 23) (q := 20) dX10_ring_17 (by decide) rfl (by omega) (fun c17 => ?_) (fun c17 => ?_)
        · skip
          refine g_aload_n (q := 24) dX10_ring_23 rfl rfl rfl ?_
          refine gc_X10_238 (c_findRing (by omega) hnt hnb hr0 hkd htw hwt hrt) rfl (Nat.le_of_ble_eq_true rfl) rfl 0 rfl [0, 1, 2, 3, 4, 5] rfl rfl (rest := []) rfl (Nat.le_of_ble_eq_true rfl) (q := 27) dX10_ring_24 rfl (exKPM rfl (fun q2 hq2 => ?_))
          refine g_eq (ws' := [(m0, .inr (10, (.int (nI (nt)) :: .ref mt :: .int (nI (nb)) :: .ref mk :: .ref mb :: .int (nI (lw)) :: .int (nI (sl)) :: .int (nI (tl)) :: .ref mx :: .int (po) :: .int (ta) :: .long (tk) :: .int (dg) :: .int (nu) :: .int (fa) :: .int (rm_) :: .int (rto) :: .int (rbo) :: .ref mr :: .ref mn :: .ref ma :: .ref mi :: .ref mj :: .int (nI (en)) :: .ref mg :: .int (nI (sn)) :: .ref ms :: .int (nI (dn)) :: .ref md :: .ref mc :: .ref me :: .int (ga) :: .ref mh :: .ref mo :: .ref mw :: []))), (mk, .inl (E.2.1.1, 10, .inl (nA (kd)))), (mt, .inl (E.2.1.1, 30, .inl (townF cr rt fd wn nx))), (mn, .inl (E.2.1.1, 47, .inl (nowF tw wt sk gr ch yr))), (mc, .inl (E.2.1.1, 7, .inl (rwF (q2)))), (me, .inl (E.2.1.1, 7, .inl (nA (updn (dfsV (okR tw sk wn) (visR tw sk wn (worN kd tw wt rt)) nb nt nt (fun _ => 0) (0, 0, be)).2.2 6 (dfsV (okR tw sk wn) (visR tw sk wn (worN kd tw wt rt)) nb nt nt (fun _ => 0) (0, 0, be)).2.1))))]) (st' := [.int (szI (dfsV (okR tw sk wn) (visR tw sk wn (worN kd tw wt rt)) nb nt nt (fun _ => 0) (0, 0, be)).1)]) ?_ rfl rfl rfl
          generalize hDF : (dfsV (okR tw sk wn) (visR tw sk wn (worN kd tw wt rt)) nb nt nt (fun _ => 0) (0, 0, be)) = B at hq2 ⊢
          obtain ⟨b1, b2, b3⟩ := B
          have hb1 := hq2.2.1
          simp only at hb1
          show G E _ [(m0, .inr (10, (.int (nI (nt)) :: .ref mt :: .int (nI (nb)) :: .ref mk :: .ref mb :: .int (nI (lw)) :: .int (nI (sl)) :: .int (nI (tl)) :: .ref mx :: .int (po) :: .int (ta) :: .long (tk) :: .int (dg) :: .int (nu) :: .int (fa) :: .int (rm_) :: .int (rto) :: .int (rbo) :: .ref mr :: .ref mn :: .ref ma :: .ref mi :: .ref mj :: .int (nI (en)) :: .ref mg :: .int (nI (sn)) :: .ref ms :: .int (nI (dn)) :: .ref md :: .ref mc :: .ref me :: .int (ga) :: .ref mh :: .ref mo :: .ref mw :: []))), (mk, .inl (E.2.1.1, 10, .inl (nA (kd)))), (mt, .inl (E.2.1.1, 30, .inl (townF cr rt fd wn nx))), (mn, .inl (E.2.1.1, 47, .inl (nowF tw wt sk gr ch yr))), (mc, .inl (E.2.1.1, 7, .inl (rwF (q2)))), (me, .inl (E.2.1.1, 7, .inl (nA (updn b3 6 b2))))] 27 [(0, .ref m0), (1, .int (nI (10)))] [.int (szI b1)]
          refine g_istore_n (lv' := [(0, _), (1, _), (2, _)]) (q := 28) dX10_ring_27 rfl rfl (Nat.le_of_ble_eq_true rfl) rfl ?_
          refine g_iload_n (q := 29) dX10_ring_28 rfl rfl rfl ?_
          refine g_iconst (v := (-1)) (q := 30) dX10_ring_29 rfl ki_m1 ?_
          refine g_icmp_ne (t := 35) (q := 33) dX10_ring_30 (by decide) rfl (fun c30 => ?_) (fun c30 => ?_)
          · have hb0 : ¬ b1 = 0 := fun z => c30 ((szI_0 hb1).mpr z)
            refine g_eq (lv' := [(0, .ref m0), (1, .int (nI (10))), (2, .int (nI (b1)))]) ?_ rfl (by rw [szI_n hb0]) rfl
            refine g_iload_n (q := 36) dX10_ring_35 rfl rfl rfl ?_
            refine g_if_neN (t := 49) (q := 39) dX10_ring_36 (by decide) rfl (by omega) (fun c36 => ?_) (fun c36 => ?_)
            · skip
              refine g_iload_n (q := 50) dX10_ring_49 rfl rfl rfl ?_
              refine g_iconst (v := nI 1) (q := 51) dX10_ring_50 rfl ki_1 ?_
              refine g_icmp_neN (t := 58) (q := 54) dX10_ring_51 (by decide) rfl (by omega) (by omega) (fun c51 => ?_) (fun c51 => ?_)
              · skip
                refine g_iload_n (q := 59) dX10_ring_58 rfl rfl rfl ?_
                refine g_bipush (v := nI 10) (q := 61) dX10_ring_59 rfl kb_10 ?_
                refine g_isubN (q := 62) dX10_ring_61 rfl (by omega) ?_
                refine g_iload_n (q := 63) dX10_ring_62 rfl rfl rfl ?_
                refine g_icmp_geN (t := 78) (q := 66) dX10_ring_63 (by decide) rfl (by omega) (by omega) (fun c63 => ?_) (fun c63 => ?_)
                · skip
                  refine g_iconst (v := (-1)) (q := 79) dX10_ring_78 rfl ki_m1 ?_
                  refine g_iret (st := []) dX10_ring_79 rfl rfl rfl ?_
                  exact ⟨q2, updn b3 6 b2, hq2.1, xr (by simp only [opRing, hk]; rw [if_neg (by decide), if_neg (by omega)])⟩
                · skip
                  refine g_aload_n (q := 67) dX10_ring_66 rfl rfl rfl ?_
                  refine gf_X10_54 rfl 0 rfl rfl (q := 70) dX10_ring_67 rfl ?_
                  refine g_iload_n (q := 71) dX10_ring_70 rfl rfl rfl ?_
                  refine g_bipush (v := nI 10) (q := 73) dX10_ring_71 rfl kb_10 ?_
                  refine g_isubN (q := 74) dX10_ring_73 rfl (by omega) ?_
                  refine g_iald (v := nI ((updn b3 6 b2) 0)) 5 rfl (ixIn (j := 0) rfl (by omega) (by decide)) (ixV (j := 0) rfl (by omega)) (q := 75) dX10_ring_74 rfl ?_
                  refine g_top (y := nI (b3 0)) (congrArg nI (updn_n (by decide))) ?_
                  refine g_goto (q := 79) dX10_ring_75 (by decide) ?_
                  refine g_iret (st := []) dX10_ring_79 rfl rfl rfl ?_
                  exact ⟨q2, updn b3 6 b2, hq2.1, xr (by simp only [opRing, hk]; rw [if_neg (by decide), if_pos (by omega)])⟩
              · omega
            · omega
          · have hb0 : b1 = 0 := (szI_0 hb1).mp c30
            refine g_iconst (v := (-1)) (q := 34) dX10_ring_33 rfl ki_m1 ?_
            refine g_iret (st := []) dX10_ring_34 rfl rfl rfl ?_
            exact ⟨q2, updn b3 6 b2, hq2.1, xr (by simp only [opRing, hk]; rw [if_neg (by decide), if_neg (by omega)])⟩
        · omega
    · skip
      refine g_iload_n (q := 1) dX10_ring_0 rfl rfl rfl ?_
      refine g_iconst (v := nI 0) (q := 2) dX10_ring_1 rfl ki_0 ?_
      refine g_iconst (v := nI 1) (q := 3) dX10_ring_2 rfl ki_1 ?_
      refine gc_X10_73 (c_in) rfl (Nat.le_of_ble_eq_true rfl) rfl [] rfl rfl (rest := []) rfl (Nat.le_of_ble_eq_true rfl) (q := 6) dX10_ring_3 rfl (exK (ws' := [_, _, _, _, _, _]) (st' := [.int (bI (!ninB (nI (11)) (nI 0) (nI 1)))]) rfl rfl ?_)
      refine g_top (y := nI 0) (by decide) ?_
      refine g_if_neN (t := 23) (q := 9) dX10_ring_6 (by decide) rfl (by omega) (fun c6 => ?_) (fun c6 => ?_)
      · omega
      · skip
        refine g_iload_n (q := 10) dX10_ring_9 rfl rfl rfl ?_
        refine g_bipush (v := nI 10) (q := 12) dX10_ring_10 rfl kb_10 ?_
        refine g_bipush (v := nI 15) (q := 14) dX10_ring_12 rfl kb_15 ?_
        refine gc_X10_73 (c_in) rfl (Nat.le_of_ble_eq_true rfl) rfl [] rfl rfl (rest := []) rfl (Nat.le_of_ble_eq_true rfl) (q := 17) dX10_ring_14 rfl (exK (ws' := [_, _, _, _, _, _]) (st' := [.int (bI (!ninB (nI (11)) (nI 10) (nI 15)))]) rfl rfl ?_)
        refine g_top (y := nI 1) (by decide) ?_
        refine g_if_neN (t := 23) (q := 20) dX10_ring_17 (by decide) rfl (by omega) (fun c17 => ?_) (fun c17 => ?_)
        · skip
          refine g_aload_n (q := 24) dX10_ring_23 rfl rfl rfl ?_
          refine gc_X10_238 (c_findRing (by omega) hnt hnb hr0 hkd htw hwt hrt) rfl (Nat.le_of_ble_eq_true rfl) rfl 0 rfl [0, 1, 2, 3, 4, 5] rfl rfl (rest := []) rfl (Nat.le_of_ble_eq_true rfl) (q := 27) dX10_ring_24 rfl (exKPM rfl (fun q2 hq2 => ?_))
          refine g_eq (ws' := [(m0, .inr (10, (.int (nI (nt)) :: .ref mt :: .int (nI (nb)) :: .ref mk :: .ref mb :: .int (nI (lw)) :: .int (nI (sl)) :: .int (nI (tl)) :: .ref mx :: .int (po) :: .int (ta) :: .long (tk) :: .int (dg) :: .int (nu) :: .int (fa) :: .int (rm_) :: .int (rto) :: .int (rbo) :: .ref mr :: .ref mn :: .ref ma :: .ref mi :: .ref mj :: .int (nI (en)) :: .ref mg :: .int (nI (sn)) :: .ref ms :: .int (nI (dn)) :: .ref md :: .ref mc :: .ref me :: .int (ga) :: .ref mh :: .ref mo :: .ref mw :: []))), (mk, .inl (E.2.1.1, 10, .inl (nA (kd)))), (mt, .inl (E.2.1.1, 30, .inl (townF cr rt fd wn nx))), (mn, .inl (E.2.1.1, 47, .inl (nowF tw wt sk gr ch yr))), (mc, .inl (E.2.1.1, 7, .inl (rwF (q2)))), (me, .inl (E.2.1.1, 7, .inl (nA (updn (dfsV (okR tw sk wn) (visR tw sk wn (worN kd tw wt rt)) nb nt nt (fun _ => 0) (0, 0, be)).2.2 6 (dfsV (okR tw sk wn) (visR tw sk wn (worN kd tw wt rt)) nb nt nt (fun _ => 0) (0, 0, be)).2.1))))]) (st' := [.int (szI (dfsV (okR tw sk wn) (visR tw sk wn (worN kd tw wt rt)) nb nt nt (fun _ => 0) (0, 0, be)).1)]) ?_ rfl rfl rfl
          generalize hDF : (dfsV (okR tw sk wn) (visR tw sk wn (worN kd tw wt rt)) nb nt nt (fun _ => 0) (0, 0, be)) = B at hq2 ⊢
          obtain ⟨b1, b2, b3⟩ := B
          have hb1 := hq2.2.1
          simp only at hb1
          show G E _ [(m0, .inr (10, (.int (nI (nt)) :: .ref mt :: .int (nI (nb)) :: .ref mk :: .ref mb :: .int (nI (lw)) :: .int (nI (sl)) :: .int (nI (tl)) :: .ref mx :: .int (po) :: .int (ta) :: .long (tk) :: .int (dg) :: .int (nu) :: .int (fa) :: .int (rm_) :: .int (rto) :: .int (rbo) :: .ref mr :: .ref mn :: .ref ma :: .ref mi :: .ref mj :: .int (nI (en)) :: .ref mg :: .int (nI (sn)) :: .ref ms :: .int (nI (dn)) :: .ref md :: .ref mc :: .ref me :: .int (ga) :: .ref mh :: .ref mo :: .ref mw :: []))), (mk, .inl (E.2.1.1, 10, .inl (nA (kd)))), (mt, .inl (E.2.1.1, 30, .inl (townF cr rt fd wn nx))), (mn, .inl (E.2.1.1, 47, .inl (nowF tw wt sk gr ch yr))), (mc, .inl (E.2.1.1, 7, .inl (rwF (q2)))), (me, .inl (E.2.1.1, 7, .inl (nA (updn b3 6 b2))))] 27 [(0, .ref m0), (1, .int (nI (11)))] [.int (szI b1)]
          refine g_istore_n (lv' := [(0, _), (1, _), (2, _)]) (q := 28) dX10_ring_27 rfl rfl (Nat.le_of_ble_eq_true rfl) rfl ?_
          refine g_iload_n (q := 29) dX10_ring_28 rfl rfl rfl ?_
          refine g_iconst (v := (-1)) (q := 30) dX10_ring_29 rfl ki_m1 ?_
          refine g_icmp_ne (t := 35) (q := 33) dX10_ring_30 (by decide) rfl (fun c30 => ?_) (fun c30 => ?_)
          · have hb0 : ¬ b1 = 0 := fun z => c30 ((szI_0 hb1).mpr z)
            refine g_eq (lv' := [(0, .ref m0), (1, .int (nI (11))), (2, .int (nI (b1)))]) ?_ rfl (by rw [szI_n hb0]) rfl
            refine g_iload_n (q := 36) dX10_ring_35 rfl rfl rfl ?_
            refine g_if_neN (t := 49) (q := 39) dX10_ring_36 (by decide) rfl (by omega) (fun c36 => ?_) (fun c36 => ?_)
            · skip
              refine g_iload_n (q := 50) dX10_ring_49 rfl rfl rfl ?_
              refine g_iconst (v := nI 1) (q := 51) dX10_ring_50 rfl ki_1 ?_
              refine g_icmp_neN (t := 58) (q := 54) dX10_ring_51 (by decide) rfl (by omega) (by omega) (fun c51 => ?_) (fun c51 => ?_)
              · skip
                refine g_iload_n (q := 59) dX10_ring_58 rfl rfl rfl ?_
                refine g_bipush (v := nI 10) (q := 61) dX10_ring_59 rfl kb_10 ?_
                refine g_isubN (q := 62) dX10_ring_61 rfl (by omega) ?_
                refine g_iload_n (q := 63) dX10_ring_62 rfl rfl rfl ?_
                refine g_icmp_geN (t := 78) (q := 66) dX10_ring_63 (by decide) rfl (by omega) (by omega) (fun c63 => ?_) (fun c63 => ?_)
                · skip
                  refine g_iconst (v := (-1)) (q := 79) dX10_ring_78 rfl ki_m1 ?_
                  refine g_iret (st := []) dX10_ring_79 rfl rfl rfl ?_
                  exact ⟨q2, updn b3 6 b2, hq2.1, xr (by simp only [opRing, hk]; rw [if_neg (by decide), if_neg (by omega)])⟩
                · skip
                  refine g_aload_n (q := 67) dX10_ring_66 rfl rfl rfl ?_
                  refine gf_X10_54 rfl 0 rfl rfl (q := 70) dX10_ring_67 rfl ?_
                  refine g_iload_n (q := 71) dX10_ring_70 rfl rfl rfl ?_
                  refine g_bipush (v := nI 10) (q := 73) dX10_ring_71 rfl kb_10 ?_
                  refine g_isubN (q := 74) dX10_ring_73 rfl (by omega) ?_
                  refine g_iald (v := nI ((updn b3 6 b2) 1)) 5 rfl (ixIn (j := 1) rfl (by omega) (by decide)) (ixV (j := 1) rfl (by omega)) (q := 75) dX10_ring_74 rfl ?_
                  refine g_top (y := nI (b3 1)) (congrArg nI (updn_n (by decide))) ?_
                  refine g_goto (q := 79) dX10_ring_75 (by decide) ?_
                  refine g_iret (st := []) dX10_ring_79 rfl rfl rfl ?_
                  exact ⟨q2, updn b3 6 b2, hq2.1, xr (by simp only [opRing, hk]; rw [if_neg (by decide), if_pos (by omega)])⟩
              · omega
            · omega
          · have hb0 : b1 = 0 := (szI_0 hb1).mp c30
            refine g_iconst (v := (-1)) (q := 34) dX10_ring_33 rfl ki_m1 ?_
            refine g_iret (st := []) dX10_ring_34 rfl rfl rfl ?_
            exact ⟨q2, updn b3 6 b2, hq2.1, xr (by simp only [opRing, hk]; rw [if_neg (by decide), if_neg (by omega)])⟩
        · omega
    · skip
      refine g_iload_n (q := 1) dX10_ring_0 rfl rfl rfl ?_
      refine g_iconst (v := nI 0) (q := 2) dX10_ring_1 rfl ki_0 ?_
      refine g_iconst (v := nI 1) (q := 3) dX10_ring_2 rfl ki_1 ?_
      refine gc_X10_73 (c_in) rfl (Nat.le_of_ble_eq_true rfl) rfl [] rfl rfl (rest := []) rfl (Nat.le_of_ble_eq_true rfl) (q := 6) dX10_ring_3 rfl (exK (ws' := [_, _, _, _, _, _]) (st' := [.int (bI (!ninB (nI (12)) (nI 0) (nI 1)))]) rfl rfl ?_)
      refine g_top (y := nI 0) (by decide) ?_
      refine g_if_neN (t := 23) (q := 9) dX10_ring_6 (by decide) rfl (by omega) (fun c6 => ?_) (fun c6 => ?_)
      · omega
      · skip
        refine g_iload_n (q := 10) dX10_ring_9 rfl rfl rfl ?_
        refine g_bipush (v := nI 10) (q := 12) dX10_ring_10 rfl kb_10 ?_
        refine g_bipush (v := nI 15) (q := 14) dX10_ring_12 rfl kb_15 ?_
        refine gc_X10_73 (c_in) rfl (Nat.le_of_ble_eq_true rfl) rfl [] rfl rfl (rest := []) rfl (Nat.le_of_ble_eq_true rfl) (q := 17) dX10_ring_14 rfl (exK (ws' := [_, _, _, _, _, _]) (st' := [.int (bI (!ninB (nI (12)) (nI 10) (nI 15)))]) rfl rfl ?_)
        refine g_top (y := nI 1) (by decide) ?_
        refine g_if_neN (t := 23) (q := 20) dX10_ring_17 (by decide) rfl (by omega) (fun c17 => ?_) (fun c17 => ?_)
        · skip
          refine g_aload_n (q := 24) dX10_ring_23 rfl rfl rfl ?_
          refine gc_X10_238 (c_findRing (by omega) hnt hnb hr0 hkd htw hwt hrt) rfl (Nat.le_of_ble_eq_true rfl) rfl 0 rfl [0, 1, 2, 3, 4, 5] rfl rfl (rest := []) rfl (Nat.le_of_ble_eq_true rfl) (q := 27) dX10_ring_24 rfl (exKPM rfl (fun q2 hq2 => ?_))
          refine g_eq (ws' := [(m0, .inr (10, (.int (nI (nt)) :: .ref mt :: .int (nI (nb)) :: .ref mk :: .ref mb :: .int (nI (lw)) :: .int (nI (sl)) :: .int (nI (tl)) :: .ref mx :: .int (po) :: .int (ta) :: .long (tk) :: .int (dg) :: .int (nu) :: .int (fa) :: .int (rm_) :: .int (rto) :: .int (rbo) :: .ref mr :: .ref mn :: .ref ma :: .ref mi :: .ref mj :: .int (nI (en)) :: .ref mg :: .int (nI (sn)) :: .ref ms :: .int (nI (dn)) :: .ref md :: .ref mc :: .ref me :: .int (ga) :: .ref mh :: .ref mo :: .ref mw :: []))), (mk, .inl (E.2.1.1, 10, .inl (nA (kd)))), (mt, .inl (E.2.1.1, 30, .inl (townF cr rt fd wn nx))), (mn, .inl (E.2.1.1, 47, .inl (nowF tw wt sk gr ch yr))), (mc, .inl (E.2.1.1, 7, .inl (rwF (q2)))), (me, .inl (E.2.1.1, 7, .inl (nA (updn (dfsV (okR tw sk wn) (visR tw sk wn (worN kd tw wt rt)) nb nt nt (fun _ => 0) (0, 0, be)).2.2 6 (dfsV (okR tw sk wn) (visR tw sk wn (worN kd tw wt rt)) nb nt nt (fun _ => 0) (0, 0, be)).2.1))))]) (st' := [.int (szI (dfsV (okR tw sk wn) (visR tw sk wn (worN kd tw wt rt)) nb nt nt (fun _ => 0) (0, 0, be)).1)]) ?_ rfl rfl rfl
          generalize hDF : (dfsV (okR tw sk wn) (visR tw sk wn (worN kd tw wt rt)) nb nt nt (fun _ => 0) (0, 0, be)) = B at hq2 ⊢
          obtain ⟨b1, b2, b3⟩ := B
          have hb1 := hq2.2.1
          simp only at hb1
          show G E _ [(m0, .inr (10, (.int (nI (nt)) :: .ref mt :: .int (nI (nb)) :: .ref mk :: .ref mb :: .int (nI (lw)) :: .int (nI (sl)) :: .int (nI (tl)) :: .ref mx :: .int (po) :: .int (ta) :: .long (tk) :: .int (dg) :: .int (nu) :: .int (fa) :: .int (rm_) :: .int (rto) :: .int (rbo) :: .ref mr :: .ref mn :: .ref ma :: .ref mi :: .ref mj :: .int (nI (en)) :: .ref mg :: .int (nI (sn)) :: .ref ms :: .int (nI (dn)) :: .ref md :: .ref mc :: .ref me :: .int (ga) :: .ref mh :: .ref mo :: .ref mw :: []))), (mk, .inl (E.2.1.1, 10, .inl (nA (kd)))), (mt, .inl (E.2.1.1, 30, .inl (townF cr rt fd wn nx))), (mn, .inl (E.2.1.1, 47, .inl (nowF tw wt sk gr ch yr))), (mc, .inl (E.2.1.1, 7, .inl (rwF (q2)))), (me, .inl (E.2.1.1, 7, .inl (nA (updn b3 6 b2))))] 27 [(0, .ref m0), (1, .int (nI (12)))] [.int (szI b1)]
          refine g_istore_n (lv' := [(0, _), (1, _), (2, _)]) (q := 28) dX10_ring_27 rfl rfl (Nat.le_of_ble_eq_true rfl) rfl ?_
          refine g_iload_n (q := 29) dX10_ring_28 rfl rfl rfl ?_
          refine g_iconst (v := (-1)) (q := 30) dX10_ring_29 rfl ki_m1 ?_
          refine g_icmp_ne (t := 35) (q := 33) dX10_ring_30 (by decide) rfl (fun c30 => ?_) (fun c30 => ?_)
          · have hb0 : ¬ b1 = 0 := fun z => c30 ((szI_0 hb1).mpr z)
            refine g_eq (lv' := [(0, .ref m0), (1, .int (nI (12))), (2, .int (nI (b1)))]) ?_ rfl (by rw [szI_n hb0]) rfl
            refine g_iload_n (q := 36) dX10_ring_35 rfl rfl rfl ?_
            refine g_if_neN (t := 49) (q := 39) dX10_ring_36 (by decide) rfl (by omega) (fun c36 => ?_) (fun c36 => ?_)
            · skip
              refine g_iload_n (q := 50) dX10_ring_49 rfl rfl rfl ?_
              refine g_iconst (v := nI 1) (q := 51) dX10_ring_50 rfl ki_1 ?_
              refine g_icmp_neN (t := 58) (q := 54) dX10_ring_51 (by decide) rfl (by omega) (by omega) (fun c51 => ?_) (fun c51 => ?_)
              · skip
                refine g_iload_n (q := 59) dX10_ring_58 rfl rfl rfl ?_
                refine g_bipush (v := nI 10) (q := 61) dX10_ring_59 rfl kb_10 ?_
                refine g_isubN (q := 62) dX10_ring_61 rfl (by omega) ?_
                refine g_iload_n (q := 63) dX10_ring_62 rfl rfl rfl ?_
                refine g_icmp_geN (t := 78) (q := 66) dX10_ring_63 (by decide) rfl (by omega) (by omega) (fun c63 => ?_) (fun c63 => ?_)
                · skip
                  refine g_iconst (v := (-1)) (q := 79) dX10_ring_78 rfl ki_m1 ?_
                  refine g_iret (st := []) dX10_ring_79 rfl rfl rfl ?_
                  exact ⟨q2, updn b3 6 b2, hq2.1, xr (by simp only [opRing, hk]; rw [if_neg (by decide), if_neg (by omega)])⟩
                · skip
                  refine g_aload_n (q := 67) dX10_ring_66 rfl rfl rfl ?_
                  refine gf_X10_54 rfl 0 rfl rfl (q := 70) dX10_ring_67 rfl ?_
                  refine g_iload_n (q := 71) dX10_ring_70 rfl rfl rfl ?_
                  refine g_bipush (v := nI 10) (q := 73) dX10_ring_71 rfl kb_10 ?_
                  refine g_isubN (q := 74) dX10_ring_73 rfl (by omega) ?_
                  refine g_iald (v := nI ((updn b3 6 b2) 2)) 5 rfl (ixIn (j := 2) rfl (by omega) (by decide)) (ixV (j := 2) rfl (by omega)) (q := 75) dX10_ring_74 rfl ?_
                  refine g_top (y := nI (b3 2)) (congrArg nI (updn_n (by decide))) ?_
                  refine g_goto (q := 79) dX10_ring_75 (by decide) ?_
                  refine g_iret (st := []) dX10_ring_79 rfl rfl rfl ?_
                  exact ⟨q2, updn b3 6 b2, hq2.1, xr (by simp only [opRing, hk]; rw [if_neg (by decide), if_pos (by omega)])⟩
              · omega
            · omega
          · have hb0 : b1 = 0 := (szI_0 hb1).mp c30
            refine g_iconst (v := (-1)) (q := 34) dX10_ring_33 rfl ki_m1 ?_
            refine g_iret (st := []) dX10_ring_34 rfl rfl rfl ?_
            exact ⟨q2, updn b3 6 b2, hq2.1, xr (by simp only [opRing, hk]; rw [if_neg (by decide), if_neg (by omega)])⟩
        · omega
    · skip
      refine g_iload_n (q := 1) dX10_ring_0 rfl rfl rfl ?_
      refine g_iconst (v := nI 0) (q := 2) dX10_ring_1 rfl ki_0 ?_
      refine g_iconst (v := nI 1) (q := 3) dX10_ring_2 rfl ki_1 ?_
      refine gc_X10_73 (c_in) rfl (Nat.le_of_ble_eq_true rfl) rfl [] rfl rfl (rest := []) rfl (Nat.le_of_ble_eq_true rfl) (q := 6) dX10_ring_3 rfl (exK (ws' := [_, _, _, _, _, _]) (st' := [.int (bI (!ninB (nI (13)) (nI 0) (nI 1)))]) rfl rfl ?_)
      refine g_top (y := nI 0) (by decide) ?_
      refine g_if_neN (t := 23) (q := 9) dX10_ring_6 (by decide) rfl (by omega) (fun c6 => ?_) (fun c6 => ?_)
      · omega
      · skip
        refine g_iload_n (q := 10) dX10_ring_9 rfl rfl rfl ?_
        refine g_bipush (v := nI 10) (q := 12) dX10_ring_10 rfl kb_10 ?_
        refine g_bipush (v := nI 15) (q := 14) dX10_ring_12 rfl kb_15 ?_
        refine gc_X10_73 (c_in) rfl (Nat.le_of_ble_eq_true rfl) rfl [] rfl rfl (rest := []) rfl (Nat.le_of_ble_eq_true rfl) (q := 17) dX10_ring_14 rfl (exK (ws' := [_, _, _, _, _, _]) (st' := [.int (bI (!ninB (nI (13)) (nI 10) (nI 15)))]) rfl rfl ?_)
        refine g_top (y := nI 1) (by decide) ?_
        refine g_if_neN (t := 23) (q := 20) dX10_ring_17 (by decide) rfl (by omega) (fun c17 => ?_) (fun c17 => ?_)
        · skip
          refine g_aload_n (q := 24) dX10_ring_23 rfl rfl rfl ?_
          refine gc_X10_238 (c_findRing (by omega) hnt hnb hr0 hkd htw hwt hrt) rfl (Nat.le_of_ble_eq_true rfl) rfl 0 rfl [0, 1, 2, 3, 4, 5] rfl rfl (rest := []) rfl (Nat.le_of_ble_eq_true rfl) (q := 27) dX10_ring_24 rfl (exKPM rfl (fun q2 hq2 => ?_))
          refine g_eq (ws' := [(m0, .inr (10, (.int (nI (nt)) :: .ref mt :: .int (nI (nb)) :: .ref mk :: .ref mb :: .int (nI (lw)) :: .int (nI (sl)) :: .int (nI (tl)) :: .ref mx :: .int (po) :: .int (ta) :: .long (tk) :: .int (dg) :: .int (nu) :: .int (fa) :: .int (rm_) :: .int (rto) :: .int (rbo) :: .ref mr :: .ref mn :: .ref ma :: .ref mi :: .ref mj :: .int (nI (en)) :: .ref mg :: .int (nI (sn)) :: .ref ms :: .int (nI (dn)) :: .ref md :: .ref mc :: .ref me :: .int (ga) :: .ref mh :: .ref mo :: .ref mw :: []))), (mk, .inl (E.2.1.1, 10, .inl (nA (kd)))), (mt, .inl (E.2.1.1, 30, .inl (townF cr rt fd wn nx))), (mn, .inl (E.2.1.1, 47, .inl (nowF tw wt sk gr ch yr))), (mc, .inl (E.2.1.1, 7, .inl (rwF (q2)))), (me, .inl (E.2.1.1, 7, .inl (nA (updn (dfsV (okR tw sk wn) (visR tw sk wn (worN kd tw wt rt)) nb nt nt (fun _ => 0) (0, 0, be)).2.2 6 (dfsV (okR tw sk wn) (visR tw sk wn (worN kd tw wt rt)) nb nt nt (fun _ => 0) (0, 0, be)).2.1))))]) (st' := [.int (szI (dfsV (okR tw sk wn) (visR tw sk wn (worN kd tw wt rt)) nb nt nt (fun _ => 0) (0, 0, be)).1)]) ?_ rfl rfl rfl
          generalize hDF : (dfsV (okR tw sk wn) (visR tw sk wn (worN kd tw wt rt)) nb nt nt (fun _ => 0) (0, 0, be)) = B at hq2 ⊢
          obtain ⟨b1, b2, b3⟩ := B
          have hb1 := hq2.2.1
          simp only at hb1
          show G E _ [(m0, .inr (10, (.int (nI (nt)) :: .ref mt :: .int (nI (nb)) :: .ref mk :: .ref mb :: .int (nI (lw)) :: .int (nI (sl)) :: .int (nI (tl)) :: .ref mx :: .int (po) :: .int (ta) :: .long (tk) :: .int (dg) :: .int (nu) :: .int (fa) :: .int (rm_) :: .int (rto) :: .int (rbo) :: .ref mr :: .ref mn :: .ref ma :: .ref mi :: .ref mj :: .int (nI (en)) :: .ref mg :: .int (nI (sn)) :: .ref ms :: .int (nI (dn)) :: .ref md :: .ref mc :: .ref me :: .int (ga) :: .ref mh :: .ref mo :: .ref mw :: []))), (mk, .inl (E.2.1.1, 10, .inl (nA (kd)))), (mt, .inl (E.2.1.1, 30, .inl (townF cr rt fd wn nx))), (mn, .inl (E.2.1.1, 47, .inl (nowF tw wt sk gr ch yr))), (mc, .inl (E.2.1.1, 7, .inl (rwF (q2)))), (me, .inl (E.2.1.1, 7, .inl (nA (updn b3 6 b2))))] 27 [(0, .ref m0), (1, .int (nI (13)))] [.int (szI b1)]
          refine g_istore_n (lv' := [(0, _), (1, _), (2, _)]) (q := 28) dX10_ring_27 rfl rfl (Nat.le_of_ble_eq_true rfl) rfl ?_
          refine g_iload_n (q := 29) dX10_ring_28 rfl rfl rfl ?_
          refine g_iconst (v := (-1)) (q := 30) dX10_ring_29 rfl ki_m1 ?_
          refine g_icmp_ne (t := 35) (q := 33) dX10_ring_30 (by decide) rfl (fun c30 => ?_) (fun c30 => ?_)
          · have hb0 : ¬ b1 = 0 := fun z => c30 ((szI_0 hb1).mpr z)
            refine g_eq (lv' := [(0, .ref m0), (1, .int (nI (13))), (2, .int (nI (b1)))]) ?_ rfl (by rw [szI_n hb0]) rfl
            refine g_iload_n (q := 36) dX10_ring_35 rfl rfl rfl ?_
            refine g_if_neN (t := 49) (q := 39) dX10_ring_36 (by decide) rfl (by omega) (fun c36 => ?_) (fun c36 => ?_)
            · skip
              refine g_iload_n (q := 50) dX10_ring_49 rfl rfl rfl ?_
              refine g_iconst (v := nI 1) (q := 51) dX10_ring_50 rfl ki_1 ?_
              refine g_icmp_neN (t := 58) (q := 54) dX10_ring_51 (by decide) rfl (by omega) (by omega) (fun c51 => ?_) (fun c51 => ?_)
              · skip
                refine g_iload_n (q := 59) dX10_ring_58 rfl rfl rfl ?_
                refine g_bipush (v := nI 10) (q := 61) dX10_ring_59 rfl kb_10 ?_
                refine g_isubN (q := 62) dX10_ring_61 rfl (by omega) ?_
                refine g_iload_n (q := 63) dX10_ring_62 rfl rfl rfl ?_
                refine g_icmp_geN (t := 78) (q := 66) dX10_ring_63 (by decide) rfl (by omega) (by omega) (fun c63 => ?_) (fun c63 => ?_)
                · skip
                  refine g_iconst (v := (-1)) (q := 79) dX10_ring_78 rfl ki_m1 ?_
                  refine g_iret (st := []) dX10_ring_79 rfl rfl rfl ?_
                  exact ⟨q2, updn b3 6 b2, hq2.1, xr (by simp only [opRing, hk]; rw [if_neg (by decide), if_neg (by omega)])⟩
                · skip
                  refine g_aload_n (q := 67) dX10_ring_66 rfl rfl rfl ?_
                  refine gf_X10_54 rfl 0 rfl rfl (q := 70) dX10_ring_67 rfl ?_
                  refine g_iload_n (q := 71) dX10_ring_70 rfl rfl rfl ?_
                  refine g_bipush (v := nI 10) (q := 73) dX10_ring_71 rfl kb_10 ?_
                  refine g_isubN (q := 74) dX10_ring_73 rfl (by omega) ?_
                  refine g_iald (v := nI ((updn b3 6 b2) 3)) 5 rfl (ixIn (j := 3) rfl (by omega) (by decide)) (ixV (j := 3) rfl (by omega)) (q := 75) dX10_ring_74 rfl ?_
                  refine g_top (y := nI (b3 3)) (congrArg nI (updn_n (by decide))) ?_
                  refine g_goto (q := 79) dX10_ring_75 (by decide) ?_
                  refine g_iret (st := []) dX10_ring_79 rfl rfl rfl ?_
                  exact ⟨q2, updn b3 6 b2, hq2.1, xr (by simp only [opRing, hk]; rw [if_neg (by decide), if_pos (by omega)])⟩
              · omega
            · omega
          · have hb0 : b1 = 0 := (szI_0 hb1).mp c30
            refine g_iconst (v := (-1)) (q := 34) dX10_ring_33 rfl ki_m1 ?_
            refine g_iret (st := []) dX10_ring_34 rfl rfl rfl ?_
            exact ⟨q2, updn b3 6 b2, hq2.1, xr (by simp only [opRing, hk]; rw [if_neg (by decide), if_neg (by omega)])⟩
        · omega
    · skip
      refine g_iload_n (q := 1) dX10_ring_0 rfl rfl rfl ?_
      refine g_iconst (v := nI 0) (q := 2) dX10_ring_1 rfl ki_0 ?_
      refine g_iconst (v := nI 1) (q := 3) dX10_ring_2 rfl ki_1 ?_
      refine gc_X10_73 (c_in) rfl (Nat.le_of_ble_eq_true rfl) rfl [] rfl rfl (rest := []) rfl (Nat.le_of_ble_eq_true rfl) (q := 6) dX10_ring_3 rfl (exK (ws' := [_, _, _, _, _, _]) (st' := [.int (bI (!ninB (nI (14)) (nI 0) (nI 1)))]) rfl rfl ?_)
      refine g_top (y := nI 0) (by decide) ?_
      refine g_if_neN (t := 23) (q := 9) dX10_ring_6 (by decide) rfl (by omega) (fun c6 => ?_) (fun c6 => ?_)
      · omega
      · skip
        refine g_iload_n (q := 10) dX10_ring_9 rfl rfl rfl ?_
        refine g_bipush (v := nI 10) (q := 12) dX10_ring_10 rfl kb_10 ?_
        refine g_bipush (v := nI 15) (q := 14) dX10_ring_12 rfl kb_15 ?_
        refine gc_X10_73 (c_in) rfl (Nat.le_of_ble_eq_true rfl) rfl [] rfl rfl (rest := []) rfl (Nat.le_of_ble_eq_true rfl) (q := 17) dX10_ring_14 rfl (exK (ws' := [_, _, _, _, _, _]) (st' := [.int (bI (!ninB (nI (14)) (nI 10) (nI 15)))]) rfl rfl ?_)
        refine g_top (y := nI 1) (by decide) ?_
        refine g_if_neN (t := 23) (q := 20) dX10_ring_17 (by decide) rfl (by omega) (fun c17 => ?_) (fun c17 => ?_)
        · skip
          refine g_aload_n (q := 24) dX10_ring_23 rfl rfl rfl ?_
          refine gc_X10_238 (c_findRing (by omega) hnt hnb hr0 hkd htw hwt hrt) rfl (Nat.le_of_ble_eq_true rfl) rfl 0 rfl [0, 1, 2, 3, 4, 5] rfl rfl (rest := []) rfl (Nat.le_of_ble_eq_true rfl) (q := 27) dX10_ring_24 rfl (exKPM rfl (fun q2 hq2 => ?_))
          refine g_eq (ws' := [(m0, .inr (10, (.int (nI (nt)) :: .ref mt :: .int (nI (nb)) :: .ref mk :: .ref mb :: .int (nI (lw)) :: .int (nI (sl)) :: .int (nI (tl)) :: .ref mx :: .int (po) :: .int (ta) :: .long (tk) :: .int (dg) :: .int (nu) :: .int (fa) :: .int (rm_) :: .int (rto) :: .int (rbo) :: .ref mr :: .ref mn :: .ref ma :: .ref mi :: .ref mj :: .int (nI (en)) :: .ref mg :: .int (nI (sn)) :: .ref ms :: .int (nI (dn)) :: .ref md :: .ref mc :: .ref me :: .int (ga) :: .ref mh :: .ref mo :: .ref mw :: []))), (mk, .inl (E.2.1.1, 10, .inl (nA (kd)))), (mt, .inl (E.2.1.1, 30, .inl (townF cr rt fd wn nx))), (mn, .inl (E.2.1.1, 47, .inl (nowF tw wt sk gr ch yr))), (mc, .inl (E.2.1.1, 7, .inl (rwF (q2)))), (me, .inl (E.2.1.1, 7, .inl (nA (updn (dfsV (okR tw sk wn) (visR tw sk wn (worN kd tw wt rt)) nb nt nt (fun _ => 0) (0, 0, be)).2.2 6 (dfsV (okR tw sk wn) (visR tw sk wn (worN kd tw wt rt)) nb nt nt (fun _ => 0) (0, 0, be)).2.1))))]) (st' := [.int (szI (dfsV (okR tw sk wn) (visR tw sk wn (worN kd tw wt rt)) nb nt nt (fun _ => 0) (0, 0, be)).1)]) ?_ rfl rfl rfl
          generalize hDF : (dfsV (okR tw sk wn) (visR tw sk wn (worN kd tw wt rt)) nb nt nt (fun _ => 0) (0, 0, be)) = B at hq2 ⊢
          obtain ⟨b1, b2, b3⟩ := B
          have hb1 := hq2.2.1
          simp only at hb1
          show G E _ [(m0, .inr (10, (.int (nI (nt)) :: .ref mt :: .int (nI (nb)) :: .ref mk :: .ref mb :: .int (nI (lw)) :: .int (nI (sl)) :: .int (nI (tl)) :: .ref mx :: .int (po) :: .int (ta) :: .long (tk) :: .int (dg) :: .int (nu) :: .int (fa) :: .int (rm_) :: .int (rto) :: .int (rbo) :: .ref mr :: .ref mn :: .ref ma :: .ref mi :: .ref mj :: .int (nI (en)) :: .ref mg :: .int (nI (sn)) :: .ref ms :: .int (nI (dn)) :: .ref md :: .ref mc :: .ref me :: .int (ga) :: .ref mh :: .ref mo :: .ref mw :: []))), (mk, .inl (E.2.1.1, 10, .inl (nA (kd)))), (mt, .inl (E.2.1.1, 30, .inl (townF cr rt fd wn nx))), (mn, .inl (E.2.1.1, 47, .inl (nowF tw wt sk gr ch yr))), (mc, .inl (E.2.1.1, 7, .inl (rwF (q2)))), (me, .inl (E.2.1.1, 7, .inl (nA (updn b3 6 b2))))] 27 [(0, .ref m0), (1, .int (nI (14)))] [.int (szI b1)]
          refine g_istore_n (lv' := [(0, _), (1, _), (2, _)]) (q := 28) dX10_ring_27 rfl rfl (Nat.le_of_ble_eq_true rfl) rfl ?_
          refine g_iload_n (q := 29) dX10_ring_28 rfl rfl rfl ?_
          refine g_iconst (v := (-1)) (q := 30) dX10_ring_29 rfl ki_m1 ?_
          refine g_icmp_ne (t := 35) (q := 33) dX10_ring_30 (by decide) rfl (fun c30 => ?_) (fun c30 => ?_)
          · have hb0 : ¬ b1 = 0 := fun z => c30 ((szI_0 hb1).mpr z)
            refine g_eq (lv' := [(0, .ref m0), (1, .int (nI (14))), (2, .int (nI (b1)))]) ?_ rfl (by rw [szI_n hb0]) rfl
            refine g_iload_n (q := 36) dX10_ring_35 rfl rfl rfl ?_
            refine g_if_neN (t := 49) (q := 39) dX10_ring_36 (by decide) rfl (by omega) (fun c36 => ?_) (fun c36 => ?_)
            · skip
              refine g_iload_n (q := 50) dX10_ring_49 rfl rfl rfl ?_
              refine g_iconst (v := nI 1) (q := 51) dX10_ring_50 rfl ki_1 ?_
              refine g_icmp_neN (t := 58) (q := 54) dX10_ring_51 (by decide) rfl (by omega) (by omega) (fun c51 => ?_) (fun c51 => ?_)
              · skip
                refine g_iload_n (q := 59) dX10_ring_58 rfl rfl rfl ?_
                refine g_bipush (v := nI 10) (q := 61) dX10_ring_59 rfl kb_10 ?_
                refine g_isubN (q := 62) dX10_ring_61 rfl (by omega) ?_
                refine g_iload_n (q := 63) dX10_ring_62 rfl rfl rfl ?_
                refine g_icmp_geN (t := 78) (q := 66) dX10_ring_63 (by decide) rfl (by omega) (by omega) (fun c63 => ?_) (fun c63 => ?_)
                · skip
                  refine g_iconst (v := (-1)) (q := 79) dX10_ring_78 rfl ki_m1 ?_
                  refine g_iret (st := []) dX10_ring_79 rfl rfl rfl ?_
                  exact ⟨q2, updn b3 6 b2, hq2.1, xr (by simp only [opRing, hk]; rw [if_neg (by decide), if_neg (by omega)])⟩
                · skip
                  refine g_aload_n (q := 67) dX10_ring_66 rfl rfl rfl ?_
                  refine gf_X10_54 rfl 0 rfl rfl (q := 70) dX10_ring_67 rfl ?_
                  refine g_iload_n (q := 71) dX10_ring_70 rfl rfl rfl ?_
                  refine g_bipush (v := nI 10) (q := 73) dX10_ring_71 rfl kb_10 ?_
                  refine g_isubN (q := 74) dX10_ring_73 rfl (by omega) ?_
                  refine g_iald (v := nI ((updn b3 6 b2) 4)) 5 rfl (ixIn (j := 4) rfl (by omega) (by decide)) (ixV (j := 4) rfl (by omega)) (q := 75) dX10_ring_74 rfl ?_
                  refine g_top (y := nI (b3 4)) (congrArg nI (updn_n (by decide))) ?_
                  refine g_goto (q := 79) dX10_ring_75 (by decide) ?_
                  refine g_iret (st := []) dX10_ring_79 rfl rfl rfl ?_
                  exact ⟨q2, updn b3 6 b2, hq2.1, xr (by simp only [opRing, hk]; rw [if_neg (by decide), if_pos (by omega)])⟩
              · omega
            · omega
          · have hb0 : b1 = 0 := (szI_0 hb1).mp c30
            refine g_iconst (v := (-1)) (q := 34) dX10_ring_33 rfl ki_m1 ?_
            refine g_iret (st := []) dX10_ring_34 rfl rfl rfl ?_
            exact ⟨q2, updn b3 6 b2, hq2.1, xr (by simp only [opRing, hk]; rw [if_neg (by decide), if_neg (by omega)])⟩
        · omega
    · skip
      refine g_iload_n (q := 1) dX10_ring_0 rfl rfl rfl ?_
      refine g_iconst (v := nI 0) (q := 2) dX10_ring_1 rfl ki_0 ?_
      refine g_iconst (v := nI 1) (q := 3) dX10_ring_2 rfl ki_1 ?_
      refine gc_X10_73 (c_in) rfl (Nat.le_of_ble_eq_true rfl) rfl [] rfl rfl (rest := []) rfl (Nat.le_of_ble_eq_true rfl) (q := 6) dX10_ring_3 rfl (exK (ws' := [_, _, _, _, _, _]) (st' := [.int (bI (!ninB (nI (15)) (nI 0) (nI 1)))]) rfl rfl ?_)
      refine g_top (y := nI 0) (by decide) ?_
      refine g_if_neN (t := 23) (q := 9) dX10_ring_6 (by decide) rfl (by omega) (fun c6 => ?_) (fun c6 => ?_)
      · omega
      · skip
        refine g_iload_n (q := 10) dX10_ring_9 rfl rfl rfl ?_
        refine g_bipush (v := nI 10) (q := 12) dX10_ring_10 rfl kb_10 ?_
        refine g_bipush (v := nI 15) (q := 14) dX10_ring_12 rfl kb_15 ?_
        refine gc_X10_73 (c_in) rfl (Nat.le_of_ble_eq_true rfl) rfl [] rfl rfl (rest := []) rfl (Nat.le_of_ble_eq_true rfl) (q := 17) dX10_ring_14 rfl (exK (ws' := [_, _, _, _, _, _]) (st' := [.int (bI (!ninB (nI (15)) (nI 10) (nI 15)))]) rfl rfl ?_)
        refine g_top (y := nI 1) (by decide) ?_
        refine g_if_neN (t := 23) (q := 20) dX10_ring_17 (by decide) rfl (by omega) (fun c17 => ?_) (fun c17 => ?_)
        · skip
          refine g_aload_n (q := 24) dX10_ring_23 rfl rfl rfl ?_
          refine gc_X10_238 (c_findRing (by omega) hnt hnb hr0 hkd htw hwt hrt) rfl (Nat.le_of_ble_eq_true rfl) rfl 0 rfl [0, 1, 2, 3, 4, 5] rfl rfl (rest := []) rfl (Nat.le_of_ble_eq_true rfl) (q := 27) dX10_ring_24 rfl (exKPM rfl (fun q2 hq2 => ?_))
          refine g_eq (ws' := [(m0, .inr (10, (.int (nI (nt)) :: .ref mt :: .int (nI (nb)) :: .ref mk :: .ref mb :: .int (nI (lw)) :: .int (nI (sl)) :: .int (nI (tl)) :: .ref mx :: .int (po) :: .int (ta) :: .long (tk) :: .int (dg) :: .int (nu) :: .int (fa) :: .int (rm_) :: .int (rto) :: .int (rbo) :: .ref mr :: .ref mn :: .ref ma :: .ref mi :: .ref mj :: .int (nI (en)) :: .ref mg :: .int (nI (sn)) :: .ref ms :: .int (nI (dn)) :: .ref md :: .ref mc :: .ref me :: .int (ga) :: .ref mh :: .ref mo :: .ref mw :: []))), (mk, .inl (E.2.1.1, 10, .inl (nA (kd)))), (mt, .inl (E.2.1.1, 30, .inl (townF cr rt fd wn nx))), (mn, .inl (E.2.1.1, 47, .inl (nowF tw wt sk gr ch yr))), (mc, .inl (E.2.1.1, 7, .inl (rwF (q2)))), (me, .inl (E.2.1.1, 7, .inl (nA (updn (dfsV (okR tw sk wn) (visR tw sk wn (worN kd tw wt rt)) nb nt nt (fun _ => 0) (0, 0, be)).2.2 6 (dfsV (okR tw sk wn) (visR tw sk wn (worN kd tw wt rt)) nb nt nt (fun _ => 0) (0, 0, be)).2.1))))]) (st' := [.int (szI (dfsV (okR tw sk wn) (visR tw sk wn (worN kd tw wt rt)) nb nt nt (fun _ => 0) (0, 0, be)).1)]) ?_ rfl rfl rfl
          generalize hDF : (dfsV (okR tw sk wn) (visR tw sk wn (worN kd tw wt rt)) nb nt nt (fun _ => 0) (0, 0, be)) = B at hq2 ⊢
          obtain ⟨b1, b2, b3⟩ := B
          have hb1 := hq2.2.1
          simp only at hb1
          show G E _ [(m0, .inr (10, (.int (nI (nt)) :: .ref mt :: .int (nI (nb)) :: .ref mk :: .ref mb :: .int (nI (lw)) :: .int (nI (sl)) :: .int (nI (tl)) :: .ref mx :: .int (po) :: .int (ta) :: .long (tk) :: .int (dg) :: .int (nu) :: .int (fa) :: .int (rm_) :: .int (rto) :: .int (rbo) :: .ref mr :: .ref mn :: .ref ma :: .ref mi :: .ref mj :: .int (nI (en)) :: .ref mg :: .int (nI (sn)) :: .ref ms :: .int (nI (dn)) :: .ref md :: .ref mc :: .ref me :: .int (ga) :: .ref mh :: .ref mo :: .ref mw :: []))), (mk, .inl (E.2.1.1, 10, .inl (nA (kd)))), (mt, .inl (E.2.1.1, 30, .inl (townF cr rt fd wn nx))), (mn, .inl (E.2.1.1, 47, .inl (nowF tw wt sk gr ch yr))), (mc, .inl (E.2.1.1, 7, .inl (rwF (q2)))), (me, .inl (E.2.1.1, 7, .inl (nA (updn b3 6 b2))))] 27 [(0, .ref m0), (1, .int (nI (15)))] [.int (szI b1)]
          refine g_istore_n (lv' := [(0, _), (1, _), (2, _)]) (q := 28) dX10_ring_27 rfl rfl (Nat.le_of_ble_eq_true rfl) rfl ?_
          refine g_iload_n (q := 29) dX10_ring_28 rfl rfl rfl ?_
          refine g_iconst (v := (-1)) (q := 30) dX10_ring_29 rfl ki_m1 ?_
          refine g_icmp_ne (t := 35) (q := 33) dX10_ring_30 (by decide) rfl (fun c30 => ?_) (fun c30 => ?_)
          · have hb0 : ¬ b1 = 0 := fun z => c30 ((szI_0 hb1).mpr z)
            refine g_eq (lv' := [(0, .ref m0), (1, .int (nI (15))), (2, .int (nI (b1)))]) ?_ rfl (by rw [szI_n hb0]) rfl
            refine g_iload_n (q := 36) dX10_ring_35 rfl rfl rfl ?_
            refine g_if_neN (t := 49) (q := 39) dX10_ring_36 (by decide) rfl (by omega) (fun c36 => ?_) (fun c36 => ?_)
            · skip
              refine g_iload_n (q := 50) dX10_ring_49 rfl rfl rfl ?_
              refine g_iconst (v := nI 1) (q := 51) dX10_ring_50 rfl ki_1 ?_
              refine g_icmp_neN (t := 58) (q := 54) dX10_ring_51 (by decide) rfl (by omega) (by omega) (fun c51 => ?_) (fun c51 => ?_)
              · skip
                refine g_iload_n (q := 59) dX10_ring_58 rfl rfl rfl ?_
                refine g_bipush (v := nI 10) (q := 61) dX10_ring_59 rfl kb_10 ?_
                refine g_isubN (q := 62) dX10_ring_61 rfl (by omega) ?_
                refine g_iload_n (q := 63) dX10_ring_62 rfl rfl rfl ?_
                refine g_icmp_geN (t := 78) (q := 66) dX10_ring_63 (by decide) rfl (by omega) (by omega) (fun c63 => ?_) (fun c63 => ?_)
                · skip
                  refine g_iconst (v := (-1)) (q := 79) dX10_ring_78 rfl ki_m1 ?_
                  refine g_iret (st := []) dX10_ring_79 rfl rfl rfl ?_
                  exact ⟨q2, updn b3 6 b2, hq2.1, xr (by simp only [opRing, hk]; rw [if_neg (by decide), if_neg (by omega)])⟩
                · skip
                  refine g_aload_n (q := 67) dX10_ring_66 rfl rfl rfl ?_
                  refine gf_X10_54 rfl 0 rfl rfl (q := 70) dX10_ring_67 rfl ?_
                  refine g_iload_n (q := 71) dX10_ring_70 rfl rfl rfl ?_
                  refine g_bipush (v := nI 10) (q := 73) dX10_ring_71 rfl kb_10 ?_
                  refine g_isubN (q := 74) dX10_ring_73 rfl (by omega) ?_
                  refine g_iald (v := nI ((updn b3 6 b2) 5)) 5 rfl (ixIn (j := 5) rfl (by omega) (by decide)) (ixV (j := 5) rfl (by omega)) (q := 75) dX10_ring_74 rfl ?_
                  refine g_top (y := nI (b3 5)) (congrArg nI (updn_n (by decide))) ?_
                  refine g_goto (q := 79) dX10_ring_75 (by decide) ?_
                  refine g_iret (st := []) dX10_ring_79 rfl rfl rfl ?_
                  exact ⟨q2, updn b3 6 b2, hq2.1, xr (by simp only [opRing, hk]; rw [if_neg (by decide), if_pos (by omega)])⟩
              · omega
            · omega
          · have hb0 : b1 = 0 := (szI_0 hb1).mp c30
            refine g_iconst (v := (-1)) (q := 34) dX10_ring_33 rfl ki_m1 ?_
            refine g_iret (st := []) dX10_ring_34 rfl rfl rfl ?_
            exact ⟨q2, updn b3 6 b2, hq2.1, xr (by simp only [opRing, hk]; rw [if_neg (by decide), if_neg (by omega)])⟩
        · omega
