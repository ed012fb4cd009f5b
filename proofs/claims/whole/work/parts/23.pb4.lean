set_option maxHeartbeats 2000000 in
set_option maxRecDepth 20000 in
theorem c_sadd {E : EN} {c0 c1 c2 c3 sn t b w : Nat} {st_ sb sw : Nat → Nat} (hn : sn < 12) : CT E yX7_add cX7_add 4 (none) 0 [.ref c0, .int (nI (t)), .int (nI (b)), .int (nI (w))] [(c0, .inr (7, [.int (nI (sn)), .ref c1, .ref c2, .ref c3])), (c1, .inl (E.2.1.1, 12, .inl (nA (st_)))), (c2, .inl (E.2.1.1, 12, .inl (nA (sb)))), (c3, .inl (E.2.1.1, 12, .inl (nA (sw))))] (xQ none [(c0, .inr (7, [.int (nI (sn + 1)), .ref c1, .ref c2, .ref c3])), (c1, .inl (E.2.1.1, 12, .inl (nA (updn st_ sn t)))), (c2, .inl (E.2.1.1, 12, .inl (nA (updn sb sn b)))), (c3, .inl (E.2.1.1, 12, .inl (nA (updn sw sn w))))]) := by
  refine ct_of (by decide +kernel) (Nat.le_of_ble_eq_true rfl) (lv := [(0, .ref c0), (1, .int (nI (t))), (2, .int (nI (b))), (3, .int (nI (w)))]) rfl (fun A => ?_)
  refine g_aload_n (q := 1) dX7_add_0 rfl rfl rfl ?_
  refine gf_X7_21 rfl 0 rfl rfl (q := 4) dX7_add_1 rfl ?_
  refine g_bipush (v := nI 12) (q := 6) dX7_add_4 rfl kb_12 ?_
  refine g_icmp_geN (t := 49) (q := 9) dX7_add_6 (by decide) rfl (by omega) (by omega) (fun c6 => ?_) (fun c6 => ?_)
  · omega
  · skip
    refine g_aload_n (q := 10) dX7_add_9 rfl rfl rfl ?_
    refine gf_X7_9 rfl 0 rfl rfl (q := 13) dX7_add_10 rfl ?_
    refine g_aload_n (q := 14) dX7_add_13 rfl rfl rfl ?_
    refine gf_X7_21 rfl 0 rfl rfl (q := 17) dX7_add_14 rfl ?_
    refine g_iload_n (q := 18) dX7_add_17 rfl rfl rfl ?_
    refine g_iast (f' := (nA (updn st_ sn t))) 1 rfl (ixIn (j := sn) rfl (by omega) (by decide)) (ixUn (j := sn) rfl (by omega)) (ws' := [_, (_, .inl (_, _, .inl _)), _, _]) rfl (q := 19) dX7_add_18 rfl ?_
    refine g_aload_n (q := 20) dX7_add_19 rfl rfl rfl ?_
    refine gf_X7_15 rfl 0 rfl rfl (q := 23) dX7_add_20 rfl ?_
    refine g_aload_n (q := 24) dX7_add_23 rfl rfl rfl ?_
    refine gf_X7_21 rfl 0 rfl rfl (q := 27) dX7_add_24 rfl ?_
    refine g_iload_n (q := 28) dX7_add_27 rfl rfl rfl ?_
    refine g_iast (f' := (nA (updn sb sn b))) 2 rfl (ixIn (j := sn) rfl (by omega) (by decide)) (ixUn (j := sn) rfl (by omega)) (ws' := [_, _, (_, .inl (_, _, .inl _)), _]) rfl (q := 29) dX7_add_28 rfl ?_
    refine g_aload_n (q := 30) dX7_add_29 rfl rfl rfl ?_
    refine gf_X7_18 rfl 0 rfl rfl (q := 33) dX7_add_30 rfl ?_
    refine g_aload_n (q := 34) dX7_add_33 rfl rfl rfl ?_
    refine gf_X7_21 rfl 0 rfl rfl (q := 37) dX7_add_34 rfl ?_
    refine g_iload_n (q := 38) dX7_add_37 rfl rfl rfl ?_
    refine g_iast (f' := (nA (updn sw sn w))) 3 rfl (ixIn (j := sn) rfl (by omega) (by decide)) (ixUn (j := sn) rfl (by omega)) (ws' := [_, _, _, (_, .inl (_, _, .inl _))]) rfl (q := 39) dX7_add_38 rfl ?_
    refine g_aload_n (q := 40) dX7_add_39 rfl rfl rfl ?_
    refine g_dup (q := 41) dX7_add_40 rfl rfl ?_
    refine gf_X7_21 rfl 0 rfl rfl (q := 44) dX7_add_41 rfl ?_
    refine g_iconst (v := nI 1) (q := 45) dX7_add_44 rfl ki_1 ?_
    refine g_iaddN (q := 46) dX7_add_45 rfl ?_
    refine pf_X7_21 rfl 0 rfl (Nat.le_of_ble_eq_true rfl) (ws' := [(_, .inr (_, [_, _, _, _])), _, _, _]) rfl (q := 49) dX7_add_46 rfl ?_
    refine g_vret (st := []) dX7_add_49 rfl rfl ?_
    exact xv
set_option maxHeartbeats 2000000 in
set_option maxRecDepth 20000 in
theorem c_radd {E : EN} {d0 d1 d2 d3 d4 dn w c : Nat} {dw dc : Nat → Nat} (hn : dn < 6) : CT E yX6_add cX6_add 3 (none) 0 [.ref d0, .int (nI (w)), .int (nI (c))] [(d0, .inr (6, [.int (nI (dn)), .ref d1, .ref d2, .ref d3, .ref d4])), (d1, .inl (E.2.1.1, 6, .inl (nA (dw)))), (d2, .inl (E.2.1.1, 6, .inl (nA (dc))))] (xQ none [(d0, .inr (6, [.int (nI (dn + 1)), .ref d1, .ref d2, .ref d3, .ref d4])), (d1, .inl (E.2.1.1, 6, .inl (nA (updn dw dn w)))), (d2, .inl (E.2.1.1, 6, .inl (nA (updn dc dn c))))]) := by
  refine ct_of (by decide +kernel) (Nat.le_of_ble_eq_true rfl) (lv := [(0, .ref d0), (1, .int (nI (w))), (2, .int (nI (c)))]) rfl (fun A => ?_)
  refine g_aload_n (q := 1) dX6_add_0 rfl rfl rfl ?_
  refine gf_X6_24 rfl 0 rfl rfl (q := 4) dX6_add_1 rfl ?_
  refine g_bipush (v := nI 6) (q := 6) dX6_add_4 rfl kb_6 ?_
  refine g_icmp_geN (t := 39) (q := 9) dX6_add_6 (by decide) rfl (by omega) (by omega) (fun c6 => ?_) (fun c6 => ?_)
  · omega
  · skip
    refine g_aload_n (q := 10) dX6_add_9 rfl rfl rfl ?_
    refine gf_X6_9 rfl 0 rfl rfl (q := 13) dX6_add_10 rfl ?_
    refine g_aload_n (q := 14) dX6_add_13 rfl rfl rfl ?_
    refine gf_X6_24 rfl 0 rfl rfl (q := 17) dX6_add_14 rfl ?_
    refine g_iload_n (q := 18) dX6_add_17 rfl rfl rfl ?_
    refine g_iast (f' := (nA (updn dw dn w))) 1 rfl (ixIn (j := dn) rfl (by omega) (by decide)) (ixUn (j := dn) rfl (by omega)) (ws' := [_, (_, .inl (_, _, .inl _)), _]) rfl (q := 19) dX6_add_18 rfl ?_
    refine g_aload_n (q := 20) dX6_add_19 rfl rfl rfl ?_
    refine gf_X6_15 rfl 0 rfl rfl (q := 23) dX6_add_20 rfl ?_
    refine g_aload_n (q := 24) dX6_add_23 rfl rfl rfl ?_
    refine gf_X6_24 rfl 0 rfl rfl (q := 27) dX6_add_24 rfl ?_
    refine g_iload_n (q := 28) dX6_add_27 rfl rfl rfl ?_
    refine g_iast (f' := (nA (updn dc dn c))) 2 rfl (ixIn (j := dn) rfl (by omega) (by decide)) (ixUn (j := dn) rfl (by omega)) (ws' := [_, _, (_, .inl (_, _, .inl _))]) rfl (q := 29) dX6_add_28 rfl ?_
    refine g_aload_n (q := 30) dX6_add_29 rfl rfl rfl ?_
    refine g_dup (q := 31) dX6_add_30 rfl rfl ?_
    refine gf_X6_24 rfl 0 rfl rfl (q := 34) dX6_add_31 rfl ?_
    refine g_iconst (v := nI 1) (q := 35) dX6_add_34 rfl ki_1 ?_
    refine g_iaddN (q := 36) dX6_add_35 rfl ?_
    refine pf_X6_24 rfl 0 rfl (Nat.le_of_ble_eq_true rfl) (ws' := [(_, .inr (_, [_, _, _, _, _])), _, _]) rfl (q := 39) dX6_add_36 rfl ?_
    refine g_vret (st := []) dX6_add_39 rfl rfl ?_
    exact xv
set_option maxHeartbeats 2000000 in
set_option maxRecDepth 20000 in
theorem c_weigh {E : EN} {p0 u0 l0 r0 f0 kp ik x0 s0 q0 g0 b0 ora c0 d0 : Nat} {fk ft fw fs fg fc nb yr : Nat} {lc lr lf lv ln t0 nt lw sl : Nat} {c1 c2 c3 sn : Nat} {st_ sb sw : Nat → Nat} {x y z : Int32} (hn : sn ≤ 12) (hnb : nb ≤ 10) (hnt : nt ≤ 6)  : CT E yX9_weigh cX9_weigh 4 (some .int) 2 [.ref p0, .int (x), .int (y), .int (z)] [(p0, .inr (9, [.ref u0, .ref l0, .ref r0, .ref f0, .ref kp, .ref ik, .ref x0, .ref s0, .ref q0, .ref g0, .ref b0, .ref ora, .ref c0, .ref d0])), (l0, .inr (3, [.int (nI (nt)), .int (nI (lw)), .int (nI (sl)), .ref lc, .ref lr, .ref lf, .ref lv, .ref ln, .ref t0])), (f0, .inr (2, [.int (nI (nb)), .int (nI (yr)), .ref fk, .ref ft, .ref fw, .ref fs, .ref fg, .ref fc])), (c0, .inr (7, [.int (nI (sn)), .ref c1, .ref c2, .ref c3])), (c1, .inl (E.2.1.1, 12, .inl (nA (st_)))), (c2, .inl (E.2.1.1, 12, .inl (nA (sb)))), (c3, .inl (E.2.1.1, 12, .inl (nA (sw))))] (xQ (some (.int (opWeigh nt nb sn st_ sb sw x y z).1)) [(p0, .inr (9, [.ref u0, .ref l0, .ref r0, .ref f0, .ref kp, .ref ik, .ref x0, .ref s0, .ref q0, .ref g0, .ref b0, .ref ora, .ref c0, .ref d0])), (l0, .inr (3, [.int (nI (nt)), .int (nI (lw)), .int (nI (sl)), .ref lc, .ref lr, .ref lf, .ref lv, .ref ln, .ref t0])), (f0, .inr (2, [.int (nI (nb)), .int (nI (yr)), .ref fk, .ref ft, .ref fw, .ref fs, .ref fg, .ref fc])), (c0, .inr (7, [.int (nI ((opWeigh nt nb sn st_ sb sw x y z).2.1)), .ref c1, .ref c2, .ref c3])), (c1, .inl (E.2.1.1, 12, .inl (nA ((opWeigh nt nb sn st_ sb sw x y z).2.2.1)))), (c2, .inl (E.2.1.1, 12, .inl (nA ((opWeigh nt nb sn st_ sb sw x y z).2.2.2.1)))), (c3, .inl (E.2.1.1, 12, .inl (nA ((opWeigh nt nb sn st_ sb sw x y z).2.2.2.2))))]) := by
  refine ct_of (by decide +kernel) (Nat.le_of_ble_eq_true rfl) (lv := [(0, .ref p0), (1, .int (x)), (2, .int (y)), (3, .int (z))]) rfl (fun A => ?_)
  refine g_aload_n (q := 1) dX9_weigh_0 rfl rfl rfl ?_
  refine g_iload_n (q := 2) dX9_weigh_1 rfl rfl rfl ?_
  refine gc_X9_135 (c_isNoTown (by omega)) rfl (Nat.le_of_ble_eq_true rfl) rfl 0 rfl [0, 1] rfl rfl (rest := []) rfl (Nat.le_of_ble_eq_true rfl) (q := 5) dX9_weigh_2 rfl (exK (ws' := [_, _, _, _, _, _, _]) (st' := [.int (bI (tn x nt).isNone)]) rfl rfl ?_)
  refine g_if_ne (t := 16) (q := 8) dX9_weigh_5 (by decide) rfl (fun c5 => ?_) (fun c5 => ?_)
  · have nt := isNone_t (bI_ne0.mp c5)
    refine g_bipush (v := (-2)) (q := 18) dX9_weigh_16 rfl kb_m2 ?_
    refine g_iret (st := []) dX9_weigh_18 rfl rfl rfl ?_
    simp only [opWeigh, nt]
    exact ⟨rfl, rfl⟩
  · obtain ⟨t, ht⟩ := isNone_f (bI_eq0.mp c5)
    obtain ⟨ht1, rfl⟩ := tn_some ht
    refine g_aload_n (q := 9) dX9_weigh_8 rfl rfl rfl ?_
    refine g_iload_n (q := 10) dX9_weigh_9 rfl rfl rfl ?_
    refine gc_X9_162 (c_isNoBoy (by omega)) rfl (Nat.le_of_ble_eq_true rfl) rfl 0 rfl [0, 2] rfl rfl (rest := []) rfl (Nat.le_of_ble_eq_true rfl) (q := 13) dX9_weigh_10 rfl (exK (ws' := [_, _, _, _, _, _, _]) (st' := [.int (bI (tn y nb).isNone)]) rfl rfl ?_)
    refine g_if_eq (t := 19) (q := 16) dX9_weigh_13 (by decide) rfl (fun c13 => ?_) (fun c13 => ?_)
    · obtain ⟨b, hb⟩ := isNone_f (bI_eq0.mp c13)
      obtain ⟨hb1, rfl⟩ := tn_some hb
      refine g_iload_n (q := 20) dX9_weigh_19 rfl rfl rfl ?_
      refine g_iconst (v := nI 0) (q := 21) dX9_weigh_20 rfl ki_0 ?_
      refine g_sipush (v := nI 199) (q := 24) dX9_weigh_21 rfl ks_199 ?_
      refine gc_X9_187 (c_isNotIn) rfl (Nat.le_of_ble_eq_true rfl) rfl [] rfl rfl (rest := []) rfl (Nat.le_of_ble_eq_true rfl) (q := 27) dX9_weigh_24 rfl (exK (ws' := [_, _, _, _, _, _, _]) (st' := [.int (bI (ninB z (nI 0) (nI 199)))]) rfl rfl ?_)
      refine g_top (y := bI (rn z 0 199).isNone) (by rw [ninB_rn (by decide) (by decide)]) ?_
      refine g_if_eq (t := 33) (q := 30) dX9_weigh_27 (by decide) rfl (fun c27 => ?_) (fun c27 => ?_)
      · obtain ⟨w, hw⟩ := isNone_f (bI_eq0.mp c27)
        obtain ⟨hw1, hw2, rfl⟩ := rn_some hw
        refine g_aload_n (q := 34) dX9_weigh_33 rfl rfl rfl ?_
        refine gf_X9_83 rfl 0 rfl rfl (q := 37) dX9_weigh_34 rfl ?_
        refine gf_X9_133 rfl 3 rfl rfl (q := 40) dX9_weigh_37 rfl ?_
        refine g_bipush (v := nI 12) (q := 42) dX9_weigh_40 rfl kb_12 ?_
        refine g_icmp_ltN (t := 48) (q := 45) dX9_weigh_42 (by decide) rfl (by omega) (by omega) (fun c42 => ?_) (fun c42 => ?_)
        · skip
          refine g_aload_n (q := 49) dX9_weigh_48 rfl rfl rfl ?_
          refine gf_X9_83 rfl 0 rfl rfl (q := 52) dX9_weigh_49 rfl ?_
          refine g_iload_n (q := 53) dX9_weigh_52 rfl rfl rfl ?_
          refine g_iload_n (q := 54) dX9_weigh_53 rfl rfl rfl ?_
          refine g_iload_n (q := 55) dX9_weigh_54 rfl rfl rfl ?_
          refine gc_X9_266 (c_sadd (by omega)) rfl (Nat.le_of_ble_eq_true rfl) rfl 3 rfl [3, 4, 5, 6] rfl rfl (rest := []) rfl (Nat.le_of_ble_eq_true rfl) (q := 58) dX9_weigh_55 rfl (exK (ws' := [_, _, _, (_, .inr (_, [_, _, _, _])), (_, .inl (_, _, .inl _)), (_, .inl (_, _, .inl _)), (_, .inl (_, _, .inl _))]) (st' := []) rfl rfl ?_)
          refine g_aload_n (q := 59) dX9_weigh_58 rfl rfl rfl ?_
          refine gf_X9_83 rfl 0 rfl rfl (q := 62) dX9_weigh_59 rfl ?_
          refine gf_X9_133 rfl 3 rfl rfl (q := 65) dX9_weigh_62 rfl ?_
          refine g_iret (st := []) dX9_weigh_65 rfl rfl rfl ?_
          simp only [opWeigh, ht, hb, hw, if_neg (show ¬ 12 ≤ sn by omega)]
          exact ⟨rfl, rfl⟩
        · skip
          refine g_bipush (v := (-5)) (q := 47) dX9_weigh_45 rfl kb_m5 ?_
          refine g_iret (st := []) dX9_weigh_47 rfl rfl rfl ?_
          simp only [opWeigh, ht, hb, hw, if_pos (show 12 ≤ sn by omega)]
          exact ⟨rfl, rfl⟩
      · have nw := isNone_t (bI_ne0.mp c27)
        refine g_bipush (v := (-3)) (q := 32) dX9_weigh_30 rfl kb_m3 ?_
        refine g_iret (st := []) dX9_weigh_32 rfl rfl rfl ?_
        simp only [opWeigh, ht, hb, nw]
        exact ⟨rfl, rfl⟩
    · have nb := isNone_t (bI_ne0.mp c13)
      refine g_bipush (v := (-2)) (q := 18) dX9_weigh_16 rfl kb_m2 ?_
      refine g_iret (st := []) dX9_weigh_18 rfl rfl rfl ?_
      simp only [opWeigh, ht, nb]
      exact ⟨rfl, rfl⟩
set_option maxHeartbeats 2000000 in
set_option maxRecDepth 20000 in
theorem c_road {E : EN} {p0 u0 l0 r0 f0 kp ik x0 s0 q0 g0 b0 ora c0 d0 : Nat} {d1 d2 d3 d4 dn : Nat} {dw dc : Nat → Nat} {x y : Int32} (hn : dn ≤ 6) : CT E yX9_road cX9_road 3 (some .int) 1 [.ref p0, .int (x), .int (y)] [(p0, .inr (9, [.ref u0, .ref l0, .ref r0, .ref f0, .ref kp, .ref ik, .ref x0, .ref s0, .ref q0, .ref g0, .ref b0, .ref ora, .ref c0, .ref d0])), (d0, .inr (6, [.int (nI (dn)), .ref d1, .ref d2, .ref d3, .ref d4])), (d1, .inl (E.2.1.1, 6, .inl (nA (dw)))), (d2, .inl (E.2.1.1, 6, .inl (nA (dc))))] (xQ (some (.int (opRoad dn dw dc x y).1)) [(p0, .inr (9, [.ref u0, .ref l0, .ref r0, .ref f0, .ref kp, .ref ik, .ref x0, .ref s0, .ref q0, .ref g0, .ref b0, .ref ora, .ref c0, .ref d0])), (d0, .inr (6, [.int (nI ((opRoad dn dw dc x y).2.1)), .ref d1, .ref d2, .ref d3, .ref d4])), (d1, .inl (E.2.1.1, 6, .inl (nA ((opRoad dn dw dc x y).2.2.1)))), (d2, .inl (E.2.1.1, 6, .inl (nA ((opRoad dn dw dc x y).2.2.2))))]) := by
  refine ct_of (by decide +kernel) (Nat.le_of_ble_eq_true rfl) (lv := [(0, .ref p0), (1, .int (x)), (2, .int (y))]) rfl (fun A => ?_)
  refine g_iload_n (q := 1) dX9_road_0 rfl rfl rfl ?_
  refine g_iconst (v := nI 1) (q := 2) dX9_road_1 rfl ki_1 ?_
  refine g_bipush (v := nI 99) (q := 4) dX9_road_2 rfl kb_99 ?_
  refine gc_X9_187 (c_isNotIn) rfl (Nat.le_of_ble_eq_true rfl) rfl [] rfl rfl (rest := []) rfl (Nat.le_of_ble_eq_true rfl) (q := 7) dX9_road_4 rfl (exK (ws' := [_, _, _, _]) (st' := [.int (bI (ninB x (nI 1) (nI 99)))]) rfl rfl ?_)
  refine g_top (y := bI (rn x 1 99).isNone) (by rw [ninB_rn (by decide) (by decide)]) ?_
  refine g_if_ne (t := 19) (q := 10) dX9_road_7 (by decide) rfl (fun c7 => ?_) (fun c7 => ?_)
  · have nw := isNone_t (bI_ne0.mp c7)
    refine g_bipush (v := (-3)) (q := 21) dX9_road_19 rfl kb_m3 ?_
    refine g_iret (st := []) dX9_road_21 rfl rfl rfl ?_
    simp only [opRoad, nw]
    exact ⟨rfl, rfl⟩
  · obtain ⟨w, hw⟩ := isNone_f (bI_eq0.mp c7)
    obtain ⟨hw1, hw2, rfl⟩ := rn_some hw
    refine g_iload_n (q := 11) dX9_road_10 rfl rfl rfl ?_
    refine g_iconst (v := nI 0) (q := 12) dX9_road_11 rfl ki_0 ?_
    refine g_iconst (v := nI 3) (q := 13) dX9_road_12 rfl ki_3 ?_
    refine gc_X9_187 (c_isNotIn) rfl (Nat.le_of_ble_eq_true rfl) rfl [] rfl rfl (rest := []) rfl (Nat.le_of_ble_eq_true rfl) (q := 16) dX9_road_13 rfl (exK (ws' := [_, _, _, _]) (st' := [.int (bI (ninB y (nI 0) (nI 3)))]) rfl rfl ?_)
    refine g_top (y := bI (rn y 0 3).isNone) (by rw [ninB_rn (by decide) (by decide)]) ?_
    refine g_if_eq (t := 22) (q := 19) dX9_road_16 (by decide) rfl (fun c16 => ?_) (fun c16 => ?_)
    · obtain ⟨c, hc⟩ := isNone_f (bI_eq0.mp c16)
      obtain ⟨hc1, hc2, rfl⟩ := rn_some hc
      refine g_aload_n (q := 23) dX9_road_22 rfl rfl rfl ?_
      refine gf_X9_90 rfl 0 rfl rfl (q := 26) dX9_road_23 rfl ?_
      refine gf_X9_134 rfl 1 rfl rfl (q := 29) dX9_road_26 rfl ?_
      refine g_bipush (v := nI 6) (q := 31) dX9_road_29 rfl kb_6 ?_
      refine g_icmp_ltN (t := 37) (q := 34) dX9_road_31 (by decide) rfl (by omega) (by omega) (fun c31 => ?_) (fun c31 => ?_)
      · skip
        refine g_aload_n (q := 38) dX9_road_37 rfl rfl rfl ?_
        refine gf_X9_90 rfl 0 rfl rfl (q := 41) dX9_road_38 rfl ?_
        refine g_iload_n (q := 42) dX9_road_41 rfl rfl rfl ?_
        refine g_iload_n (q := 43) dX9_road_42 rfl rfl rfl ?_
        refine gc_X9_271 (c_radd (by omega)) rfl (Nat.le_of_ble_eq_true rfl) rfl 1 rfl [1, 2, 3] rfl rfl (rest := []) rfl (Nat.le_of_ble_eq_true rfl) (q := 46) dX9_road_43 rfl (exK (ws' := [_, (_, .inr (_, [_, _, _, _, _])), (_, .inl (_, _, .inl _)), (_, .inl (_, _, .inl _))]) (st' := []) rfl rfl ?_)
        refine g_aload_n (q := 47) dX9_road_46 rfl rfl rfl ?_
        refine gf_X9_90 rfl 0 rfl rfl (q := 50) dX9_road_47 rfl ?_
        refine gf_X9_134 rfl 1 rfl rfl (q := 53) dX9_road_50 rfl ?_
        refine g_iret (st := []) dX9_road_53 rfl rfl rfl ?_
        simp only [opRoad, hw, hc, if_neg (show ¬ 6 ≤ dn by omega)]
        exact ⟨rfl, rfl⟩
      · skip
        refine g_bipush (v := (-5)) (q := 36) dX9_road_34 rfl kb_m5 ?_
        refine g_iret (st := []) dX9_road_36 rfl rfl rfl ?_
        simp only [opRoad, hw, hc, if_pos (show 6 ≤ dn by omega)]
        exact ⟨rfl, rfl⟩
    · have nc := isNone_t (bI_ne0.mp c16)
      refine g_bipush (v := (-3)) (q := 21) dX9_road_19 rfl kb_m3 ?_
      refine g_iret (st := []) dX9_road_21 rfl rfl rfl ?_
      simp only [opRoad, hw, nc]
      exact ⟨rfl, rfl⟩
set_option maxHeartbeats 2000000 in
set_option maxRecDepth 20000 in
theorem c_keep {E : EN} {p0 u0 l0 r0 f0 kp ik x0 s0 q0 g0 b0 ora c0 d0 : Nat} {fk ft fw fs fg fc nb yr : Nat} {kd tw wt sk gr : Nat → Nat} {ch : Nat → Int32} {yk yt yw ys yg yc zk zt zw zs zg zc y0 z0 : Nat} {K0 K1 : KT} {x : Int32} : CT E yX9_keep cX9_keep 2 (some .int) 2 [.ref p0, .int (x)] [(p0, .inr (9, [.ref u0, .ref l0, .ref r0, .ref f0, .ref kp, .ref ik, .ref x0, .ref s0, .ref q0, .ref g0, .ref b0, .ref ora, .ref c0, .ref d0])), (kp, .inl (E.2.1.2.2.2, 2, .inr (.inr (.inr (.inr (kpF y0 z0)))))), (ik, .inl (E.2.1.2.2.1, 2, .inl (ikA (K0.1) (K1.1)))), (f0, .inr (2, [.int (nI (nb)), .int (nI (yr)), .ref fk, .ref ft, .ref fw, .ref fs, .ref fg, .ref fc])), (fk, .inl (E.2.1.1, 10, .inl (nA (kd)))), (ft, .inl (E.2.1.1, 10, .inl (nA (tw)))), (fw, .inl (E.2.1.1, 10, .inl (nA (wt)))), (fs, .inl (E.2.1.1, 10, .inl (nA (sk)))), (fg, .inl (E.2.1.1, 10, .inl (nA (gr)))), (fc, .inl (E.2.1.1, 6, .inl (ch))), (y0, .inr (2, [.int (nI (K0.2.1)), .int (nI (K0.2.2.1)), .ref yk, .ref yt, .ref yw, .ref ys, .ref yg, .ref yc])), (yk, .inl (E.2.1.1, 10, .inl (nA (K0.2.2.2.1)))), (yt, .inl (E.2.1.1, 10, .inl (nA (K0.2.2.2.2.1)))), (yw, .inl (E.2.1.1, 10, .inl (nA (K0.2.2.2.2.2.1)))), (ys, .inl (E.2.1.1, 10, .inl (nA (K0.2.2.2.2.2.2.1)))), (yg, .inl (E.2.1.1, 10, .inl (nA (K0.2.2.2.2.2.2.2.1)))), (yc, .inl (E.2.1.1, 6, .inl (K0.2.2.2.2.2.2.2.2))), (z0, .inr (2, [.int (nI (K1.2.1)), .int (nI (K1.2.2.1)), .ref zk, .ref zt, .ref zw, .ref zs, .ref zg, .ref zc])), (zk, .inl (E.2.1.1, 10, .inl (nA (K1.2.2.2.1)))), (zt, .inl (E.2.1.1, 10, .inl (nA (K1.2.2.2.2.1)))), (zw, .inl (E.2.1.1, 10, .inl (nA (K1.2.2.2.2.2.1)))), (zs, .inl (E.2.1.1, 10, .inl (nA (K1.2.2.2.2.2.2.1)))), (zg, .inl (E.2.1.1, 10, .inl (nA (K1.2.2.2.2.2.2.2.1)))), (zc, .inl (E.2.1.1, 6, .inl (K1.2.2.2.2.2.2.2.2)))] (xQ (some (.int (opKeep (nb, yr, kd, tw, wt, sk, gr, ch) K0 K1 x).1)) [(p0, .inr (9, [.ref u0, .ref l0, .ref r0, .ref f0, .ref kp, .ref ik, .ref x0, .ref s0, .ref q0, .ref g0, .ref b0, .ref ora, .ref c0, .ref d0])), (kp, .inl (E.2.1.2.2.2, 2, .inr (.inr (.inr (.inr (kpF y0 z0)))))), (ik, .inl (E.2.1.2.2.1, 2, .inl (ikA ((opKeep (nb, yr, kd, tw, wt, sk, gr, ch) K0 K1 x).2.1.1) ((opKeep (nb, yr, kd, tw, wt, sk, gr, ch) K0 K1 x).2.2.1)))), (f0, .inr (2, [.int (nI (nb)), .int (nI (yr)), .ref fk, .ref ft, .ref fw, .ref fs, .ref fg, .ref fc])), (fk, .inl (E.2.1.1, 10, .inl (nA (kd)))), (ft, .inl (E.2.1.1, 10, .inl (nA (tw)))), (fw, .inl (E.2.1.1, 10, .inl (nA (wt)))), (fs, .inl (E.2.1.1, 10, .inl (nA (sk)))), (fg, .inl (E.2.1.1, 10, .inl (nA (gr)))), (fc, .inl (E.2.1.1, 6, .inl (ch))), (y0, .inr (2, [.int (nI ((opKeep (nb, yr, kd, tw, wt, sk, gr, ch) K0 K1 x).2.1.2.1)), .int (nI ((opKeep (nb, yr, kd, tw, wt, sk, gr, ch) K0 K1 x).2.1.2.2.1)), .ref yk, .ref yt, .ref yw, .ref ys, .ref yg, .ref yc])), (yk, .inl (E.2.1.1, 10, .inl (nA ((opKeep (nb, yr, kd, tw, wt, sk, gr, ch) K0 K1 x).2.1.2.2.2.1)))), (yt, .inl (E.2.1.1, 10, .inl (nA ((opKeep (nb, yr, kd, tw, wt, sk, gr, ch) K0 K1 x).2.1.2.2.2.2.1)))), (yw, .inl (E.2.1.1, 10, .inl (nA ((opKeep (nb, yr, kd, tw, wt, sk, gr, ch) K0 K1 x).2.1.2.2.2.2.2.1)))), (ys, .inl (E.2.1.1, 10, .inl (nA ((opKeep (nb, yr, kd, tw, wt, sk, gr, ch) K0 K1 x).2.1.2.2.2.2.2.2.1)))), (yg, .inl (E.2.1.1, 10, .inl (nA ((opKeep (nb, yr, kd, tw, wt, sk, gr, ch) K0 K1 x).2.1.2.2.2.2.2.2.2.1)))), (yc, .inl (E.2.1.1, 6, .inl ((opKeep (nb, yr, kd, tw, wt, sk, gr, ch) K0 K1 x).2.1.2.2.2.2.2.2.2.2))), (z0, .inr (2, [.int (nI ((opKeep (nb, yr, kd, tw, wt, sk, gr, ch) K0 K1 x).2.2.2.1)), .int (nI ((opKeep (nb, yr, kd, tw, wt, sk, gr, ch) K0 K1 x).2.2.2.2.1)), .ref zk, .ref zt, .ref zw, .ref zs, .ref zg, .ref zc])), (zk, .inl (E.2.1.1, 10, .inl (nA ((opKeep (nb, yr, kd, tw, wt, sk, gr, ch) K0 K1 x).2.2.2.2.2.1)))), (zt, .inl (E.2.1.1, 10, .inl (nA ((opKeep (nb, yr, kd, tw, wt, sk, gr, ch) K0 K1 x).2.2.2.2.2.2.1)))), (zw, .inl (E.2.1.1, 10, .inl (nA ((opKeep (nb, yr, kd, tw, wt, sk, gr, ch) K0 K1 x).2.2.2.2.2.2.2.1)))), (zs, .inl (E.2.1.1, 10, .inl (nA ((opKeep (nb, yr, kd, tw, wt, sk, gr, ch) K0 K1 x).2.2.2.2.2.2.2.2.1)))), (zg, .inl (E.2.1.1, 10, .inl (nA ((opKeep (nb, yr, kd, tw, wt, sk, gr, ch) K0 K1 x).2.2.2.2.2.2.2.2.2.1)))), (zc, .inl (E.2.1.1, 6, .inl ((opKeep (nb, yr, kd, tw, wt, sk, gr, ch) K0 K1 x).2.2.2.2.2.2.2.2.2.2)))]) := by
  refine ct_of (by decide +kernel) (Nat.le_of_ble_eq_true rfl) (lv := [(0, .ref p0), (1, .int (x))]) rfl (fun A => ?_)
  refine g_iload_n (q := 1) dX9_keep_0 rfl rfl rfl ?_
  refine g_iconst (v := nI 0) (q := 2) dX9_keep_1 rfl ki_0 ?_
  refine g_iconst (v := nI 1) (q := 3) dX9_keep_2 rfl ki_1 ?_
  refine gc_X9_187 (c_isNotIn) rfl (Nat.le_of_ble_eq_true rfl) rfl [] rfl rfl (rest := []) rfl (Nat.le_of_ble_eq_true rfl) (q := 6) dX9_keep_3 rfl (exK (ws' := [_, _, _, _, _, _, _, _, _, _, _, _, _, _, _, _, _, _, _, _, _, _, _, _]) (st' := [.int (bI (ninB x (nI 0) (nI 1)))]) rfl rfl ?_)
  refine g_top (y := bI (rn x 0 1).isNone) (by rw [ninB_rn (by decide) (by decide)]) ?_
  refine g_if_eq (t := 12) (q := 9) dX9_keep_6 (by decide) rfl (fun c6 => ?_) (fun c6 => ?_)
  · obtain ⟨k, hk⟩ := isNone_f (bI_eq0.mp c6)
    obtain ⟨hk1, hk2, rfl⟩ := rn_some hk
    rcases (show k = 0 ∨ k = 1 by omega) with rfl | rfl
    · skip
      refine g_aload_n (q := 13) dX9_keep_12 rfl rfl rfl ?_
      refine gf_X9_39 rfl 0 rfl rfl (q := 16) dX9_keep_13 rfl ?_
      refine g_iload_n (q := 17) dX9_keep_16 rfl rfl rfl ?_
      refine g_aald (b := y0) 1 rfl (ixIn (j := 0) rfl (by decide) (by decide)) rfl (q := 18) dX9_keep_17 rfl ?_
      refine g_aload_n (q := 19) dX9_keep_18 rfl rfl rfl ?_
      refine gf_X9_35 rfl 0 rfl rfl (q := 22) dX9_keep_19 rfl ?_
      refine gc_X9_127 (c_become) rfl (Nat.le_of_ble_eq_true rfl) rfl 10 rfl [10, 11, 12, 13, 14, 15, 16, 3, 4, 5, 6, 7, 8, 9] rfl rfl (rest := []) rfl (Nat.le_of_ble_eq_true rfl) (q := 25) dX9_keep_22 rfl (exK (ws' := [_, _, _, (_, .inr (_, [_, _, _, _, _, _, _, _])), (_, .inl (_, _, .inl _)), (_, .inl (_, _, .inl _)), (_, .inl (_, _, .inl _)), (_, .inl (_, _, .inl _)), (_, .inl (_, _, .inl _)), (_, .inl (_, _, .inl _)), (_, .inr (_, [_, _, _, _, _, _, _, _])), (_, .inl (_, _, .inl _)), (_, .inl (_, _, .inl _)), (_, .inl (_, _, .inl _)), (_, .inl (_, _, .inl _)), (_, .inl (_, _, .inl _)), (_, .inl (_, _, .inl _)), _, _, _, _, _, _, _]) (st' := []) rfl rfl ?_)
      refine g_aload_n (q := 26) dX9_keep_25 rfl rfl rfl ?_
      refine gf_X9_43 rfl 0 rfl rfl (q := 29) dX9_keep_26 rfl ?_
      refine g_iload_n (q := 30) dX9_keep_29 rfl rfl rfl ?_
      refine g_iconst (v := nI 1) (q := 31) dX9_keep_30 rfl ki_1 ?_
      refine g_zast (f' := (ikA (true) (K1.1))) 2 rfl (ixIn (j := 0) rfl (by omega) (by decide)) (ikA_w0 K0.1 K1.1 true) (ws' := [_, _, (_, .inl (_, _, .inl _)), _, _, _, _, _, _, _, _, _, _, _, _, _, _, _, _, _, _, _, _, _]) rfl (q := 32) dX9_keep_31 rfl ?_
      refine g_aload_n (q := 33) dX9_keep_32 rfl rfl rfl ?_
      refine gf_X9_35 rfl 0 rfl rfl (q := 36) dX9_keep_33 rfl ?_
      refine gf_X9_238 rfl 3 rfl rfl (q := 39) dX9_keep_36 rfl ?_
      refine g_iret (st := []) dX9_keep_39 rfl rfl rfl ?_
      simp only [opKeep, hk, if_true, if_pos rfl, reduceIte, Nat.one_ne_zero, if_false]
      exact ⟨rfl, rfl⟩
    · skip
      refine g_aload_n (q := 13) dX9_keep_12 rfl rfl rfl ?_
      refine gf_X9_39 rfl 0 rfl rfl (q := 16) dX9_keep_13 rfl ?_
      refine g_iload_n (q := 17) dX9_keep_16 rfl rfl rfl ?_
      refine g_aald (b := z0) 1 rfl (ixIn (j := 1) rfl (by decide) (by decide)) rfl (q := 18) dX9_keep_17 rfl ?_
      refine g_aload_n (q := 19) dX9_keep_18 rfl rfl rfl ?_
      refine gf_X9_35 rfl 0 rfl rfl (q := 22) dX9_keep_19 rfl ?_
      refine gc_X9_127 (c_become) rfl (Nat.le_of_ble_eq_true rfl) rfl 17 rfl [17, 18, 19, 20, 21, 22, 23, 3, 4, 5, 6, 7, 8, 9] rfl rfl (rest := []) rfl (Nat.le_of_ble_eq_true rfl) (q := 25) dX9_keep_22 rfl (exK (ws' := [_, _, _, (_, .inr (_, [_, _, _, _, _, _, _, _])), (_, .inl (_, _, .inl _)), (_, .inl (_, _, .inl _)), (_, .inl (_, _, .inl _)), (_, .inl (_, _, .inl _)), (_, .inl (_, _, .inl _)), (_, .inl (_, _, .inl _)), _, _, _, _, _, _, _, (_, .inr (_, [_, _, _, _, _, _, _, _])), (_, .inl (_, _, .inl _)), (_, .inl (_, _, .inl _)), (_, .inl (_, _, .inl _)), (_, .inl (_, _, .inl _)), (_, .inl (_, _, .inl _)), (_, .inl (_, _, .inl _))]) (st' := []) rfl rfl ?_)
      refine g_aload_n (q := 26) dX9_keep_25 rfl rfl rfl ?_
      refine gf_X9_43 rfl 0 rfl rfl (q := 29) dX9_keep_26 rfl ?_
      refine g_iload_n (q := 30) dX9_keep_29 rfl rfl rfl ?_
      refine g_iconst (v := nI 1) (q := 31) dX9_keep_30 rfl ki_1 ?_
      refine g_zast (f' := (ikA (K0.1) (true))) 2 rfl (ixIn (j := 1) rfl (by omega) (by decide)) (ikA_w1 K0.1 K1.1 true) (ws' := [_, _, (_, .inl (_, _, .inl _)), _, _, _, _, _, _, _, _, _, _, _, _, _, _, _, _, _, _, _, _, _]) rfl (q := 32) dX9_keep_31 rfl ?_
      refine g_aload_n (q := 33) dX9_keep_32 rfl rfl rfl ?_
      refine gf_X9_35 rfl 0 rfl rfl (q := 36) dX9_keep_33 rfl ?_
      refine gf_X9_238 rfl 3 rfl rfl (q := 39) dX9_keep_36 rfl ?_
      refine g_iret (st := []) dX9_keep_39 rfl rfl rfl ?_
      simp only [opKeep, hk, if_true, if_pos rfl, reduceIte, Nat.one_ne_zero, if_false]
      exact ⟨rfl, rfl⟩
  · have nk := isNone_t (bI_ne0.mp c6)
    refine g_bipush (v := (-2)) (q := 11) dX9_keep_9 rfl kb_m2 ?_
    refine g_iret (st := []) dX9_keep_11 rfl rfl rfl ?_
    simp only [opKeep, nk, if_true, if_pos rfl, reduceIte, Nat.one_ne_zero, if_false]
    exact ⟨rfl, rfl⟩
set_option maxHeartbeats 2000000 in
set_option maxRecDepth 20000 in
theorem c_back {E : EN} {p0 u0 l0 r0 f0 kp ik x0 s0 q0 g0 b0 ora c0 d0 : Nat} {fk ft fw fs fg fc nb yr : Nat} {kd tw wt sk gr : Nat → Nat} {ch : Nat → Int32} {yk yt yw ys yg yc zk zt zw zs zg zc y0 z0 : Nat} {K0 K1 : KT} {xb xg en : Nat} {x : Int32} : CT E yX9_back cX9_back 2 (some .int) 2 [.ref p0, .int (x)] [(p0, .inr (9, [.ref u0, .ref l0, .ref r0, .ref f0, .ref kp, .ref ik, .ref x0, .ref s0, .ref q0, .ref g0, .ref b0, .ref ora, .ref c0, .ref d0])), (kp, .inl (E.2.1.2.2.2, 2, .inr (.inr (.inr (.inr (kpF y0 z0)))))), (ik, .inl (E.2.1.2.2.1, 2, .inl (ikA (K0.1) (K1.1)))), (f0, .inr (2, [.int (nI (nb)), .int (nI (yr)), .ref fk, .ref ft, .ref fw, .ref fs, .ref fg, .ref fc])), (fk, .inl (E.2.1.1, 10, .inl (nA (kd)))), (ft, .inl (E.2.1.1, 10, .inl (nA (tw)))), (fw, .inl (E.2.1.1, 10, .inl (nA (wt)))), (fs, .inl (E.2.1.1, 10, .inl (nA (sk)))), (fg, .inl (E.2.1.1, 10, .inl (nA (gr)))), (fc, .inl (E.2.1.1, 6, .inl (ch))), (y0, .inr (2, [.int (nI (K0.2.1)), .int (nI (K0.2.2.1)), .ref yk, .ref yt, .ref yw, .ref ys, .ref yg, .ref yc])), (yk, .inl (E.2.1.1, 10, .inl (nA (K0.2.2.2.1)))), (yt, .inl (E.2.1.1, 10, .inl (nA (K0.2.2.2.2.1)))), (yw, .inl (E.2.1.1, 10, .inl (nA (K0.2.2.2.2.2.1)))), (ys, .inl (E.2.1.1, 10, .inl (nA (K0.2.2.2.2.2.2.1)))), (yg, .inl (E.2.1.1, 10, .inl (nA (K0.2.2.2.2.2.2.2.1)))), (yc, .inl (E.2.1.1, 6, .inl (K0.2.2.2.2.2.2.2.2))), (z0, .inr (2, [.int (nI (K1.2.1)), .int (nI (K1.2.2.1)), .ref zk, .ref zt, .ref zw, .ref zs, .ref zg, .ref zc])), (zk, .inl (E.2.1.1, 10, .inl (nA (K1.2.2.2.1)))), (zt, .inl (E.2.1.1, 10, .inl (nA (K1.2.2.2.2.1)))), (zw, .inl (E.2.1.1, 10, .inl (nA (K1.2.2.2.2.2.1)))), (zs, .inl (E.2.1.1, 10, .inl (nA (K1.2.2.2.2.2.2.1)))), (zg, .inl (E.2.1.1, 10, .inl (nA (K1.2.2.2.2.2.2.2.1)))), (zc, .inl (E.2.1.1, 6, .inl (K1.2.2.2.2.2.2.2.2))), (x0, .inr (1, [.int (nI (en)), .ref xb, .ref xg]))] (xQ (some (.int (opBack (nb, yr, kd, tw, wt, sk, gr, ch) en K0 K1 x).1)) [(p0, .inr (9, [.ref u0, .ref l0, .ref r0, .ref f0, .ref kp, .ref ik, .ref x0, .ref s0, .ref q0, .ref g0, .ref b0, .ref ora, .ref c0, .ref d0])), (kp, .inl (E.2.1.2.2.2, 2, .inr (.inr (.inr (.inr (kpF y0 z0)))))), (ik, .inl (E.2.1.2.2.1, 2, .inl (ikA (K0.1) (K1.1)))), (f0, .inr (2, [.int (nI ((opBack (nb, yr, kd, tw, wt, sk, gr, ch) en K0 K1 x).2.1.1)), .int (nI ((opBack (nb, yr, kd, tw, wt, sk, gr, ch) en K0 K1 x).2.1.2.1)), .ref fk, .ref ft, .ref fw, .ref fs, .ref fg, .ref fc])), (fk, .inl (E.2.1.1, 10, .inl (nA ((opBack (nb, yr, kd, tw, wt, sk, gr, ch) en K0 K1 x).2.1.2.2.1)))), (ft, .inl (E.2.1.1, 10, .inl (nA ((opBack (nb, yr, kd, tw, wt, sk, gr, ch) en K0 K1 x).2.1.2.2.2.1)))), (fw, .inl (E.2.1.1, 10, .inl (nA ((opBack (nb, yr, kd, tw, wt, sk, gr, ch) en K0 K1 x).2.1.2.2.2.2.1)))), (fs, .inl (E.2.1.1, 10, .inl (nA ((opBack (nb, yr, kd, tw, wt, sk, gr, ch) en K0 K1 x).2.1.2.2.2.2.2.1)))), (fg, .inl (E.2.1.1, 10, .inl (nA ((opBack (nb, yr, kd, tw, wt, sk, gr, ch) en K0 K1 x).2.1.2.2.2.2.2.2.1)))), (fc, .inl (E.2.1.1, 6, .inl ((opBack (nb, yr, kd, tw, wt, sk, gr, ch) en K0 K1 x).2.1.2.2.2.2.2.2.2))), (y0, .inr (2, [.int (nI (K0.2.1)), .int (nI (K0.2.2.1)), .ref yk, .ref yt, .ref yw, .ref ys, .ref yg, .ref yc])), (yk, .inl (E.2.1.1, 10, .inl (nA (K0.2.2.2.1)))), (yt, .inl (E.2.1.1, 10, .inl (nA (K0.2.2.2.2.1)))), (yw, .inl (E.2.1.1, 10, .inl (nA (K0.2.2.2.2.2.1)))), (ys, .inl (E.2.1.1, 10, .inl (nA (K0.2.2.2.2.2.2.1)))), (yg, .inl (E.2.1.1, 10, .inl (nA (K0.2.2.2.2.2.2.2.1)))), (yc, .inl (E.2.1.1, 6, .inl (K0.2.2.2.2.2.2.2.2))), (z0, .inr (2, [.int (nI (K1.2.1)), .int (nI (K1.2.2.1)), .ref zk, .ref zt, .ref zw, .ref zs, .ref zg, .ref zc])), (zk, .inl (E.2.1.1, 10, .inl (nA (K1.2.2.2.1)))), (zt, .inl (E.2.1.1, 10, .inl (nA (K1.2.2.2.2.1)))), (zw, .inl (E.2.1.1, 10, .inl (nA (K1.2.2.2.2.2.1)))), (zs, .inl (E.2.1.1, 10, .inl (nA (K1.2.2.2.2.2.2.1)))), (zg, .inl (E.2.1.1, 10, .inl (nA (K1.2.2.2.2.2.2.2.1)))), (zc, .inl (E.2.1.1, 6, .inl (K1.2.2.2.2.2.2.2.2))), (x0, .inr (1, [.int (nI ((opBack (nb, yr, kd, tw, wt, sk, gr, ch) en K0 K1 x).2.2)), .ref xb, .ref xg]))]) := by
  refine ct_of (by decide +kernel) (Nat.le_of_ble_eq_true rfl) (lv := [(0, .ref p0), (1, .int (x))]) rfl (fun A => ?_)
  refine g_iload_n (q := 1) dX9_back_0 rfl rfl rfl ?_
  refine g_iconst (v := nI 0) (q := 2) dX9_back_1 rfl ki_0 ?_
  refine g_iconst (v := nI 1) (q := 3) dX9_back_2 rfl ki_1 ?_
  refine gc_X9_187 (c_isNotIn) rfl (Nat.le_of_ble_eq_true rfl) rfl [] rfl rfl (rest := []) rfl (Nat.le_of_ble_eq_true rfl) (q := 6) dX9_back_3 rfl (exK (ws' := [_, _, _, _, _, _, _, _, _, _, _, _, _, _, _, _, _, _, _, _, _, _, _, _, _]) (st' := [.int (bI (ninB x (nI 0) (nI 1)))]) rfl rfl ?_)
  refine g_top (y := bI (rn x 0 1).isNone) (by rw [ninB_rn (by decide) (by decide)]) ?_
  refine g_if_eq (t := 12) (q := 9) dX9_back_6 (by decide) rfl (fun c6 => ?_) (fun c6 => ?_)
  · obtain ⟨k, hk⟩ := isNone_f (bI_eq0.mp c6)
    obtain ⟨hk1, hk2, rfl⟩ := rn_some hk
    rcases (show k = 0 ∨ k = 1 by omega) with rfl | rfl
    · skip
      refine g_aload_n (q := 13) dX9_back_12 rfl rfl rfl ?_
      refine gf_X9_43 rfl 0 rfl rfl (q := 16) dX9_back_13 rfl ?_
      refine g_iload_n (q := 17) dX9_back_16 rfl rfl rfl ?_
      refine g_zald (v := bI (K0.1)) 2 rfl (ixIn (j := 0) rfl (by omega) (by decide)) rfl (q := 18) dX9_back_17 rfl ?_
      refine g_if_ne (t := 24) (q := 21) dX9_back_18 (by decide) rfl (fun c18 => ?_) (fun c18 => ?_)
      · skip
        refine g_aload_n (q := 25) dX9_back_24 rfl rfl rfl ?_
        refine gf_X9_35 rfl 0 rfl rfl (q := 28) dX9_back_25 rfl ?_
        refine g_aload_n (q := 29) dX9_back_28 rfl rfl rfl ?_
        refine gf_X9_39 rfl 0 rfl rfl (q := 32) dX9_back_29 rfl ?_
        refine g_iload_n (q := 33) dX9_back_32 rfl rfl rfl ?_
        refine g_aald (b := y0) 1 rfl (ixIn (j := 0) rfl (by decide) (by decide)) rfl (q := 34) dX9_back_33 rfl ?_
        refine gc_X9_127 (c_become) rfl (Nat.le_of_ble_eq_true rfl) rfl 3 rfl [3, 4, 5, 6, 7, 8, 9, 10, 11, 12, 13, 14, 15, 16] rfl rfl (rest := []) rfl (Nat.le_of_ble_eq_true rfl) (q := 37) dX9_back_34 rfl (exKM (ws' := [_, _, _, (_, .inr (_, [_, _, _, _, _, _, _, _])), (_, .inl (_, _, .inl _)), (_, .inl (_, _, .inl _)), (_, .inl (_, _, .inl _)), (_, .inl (_, _, .inl _)), (_, .inl (_, _, .inl _)), (_, .inl (_, _, .inl _)), (_, .inr (_, [_, _, _, _, _, _, _, _])), (_, .inl (_, _, .inl _)), (_, .inl (_, _, .inl _)), (_, .inl (_, _, .inl _)), (_, .inl (_, _, .inl _)), (_, .inl (_, _, .inl _)), (_, .inl (_, _, .inl _)), _, _, _, _, _, _, _, _]) (st' := []) rfl rfl rfl ?_)
        refine g_aload_n (q := 38) dX9_back_37 rfl rfl rfl ?_
        refine gf_X9_50 rfl 0 rfl rfl (q := 41) dX9_back_38 rfl ?_
        refine g_iconst (v := nI 0) (q := 42) dX9_back_41 rfl ki_0 ?_
        refine pf_X9_130 rfl 24 rfl (Nat.le_of_ble_eq_true rfl) (ws' := [_, _, _, _, _, _, _, _, _, _, _, _, _, _, _, _, _, _, _, _, _, _, _, _, (_, .inr (_, [_, _, _]))]) rfl (q := 45) dX9_back_42 rfl ?_
        refine g_aload_n (q := 46) dX9_back_45 rfl rfl rfl ?_
        refine gf_X9_35 rfl 0 rfl rfl (q := 49) dX9_back_46 rfl ?_
        refine gf_X9_238 rfl 3 rfl rfl (q := 52) dX9_back_49 rfl ?_
        refine g_iret (st := []) dX9_back_52 rfl rfl rfl ?_
        simp only [opBack, hk, if_true, if_pos rfl, reduceIte, Nat.one_ne_zero, if_false, bI_ne0.mp c18]
        exact ⟨rfl, rfl⟩
      · skip
        refine g_bipush (v := (-4)) (q := 23) dX9_back_21 rfl kb_m4 ?_
        refine g_iret (st := []) dX9_back_23 rfl rfl rfl ?_
        simp only [opBack, hk, if_true, if_pos rfl, reduceIte, Nat.one_ne_zero, if_false, bI_eq0.mp c18, Bool.false_eq_true]
        exact ⟨rfl, rfl⟩
    · skip
      refine g_aload_n (q := 13) dX9_back_12 rfl rfl rfl ?_
      refine gf_X9_43 rfl 0 rfl rfl (q := 16) dX9_back_13 rfl ?_
      refine g_iload_n (q := 17) dX9_back_16 rfl rfl rfl ?_
      refine g_zald (v := bI (K1.1)) 2 rfl (ixIn (j := 1) rfl (by omega) (by decide)) rfl (q := 18) dX9_back_17 rfl ?_
      refine g_if_ne (t := 24) (q := 21) dX9_back_18 (by decide) rfl (fun c18 => ?_) (fun c18 => ?_)
      · skip
        refine g_aload_n (q := 25) dX9_back_24 rfl rfl rfl ?_
        refine gf_X9_35 rfl 0 rfl rfl (q := 28) dX9_back_25 rfl ?_
        refine g_aload_n (q := 29) dX9_back_28 rfl rfl rfl ?_
        refine gf_X9_39 rfl 0 rfl rfl (q := 32) dX9_back_29 rfl ?_
        refine g_iload_n (q := 33) dX9_back_32 rfl rfl rfl ?_
        refine g_aald (b := z0) 1 rfl (ixIn (j := 1) rfl (by decide) (by decide)) rfl (q := 34) dX9_back_33 rfl ?_
        refine gc_X9_127 (c_become) rfl (Nat.le_of_ble_eq_true rfl) rfl 3 rfl [3, 4, 5, 6, 7, 8, 9, 17, 18, 19, 20, 21, 22, 23] rfl rfl (rest := []) rfl (Nat.le_of_ble_eq_true rfl) (q := 37) dX9_back_34 rfl (exKM (ws' := [_, _, _, (_, .inr (_, [_, _, _, _, _, _, _, _])), (_, .inl (_, _, .inl _)), (_, .inl (_, _, .inl _)), (_, .inl (_, _, .inl _)), (_, .inl (_, _, .inl _)), (_, .inl (_, _, .inl _)), (_, .inl (_, _, .inl _)), _, _, _, _, _, _, _, (_, .inr (_, [_, _, _, _, _, _, _, _])), (_, .inl (_, _, .inl _)), (_, .inl (_, _, .inl _)), (_, .inl (_, _, .inl _)), (_, .inl (_, _, .inl _)), (_, .inl (_, _, .inl _)), (_, .inl (_, _, .inl _)), _]) (st' := []) rfl rfl rfl ?_)
        refine g_aload_n (q := 38) dX9_back_37 rfl rfl rfl ?_
        refine gf_X9_50 rfl 0 rfl rfl (q := 41) dX9_back_38 rfl ?_
        refine g_iconst (v := nI 0) (q := 42) dX9_back_41 rfl ki_0 ?_
        refine pf_X9_130 rfl 24 rfl (Nat.le_of_ble_eq_true rfl) (ws' := [_, _, _, _, _, _, _, _, _, _, _, _, _, _, _, _, _, _, _, _, _, _, _, _, (_, .inr (_, [_, _, _]))]) rfl (q := 45) dX9_back_42 rfl ?_
        refine g_aload_n (q := 46) dX9_back_45 rfl rfl rfl ?_
        refine gf_X9_35 rfl 0 rfl rfl (q := 49) dX9_back_46 rfl ?_
        refine gf_X9_238 rfl 3 rfl rfl (q := 52) dX9_back_49 rfl ?_
        refine g_iret (st := []) dX9_back_52 rfl rfl rfl ?_
        simp only [opBack, hk, if_true, if_pos rfl, reduceIte, Nat.one_ne_zero, if_false, bI_ne0.mp c18]
        exact ⟨rfl, rfl⟩
      · skip
        refine g_bipush (v := (-4)) (q := 23) dX9_back_21 rfl kb_m4 ?_
        refine g_iret (st := []) dX9_back_23 rfl rfl rfl ?_
        simp only [opBack, hk, if_true, if_pos rfl, reduceIte, Nat.one_ne_zero, if_false, bI_eq0.mp c18, Bool.false_eq_true]
        exact ⟨rfl, rfl⟩
  · have nk := isNone_t (bI_ne0.mp c6)
    refine g_bipush (v := (-2)) (q := 11) dX9_back_9 rfl kb_m2 ?_
    refine g_iret (st := []) dX9_back_11 rfl rfl rfl ?_
    simp only [opBack, nk, if_true, if_pos rfl, reduceIte, Nat.one_ne_zero, if_false]
    exact ⟨rfl, rfl⟩
set_option maxHeartbeats 2000000 in
set_option maxRecDepth 20000 in
theorem c_gof {E : EN} {p0 u0 l0 r0 f0 kp ik x0 s0 q0 g0 b0 ora c0 d0 : Nat} {fk ft fw fs fg fc nb yr : Nat} {lc lr lf lv ln t0 nt lw sl : Nat} {kd tw wt rt : Nat → Nat} {t n p f : Nat} (ht : t < 6) (hn : n < 100) (hf : f < 100) (hnb : nb ≤ 10) (hw1 : ∀ j, j < nb → 1 ≤ wt j) (hkd : ∀ j, j < 10 → kd j < 4) (htw : ∀ j, j < 10 → tw j < 6) (hwt : ∀ j, j < 10 → wt j < 100) (hrt : ∀ j, j < 6 → rt j < 10)  : CT E yX9_gainOfFood cX9_gainOfFood 10 (some .int) 2 [.ref p0, .int (nI (t)), .int (nI (n)), .int (nI (p)), .int (nI (f))] [(p0, .inr (9, [.ref u0, .ref l0, .ref r0, .ref f0, .ref kp, .ref ik, .ref x0, .ref s0, .ref q0, .ref g0, .ref b0, .ref ora, .ref c0, .ref d0])), (l0, .inr (3, [.int (nI (nt)), .int (nI (lw)), .int (nI (sl)), .ref lc, .ref lr, .ref lf, .ref lv, .ref ln, .ref t0])), (lr, .inl (E.2.1.1, 6, .inl (nA (rt)))), (f0, .inr (2, [.int (nI (nb)), .int (nI (yr)), .ref fk, .ref ft, .ref fw, .ref fs, .ref fg, .ref fc])), (fk, .inl (E.2.1.1, 10, .inl (nA (kd)))), (ft, .inl (E.2.1.1, 10, .inl (nA (tw)))), (fw, .inl (E.2.1.1, 10, .inl (nA (wt))))] (xQ (some (.int (gof nb kd tw wt rt t n p f))) [(p0, .inr (9, [.ref u0, .ref l0, .ref r0, .ref f0, .ref kp, .ref ik, .ref x0, .ref s0, .ref q0, .ref g0, .ref b0, .ref ora, .ref c0, .ref d0])), (l0, .inr (3, [.int (nI (nt)), .int (nI (lw)), .int (nI (sl)), .ref lc, .ref lr, .ref lf, .ref lv, .ref ln, .ref t0])), (lr, .inl (E.2.1.1, 6, .inl (nA (rt)))), (f0, .inr (2, [.int (nI (nb)), .int (nI (yr)), .ref fk, .ref ft, .ref fw, .ref fs, .ref fg, .ref fc])), (fk, .inl (E.2.1.1, 10, .inl (nA (kd)))), (ft, .inl (E.2.1.1, 10, .inl (nA (tw)))), (fw, .inl (E.2.1.1, 10, .inl (nA (wt))))]) := by
  refine ct_of (by decide +kernel) (Nat.le_of_ble_eq_true rfl) (lv := [(0, .ref p0), (1, .int (nI (t))), (2, .int (nI (n))), (3, .int (nI (p))), (4, .int (nI (f)))]) rfl (fun A => ?_)
  refine g_iconst (v := nI 0) (q := 1) dX9_gainOfFood_0 rfl ki_0 ?_
  refine g_istore (lv' := [(0, _), (1, _), (2, _), (3, _), (4, _), (5, _)]) (q := 3) dX9_gainOfFood_1 rfl (Nat.le_of_ble_eq_true rfl) rfl ?_
  refine g_iconst (v := nI 0) (q := 4) dX9_gainOfFood_3 rfl ki_0 ?_
  refine g_istore (lv' := [(0, _), (1, _), (2, _), (3, _), (4, _), (5, _), (6, _)]) (q := 6) dX9_gainOfFood_4 rfl (Nat.le_of_ble_eq_true rfl) rfl ?_
  refine g_iconst (v := nI 0) (q := 7) dX9_gainOfFood_6 rfl ki_0 ?_
  refine g_istore (lv' := [(0, _), (1, _), (2, _), (3, _), (4, _), (5, _), (6, _), (7, _)]) (q := 9) dX9_gainOfFood_7 rfl (Nat.le_of_ble_eq_true rfl) rfl ?_
  refine g_loop (nb) (fun b => [(p0, .inr (9, [.ref u0, .ref l0, .ref r0, .ref f0, .ref kp, .ref ik, .ref x0, .ref s0, .ref q0, .ref g0, .ref b0, .ref ora, .ref c0, .ref d0])), (l0, .inr (3, [.int (nI (nt)), .int (nI (lw)), .int (nI (sl)), .ref lc, .ref lr, .ref lf, .ref lv, .ref ln, .ref t0])), (lr, .inl (E.2.1.1, 6, .inl (nA (rt)))), (f0, .inr (2, [.int (nI (nb)), .int (nI (yr)), .ref fk, .ref ft, .ref fw, .ref fs, .ref fg, .ref fc])), (fk, .inl (E.2.1.1, 10, .inl (nA (kd)))), (ft, .inl (E.2.1.1, 10, .inl (nA (tw)))), (fw, .inl (E.2.1.1, 10, .inl (nA (wt))))]) (fun b => [(0, .ref p0), (1, .int (nI (t))), (2, .int (nI (n))), (3, .int (nI (p))), (4, .int (nI (f))), (5, .int (nI (gofP nb kd tw wt t n f b))), (6, .int (nI (cntN (fun b => decide (tw b = t)) b))), (7, .int (nI (b)))]) ?_ ?_ 0 (Nat.zero_le _)
  · intro b hb9 ih9
    have q1 := hw1 b hb9
    have q2 := hwt b (by omega)
    have q4 := htw b (by omega)
    have q5 := hkd b (by omega)
    show G E _ [(p0, .inr (9, [.ref u0, .ref l0, .ref r0, .ref f0, .ref kp, .ref ik, .ref x0, .ref s0, .ref q0, .ref g0, .ref b0, .ref ora, .ref c0, .ref d0])), (l0, .inr (3, [.int (nI (nt)), .int (nI (lw)), .int (nI (sl)), .ref lc, .ref lr, .ref lf, .ref lv, .ref ln, .ref t0])), (lr, .inl (E.2.1.1, 6, .inl (nA (rt)))), (f0, .inr (2, [.int (nI (nb)), .int (nI (yr)), .ref fk, .ref ft, .ref fw, .ref fs, .ref fg, .ref fc])), (fk, .inl (E.2.1.1, 10, .inl (nA (kd)))), (ft, .inl (E.2.1.1, 10, .inl (nA (tw)))), (fw, .inl (E.2.1.1, 10, .inl (nA (wt))))] 9 [(0, .ref p0), (1, .int (nI (t))), (2, .int (nI (n))), (3, .int (nI (p))), (4, .int (nI (f))), (5, .int (nI (gofP nb kd tw wt t n f b))), (6, .int (nI (cntN (fun b => decide (tw b = t)) b))), (7, .int (nI (b)))] []
    refine g_iload (q := 11) dX9_gainOfFood_9 rfl rfl ?_
    refine g_aload_n (q := 12) dX9_gainOfFood_11 rfl rfl rfl ?_
    refine gf_X9_35 rfl 0 rfl rfl (q := 15) dX9_gainOfFood_12 rfl ?_
    refine gf_X9_252 rfl 3 rfl rfl (q := 18) dX9_gainOfFood_15 rfl ?_
    refine g_icmp_geN (t := 100) (q := 21) dX9_gainOfFood_18 (by decide) rfl (by omega) (by omega) (fun c18 => ?_) (fun c18 => ?_)
    · omega
    · skip
      refine g_aload_n (q := 22) dX9_gainOfFood_21 rfl rfl rfl ?_
      refine gf_X9_35 rfl 0 rfl rfl (q := 25) dX9_gainOfFood_22 rfl ?_
      refine gf_X9_168 rfl 3 rfl rfl (q := 28) dX9_gainOfFood_25 rfl ?_
      refine g_iload (q := 30) dX9_gainOfFood_28 rfl rfl ?_
      refine g_iald (v := nI (tw b)) 5 rfl (ixIn (j := b) rfl (by omega) (by decide)) (ixV (j := b) rfl (by omega)) (q := 31) dX9_gainOfFood_30 rfl ?_
      refine g_iload_n (q := 32) dX9_gainOfFood_31 rfl rfl rfl ?_
      refine g_icmp_neN (t := 94) (q := 35) dX9_gainOfFood_32 (by decide) rfl (by omega) (by omega) (fun c32 => ?_) (fun c32 => ?_)
      · skip
        refine g_iinc (lv' := [(0, _), (1, _), (2, _), (3, _), (4, _), (5, _), (6, _), (7, _)]) (v := nI (b + 1)) (q := 97) dX9_gainOfFood_94 rfl rfl (nI_inc _) (Nat.le_of_ble_eq_true rfl) rfl ?_
        refine g_goto (q := 9) dX9_gainOfFood_97 (by decide) ?_
        simp only [gofP, cntN, c32, eq_self, decide_true, decide_false, if_true, Bool.false_eq_true, if_false, Nat.add_zero] at ih9
        exact ih9
      · skip
        refine g_aload_n (q := 36) dX9_gainOfFood_35 rfl rfl rfl ?_
        refine gf_X9_35 rfl 0 rfl rfl (q := 39) dX9_gainOfFood_36 rfl ?_
        refine gf_X9_171 rfl 3 rfl rfl (q := 42) dX9_gainOfFood_39 rfl ?_
        refine g_iload (q := 44) dX9_gainOfFood_42 rfl rfl ?_
        refine g_iald (v := nI (wt b)) 6 rfl (ixIn (j := b) rfl (by omega) (by decide)) (ixV (j := b) rfl (by omega)) (q := 45) dX9_gainOfFood_44 rfl ?_
        refine g_istore (lv' := [(0, _), (1, _), (2, _), (3, _), (4, _), (5, _), (6, _), (7, _), (8, _)]) (q := 47) dX9_gainOfFood_45 rfl (Nat.le_of_ble_eq_true rfl) rfl ?_
        refine g_iconst (v := nI 0) (q := 48) dX9_gainOfFood_47 rfl ki_0 ?_
        refine g_istore (lv' := [(0, _), (1, _), (2, _), (3, _), (4, _), (5, _), (6, _), (7, _), (8, _), (9, _)]) (q := 50) dX9_gainOfFood_48 rfl (Nat.le_of_ble_eq_true rfl) rfl ?_
        refine g_loop (n) (fun j => [(p0, .inr (9, [.ref u0, .ref l0, .ref r0, .ref f0, .ref kp, .ref ik, .ref x0, .ref s0, .ref q0, .ref g0, .ref b0, .ref ora, .ref c0, .ref d0])), (l0, .inr (3, [.int (nI (nt)), .int (nI (lw)), .int (nI (sl)), .ref lc, .ref lr, .ref lf, .ref lv, .ref ln, .ref t0])), (lr, .inl (E.2.1.1, 6, .inl (nA (rt)))), (f0, .inr (2, [.int (nI (nb)), .int (nI (yr)), .ref fk, .ref ft, .ref fw, .ref fs, .ref fg, .ref fc])), (fk, .inl (E.2.1.1, 10, .inl (nA (kd)))), (ft, .inl (E.2.1.1, 10, .inl (nA (tw)))), (fw, .inl (E.2.1.1, 10, .inl (nA (wt))))]) (fun j => [(0, .ref p0), (1, .int (nI (t))), (2, .int (nI (n))), (3, .int (nI (p))), (4, .int (nI (f))), (5, .int (nI (gofP nb kd tw wt t n f b))), (6, .int (nI (cntN (fun b => decide (tw b = t)) b))), (7, .int (nI (b))), (8, .int (nI (fedI f (wt b) j))), (9, .int (nI (j)))]) ?_ ?_ 0 (Nat.zero_le _)
        · intro j hj50 ih50
          have q6 := fedI_in (f := f) q1 q2 j
          show G E _ [(p0, .inr (9, [.ref u0, .ref l0, .ref r0, .ref f0, .ref kp, .ref ik, .ref x0, .ref s0, .ref q0, .ref g0, .ref b0, .ref ora, .ref c0, .ref d0])), (l0, .inr (3, [.int (nI (nt)), .int (nI (lw)), .int (nI (sl)), .ref lc, .ref lr, .ref lf, .ref lv, .ref ln, .ref t0])), (lr, .inl (E.2.1.1, 6, .inl (nA (rt)))), (f0, .inr (2, [.int (nI (nb)), .int (nI (yr)), .ref fk, .ref ft, .ref fw, .ref fs, .ref fg, .ref fc])), (fk, .inl (E.2.1.1, 10, .inl (nA (kd)))), (ft, .inl (E.2.1.1, 10, .inl (nA (tw)))), (fw, .inl (E.2.1.1, 10, .inl (nA (wt))))] 50 [(0, .ref p0), (1, .int (nI (t))), (2, .int (nI (n))), (3, .int (nI (p))), (4, .int (nI (f))), (5, .int (nI (gofP nb kd tw wt t n f b))), (6, .int (nI (cntN (fun b => decide (tw b = t)) b))), (7, .int (nI (b))), (8, .int (nI (fedI f (wt b) j))), (9, .int (nI (j)))] []
          refine g_iload (q := 52) dX9_gainOfFood_50 rfl rfl ?_
          refine g_iload_n (q := 53) dX9_gainOfFood_52 rfl rfl rfl ?_
          refine g_icmp_geN (t := 71) (q := 56) dX9_gainOfFood_53 (by decide) rfl (by omega) (by omega) (fun c53 => ?_) (fun c53 => ?_)
          · omega
          · skip
            refine g_iload (q := 58) dX9_gainOfFood_56 rfl rfl ?_
            refine g_iload (q := 60) dX9_gainOfFood_58 rfl rfl ?_
            refine gc_X9_255 (c_fedWeight (by omega) (by omega) (by omega)) rfl (Nat.le_of_ble_eq_true rfl) rfl [] rfl rfl (rest := []) rfl (Nat.le_of_ble_eq_true rfl) (q := 63) dX9_gainOfFood_60 rfl (exK (ws' := [_, _, _, _, _, _, _]) (st' := [.int (nI (fed (fedI f (wt b) j) f))]) rfl rfl ?_)
            refine g_istore (lv' := [(0, _), (1, _), (2, _), (3, _), (4, _), (5, _), (6, _), (7, _), (8, _), (9, _)]) (q := 65) dX9_gainOfFood_63 rfl (Nat.le_of_ble_eq_true rfl) rfl ?_
            refine g_iinc (lv' := [(0, _), (1, _), (2, _), (3, _), (4, _), (5, _), (6, _), (7, _), (8, _), (9, _)]) (v := nI (j + 1)) (q := 68) dX9_gainOfFood_65 rfl rfl (nI_inc _) (Nat.le_of_ble_eq_true rfl) rfl ?_
            refine g_goto (q := 50) dX9_gainOfFood_68 (by decide) ?_
            exact ih50
        · skip
          show G E _ [(p0, .inr (9, [.ref u0, .ref l0, .ref r0, .ref f0, .ref kp, .ref ik, .ref x0, .ref s0, .ref q0, .ref g0, .ref b0, .ref ora, .ref c0, .ref d0])), (l0, .inr (3, [.int (nI (nt)), .int (nI (lw)), .int (nI (sl)), .ref lc, .ref lr, .ref lf, .ref lv, .ref ln, .ref t0])), (lr, .inl (E.2.1.1, 6, .inl (nA (rt)))), (f0, .inr (2, [.int (nI (nb)), .int (nI (yr)), .ref fk, .ref ft, .ref fw, .ref fs, .ref fg, .ref fc])), (fk, .inl (E.2.1.1, 10, .inl (nA (kd)))), (ft, .inl (E.2.1.1, 10, .inl (nA (tw)))), (fw, .inl (E.2.1.1, 10, .inl (nA (wt))))] 50 [(0, .ref p0), (1, .int (nI (t))), (2, .int (nI (n))), (3, .int (nI (p))), (4, .int (nI (f))), (5, .int (nI (gofP nb kd tw wt t n f b))), (6, .int (nI (cntN (fun b => decide (tw b = t)) b))), (7, .int (nI (b))), (8, .int (nI (fedI f (wt b) n))), (9, .int (nI (n)))] []
          have q6 := fedI_in (f := f) q1 q2 n
          refine g_iload (q := 52) dX9_gainOfFood_50 rfl rfl ?_
          refine g_iload_n (q := 53) dX9_gainOfFood_52 rfl rfl rfl ?_
          refine g_icmp_geN (t := 71) (q := 56) dX9_gainOfFood_53 (by decide) rfl (by omega) (by omega) (fun c53 => ?_) (fun c53 => ?_)
          · skip
            refine g_iload (q := 73) dX9_gainOfFood_71 rfl rfl ?_
            refine g_aload_n (q := 74) dX9_gainOfFood_73 rfl rfl rfl ?_
            refine gf_X9_35 rfl 0 rfl rfl (q := 77) dX9_gainOfFood_74 rfl ?_
            refine gf_X9_165 rfl 3 rfl rfl (q := 80) dX9_gainOfFood_77 rfl ?_
            refine g_iload (q := 82) dX9_gainOfFood_80 rfl rfl ?_
            refine g_iald (v := nI (kd b)) 4 rfl (ixIn (j := b) rfl (by omega) (by decide)) (ixV (j := b) rfl (by omega)) (q := 83) dX9_gainOfFood_82 rfl ?_
            refine g_iload (q := 85) dX9_gainOfFood_83 rfl rfl ?_
            refine gc_X9_259 (c_poundsOf (by omega) (by omega)) rfl (Nat.le_of_ble_eq_true rfl) rfl [] rfl rfl (rest := [_]) rfl (Nat.le_of_ble_eq_true rfl) (q := 88) dX9_gainOfFood_85 rfl (exK (ws' := [_, _, _, _, _, _, _]) (st' := [.int (nI (pnd (kd b) (fedI f (wt b) n))), _]) rfl rfl ?_)
            refine g_iaddN (q := 89) dX9_gainOfFood_88 rfl ?_
            refine g_istore (lv' := [(0, _), (1, _), (2, _), (3, _), (4, _), (5, _), (6, _), (7, _), (8, _), (9, _)]) (q := 91) dX9_gainOfFood_89 rfl (Nat.le_of_ble_eq_true rfl) rfl ?_
            refine g_iinc (lv' := [(0, _), (1, _), (2, _), (3, _), (4, _), (5, _), (6, _), (7, _), (8, _), (9, _)]) (v := nI (cntN (fun b => decide (tw b = t)) b + 1)) (q := 94) dX9_gainOfFood_91 rfl rfl (nI_inc _) (Nat.le_of_ble_eq_true rfl) rfl ?_
            refine g_iinc (lv' := [(0, _), (1, _), (2, _), (3, _), (4, _), (5, _), (6, _), (7, _), (8, _), (9, _)]) (v := nI (b + 1)) (q := 97) dX9_gainOfFood_94 rfl rfl (nI_inc _) (Nat.le_of_ble_eq_true rfl) rfl ?_
            refine g_goto (q := 9) dX9_gainOfFood_97 (by decide) ?_
            refine g_less (lv' := [(0, _), (1, _), (2, _), (3, _), (4, _), (5, _), (6, _), (7, _)]) 8 rfl ?_
            simp only [gofP, cntN, c32, eq_self, decide_true, decide_false, if_true, Bool.false_eq_true, if_false, Nat.add_zero] at ih9
            exact ih9
          · omega
  · skip
    show G E _ [(p0, .inr (9, [.ref u0, .ref l0, .ref r0, .ref f0, .ref kp, .ref ik, .ref x0, .ref s0, .ref q0, .ref g0, .ref b0, .ref ora, .ref c0, .ref d0])), (l0, .inr (3, [.int (nI (nt)), .int (nI (lw)), .int (nI (sl)), .ref lc, .ref lr, .ref lf, .ref lv, .ref ln, .ref t0])), (lr, .inl (E.2.1.1, 6, .inl (nA (rt)))), (f0, .inr (2, [.int (nI (nb)), .int (nI (yr)), .ref fk, .ref ft, .ref fw, .ref fs, .ref fg, .ref fc])), (fk, .inl (E.2.1.1, 10, .inl (nA (kd)))), (ft, .inl (E.2.1.1, 10, .inl (nA (tw)))), (fw, .inl (E.2.1.1, 10, .inl (nA (wt))))] 9 [(0, .ref p0), (1, .int (nI (t))), (2, .int (nI (n))), (3, .int (nI (p))), (4, .int (nI (f))), (5, .int (nI (gofP nb kd tw wt t n f nb))), (6, .int (nI (cntN (fun b => decide (tw b = t)) nb))), (7, .int (nI (nb)))] []
    refine g_iload (q := 11) dX9_gainOfFood_9 rfl rfl ?_
    refine g_aload_n (q := 12) dX9_gainOfFood_11 rfl rfl rfl ?_
    refine gf_X9_35 rfl 0 rfl rfl (q := 15) dX9_gainOfFood_12 rfl ?_
    refine gf_X9_252 rfl 3 rfl rfl (q := 18) dX9_gainOfFood_15 rfl ?_
    refine g_icmp_geN (t := 100) (q := 21) dX9_gainOfFood_18 (by decide) rfl (by omega) (by omega) (fun c18 => ?_) (fun c18 => ?_)
    · skip
      refine g_iload (q := 102) dX9_gainOfFood_100 rfl rfl ?_
      refine g_aload_n (q := 103) dX9_gainOfFood_102 rfl rfl rfl ?_
      refine gf_X9_19 rfl 0 rfl rfl (q := 106) dX9_gainOfFood_103 rfl ?_
      refine gf_X9_142 rfl 1 rfl rfl (q := 109) dX9_gainOfFood_106 rfl ?_
      refine g_iload_n (q := 110) dX9_gainOfFood_109 rfl rfl rfl ?_
      refine g_iald (v := nI (rt t)) 2 rfl (ixIn (j := t) rfl (by omega) (by decide)) (ixV (j := t) rfl (by omega)) (q := 111) dX9_gainOfFood_110 rfl ?_
      refine g_imulN (q := 112) dX9_gainOfFood_111 rfl ?_
      refine g_iload_n (q := 113) dX9_gainOfFood_112 rfl rfl rfl ?_
      refine g_iload (q := 115) dX9_gainOfFood_113 rfl rfl ?_
      refine g_imulN (q := 116) dX9_gainOfFood_115 rfl ?_
      refine g_iload (q := 118) dX9_gainOfFood_116 rfl rfl ?_
      refine g_imulN (q := 119) dX9_gainOfFood_118 rfl ?_
      refine g_iload_n (q := 120) dX9_gainOfFood_119 rfl rfl rfl ?_
      refine g_imulN (q := 121) dX9_gainOfFood_120 rfl ?_
      refine g_isub (q := 122) dX9_gainOfFood_121 rfl ?_
      refine g_iret (st := []) dX9_gainOfFood_122 rfl rfl rfl ?_
      exact (xr rfl)
    · omega
set_option maxHeartbeats 2000000 in
set_option maxRecDepth 20000 in
theorem c_pays {E : EN} {p0 u0 l0 r0 f0 kp ik x0 s0 q0 g0 b0 ora c0 d0 : Nat} {fk ft fw fs fg fc nb yr : Nat} {lc lr lf lv ln t0 nt lw sl : Nat} {kd tw wt rt : Nat → Nat} {x y z v : Int32} (hw1 : ∀ j, j < nb → 1 ≤ wt j) (hnb : nb ≤ 10) (hnt : nt ≤ 6) (hkd : ∀ j, j < 10 → kd j < 4) (htw : ∀ j, j < 10 → tw j < 6) (hwt : ∀ j, j < 10 → wt j < 100) (hrt : ∀ j, j < 6 → rt j < 10)  : CT E yX9_pays cX9_pays 9 (some .int) 3 [.ref p0, .int (x), .int (y), .int (z), .int (v)] [(p0, .inr (9, [.ref u0, .ref l0, .ref r0, .ref f0, .ref kp, .ref ik, .ref x0, .ref s0, .ref q0, .ref g0, .ref b0, .ref ora, .ref c0, .ref d0])), (l0, .inr (3, [.int (nI (nt)), .int (nI (lw)), .int (nI (sl)), .ref lc, .ref lr, .ref lf, .ref lv, .ref ln, .ref t0])), (lr, .inl (E.2.1.1, 6, .inl (nA (rt)))), (f0, .inr (2, [.int (nI (nb)), .int (nI (yr)), .ref fk, .ref ft, .ref fw, .ref fs, .ref fg, .ref fc])), (fk, .inl (E.2.1.1, 10, .inl (nA (kd)))), (ft, .inl (E.2.1.1, 10, .inl (nA (tw)))), (fw, .inl (E.2.1.1, 10, .inl (nA (wt))))] (xQ (some (.int (opPays nt nb kd tw wt rt x y z v))) [(p0, .inr (9, [.ref u0, .ref l0, .ref r0, .ref f0, .ref kp, .ref ik, .ref x0, .ref s0, .ref q0, .ref g0, .ref b0, .ref ora, .ref c0, .ref d0])), (l0, .inr (3, [.int (nI (nt)), .int (nI (lw)), .int (nI (sl)), .ref lc, .ref lr, .ref lf, .ref lv, .ref ln, .ref t0])), (lr, .inl (E.2.1.1, 6, .inl (nA (rt)))), (f0, .inr (2, [.int (nI (nb)), .int (nI (yr)), .ref fk, .ref ft, .ref fw, .ref fs, .ref fg, .ref fc])), (fk, .inl (E.2.1.1, 10, .inl (nA (kd)))), (ft, .inl (E.2.1.1, 10, .inl (nA (tw)))), (fw, .inl (E.2.1.1, 10, .inl (nA (wt))))]) := by
  refine ct_of (by decide +kernel) (Nat.le_of_ble_eq_true rfl) (lv := [(0, .ref p0), (1, .int (x)), (2, .int (y)), (3, .int (z)), (4, .int (v))]) rfl (fun A => ?_)
  refine g_aload_n (q := 1) dX9_pays_0 rfl rfl rfl ?_
  refine g_iload_n (q := 2) dX9_pays_1 rfl rfl rfl ?_
  refine gc_X9_135 (c_isNoTown (by omega)) rfl (Nat.le_of_ble_eq_true rfl) rfl 0 rfl [0, 1] rfl rfl (rest := []) rfl (Nat.le_of_ble_eq_true rfl) (q := 5) dX9_pays_2 rfl (exK (ws' := [_, _, _, _, _, _, _]) (st' := [.int (bI (tn x nt).isNone)]) rfl rfl ?_)
  refine g_if_eq (t := 11) (q := 8) dX9_pays_5 (by decide) rfl (fun c5 => ?_) (fun c5 => ?_)
  · obtain ⟨t, ht⟩ := isNone_f (bI_eq0.mp c5)
    obtain ⟨ht1, rfl⟩ := tn_some ht
    refine g_iload_n (q := 12) dX9_pays_11 rfl rfl rfl ?_
    refine g_iconst (v := nI 1) (q := 13) dX9_pays_12 rfl ki_1 ?_
    refine g_bipush (v := nI 9) (q := 15) dX9_pays_13 rfl kb_9 ?_
    refine gc_X9_187 (c_isNotIn) rfl (Nat.le_of_ble_eq_true rfl) rfl [] rfl rfl (rest := []) rfl (Nat.le_of_ble_eq_true rfl) (q := 18) dX9_pays_15 rfl (exK (ws' := [_, _, _, _, _, _, _]) (st' := [.int (bI (ninB y (nI 1) (nI 9)))]) rfl rfl ?_)
    refine g_top (y := bI (rn y 1 9).isNone) (by rw [ninB_rn (by decide) (by decide)]) ?_
    refine g_if_ne (t := 41) (q := 21) dX9_pays_18 (by decide) rfl (fun c18 => ?_) (fun c18 => ?_)
    · have nn := isNone_t (bI_ne0.mp c18)
      refine g_bipush (v := (-3)) (q := 43) dX9_pays_41 rfl kb_m3 ?_
      refine g_iret (st := []) dX9_pays_43 rfl rfl rfl ?_
      exact xr (by simp only [opPays, ht, nn])
    · obtain ⟨n, hn⟩ := isNone_f (bI_eq0.mp c18)
      obtain ⟨hn1, hn2, rfl⟩ := rn_some hn
      refine g_iload_n (q := 22) dX9_pays_21 rfl rfl rfl ?_
      refine g_iconst (v := nI 0) (q := 23) dX9_pays_22 rfl ki_0 ?_
      refine g_bipush (v := nI 99) (q := 25) dX9_pays_23 rfl kb_99 ?_
      refine gc_X9_187 (c_isNotIn) rfl (Nat.le_of_ble_eq_true rfl) rfl [] rfl rfl (rest := []) rfl (Nat.le_of_ble_eq_true rfl) (q := 28) dX9_pays_25 rfl (exK (ws' := [_, _, _, _, _, _, _]) (st' := [.int (bI (ninB z (nI 0) (nI 99)))]) rfl rfl ?_)
      refine g_top (y := bI (rn z 0 99).isNone) (by rw [ninB_rn (by decide) (by decide)]) ?_
      refine g_if_ne (t := 41) (q := 31) dX9_pays_28 (by decide) rfl (fun c28 => ?_) (fun c28 => ?_)
      · have np := isNone_t (bI_ne0.mp c28)
        refine g_bipush (v := (-3)) (q := 43) dX9_pays_41 rfl kb_m3 ?_
        refine g_iret (st := []) dX9_pays_43 rfl rfl rfl ?_
        exact xr (by simp only [opPays, ht, hn, np])
      · obtain ⟨p, hp⟩ := isNone_f (bI_eq0.mp c28)
        obtain ⟨hp1, hp2, rfl⟩ := rn_some hp
        refine g_iload (q := 33) dX9_pays_31 rfl rfl ?_
        refine g_iconst (v := nI 0) (q := 34) dX9_pays_33 rfl ki_0 ?_
        refine g_iconst (v := nI 1) (q := 35) dX9_pays_34 rfl ki_1 ?_
        refine gc_X9_187 (c_isNotIn) rfl (Nat.le_of_ble_eq_true rfl) rfl [] rfl rfl (rest := []) rfl (Nat.le_of_ble_eq_true rfl) (q := 38) dX9_pays_35 rfl (exK (ws' := [_, _, _, _, _, _, _]) (st' := [.int (bI (ninB v (nI 0) (nI 1)))]) rfl rfl ?_)
        refine g_top (y := bI (rn v 0 1).isNone) (by rw [ninB_rn (by decide) (by decide)]) ?_
        refine g_if_eq (t := 44) (q := 41) dX9_pays_38 (by decide) rfl (fun c38 => ?_) (fun c38 => ?_)
        · obtain ⟨k, hk⟩ := isNone_f (bI_eq0.mp c38)
          obtain ⟨hk1, hk2, rfl⟩ := rn_some hk
          refine g_iconst (v := nI 0) (q := 45) dX9_pays_44 rfl ki_0 ?_
          refine g_istore (lv' := [(0, _), (1, _), (2, _), (3, _), (4, _), (5, _)]) (q := 47) dX9_pays_45 rfl (Nat.le_of_ble_eq_true rfl) rfl ?_
          refine g_aload_n (q := 48) dX9_pays_47 rfl rfl rfl ?_
          refine g_iload_n (q := 49) dX9_pays_48 rfl rfl rfl ?_
          refine g_iload_n (q := 50) dX9_pays_49 rfl rfl rfl ?_
          refine g_iload_n (q := 51) dX9_pays_50 rfl rfl rfl ?_
          refine g_iconst (v := nI 0) (q := 52) dX9_pays_51 rfl ki_0 ?_
          refine gc_X9_248 (c_gof (by omega) (by omega) (by omega) hnb hw1 hkd htw hwt hrt) rfl (Nat.le_of_ble_eq_true rfl) rfl 0 rfl [0, 1, 2, 3, 4, 5, 6] rfl rfl (rest := []) rfl (Nat.le_of_ble_eq_true rfl) (q := 55) dX9_pays_52 rfl (exKM (ws' := [_, _, _, _, _, _, _]) (st' := [.int (gof nb kd tw wt rt t n p 0)]) rfl rfl rfl ?_)
          refine g_istore (lv' := [(0, _), (1, _), (2, _), (3, _), (4, _), (5, _), (6, _)]) (q := 57) dX9_pays_55 rfl (Nat.le_of_ble_eq_true rfl) rfl ?_
          refine g_iconst (v := nI 1) (q := 58) dX9_pays_57 rfl ki_1 ?_
          refine g_istore (lv' := [(0, _), (1, _), (2, _), (3, _), (4, _), (5, _), (6, _), (7, _)]) (q := 60) dX9_pays_58 rfl (Nat.le_of_ble_eq_true rfl) rfl ?_
          refine g_loop (3) (fun i => [(p0, .inr (9, [.ref u0, .ref l0, .ref r0, .ref f0, .ref kp, .ref ik, .ref x0, .ref s0, .ref q0, .ref g0, .ref b0, .ref ora, .ref c0, .ref d0])), (l0, .inr (3, [.int (nI (nt)), .int (nI (lw)), .int (nI (sl)), .ref lc, .ref lr, .ref lf, .ref lv, .ref ln, .ref t0])), (lr, .inl (E.2.1.1, 6, .inl (nA (rt)))), (f0, .inr (2, [.int (nI (nb)), .int (nI (yr)), .ref fk, .ref ft, .ref fw, .ref fs, .ref fg, .ref fc])), (fk, .inl (E.2.1.1, 10, .inl (nA (kd)))), (ft, .inl (E.2.1.1, 10, .inl (nA (tw)))), (fw, .inl (E.2.1.1, 10, .inl (nA (wt))))]) (fun i => [(0, .ref p0), (1, .int (nI (t))), (2, .int (nI (n))), (3, .int (nI (p))), (4, .int (nI (k))), (5, .int (nI ((payB (gof nb kd tw wt rt t n p) i).1))), (6, .int ((payB (gof nb kd tw wt rt t n p) i).2)), (7, .int (nI (i + 1)))]) ?_ ?_ 0 (Nat.zero_le _)
          · intro i hi60 ih60
            show G E _ [(p0, .inr (9, [.ref u0, .ref l0, .ref r0, .ref f0, .ref kp, .ref ik, .ref x0, .ref s0, .ref q0, .ref g0, .ref b0, .ref ora, .ref c0, .ref d0])), (l0, .inr (3, [.int (nI (nt)), .int (nI (lw)), .int (nI (sl)), .ref lc, .ref lr, .ref lf, .ref lv, .ref ln, .ref t0])), (lr, .inl (E.2.1.1, 6, .inl (nA (rt)))), (f0, .inr (2, [.int (nI (nb)), .int (nI (yr)), .ref fk, .ref ft, .ref fw, .ref fs, .ref fg, .ref fc])), (fk, .inl (E.2.1.1, 10, .inl (nA (kd)))), (ft, .inl (E.2.1.1, 10, .inl (nA (tw)))), (fw, .inl (E.2.1.1, 10, .inl (nA (wt))))] 60 [(0, .ref p0), (1, .int (nI (t))), (2, .int (nI (n))), (3, .int (nI (p))), (4, .int (nI (k))), (5, .int (nI ((payB (gof nb kd tw wt rt t n p) i).1))), (6, .int ((payB (gof nb kd tw wt rt t n p) i).2)), (7, .int (nI (i + 1)))] []
            refine g_iload (q := 62) dX9_pays_60 rfl rfl ?_
            refine g_iconst (v := nI 3) (q := 63) dX9_pays_62 rfl ki_3 ?_
            refine g_icmp_gtN (t := 98) (q := 66) dX9_pays_63 (by decide) rfl (by omega) (by omega) (fun c63 => ?_) (fun c63 => ?_)
            · omega
            · skip
              refine g_aload_n (q := 67) dX9_pays_66 rfl rfl rfl ?_
              refine g_iload_n (q := 68) dX9_pays_67 rfl rfl rfl ?_
              refine g_iload_n (q := 69) dX9_pays_68 rfl rfl rfl ?_
              refine g_iload_n (q := 70) dX9_pays_69 rfl rfl rfl ?_
              refine g_iload (q := 72) dX9_pays_70 rfl rfl ?_
              refine gc_X9_248 (c_gof (by omega) (by omega) (by omega) hnb hw1 hkd htw hwt hrt) rfl (Nat.le_of_ble_eq_true rfl) rfl 0 rfl [0, 1, 2, 3, 4, 5, 6] rfl rfl (rest := []) rfl (Nat.le_of_ble_eq_true rfl) (q := 75) dX9_pays_72 rfl (exKM (ws' := [_, _, _, _, _, _, _]) (st' := [.int (gof nb kd tw wt rt t n p (i + 1))]) rfl rfl rfl ?_)
              refine g_istore (lv' := [(0, _), (1, _), (2, _), (3, _), (4, _), (5, _), (6, _), (7, _), (8, _)]) (q := 77) dX9_pays_75 rfl (Nat.le_of_ble_eq_true rfl) rfl ?_
              refine g_iload (q := 79) dX9_pays_77 rfl rfl ?_
              refine g_iload (q := 81) dX9_pays_79 rfl rfl ?_
              refine g_icmp_le (t := 92) (q := 84) dX9_pays_81 (by decide) rfl (fun c81 => ?_) (fun c81 => ?_)
              · skip
                refine g_iinc (lv' := [(0, _), (1, _), (2, _), (3, _), (4, _), (5, _), (6, _), (7, _), (8, _)]) (v := nI (i + 1 + 1)) (q := 95) dX9_pays_92 rfl rfl (nI_inc _) (Nat.le_of_ble_eq_true rfl) rfl ?_
                refine g_goto (q := 60) dX9_pays_95 (by decide) ?_
                refine g_less (lv' := [(0, _), (1, _), (2, _), (3, _), (4, _), (5, _), (6, _), (7, _)]) 8 rfl ?_
                rw [payB, if_neg (Int32.not_lt.mpr c81)] at ih60
                exact ih60
              · skip
                refine g_iload (q := 86) dX9_pays_84 rfl rfl ?_
                refine g_istore (lv' := [(0, _), (1, _), (2, _), (3, _), (4, _), (5, _), (6, _), (7, _), (8, _)]) (q := 88) dX9_pays_86 rfl (Nat.le_of_ble_eq_true rfl) rfl ?_
                refine g_iload (q := 90) dX9_pays_88 rfl rfl ?_
                refine g_istore (lv' := [(0, _), (1, _), (2, _), (3, _), (4, _), (5, _), (6, _), (7, _), (8, _)]) (q := 92) dX9_pays_90 rfl (Nat.le_of_ble_eq_true rfl) rfl ?_
                refine g_iinc (lv' := [(0, _), (1, _), (2, _), (3, _), (4, _), (5, _), (6, _), (7, _), (8, _)]) (v := nI (i + 1 + 1)) (q := 95) dX9_pays_92 rfl rfl (nI_inc _) (Nat.le_of_ble_eq_true rfl) rfl ?_
                refine g_goto (q := 60) dX9_pays_95 (by decide) ?_
                refine g_less (lv' := [(0, _), (1, _), (2, _), (3, _), (4, _), (5, _), (6, _), (7, _)]) 8 rfl ?_
                rw [payB, if_pos (Int32.not_le.mp c81)] at ih60
                exact ih60
          · skip
            show G E _ [(p0, .inr (9, [.ref u0, .ref l0, .ref r0, .ref f0, .ref kp, .ref ik, .ref x0, .ref s0, .ref q0, .ref g0, .ref b0, .ref ora, .ref c0, .ref d0])), (l0, .inr (3, [.int (nI (nt)), .int (nI (lw)), .int (nI (sl)), .ref lc, .ref lr, .ref lf, .ref lv, .ref ln, .ref t0])), (lr, .inl (E.2.1.1, 6, .inl (nA (rt)))), (f0, .inr (2, [.int (nI (nb)), .int (nI (yr)), .ref fk, .ref ft, .ref fw, .ref fs, .ref fg, .ref fc])), (fk, .inl (E.2.1.1, 10, .inl (nA (kd)))), (ft, .inl (E.2.1.1, 10, .inl (nA (tw)))), (fw, .inl (E.2.1.1, 10, .inl (nA (wt))))] 60 [(0, .ref p0), (1, .int (nI (t))), (2, .int (nI (n))), (3, .int (nI (p))), (4, .int (nI (k))), (5, .int (nI ((payB (gof nb kd tw wt rt t n p) 3).1))), (6, .int ((payB (gof nb kd tw wt rt t n p) 3).2)), (7, .int (nI (3 + 1)))] []
            refine g_iload (q := 62) dX9_pays_60 rfl rfl ?_
            refine g_iconst (v := nI 3) (q := 63) dX9_pays_62 rfl ki_3 ?_
            refine g_icmp_gtN (t := 98) (q := 66) dX9_pays_63 (by decide) rfl (by omega) (by omega) (fun c63 => ?_) (fun c63 => ?_)
            · skip
              refine g_iload (q := 100) dX9_pays_98 rfl rfl ?_
              refine g_if_neN (t := 108) (q := 103) dX9_pays_100 (by decide) rfl (by omega) (fun c100 => ?_) (fun c100 => ?_)
              · skip
                refine g_ldc (v := nI 10000000) rfl mkX9_154 (q := 110) dX9_pays_108 rfl ?_
                refine g_iload (q := 112) dX9_pays_110 rfl rfl ?_
                refine g_iadd (q := 113) dX9_pays_112 rfl ?_
                refine g_iret (st := []) dX9_pays_113 rfl rfl rfl ?_
                exact xr (by simp only [opPays, ht, hn, hp, hk, if_neg c100])
              · skip
                refine g_iload (q := 105) dX9_pays_103 rfl rfl ?_
                refine g_goto (q := 113) dX9_pays_105 (by decide) ?_
                refine g_iret (st := []) dX9_pays_113 rfl rfl rfl ?_
                exact xr (by simp only [opPays, ht, hn, hp, hk, if_pos c100])
            · omega
        · have nk := isNone_t (bI_ne0.mp c38)
          refine g_bipush (v := (-3)) (q := 43) dX9_pays_41 rfl kb_m3 ?_
          refine g_iret (st := []) dX9_pays_43 rfl rfl rfl ?_
          exact xr (by simp only [opPays, ht, hn, hp, nk])
  · have nt := isNone_t (bI_ne0.mp c5)
    refine g_bipush (v := (-2)) (q := 10) dX9_pays_8 rfl kb_m2 ?_
    refine g_iret (st := []) dX9_pays_10 rfl rfl rfl ?_
    exact xr (by simp only [opPays, nt])
def opCount (nt nb lw sl en yr sn dn tl : Nat) (x : Int32) : Int32 := match tn x 9 with
  | none => -3
  | some k => if k = 0 then nI nt else if k = 1 then nI nb else if k = 2 then nI lw else if k = 3 then nI sl else if k = 4 then nI en else if k = 5 then nI yr else if k = 6 then nI sn else if k = 7 then nI dn else nI tl
set_option maxHeartbeats 2000000 in
set_option maxRecDepth 20000 in
theorem c_count {E : EN} {p0 u0 l0 r0 f0 kp ik x0 s0 q0 g0 b0 ora c0 d0 : Nat} {fk ft fw fs fg fc nb yr : Nat} {lc lr lf lv ln t0 nt lw sl : Nat} {xb xg en c1 c2 c3 sn d1 d2 d3 d4 dn ub tl : Nat} {x : Int32} : CT E yX9_count cX9_count 2 (some .int) 0 [.ref p0, .int (x)] [(p0, .inr (9, [.ref u0, .ref l0, .ref r0, .ref f0, .ref kp, .ref ik, .ref x0, .ref s0, .ref q0, .ref g0, .ref b0, .ref ora, .ref c0, .ref d0])), (l0, .inr (3, [.int (nI (nt)), .int (nI (lw)), .int (nI (sl)), .ref lc, .ref lr, .ref lf, .ref lv, .ref ln, .ref t0])), (f0, .inr (2, [.int (nI (nb)), .int (nI (yr)), .ref fk, .ref ft, .ref fw, .ref fs, .ref fg, .ref fc])), (x0, .inr (1, [.int (nI (en)), .ref xb, .ref xg])), (c0, .inr (7, [.int (nI (sn)), .ref c1, .ref c2, .ref c3])), (d0, .inr (6, [.int (nI (dn)), .ref d1, .ref d2, .ref d3, .ref d4])), (u0, .inr (8, [.int (nI (tl)), .ref ub]))] (xQ (some (.int (opCount nt nb lw sl en yr sn dn tl x))) [(p0, .inr (9, [.ref u0, .ref l0, .ref r0, .ref f0, .ref kp, .ref ik, .ref x0, .ref s0, .ref q0, .ref g0, .ref b0, .ref ora, .ref c0, .ref d0])), (l0, .inr (3, [.int (nI (nt)), .int (nI (lw)), .int (nI (sl)), .ref lc, .ref lr, .ref lf, .ref lv, .ref ln, .ref t0])), (f0, .inr (2, [.int (nI (nb)), .int (nI (yr)), .ref fk, .ref ft, .ref fw, .ref fs, .ref fg, .ref fc])), (x0, .inr (1, [.int (nI (en)), .ref xb, .ref xg])), (c0, .inr (7, [.int (nI (sn)), .ref c1, .ref c2, .ref c3])), (d0, .inr (6, [.int (nI (dn)), .ref d1, .ref d2, .ref d3, .ref d4])), (u0, .inr (8, [.int (nI (tl)), .ref ub]))]) := by
  refine ct_of (by decide +kernel) (Nat.le_of_ble_eq_true rfl) (lv := [(0, .ref p0), (1, .int (x))]) rfl (fun A => ?_)
  refine g_iload_n (q := 1) dX9_count_0 rfl rfl rfl ?_
  rcases hk : tn x 9 with _ | k
  · refine g_tableOut (q := 124) dX9_count_1 (tn_out hk (by decide)) (by decide) ?_
    refine g_bipush (v := (-3)) (q := 126) dX9_count_124 rfl kb_m3 ?_
    refine g_iret (st := []) dX9_count_126 rfl rfl rfl ?_
    exact xr (by simp [opCount, hk])
  · obtain ⟨hk1, rfl⟩ := tn_some hk
    rcases (show k = 0 ∨ k = 1 ∨ k = 2 ∨ k = 3 ∨ k = 4 ∨ k = 5 ∨ k = 6 ∨ k = 7 ∨ k = 8 by omega) with rfl | rfl | rfl | rfl | rfl | rfl | rfl | rfl | rfl
    · refine g_tableIn (off := 51) (q := 52) dX9_count_1 (by decide) (by decide) (by decide) (by decide) ?_
      refine g_aload_n (q := 53) dX9_count_52 rfl rfl rfl ?_
      refine gf_X9_19 rfl 0 rfl rfl (q := 56) dX9_count_53 rfl ?_
      refine gf_X9_209 rfl 1 rfl rfl (q := 59) dX9_count_56 rfl ?_
      refine g_iret (st := []) dX9_count_59 rfl rfl rfl ?_
      exact xr (by simp [opCount, hk])
    · refine g_tableIn (off := 59) (q := 60) dX9_count_1 (by decide) (by decide) (by decide) (by decide) ?_
      refine g_aload_n (q := 61) dX9_count_60 rfl rfl rfl ?_
      refine gf_X9_35 rfl 0 rfl rfl (q := 64) dX9_count_61 rfl ?_
      refine gf_X9_252 rfl 2 rfl rfl (q := 67) dX9_count_64 rfl ?_
      refine g_iret (st := []) dX9_count_67 rfl rfl rfl ?_
      exact xr (by simp [opCount, hk])
    · refine g_tableIn (off := 67) (q := 68) dX9_count_1 (by decide) (by decide) (by decide) (by decide) ?_
      refine g_aload_n (q := 69) dX9_count_68 rfl rfl rfl ?_
      refine gf_X9_19 rfl 0 rfl rfl (q := 72) dX9_count_69 rfl ?_
      refine gf_X9_280 rfl 1 rfl rfl (q := 75) dX9_count_72 rfl ?_
      refine g_iret (st := []) dX9_count_75 rfl rfl rfl ?_
      exact xr (by simp [opCount, hk])
    · refine g_tableIn (off := 75) (q := 76) dX9_count_1 (by decide) (by decide) (by decide) (by decide) ?_
      refine g_aload_n (q := 77) dX9_count_76 rfl rfl rfl ?_
      refine gf_X9_19 rfl 0 rfl rfl (q := 80) dX9_count_77 rfl ?_
      refine gf_X9_283 rfl 1 rfl rfl (q := 83) dX9_count_80 rfl ?_
      refine g_iret (st := []) dX9_count_83 rfl rfl rfl ?_
      exact xr (by simp [opCount, hk])
    · refine g_tableIn (off := 83) (q := 84) dX9_count_1 (by decide) (by decide) (by decide) (by decide) ?_
      refine g_aload_n (q := 85) dX9_count_84 rfl rfl rfl ?_
      refine gf_X9_50 rfl 0 rfl rfl (q := 88) dX9_count_85 rfl ?_
      refine gf_X9_130 rfl 3 rfl rfl (q := 91) dX9_count_88 rfl ?_
      refine g_iret (st := []) dX9_count_91 rfl rfl rfl ?_
      exact xr (by simp [opCount, hk])
    · refine g_tableIn (off := 91) (q := 92) dX9_count_1 (by decide) (by decide) (by decide) (by decide) ?_
      refine g_aload_n (q := 93) dX9_count_92 rfl rfl rfl ?_
      refine gf_X9_35 rfl 0 rfl rfl (q := 96) dX9_count_93 rfl ?_
      refine gf_X9_238 rfl 2 rfl rfl (q := 99) dX9_count_96 rfl ?_
      refine g_iret (st := []) dX9_count_99 rfl rfl rfl ?_
      exact xr (by simp [opCount, hk])
    · refine g_tableIn (off := 99) (q := 100) dX9_count_1 (by decide) (by decide) (by decide) (by decide) ?_
      refine g_aload_n (q := 101) dX9_count_100 rfl rfl rfl ?_
      refine gf_X9_83 rfl 0 rfl rfl (q := 104) dX9_count_101 rfl ?_
      refine gf_X9_133 rfl 4 rfl rfl (q := 107) dX9_count_104 rfl ?_
      refine g_iret (st := []) dX9_count_107 rfl rfl rfl ?_
      exact xr (by simp [opCount, hk])
    · refine g_tableIn (off := 107) (q := 108) dX9_count_1 (by decide) (by decide) (by decide) (by decide) ?_
      refine g_aload_n (q := 109) dX9_count_108 rfl rfl rfl ?_
      refine gf_X9_90 rfl 0 rfl rfl (q := 112) dX9_count_109 rfl ?_
      refine gf_X9_134 rfl 5 rfl rfl (q := 115) dX9_count_112 rfl ?_
      refine g_iret (st := []) dX9_count_115 rfl rfl rfl ?_
      exact xr (by simp [opCount, hk])
    · refine g_tableIn (off := 115) (q := 116) dX9_count_1 (by decide) (by decide) (by decide) (by decide) ?_
      refine g_aload_n (q := 117) dX9_count_116 rfl rfl rfl ?_
      refine gf_X9_10 rfl 0 rfl rfl (q := 120) dX9_count_117 rfl ?_
      refine gf_X9_98 rfl 6 rfl rfl (q := 123) dX9_count_120 rfl ?_
      refine g_iret (st := []) dX9_count_123 rfl rfl rfl ?_
      exact xr (by simp [opCount, hk])
set_option maxHeartbeats 2000000 in
set_option maxRecDepth 20000 in
theorem c_beginAsTold {E : EN} {p0 u0 l0 r0 f0 kp ik x0 s0 q0 g0 b0 ora c0 d0 : Nat} {fk ft fw fs fg fc nb yr : Nat} {lc lr lf lv ln v0 nt lw sl : Nat} {kd tw wt sk gr : Nat → Nat} {ch : Nat → Int32} {vk vt vw vs vg vc tnb tyr : Nat} {tkd ttw twt tsk tgr : Nat → Nat} {tch : Nat → Int32} {i0 i1 : Bool} {xb xg en c1 c2 c3 sn d1 d2 d3 d4 dn : Nat} : CT E yX9_beginAsTold cX9_beginAsTold 2 (none) 2 [.ref p0] [(p0, .inr (9, [.ref u0, .ref l0, .ref r0, .ref f0, .ref kp, .ref ik, .ref x0, .ref s0, .ref q0, .ref g0, .ref b0, .ref ora, .ref c0, .ref d0])), (f0, .inr (2, [.int (nI (nb)), .int (nI (yr)), .ref fk, .ref ft, .ref fw, .ref fs, .ref fg, .ref fc])), (fk, .inl (E.2.1.1, 10, .inl (nA (kd)))), (ft, .inl (E.2.1.1, 10, .inl (nA (tw)))), (fw, .inl (E.2.1.1, 10, .inl (nA (wt)))), (fs, .inl (E.2.1.1, 10, .inl (nA (sk)))), (fg, .inl (E.2.1.1, 10, .inl (nA (gr)))), (fc, .inl (E.2.1.1, 6, .inl (ch))), (l0, .inr (3, [.int (nI (nt)), .int (nI (lw)), .int (nI (sl)), .ref lc, .ref lr, .ref lf, .ref lv, .ref ln, .ref v0])), (v0, .inr (2, [.int (nI (tnb)), .int (nI (tyr)), .ref vk, .ref vt, .ref vw, .ref vs, .ref vg, .ref vc])), (vk, .inl (E.2.1.1, 10, .inl (nA (tkd)))), (vt, .inl (E.2.1.1, 10, .inl (nA (ttw)))), (vw, .inl (E.2.1.1, 10, .inl (nA (twt)))), (vs, .inl (E.2.1.1, 10, .inl (nA (tsk)))), (vg, .inl (E.2.1.1, 10, .inl (nA (tgr)))), (vc, .inl (E.2.1.1, 6, .inl (tch))), (ik, .inl (E.2.1.2.2.1, 2, .inl (ikA (i0) (i1)))), (x0, .inr (1, [.int (nI (en)), .ref xb, .ref xg])), (c0, .inr (7, [.int (nI (sn)), .ref c1, .ref c2, .ref c3])), (d0, .inr (6, [.int (nI (dn)), .ref d1, .ref d2, .ref d3, .ref d4]))] (xQ none [(p0, .inr (9, [.ref u0, .ref l0, .ref r0, .ref f0, .ref kp, .ref ik, .ref x0, .ref s0, .ref q0, .ref g0, .ref b0, .ref ora, .ref c0, .ref d0])), (f0, .inr (2, [.int (nI (tnb)), .int (nI (tyr)), .ref fk, .ref ft, .ref fw, .ref fs, .ref fg, .ref fc])), (fk, .inl (E.2.1.1, 10, .inl (nA (tkd)))), (ft, .inl (E.2.1.1, 10, .inl (nA (ttw)))), (fw, .inl (E.2.1.1, 10, .inl (nA (twt)))), (fs, .inl (E.2.1.1, 10, .inl (nA (tsk)))), (fg, .inl (E.2.1.1, 10, .inl (nA (tgr)))), (fc, .inl (E.2.1.1, 6, .inl (tch))), (l0, .inr (3, [.int (nI (nt)), .int (nI (lw)), .int (nI (sl)), .ref lc, .ref lr, .ref lf, .ref lv, .ref ln, .ref v0])), (v0, .inr (2, [.int (nI (tnb)), .int (nI (tyr)), .ref vk, .ref vt, .ref vw, .ref vs, .ref vg, .ref vc])), (vk, .inl (E.2.1.1, 10, .inl (nA (tkd)))), (vt, .inl (E.2.1.1, 10, .inl (nA (ttw)))), (vw, .inl (E.2.1.1, 10, .inl (nA (twt)))), (vs, .inl (E.2.1.1, 10, .inl (nA (tsk)))), (vg, .inl (E.2.1.1, 10, .inl (nA (tgr)))), (vc, .inl (E.2.1.1, 6, .inl (tch))), (ik, .inl (E.2.1.2.2.1, 2, .inl (ikA (false) (false)))), (x0, .inr (1, [.int (nI (0)), .ref xb, .ref xg])), (c0, .inr (7, [.int (nI (0)), .ref c1, .ref c2, .ref c3])), (d0, .inr (6, [.int (nI (0)), .ref d1, .ref d2, .ref d3, .ref d4]))]) := by
  refine ct_of (by decide +kernel) (Nat.le_of_ble_eq_true rfl) (lv := [(0, .ref p0)]) rfl (fun A => ?_)
  refine g_aload_n (q := 1) dX9_beginAsTold_0 rfl rfl rfl ?_
  refine gf_X9_35 rfl 0 rfl rfl (q := 4) dX9_beginAsTold_1 rfl ?_
  refine g_aload_n (q := 5) dX9_beginAsTold_4 rfl rfl rfl ?_
  refine gf_X9_19 rfl 0 rfl rfl (q := 8) dX9_beginAsTold_5 rfl ?_
  refine gf_X9_124 rfl 8 rfl rfl (q := 11) dX9_beginAsTold_8 rfl ?_
  refine gc_X9_127 (c_become) rfl (Nat.le_of_ble_eq_true rfl) rfl 1 rfl [1, 2, 3, 4, 5, 6, 7, 9, 10, 11, 12, 13, 14, 15] rfl rfl (rest := []) rfl (Nat.le_of_ble_eq_true rfl) (q := 14) dX9_beginAsTold_11 rfl (exKM (ws' := [_, (_, .inr (_, [_, _, _, _, _, _, _, _])), (_, .inl (_, _, .inl _)), (_, .inl (_, _, .inl _)), (_, .inl (_, _, .inl _)), (_, .inl (_, _, .inl _)), (_, .inl (_, _, .inl _)), (_, .inl (_, _, .inl _)), _, (_, .inr (_, [_, _, _, _, _, _, _, _])), (_, .inl (_, _, .inl _)), (_, .inl (_, _, .inl _)), (_, .inl (_, _, .inl _)), (_, .inl (_, _, .inl _)), (_, .inl (_, _, .inl _)), (_, .inl (_, _, .inl _)), _, _, _, _]) (st' := []) rfl rfl rfl ?_)
  refine g_iconst (v := nI 0) (q := 15) dX9_beginAsTold_14 rfl ki_0 ?_
  refine g_istore_n (lv' := [(0, _), (1, _)]) (q := 16) dX9_beginAsTold_15 rfl rfl (Nat.le_of_ble_eq_true rfl) rfl ?_
  refine g_iload_n (q := 17) dX9_beginAsTold_16 rfl rfl rfl ?_
  refine g_iconst (v := nI 2) (q := 18) dX9_beginAsTold_17 rfl ki_2 ?_
  refine g_icmp_geN (t := 34) (q := 21) dX9_beginAsTold_18 (by decide) rfl (by omega) (by omega) (fun c18 => ?_) (fun c18 => ?_)
  · omega
  · skip
    refine g_aload_n (q := 22) dX9_beginAsTold_21 rfl rfl rfl ?_
    refine gf_X9_43 rfl 0 rfl rfl (q := 25) dX9_beginAsTold_22 rfl ?_
    refine g_iload_n (q := 26) dX9_beginAsTold_25 rfl rfl rfl ?_
    refine g_iconst (v := nI 0) (q := 27) dX9_beginAsTold_26 rfl ki_0 ?_
    refine g_zast (f' := (ikA (false) (i1))) 16 rfl (ixIn (j := 0) rfl (by omega) (by decide)) (ikA_w0 i0 i1 false) (ws' := [_, _, _, _, _, _, _, _, _, _, _, _, _, _, _, _, (_, .inl (_, _, .inl _)), _, _, _]) rfl (q := 28) dX9_beginAsTold_27 rfl ?_
    refine g_iinc (lv' := [(0, _), (1, _)]) (v := nI (1)) (q := 31) dX9_beginAsTold_28 rfl rfl (nI_inc _) (Nat.le_of_ble_eq_true rfl) rfl ?_
    refine g_goto (q := 16) dX9_beginAsTold_31 (by decide) ?_
    refine g_iload_n (q := 17) dX9_beginAsTold_16 rfl rfl rfl ?_
    refine g_iconst (v := nI 2) (q := 18) dX9_beginAsTold_17 rfl ki_2 ?_
    refine g_icmp_geN (t := 34) (q := 21) dX9_beginAsTold_18 (by decide) rfl (by omega) (by omega) (fun c18 => ?_) (fun c18 => ?_)
    · omega
    · skip
      refine g_aload_n (q := 22) dX9_beginAsTold_21 rfl rfl rfl ?_
      refine gf_X9_43 rfl 0 rfl rfl (q := 25) dX9_beginAsTold_22 rfl ?_
      refine g_iload_n (q := 26) dX9_beginAsTold_25 rfl rfl rfl ?_
      refine g_iconst (v := nI 0) (q := 27) dX9_beginAsTold_26 rfl ki_0 ?_
      refine g_zast (f' := (ikA (false) (false))) 16 rfl (ixIn (j := 1) rfl (by omega) (by decide)) (ikA_w1 false i1 false) (ws' := [_, _, _, _, _, _, _, _, _, _, _, _, _, _, _, _, (_, .inl (_, _, .inl _)), _, _, _]) rfl (q := 28) dX9_beginAsTold_27 rfl ?_
      refine g_iinc (lv' := [(0, _), (1, _)]) (v := nI (2)) (q := 31) dX9_beginAsTold_28 rfl rfl (nI_inc _) (Nat.le_of_ble_eq_true rfl) rfl ?_
      refine g_goto (q := 16) dX9_beginAsTold_31 (by decide) ?_
      refine g_iload_n (q := 17) dX9_beginAsTold_16 rfl rfl rfl ?_
      refine g_iconst (v := nI 2) (q := 18) dX9_beginAsTold_17 rfl ki_2 ?_
      refine g_icmp_geN (t := 34) (q := 21) dX9_beginAsTold_18 (by decide) rfl (by omega) (by omega) (fun c18 => ?_) (fun c18 => ?_)
      · skip
        refine g_aload_n (q := 35) dX9_beginAsTold_34 rfl rfl rfl ?_
        refine gf_X9_50 rfl 0 rfl rfl (q := 38) dX9_beginAsTold_35 rfl ?_
        refine g_iconst (v := nI 0) (q := 39) dX9_beginAsTold_38 rfl ki_0 ?_
        refine pf_X9_130 rfl 17 rfl (Nat.le_of_ble_eq_true rfl) (ws' := [_, _, _, _, _, _, _, _, _, _, _, _, _, _, _, _, _, (_, .inr (_, [_, _, _])), _, _]) rfl (q := 42) dX9_beginAsTold_39 rfl ?_
        refine g_aload_n (q := 43) dX9_beginAsTold_42 rfl rfl rfl ?_
        refine gf_X9_83 rfl 0 rfl rfl (q := 46) dX9_beginAsTold_43 rfl ?_
        refine g_iconst (v := nI 0) (q := 47) dX9_beginAsTold_46 rfl ki_0 ?_
        refine pf_X9_133 rfl 18 rfl (Nat.le_of_ble_eq_true rfl) (ws' := [_, _, _, _, _, _, _, _, _, _, _, _, _, _, _, _, _, _, (_, .inr (_, [_, _, _, _])), _]) rfl (q := 50) dX9_beginAsTold_47 rfl ?_
        refine g_aload_n (q := 51) dX9_beginAsTold_50 rfl rfl rfl ?_
        refine gf_X9_90 rfl 0 rfl rfl (q := 54) dX9_beginAsTold_51 rfl ?_
        refine g_iconst (v := nI 0) (q := 55) dX9_beginAsTold_54 rfl ki_0 ?_
        refine pf_X9_134 rfl 19 rfl (Nat.le_of_ble_eq_true rfl) (ws' := [_, _, _, _, _, _, _, _, _, _, _, _, _, _, _, _, _, _, _, (_, .inr (_, [_, _, _, _, _]))]) rfl (q := 58) dX9_beginAsTold_55 rfl ?_
        refine g_vret (st := []) dX9_beginAsTold_58 rfl rfl ?_
        exact xv
      · omega
