set_option maxHeartbeats 2000000 in
set_option maxRecDepth 20000 in
theorem c_isNoTown {E : EN} {p0 u0 l0 r0 f0 kp ik x0 s0 q0 g0 b0 ora c0 d0 : Nat} {lc lr lf lv ln t0 nt lw sl : Nat} {x : Int32} (hnt : nt < 1000) : CT E yX9_isNoTown cX9_isNoTown 2 (some .boolean) 1 [.ref p0, .int (x)] [(p0, .inr (9, [.ref u0, .ref l0, .ref r0, .ref f0, .ref kp, .ref ik, .ref x0, .ref s0, .ref q0, .ref g0, .ref b0, .ref ora, .ref c0, .ref d0])), (l0, .inr (3, [.int (nI (nt)), .int (nI (lw)), .int (nI (sl)), .ref lc, .ref lr, .ref lf, .ref lv, .ref ln, .ref t0]))] (xQ (some (.int (bI (tn x nt).isNone))) [(p0, .inr (9, [.ref u0, .ref l0, .ref r0, .ref f0, .ref kp, .ref ik, .ref x0, .ref s0, .ref q0, .ref g0, .ref b0, .ref ora, .ref c0, .ref d0])), (l0, .inr (3, [.int (nI (nt)), .int (nI (lw)), .int (nI (sl)), .ref lc, .ref lr, .ref lf, .ref lv, .ref ln, .ref t0]))]) := by
  refine ct_of (by decide +kernel) (Nat.le_of_ble_eq_true rfl) (lv := [(0, .ref p0), (1, .int (x))]) rfl (fun A => ?_)
  refine g_iload_n (q := 1) dX9_isNoTown_0 rfl rfl rfl ?_
  refine g_iconst (v := nI 0) (q := 2) dX9_isNoTown_1 rfl ki_0 ?_
  refine g_aload_n (q := 3) dX9_isNoTown_2 rfl rfl rfl ?_
  refine gf_X9_19 rfl 0 rfl rfl (q := 6) dX9_isNoTown_3 rfl ?_
  refine gf_X9_209 rfl 1 rfl rfl (q := 9) dX9_isNoTown_6 rfl ?_
  refine g_iconst (v := nI 1) (q := 10) dX9_isNoTown_9 rfl ki_1 ?_
  refine g_isub (q := 11) dX9_isNoTown_10 rfl ?_
  refine gc_X9_187 (c_isNotIn) rfl (Nat.le_of_ble_eq_true rfl) rfl [] rfl rfl (rest := []) rfl (Nat.le_of_ble_eq_true rfl) (q := 14) dX9_isNoTown_11 rfl (exK (ws' := [_, _]) (st' := [.int (bI (ninB x (nI 0) (nI nt - nI 1)))]) rfl rfl ?_)
  refine g_top (y := bI (tn x nt).isNone) (by rw [ninB_tn' (by omega)]) ?_
  refine g_iret (st := []) dX9_isNoTown_14 rfl (narZ (bI_01 _)) rfl ?_
  exact (xr rfl)
set_option maxHeartbeats 2000000 in
set_option maxRecDepth 20000 in
theorem c_isNoBoy {E : EN} {p0 u0 l0 r0 f0 kp ik x0 s0 q0 g0 b0 ora c0 d0 : Nat} {fk ft fw fs fg fc nb yr : Nat} {x : Int32} (hnb : nb < 1000) : CT E yX9_isNoBoy cX9_isNoBoy 2 (some .boolean) 1 [.ref p0, .int (x)] [(p0, .inr (9, [.ref u0, .ref l0, .ref r0, .ref f0, .ref kp, .ref ik, .ref x0, .ref s0, .ref q0, .ref g0, .ref b0, .ref ora, .ref c0, .ref d0])), (f0, .inr (2, [.int (nI (nb)), .int (nI (yr)), .ref fk, .ref ft, .ref fw, .ref fs, .ref fg, .ref fc]))] (xQ (some (.int (bI (tn x nb).isNone))) [(p0, .inr (9, [.ref u0, .ref l0, .ref r0, .ref f0, .ref kp, .ref ik, .ref x0, .ref s0, .ref q0, .ref g0, .ref b0, .ref ora, .ref c0, .ref d0])), (f0, .inr (2, [.int (nI (nb)), .int (nI (yr)), .ref fk, .ref ft, .ref fw, .ref fs, .ref fg, .ref fc]))]) := by
  refine ct_of (by decide +kernel) (Nat.le_of_ble_eq_true rfl) (lv := [(0, .ref p0), (1, .int (x))]) rfl (fun A => ?_)
  refine g_iload_n (q := 1) dX9_isNoBoy_0 rfl rfl rfl ?_
  refine g_iconst (v := nI 0) (q := 2) dX9_isNoBoy_1 rfl ki_0 ?_
  refine g_aload_n (q := 3) dX9_isNoBoy_2 rfl rfl rfl ?_
  refine gf_X9_35 rfl 0 rfl rfl (q := 6) dX9_isNoBoy_3 rfl ?_
  refine gf_X9_252 rfl 1 rfl rfl (q := 9) dX9_isNoBoy_6 rfl ?_
  refine g_iconst (v := nI 1) (q := 10) dX9_isNoBoy_9 rfl ki_1 ?_
  refine g_isub (q := 11) dX9_isNoBoy_10 rfl ?_
  refine gc_X9_187 (c_isNotIn) rfl (Nat.le_of_ble_eq_true rfl) rfl [] rfl rfl (rest := []) rfl (Nat.le_of_ble_eq_true rfl) (q := 14) dX9_isNoBoy_11 rfl (exK (ws' := [_, _]) (st' := [.int (bI (ninB x (nI 0) (nI nb - nI 1)))]) rfl rfl ?_)
  refine g_top (y := bI (tn x nb).isNone) (by rw [ninB_tn' (by omega)]) ?_
  refine g_iret (st := []) dX9_isNoBoy_14 rfl (narZ (bI_01 _)) rfl ?_
  exact (xr rfl)
set_option maxHeartbeats 2000000 in
set_option maxRecDepth 20000 in
theorem c_write {E : EN} {p0 u0 l0 r0 f0 kp ik x0 s0 q0 g0 b0 ora c0 d0 : Nat} {ub tl : Nat} {tx : Nat → Nat} {x : Int64} {n : Int32} (hl : tl ≤ 200) : CT E yX9_write cX9_write 5 (some .int) 1 [.ref p0, .long (x), .int (n)] [(p0, .inr (9, [.ref u0, .ref l0, .ref r0, .ref f0, .ref kp, .ref ik, .ref x0, .ref s0, .ref q0, .ref g0, .ref b0, .ref ora, .ref c0, .ref d0])), (u0, .inr (8, [.int (nI (tl)), .ref ub])), (ub, .inl (E.2.1.2.1, 200, .inl (bA (tx))))] (xQ (some (.int (opWrite tl tx x n).1)) [(p0, .inr (9, [.ref u0, .ref l0, .ref r0, .ref f0, .ref kp, .ref ik, .ref x0, .ref s0, .ref q0, .ref g0, .ref b0, .ref ora, .ref c0, .ref d0])), (u0, .inr (8, [.int (nI ((opWrite tl tx x n).2.1)), .ref ub])), (ub, .inl (E.2.1.2.1, 200, .inl (bA ((opWrite tl tx x n).2.2))))]) := by
  refine ct_of (by decide +kernel) (Nat.le_of_ble_eq_true rfl) (lv := [(0, .ref p0), (1, .long (x)), (3, .int (n))]) rfl (fun A => ?_)
  refine g_iload_n (q := 1) dX9_write_0 rfl rfl rfl ?_
  refine g_iconst (v := nI 1) (q := 2) dX9_write_1 rfl ki_1 ?_
  refine g_icmp_lt (t := 11) (q := 5) dX9_write_2 (by decide) rfl (fun c2 => ?_) (fun c2 => ?_)
  · skip
    have nk := rn_lo (a := 1) (b := 8) (by decide) (by decide) c2
    refine g_bipush (v := (-3)) (q := 13) dX9_write_11 rfl kb_m3 ?_
    refine g_iret (st := []) dX9_write_13 rfl rfl rfl ?_
    simp only [opWrite, nk]
    exact ⟨rfl, rfl⟩
  · skip
    refine g_iload_n (q := 6) dX9_write_5 rfl rfl rfl ?_
    refine g_bipush (v := nI 8) (q := 8) dX9_write_6 rfl kb_8 ?_
    refine g_icmp_le (t := 14) (q := 11) dX9_write_8 (by decide) rfl (fun c8 => ?_) (fun c8 => ?_)
    · skip
      obtain ⟨k, hk⟩ := rn_ok (a := 1) (b := 8) (by decide) (by decide) c2 c8
      obtain ⟨hk1, hk2, rfl⟩ := rn_some hk
      refine g_aload_n (q := 15) dX9_write_14 rfl rfl rfl ?_
      refine gf_X9_10 rfl 0 rfl rfl (q := 18) dX9_write_15 rfl ?_
      refine gf_X9_98 rfl 1 rfl rfl (q := 21) dX9_write_18 rfl ?_
      refine g_iload_n (q := 22) dX9_write_21 rfl rfl rfl ?_
      refine g_iaddN (q := 23) dX9_write_22 rfl ?_
      refine g_sipush (v := nI 200) (q := 26) dX9_write_23 rfl ks_200 ?_
      refine g_icmp_leN (t := 32) (q := 29) dX9_write_26 (by decide) rfl (by omega) (by omega) (fun c26 => ?_) (fun c26 => ?_)
      · skip
        refine g_iconst (v := nI 0) (q := 33) dX9_write_32 rfl ki_0 ?_
        refine g_istore (lv' := [(0, _), (1, _), (3, _), (4, _)]) (q := 35) dX9_write_33 rfl (Nat.le_of_ble_eq_true rfl) rfl ?_
        refine g_loop (k) (fun i => [(p0, .inr (9, [.ref u0, .ref l0, .ref r0, .ref f0, .ref kp, .ref ik, .ref x0, .ref s0, .ref q0, .ref g0, .ref b0, .ref ora, .ref c0, .ref d0])), (u0, .inr (8, [.int (nI (tl + i)), .ref ub])), (ub, .inl (E.2.1.2.1, 200, .inl (bA (wrT tx tl x i))))]) (fun i => [(0, .ref p0), (1, .long (x)), (3, .int (nI (k))), (4, .int (nI (i)))]) ?_ ?_ 0 (Nat.zero_le _)
        · intro i hi35 ih35
          show G E _ [(p0, .inr (9, [.ref u0, .ref l0, .ref r0, .ref f0, .ref kp, .ref ik, .ref x0, .ref s0, .ref q0, .ref g0, .ref b0, .ref ora, .ref c0, .ref d0])), (u0, .inr (8, [.int (nI (tl + i)), .ref ub])), (ub, .inl (E.2.1.2.1, 200, .inl (bA (wrT tx tl x i))))] 35 [(0, .ref p0), (1, .long (x)), (3, .int (nI (k))), (4, .int (nI (i)))] []
          refine g_iload (q := 37) dX9_write_35 rfl rfl ?_
          refine g_iload_n (q := 38) dX9_write_37 rfl rfl rfl ?_
          refine g_icmp_geN (t := 66) (q := 41) dX9_write_38 (by decide) rfl (by omega) (by omega) (fun c38 => ?_) (fun c38 => ?_)
          · omega
          · skip
            refine g_aload_n (q := 42) dX9_write_41 rfl rfl rfl ?_
            refine gf_X9_10 rfl 0 rfl rfl (q := 45) dX9_write_42 rfl ?_
            refine g_lload_n (q := 46) dX9_write_45 rfl rfl rfl ?_
            refine g_bipush (v := nI 8) (q := 48) dX9_write_46 rfl kb_8 ?_
            refine g_iload (q := 50) dX9_write_48 rfl rfl ?_
            refine g_imulN (q := 51) dX9_write_50 rfl ?_
            refine g_lshr (q := 52) dX9_write_51 rfl ?_
            refine g_ldc2 (v := 255) rfl mkX9_102 (q := 55) dX9_write_52 rfl ?_
            refine g_land (q := 56) dX9_write_55 rfl ?_
            refine g_l2i (q := 57) dX9_write_56 rfl ?_
            refine g_top (y := nI (byN x i)) (byN_val x i) ?_
            refine gc_X9_104 (c_append (by omega) (byN_lt x i)) rfl (Nat.le_of_ble_eq_true rfl) rfl 1 rfl [1, 2] rfl rfl (rest := []) rfl (Nat.le_of_ble_eq_true rfl) (q := 60) dX9_write_57 rfl (exK (ws' := [_, (_, .inr (_, [_, _])), (_, .inl (_, _, .inl _))]) (st' := []) rfl rfl ?_)
            refine g_iinc (lv' := [(0, _), (1, _), (3, _), (4, _)]) (v := nI (i + 1)) (q := 63) dX9_write_60 rfl rfl (nI_inc _) (Nat.le_of_ble_eq_true rfl) rfl ?_
            refine g_goto (q := 35) dX9_write_63 (by decide) ?_
            exact ih35
        · skip
          show G E _ [(p0, .inr (9, [.ref u0, .ref l0, .ref r0, .ref f0, .ref kp, .ref ik, .ref x0, .ref s0, .ref q0, .ref g0, .ref b0, .ref ora, .ref c0, .ref d0])), (u0, .inr (8, [.int (nI (tl + k)), .ref ub])), (ub, .inl (E.2.1.2.1, 200, .inl (bA (wrT tx tl x k))))] 35 [(0, .ref p0), (1, .long (x)), (3, .int (nI (k))), (4, .int (nI (k)))] []
          refine g_iload (q := 37) dX9_write_35 rfl rfl ?_
          refine g_iload_n (q := 38) dX9_write_37 rfl rfl rfl ?_
          refine g_icmp_geN (t := 66) (q := 41) dX9_write_38 (by decide) rfl (by omega) (by omega) (fun c38 => ?_) (fun c38 => ?_)
          · skip
            refine g_aload_n (q := 67) dX9_write_66 rfl rfl rfl ?_
            refine gf_X9_10 rfl 0 rfl rfl (q := 70) dX9_write_67 rfl ?_
            refine gf_X9_98 rfl 1 rfl rfl (q := 73) dX9_write_70 rfl ?_
            refine g_iret (st := []) dX9_write_73 rfl rfl rfl ?_
            simp only [opWrite, hk, if_neg (show ¬ 200 < tl + k by omega)]
            exact ⟨rfl, rfl⟩
          · omega
      · skip
        refine g_bipush (v := (-5)) (q := 31) dX9_write_29 rfl kb_m5 ?_
        refine g_iret (st := []) dX9_write_31 rfl rfl rfl ?_
        simp only [opWrite, hk, if_pos (show 200 < tl + k by omega)]
        exact ⟨rfl, rfl⟩
    · skip
      have nk := rn_hi (a := 1) (b := 8) (by decide) (by decide) c8
      refine g_bipush (v := (-3)) (q := 13) dX9_write_11 rfl kb_m3 ?_
      refine g_iret (st := []) dX9_write_13 rfl rfl rfl ?_
      simp only [opWrite, nk]
      exact ⟨rfl, rfl⟩
set_option maxHeartbeats 2000000 in
set_option maxRecDepth 20000 in
theorem c_erase {E : EN} {p0 u0 l0 r0 f0 kp ik x0 s0 q0 g0 b0 ora c0 d0 : Nat} {ub tl : Nat}  : CT E yX9_erase cX9_erase 2 (some .int) 0 [.ref p0] [(p0, .inr (9, [.ref u0, .ref l0, .ref r0, .ref f0, .ref kp, .ref ik, .ref x0, .ref s0, .ref q0, .ref g0, .ref b0, .ref ora, .ref c0, .ref d0])), (u0, .inr (8, [.int (nI (tl)), .ref ub]))] (xQ (some (.int (nI tl))) [(p0, .inr (9, [.ref u0, .ref l0, .ref r0, .ref f0, .ref kp, .ref ik, .ref x0, .ref s0, .ref q0, .ref g0, .ref b0, .ref ora, .ref c0, .ref d0])), (u0, .inr (8, [.int (nI (0)), .ref ub]))]) := by
  refine ct_of (by decide +kernel) (Nat.le_of_ble_eq_true rfl) (lv := [(0, .ref p0)]) rfl (fun A => ?_)
  refine g_aload_n (q := 1) dX9_erase_0 rfl rfl rfl ?_
  refine gf_X9_10 rfl 0 rfl rfl (q := 4) dX9_erase_1 rfl ?_
  refine gf_X9_98 rfl 1 rfl rfl (q := 7) dX9_erase_4 rfl ?_
  refine g_istore_n (lv' := [(0, _), (1, _)]) (q := 8) dX9_erase_7 rfl rfl (Nat.le_of_ble_eq_true rfl) rfl ?_
  refine g_aload_n (q := 9) dX9_erase_8 rfl rfl rfl ?_
  refine gf_X9_10 rfl 0 rfl rfl (q := 12) dX9_erase_9 rfl ?_
  refine g_iconst (v := nI 0) (q := 13) dX9_erase_12 rfl ki_0 ?_
  refine pf_X9_98 rfl 1 rfl (Nat.le_of_ble_eq_true rfl) (ws' := [_, (_, .inr (_, [_, _]))]) rfl (q := 16) dX9_erase_13 rfl ?_
  refine g_iload_n (q := 17) dX9_erase_16 rfl rfl rfl ?_
  refine g_iret (st := []) dX9_erase_17 rfl rfl rfl ?_
  exact (xr rfl)
set_option maxHeartbeats 2000000 in
set_option maxRecDepth 20000 in
theorem c_drop {E : EN} {p0 u0 l0 r0 f0 kp ik x0 s0 q0 g0 b0 ora c0 d0 : Nat} {xb xg en : Nat}  : CT E yX9_drop cX9_drop 2 (some .int) 0 [.ref p0] [(p0, .inr (9, [.ref u0, .ref l0, .ref r0, .ref f0, .ref kp, .ref ik, .ref x0, .ref s0, .ref q0, .ref g0, .ref b0, .ref ora, .ref c0, .ref d0])), (x0, .inr (1, [.int (nI (en)), .ref xb, .ref xg]))] (xQ (some (.int (nI en))) [(p0, .inr (9, [.ref u0, .ref l0, .ref r0, .ref f0, .ref kp, .ref ik, .ref x0, .ref s0, .ref q0, .ref g0, .ref b0, .ref ora, .ref c0, .ref d0])), (x0, .inr (1, [.int (nI (0)), .ref xb, .ref xg]))]) := by
  refine ct_of (by decide +kernel) (Nat.le_of_ble_eq_true rfl) (lv := [(0, .ref p0)]) rfl (fun A => ?_)
  refine g_aload_n (q := 1) dX9_drop_0 rfl rfl rfl ?_
  refine gf_X9_50 rfl 0 rfl rfl (q := 4) dX9_drop_1 rfl ?_
  refine gf_X9_130 rfl 1 rfl rfl (q := 7) dX9_drop_4 rfl ?_
  refine g_istore_n (lv' := [(0, _), (1, _)]) (q := 8) dX9_drop_7 rfl rfl (Nat.le_of_ble_eq_true rfl) rfl ?_
  refine g_aload_n (q := 9) dX9_drop_8 rfl rfl rfl ?_
  refine gf_X9_50 rfl 0 rfl rfl (q := 12) dX9_drop_9 rfl ?_
  refine g_iconst (v := nI 0) (q := 13) dX9_drop_12 rfl ki_0 ?_
  refine pf_X9_130 rfl 1 rfl (Nat.le_of_ble_eq_true rfl) (ws' := [_, (_, .inr (_, [_, _, _]))]) rfl (q := 16) dX9_drop_13 rfl ?_
  refine g_iload_n (q := 17) dX9_drop_16 rfl rfl rfl ?_
  refine g_iret (st := []) dX9_drop_17 rfl rfl rfl ?_
  exact (xr rfl)
set_option maxHeartbeats 2000000 in
set_option maxRecDepth 20000 in
theorem c_forget {E : EN} {p0 u0 l0 r0 f0 kp ik x0 s0 q0 g0 b0 ora c0 d0 : Nat} {c1 c2 c3 sn : Nat}  : CT E yX9_forget cX9_forget 2 (some .int) 0 [.ref p0] [(p0, .inr (9, [.ref u0, .ref l0, .ref r0, .ref f0, .ref kp, .ref ik, .ref x0, .ref s0, .ref q0, .ref g0, .ref b0, .ref ora, .ref c0, .ref d0])), (c0, .inr (7, [.int (nI (sn)), .ref c1, .ref c2, .ref c3]))] (xQ (some (.int (nI sn))) [(p0, .inr (9, [.ref u0, .ref l0, .ref r0, .ref f0, .ref kp, .ref ik, .ref x0, .ref s0, .ref q0, .ref g0, .ref b0, .ref ora, .ref c0, .ref d0])), (c0, .inr (7, [.int (nI (0)), .ref c1, .ref c2, .ref c3]))]) := by
  refine ct_of (by decide +kernel) (Nat.le_of_ble_eq_true rfl) (lv := [(0, .ref p0)]) rfl (fun A => ?_)
  refine g_aload_n (q := 1) dX9_forget_0 rfl rfl rfl ?_
  refine gf_X9_83 rfl 0 rfl rfl (q := 4) dX9_forget_1 rfl ?_
  refine gf_X9_133 rfl 1 rfl rfl (q := 7) dX9_forget_4 rfl ?_
  refine g_istore_n (lv' := [(0, _), (1, _)]) (q := 8) dX9_forget_7 rfl rfl (Nat.le_of_ble_eq_true rfl) rfl ?_
  refine g_aload_n (q := 9) dX9_forget_8 rfl rfl rfl ?_
  refine gf_X9_83 rfl 0 rfl rfl (q := 12) dX9_forget_9 rfl ?_
  refine g_iconst (v := nI 0) (q := 13) dX9_forget_12 rfl ki_0 ?_
  refine pf_X9_133 rfl 1 rfl (Nat.le_of_ble_eq_true rfl) (ws' := [_, (_, .inr (_, [_, _, _, _]))]) rfl (q := 16) dX9_forget_13 rfl ?_
  refine g_iload_n (q := 17) dX9_forget_16 rfl rfl rfl ?_
  refine g_iret (st := []) dX9_forget_17 rfl rfl rfl ?_
  exact (xr rfl)
set_option maxHeartbeats 2000000 in
set_option maxRecDepth 20000 in
theorem c_arrive {E : EN} {p0 u0 l0 r0 f0 kp ik x0 s0 q0 g0 b0 ora c0 d0 : Nat} {d1 d2 d3 d4 dn : Nat}  : CT E yX9_arrive cX9_arrive 2 (some .int) 0 [.ref p0] [(p0, .inr (9, [.ref u0, .ref l0, .ref r0, .ref f0, .ref kp, .ref ik, .ref x0, .ref s0, .ref q0, .ref g0, .ref b0, .ref ora, .ref c0, .ref d0])), (d0, .inr (6, [.int (nI (dn)), .ref d1, .ref d2, .ref d3, .ref d4]))] (xQ (some (.int (nI dn))) [(p0, .inr (9, [.ref u0, .ref l0, .ref r0, .ref f0, .ref kp, .ref ik, .ref x0, .ref s0, .ref q0, .ref g0, .ref b0, .ref ora, .ref c0, .ref d0])), (d0, .inr (6, [.int (nI (0)), .ref d1, .ref d2, .ref d3, .ref d4]))]) := by
  refine ct_of (by decide +kernel) (Nat.le_of_ble_eq_true rfl) (lv := [(0, .ref p0)]) rfl (fun A => ?_)
  refine g_aload_n (q := 1) dX9_arrive_0 rfl rfl rfl ?_
  refine gf_X9_90 rfl 0 rfl rfl (q := 4) dX9_arrive_1 rfl ?_
  refine gf_X9_134 rfl 1 rfl rfl (q := 7) dX9_arrive_4 rfl ?_
  refine g_istore_n (lv' := [(0, _), (1, _)]) (q := 8) dX9_arrive_7 rfl rfl (Nat.le_of_ble_eq_true rfl) rfl ?_
  refine g_aload_n (q := 9) dX9_arrive_8 rfl rfl rfl ?_
  refine gf_X9_90 rfl 0 rfl rfl (q := 12) dX9_arrive_9 rfl ?_
  refine g_iconst (v := nI 0) (q := 13) dX9_arrive_12 rfl ki_0 ?_
  refine pf_X9_134 rfl 1 rfl (Nat.le_of_ble_eq_true rfl) (ws' := [_, (_, .inr (_, [_, _, _, _, _]))]) rfl (q := 16) dX9_arrive_13 rfl ?_
  refine g_iload_n (q := 17) dX9_arrive_16 rfl rfl rfl ?_
  refine g_iret (st := []) dX9_arrive_17 rfl rfl rfl ?_
  exact (xr rfl)
set_option maxHeartbeats 2000000 in
set_option maxRecDepth 20000 in
theorem c_town {E : EN} {p0 u0 l0 r0 f0 kp ik x0 s0 q0 g0 b0 ora c0 d0 : Nat} {lc lr lf lv ln t0 nt lw sl : Nat} {fk ft fw fs fg fc nb yr : Nat} {cr rt fd nx tw : Nat → Nat} {wn ch : Nat → Int32} {x y : Int32} (hnt : nt ≤ 6) (hnb : nb ≤ 10) (htw : ∀ j, j < 10 → tw j < 6) : CT E yX9_town cX9_town 3 (some .int) 2 [.ref p0, .int (x), .int (y)] [(p0, .inr (9, [.ref u0, .ref l0, .ref r0, .ref f0, .ref kp, .ref ik, .ref x0, .ref s0, .ref q0, .ref g0, .ref b0, .ref ora, .ref c0, .ref d0])), (l0, .inr (3, [.int (nI (nt)), .int (nI (lw)), .int (nI (sl)), .ref lc, .ref lr, .ref lf, .ref lv, .ref ln, .ref t0])), (lc, .inl (E.2.1.1, 6, .inl (nA (cr)))), (lr, .inl (E.2.1.1, 6, .inl (nA (rt)))), (lf, .inl (E.2.1.1, 6, .inl (nA (fd)))), (lv, .inl (E.2.1.1, 6, .inl (wn))), (ln, .inl (E.2.1.1, 6, .inl (nA (nx)))), (f0, .inr (2, [.int (nI (nb)), .int (nI (yr)), .ref fk, .ref ft, .ref fw, .ref fs, .ref fg, .ref fc])), (ft, .inl (E.2.1.1, 10, .inl (nA (tw)))), (fc, .inl (E.2.1.1, 6, .inl (ch)))] (xQ (some (.int (opTown nt nb cr rt fd nx tw wn ch x y))) [(p0, .inr (9, [.ref u0, .ref l0, .ref r0, .ref f0, .ref kp, .ref ik, .ref x0, .ref s0, .ref q0, .ref g0, .ref b0, .ref ora, .ref c0, .ref d0])), (l0, .inr (3, [.int (nI (nt)), .int (nI (lw)), .int (nI (sl)), .ref lc, .ref lr, .ref lf, .ref lv, .ref ln, .ref t0])), (lc, .inl (E.2.1.1, 6, .inl (nA (cr)))), (lr, .inl (E.2.1.1, 6, .inl (nA (rt)))), (lf, .inl (E.2.1.1, 6, .inl (nA (fd)))), (lv, .inl (E.2.1.1, 6, .inl (wn))), (ln, .inl (E.2.1.1, 6, .inl (nA (nx)))), (f0, .inr (2, [.int (nI (nb)), .int (nI (yr)), .ref fk, .ref ft, .ref fw, .ref fs, .ref fg, .ref fc])), (ft, .inl (E.2.1.1, 10, .inl (nA (tw)))), (fc, .inl (E.2.1.1, 6, .inl (ch)))]) := by
  refine ct_of (by decide +kernel) (Nat.le_of_ble_eq_true rfl) (lv := [(0, .ref p0), (1, .int (x)), (2, .int (y))]) rfl (fun A => ?_)
  refine g_aload_n (q := 1) dX9_town_0 rfl rfl rfl ?_
  refine g_iload_n (q := 2) dX9_town_1 rfl rfl rfl ?_
  refine gc_X9_135 (c_isNoTown (by omega)) rfl (Nat.le_of_ble_eq_true rfl) rfl 0 rfl [0, 1] rfl rfl (rest := []) rfl (Nat.le_of_ble_eq_true rfl) (q := 5) dX9_town_2 rfl (exK (ws' := [_, _, _, _, _, _, _, _, _, _]) (st' := [.int (bI (tn x nt).isNone)]) rfl rfl ?_)
  refine g_if_eq (t := 11) (q := 8) dX9_town_5 (by decide) rfl (fun c5 => ?_) (fun c5 => ?_)
  · obtain ⟨t, ht⟩ := isNone_f (bI_eq0.mp c5)
    obtain ⟨ht1, rfl⟩ := tn_some ht
    refine g_iload_n (q := 12) dX9_town_11 rfl rfl rfl ?_
    rcases hk : tn y 7 with _ | k
    · refine g_tableOut (q := 128) dX9_town_12 (tn_out hk (by decide)) (by decide) ?_
      refine g_bipush (v := (-3)) (q := 130) dX9_town_128 rfl kb_m3 ?_
      refine g_iret (st := []) dX9_town_130 rfl rfl rfl ?_
      simp [opTown, ht, hk, xQ]
    · obtain ⟨hk1, rfl⟩ := tn_some hk
      rcases (show k = 0 ∨ k = 1 ∨ k = 2 ∨ k = 3 ∨ k = 4 ∨ k = 5 ∨ k = 6 by omega) with rfl | rfl | rfl | rfl | rfl | rfl | rfl
      · refine g_tableIn (off := 44) (q := 56) dX9_town_12 (by decide) (by decide) (by decide) (by decide) ?_
        refine g_aload_n (q := 57) dX9_town_56 rfl rfl rfl ?_
        refine gf_X9_19 rfl 0 rfl rfl (q := 60) dX9_town_57 rfl ?_
        refine gf_X9_139 rfl 1 rfl rfl (q := 63) dX9_town_60 rfl ?_
        refine g_iload_n (q := 64) dX9_town_63 rfl rfl rfl ?_
        refine g_iald (v := nI (cr t)) 2 rfl (ixIn (j := t) rfl (by omega) (by decide)) (ixV (j := t) rfl (by omega)) (q := 65) dX9_town_64 rfl ?_
        refine g_iret (st := []) dX9_town_65 rfl rfl rfl ?_
        simp [opTown, ht, hk, xQ]
      · refine g_tableIn (off := 54) (q := 66) dX9_town_12 (by decide) (by decide) (by decide) (by decide) ?_
        refine g_aload_n (q := 67) dX9_town_66 rfl rfl rfl ?_
        refine gf_X9_19 rfl 0 rfl rfl (q := 70) dX9_town_67 rfl ?_
        refine gf_X9_142 rfl 1 rfl rfl (q := 73) dX9_town_70 rfl ?_
        refine g_iload_n (q := 74) dX9_town_73 rfl rfl rfl ?_
        refine g_iald (v := nI (rt t)) 3 rfl (ixIn (j := t) rfl (by omega) (by decide)) (ixV (j := t) rfl (by omega)) (q := 75) dX9_town_74 rfl ?_
        refine g_iret (st := []) dX9_town_75 rfl rfl rfl ?_
        simp [opTown, ht, hk, xQ]
      · refine g_tableIn (off := 64) (q := 76) dX9_town_12 (by decide) (by decide) (by decide) (by decide) ?_
        refine g_aload_n (q := 77) dX9_town_76 rfl rfl rfl ?_
        refine gf_X9_19 rfl 0 rfl rfl (q := 80) dX9_town_77 rfl ?_
        refine gf_X9_145 rfl 1 rfl rfl (q := 83) dX9_town_80 rfl ?_
        refine g_iload_n (q := 84) dX9_town_83 rfl rfl rfl ?_
        refine g_iald (v := nI (fd t)) 4 rfl (ixIn (j := t) rfl (by omega) (by decide)) (ixV (j := t) rfl (by omega)) (q := 85) dX9_town_84 rfl ?_
        refine g_iret (st := []) dX9_town_85 rfl rfl rfl ?_
        simp [opTown, ht, hk, xQ]
      · refine g_tableIn (off := 74) (q := 86) dX9_town_12 (by decide) (by decide) (by decide) (by decide) ?_
        refine g_aload_n (q := 87) dX9_town_86 rfl rfl rfl ?_
        refine gf_X9_19 rfl 0 rfl rfl (q := 90) dX9_town_87 rfl ?_
        refine gf_X9_148 rfl 1 rfl rfl (q := 93) dX9_town_90 rfl ?_
        refine g_iload_n (q := 94) dX9_town_93 rfl rfl rfl ?_
        refine g_iald (v := wn t) 5 rfl (ixIn (j := t) rfl (by omega) (by decide)) (ixV (j := t) rfl (by omega)) (q := 95) dX9_town_94 rfl ?_
        refine g_iret (st := []) dX9_town_95 rfl rfl rfl ?_
        simp [opTown, ht, hk, xQ]
      · refine g_tableIn (off := 84) (q := 96) dX9_town_12 (by decide) (by decide) (by decide) (by decide) ?_
        refine g_aload_n (q := 97) dX9_town_96 rfl rfl rfl ?_
        refine gf_X9_19 rfl 0 rfl rfl (q := 100) dX9_town_97 rfl ?_
        refine gf_X9_151 rfl 1 rfl rfl (q := 103) dX9_town_100 rfl ?_
        refine g_iload_n (q := 104) dX9_town_103 rfl rfl rfl ?_
        refine g_iald (v := nI (nx t)) 6 rfl (ixIn (j := t) rfl (by omega) (by decide)) (ixV (j := t) rfl (by omega)) (q := 105) dX9_town_104 rfl ?_
        refine g_iret (st := []) dX9_town_105 rfl rfl rfl ?_
        simp [opTown, ht, hk, xQ]
      · refine g_tableIn (off := 94) (q := 106) dX9_town_12 (by decide) (by decide) (by decide) (by decide) ?_
        refine g_ldc (v := nI 10000000) rfl mkX9_154 (q := 108) dX9_town_106 rfl ?_
        refine g_aload_n (q := 109) dX9_town_108 rfl rfl rfl ?_
        refine gf_X9_35 rfl 0 rfl rfl (q := 112) dX9_town_109 rfl ?_
        refine gf_X9_155 rfl 7 rfl rfl (q := 115) dX9_town_112 rfl ?_
        refine g_iload_n (q := 116) dX9_town_115 rfl rfl rfl ?_
        refine g_iald (v := ch t) 9 rfl (ixIn (j := t) rfl (by omega) (by decide)) (ixV (j := t) rfl (by omega)) (q := 117) dX9_town_116 rfl ?_
        refine g_iadd (q := 118) dX9_town_117 rfl ?_
        refine g_iret (st := []) dX9_town_118 rfl rfl rfl ?_
        simp [opTown, ht, hk, xQ]
      · refine g_tableIn (off := 107) (q := 119) dX9_town_12 (by decide) (by decide) (by decide) (by decide) ?_
        refine g_aload_n (q := 120) dX9_town_119 rfl rfl rfl ?_
        refine gf_X9_35 rfl 0 rfl rfl (q := 123) dX9_town_120 rfl ?_
        refine g_iload_n (q := 124) dX9_town_123 rfl rfl rfl ?_
        refine gc_X9_158 (c_boysIn hnb (by omega) htw) rfl (Nat.le_of_ble_eq_true rfl) rfl 7 rfl [7, 8] rfl rfl (rest := []) rfl (Nat.le_of_ble_eq_true rfl) (q := 127) dX9_town_124 rfl (exK (ws' := [_, _, _, _, _, _, _, _, _, _]) (st' := [.int (nI (cntN (fun b => decide (tw b = t)) nb))]) rfl rfl ?_)
        refine g_iret (st := []) dX9_town_127 rfl rfl rfl ?_
        simp [opTown, ht, hk, xQ]
  · have nt := isNone_t (bI_ne0.mp c5)
    refine g_bipush (v := (-2)) (q := 10) dX9_town_8 rfl kb_m2 ?_
    refine g_iret (st := []) dX9_town_10 rfl rfl rfl ?_
    simp [opTown, nt, xQ]
set_option maxHeartbeats 2000000 in
set_option maxRecDepth 20000 in
theorem c_boy {E : EN} {p0 u0 l0 r0 f0 kp ik x0 s0 q0 g0 b0 ora c0 d0 : Nat} {lc lr lf lv ln t0 nt lw sl : Nat} {fk ft fw fs fg fc nb yr : Nat} {kd tw wt sk gr rt : Nat → Nat} {x y : Int32} (hnb : nb ≤ 10) (hkd : ∀ j, j < 10 → kd j < 4) (htw : ∀ j, j < 10 → tw j < 6) (hwt : ∀ j, j < 10 → wt j < 100) (hrt : ∀ j, j < 6 → rt j < 10)  : CT E yX9_boy cX9_boy 3 (some .int) 3 [.ref p0, .int (x), .int (y)] [(p0, .inr (9, [.ref u0, .ref l0, .ref r0, .ref f0, .ref kp, .ref ik, .ref x0, .ref s0, .ref q0, .ref g0, .ref b0, .ref ora, .ref c0, .ref d0])), (l0, .inr (3, [.int (nI (nt)), .int (nI (lw)), .int (nI (sl)), .ref lc, .ref lr, .ref lf, .ref lv, .ref ln, .ref t0])), (lr, .inl (E.2.1.1, 6, .inl (nA (rt)))), (f0, .inr (2, [.int (nI (nb)), .int (nI (yr)), .ref fk, .ref ft, .ref fw, .ref fs, .ref fg, .ref fc])), (fk, .inl (E.2.1.1, 10, .inl (nA (kd)))), (ft, .inl (E.2.1.1, 10, .inl (nA (tw)))), (fw, .inl (E.2.1.1, 10, .inl (nA (wt)))), (fs, .inl (E.2.1.1, 10, .inl (nA (sk)))), (fg, .inl (E.2.1.1, 10, .inl (nA (gr))))] (xQ (some (.int (opBoy nb kd tw wt sk gr rt x y))) [(p0, .inr (9, [.ref u0, .ref l0, .ref r0, .ref f0, .ref kp, .ref ik, .ref x0, .ref s0, .ref q0, .ref g0, .ref b0, .ref ora, .ref c0, .ref d0])), (l0, .inr (3, [.int (nI (nt)), .int (nI (lw)), .int (nI (sl)), .ref lc, .ref lr, .ref lf, .ref lv, .ref ln, .ref t0])), (lr, .inl (E.2.1.1, 6, .inl (nA (rt)))), (f0, .inr (2, [.int (nI (nb)), .int (nI (yr)), .ref fk, .ref ft, .ref fw, .ref fs, .ref fg, .ref fc])), (fk, .inl (E.2.1.1, 10, .inl (nA (kd)))), (ft, .inl (E.2.1.1, 10, .inl (nA (tw)))), (fw, .inl (E.2.1.1, 10, .inl (nA (wt)))), (fs, .inl (E.2.1.1, 10, .inl (nA (sk)))), (fg, .inl (E.2.1.1, 10, .inl (nA (gr))))]) := by
  refine ct_of (by decide +kernel) (Nat.le_of_ble_eq_true rfl) (lv := [(0, .ref p0), (1, .int (x)), (2, .int (y))]) rfl (fun A => ?_)
  refine g_aload_n (q := 1) dX9_boy_0 rfl rfl rfl ?_
  refine g_iload_n (q := 2) dX9_boy_1 rfl rfl rfl ?_
  refine gc_X9_162 (c_isNoBoy (by omega)) rfl (Nat.le_of_ble_eq_true rfl) rfl 0 rfl [0, 3] rfl rfl (rest := []) rfl (Nat.le_of_ble_eq_true rfl) (q := 5) dX9_boy_2 rfl (exK (ws' := [_, _, _, _, _, _, _, _, _]) (st' := [.int (bI (tn x nb).isNone)]) rfl rfl ?_)
  refine g_if_eq (t := 11) (q := 8) dX9_boy_5 (by decide) rfl (fun c5 => ?_) (fun c5 => ?_)
  · obtain ⟨b, hb⟩ := isNone_f (bI_eq0.mp c5)
    obtain ⟨hb1, rfl⟩ := tn_some hb
    refine g_iload_n (q := 12) dX9_boy_11 rfl rfl rfl ?_
    rcases hk : tn y 6 with _ | k
    · refine g_tableOut (q := 118) dX9_boy_12 (tn_out hk (by decide)) (by decide) ?_
      refine g_bipush (v := (-3)) (q := 120) dX9_boy_118 rfl kb_m3 ?_
      refine g_iret (st := []) dX9_boy_120 rfl rfl rfl ?_
      simp [opBoy, worN, hb, hk, xQ]
    · obtain ⟨hk1, rfl⟩ := tn_some hk
      rcases (show k = 0 ∨ k = 1 ∨ k = 2 ∨ k = 3 ∨ k = 4 ∨ k = 5 by omega) with rfl | rfl | rfl | rfl | rfl | rfl
      · refine g_tableIn (off := 40) (q := 52) dX9_boy_12 (by decide) (by decide) (by decide) (by decide) ?_
        refine g_aload_n (q := 53) dX9_boy_52 rfl rfl rfl ?_
        refine gf_X9_35 rfl 0 rfl rfl (q := 56) dX9_boy_53 rfl ?_
        refine gf_X9_165 rfl 3 rfl rfl (q := 59) dX9_boy_56 rfl ?_
        refine g_iload_n (q := 60) dX9_boy_59 rfl rfl rfl ?_
        refine g_iald (v := nI (kd b)) 4 rfl (ixIn (j := b) rfl (by omega) (by decide)) (ixV (j := b) rfl (by omega)) (q := 61) dX9_boy_60 rfl ?_
        refine g_iret (st := []) dX9_boy_61 rfl rfl rfl ?_
        simp [opBoy, worN, hb, hk, xQ]
      · refine g_tableIn (off := 50) (q := 62) dX9_boy_12 (by decide) (by decide) (by decide) (by decide) ?_
        refine g_aload_n (q := 63) dX9_boy_62 rfl rfl rfl ?_
        refine gf_X9_35 rfl 0 rfl rfl (q := 66) dX9_boy_63 rfl ?_
        refine gf_X9_168 rfl 3 rfl rfl (q := 69) dX9_boy_66 rfl ?_
        refine g_iload_n (q := 70) dX9_boy_69 rfl rfl rfl ?_
        refine g_iald (v := nI (tw b)) 5 rfl (ixIn (j := b) rfl (by omega) (by decide)) (ixV (j := b) rfl (by omega)) (q := 71) dX9_boy_70 rfl ?_
        refine g_iret (st := []) dX9_boy_71 rfl rfl rfl ?_
        simp [opBoy, worN, hb, hk, xQ]
      · refine g_tableIn (off := 60) (q := 72) dX9_boy_12 (by decide) (by decide) (by decide) (by decide) ?_
        refine g_aload_n (q := 73) dX9_boy_72 rfl rfl rfl ?_
        refine gf_X9_35 rfl 0 rfl rfl (q := 76) dX9_boy_73 rfl ?_
        refine gf_X9_171 rfl 3 rfl rfl (q := 79) dX9_boy_76 rfl ?_
        refine g_iload_n (q := 80) dX9_boy_79 rfl rfl rfl ?_
        refine g_iald (v := nI (wt b)) 6 rfl (ixIn (j := b) rfl (by omega) (by decide)) (ixV (j := b) rfl (by omega)) (q := 81) dX9_boy_80 rfl ?_
        refine g_iret (st := []) dX9_boy_81 rfl rfl rfl ?_
        simp [opBoy, worN, hb, hk, xQ]
      · refine g_tableIn (off := 70) (q := 82) dX9_boy_12 (by decide) (by decide) (by decide) (by decide) ?_
        refine g_aload_n (q := 83) dX9_boy_82 rfl rfl rfl ?_
        refine gf_X9_35 rfl 0 rfl rfl (q := 86) dX9_boy_83 rfl ?_
        refine gf_X9_174 rfl 3 rfl rfl (q := 89) dX9_boy_86 rfl ?_
        refine g_iload_n (q := 90) dX9_boy_89 rfl rfl rfl ?_
        refine g_iald (v := nI (sk b)) 7 rfl (ixIn (j := b) rfl (by omega) (by decide)) (ixV (j := b) rfl (by omega)) (q := 91) dX9_boy_90 rfl ?_
        refine g_iret (st := []) dX9_boy_91 rfl rfl rfl ?_
        simp [opBoy, worN, hb, hk, xQ]
      · refine g_tableIn (off := 80) (q := 92) dX9_boy_12 (by decide) (by decide) (by decide) (by decide) ?_
        refine g_aload_n (q := 93) dX9_boy_92 rfl rfl rfl ?_
        refine gf_X9_35 rfl 0 rfl rfl (q := 96) dX9_boy_93 rfl ?_
        refine gf_X9_177 rfl 3 rfl rfl (q := 99) dX9_boy_96 rfl ?_
        refine g_iload_n (q := 100) dX9_boy_99 rfl rfl rfl ?_
        refine g_iald (v := nI (gr b)) 8 rfl (ixIn (j := b) rfl (by omega) (by decide)) (ixV (j := b) rfl (by omega)) (q := 101) dX9_boy_100 rfl ?_
        refine g_iret (st := []) dX9_boy_101 rfl rfl rfl ?_
        simp [opBoy, worN, hb, hk, xQ]
      · refine g_tableIn (off := 90) (q := 102) dX9_boy_12 (by decide) (by decide) (by decide) (by decide) ?_
        refine g_aload_n (q := 103) dX9_boy_102 rfl rfl rfl ?_
        refine gf_X9_35 rfl 0 rfl rfl (q := 106) dX9_boy_103 rfl ?_
        refine g_iload_n (q := 107) dX9_boy_106 rfl rfl rfl ?_
        refine g_aload_n (q := 108) dX9_boy_107 rfl rfl rfl ?_
        refine gf_X9_19 rfl 0 rfl rfl (q := 111) dX9_boy_108 rfl ?_
        refine gf_X9_142 rfl 1 rfl rfl (q := 114) dX9_boy_111 rfl ?_
        refine gc_X9_180 (c_worth (by omega) hkd htw hwt hrt) rfl (Nat.le_of_ble_eq_true rfl) rfl 3 rfl [3, 4, 5, 6, 2] rfl rfl (rest := []) rfl (Nat.le_of_ble_eq_true rfl) (q := 117) dX9_boy_114 rfl (exK (ws' := [_, _, _, _, _, _, _, _, _]) (st' := [.int (nI (pnd (kd b) (wt b) * rt (tw b)))]) rfl rfl ?_)
        refine g_iret (st := []) dX9_boy_117 rfl rfl rfl ?_
        simp [opBoy, worN, hb, hk, xQ]
  · have nb := isNone_t (bI_ne0.mp c5)
    refine g_bipush (v := (-2)) (q := 10) dX9_boy_8 rfl kb_m2 ?_
    refine g_iret (st := []) dX9_boy_10 rfl rfl rfl ?_
    simp [opBoy, worN, nb, xQ]
set_option maxHeartbeats 2000000 in
set_option maxRecDepth 20000 in
theorem c_as {E : EN} {p0 u0 l0 r0 f0 kp ik x0 s0 q0 g0 b0 ora c0 d0 : Nat} {fk ft fw fs fg fc nb yr : Nat} {kd wt : Nat → Nat} {x y : Int32} (hnb : nb ≤ 10) (hkd : ∀ j, j < 10 → kd j < 4) (hwt : ∀ j, j < 10 → wt j < 100)  : CT E yX9_as cX9_as 3 (some .int) 2 [.ref p0, .int (x), .int (y)] [(p0, .inr (9, [.ref u0, .ref l0, .ref r0, .ref f0, .ref kp, .ref ik, .ref x0, .ref s0, .ref q0, .ref g0, .ref b0, .ref ora, .ref c0, .ref d0])), (f0, .inr (2, [.int (nI (nb)), .int (nI (yr)), .ref fk, .ref ft, .ref fw, .ref fs, .ref fg, .ref fc])), (fk, .inl (E.2.1.1, 10, .inl (nA (kd)))), (fw, .inl (E.2.1.1, 10, .inl (nA (wt))))] (xQ (some (.int (opAs nb kd wt x y))) [(p0, .inr (9, [.ref u0, .ref l0, .ref r0, .ref f0, .ref kp, .ref ik, .ref x0, .ref s0, .ref q0, .ref g0, .ref b0, .ref ora, .ref c0, .ref d0])), (f0, .inr (2, [.int (nI (nb)), .int (nI (yr)), .ref fk, .ref ft, .ref fw, .ref fs, .ref fg, .ref fc])), (fk, .inl (E.2.1.1, 10, .inl (nA (kd)))), (fw, .inl (E.2.1.1, 10, .inl (nA (wt))))]) := by
  refine ct_of (by decide +kernel) (Nat.le_of_ble_eq_true rfl) (lv := [(0, .ref p0), (1, .int (x)), (2, .int (y))]) rfl (fun A => ?_)
  refine g_aload_n (q := 1) dX9_as_0 rfl rfl rfl ?_
  refine g_iload_n (q := 2) dX9_as_1 rfl rfl rfl ?_
  refine gc_X9_162 (c_isNoBoy (by omega)) rfl (Nat.le_of_ble_eq_true rfl) rfl 0 rfl [0, 1] rfl rfl (rest := []) rfl (Nat.le_of_ble_eq_true rfl) (q := 5) dX9_as_2 rfl (exK (ws' := [_, _, _, _]) (st' := [.int (bI (tn x nb).isNone)]) rfl rfl ?_)
  refine g_if_eq (t := 11) (q := 8) dX9_as_5 (by decide) rfl (fun c5 => ?_) (fun c5 => ?_)
  · obtain ⟨b, hb⟩ := isNone_f (bI_eq0.mp c5)
    obtain ⟨hb1, rfl⟩ := tn_some hb
    refine g_iload_n (q := 12) dX9_as_11 rfl rfl rfl ?_
    refine g_iconst (v := nI 0) (q := 13) dX9_as_12 rfl ki_0 ?_
    refine g_ko rfl mf_X9_184 (q := 16) dX9_as_13 rfl ?_
    refine g_kolenN (q := 17) dX9_as_16 rfl ?_
    refine g_iconst (v := nI 1) (q := 18) dX9_as_17 rfl ki_1 ?_
    refine g_isubN (q := 19) dX9_as_18 rfl (by omega) ?_
    refine gc_X9_187 (c_isNotIn) rfl (Nat.le_of_ble_eq_true rfl) rfl [] rfl rfl (rest := []) rfl (Nat.le_of_ble_eq_true rfl) (q := 22) dX9_as_19 rfl (exK (ws' := [_, _, _, _]) (st' := [.int (bI (ninB y (nI 0) (nI 4)))]) rfl rfl ?_)
    refine g_top (y := bI (rn y 0 4).isNone) (by rw [ninB_rn (by decide) (by decide)]) ?_
    refine g_if_eq (t := 28) (q := 25) dX9_as_22 (by decide) rfl (fun c22 => ?_) (fun c22 => ?_)
    · obtain ⟨k, hk⟩ := isNone_f (bI_eq0.mp c22)
      obtain ⟨hk1, hk2, rfl⟩ := rn_some hk
      refine g_aload_n (q := 29) dX9_as_28 rfl rfl rfl ?_
      refine gf_X9_35 rfl 0 rfl rfl (q := 32) dX9_as_29 rfl ?_
      refine g_iload_n (q := 33) dX9_as_32 rfl rfl rfl ?_
      refine g_iload_n (q := 34) dX9_as_33 rfl rfl rfl ?_
      refine gc_X9_191 (c_isOf (by omega) (hkd b (by omega)) (by omega)) rfl (Nat.le_of_ble_eq_true rfl) rfl 1 rfl [1, 2] rfl rfl (rest := []) rfl (Nat.le_of_ble_eq_true rfl) (q := 37) dX9_as_34 rfl (exK (ws' := [_, _, _, _]) (st' := [.int (bI (isK (kd b) k))]) rfl rfl ?_)
      refine g_if_eq (t := 51) (q := 40) dX9_as_37 (by decide) rfl (fun c37 => ?_) (fun c37 => ?_)
      · skip
        refine g_bipush (v := (-4)) (q := 53) dX9_as_51 rfl kb_m4 ?_
        refine g_iret (st := []) dX9_as_53 rfl rfl rfl ?_
        simp [opAs, hb, hk, bI_eq0.mp c37, xQ]
      · skip
        refine g_aload_n (q := 41) dX9_as_40 rfl rfl rfl ?_
        refine gf_X9_35 rfl 0 rfl rfl (q := 44) dX9_as_41 rfl ?_
        refine g_iload_n (q := 45) dX9_as_44 rfl rfl rfl ?_
        refine gc_X9_195 (c_pounds (by omega) hkd hwt) rfl (Nat.le_of_ble_eq_true rfl) rfl 1 rfl [1, 2, 3] rfl rfl (rest := []) rfl (Nat.le_of_ble_eq_true rfl) (q := 48) dX9_as_45 rfl (exK (ws' := [_, _, _, _]) (st' := [.int (nI (pnd (kd b) (wt b)))]) rfl rfl ?_)
        refine g_goto (q := 53) dX9_as_48 (by decide) ?_
        refine g_iret (st := []) dX9_as_53 rfl rfl rfl ?_
        simp [opAs, hb, hk, bI_ne0.mp c37, xQ]
    · have nk := isNone_t (bI_ne0.mp c22)
      refine g_bipush (v := (-3)) (q := 27) dX9_as_25 rfl kb_m3 ?_
      refine g_iret (st := []) dX9_as_27 rfl rfl rfl ?_
      simp [opAs, hb, nk, xQ]
  · have nb := isNone_t (bI_ne0.mp c5)
    refine g_bipush (v := (-2)) (q := 10) dX9_as_8 rfl kb_m2 ?_
    refine g_iret (st := []) dX9_as_10 rfl rfl rfl ?_
    simp [opAs, nb, xQ]
