abbrev bA (f : Nat → Nat) : Nat → Int32 := fun j => sb_b (f j)
theorem ixUb {f : Nat → Nat} {i : Int32} {j v : Nat} (e : i = nI j) (h : j < 2147483648) : upd (bA f) i.toNatClampNeg (vp_nar .byte (sb_b v)) = bA (updn f j v) := by
  rw [e, nI_clamp h, show vp_nar .byte (sb_b v) = sb_b v from pk_vb _]
  funext k
  by_cases hk : k = j
  · subst hk; simp [upd, bA, updn]
  · simp [upd, bA, updn, hk]
/-- the sign at a place, -1 behind the end -/
def sgn (tx : Nat → Nat) (tl p : Nat) : Int32 := if p < tl then nI (tx p) else -1
def nx0 (n : Nat) : Nat → Nat := fun t => if t + 1 < n then t + 1 else 0
set_option maxHeartbeats 2000000 in
set_option maxRecDepth 20000 in
theorem c_append {E : EN} {u0 ub tl : Nat} {tx : Nat → Nat} {c : Nat} (hl : tl < 200) (hc : c < 256) : CT E yX8_append cX8_append 2 (none) 0 [.ref u0, .int (nI (c))] [(u0, .inr (8, [.int (nI (tl)), .ref ub])), (ub, .inl (E.2.1.2.1, 200, .inl (bA (tx))))] (xQ none [(u0, .inr (8, [.int (nI (tl + 1)), .ref ub])), (ub, .inl (E.2.1.2.1, 200, .inl (bA (updn tx tl c))))]) := by
  refine ct_of (by decide +kernel) (Nat.le_of_ble_eq_true rfl) (lv := [(0, .ref u0), (1, .int (nI (c)))]) rfl (fun A => ?_)
  refine g_aload_n (q := 1) dX8_append_0 rfl rfl rfl ?_
  refine gf_X8_15 rfl 0 rfl rfl (q := 4) dX8_append_1 rfl ?_
  refine g_sipush (v := nI 200) (q := 7) dX8_append_4 rfl ks_200 ?_
  refine g_icmp_geN (t := 31) (q := 10) dX8_append_7 (by decide) rfl (by omega) (by omega) (fun c7 => ?_) (fun c7 => ?_)
  · omega
  · skip
    refine g_aload_n (q := 11) dX8_append_10 rfl rfl rfl ?_
    refine gf_X8_9 rfl 0 rfl rfl (q := 14) dX8_append_11 rfl ?_
    refine g_aload_n (q := 15) dX8_append_14 rfl rfl rfl ?_
    refine gf_X8_15 rfl 0 rfl rfl (q := 18) dX8_append_15 rfl ?_
    refine g_iload_n (q := 19) dX8_append_18 rfl rfl rfl ?_
    refine g_i2b (q := 20) dX8_append_19 rfl ?_
    refine g_bast (f' := (bA (updn tx tl c))) 1 rfl (ixIn (j := tl) rfl (by omega) (by decide)) (ixUb (j := tl) rfl (by omega)) (ws' := [_, (_, .inl (_, _, .inl _))]) rfl (q := 21) dX8_append_20 rfl ?_
    refine g_aload_n (q := 22) dX8_append_21 rfl rfl rfl ?_
    refine g_dup (q := 23) dX8_append_22 rfl rfl ?_
    refine gf_X8_15 rfl 0 rfl rfl (q := 26) dX8_append_23 rfl ?_
    refine g_iconst (v := nI 1) (q := 27) dX8_append_26 rfl ki_1 ?_
    refine g_iaddN (q := 28) dX8_append_27 rfl ?_
    refine pf_X8_15 rfl 0 rfl (Nat.le_of_ble_eq_true rfl) (ws' := [(_, .inr (_, [_, _])), _]) rfl (q := 31) dX8_append_28 rfl ?_
    refine g_vret (st := []) dX8_append_31 rfl rfl ?_
    exact xv
set_option maxHeartbeats 2000000 in
set_option maxRecDepth 20000 in
theorem c_signAt {E : EN} {u0 ub tl : Nat} {tx : Nat → Nat} {p : Nat} (hl : tl ≤ 200) (hp : p < 1000) (htx : ∀ j, j < tl → tx j < 256) : CT E yX8_signAt cX8_signAt 2 (some .int) 0 [.ref u0, .int (nI (p))] [(u0, .inr (8, [.int (nI (tl)), .ref ub])), (ub, .inl (E.2.1.2.1, 200, .inl (bA (tx))))] (xQ (some (.int (sgn tx tl p))) [(u0, .inr (8, [.int (nI (tl)), .ref ub])), (ub, .inl (E.2.1.2.1, 200, .inl (bA (tx))))]) := by
  refine ct_of (by decide +kernel) (Nat.le_of_ble_eq_true rfl) (lv := [(0, .ref u0), (1, .int (nI (p)))]) rfl (fun A => ?_)
  refine g_iload_n (q := 1) dX8_signAt_0 rfl rfl rfl ?_
  refine g_if_lt (t := 12) (q := 4) dX8_signAt_1 (by decide) rfl (fun c1 => ?_) (fun c1 => ?_)
  · exact absurd c1 (nI_pos (by omega))
  · skip
    refine g_iload_n (q := 5) dX8_signAt_4 rfl rfl rfl ?_
    refine g_aload_n (q := 6) dX8_signAt_5 rfl rfl rfl ?_
    refine gf_X8_15 rfl 0 rfl rfl (q := 9) dX8_signAt_6 rfl ?_
    refine g_icmp_ltN (t := 16) (q := 12) dX8_signAt_9 (by decide) rfl (by omega) (by omega) (fun c9 => ?_) (fun c9 => ?_)
    · skip
      refine g_aload_n (q := 17) dX8_signAt_16 rfl rfl rfl ?_
      refine gf_X8_9 rfl 0 rfl rfl (q := 20) dX8_signAt_17 rfl ?_
      refine g_iload_n (q := 21) dX8_signAt_20 rfl rfl rfl ?_
      refine g_bald (v := sb_b (tx p)) 1 rfl (ixIn (j := p) rfl (by omega) (by decide)) (ixV (j := p) rfl (by omega)) (q := 22) dX8_signAt_21 rfl ?_
      refine g_sipush (v := nI 255) (q := 25) dX8_signAt_22 rfl ks_255 ?_
      refine g_iand (q := 26) dX8_signAt_25 rfl ?_
      refine g_top (y := nI (tx p)) ((sb_byte _ (htx p (by omega))).1) ?_
      refine g_iret (st := []) dX8_signAt_26 rfl rfl rfl ?_
      exact xr (by simp [sgn, c9])
    · skip
      refine g_iconst (v := (-1)) (q := 13) dX8_signAt_12 rfl ki_m1 ?_
      refine g_goto (q := 26) dX8_signAt_13 (by decide) ?_
      refine g_iret (st := []) dX8_signAt_26 rfl rfl rfl ?_
      exact xr (by simp [sgn, c9])
set_option maxHeartbeats 2000000 in
set_option maxRecDepth 20000 in
theorem c_begin {E : EN} {l0 lc lr lf lv ln t0 tk tt tw ts tg tc nt law sl tnb n : Nat} {tyr : Int32} {cr rt fd nx : Nat → Nat} {wn : Nat → Int32} (hn : n ≤ 6) : CT E yX3_begin cX3_begin 3 (none) 0 [.ref l0, .int (nI (n))] [(l0, .inr (3, [.int (nI (nt)), .int (nI (law)), .int (nI (sl)), .ref lc, .ref lr, .ref lf, .ref lv, .ref ln, .ref t0])), (lc, .inl (E.2.1.1, 6, .inl (nA (cr)))), (lr, .inl (E.2.1.1, 6, .inl (nA (rt)))), (lf, .inl (E.2.1.1, 6, .inl (nA (fd)))), (lv, .inl (E.2.1.1, 6, .inl (wn))), (ln, .inl (E.2.1.1, 6, .inl (nA (nx)))), (t0, .inr (2, [.int (nI (tnb)), .int (tyr), .ref tk, .ref tt, .ref tw, .ref ts, .ref tg, .ref tc]))] (xQ none [(l0, .inr (3, [.int (nI (n)), .int (nI (0)), .int (nI (0)), .ref lc, .ref lr, .ref lf, .ref lv, .ref ln, .ref t0])), (lc, .inl (E.2.1.1, 6, .inl (nA (fun _ => 0)))), (lr, .inl (E.2.1.1, 6, .inl (nA (fun _ => 1)))), (lf, .inl (E.2.1.1, 6, .inl (nA (fun _ => 1)))), (lv, .inl (E.2.1.1, 6, .inl (fun _ => -1))), (ln, .inl (E.2.1.1, 6, .inl (nA (nx0 n)))), (t0, .inr (2, [.int (nI (0)), .int (tyr), .ref tk, .ref tt, .ref tw, .ref ts, .ref tg, .ref tc]))]) := by
  refine ct_of (by decide +kernel) (Nat.le_of_ble_eq_true rfl) (lv := [(0, .ref l0), (1, .int (nI (n)))]) rfl (fun A => ?_)
  refine g_aload_n (q := 1) dX3_begin_0 rfl rfl rfl ?_
  refine g_iload_n (q := 2) dX3_begin_1 rfl rfl rfl ?_
  refine pf_X3_34 rfl 0 rfl (Nat.le_of_ble_eq_true rfl) (ws' := [(_, .inr (_, [_, _, _, _, _, _, _, _, _])), _, _, _, _, _, _]) rfl (q := 5) dX3_begin_2 rfl ?_
  refine g_aload_n (q := 6) dX3_begin_5 rfl rfl rfl ?_
  refine g_iconst (v := nI 0) (q := 7) dX3_begin_6 rfl ki_0 ?_
  refine pf_X3_38 rfl 0 rfl (Nat.le_of_ble_eq_true rfl) (ws' := [(_, .inr (_, [_, _, _, _, _, _, _, _, _])), _, _, _, _, _, _]) rfl (q := 10) dX3_begin_7 rfl ?_
  refine g_aload_n (q := 11) dX3_begin_10 rfl rfl rfl ?_
  refine g_iconst (v := nI 0) (q := 12) dX3_begin_11 rfl ki_0 ?_
  refine pf_X3_41 rfl 0 rfl (Nat.le_of_ble_eq_true rfl) (ws' := [(_, .inr (_, [_, _, _, _, _, _, _, _, _])), _, _, _, _, _, _]) rfl (q := 15) dX3_begin_12 rfl ?_
  refine g_iconst (v := nI 0) (q := 16) dX3_begin_15 rfl ki_0 ?_
  refine g_istore_n (lv' := [(0, _), (1, _), (2, _)]) (q := 17) dX3_begin_16 rfl rfl (Nat.le_of_ble_eq_true rfl) rfl ?_
  refine g_eq (ws' := [(l0, .inr (3, [.int (nI (n)), .int (nI (0)), .int (nI (0)), .ref lc, .ref lr, .ref lf, .ref lv, .ref ln, .ref t0])), (lc, .inl (E.2.1.1, 6, .inl (nA (mpN (fun _ => 0) cr 0)))), (lr, .inl (E.2.1.1, 6, .inl (nA (mpN (fun _ => 1) rt 0)))), (lf, .inl (E.2.1.1, 6, .inl (nA (mpN (fun _ => 1) fd 0)))), (lv, .inl (E.2.1.1, 6, .inl (mpR (fun _ => -1) wn 0))), (ln, .inl (E.2.1.1, 6, .inl (nA (mpN (nx0 n) nx 0)))), (t0, .inr (2, [.int (nI (tnb)), .int (tyr), .ref tk, .ref tt, .ref tw, .ref ts, .ref tg, .ref tc]))]) ?_ (by simp only [mpN_0, mpR_0]) rfl rfl
  refine g_loop (6) (fun i => [(l0, .inr (3, [.int (nI (n)), .int (nI (0)), .int (nI (0)), .ref lc, .ref lr, .ref lf, .ref lv, .ref ln, .ref t0])), (lc, .inl (E.2.1.1, 6, .inl (nA (mpN (fun _ => 0) cr i)))), (lr, .inl (E.2.1.1, 6, .inl (nA (mpN (fun _ => 1) rt i)))), (lf, .inl (E.2.1.1, 6, .inl (nA (mpN (fun _ => 1) fd i)))), (lv, .inl (E.2.1.1, 6, .inl (mpR (fun _ => -1) wn i))), (ln, .inl (E.2.1.1, 6, .inl (nA (mpN (nx0 n) nx i)))), (t0, .inr (2, [.int (nI (tnb)), .int (tyr), .ref tk, .ref tt, .ref tw, .ref ts, .ref tg, .ref tc]))]) (fun i => [(0, .ref l0), (1, .int (nI (n))), (2, .int (nI (i)))]) ?_ ?_ 0 (Nat.zero_le _)
  · intro i hi17 ih17
    show G E _ [(l0, .inr (3, [.int (nI (n)), .int (nI (0)), .int (nI (0)), .ref lc, .ref lr, .ref lf, .ref lv, .ref ln, .ref t0])), (lc, .inl (E.2.1.1, 6, .inl (nA (mpN (fun _ => 0) cr i)))), (lr, .inl (E.2.1.1, 6, .inl (nA (mpN (fun _ => 1) rt i)))), (lf, .inl (E.2.1.1, 6, .inl (nA (mpN (fun _ => 1) fd i)))), (lv, .inl (E.2.1.1, 6, .inl (mpR (fun _ => -1) wn i))), (ln, .inl (E.2.1.1, 6, .inl (nA (mpN (nx0 n) nx i)))), (t0, .inr (2, [.int (nI (tnb)), .int (tyr), .ref tk, .ref tt, .ref tw, .ref ts, .ref tg, .ref tc]))] 17 [(0, .ref l0), (1, .int (nI (n))), (2, .int (nI (i)))] []
    refine g_iload_n (q := 18) dX3_begin_17 rfl rfl rfl ?_
    refine g_bipush (v := nI 6) (q := 20) dX3_begin_18 rfl kb_6 ?_
    refine g_icmp_geN (t := 77) (q := 23) dX3_begin_20 (by decide) rfl (by omega) (by omega) (fun c20 => ?_) (fun c20 => ?_)
    · omega
    · skip
      refine g_aload_n (q := 24) dX3_begin_23 rfl rfl rfl ?_
      refine gf_X3_9 rfl 0 rfl rfl (q := 27) dX3_begin_24 rfl ?_
      refine g_iload_n (q := 28) dX3_begin_27 rfl rfl rfl ?_
      refine g_iconst (v := nI 0) (q := 29) dX3_begin_28 rfl ki_0 ?_
      refine g_iast (f' := (nA (updn (mpN (fun _ => 0) cr i) i 0))) 1 rfl (ixIn (j := i) rfl (by omega) (by decide)) (ixUn (j := i) rfl (by omega)) (ws' := [_, (_, .inl (_, _, .inl _)), _, _, _, _, _]) rfl (q := 30) dX3_begin_29 rfl ?_
      refine g_aload_n (q := 31) dX3_begin_30 rfl rfl rfl ?_
      refine gf_X3_15 rfl 0 rfl rfl (q := 34) dX3_begin_31 rfl ?_
      refine g_iload_n (q := 35) dX3_begin_34 rfl rfl rfl ?_
      refine g_iconst (v := nI 1) (q := 36) dX3_begin_35 rfl ki_1 ?_
      refine g_iast (f' := (nA (updn (mpN (fun _ => 1) rt i) i 1))) 2 rfl (ixIn (j := i) rfl (by omega) (by decide)) (ixUn (j := i) rfl (by omega)) (ws' := [_, _, (_, .inl (_, _, .inl _)), _, _, _, _]) rfl (q := 37) dX3_begin_36 rfl ?_
      refine g_aload_n (q := 38) dX3_begin_37 rfl rfl rfl ?_
      refine gf_X3_18 rfl 0 rfl rfl (q := 41) dX3_begin_38 rfl ?_
      refine g_iload_n (q := 42) dX3_begin_41 rfl rfl rfl ?_
      refine g_iconst (v := nI 1) (q := 43) dX3_begin_42 rfl ki_1 ?_
      refine g_iast (f' := (nA (updn (mpN (fun _ => 1) fd i) i 1))) 3 rfl (ixIn (j := i) rfl (by omega) (by decide)) (ixUn (j := i) rfl (by omega)) (ws' := [_, _, _, (_, .inl (_, _, .inl _)), _, _, _]) rfl (q := 44) dX3_begin_43 rfl ?_
      refine g_aload_n (q := 45) dX3_begin_44 rfl rfl rfl ?_
      refine gf_X3_21 rfl 0 rfl rfl (q := 48) dX3_begin_45 rfl ?_
      refine g_iload_n (q := 49) dX3_begin_48 rfl rfl rfl ?_
      refine g_iconst (v := (-1)) (q := 50) dX3_begin_49 rfl ki_m1 ?_
      refine g_iast (f' := (upd (mpR (fun _ => -1) wn i) i (-1))) 4 rfl (ixIn (j := i) rfl (by omega) (by decide)) (ixU (j := i) rfl (by omega)) (ws' := [_, _, _, _, (_, .inl (_, _, .inl _)), _, _]) rfl (q := 51) dX3_begin_50 rfl ?_
      refine g_aload_n (q := 52) dX3_begin_51 rfl rfl rfl ?_
      refine gf_X3_24 rfl 0 rfl rfl (q := 55) dX3_begin_52 rfl ?_
      refine g_iload_n (q := 56) dX3_begin_55 rfl rfl rfl ?_
      refine g_iload_n (q := 57) dX3_begin_56 rfl rfl rfl ?_
      refine g_iconst (v := nI 1) (q := 58) dX3_begin_57 rfl ki_1 ?_
      refine g_iaddN (q := 59) dX3_begin_58 rfl ?_
      refine g_iload_n (q := 60) dX3_begin_59 rfl rfl rfl ?_
      refine g_icmp_geN (t := 69) (q := 63) dX3_begin_60 (by decide) rfl (by omega) (by omega) (fun c60 => ?_) (fun c60 => ?_)
      · skip
        refine g_iconst (v := nI 0) (q := 70) dX3_begin_69 rfl ki_0 ?_
        refine g_iast (f' := (nA (updn (mpN (nx0 n) nx i) i 0))) 5 rfl (ixIn (j := i) rfl (by omega) (by decide)) (ixUn (j := i) rfl (by omega)) (ws' := [_, _, _, _, _, (_, .inl (_, _, .inl _)), _]) rfl (q := 71) dX3_begin_70 rfl ?_
        refine g_iinc (lv' := [(0, _), (1, _), (2, _)]) (v := nI (i + 1)) (q := 74) dX3_begin_71 rfl rfl (nI_inc _) (Nat.le_of_ble_eq_true rfl) rfl ?_
        refine g_goto (q := 17) dX3_begin_74 (by decide) ?_
        simp only [mpN_s, mpR_s, nx0] at ih17
        rw [if_neg (show ¬ i + 1 < n by omega)] at ih17
        exact ih17
      · skip
        refine g_iload_n (q := 64) dX3_begin_63 rfl rfl rfl ?_
        refine g_iconst (v := nI 1) (q := 65) dX3_begin_64 rfl ki_1 ?_
        refine g_iaddN (q := 66) dX3_begin_65 rfl ?_
        refine g_goto (q := 70) dX3_begin_66 (by decide) ?_
        refine g_iast (f' := (nA (updn (mpN (nx0 n) nx i) i (i + 1)))) 5 rfl (ixIn (j := i) rfl (by omega) (by decide)) (ixUn (j := i) rfl (by omega)) (ws' := [_, _, _, _, _, (_, .inl (_, _, .inl _)), _]) rfl (q := 71) dX3_begin_70 rfl ?_
        refine g_iinc (lv' := [(0, _), (1, _), (2, _)]) (v := nI (i + 1)) (q := 74) dX3_begin_71 rfl rfl (nI_inc _) (Nat.le_of_ble_eq_true rfl) rfl ?_
        refine g_goto (q := 17) dX3_begin_74 (by decide) ?_
        simp only [mpN_s, mpR_s, nx0] at ih17
        rw [if_pos (show i + 1 < n by omega)] at ih17
        exact ih17
  · skip
    show G E _ [(l0, .inr (3, [.int (nI (n)), .int (nI (0)), .int (nI (0)), .ref lc, .ref lr, .ref lf, .ref lv, .ref ln, .ref t0])), (lc, .inl (E.2.1.1, 6, .inl (nA (mpN (fun _ => 0) cr 6)))), (lr, .inl (E.2.1.1, 6, .inl (nA (mpN (fun _ => 1) rt 6)))), (lf, .inl (E.2.1.1, 6, .inl (nA (mpN (fun _ => 1) fd 6)))), (lv, .inl (E.2.1.1, 6, .inl (mpR (fun _ => -1) wn 6))), (ln, .inl (E.2.1.1, 6, .inl (nA (mpN (nx0 n) nx 6)))), (t0, .inr (2, [.int (nI (tnb)), .int (tyr), .ref tk, .ref tt, .ref tw, .ref ts, .ref tg, .ref tc]))] 17 [(0, .ref l0), (1, .int (nI (n))), (2, .int (nI (6)))] []
    refine g_iload_n (q := 18) dX3_begin_17 rfl rfl rfl ?_
    refine g_bipush (v := nI 6) (q := 20) dX3_begin_18 rfl kb_6 ?_
    refine g_icmp_geN (t := 77) (q := 23) dX3_begin_20 (by decide) rfl (by omega) (by omega) (fun c20 => ?_) (fun c20 => ?_)
    · skip
      refine g_cong ((nA (fun _ => 0))) 1 rfl (fun j hj => by simp [nA, mpN, mpR, hj]) (ws' := [_, (_, .inl (_, _, .inl _)), _, _, _, _, _]) rfl ?_
      refine g_cong ((nA (fun _ => 1))) 2 rfl (fun j hj => by simp [nA, mpN, mpR, hj]) (ws' := [_, _, (_, .inl (_, _, .inl _)), _, _, _, _]) rfl ?_
      refine g_cong ((nA (fun _ => 1))) 3 rfl (fun j hj => by simp [nA, mpN, mpR, hj]) (ws' := [_, _, _, (_, .inl (_, _, .inl _)), _, _, _]) rfl ?_
      refine g_cong ((fun _ => -1)) 4 rfl (fun j hj => by simp [nA, mpN, mpR, hj]) (ws' := [_, _, _, _, (_, .inl (_, _, .inl _)), _, _]) rfl ?_
      refine g_cong ((nA (nx0 n))) 5 rfl (fun j hj => by simp [nA, mpN, mpR, hj]) (ws' := [_, _, _, _, _, (_, .inl (_, _, .inl _)), _]) rfl ?_
      refine g_aload_n (q := 78) dX3_begin_77 rfl rfl rfl ?_
      refine gf_X3_30 rfl 0 rfl rfl (q := 81) dX3_begin_78 rfl ?_
      refine g_iconst (v := nI 0) (q := 82) dX3_begin_81 rfl ki_0 ?_
      refine pf_X3_44 rfl 6 rfl (Nat.le_of_ble_eq_true rfl) (ws' := [_, _, _, _, _, _, (_, .inr (_, [_, _, _, _, _, _, _, _]))]) rfl (q := 85) dX3_begin_82 rfl ?_
      refine g_vret (st := []) dX3_begin_85 rfl rfl ?_
      exact xv
    · omega
set_option maxHeartbeats 2000000 in
set_option maxRecDepth 20000 in
theorem c_lbecome {E : EN} {l0 lc lr lf lv ln t0 tk tt tw ts tg tc : Nat} {o0 oc or of ov on v0 vk vt vw vs vg vc : Nat} {nt1 law1 sl1 nb1 : Nat} {yr1 : Int32} {cr1 rt1 fd1 nx1 kd1 tw1 wt1 sk1 gr1 : Nat → Nat} {wn1 ch1 : Nat → Int32} {nt2 law2 sl2 nb2 : Nat} {yr2 : Int32} {cr2 rt2 fd2 nx2 kd2 tw2 wt2 sk2 gr2 : Nat → Nat} {wn2 ch2 : Nat → Int32}  : CT E yX3_become cX3_become 2 (none) 2 [.ref l0, .ref o0] [(l0, .inr (3, [.int (nI (nt1)), .int (nI (law1)), .int (nI (sl1)), .ref lc, .ref lr, .ref lf, .ref lv, .ref ln, .ref t0])), (lc, .inl (E.2.1.1, 6, .inl (nA (cr1)))), (lr, .inl (E.2.1.1, 6, .inl (nA (rt1)))), (lf, .inl (E.2.1.1, 6, .inl (nA (fd1)))), (lv, .inl (E.2.1.1, 6, .inl (wn1))), (ln, .inl (E.2.1.1, 6, .inl (nA (nx1)))), (t0, .inr (2, [.int (nI (nb1)), .int (yr1), .ref tk, .ref tt, .ref tw, .ref ts, .ref tg, .ref tc])), (tk, .inl (E.2.1.1, 10, .inl (nA (kd1)))), (tt, .inl (E.2.1.1, 10, .inl (nA (tw1)))), (tw, .inl (E.2.1.1, 10, .inl (nA (wt1)))), (ts, .inl (E.2.1.1, 10, .inl (nA (sk1)))), (tg, .inl (E.2.1.1, 10, .inl (nA (gr1)))), (tc, .inl (E.2.1.1, 6, .inl (ch1))), (o0, .inr (3, [.int (nI (nt2)), .int (nI (law2)), .int (nI (sl2)), .ref oc, .ref or, .ref of, .ref ov, .ref on, .ref v0])), (oc, .inl (E.2.1.1, 6, .inl (nA (cr2)))), (or, .inl (E.2.1.1, 6, .inl (nA (rt2)))), (of, .inl (E.2.1.1, 6, .inl (nA (fd2)))), (ov, .inl (E.2.1.1, 6, .inl (wn2))), (on, .inl (E.2.1.1, 6, .inl (nA (nx2)))), (v0, .inr (2, [.int (nI (nb2)), .int (yr2), .ref vk, .ref vt, .ref vw, .ref vs, .ref vg, .ref vc])), (vk, .inl (E.2.1.1, 10, .inl (nA (kd2)))), (vt, .inl (E.2.1.1, 10, .inl (nA (tw2)))), (vw, .inl (E.2.1.1, 10, .inl (nA (wt2)))), (vs, .inl (E.2.1.1, 10, .inl (nA (sk2)))), (vg, .inl (E.2.1.1, 10, .inl (nA (gr2)))), (vc, .inl (E.2.1.1, 6, .inl (ch2)))] (xQ none [(l0, .inr (3, [.int (nI (nt2)), .int (nI (law2)), .int (nI (sl2)), .ref lc, .ref lr, .ref lf, .ref lv, .ref ln, .ref t0])), (lc, .inl (E.2.1.1, 6, .inl (nA (cr2)))), (lr, .inl (E.2.1.1, 6, .inl (nA (rt2)))), (lf, .inl (E.2.1.1, 6, .inl (nA (fd2)))), (lv, .inl (E.2.1.1, 6, .inl (wn2))), (ln, .inl (E.2.1.1, 6, .inl (nA (nx2)))), (t0, .inr (2, [.int (nI (nb2)), .int (yr2), .ref tk, .ref tt, .ref tw, .ref ts, .ref tg, .ref tc])), (tk, .inl (E.2.1.1, 10, .inl (nA (kd2)))), (tt, .inl (E.2.1.1, 10, .inl (nA (tw2)))), (tw, .inl (E.2.1.1, 10, .inl (nA (wt2)))), (ts, .inl (E.2.1.1, 10, .inl (nA (sk2)))), (tg, .inl (E.2.1.1, 10, .inl (nA (gr2)))), (tc, .inl (E.2.1.1, 6, .inl (ch2))), (o0, .inr (3, [.int (nI (nt2)), .int (nI (law2)), .int (nI (sl2)), .ref oc, .ref or, .ref of, .ref ov, .ref on, .ref v0])), (oc, .inl (E.2.1.1, 6, .inl (nA (cr2)))), (or, .inl (E.2.1.1, 6, .inl (nA (rt2)))), (of, .inl (E.2.1.1, 6, .inl (nA (fd2)))), (ov, .inl (E.2.1.1, 6, .inl (wn2))), (on, .inl (E.2.1.1, 6, .inl (nA (nx2)))), (v0, .inr (2, [.int (nI (nb2)), .int (yr2), .ref vk, .ref vt, .ref vw, .ref vs, .ref vg, .ref vc])), (vk, .inl (E.2.1.1, 10, .inl (nA (kd2)))), (vt, .inl (E.2.1.1, 10, .inl (nA (tw2)))), (vw, .inl (E.2.1.1, 10, .inl (nA (wt2)))), (vs, .inl (E.2.1.1, 10, .inl (nA (sk2)))), (vg, .inl (E.2.1.1, 10, .inl (nA (gr2)))), (vc, .inl (E.2.1.1, 6, .inl (ch2)))]) := by
  refine ct_of (by decide +kernel) (Nat.le_of_ble_eq_true rfl) (lv := [(0, .ref l0), (1, .ref o0)]) rfl (fun A => ?_)
  refine g_aload_n (q := 1) dX3_become_0 rfl rfl rfl ?_
  refine g_aload_n (q := 2) dX3_become_1 rfl rfl rfl ?_
  refine gf_X3_34 rfl 13 rfl rfl (q := 5) dX3_become_2 rfl ?_
  refine pf_X3_34 rfl 0 rfl (Nat.le_of_ble_eq_true rfl) (ws' := [(_, .inr (_, [_, _, _, _, _, _, _, _, _])), _, _, _, _, _, _, _, _, _, _, _, _, _, _, _, _, _, _, _, _, _, _, _, _, _]) rfl (q := 8) dX3_become_5 rfl ?_
  refine g_aload_n (q := 9) dX3_become_8 rfl rfl rfl ?_
  refine g_aload_n (q := 10) dX3_become_9 rfl rfl rfl ?_
  refine gf_X3_38 rfl 13 rfl rfl (q := 13) dX3_become_10 rfl ?_
  refine pf_X3_38 rfl 0 rfl (Nat.le_of_ble_eq_true rfl) (ws' := [(_, .inr (_, [_, _, _, _, _, _, _, _, _])), _, _, _, _, _, _, _, _, _, _, _, _, _, _, _, _, _, _, _, _, _, _, _, _, _]) rfl (q := 16) dX3_become_13 rfl ?_
  refine g_aload_n (q := 17) dX3_become_16 rfl rfl rfl ?_
  refine g_aload_n (q := 18) dX3_become_17 rfl rfl rfl ?_
  refine gf_X3_41 rfl 13 rfl rfl (q := 21) dX3_become_18 rfl ?_
  refine pf_X3_41 rfl 0 rfl (Nat.le_of_ble_eq_true rfl) (ws' := [(_, .inr (_, [_, _, _, _, _, _, _, _, _])), _, _, _, _, _, _, _, _, _, _, _, _, _, _, _, _, _, _, _, _, _, _, _, _, _]) rfl (q := 24) dX3_become_21 rfl ?_
  refine g_aload_n (q := 25) dX3_become_24 rfl rfl rfl ?_
  refine gf_X3_9 rfl 13 rfl rfl (q := 28) dX3_become_25 rfl ?_
  refine g_iconst (v := nI 0) (q := 29) dX3_become_28 rfl ki_0 ?_
  refine g_aload_n (q := 30) dX3_become_29 rfl rfl rfl ?_
  refine gf_X3_9 rfl 0 rfl rfl (q := 33) dX3_become_30 rfl ?_
  refine g_iconst (v := nI 0) (q := 34) dX3_become_33 rfl ki_0 ?_
  refine g_bipush (v := nI 6) (q := 36) dX3_become_34 rfl kb_6 ?_
  refine g_copyW rfl ml_X3_47 14 1 rfl rfl (n := 6) (by decide) (by decide) (hd := Nat.le_of_ble_eq_true rfl) (Nat.le_of_ble_eq_true rfl) (ws' := [_, (_, .inl (_, _, .inl _)), _, _, _, _, _, _, _, _, _, _, _, _, _, _, _, _, _, _, _, _, _, _, _, _]) rfl (q := 39) dX3_become_36 rfl ?_
  refine g_aload_n (q := 40) dX3_become_39 rfl rfl rfl ?_
  refine gf_X3_15 rfl 13 rfl rfl (q := 43) dX3_become_40 rfl ?_
  refine g_iconst (v := nI 0) (q := 44) dX3_become_43 rfl ki_0 ?_
  refine g_aload_n (q := 45) dX3_become_44 rfl rfl rfl ?_
  refine gf_X3_15 rfl 0 rfl rfl (q := 48) dX3_become_45 rfl ?_
  refine g_iconst (v := nI 0) (q := 49) dX3_become_48 rfl ki_0 ?_
  refine g_bipush (v := nI 6) (q := 51) dX3_become_49 rfl kb_6 ?_
  refine g_copyW rfl ml_X3_47 15 2 rfl rfl (n := 6) (by decide) (by decide) (hd := Nat.le_of_ble_eq_true rfl) (Nat.le_of_ble_eq_true rfl) (ws' := [_, _, (_, .inl (_, _, .inl _)), _, _, _, _, _, _, _, _, _, _, _, _, _, _, _, _, _, _, _, _, _, _, _]) rfl (q := 54) dX3_become_51 rfl ?_
  refine g_aload_n (q := 55) dX3_become_54 rfl rfl rfl ?_
  refine gf_X3_18 rfl 13 rfl rfl (q := 58) dX3_become_55 rfl ?_
  refine g_iconst (v := nI 0) (q := 59) dX3_become_58 rfl ki_0 ?_
  refine g_aload_n (q := 60) dX3_become_59 rfl rfl rfl ?_
  refine gf_X3_18 rfl 0 rfl rfl (q := 63) dX3_become_60 rfl ?_
  refine g_iconst (v := nI 0) (q := 64) dX3_become_63 rfl ki_0 ?_
  refine g_bipush (v := nI 6) (q := 66) dX3_become_64 rfl kb_6 ?_
  refine g_copyW rfl ml_X3_47 16 3 rfl rfl (n := 6) (by decide) (by decide) (hd := Nat.le_of_ble_eq_true rfl) (Nat.le_of_ble_eq_true rfl) (ws' := [_, _, _, (_, .inl (_, _, .inl _)), _, _, _, _, _, _, _, _, _, _, _, _, _, _, _, _, _, _, _, _, _, _]) rfl (q := 69) dX3_become_66 rfl ?_
  refine g_aload_n (q := 70) dX3_become_69 rfl rfl rfl ?_
  refine gf_X3_21 rfl 13 rfl rfl (q := 73) dX3_become_70 rfl ?_
  refine g_iconst (v := nI 0) (q := 74) dX3_become_73 rfl ki_0 ?_
  refine g_aload_n (q := 75) dX3_become_74 rfl rfl rfl ?_
  refine gf_X3_21 rfl 0 rfl rfl (q := 78) dX3_become_75 rfl ?_
  refine g_iconst (v := nI 0) (q := 79) dX3_become_78 rfl ki_0 ?_
  refine g_bipush (v := nI 6) (q := 81) dX3_become_79 rfl kb_6 ?_
  refine g_copyW rfl ml_X3_47 17 4 rfl rfl (n := 6) (by decide) (by decide) (hd := Nat.le_of_ble_eq_true rfl) (Nat.le_of_ble_eq_true rfl) (ws' := [_, _, _, _, (_, .inl (_, _, .inl _)), _, _, _, _, _, _, _, _, _, _, _, _, _, _, _, _, _, _, _, _, _]) rfl (q := 84) dX3_become_81 rfl ?_
  refine g_aload_n (q := 85) dX3_become_84 rfl rfl rfl ?_
  refine gf_X3_24 rfl 13 rfl rfl (q := 88) dX3_become_85 rfl ?_
  refine g_iconst (v := nI 0) (q := 89) dX3_become_88 rfl ki_0 ?_
  refine g_aload_n (q := 90) dX3_become_89 rfl rfl rfl ?_
  refine gf_X3_24 rfl 0 rfl rfl (q := 93) dX3_become_90 rfl ?_
  refine g_iconst (v := nI 0) (q := 94) dX3_become_93 rfl ki_0 ?_
  refine g_bipush (v := nI 6) (q := 96) dX3_become_94 rfl kb_6 ?_
  refine g_copyW rfl ml_X3_47 18 5 rfl rfl (n := 6) (by decide) (by decide) (hd := Nat.le_of_ble_eq_true rfl) (Nat.le_of_ble_eq_true rfl) (ws' := [_, _, _, _, _, (_, .inl (_, _, .inl _)), _, _, _, _, _, _, _, _, _, _, _, _, _, _, _, _, _, _, _, _]) rfl (q := 99) dX3_become_96 rfl ?_
  refine g_aload_n (q := 100) dX3_become_99 rfl rfl rfl ?_
  refine gf_X3_30 rfl 0 rfl rfl (q := 103) dX3_become_100 rfl ?_
  refine g_aload_n (q := 104) dX3_become_103 rfl rfl rfl ?_
  refine gf_X3_30 rfl 13 rfl rfl (q := 107) dX3_become_104 rfl ?_
  refine gc_X3_53 (c_become) rfl (Nat.le_of_ble_eq_true rfl) rfl 6 rfl [6, 7, 8, 9, 10, 11, 12, 19, 20, 21, 22, 23, 24, 25] rfl rfl (rest := []) rfl (Nat.le_of_ble_eq_true rfl) (q := 110) dX3_become_107 rfl (exK (ws' := [_, _, _, _, _, _, (_, .inr (_, [_, _, _, _, _, _, _, _])), (_, .inl (_, _, .inl _)), (_, .inl (_, _, .inl _)), (_, .inl (_, _, .inl _)), (_, .inl (_, _, .inl _)), (_, .inl (_, _, .inl _)), (_, .inl (_, _, .inl _)), _, _, _, _, _, _, (_, .inr (_, [_, _, _, _, _, _, _, _])), (_, .inl (_, _, .inl _)), (_, .inl (_, _, .inl _)), (_, .inl (_, _, .inl _)), (_, .inl (_, _, .inl _)), (_, .inl (_, _, .inl _)), (_, .inl (_, _, .inl _))]) (st' := []) rfl rfl ?_)
  refine g_vret (st := []) dX3_become_110 rfl rfl ?_
  exact xv
set_option maxHeartbeats 2000000 in
set_option maxRecDepth 20000 in
theorem c_addBoy {E : EN} {l0 lc lr lf lv ln t0 tk tt tw ts tg tc na nt law sl nb k : Nat} {tyr : Int32} {kd twn wtn sk gr nu : Nat → Nat} (hn : nb < 10) : CT E yX3_addBoy cX3_addBoy 4 (none) 0 [.ref l0, .int (nI (k)), .ref na] [(l0, .inr (3, [.int (nI (nt)), .int (nI (law)), .int (nI (sl)), .ref lc, .ref lr, .ref lf, .ref lv, .ref ln, .ref t0])), (t0, .inr (2, [.int (nI (nb)), .int (tyr), .ref tk, .ref tt, .ref tw, .ref ts, .ref tg, .ref tc])), (tk, .inl (E.2.1.1, 10, .inl (nA (kd)))), (tt, .inl (E.2.1.1, 10, .inl (nA (twn)))), (tw, .inl (E.2.1.1, 10, .inl (nA (wtn)))), (ts, .inl (E.2.1.1, 10, .inl (nA (sk)))), (tg, .inl (E.2.1.1, 10, .inl (nA (gr)))), (na, .inl (E.2.1.1, 4, .inl (nA (nu))))] (xQ none [(l0, .inr (3, [.int (nI (nt)), .int (nI (law)), .int (nI (sl)), .ref lc, .ref lr, .ref lf, .ref lv, .ref ln, .ref t0])), (t0, .inr (2, [.int (nI (nb + 1)), .int (tyr), .ref tk, .ref tt, .ref tw, .ref ts, .ref tg, .ref tc])), (tk, .inl (E.2.1.1, 10, .inl (nA (updn kd nb k)))), (tt, .inl (E.2.1.1, 10, .inl (nA (updn twn nb (nu 0))))), (tw, .inl (E.2.1.1, 10, .inl (nA (updn wtn nb (nu 1))))), (ts, .inl (E.2.1.1, 10, .inl (nA (updn sk nb (nu 2))))), (tg, .inl (E.2.1.1, 10, .inl (nA (updn gr nb (nu 3))))), (na, .inl (E.2.1.1, 4, .inl (nA (nu))))]) := by
  refine ct_of (by decide +kernel) (Nat.le_of_ble_eq_true rfl) (lv := [(0, .ref l0), (1, .int (nI (k))), (2, .ref na)]) rfl (fun A => ?_)
  refine g_aload_n (q := 1) dX3_addBoy_0 rfl rfl rfl ?_
  refine gf_X3_30 rfl 0 rfl rfl (q := 4) dX3_addBoy_1 rfl ?_
  refine gf_X3_44 rfl 1 rfl rfl (q := 7) dX3_addBoy_4 rfl ?_
  refine g_istore_n (lv' := [(0, _), (1, _), (2, _), (3, _)]) (q := 8) dX3_addBoy_7 rfl rfl (Nat.le_of_ble_eq_true rfl) rfl ?_
  refine g_iload_n (q := 9) dX3_addBoy_8 rfl rfl rfl ?_
  refine g_bipush (v := nI 10) (q := 11) dX3_addBoy_9 rfl kb_10 ?_
  refine g_icmp_ltN (t := 15) (q := 14) dX3_addBoy_11 (by decide) rfl (by omega) (by omega) (fun c11 => ?_) (fun c11 => ?_)
  · skip
    refine g_aload_n (q := 16) dX3_addBoy_15 rfl rfl rfl ?_
    refine gf_X3_30 rfl 0 rfl rfl (q := 19) dX3_addBoy_16 rfl ?_
    refine gf_X3_57 rfl 1 rfl rfl (q := 22) dX3_addBoy_19 rfl ?_
    refine g_iload_n (q := 23) dX3_addBoy_22 rfl rfl rfl ?_
    refine g_iload_n (q := 24) dX3_addBoy_23 rfl rfl rfl ?_
    refine g_iast (f' := (nA (updn kd nb k))) 2 rfl (ixIn (j := nb) rfl (by omega) (by decide)) (ixUn (j := nb) rfl (by omega)) (ws' := [_, _, (_, .inl (_, _, .inl _)), _, _, _, _, _]) rfl (q := 25) dX3_addBoy_24 rfl ?_
    refine g_aload_n (q := 26) dX3_addBoy_25 rfl rfl rfl ?_
    refine gf_X3_30 rfl 0 rfl rfl (q := 29) dX3_addBoy_26 rfl ?_
    refine gf_X3_60 rfl 1 rfl rfl (q := 32) dX3_addBoy_29 rfl ?_
    refine g_iload_n (q := 33) dX3_addBoy_32 rfl rfl rfl ?_
    refine g_aload_n (q := 34) dX3_addBoy_33 rfl rfl rfl ?_
    refine g_iconst (v := nI 0) (q := 35) dX3_addBoy_34 rfl ki_0 ?_
    refine g_iald (v := nI (nu 0)) 7 rfl (ixIn (j := 0) rfl (by omega) (by decide)) (ixV (j := 0) rfl (by omega)) (q := 36) dX3_addBoy_35 rfl ?_
    refine g_iast (f' := (nA (updn twn nb (nu 0)))) 3 rfl (ixIn (j := nb) rfl (by omega) (by decide)) (ixUn (j := nb) rfl (by omega)) (ws' := [_, _, _, (_, .inl (_, _, .inl _)), _, _, _, _]) rfl (q := 37) dX3_addBoy_36 rfl ?_
    refine g_aload_n (q := 38) dX3_addBoy_37 rfl rfl rfl ?_
    refine gf_X3_30 rfl 0 rfl rfl (q := 41) dX3_addBoy_38 rfl ?_
    refine gf_X3_63 rfl 1 rfl rfl (q := 44) dX3_addBoy_41 rfl ?_
    refine g_iload_n (q := 45) dX3_addBoy_44 rfl rfl rfl ?_
    refine g_aload_n (q := 46) dX3_addBoy_45 rfl rfl rfl ?_
    refine g_iconst (v := nI 1) (q := 47) dX3_addBoy_46 rfl ki_1 ?_
    refine g_iald (v := nI (nu 1)) 7 rfl (ixIn (j := 1) rfl (by omega) (by decide)) (ixV (j := 1) rfl (by omega)) (q := 48) dX3_addBoy_47 rfl ?_
    refine g_iast (f' := (nA (updn wtn nb (nu 1)))) 4 rfl (ixIn (j := nb) rfl (by omega) (by decide)) (ixUn (j := nb) rfl (by omega)) (ws' := [_, _, _, _, (_, .inl (_, _, .inl _)), _, _, _]) rfl (q := 49) dX3_addBoy_48 rfl ?_
    refine g_aload_n (q := 50) dX3_addBoy_49 rfl rfl rfl ?_
    refine gf_X3_30 rfl 0 rfl rfl (q := 53) dX3_addBoy_50 rfl ?_
    refine gf_X3_66 rfl 1 rfl rfl (q := 56) dX3_addBoy_53 rfl ?_
    refine g_iload_n (q := 57) dX3_addBoy_56 rfl rfl rfl ?_
    refine g_aload_n (q := 58) dX3_addBoy_57 rfl rfl rfl ?_
    refine g_iconst (v := nI 2) (q := 59) dX3_addBoy_58 rfl ki_2 ?_
    refine g_iald (v := nI (nu 2)) 7 rfl (ixIn (j := 2) rfl (by omega) (by decide)) (ixV (j := 2) rfl (by omega)) (q := 60) dX3_addBoy_59 rfl ?_
    refine g_iast (f' := (nA (updn sk nb (nu 2)))) 5 rfl (ixIn (j := nb) rfl (by omega) (by decide)) (ixUn (j := nb) rfl (by omega)) (ws' := [_, _, _, _, _, (_, .inl (_, _, .inl _)), _, _]) rfl (q := 61) dX3_addBoy_60 rfl ?_
    refine g_aload_n (q := 62) dX3_addBoy_61 rfl rfl rfl ?_
    refine gf_X3_30 rfl 0 rfl rfl (q := 65) dX3_addBoy_62 rfl ?_
    refine gf_X3_69 rfl 1 rfl rfl (q := 68) dX3_addBoy_65 rfl ?_
    refine g_iload_n (q := 69) dX3_addBoy_68 rfl rfl rfl ?_
    refine g_aload_n (q := 70) dX3_addBoy_69 rfl rfl rfl ?_
    refine g_iconst (v := nI 3) (q := 71) dX3_addBoy_70 rfl ki_3 ?_
    refine g_iald (v := nI (nu 3)) 7 rfl (ixIn (j := 3) rfl (by omega) (by decide)) (ixV (j := 3) rfl (by omega)) (q := 72) dX3_addBoy_71 rfl ?_
    refine g_iast (f' := (nA (updn gr nb (nu 3)))) 6 rfl (ixIn (j := nb) rfl (by omega) (by decide)) (ixUn (j := nb) rfl (by omega)) (ws' := [_, _, _, _, _, _, (_, .inl (_, _, .inl _)), _]) rfl (q := 73) dX3_addBoy_72 rfl ?_
    refine g_aload_n (q := 74) dX3_addBoy_73 rfl rfl rfl ?_
    refine gf_X3_30 rfl 0 rfl rfl (q := 77) dX3_addBoy_74 rfl ?_
    refine g_iload_n (q := 78) dX3_addBoy_77 rfl rfl rfl ?_
    refine g_iconst (v := nI 1) (q := 79) dX3_addBoy_78 rfl ki_1 ?_
    refine g_iaddN (q := 80) dX3_addBoy_79 rfl ?_
    refine pf_X3_44 rfl 1 rfl (Nat.le_of_ble_eq_true rfl) (ws' := [_, (_, .inr (_, [_, _, _, _, _, _, _, _])), _, _, _, _, _, _]) rfl (q := 83) dX3_addBoy_80 rfl ?_
    refine g_vret (st := []) dX3_addBoy_83 rfl rfl ?_
    exact xv
  · omega
