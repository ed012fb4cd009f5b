set_option maxHeartbeats 2000000 in
set_option maxRecDepth 20000 in
theorem c_later {E : EN} {p0 u0 l0 r0 f0 kp ik x0 s0 q0 g0 b0 ora c0 d0 : Nat} {s1 : Nat} {fk ft fw fs fg fc nb yr : Nat} {lc lr lf lv ln t0 nt lw sl : Nat} {kd tw wt sk gr : Nat → Nat} {ch : Nat → Int32} {cr rt fd nx : Nat → Nat} {gk gt gw gs gg gc an ay : Nat} {akd : Nat → Nat} {aS : YS} {sn : Nat → Int32} {x y z : Int32} (hnb : nb ≤ 10) (hnt : nt ≤ 6) (hP : okL ((nb, nt, lw), kd, cr, rt, fd, nx)) (hY : okY (tw, wt, sk, gr, ch)) (hB : okB nb nt (tw, wt, sk, gr, ch))  : CT E yX9_later cX9_later 4 (some .int) 6 [.ref p0, .int (x), .int (y), .int (z)] [(p0, .inr (9, [.ref u0, .ref l0, .ref r0, .ref f0, .ref kp, .ref ik, .ref x0, .ref s0, .ref q0, .ref g0, .ref b0, .ref ora, .ref c0, .ref d0])), (s0, .inr (0, [.ref s1])), (s1, .inl (E.2.1.1, 6, .inl (sn))), (f0, .inr (2, [.int (nI (nb)), .int (nI (yr)), .ref fk, .ref ft, .ref fw, .ref fs, .ref fg, .ref fc])), (fk, .inl (E.2.1.1, 10, .inl (nA (kd)))), (ft, .inl (E.2.1.1, 10, .inl (nA (tw)))), (fw, .inl (E.2.1.1, 10, .inl (nA (wt)))), (fs, .inl (E.2.1.1, 10, .inl (nA (sk)))), (fg, .inl (E.2.1.1, 10, .inl (nA (gr)))), (fc, .inl (E.2.1.1, 6, .inl (ch))), (g0, .inr (2, [.int (nI (an)), .int (nI (ay)), .ref gk, .ref gt, .ref gw, .ref gs, .ref gg, .ref gc])), (gk, .inl (E.2.1.1, 10, .inl (nA (akd)))), (gt, .inl (E.2.1.1, 10, .inl (nA (aS.1)))), (gw, .inl (E.2.1.1, 10, .inl (nA (aS.2.1)))), (gs, .inl (E.2.1.1, 10, .inl (nA (aS.2.2.1)))), (gg, .inl (E.2.1.1, 10, .inl (nA (aS.2.2.2.1)))), (gc, .inl (E.2.1.1, 6, .inl (aS.2.2.2.2))), (l0, .inr (3, [.int (nI (nt)), .int (nI (lw)), .int (nI (sl)), .ref lc, .ref lr, .ref lf, .ref lv, .ref ln, .ref t0])), (lc, .inl (E.2.1.1, 6, .inl (nA (cr)))), (lr, .inl (E.2.1.1, 6, .inl (nA (rt)))), (lf, .inl (E.2.1.1, 6, .inl (nA (fd)))), (ln, .inl (E.2.1.1, 6, .inl (nA (nx))))] (fun r w => ∃ (sn' : Nat → Int32) (an' ay' : Nat) (akd' : Nat → Nat) (aS' : YS), xQ (some (.int (opLater ((nb, nt, lw), kd, cr, rt, fd, nx) (tw, wt, sk, gr, ch) x y z))) [(p0, .inr (9, [.ref u0, .ref l0, .ref r0, .ref f0, .ref kp, .ref ik, .ref x0, .ref s0, .ref q0, .ref g0, .ref b0, .ref ora, .ref c0, .ref d0])), (s0, .inr (0, [.ref s1])), (s1, .inl (E.2.1.1, 6, .inl (sn'))), (f0, .inr (2, [.int (nI (nb)), .int (nI (yr)), .ref fk, .ref ft, .ref fw, .ref fs, .ref fg, .ref fc])), (fk, .inl (E.2.1.1, 10, .inl (nA (kd)))), (ft, .inl (E.2.1.1, 10, .inl (nA (tw)))), (fw, .inl (E.2.1.1, 10, .inl (nA (wt)))), (fs, .inl (E.2.1.1, 10, .inl (nA (sk)))), (fg, .inl (E.2.1.1, 10, .inl (nA (gr)))), (fc, .inl (E.2.1.1, 6, .inl (ch))), (g0, .inr (2, [.int (nI (an')), .int (nI (ay')), .ref gk, .ref gt, .ref gw, .ref gs, .ref gg, .ref gc])), (gk, .inl (E.2.1.1, 10, .inl (nA (akd')))), (gt, .inl (E.2.1.1, 10, .inl (nA (aS'.1)))), (gw, .inl (E.2.1.1, 10, .inl (nA (aS'.2.1)))), (gs, .inl (E.2.1.1, 10, .inl (nA (aS'.2.2.1)))), (gg, .inl (E.2.1.1, 10, .inl (nA (aS'.2.2.2.1)))), (gc, .inl (E.2.1.1, 6, .inl (aS'.2.2.2.2))), (l0, .inr (3, [.int (nI (nt)), .int (nI (lw)), .int (nI (sl)), .ref lc, .ref lr, .ref lf, .ref lv, .ref ln, .ref t0])), (lc, .inl (E.2.1.1, 6, .inl (nA (cr)))), (lr, .inl (E.2.1.1, 6, .inl (nA (rt)))), (lf, .inl (E.2.1.1, 6, .inl (nA (fd)))), (ln, .inl (E.2.1.1, 6, .inl (nA (nx))))] r w) := by
  refine ct_of (by decide +kernel) (Nat.le_of_ble_eq_true rfl) (lv := [(0, .ref p0), (1, .int (x)), (2, .int (y)), (3, .int (z))]) rfl (fun A => ?_)
  refine g_aload_n (q := 1) dX9_later_0 rfl rfl rfl ?_
  refine g_iload_n (q := 2) dX9_later_1 rfl rfl rfl ?_
  refine gc_X9_162 (c_isNoBoy (by omega)) rfl (Nat.le_of_ble_eq_true rfl) rfl 0 rfl [0, 3] rfl rfl (rest := []) rfl (Nat.le_of_ble_eq_true rfl) (q := 5) dX9_later_2 rfl (exK (ws' := [_, _, _, _, _, _, _, _, _, _, _, _, _, _, _, _, _, _, _, _, _, _]) (st' := [.int (bI (tn x nb).isNone)]) rfl rfl ?_)
  refine g_if_eq (t := 11) (q := 8) dX9_later_5 (by decide) rfl (fun c5 => ?_) (fun c5 => ?_)
  · obtain ⟨b, hb⟩ := isNone_f (bI_eq0.mp c5)
    obtain ⟨hb1, rfl⟩ := tn_some hb
    refine g_iload_n (q := 12) dX9_later_11 rfl rfl rfl ?_
    refine g_iconst (v := nI 0) (q := 13) dX9_later_12 rfl ki_0 ?_
    refine g_bipush (v := nI 99) (q := 15) dX9_later_13 rfl kb_99 ?_
    refine gc_X9_187 (c_isNotIn) rfl (Nat.le_of_ble_eq_true rfl) rfl [] rfl rfl (rest := []) rfl (Nat.le_of_ble_eq_true rfl) (q := 18) dX9_later_15 rfl (exK (ws' := [_, _, _, _, _, _, _, _, _, _, _, _, _, _, _, _, _, _, _, _, _, _]) (st' := [.int (bI (ninB y (nI 0) (nI 99)))]) rfl rfl ?_)
    refine g_top (y := bI (rn y 0 99).isNone) (by rw [ninB_rn (by decide) (by decide)]) ?_
    refine g_if_ne (t := 30) (q := 21) dX9_later_18 (by decide) rfl (fun c18 => ?_) (fun c18 => ?_)
    · have nn := isNone_t (bI_ne0.mp c18)
      refine g_bipush (v := (-3)) (q := 32) dX9_later_30 rfl kb_m3 ?_
      refine g_iret (st := []) dX9_later_32 rfl rfl rfl ?_
      exact ⟨(sn), (an), (ay), (akd), ((aS.1, aS.2.1, aS.2.2.1, aS.2.2.2.1, aS.2.2.2.2)), xr (by simp [opLater, hb, nn])⟩
    · obtain ⟨n, hn⟩ := isNone_f (bI_eq0.mp c18)
      obtain ⟨hn1, hn2, rfl⟩ := rn_some hn
      refine g_iload_n (q := 22) dX9_later_21 rfl rfl rfl ?_
      refine g_iconst (v := nI 0) (q := 23) dX9_later_22 rfl ki_0 ?_
      refine g_iconst (v := nI 3) (q := 24) dX9_later_23 rfl ki_3 ?_
      refine gc_X9_187 (c_isNotIn) rfl (Nat.le_of_ble_eq_true rfl) rfl [] rfl rfl (rest := []) rfl (Nat.le_of_ble_eq_true rfl) (q := 27) dX9_later_24 rfl (exK (ws' := [_, _, _, _, _, _, _, _, _, _, _, _, _, _, _, _, _, _, _, _, _, _]) (st' := [.int (bI (ninB z (nI 0) (nI 3)))]) rfl rfl ?_)
      refine g_top (y := bI (rn z 0 3).isNone) (by rw [ninB_rn (by decide) (by decide)]) ?_
      refine g_if_eq (t := 33) (q := 30) dX9_later_27 (by decide) rfl (fun c27 => ?_) (fun c27 => ?_)
      · obtain ⟨k, hk⟩ := isNone_f (bI_eq0.mp c27)
        obtain ⟨hk1, hk2, rfl⟩ := rn_some hk
        refine g_aload_n (q := 34) dX9_later_33 rfl rfl rfl ?_
        refine g_iload_n (q := 35) dX9_later_34 rfl rfl rfl ?_
        refine gc_X9_245 (c_foretell (by omega) hP hY hB) rfl (Nat.le_of_ble_eq_true rfl) rfl 0 rfl [0, 1, 2, 3, 4, 5, 6, 7, 8, 9, 10, 11, 12, 13, 14, 15, 16, 17, 18, 19, 20, 21] rfl rfl (rest := []) rfl (Nat.le_of_ble_eq_true rfl) (q := 38) dX9_later_35 rfl (exKM (ws' := [(_, .inr (_, [_, _, _, _, _, _, _, _, _, _, _, _, _, _])), (_, .inr (_, [_])), (_, .inl (_, _, .inl _)), (_, .inr (_, [_, _, _, _, _, _, _, _])), (_, .inl (_, _, .inl _)), (_, .inl (_, _, .inl _)), (_, .inl (_, _, .inl _)), (_, .inl (_, _, .inl _)), (_, .inl (_, _, .inl _)), (_, .inl (_, _, .inl _)), (_, .inr (_, [_, _, _, _, _, _, _, _])), (_, .inl (_, _, .inl _)), (_, .inl (_, _, .inl _)), (_, .inl (_, _, .inl _)), (_, .inl (_, _, .inl _)), (_, .inl (_, _, .inl _)), (_, .inl (_, _, .inl _)), (_, .inr (_, [_, _, _, _, _, _, _, _, _])), (_, .inl (_, _, .inl _)), (_, .inl (_, _, .inl _)), (_, .inl (_, _, .inl _)), (_, .inl (_, _, .inl _))]) (st' := []) rfl rfl rfl ?_)
        refine g_iload_n (q := 39) dX9_later_38 rfl rfl rfl ?_
        rcases (show k = 0 ∨ k = 1 ∨ k = 2 ∨ k = 3 by omega) with rfl | rfl | rfl | rfl
        · refine g_tableIn (off := 25) (q := 64) dX9_later_39 (by decide) (by decide) (by decide) (by decide) ?_
          refine g_aload_n (q := 65) dX9_later_64 rfl rfl rfl ?_
          refine gf_X9_70 rfl 0 rfl rfl (q := 68) dX9_later_65 rfl ?_
          refine gf_X9_168 rfl 10 rfl rfl (q := 71) dX9_later_68 rfl ?_
          refine g_iload_n (q := 72) dX9_later_71 rfl rfl rfl ?_
          refine g_iald (v := nI (((years ((nb, nt, lw), kd, cr, rt, fd, nx) n (tw, wt, sk, gr, ch)).1) b)) 12 rfl (ixIn (j := b) rfl (by omega) (by decide)) (ixV (j := b) rfl (by omega)) (q := 73) dX9_later_72 rfl ?_
          refine g_iret (st := []) dX9_later_73 rfl rfl rfl ?_
          exact ⟨(snY ((nb, nt, lw), kd, cr, rt, fd, nx) (tw, wt, sk, gr, ch) sn n), (nb), (yr + n), (kd), (((years ((nb, nt, lw), kd, cr, rt, fd, nx) n (tw, wt, sk, gr, ch)).1, (years ((nb, nt, lw), kd, cr, rt, fd, nx) n (tw, wt, sk, gr, ch)).2.1, (years ((nb, nt, lw), kd, cr, rt, fd, nx) n (tw, wt, sk, gr, ch)).2.2.1, (years ((nb, nt, lw), kd, cr, rt, fd, nx) n (tw, wt, sk, gr, ch)).2.2.2.1, (years ((nb, nt, lw), kd, cr, rt, fd, nx) n (tw, wt, sk, gr, ch)).2.2.2.2)), xr (by simp [opLater, hb, hn, hk])⟩
        · refine g_tableIn (off := 35) (q := 74) dX9_later_39 (by decide) (by decide) (by decide) (by decide) ?_
          refine g_aload_n (q := 75) dX9_later_74 rfl rfl rfl ?_
          refine gf_X9_70 rfl 0 rfl rfl (q := 78) dX9_later_75 rfl ?_
          refine gf_X9_171 rfl 10 rfl rfl (q := 81) dX9_later_78 rfl ?_
          refine g_iload_n (q := 82) dX9_later_81 rfl rfl rfl ?_
          refine g_iald (v := nI (((years ((nb, nt, lw), kd, cr, rt, fd, nx) n (tw, wt, sk, gr, ch)).2.1) b)) 13 rfl (ixIn (j := b) rfl (by omega) (by decide)) (ixV (j := b) rfl (by omega)) (q := 83) dX9_later_82 rfl ?_
          refine g_iret (st := []) dX9_later_83 rfl rfl rfl ?_
          exact ⟨(snY ((nb, nt, lw), kd, cr, rt, fd, nx) (tw, wt, sk, gr, ch) sn n), (nb), (yr + n), (kd), (((years ((nb, nt, lw), kd, cr, rt, fd, nx) n (tw, wt, sk, gr, ch)).1, (years ((nb, nt, lw), kd, cr, rt, fd, nx) n (tw, wt, sk, gr, ch)).2.1, (years ((nb, nt, lw), kd, cr, rt, fd, nx) n (tw, wt, sk, gr, ch)).2.2.1, (years ((nb, nt, lw), kd, cr, rt, fd, nx) n (tw, wt, sk, gr, ch)).2.2.2.1, (years ((nb, nt, lw), kd, cr, rt, fd, nx) n (tw, wt, sk, gr, ch)).2.2.2.2)), xr (by simp [opLater, hb, hn, hk])⟩
        · refine g_tableIn (off := 45) (q := 84) dX9_later_39 (by decide) (by decide) (by decide) (by decide) ?_
          refine g_aload_n (q := 85) dX9_later_84 rfl rfl rfl ?_
          refine gf_X9_70 rfl 0 rfl rfl (q := 88) dX9_later_85 rfl ?_
          refine gf_X9_174 rfl 10 rfl rfl (q := 91) dX9_later_88 rfl ?_
          refine g_iload_n (q := 92) dX9_later_91 rfl rfl rfl ?_
          refine g_iald (v := nI (((years ((nb, nt, lw), kd, cr, rt, fd, nx) n (tw, wt, sk, gr, ch)).2.2.1) b)) 14 rfl (ixIn (j := b) rfl (by omega) (by decide)) (ixV (j := b) rfl (by omega)) (q := 93) dX9_later_92 rfl ?_
          refine g_iret (st := []) dX9_later_93 rfl rfl rfl ?_
          exact ⟨(snY ((nb, nt, lw), kd, cr, rt, fd, nx) (tw, wt, sk, gr, ch) sn n), (nb), (yr + n), (kd), (((years ((nb, nt, lw), kd, cr, rt, fd, nx) n (tw, wt, sk, gr, ch)).1, (years ((nb, nt, lw), kd, cr, rt, fd, nx) n (tw, wt, sk, gr, ch)).2.1, (years ((nb, nt, lw), kd, cr, rt, fd, nx) n (tw, wt, sk, gr, ch)).2.2.1, (years ((nb, nt, lw), kd, cr, rt, fd, nx) n (tw, wt, sk, gr, ch)).2.2.2.1, (years ((nb, nt, lw), kd, cr, rt, fd, nx) n (tw, wt, sk, gr, ch)).2.2.2.2)), xr (by simp [opLater, hb, hn, hk])⟩
        · refine g_tableOut (q := 94) dX9_later_39 (by decide) (by decide) ?_
          refine g_aload_n (q := 95) dX9_later_94 rfl rfl rfl ?_
          refine gf_X9_70 rfl 0 rfl rfl (q := 98) dX9_later_95 rfl ?_
          refine gf_X9_177 rfl 10 rfl rfl (q := 101) dX9_later_98 rfl ?_
          refine g_iload_n (q := 102) dX9_later_101 rfl rfl rfl ?_
          refine g_iald (v := nI (((years ((nb, nt, lw), kd, cr, rt, fd, nx) n (tw, wt, sk, gr, ch)).2.2.2.1) b)) 15 rfl (ixIn (j := b) rfl (by omega) (by decide)) (ixV (j := b) rfl (by omega)) (q := 103) dX9_later_102 rfl ?_
          refine g_iret (st := []) dX9_later_103 rfl rfl rfl ?_
          exact ⟨(snY ((nb, nt, lw), kd, cr, rt, fd, nx) (tw, wt, sk, gr, ch) sn n), (nb), (yr + n), (kd), (((years ((nb, nt, lw), kd, cr, rt, fd, nx) n (tw, wt, sk, gr, ch)).1, (years ((nb, nt, lw), kd, cr, rt, fd, nx) n (tw, wt, sk, gr, ch)).2.1, (years ((nb, nt, lw), kd, cr, rt, fd, nx) n (tw, wt, sk, gr, ch)).2.2.1, (years ((nb, nt, lw), kd, cr, rt, fd, nx) n (tw, wt, sk, gr, ch)).2.2.2.1, (years ((nb, nt, lw), kd, cr, rt, fd, nx) n (tw, wt, sk, gr, ch)).2.2.2.2)), xr (by simp [opLater, hb, hn, hk])⟩
      · have nk := isNone_t (bI_ne0.mp c27)
        refine g_bipush (v := (-3)) (q := 32) dX9_later_30 rfl kb_m3 ?_
        refine g_iret (st := []) dX9_later_32 rfl rfl rfl ?_
        exact ⟨(sn), (an), (ay), (akd), ((aS.1, aS.2.1, aS.2.2.1, aS.2.2.2.1, aS.2.2.2.2)), xr (by simp [opLater, hb, hn, nk])⟩
  · have nb := isNone_t (bI_ne0.mp c5)
    refine g_bipush (v := (-2)) (q := 10) dX9_later_8 rfl kb_m2 ?_
    refine g_iret (st := []) dX9_later_10 rfl rfl rfl ?_
    exact ⟨(sn), (an), (ay), (akd), ((aS.1, aS.2.1, aS.2.2.1, aS.2.2.2.1, aS.2.2.2.2)), xr (by simp [opLater, nb])⟩
set_option maxHeartbeats 2000000 in
set_option maxRecDepth 20000 in
theorem c_owed {E : EN} {p0 u0 l0 r0 f0 kp ik x0 s0 q0 g0 b0 ora c0 d0 : Nat} {s1 : Nat} {fk ft fw fs fg fc nb yr : Nat} {lc lr lf lv ln t0 nt lw sl : Nat} {kd tw wt sk gr : Nat → Nat} {ch : Nat → Int32} {cr rt fd nx : Nat → Nat} {gk gt gw gs gg gc an ay : Nat} {akd : Nat → Nat} {aS : YS} {sn : Nat → Int32} {x y : Int32} (hnb : nb ≤ 10) (hnt : nt ≤ 6) (hP : okL ((nb, nt, lw), kd, cr, rt, fd, nx)) (hY : okY (tw, wt, sk, gr, ch)) (hB : okB nb nt (tw, wt, sk, gr, ch))  : CT E yX9_owed cX9_owed 3 (some .int) 6 [.ref p0, .int (x), .int (y)] [(p0, .inr (9, [.ref u0, .ref l0, .ref r0, .ref f0, .ref kp, .ref ik, .ref x0, .ref s0, .ref q0, .ref g0, .ref b0, .ref ora, .ref c0, .ref d0])), (s0, .inr (0, [.ref s1])), (s1, .inl (E.2.1.1, 6, .inl (sn))), (f0, .inr (2, [.int (nI (nb)), .int (nI (yr)), .ref fk, .ref ft, .ref fw, .ref fs, .ref fg, .ref fc])), (fk, .inl (E.2.1.1, 10, .inl (nA (kd)))), (ft, .inl (E.2.1.1, 10, .inl (nA (tw)))), (fw, .inl (E.2.1.1, 10, .inl (nA (wt)))), (fs, .inl (E.2.1.1, 10, .inl (nA (sk)))), (fg, .inl (E.2.1.1, 10, .inl (nA (gr)))), (fc, .inl (E.2.1.1, 6, .inl (ch))), (g0, .inr (2, [.int (nI (an)), .int (nI (ay)), .ref gk, .ref gt, .ref gw, .ref gs, .ref gg, .ref gc])), (gk, .inl (E.2.1.1, 10, .inl (nA (akd)))), (gt, .inl (E.2.1.1, 10, .inl (nA (aS.1)))), (gw, .inl (E.2.1.1, 10, .inl (nA (aS.2.1)))), (gs, .inl (E.2.1.1, 10, .inl (nA (aS.2.2.1)))), (gg, .inl (E.2.1.1, 10, .inl (nA (aS.2.2.2.1)))), (gc, .inl (E.2.1.1, 6, .inl (aS.2.2.2.2))), (l0, .inr (3, [.int (nI (nt)), .int (nI (lw)), .int (nI (sl)), .ref lc, .ref lr, .ref lf, .ref lv, .ref ln, .ref t0])), (lc, .inl (E.2.1.1, 6, .inl (nA (cr)))), (lr, .inl (E.2.1.1, 6, .inl (nA (rt)))), (lf, .inl (E.2.1.1, 6, .inl (nA (fd)))), (ln, .inl (E.2.1.1, 6, .inl (nA (nx))))] (fun r w => ∃ (sn' : Nat → Int32) (an' ay' : Nat) (akd' : Nat → Nat) (aS' : YS), xQ (some (.int (opOwed ((nb, nt, lw), kd, cr, rt, fd, nx) (tw, wt, sk, gr, ch) x y))) [(p0, .inr (9, [.ref u0, .ref l0, .ref r0, .ref f0, .ref kp, .ref ik, .ref x0, .ref s0, .ref q0, .ref g0, .ref b0, .ref ora, .ref c0, .ref d0])), (s0, .inr (0, [.ref s1])), (s1, .inl (E.2.1.1, 6, .inl (sn'))), (f0, .inr (2, [.int (nI (nb)), .int (nI (yr)), .ref fk, .ref ft, .ref fw, .ref fs, .ref fg, .ref fc])), (fk, .inl (E.2.1.1, 10, .inl (nA (kd)))), (ft, .inl (E.2.1.1, 10, .inl (nA (tw)))), (fw, .inl (E.2.1.1, 10, .inl (nA (wt)))), (fs, .inl (E.2.1.1, 10, .inl (nA (sk)))), (fg, .inl (E.2.1.1, 10, .inl (nA (gr)))), (fc, .inl (E.2.1.1, 6, .inl (ch))), (g0, .inr (2, [.int (nI (an')), .int (nI (ay')), .ref gk, .ref gt, .ref gw, .ref gs, .ref gg, .ref gc])), (gk, .inl (E.2.1.1, 10, .inl (nA (akd')))), (gt, .inl (E.2.1.1, 10, .inl (nA (aS'.1)))), (gw, .inl (E.2.1.1, 10, .inl (nA (aS'.2.1)))), (gs, .inl (E.2.1.1, 10, .inl (nA (aS'.2.2.1)))), (gg, .inl (E.2.1.1, 10, .inl (nA (aS'.2.2.2.1)))), (gc, .inl (E.2.1.1, 6, .inl (aS'.2.2.2.2))), (l0, .inr (3, [.int (nI (nt)), .int (nI (lw)), .int (nI (sl)), .ref lc, .ref lr, .ref lf, .ref lv, .ref ln, .ref t0])), (lc, .inl (E.2.1.1, 6, .inl (nA (cr)))), (lr, .inl (E.2.1.1, 6, .inl (nA (rt)))), (lf, .inl (E.2.1.1, 6, .inl (nA (fd)))), (ln, .inl (E.2.1.1, 6, .inl (nA (nx))))] r w) := by
  refine ct_of (by decide +kernel) (Nat.le_of_ble_eq_true rfl) (lv := [(0, .ref p0), (1, .int (x)), (2, .int (y))]) rfl (fun A => ?_)
  refine g_aload_n (q := 1) dX9_owed_0 rfl rfl rfl ?_
  refine g_iload_n (q := 2) dX9_owed_1 rfl rfl rfl ?_
  refine gc_X9_135 (c_isNoTown (by omega)) rfl (Nat.le_of_ble_eq_true rfl) rfl 0 rfl [0, 17] rfl rfl (rest := []) rfl (Nat.le_of_ble_eq_true rfl) (q := 5) dX9_owed_2 rfl (exK (ws' := [_, _, _, _, _, _, _, _, _, _, _, _, _, _, _, _, _, _, _, _, _, _]) (st' := [.int (bI (tn x nt).isNone)]) rfl rfl ?_)
  refine g_if_eq (t := 11) (q := 8) dX9_owed_5 (by decide) rfl (fun c5 => ?_) (fun c5 => ?_)
  · obtain ⟨t, ht⟩ := isNone_f (bI_eq0.mp c5)
    obtain ⟨ht1, rfl⟩ := tn_some ht
    refine g_iload_n (q := 12) dX9_owed_11 rfl rfl rfl ?_
    refine g_iconst (v := nI 0) (q := 13) dX9_owed_12 rfl ki_0 ?_
    refine g_bipush (v := nI 99) (q := 15) dX9_owed_13 rfl kb_99 ?_
    refine gc_X9_187 (c_isNotIn) rfl (Nat.le_of_ble_eq_true rfl) rfl [] rfl rfl (rest := []) rfl (Nat.le_of_ble_eq_true rfl) (q := 18) dX9_owed_15 rfl (exK (ws' := [_, _, _, _, _, _, _, _, _, _, _, _, _, _, _, _, _, _, _, _, _, _]) (st' := [.int (bI (ninB y (nI 0) (nI 99)))]) rfl rfl ?_)
    refine g_top (y := bI (rn y 0 99).isNone) (by rw [ninB_rn (by decide) (by decide)]) ?_
    refine g_if_eq (t := 24) (q := 21) dX9_owed_18 (by decide) rfl (fun c18 => ?_) (fun c18 => ?_)
    · obtain ⟨n, hn⟩ := isNone_f (bI_eq0.mp c18)
      obtain ⟨hn1, hn2, rfl⟩ := rn_some hn
      refine g_aload_n (q := 25) dX9_owed_24 rfl rfl rfl ?_
      refine g_iload_n (q := 26) dX9_owed_25 rfl rfl rfl ?_
      refine gc_X9_245 (c_foretell (by omega) hP hY hB) rfl (Nat.le_of_ble_eq_true rfl) rfl 0 rfl [0, 1, 2, 3, 4, 5, 6, 7, 8, 9, 10, 11, 12, 13, 14, 15, 16, 17, 18, 19, 20, 21] rfl rfl (rest := []) rfl (Nat.le_of_ble_eq_true rfl) (q := 29) dX9_owed_26 rfl (exKM (ws' := [(_, .inr (_, [_, _, _, _, _, _, _, _, _, _, _, _, _, _])), (_, .inr (_, [_])), (_, .inl (_, _, .inl _)), (_, .inr (_, [_, _, _, _, _, _, _, _])), (_, .inl (_, _, .inl _)), (_, .inl (_, _, .inl _)), (_, .inl (_, _, .inl _)), (_, .inl (_, _, .inl _)), (_, .inl (_, _, .inl _)), (_, .inl (_, _, .inl _)), (_, .inr (_, [_, _, _, _, _, _, _, _])), (_, .inl (_, _, .inl _)), (_, .inl (_, _, .inl _)), (_, .inl (_, _, .inl _)), (_, .inl (_, _, .inl _)), (_, .inl (_, _, .inl _)), (_, .inl (_, _, .inl _)), (_, .inr (_, [_, _, _, _, _, _, _, _, _])), (_, .inl (_, _, .inl _)), (_, .inl (_, _, .inl _)), (_, .inl (_, _, .inl _)), (_, .inl (_, _, .inl _))]) (st' := []) rfl rfl rfl ?_)
      refine g_ldc (v := nI 10000000) rfl mkX9_154 (q := 31) dX9_owed_29 rfl ?_
      refine g_aload_n (q := 32) dX9_owed_31 rfl rfl rfl ?_
      refine gf_X9_70 rfl 0 rfl rfl (q := 35) dX9_owed_32 rfl ?_
      refine gf_X9_155 rfl 10 rfl rfl (q := 38) dX9_owed_35 rfl ?_
      refine g_iload_n (q := 39) dX9_owed_38 rfl rfl rfl ?_
      refine g_iald (v := ((years ((nb, nt, lw), kd, cr, rt, fd, nx) n (tw, wt, sk, gr, ch)).2.2.2.2) t) 16 rfl (ixIn (j := t) rfl (by omega) (by decide)) (ixV (j := t) rfl (by omega)) (q := 40) dX9_owed_39 rfl ?_
      refine g_iadd (q := 41) dX9_owed_40 rfl ?_
      refine g_iret (st := []) dX9_owed_41 rfl rfl rfl ?_
      exact ⟨(snY ((nb, nt, lw), kd, cr, rt, fd, nx) (tw, wt, sk, gr, ch) sn n), (nb), (yr + n), (kd), (((years ((nb, nt, lw), kd, cr, rt, fd, nx) n (tw, wt, sk, gr, ch)).1, (years ((nb, nt, lw), kd, cr, rt, fd, nx) n (tw, wt, sk, gr, ch)).2.1, (years ((nb, nt, lw), kd, cr, rt, fd, nx) n (tw, wt, sk, gr, ch)).2.2.1, (years ((nb, nt, lw), kd, cr, rt, fd, nx) n (tw, wt, sk, gr, ch)).2.2.2.1, (years ((nb, nt, lw), kd, cr, rt, fd, nx) n (tw, wt, sk, gr, ch)).2.2.2.2)), xr (by simp [opOwed, ht, hn])⟩
    · have nn := isNone_t (bI_ne0.mp c18)
      refine g_bipush (v := (-3)) (q := 23) dX9_owed_21 rfl kb_m3 ?_
      refine g_iret (st := []) dX9_owed_23 rfl rfl rfl ?_
      exact ⟨(sn), (an), (ay), (akd), ((aS.1, aS.2.1, aS.2.2.1, aS.2.2.2.1, aS.2.2.2.2)), xr (by simp [opOwed, ht, nn])⟩
  · have nt := isNone_t (bI_ne0.mp c5)
    refine g_bipush (v := (-2)) (q := 10) dX9_owed_8 rfl kb_m2 ?_
    refine g_iret (st := []) dX9_owed_10 rfl rfl rfl ?_
    exact ⟨(sn), (an), (ay), (akd), ((aS.1, aS.2.1, aS.2.2.1, aS.2.2.2.1, aS.2.2.2.2)), xr (by simp [opOwed, nt])⟩
set_option maxHeartbeats 2000000 in
set_option maxRecDepth 20000 in
theorem c_without {E : EN} {p0 u0 l0 r0 f0 kp ik x0 s0 q0 g0 b0 ora c0 d0 : Nat} {s1 : Nat} {fk ft fw fs fg fc nb yr : Nat} {lc lr lf lv ln t0 nt lw sl : Nat} {kd tw wt sk gr : Nat → Nat} {ch : Nat → Int32} {cr rt fd nx : Nat → Nat} {gk gt gw gs gg gc an ay : Nat} {akd : Nat → Nat} {aS : YS} {sn : Nat → Int32} {y : Int32} (hnb : nb ≤ 10) (hnt : nt ≤ 6) (hP : okL ((nb, nt, lw), kd, cr, rt, fd, nx)) (hY : okY (tw, wt, sk, gr, ch)) (hB : okB nb nt (tw, wt, sk, gr, ch))  : CT E yX9_without cX9_without 4 (some .int) 6 [.ref p0, .int (y)] [(p0, .inr (9, [.ref u0, .ref l0, .ref r0, .ref f0, .ref kp, .ref ik, .ref x0, .ref s0, .ref q0, .ref g0, .ref b0, .ref ora, .ref c0, .ref d0])), (s0, .inr (0, [.ref s1])), (s1, .inl (E.2.1.1, 6, .inl (sn))), (f0, .inr (2, [.int (nI (nb)), .int (nI (yr)), .ref fk, .ref ft, .ref fw, .ref fs, .ref fg, .ref fc])), (fk, .inl (E.2.1.1, 10, .inl (nA (kd)))), (ft, .inl (E.2.1.1, 10, .inl (nA (tw)))), (fw, .inl (E.2.1.1, 10, .inl (nA (wt)))), (fs, .inl (E.2.1.1, 10, .inl (nA (sk)))), (fg, .inl (E.2.1.1, 10, .inl (nA (gr)))), (fc, .inl (E.2.1.1, 6, .inl (ch))), (g0, .inr (2, [.int (nI (an)), .int (nI (ay)), .ref gk, .ref gt, .ref gw, .ref gs, .ref gg, .ref gc])), (gk, .inl (E.2.1.1, 10, .inl (nA (akd)))), (gt, .inl (E.2.1.1, 10, .inl (nA (aS.1)))), (gw, .inl (E.2.1.1, 10, .inl (nA (aS.2.1)))), (gs, .inl (E.2.1.1, 10, .inl (nA (aS.2.2.1)))), (gg, .inl (E.2.1.1, 10, .inl (nA (aS.2.2.2.1)))), (gc, .inl (E.2.1.1, 6, .inl (aS.2.2.2.2))), (l0, .inr (3, [.int (nI (nt)), .int (nI (lw)), .int (nI (sl)), .ref lc, .ref lr, .ref lf, .ref lv, .ref ln, .ref t0])), (lc, .inl (E.2.1.1, 6, .inl (nA (cr)))), (lr, .inl (E.2.1.1, 6, .inl (nA (rt)))), (lf, .inl (E.2.1.1, 6, .inl (nA (fd)))), (ln, .inl (E.2.1.1, 6, .inl (nA (nx))))] (fun r w => ∃ (sn' : Nat → Int32) (an' ay' : Nat) (akd' : Nat → Nat) (aS' : YS), xQ (some (.int (opWithout ((nb, nt, lw), kd, cr, rt, fd, nx) (tw, wt, sk, gr, ch) y))) [(p0, .inr (9, [.ref u0, .ref l0, .ref r0, .ref f0, .ref kp, .ref ik, .ref x0, .ref s0, .ref q0, .ref g0, .ref b0, .ref ora, .ref c0, .ref d0])), (s0, .inr (0, [.ref s1])), (s1, .inl (E.2.1.1, 6, .inl (sn'))), (f0, .inr (2, [.int (nI (nb)), .int (nI (yr)), .ref fk, .ref ft, .ref fw, .ref fs, .ref fg, .ref fc])), (fk, .inl (E.2.1.1, 10, .inl (nA (kd)))), (ft, .inl (E.2.1.1, 10, .inl (nA (tw)))), (fw, .inl (E.2.1.1, 10, .inl (nA (wt)))), (fs, .inl (E.2.1.1, 10, .inl (nA (sk)))), (fg, .inl (E.2.1.1, 10, .inl (nA (gr)))), (fc, .inl (E.2.1.1, 6, .inl (ch))), (g0, .inr (2, [.int (nI (an')), .int (nI (ay')), .ref gk, .ref gt, .ref gw, .ref gs, .ref gg, .ref gc])), (gk, .inl (E.2.1.1, 10, .inl (nA (akd')))), (gt, .inl (E.2.1.1, 10, .inl (nA (aS'.1)))), (gw, .inl (E.2.1.1, 10, .inl (nA (aS'.2.1)))), (gs, .inl (E.2.1.1, 10, .inl (nA (aS'.2.2.1)))), (gg, .inl (E.2.1.1, 10, .inl (nA (aS'.2.2.2.1)))), (gc, .inl (E.2.1.1, 6, .inl (aS'.2.2.2.2))), (l0, .inr (3, [.int (nI (nt)), .int (nI (lw)), .int (nI (sl)), .ref lc, .ref lr, .ref lf, .ref lv, .ref ln, .ref t0])), (lc, .inl (E.2.1.1, 6, .inl (nA (cr)))), (lr, .inl (E.2.1.1, 6, .inl (nA (rt)))), (lf, .inl (E.2.1.1, 6, .inl (nA (fd)))), (ln, .inl (E.2.1.1, 6, .inl (nA (nx))))] r w) := by
  refine ct_of (by decide +kernel) (Nat.le_of_ble_eq_true rfl) (lv := [(0, .ref p0), (1, .int (y))]) rfl (fun A => ?_)
  refine g_iload_n (q := 1) dX9_without_0 rfl rfl rfl ?_
  refine g_iconst (v := nI 0) (q := 2) dX9_without_1 rfl ki_0 ?_
  refine g_bipush (v := nI 99) (q := 4) dX9_without_2 rfl kb_99 ?_
  refine gc_X9_187 (c_isNotIn) rfl (Nat.le_of_ble_eq_true rfl) rfl [] rfl rfl (rest := []) rfl (Nat.le_of_ble_eq_true rfl) (q := 7) dX9_without_4 rfl (exK (ws' := [_, _, _, _, _, _, _, _, _, _, _, _, _, _, _, _, _, _, _, _, _, _]) (st' := [.int (bI (ninB y (nI 0) (nI 99)))]) rfl rfl ?_)
  refine g_top (y := bI (rn y 0 99).isNone) (by rw [ninB_rn (by decide) (by decide)]) ?_
  refine g_if_eq (t := 13) (q := 10) dX9_without_7 (by decide) rfl (fun c7 => ?_) (fun c7 => ?_)
  · obtain ⟨n, hn⟩ := isNone_f (bI_eq0.mp c7)
    obtain ⟨hn1, hn2, rfl⟩ := rn_some hn
    refine g_aload_n (q := 14) dX9_without_13 rfl rfl rfl ?_
    refine g_iload_n (q := 15) dX9_without_14 rfl rfl rfl ?_
    refine gc_X9_245 (c_foretell (by omega) hP hY hB) rfl (Nat.le_of_ble_eq_true rfl) rfl 0 rfl [0, 1, 2, 3, 4, 5, 6, 7, 8, 9, 10, 11, 12, 13, 14, 15, 16, 17, 18, 19, 20, 21] rfl rfl (rest := []) rfl (Nat.le_of_ble_eq_true rfl) (q := 18) dX9_without_15 rfl (exKM (ws' := [(_, .inr (_, [_, _, _, _, _, _, _, _, _, _, _, _, _, _])), (_, .inr (_, [_])), (_, .inl (_, _, .inl _)), (_, .inr (_, [_, _, _, _, _, _, _, _])), (_, .inl (_, _, .inl _)), (_, .inl (_, _, .inl _)), (_, .inl (_, _, .inl _)), (_, .inl (_, _, .inl _)), (_, .inl (_, _, .inl _)), (_, .inl (_, _, .inl _)), (_, .inr (_, [_, _, _, _, _, _, _, _])), (_, .inl (_, _, .inl _)), (_, .inl (_, _, .inl _)), (_, .inl (_, _, .inl _)), (_, .inl (_, _, .inl _)), (_, .inl (_, _, .inl _)), (_, .inl (_, _, .inl _)), (_, .inr (_, [_, _, _, _, _, _, _, _, _])), (_, .inl (_, _, .inl _)), (_, .inl (_, _, .inl _)), (_, .inl (_, _, .inl _)), (_, .inl (_, _, .inl _))]) (st' := []) rfl rfl rfl ?_)
    refine g_iconst (v := nI 0) (q := 19) dX9_without_18 rfl ki_0 ?_
    refine g_istore_n (lv' := [(0, _), (1, _), (2, _)]) (q := 20) dX9_without_19 rfl rfl (Nat.le_of_ble_eq_true rfl) rfl ?_
    refine g_iconst (v := nI 0) (q := 21) dX9_without_20 rfl ki_0 ?_
    refine g_istore_n (lv' := [(0, _), (1, _), (2, _), (3, _)]) (q := 22) dX9_without_21 rfl rfl (Nat.le_of_ble_eq_true rfl) rfl ?_
    refine g_loop (nt) (fun i => [(p0, .inr (9, [.ref u0, .ref l0, .ref r0, .ref f0, .ref kp, .ref ik, .ref x0, .ref s0, .ref q0, .ref g0, .ref b0, .ref ora, .ref c0, .ref d0])), (s0, .inr (0, [.ref s1])), (s1, .inl (E.2.1.1, 6, .inl (snY ((nb, nt, lw), kd, cr, rt, fd, nx) (tw, wt, sk, gr, ch) sn n))), (f0, .inr (2, [.int (nI (nb)), .int (nI (yr)), .ref fk, .ref ft, .ref fw, .ref fs, .ref fg, .ref fc])), (fk, .inl (E.2.1.1, 10, .inl (nA (kd)))), (ft, .inl (E.2.1.1, 10, .inl (nA (tw)))), (fw, .inl (E.2.1.1, 10, .inl (nA (wt)))), (fs, .inl (E.2.1.1, 10, .inl (nA (sk)))), (fg, .inl (E.2.1.1, 10, .inl (nA (gr)))), (fc, .inl (E.2.1.1, 6, .inl (ch))), (g0, .inr (2, [.int (nI (nb)), .int (nI (yr + n)), .ref gk, .ref gt, .ref gw, .ref gs, .ref gg, .ref gc])), (gk, .inl (E.2.1.1, 10, .inl (nA (kd)))), (gt, .inl (E.2.1.1, 10, .inl (nA ((years ((nb, nt, lw), kd, cr, rt, fd, nx) n (tw, wt, sk, gr, ch)).1)))), (gw, .inl (E.2.1.1, 10, .inl (nA ((years ((nb, nt, lw), kd, cr, rt, fd, nx) n (tw, wt, sk, gr, ch)).2.1)))), (gs, .inl (E.2.1.1, 10, .inl (nA ((years ((nb, nt, lw), kd, cr, rt, fd, nx) n (tw, wt, sk, gr, ch)).2.2.1)))), (gg, .inl (E.2.1.1, 10, .inl (nA ((years ((nb, nt, lw), kd, cr, rt, fd, nx) n (tw, wt, sk, gr, ch)).2.2.2.1)))), (gc, .inl (E.2.1.1, 6, .inl ((years ((nb, nt, lw), kd, cr, rt, fd, nx) n (tw, wt, sk, gr, ch)).2.2.2.2))), (l0, .inr (3, [.int (nI (nt)), .int (nI (lw)), .int (nI (sl)), .ref lc, .ref lr, .ref lf, .ref lv, .ref ln, .ref t0])), (lc, .inl (E.2.1.1, 6, .inl (nA (cr)))), (lr, .inl (E.2.1.1, 6, .inl (nA (rt)))), (lf, .inl (E.2.1.1, 6, .inl (nA (fd)))), (ln, .inl (E.2.1.1, 6, .inl (nA (nx))))]) (fun i => [(0, .ref p0), (1, .int (nI (n))), (2, .int (bitsI (fun t => decide (cntN (fun b => decide ((years ((nb, nt, lw), kd, cr, rt, fd, nx) n (tw, wt, sk, gr, ch)).1 b = t)) nb = 0)) i)), (3, .int (nI (i)))]) ?_ ?_ 0 (Nat.zero_le _)
    · intro i hi22 ih22
      show G E _ [(p0, .inr (9, [.ref u0, .ref l0, .ref r0, .ref f0, .ref kp, .ref ik, .ref x0, .ref s0, .ref q0, .ref g0, .ref b0, .ref ora, .ref c0, .ref d0])), (s0, .inr (0, [.ref s1])), (s1, .inl (E.2.1.1, 6, .inl (snY ((nb, nt, lw), kd, cr, rt, fd, nx) (tw, wt, sk, gr, ch) sn n))), (f0, .inr (2, [.int (nI (nb)), .int (nI (yr)), .ref fk, .ref ft, .ref fw, .ref fs, .ref fg, .ref fc])), (fk, .inl (E.2.1.1, 10, .inl (nA (kd)))), (ft, .inl (E.2.1.1, 10, .inl (nA (tw)))), (fw, .inl (E.2.1.1, 10, .inl (nA (wt)))), (fs, .inl (E.2.1.1, 10, .inl (nA (sk)))), (fg, .inl (E.2.1.1, 10, .inl (nA (gr)))), (fc, .inl (E.2.1.1, 6, .inl (ch))), (g0, .inr (2, [.int (nI (nb)), .int (nI (yr + n)), .ref gk, .ref gt, .ref gw, .ref gs, .ref gg, .ref gc])), (gk, .inl (E.2.1.1, 10, .inl (nA (kd)))), (gt, .inl (E.2.1.1, 10, .inl (nA ((years ((nb, nt, lw), kd, cr, rt, fd, nx) n (tw, wt, sk, gr, ch)).1)))), (gw, .inl (E.2.1.1, 10, .inl (nA ((years ((nb, nt, lw), kd, cr, rt, fd, nx) n (tw, wt, sk, gr, ch)).2.1)))), (gs, .inl (E.2.1.1, 10, .inl (nA ((years ((nb, nt, lw), kd, cr, rt, fd, nx) n (tw, wt, sk, gr, ch)).2.2.1)))), (gg, .inl (E.2.1.1, 10, .inl (nA ((years ((nb, nt, lw), kd, cr, rt, fd, nx) n (tw, wt, sk, gr, ch)).2.2.2.1)))), (gc, .inl (E.2.1.1, 6, .inl ((years ((nb, nt, lw), kd, cr, rt, fd, nx) n (tw, wt, sk, gr, ch)).2.2.2.2))), (l0, .inr (3, [.int (nI (nt)), .int (nI (lw)), .int (nI (sl)), .ref lc, .ref lr, .ref lf, .ref lv, .ref ln, .ref t0])), (lc, .inl (E.2.1.1, 6, .inl (nA (cr)))), (lr, .inl (E.2.1.1, 6, .inl (nA (rt)))), (lf, .inl (E.2.1.1, 6, .inl (nA (fd)))), (ln, .inl (E.2.1.1, 6, .inl (nA (nx))))] 22 [(0, .ref p0), (1, .int (nI (n))), (2, .int (bitsI (fun t => decide (cntN (fun b => decide ((years ((nb, nt, lw), kd, cr, rt, fd, nx) n (tw, wt, sk, gr, ch)).1 b = t)) nb = 0)) i)), (3, .int (nI (i)))] []
      refine g_iload_n (q := 23) dX9_without_22 rfl rfl rfl ?_
      refine g_aload_n (q := 24) dX9_without_23 rfl rfl rfl ?_
      refine gf_X9_19 rfl 0 rfl rfl (q := 27) dX9_without_24 rfl ?_
      refine gf_X9_209 rfl 17 rfl rfl (q := 30) dX9_without_27 rfl ?_
      refine g_icmp_geN (t := 56) (q := 33) dX9_without_30 (by decide) rfl (by omega) (by omega) (fun c30 => ?_) (fun c30 => ?_)
      · omega
      · skip
        refine g_aload_n (q := 34) dX9_without_33 rfl rfl rfl ?_
        refine gf_X9_70 rfl 0 rfl rfl (q := 37) dX9_without_34 rfl ?_
        refine g_iload_n (q := 38) dX9_without_37 rfl rfl rfl ?_
        have hcn := cntN_le (fun b => decide ((years ((nb, nt, lw), kd, cr, rt, fd, nx) n (tw, wt, sk, gr, ch)).1 b = i)) nb
        refine gc_X9_158 (c_boysIn hnb (by omega) (years_ok hP hY hB n).1.1) rfl (Nat.le_of_ble_eq_true rfl) rfl 10 rfl [10, 12] rfl rfl (rest := []) rfl (Nat.le_of_ble_eq_true rfl) (q := 41) dX9_without_38 rfl (exK (ws' := [_, _, _, _, _, _, _, _, _, _, _, _, _, _, _, _, _, _, _, _, _, _]) (st' := [.int (nI (cntN (fun b => decide ((years ((nb, nt, lw), kd, cr, rt, fd, nx) n (tw, wt, sk, gr, ch)).1 b = i)) nb))]) rfl rfl ?_)
        refine g_if_neN (t := 50) (q := 44) dX9_without_41 (by decide) rfl (by omega) (fun c41 => ?_) (fun c41 => ?_)
        · skip
          refine g_iinc (lv' := [(0, _), (1, _), (2, _), (3, _)]) (v := nI (i + 1)) (q := 53) dX9_without_50 rfl rfl (nI_inc _) (Nat.le_of_ble_eq_true rfl) rfl ?_
          refine g_goto (q := 22) dX9_without_53 (by decide) ?_
          rw [bitsI, if_neg (by simp; exact c41)] at ih22
          exact ih22
        · skip
          refine g_iload_n (q := 45) dX9_without_44 rfl rfl rfl ?_
          refine g_iconst (v := nI 1) (q := 46) dX9_without_45 rfl ki_1 ?_
          refine g_iload_n (q := 47) dX9_without_46 rfl rfl rfl ?_
          refine g_ishl (q := 48) dX9_without_47 rfl ?_
          refine g_ior (q := 49) dX9_without_48 rfl ?_
          refine g_istore_n (lv' := [(0, _), (1, _), (2, _), (3, _)]) (q := 50) dX9_without_49 rfl rfl (Nat.le_of_ble_eq_true rfl) rfl ?_
          refine g_iinc (lv' := [(0, _), (1, _), (2, _), (3, _)]) (v := nI (i + 1)) (q := 53) dX9_without_50 rfl rfl (nI_inc _) (Nat.le_of_ble_eq_true rfl) rfl ?_
          refine g_goto (q := 22) dX9_without_53 (by decide) ?_
          rw [bitsI, if_pos (by simp; exact c41)] at ih22
          exact ih22
    · skip
      show G E _ [(p0, .inr (9, [.ref u0, .ref l0, .ref r0, .ref f0, .ref kp, .ref ik, .ref x0, .ref s0, .ref q0, .ref g0, .ref b0, .ref ora, .ref c0, .ref d0])), (s0, .inr (0, [.ref s1])), (s1, .inl (E.2.1.1, 6, .inl (snY ((nb, nt, lw), kd, cr, rt, fd, nx) (tw, wt, sk, gr, ch) sn n))), (f0, .inr (2, [.int (nI (nb)), .int (nI (yr)), .ref fk, .ref ft, .ref fw, .ref fs, .ref fg, .ref fc])), (fk, .inl (E.2.1.1, 10, .inl (nA (kd)))), (ft, .inl (E.2.1.1, 10, .inl (nA (tw)))), (fw, .inl (E.2.1.1, 10, .inl (nA (wt)))), (fs, .inl (E.2.1.1, 10, .inl (nA (sk)))), (fg, .inl (E.2.1.1, 10, .inl (nA (gr)))), (fc, .inl (E.2.1.1, 6, .inl (ch))), (g0, .inr (2, [.int (nI (nb)), .int (nI (yr + n)), .ref gk, .ref gt, .ref gw, .ref gs, .ref gg, .ref gc])), (gk, .inl (E.2.1.1, 10, .inl (nA (kd)))), (gt, .inl (E.2.1.1, 10, .inl (nA ((years ((nb, nt, lw), kd, cr, rt, fd, nx) n (tw, wt, sk, gr, ch)).1)))), (gw, .inl (E.2.1.1, 10, .inl (nA ((years ((nb, nt, lw), kd, cr, rt, fd, nx) n (tw, wt, sk, gr, ch)).2.1)))), (gs, .inl (E.2.1.1, 10, .inl (nA ((years ((nb, nt, lw), kd, cr, rt, fd, nx) n (tw, wt, sk, gr, ch)).2.2.1)))), (gg, .inl (E.2.1.1, 10, .inl (nA ((years ((nb, nt, lw), kd, cr, rt, fd, nx) n (tw, wt, sk, gr, ch)).2.2.2.1)))), (gc, .inl (E.2.1.1, 6, .inl ((years ((nb, nt, lw), kd, cr, rt, fd, nx) n (tw, wt, sk, gr, ch)).2.2.2.2))), (l0, .inr (3, [.int (nI (nt)), .int (nI (lw)), .int (nI (sl)), .ref lc, .ref lr, .ref lf, .ref lv, .ref ln, .ref t0])), (lc, .inl (E.2.1.1, 6, .inl (nA (cr)))), (lr, .inl (E.2.1.1, 6, .inl (nA (rt)))), (lf, .inl (E.2.1.1, 6, .inl (nA (fd)))), (ln, .inl (E.2.1.1, 6, .inl (nA (nx))))] 22 [(0, .ref p0), (1, .int (nI (n))), (2, .int (bitsI (fun t => decide (cntN (fun b => decide ((years ((nb, nt, lw), kd, cr, rt, fd, nx) n (tw, wt, sk, gr, ch)).1 b = t)) nb = 0)) nt)), (3, .int (nI (nt)))] []
      refine g_iload_n (q := 23) dX9_without_22 rfl rfl rfl ?_
      refine g_aload_n (q := 24) dX9_without_23 rfl rfl rfl ?_
      refine gf_X9_19 rfl 0 rfl rfl (q := 27) dX9_without_24 rfl ?_
      refine gf_X9_209 rfl 17 rfl rfl (q := 30) dX9_without_27 rfl ?_
      refine g_icmp_geN (t := 56) (q := 33) dX9_without_30 (by decide) rfl (by omega) (by omega) (fun c30 => ?_) (fun c30 => ?_)
      · skip
        refine g_iload_n (q := 57) dX9_without_56 rfl rfl rfl ?_
        refine g_iret (st := []) dX9_without_57 rfl rfl rfl ?_
        exact ⟨(snY ((nb, nt, lw), kd, cr, rt, fd, nx) (tw, wt, sk, gr, ch) sn n), (nb), (yr + n), (kd), (((years ((nb, nt, lw), kd, cr, rt, fd, nx) n (tw, wt, sk, gr, ch)).1, (years ((nb, nt, lw), kd, cr, rt, fd, nx) n (tw, wt, sk, gr, ch)).2.1, (years ((nb, nt, lw), kd, cr, rt, fd, nx) n (tw, wt, sk, gr, ch)).2.2.1, (years ((nb, nt, lw), kd, cr, rt, fd, nx) n (tw, wt, sk, gr, ch)).2.2.2.1, (years ((nb, nt, lw), kd, cr, rt, fd, nx) n (tw, wt, sk, gr, ch)).2.2.2.2)), xr (by simp [opWithout, hn])⟩
      · omega
  · have nn := isNone_t (bI_ne0.mp c7)
    refine g_bipush (v := (-3)) (q := 12) dX9_without_10 rfl kb_m3 ?_
    refine g_iret (st := []) dX9_without_12 rfl rfl rfl ?_
    exact ⟨(sn), (an), (ay), (akd), ((aS.1, aS.2.1, aS.2.2.1, aS.2.2.2.1, aS.2.2.2.2)), xr (by simp [opWithout, nn])⟩
