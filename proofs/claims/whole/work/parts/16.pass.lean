theorem mpN_bd {g f : Nat → Nat} {n c : Nat} (hg : ∀ j, j < 10 → g j < c) (hf : ∀ j, j < 10 → f j < c) : ∀ j, j < 10 → mpN g f n j < c := fun j hj => by
  unfold mpN
  split
  · exact hg j hj
  · exact hf j hj
set_option maxHeartbeats 2000000 in
set_option maxRecDepth 20000 in
theorem c_pass {E : EN} {s0 s1 ra n yr : Nat} {f0 fk ft fw fs fg fc nb : Nat} {l0 lc lr lf lv ln t0 nt lw sl : Nat} {kd tw wt sk gr cr rt fd nx : Nat → Nat} {sn ch : Nat → Int32} (hn : n < 1000) (hP : okL ((nb, nt, lw), kd, cr, rt, fd, nx)) (hY : okY (tw, wt, sk, gr, ch)) (hB : okB nb nt (tw, wt, sk, gr, ch)) : CT E yX0_pass cX0_pass 8 (none) 4 [.ref s0, .int (nI (n)), .ref f0, .ref l0, .ref ra] [(s0, .inr (0, [.ref s1])), (s1, .inl (E.2.1.1, 6, .inl (sn))), (f0, .inr (2, [.int (nI (nb)), .int (nI (yr)), .ref fk, .ref ft, .ref fw, .ref fs, .ref fg, .ref fc])), (fk, .inl (E.2.1.1, 10, .inl (nA (kd)))), (ft, .inl (E.2.1.1, 10, .inl (nA (tw)))), (fw, .inl (E.2.1.1, 10, .inl (nA (wt)))), (fs, .inl (E.2.1.1, 10, .inl (nA (sk)))), (fg, .inl (E.2.1.1, 10, .inl (nA (gr)))), (fc, .inl (E.2.1.1, 6, .inl (ch))), (l0, .inr (3, [.int (nI (nt)), .int (nI (lw)), .int (nI (sl)), .ref lc, .ref lr, .ref lf, .ref lv, .ref ln, .ref t0])), (lc, .inl (E.2.1.1, 6, .inl (nA (cr)))), (lf, .inl (E.2.1.1, 6, .inl (nA (fd)))), (ln, .inl (E.2.1.1, 6, .inl (nA (nx)))), (ra, .inl (E.2.1.1, 6, .inl (nA (rt))))] (xQ none [(s0, .inr (0, [.ref s1])), (s1, .inl (E.2.1.1, 6, .inl (snY ((nb, nt, lw), kd, cr, rt, fd, nx) (tw, wt, sk, gr, ch) sn n))), (f0, .inr (2, [.int (nI (nb)), .int (nI (yr + n)), .ref fk, .ref ft, .ref fw, .ref fs, .ref fg, .ref fc])), (fk, .inl (E.2.1.1, 10, .inl (nA (kd)))), (ft, .inl (E.2.1.1, 10, .inl (nA ((years ((nb, nt, lw), kd, cr, rt, fd, nx) n (tw, wt, sk, gr, ch)).1)))), (fw, .inl (E.2.1.1, 10, .inl (nA ((years ((nb, nt, lw), kd, cr, rt, fd, nx) n (tw, wt, sk, gr, ch)).2.1)))), (fs, .inl (E.2.1.1, 10, .inl (nA ((years ((nb, nt, lw), kd, cr, rt, fd, nx) n (tw, wt, sk, gr, ch)).2.2.1)))), (fg, .inl (E.2.1.1, 10, .inl (nA ((years ((nb, nt, lw), kd, cr, rt, fd, nx) n (tw, wt, sk, gr, ch)).2.2.2.1)))), (fc, .inl (E.2.1.1, 6, .inl ((years ((nb, nt, lw), kd, cr, rt, fd, nx) n (tw, wt, sk, gr, ch)).2.2.2.2))), (l0, .inr (3, [.int (nI (nt)), .int (nI (lw)), .int (nI (sl)), .ref lc, .ref lr, .ref lf, .ref lv, .ref ln, .ref t0])), (lc, .inl (E.2.1.1, 6, .inl (nA (cr)))), (lf, .inl (E.2.1.1, 6, .inl (nA (fd)))), (ln, .inl (E.2.1.1, 6, .inl (nA (nx)))), (ra, .inl (E.2.1.1, 6, .inl (nA (rt))))]) := by
  refine ct_of (by decide +kernel) (Nat.le_of_ble_eq_true rfl) (lv := [(0, .ref s0), (1, .int (nI (n))), (2, .ref f0), (3, .ref l0), (4, .ref ra)]) rfl (fun A => ?_)
  have hP0 := hP
  obtain ⟨p1, p2, p3, p4, p5, p6, p7, p8⟩ := hP0
  dsimp only at p1 p2 p3 p4 p5 p6 p7 p8
  refine g_iconst (v := nI 0) (q := 1) dX0_pass_0 rfl ki_0 ?_
  refine g_istore (lv' := [(0, _), (1, _), (2, _), (3, _), (4, _), (5, _)]) (q := 3) dX0_pass_1 rfl (Nat.le_of_ble_eq_true rfl) rfl ?_
  refine g_eq (ws' := [(s0, .inr (0, [.ref s1])), (s1, .inl (E.2.1.1, 6, .inl (snY ((nb, nt, lw), kd, cr, rt, fd, nx) (tw, wt, sk, gr, ch) sn 0))), (f0, .inr (2, [.int (nI (nb)), .int (nI (yr + 0)), .ref fk, .ref ft, .ref fw, .ref fs, .ref fg, .ref fc])), (fk, .inl (E.2.1.1, 10, .inl (nA (kd)))), (ft, .inl (E.2.1.1, 10, .inl (nA ((years ((nb, nt, lw), kd, cr, rt, fd, nx) 0 (tw, wt, sk, gr, ch)).1)))), (fw, .inl (E.2.1.1, 10, .inl (nA ((years ((nb, nt, lw), kd, cr, rt, fd, nx) 0 (tw, wt, sk, gr, ch)).2.1)))), (fs, .inl (E.2.1.1, 10, .inl (nA ((years ((nb, nt, lw), kd, cr, rt, fd, nx) 0 (tw, wt, sk, gr, ch)).2.2.1)))), (fg, .inl (E.2.1.1, 10, .inl (nA ((years ((nb, nt, lw), kd, cr, rt, fd, nx) 0 (tw, wt, sk, gr, ch)).2.2.2.1)))), (fc, .inl (E.2.1.1, 6, .inl ((years ((nb, nt, lw), kd, cr, rt, fd, nx) 0 (tw, wt, sk, gr, ch)).2.2.2.2))), (l0, .inr (3, [.int (nI (nt)), .int (nI (lw)), .int (nI (sl)), .ref lc, .ref lr, .ref lf, .ref lv, .ref ln, .ref t0])), (lc, .inl (E.2.1.1, 6, .inl (nA (cr)))), (lf, .inl (E.2.1.1, 6, .inl (nA (fd)))), (ln, .inl (E.2.1.1, 6, .inl (nA (nx)))), (ra, .inl (E.2.1.1, 6, .inl (nA (rt))))]) ?_ (rfl) rfl rfl
  refine g_loop (n) (fun i => [(s0, .inr (0, [.ref s1])), (s1, .inl (E.2.1.1, 6, .inl (snY ((nb, nt, lw), kd, cr, rt, fd, nx) (tw, wt, sk, gr, ch) sn i))), (f0, .inr (2, [.int (nI (nb)), .int (nI (yr + i)), .ref fk, .ref ft, .ref fw, .ref fs, .ref fg, .ref fc])), (fk, .inl (E.2.1.1, 10, .inl (nA (kd)))), (ft, .inl (E.2.1.1, 10, .inl (nA ((years ((nb, nt, lw), kd, cr, rt, fd, nx) i (tw, wt, sk, gr, ch)).1)))), (fw, .inl (E.2.1.1, 10, .inl (nA ((years ((nb, nt, lw), kd, cr, rt, fd, nx) i (tw, wt, sk, gr, ch)).2.1)))), (fs, .inl (E.2.1.1, 10, .inl (nA ((years ((nb, nt, lw), kd, cr, rt, fd, nx) i (tw, wt, sk, gr, ch)).2.2.1)))), (fg, .inl (E.2.1.1, 10, .inl (nA ((years ((nb, nt, lw), kd, cr, rt, fd, nx) i (tw, wt, sk, gr, ch)).2.2.2.1)))), (fc, .inl (E.2.1.1, 6, .inl ((years ((nb, nt, lw), kd, cr, rt, fd, nx) i (tw, wt, sk, gr, ch)).2.2.2.2))), (l0, .inr (3, [.int (nI (nt)), .int (nI (lw)), .int (nI (sl)), .ref lc, .ref lr, .ref lf, .ref lv, .ref ln, .ref t0])), (lc, .inl (E.2.1.1, 6, .inl (nA (cr)))), (lf, .inl (E.2.1.1, 6, .inl (nA (fd)))), (ln, .inl (E.2.1.1, 6, .inl (nA (nx)))), (ra, .inl (E.2.1.1, 6, .inl (nA (rt))))]) (fun i => [(0, .ref s0), (1, .int (nI (n))), (2, .ref f0), (3, .ref l0), (4, .ref ra), (5, .int (nI (i)))]) ?_ ?_ 0 (Nat.zero_le _)
  · intro i hi3 ih3
    have hI := years_ok hP hY hB i
    simp only [years, snY] at ih3
    generalize years ((nb, nt, lw), kd, cr, rt, fd, nx) i (tw, wt, sk, gr, ch) = ys at hI ih3 ⊢
    generalize snY ((nb, nt, lw), kd, cr, rt, fd, nx) (tw, wt, sk, gr, ch) sn i = sn1 at ih3 ⊢
    obtain ⟨tw1, wt1, sk1, gr1, ch1⟩ := ys
    obtain ⟨⟨y1, y2, y3, y4⟩, b1, b2⟩ := hI
    simp only [year1, yT, yW, yS, yG, yC, ySent] at ih3
    dsimp only at y1 y2 y3 y4 b1 b2
    show G E _ [(s0, .inr (0, [.ref s1])), (s1, .inl (E.2.1.1, 6, .inl (sn1))), (f0, .inr (2, [.int (nI (nb)), .int (nI (yr + i)), .ref fk, .ref ft, .ref fw, .ref fs, .ref fg, .ref fc])), (fk, .inl (E.2.1.1, 10, .inl (nA (kd)))), (ft, .inl (E.2.1.1, 10, .inl (nA (tw1)))), (fw, .inl (E.2.1.1, 10, .inl (nA (wt1)))), (fs, .inl (E.2.1.1, 10, .inl (nA (sk1)))), (fg, .inl (E.2.1.1, 10, .inl (nA (gr1)))), (fc, .inl (E.2.1.1, 6, .inl (ch1))), (l0, .inr (3, [.int (nI (nt)), .int (nI (lw)), .int (nI (sl)), .ref lc, .ref lr, .ref lf, .ref lv, .ref ln, .ref t0])), (lc, .inl (E.2.1.1, 6, .inl (nA (cr)))), (lf, .inl (E.2.1.1, 6, .inl (nA (fd)))), (ln, .inl (E.2.1.1, 6, .inl (nA (nx)))), (ra, .inl (E.2.1.1, 6, .inl (nA (rt))))] 3 [(0, .ref s0), (1, .int (nI (n))), (2, .ref f0), (3, .ref l0), (4, .ref ra), (5, .int (nI (i)))] []
    refine g_iload (q := 5) dX0_pass_3 rfl rfl ?_
    refine g_iload_n (q := 6) dX0_pass_5 rfl rfl rfl ?_
    refine g_icmp_geN (t := 97) (q := 9) dX0_pass_6 (by decide) rfl (by omega) (by omega) (fun c6 => ?_) (fun c6 => ?_)
    · omega
    · skip
      refine g_iconst (v := nI 0) (q := 10) dX0_pass_9 rfl ki_0 ?_
      refine g_istore (lv' := [(0, _), (1, _), (2, _), (3, _), (4, _), (5, _), (6, _)]) (q := 12) dX0_pass_10 rfl (Nat.le_of_ble_eq_true rfl) rfl ?_
      refine g_eq (ws' := [(s0, .inr (0, [.ref s1])), (s1, .inl (E.2.1.1, 6, .inl (sn1))), (f0, .inr (2, [.int (nI (nb)), .int (nI (yr + i)), .ref fk, .ref ft, .ref fw, .ref fs, .ref fg, .ref fc])), (fk, .inl (E.2.1.1, 10, .inl (nA (kd)))), (ft, .inl (E.2.1.1, 10, .inl (nA (tw1)))), (fw, .inl (E.2.1.1, 10, .inl (nA (mpN (fun b => fed (wt1 b) (fd (tw1 b))) wt1 0)))), (fs, .inl (E.2.1.1, 10, .inl (nA (mpN (fun b => trS (sk1 b) (gr1 b) (cr (tw1 b))) sk1 0)))), (fg, .inl (E.2.1.1, 10, .inl (nA (mpN (fun b => trG (kd b) (sk1 b) (gr1 b) (cr (tw1 b))) gr1 0)))), (fc, .inl (E.2.1.1, 6, .inl (ch1))), (l0, .inr (3, [.int (nI (nt)), .int (nI (lw)), .int (nI (sl)), .ref lc, .ref lr, .ref lf, .ref lv, .ref ln, .ref t0])), (lc, .inl (E.2.1.1, 6, .inl (nA (cr)))), (lf, .inl (E.2.1.1, 6, .inl (nA (fd)))), (ln, .inl (E.2.1.1, 6, .inl (nA (nx)))), (ra, .inl (E.2.1.1, 6, .inl (nA (rt))))]) ?_ (by simp only [mpN_0]) rfl rfl
      refine g_loop (nb) (fun b => [(s0, .inr (0, [.ref s1])), (s1, .inl (E.2.1.1, 6, .inl (sn1))), (f0, .inr (2, [.int (nI (nb)), .int (nI (yr + i)), .ref fk, .ref ft, .ref fw, .ref fs, .ref fg, .ref fc])), (fk, .inl (E.2.1.1, 10, .inl (nA (kd)))), (ft, .inl (E.2.1.1, 10, .inl (nA (tw1)))), (fw, .inl (E.2.1.1, 10, .inl (nA (mpN (fun b => fed (wt1 b) (fd (tw1 b))) wt1 b)))), (fs, .inl (E.2.1.1, 10, .inl (nA (mpN (fun b => trS (sk1 b) (gr1 b) (cr (tw1 b))) sk1 b)))), (fg, .inl (E.2.1.1, 10, .inl (nA (mpN (fun b => trG (kd b) (sk1 b) (gr1 b) (cr (tw1 b))) gr1 b)))), (fc, .inl (E.2.1.1, 6, .inl (ch1))), (l0, .inr (3, [.int (nI (nt)), .int (nI (lw)), .int (nI (sl)), .ref lc, .ref lr, .ref lf, .ref lv, .ref ln, .ref t0])), (lc, .inl (E.2.1.1, 6, .inl (nA (cr)))), (lf, .inl (E.2.1.1, 6, .inl (nA (fd)))), (ln, .inl (E.2.1.1, 6, .inl (nA (nx)))), (ra, .inl (E.2.1.1, 6, .inl (nA (rt))))]) (fun b => [(0, .ref s0), (1, .int (nI (n))), (2, .ref f0), (3, .ref l0), (4, .ref ra), (5, .int (nI (i))), (6, .int (nI (b)))]) ?_ ?_ 0 (Nat.zero_le _)
      · intro b hb12 ih12
        have q1 := y1 b (by omega)
        have q2 := y2 b (by omega)
        have q3 := b2 b hb12
        have q4 := p5 (tw1 b) q1
        have q5 := p7 (tw1 b) q1
        show G E _ [(s0, .inr (0, [.ref s1])), (s1, .inl (E.2.1.1, 6, .inl (sn1))), (f0, .inr (2, [.int (nI (nb)), .int (nI (yr + i)), .ref fk, .ref ft, .ref fw, .ref fs, .ref fg, .ref fc])), (fk, .inl (E.2.1.1, 10, .inl (nA (kd)))), (ft, .inl (E.2.1.1, 10, .inl (nA (tw1)))), (fw, .inl (E.2.1.1, 10, .inl (nA (mpN (fun b => fed (wt1 b) (fd (tw1 b))) wt1 b)))), (fs, .inl (E.2.1.1, 10, .inl (nA (mpN (fun b => trS (sk1 b) (gr1 b) (cr (tw1 b))) sk1 b)))), (fg, .inl (E.2.1.1, 10, .inl (nA (mpN (fun b => trG (kd b) (sk1 b) (gr1 b) (cr (tw1 b))) gr1 b)))), (fc, .inl (E.2.1.1, 6, .inl (ch1))), (l0, .inr (3, [.int (nI (nt)), .int (nI (lw)), .int (nI (sl)), .ref lc, .ref lr, .ref lf, .ref lv, .ref ln, .ref t0])), (lc, .inl (E.2.1.1, 6, .inl (nA (cr)))), (lf, .inl (E.2.1.1, 6, .inl (nA (fd)))), (ln, .inl (E.2.1.1, 6, .inl (nA (nx)))), (ra, .inl (E.2.1.1, 6, .inl (nA (rt))))] 12 [(0, .ref s0), (1, .int (nI (n))), (2, .ref f0), (3, .ref l0), (4, .ref ra), (5, .int (nI (i))), (6, .int (nI (b)))] []
        refine g_iload (q := 14) dX0_pass_12 rfl rfl ?_
        refine g_aload_n (q := 15) dX0_pass_14 rfl rfl rfl ?_
        refine gf_X0_15 rfl 2 rfl rfl (q := 18) dX0_pass_15 rfl ?_
        refine g_icmp_geN (t := 73) (q := 21) dX0_pass_18 (by decide) rfl (by omega) (by omega) (fun c18 => ?_) (fun c18 => ?_)
        · omega
        · skip
          refine g_aload_n (q := 22) dX0_pass_21 rfl rfl rfl ?_
          refine gf_X0_21 rfl 2 rfl rfl (q := 25) dX0_pass_22 rfl ?_
          refine g_iload (q := 27) dX0_pass_25 rfl rfl ?_
          have hb1 := y1 (b) (by omega)
          refine g_iald (v := nI (tw1 b)) 4 rfl (ixIn (j := b) rfl (by omega) (by decide)) (ixV (j := b) rfl (by omega)) (q := 28) dX0_pass_27 rfl ?_
          refine g_istore (lv' := [(0, _), (1, _), (2, _), (3, _), (4, _), (5, _), (6, _), (7, _)]) (q := 30) dX0_pass_28 rfl (Nat.le_of_ble_eq_true rfl) rfl ?_
          refine g_aload_n (q := 31) dX0_pass_30 rfl rfl rfl ?_
          refine gf_X0_24 rfl 2 rfl rfl (q := 34) dX0_pass_31 rfl ?_
          refine g_iload (q := 36) dX0_pass_34 rfl rfl ?_
          refine g_aload_n (q := 37) dX0_pass_36 rfl rfl rfl ?_
          refine gf_X0_24 rfl 2 rfl rfl (q := 40) dX0_pass_37 rfl ?_
          refine g_iload (q := 42) dX0_pass_40 rfl rfl ?_
          refine g_iald (v := nI ((mpN (fun b => fed (wt1 b) (fd (tw1 b))) wt1 b) b)) 5 rfl (ixIn (j := b) rfl (by omega) (by decide)) (ixV (j := b) rfl (by omega)) (q := 43) dX0_pass_42 rfl ?_
          refine g_top (y := nI (wt1 b)) (by rw [mpN_at]) ?_
          refine g_aload_n (q := 44) dX0_pass_43 rfl rfl rfl ?_
          refine gf_X0_27 rfl 9 rfl rfl (q := 47) dX0_pass_44 rfl ?_
          refine g_iload (q := 49) dX0_pass_47 rfl rfl ?_
          refine g_iald (v := nI (fd (tw1 b))) 11 rfl (ixIn (j := tw1 b) rfl (by omega) (by decide)) (ixV (j := tw1 b) rfl (by omega)) (q := 50) dX0_pass_49 rfl ?_
          refine gc_X0_32 (c_fedWeight (by omega) (by omega) (by omega)) rfl (Nat.le_of_ble_eq_true rfl) rfl [] rfl rfl (rest := [_, _]) rfl (Nat.le_of_ble_eq_true rfl) (q := 53) dX0_pass_50 rfl (exK (ws' := [_, _, _, _, _, _, _, _, _, _, _, _, _, _]) (st' := [.int (nI (fed (wt1 b) (fd (tw1 b)))), _, _]) rfl rfl ?_)
          refine g_iast (f' := (nA (updn (mpN (fun b => fed (wt1 b) (fd (tw1 b))) wt1 b) b (fed (wt1 b) (fd (tw1 b)))))) 5 rfl (ixIn (j := b) rfl (by omega) (by decide)) (ixUn (j := b) rfl (by omega)) (ws' := [_, _, _, _, _, (_, .inl (_, _, .inl _)), _, _, _, _, _, _, _, _]) rfl (q := 54) dX0_pass_53 rfl ?_
          refine g_iload (q := 56) dX0_pass_54 rfl rfl ?_
          refine g_aload_n (q := 57) dX0_pass_56 rfl rfl rfl ?_
          refine g_aload_n (q := 58) dX0_pass_57 rfl rfl rfl ?_
          refine gf_X0_36 rfl 9 rfl rfl (q := 61) dX0_pass_58 rfl ?_
          refine g_iload (q := 63) dX0_pass_61 rfl rfl ?_
          refine g_iald (v := nI (cr (tw1 b))) 10 rfl (ixIn (j := tw1 b) rfl (by omega) (by decide)) (ixV (j := tw1 b) rfl (by omega)) (q := 64) dX0_pass_63 rfl ?_
          refine gc_X0_39 (c_train (by omega) (by omega) p4 (mpN_bd (fun j hj => trS_lt (y3 j hj) (p5 _ (y1 j hj))) y3) (mpN_bd (fun j hj => trG_lt (y4 j hj)) y4)) rfl (Nat.le_of_ble_eq_true rfl) rfl [2, 3, 6, 7] rfl rfl (rest := []) rfl (Nat.le_of_ble_eq_true rfl) (q := 67) dX0_pass_64 rfl (exK (ws' := [_, _, (_, .inr (_, [_, _, _, _, _, _, _, _])), (_, .inl (_, _, .inl _)), _, _, (_, .inl (_, _, .inl _)), (_, .inl (_, _, .inl _)), _, _, _, _, _, _]) (st' := []) rfl rfl ?_)
          refine g_iinc (lv' := [(0, _), (1, _), (2, _), (3, _), (4, _), (5, _), (6, _), (7, _)]) (v := nI (b + 1)) (q := 70) dX0_pass_67 rfl rfl (nI_inc _) (Nat.le_of_ble_eq_true rfl) rfl ?_
          refine g_goto (q := 12) dX0_pass_70 (by decide) ?_
          refine g_less (lv' := [(0, _), (1, _), (2, _), (3, _), (4, _), (5, _), (6, _)]) 7 rfl ?_
          simp only [mpN_s] at ih12
          simp only [mpN_at]
          exact ih12
      · skip
        show G E _ [(s0, .inr (0, [.ref s1])), (s1, .inl (E.2.1.1, 6, .inl (sn1))), (f0, .inr (2, [.int (nI (nb)), .int (nI (yr + i)), .ref fk, .ref ft, .ref fw, .ref fs, .ref fg, .ref fc])), (fk, .inl (E.2.1.1, 10, .inl (nA (kd)))), (ft, .inl (E.2.1.1, 10, .inl (nA (tw1)))), (fw, .inl (E.2.1.1, 10, .inl (nA (mpN (fun b => fed (wt1 b) (fd (tw1 b))) wt1 nb)))), (fs, .inl (E.2.1.1, 10, .inl (nA (mpN (fun b => trS (sk1 b) (gr1 b) (cr (tw1 b))) sk1 nb)))), (fg, .inl (E.2.1.1, 10, .inl (nA (mpN (fun b => trG (kd b) (sk1 b) (gr1 b) (cr (tw1 b))) gr1 nb)))), (fc, .inl (E.2.1.1, 6, .inl (ch1))), (l0, .inr (3, [.int (nI (nt)), .int (nI (lw)), .int (nI (sl)), .ref lc, .ref lr, .ref lf, .ref lv, .ref ln, .ref t0])), (lc, .inl (E.2.1.1, 6, .inl (nA (cr)))), (lf, .inl (E.2.1.1, 6, .inl (nA (fd)))), (ln, .inl (E.2.1.1, 6, .inl (nA (nx)))), (ra, .inl (E.2.1.1, 6, .inl (nA (rt))))] 12 [(0, .ref s0), (1, .int (nI (n))), (2, .ref f0), (3, .ref l0), (4, .ref ra), (5, .int (nI (i))), (6, .int (nI (nb)))] []
        refine g_iload (q := 14) dX0_pass_12 rfl rfl ?_
        refine g_aload_n (q := 15) dX0_pass_14 rfl rfl rfl ?_
        refine gf_X0_15 rfl 2 rfl rfl (q := 18) dX0_pass_15 rfl ?_
        refine g_icmp_geN (t := 73) (q := 21) dX0_pass_18 (by decide) rfl (by omega) (by omega) (fun c18 => ?_) (fun c18 => ?_)
        · skip
          refine g_aload_n (q := 74) dX0_pass_73 rfl rfl rfl ?_
          refine g_aload_n (q := 75) dX0_pass_74 rfl rfl rfl ?_
          refine g_aload_n (q := 76) dX0_pass_75 rfl rfl rfl ?_
          refine g_aload (q := 78) dX0_pass_76 rfl rfl ?_
          refine gc_X0_43 (c_keepLent p1 p2 p3 (fun j hj => Nat.lt_of_lt_of_le (p8 j hj) p2) p4 y1 (mpN_bd (fun j hj => Nat.lt_succ_of_le (fed_in _ _).2) y2) (mpN_bd (fun j hj => trG_lt (y4 j hj)) y4) p6) rfl (Nat.le_of_ble_eq_true rfl) rfl 0 rfl [0, 1, 2, 3, 4, 5, 7, 8, 9, 12, 13] rfl rfl (rest := []) rfl (Nat.le_of_ble_eq_true rfl) (q := 81) dX0_pass_78 rfl (exK (ws' := [(_, .inr (_, [_])), (_, .inl (_, _, .inl _)), (_, .inr (_, [_, _, _, _, _, _, _, _])), (_, .inl (_, _, .inl _)), (_, .inl (_, _, .inl _)), (_, .inl (_, _, .inl _)), _, (_, .inl (_, _, .inl _)), (_, .inl (_, _, .inl _)), (_, .inr (_, [_, _, _, _, _, _, _, _, _])), _, _, (_, .inl (_, _, .inl _)), (_, .inl (_, _, .inl _))]) (st' := []) rfl rfl ?_)
          refine g_aload_n (q := 82) dX0_pass_81 rfl rfl rfl ?_
          refine g_dup (q := 83) dX0_pass_82 rfl rfl ?_
          refine gf_X0_47 rfl 2 rfl rfl (q := 86) dX0_pass_83 rfl ?_
          refine g_iconst (v := nI 1) (q := 87) dX0_pass_86 rfl ki_1 ?_
          refine g_iaddN (q := 88) dX0_pass_87 rfl ?_
          refine pf_X0_47 rfl 2 rfl (Nat.le_of_ble_eq_true rfl) (ws' := [_, _, (_, .inr (_, [_, _, _, _, _, _, _, _])), _, _, _, _, _, _, _, _, _, _, _]) rfl (q := 91) dX0_pass_88 rfl ?_
          refine g_iinc (lv' := [(0, _), (1, _), (2, _), (3, _), (4, _), (5, _), (6, _)]) (v := nI (i + 1)) (q := 94) dX0_pass_91 rfl rfl (nI_inc _) (Nat.le_of_ble_eq_true rfl) rfl ?_
          refine g_goto (q := 3) dX0_pass_94 (by decide) ?_
          refine g_less (lv' := [(0, _), (1, _), (2, _), (3, _), (4, _), (5, _)]) 6 rfl ?_
          exact ih3
        · omega
  · skip
    show G E _ [(s0, .inr (0, [.ref s1])), (s1, .inl (E.2.1.1, 6, .inl (snY ((nb, nt, lw), kd, cr, rt, fd, nx) (tw, wt, sk, gr, ch) sn n))), (f0, .inr (2, [.int (nI (nb)), .int (nI (yr + n)), .ref fk, .ref ft, .ref fw, .ref fs, .ref fg, .ref fc])), (fk, .inl (E.2.1.1, 10, .inl (nA (kd)))), (ft, .inl (E.2.1.1, 10, .inl (nA ((years ((nb, nt, lw), kd, cr, rt, fd, nx) n (tw, wt, sk, gr, ch)).1)))), (fw, .inl (E.2.1.1, 10, .inl (nA ((years ((nb, nt, lw), kd, cr, rt, fd, nx) n (tw, wt, sk, gr, ch)).2.1)))), (fs, .inl (E.2.1.1, 10, .inl (nA ((years ((nb, nt, lw), kd, cr, rt, fd, nx) n (tw, wt, sk, gr, ch)).2.2.1)))), (fg, .inl (E.2.1.1, 10, .inl (nA ((years ((nb, nt, lw), kd, cr, rt, fd, nx) n (tw, wt, sk, gr, ch)).2.2.2.1)))), (fc, .inl (E.2.1.1, 6, .inl ((years ((nb, nt, lw), kd, cr, rt, fd, nx) n (tw, wt, sk, gr, ch)).2.2.2.2))), (l0, .inr (3, [.int (nI (nt)), .int (nI (lw)), .int (nI (sl)), .ref lc, .ref lr, .ref lf, .ref lv, .ref ln, .ref t0])), (lc, .inl (E.2.1.1, 6, .inl (nA (cr)))), (lf, .inl (E.2.1.1, 6, .inl (nA (fd)))), (ln, .inl (E.2.1.1, 6, .inl (nA (nx)))), (ra, .inl (E.2.1.1, 6, .inl (nA (rt))))] 3 [(0, .ref s0), (1, .int (nI (n))), (2, .ref f0), (3, .ref l0), (4, .ref ra), (5, .int (nI (n)))] []
    refine g_iload (q := 5) dX0_pass_3 rfl rfl ?_
    refine g_iload_n (q := 6) dX0_pass_5 rfl rfl rfl ?_
    refine g_icmp_geN (t := 97) (q := 9) dX0_pass_6 (by decide) rfl (by omega) (by omega) (fun c6 => ?_) (fun c6 => ?_)
    · skip
      refine g_vret (st := []) dX0_pass_97 rfl rfl ?_
      exact xv
    · omega
