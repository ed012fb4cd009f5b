set_option maxHeartbeats 2000000 in
set_option maxRecDepth 20000 in
theorem c_mgainers {E : EN} {m0 mt mk mb mx mr mn ma mi mj mg ms md mc me mh mo mw nt nb lw sl tl en sn dn : Nat} {po ta dg nu fa rm_ rto rbo ga : Int32} {tk : Int64} {kd tw wt sk gr : Nat → Nat} {ch : Nat → Int32} {yr : Nat} {cr rt fd nx : Nat → Nat} {wn : Nat → Int32} {g : Nat → Option Nat} {as_ gh : Nat → Int32} {ow : Nat → Int32} {x y z : Int32} (hnb : nb ≤ 10) (hnt : nt ≤ 6) (hP : okL ((nb, nt, lw), kd, cr, rt, fd, nx)) (hY : okY (tw, wt, sk, gr, ch)) (hB : okB nb nt (tw, wt, sk, gr, ch))  : CT E yX10_gainers cX10_gainers 7 (some .int) 6 [.ref m0, .int (x), .int (y), .int (z)] [(m0, .inr (10, (.int (nI (nt)) :: .ref mt :: .int (nI (nb)) :: .ref mk :: .ref mb :: .int (nI (lw)) :: .int (nI (sl)) :: .int (nI (tl)) :: .ref mx :: .int (po) :: .int (ta) :: .long (tk) :: .int (dg) :: .int (nu) :: .int (fa) :: .int (rm_) :: .int (rto) :: .int (rbo) :: .ref mr :: .ref mn :: .ref ma :: .ref mi :: .ref mj :: .int (nI (en)) :: .ref mg :: .int (nI (sn)) :: .ref ms :: .int (nI (dn)) :: .ref md :: .ref mc :: .ref me :: .int (ga) :: .ref mh :: .ref mo :: .ref mw :: []))), (mk, .inl (E.2.1.1, 10, .inl (nA (kd)))), (mn, .inl (E.2.1.1, 47, .inl (nowF tw wt sk gr ch yr))), (ma, .inl (E.2.1.1, 47, .inl (as_))), (mt, .inl (E.2.1.1, 30, .inl (townF cr rt fd wn nx))), (mg, .inl (E.2.1.1, 10, .inl (oA (g)))), (mh, .inl (E.2.1.1, 10, .inl (gh))), (mo, .inl (E.2.1.1, 6, .inl (ow)))] (fun r w => ∃ (as' : Nat → Int32) (ga' : Int32) (gh' : Nat → Int32) (ow' : Nat → Int32), xQ (some (.int (opGainers ((nb, nt, lw), kd, cr, rt, fd, nx) (tw, wt, sk, gr, ch) x y z))) [(m0, .inr (10, (.int (nI (nt)) :: .ref mt :: .int (nI (nb)) :: .ref mk :: .ref mb :: .int (nI (lw)) :: .int (nI (sl)) :: .int (nI (tl)) :: .ref mx :: .int (po) :: .int (ta) :: .long (tk) :: .int (dg) :: .int (nu) :: .int (fa) :: .int (rm_) :: .int (rto) :: .int (rbo) :: .ref mr :: .ref mn :: .ref ma :: .ref mi :: .ref mj :: .int (nI (en)) :: .ref mg :: .int (nI (sn)) :: .ref ms :: .int (nI (dn)) :: .ref md :: .ref mc :: .ref me :: .int (ga') :: .ref mh :: .ref mo :: .ref mw :: []))), (mk, .inl (E.2.1.1, 10, .inl (nA (kd)))), (mn, .inl (E.2.1.1, 47, .inl (nowF tw wt sk gr ch yr))), (ma, .inl (E.2.1.1, 47, .inl (as'))), (mt, .inl (E.2.1.1, 30, .inl (townF cr rt fd wn nx))), (mg, .inl (E.2.1.1, 10, .inl (oA (g)))), (mh, .inl (E.2.1.1, 10, .inl (gh'))), (mo, .inl (E.2.1.1, 6, .inl (ow')))] r w) := by
  refine ct_of (by decide +kernel) (Nat.le_of_ble_eq_true rfl) (lv := [(0, .ref m0), (1, .int (x)), (2, .int (y)), (3, .int (z))]) rfl (fun A => ?_)
  refine g_aload_n (q := 1) dX10_gainers_0 rfl rfl rfl ?_
  refine g_iload_n (q := 2) dX10_gainers_1 rfl rfl rfl ?_
  refine gc_X10_203 (c_misTown (by omega)) rfl (Nat.le_of_ble_eq_true rfl) rfl 0 rfl [0] rfl rfl (rest := []) rfl (Nat.le_of_ble_eq_true rfl) (q := 5) dX10_gainers_2 rfl (exK (ws' := [_, _, _, _, _, _, _, _]) (st' := [.int (bI (tn x nt).isSome)]) rfl rfl ?_)
  refine g_if_ne (t := 11) (q := 8) dX10_gainers_5 (by decide) rfl (fun c5 => ?_) (fun c5 => ?_)
  · obtain ⟨t, ht⟩ := isSome_t (bI_ne0.mp c5)
    obtain ⟨ht1, rfl⟩ := tn_some ht
    refine g_iload_n (q := 12) dX10_gainers_11 rfl rfl rfl ?_
    refine g_iconst (v := nI 1) (q := 13) dX10_gainers_12 rfl ki_1 ?_
    refine g_bipush (v := nI 9) (q := 15) dX10_gainers_13 rfl kb_9 ?_
    refine gc_X10_73 (c_in) rfl (Nat.le_of_ble_eq_true rfl) rfl [] rfl rfl (rest := []) rfl (Nat.le_of_ble_eq_true rfl) (q := 18) dX10_gainers_15 rfl (exK (ws' := [_, _, _, _, _, _, _, _]) (st' := [.int (bI (!ninB y (nI 1) (nI 9)))]) rfl rfl ?_)
    refine g_top (y := bI (rn y 1 9).isSome) (by rw [ninB_rn (by decide) (by decide), not_isNone]) ?_
    refine g_if_eq (t := 31) (q := 21) dX10_gainers_18 (by decide) rfl (fun c18 => ?_) (fun c18 => ?_)
    · have nr := isSome_f (bI_eq0.mp c18)
      refine g_bipush (v := (-3)) (q := 33) dX10_gainers_31 rfl kb_m3 ?_
      refine g_iret (st := []) dX10_gainers_33 rfl rfl rfl ?_
      exact ⟨(as_), (ga), (gh), (ow), xr (by simp only [opGainers, ht, nr])⟩
    · obtain ⟨r, hr⟩ := isSome_t (bI_ne0.mp c18)
      obtain ⟨hr1, hr2, rfl⟩ := rn_some hr
      refine g_iload_n (q := 22) dX10_gainers_21 rfl rfl rfl ?_
      refine g_iconst (v := nI 1) (q := 23) dX10_gainers_22 rfl ki_1 ?_
      refine g_bipush (v := nI 99) (q := 25) dX10_gainers_23 rfl kb_99 ?_
      refine gc_X10_73 (c_in) rfl (Nat.le_of_ble_eq_true rfl) rfl [] rfl rfl (rest := []) rfl (Nat.le_of_ble_eq_true rfl) (q := 28) dX10_gainers_25 rfl (exK (ws' := [_, _, _, _, _, _, _, _]) (st' := [.int (bI (!ninB z (nI 1) (nI 99)))]) rfl rfl ?_)
      refine g_top (y := bI (rn z 1 99).isSome) (by rw [ninB_rn (by decide) (by decide), not_isNone]) ?_
      refine g_if_ne (t := 34) (q := 31) dX10_gainers_28 (by decide) rfl (fun c28 => ?_) (fun c28 => ?_)
      · obtain ⟨n, hn⟩ := isSome_t (bI_ne0.mp c28)
        obtain ⟨hn1, hn2, rfl⟩ := rn_some hn
        refine g_aload_n (q := 35) dX10_gainers_34 rfl rfl rfl ?_
        refine g_iload_n (q := 36) dX10_gainers_35 rfl rfl rfl ?_
        refine gc_X10_263 (c_goAside (by omega) hP hY hB) rfl (Nat.le_of_ble_eq_true rfl) rfl 0 rfl [0, 1, 2, 3, 4, 5, 6] rfl rfl (rest := []) rfl (Nat.le_of_ble_eq_true rfl) (q := 39) dX10_gainers_36 rfl (exKM (ws' := [(_, .inr (_, (_ :: _ :: _ :: _ :: _ :: _ :: _ :: _ :: _ :: _ :: _ :: _ :: _ :: _ :: _ :: _ :: _ :: _ :: _ :: _ :: _ :: _ :: _ :: _ :: _ :: _ :: _ :: _ :: _ :: _ :: _ :: _ :: _ :: _ :: _ :: []))), (_, .inl (_, _, .inl _)), (_, .inl (_, _, .inl _)), (_, .inl (_, _, .inl _)), (_, .inl (_, _, .inl _)), (_, .inl (_, _, .inl _)), (_, .inl (_, _, .inl _)), _]) (st' := []) rfl rfl rfl ?_)
        refine g_iconst (v := nI 0) (q := 40) dX10_gainers_39 rfl ki_0 ?_
        refine g_istore (lv' := [(0, _), (1, _), (2, _), (3, _), (4, _)]) (q := 42) dX10_gainers_40 rfl (Nat.le_of_ble_eq_true rfl) rfl ?_
        refine g_eq (ws' := [(m0, .inr (10, (.int (nI (nt)) :: .ref mt :: .int (nI (nb)) :: .ref mk :: .ref mb :: .int (nI (lw)) :: .int (nI (sl)) :: .int (nI (tl)) :: .ref mx :: .int (po) :: .int (ta) :: .long (tk) :: .int (dg) :: .int (nu) :: .int (fa) :: .int (rm_) :: .int (rto) :: .int (rbo) :: .ref mr :: .ref mn :: .ref ma :: .ref mi :: .ref mj :: .int (nI (if n = 0 then en else 0)) :: .ref mg :: .int (nI (sn)) :: .ref ms :: .int (nI (dn)) :: .ref md :: .ref mc :: .ref me :: .int (nI en) :: .ref mh :: .ref mo :: .ref mw :: []))), (mk, .inl (E.2.1.1, 10, .inl (nA (kd)))), (mn, .inl (E.2.1.1, 47, .inl (nowF ((years ((nb, nt, lw), kd, cr, rt, fd, nx) n (tw, wt, sk, gr, ch)).1) ((years ((nb, nt, lw), kd, cr, rt, fd, nx) n (tw, wt, sk, gr, ch)).2.1) ((years ((nb, nt, lw), kd, cr, rt, fd, nx) n (tw, wt, sk, gr, ch)).2.2.1) ((years ((nb, nt, lw), kd, cr, rt, fd, nx) n (tw, wt, sk, gr, ch)).2.2.2.1) ((years ((nb, nt, lw), kd, cr, rt, fd, nx) n (tw, wt, sk, gr, ch)).2.2.2.2) (yr + n)))), (ma, .inl (E.2.1.1, 47, .inl (nowF tw wt sk gr ch yr))), (mt, .inl (E.2.1.1, 30, .inl (townF cr rt fd wn nx))), (mg, .inl (E.2.1.1, 10, .inl (oA (if n = 0 then g else fun _ => none)))), (mh, .inl (E.2.1.1, 10, .inl (oA g))), (mo, .inl (E.2.1.1, 6, .inl (mpR (years ((nb, nt, lw), kd, cr, rt, fd, nx) n (tw, wt, sk, gr, ch)).2.2.2.2 ow 0)))]) ?_ (by rw [mpR_0]) rfl rfl
        refine g_loop (nt) (fun i => [(m0, .inr (10, (.int (nI (nt)) :: .ref mt :: .int (nI (nb)) :: .ref mk :: .ref mb :: .int (nI (lw)) :: .int (nI (sl)) :: .int (nI (tl)) :: .ref mx :: .int (po) :: .int (ta) :: .long (tk) :: .int (dg) :: .int (nu) :: .int (fa) :: .int (rm_) :: .int (rto) :: .int (rbo) :: .ref mr :: .ref mn :: .ref ma :: .ref mi :: .ref mj :: .int (nI (if n = 0 then en else 0)) :: .ref mg :: .int (nI (sn)) :: .ref ms :: .int (nI (dn)) :: .ref md :: .ref mc :: .ref me :: .int (nI en) :: .ref mh :: .ref mo :: .ref mw :: []))), (mk, .inl (E.2.1.1, 10, .inl (nA (kd)))), (mn, .inl (E.2.1.1, 47, .inl (nowF ((years ((nb, nt, lw), kd, cr, rt, fd, nx) n (tw, wt, sk, gr, ch)).1) ((years ((nb, nt, lw), kd, cr, rt, fd, nx) n (tw, wt, sk, gr, ch)).2.1) ((years ((nb, nt, lw), kd, cr, rt, fd, nx) n (tw, wt, sk, gr, ch)).2.2.1) ((years ((nb, nt, lw), kd, cr, rt, fd, nx) n (tw, wt, sk, gr, ch)).2.2.2.1) ((years ((nb, nt, lw), kd, cr, rt, fd, nx) n (tw, wt, sk, gr, ch)).2.2.2.2) (yr + n)))), (ma, .inl (E.2.1.1, 47, .inl (nowF tw wt sk gr ch yr))), (mt, .inl (E.2.1.1, 30, .inl (townF cr rt fd wn nx))), (mg, .inl (E.2.1.1, 10, .inl (oA (if n = 0 then g else fun _ => none)))), (mh, .inl (E.2.1.1, 10, .inl (oA g))), (mo, .inl (E.2.1.1, 6, .inl (mpR (years ((nb, nt, lw), kd, cr, rt, fd, nx) n (tw, wt, sk, gr, ch)).2.2.2.2 ow i)))]) (fun i => [(0, .ref m0), (1, .int (nI (t))), (2, .int (nI (r))), (3, .int (nI (n))), (4, .int (nI (i)))]) ?_ ?_ 0 (Nat.zero_le _)
        · intro i hi42 ih42
          show G E _ [(m0, .inr (10, (.int (nI (nt)) :: .ref mt :: .int (nI (nb)) :: .ref mk :: .ref mb :: .int (nI (lw)) :: .int (nI (sl)) :: .int (nI (tl)) :: .ref mx :: .int (po) :: .int (ta) :: .long (tk) :: .int (dg) :: .int (nu) :: .int (fa) :: .int (rm_) :: .int (rto) :: .int (rbo) :: .ref mr :: .ref mn :: .ref ma :: .ref mi :: .ref mj :: .int (nI (if n = 0 then en else 0)) :: .ref mg :: .int (nI (sn)) :: .ref ms :: .int (nI (dn)) :: .ref md :: .ref mc :: .ref me :: .int (nI en) :: .ref mh :: .ref mo :: .ref mw :: []))), (mk, .inl (E.2.1.1, 10, .inl (nA (kd)))), (mn, .inl (E.2.1.1, 47, .inl (nowF ((years ((nb, nt, lw), kd, cr, rt, fd, nx) n (tw, wt, sk, gr, ch)).1) ((years ((nb, nt, lw), kd, cr, rt, fd, nx) n (tw, wt, sk, gr, ch)).2.1) ((years ((nb, nt, lw), kd, cr, rt, fd, nx) n (tw, wt, sk, gr, ch)).2.2.1) ((years ((nb, nt, lw), kd, cr, rt, fd, nx) n (tw, wt, sk, gr, ch)).2.2.2.1) ((years ((nb, nt, lw), kd, cr, rt, fd, nx) n (tw, wt, sk, gr, ch)).2.2.2.2) (yr + n)))), (ma, .inl (E.2.1.1, 47, .inl (nowF tw wt sk gr ch yr))), (mt, .inl (E.2.1.1, 30, .inl (townF cr rt fd wn nx))), (mg, .inl (E.2.1.1, 10, .inl (oA (if n = 0 then g else fun _ => none)))), (mh, .inl (E.2.1.1, 10, .inl (oA g))), (mo, .inl (E.2.1.1, 6, .inl (mpR (years ((nb, nt, lw), kd, cr, rt, fd, nx) n (tw, wt, sk, gr, ch)).2.2.2.2 ow i)))] 42 [(0, .ref m0), (1, .int (nI (t))), (2, .int (nI (r))), (3, .int (nI (n))), (4, .int (nI (i)))] []
          refine g_iload (q := 44) dX10_gainers_42 rfl rfl ?_
          refine g_aload_n (q := 45) dX10_gainers_44 rfl rfl rfl ?_
          refine gf_X10_7 rfl 0 rfl rfl (q := 48) dX10_gainers_45 rfl ?_
          refine g_icmp_geN (t := 74) (q := 51) dX10_gainers_48 (by decide) rfl (by omega) (by omega) (fun c48 => ?_) (fun c48 => ?_)
          · omega
          · skip
            refine g_aload_n (q := 52) dX10_gainers_51 rfl rfl rfl ?_
            refine gf_X10_60 rfl 0 rfl rfl (q := 55) dX10_gainers_52 rfl ?_
            refine g_iload (q := 57) dX10_gainers_55 rfl rfl ?_
            refine g_aload_n (q := 58) dX10_gainers_57 rfl rfl rfl ?_
            refine gf_X10_29 rfl 0 rfl rfl (q := 61) dX10_gainers_58 rfl ?_
            refine g_bipush (v := nI 40) (q := 63) dX10_gainers_61 rfl kb_40 ?_
            refine g_iload (q := 65) dX10_gainers_63 rfl rfl ?_
            refine g_iaddN (q := 66) dX10_gainers_65 rfl ?_
            refine g_iald (v := ((years ((nb, nt, lw), kd, cr, rt, fd, nx) n (tw, wt, sk, gr, ch)).2.2.2.2) i) 2 rfl (ixIn (j := 40 + i) rfl (by omega) (by decide)) ((ixV (j := 40 + i) rfl (by omega)).trans (nowF_c (by omega))) (q := 67) dX10_gainers_66 rfl ?_
            refine g_iast (f' := (upd (mpR (years ((nb, nt, lw), kd, cr, rt, fd, nx) n (tw, wt, sk, gr, ch)).2.2.2.2 ow i) i (((years ((nb, nt, lw), kd, cr, rt, fd, nx) n (tw, wt, sk, gr, ch)).2.2.2.2) i))) 7 rfl (ixIn (j := i) rfl (by omega) (by decide)) (ixU (j := i) rfl (by omega)) (ws' := [_, _, _, _, _, _, _, (_, .inl (_, _, .inl _))]) rfl (q := 68) dX10_gainers_67 rfl ?_
            refine g_iinc (lv' := [(0, _), (1, _), (2, _), (3, _), (4, _)]) (v := nI (i + 1)) (q := 71) dX10_gainers_68 rfl rfl (nI_inc _) (Nat.le_of_ble_eq_true rfl) rfl ?_
            refine g_goto (q := 42) dX10_gainers_71 (by decide) ?_
            rw [mpR_s] at ih42
            exact ih42
        · skip
          show G E _ [(m0, .inr (10, (.int (nI (nt)) :: .ref mt :: .int (nI (nb)) :: .ref mk :: .ref mb :: .int (nI (lw)) :: .int (nI (sl)) :: .int (nI (tl)) :: .ref mx :: .int (po) :: .int (ta) :: .long (tk) :: .int (dg) :: .int (nu) :: .int (fa) :: .int (rm_) :: .int (rto) :: .int (rbo) :: .ref mr :: .ref mn :: .ref ma :: .ref mi :: .ref mj :: .int (nI (if n = 0 then en else 0)) :: .ref mg :: .int (nI (sn)) :: .ref ms :: .int (nI (dn)) :: .ref md :: .ref mc :: .ref me :: .int (nI en) :: .ref mh :: .ref mo :: .ref mw :: []))), (mk, .inl (E.2.1.1, 10, .inl (nA (kd)))), (mn, .inl (E.2.1.1, 47, .inl (nowF ((years ((nb, nt, lw), kd, cr, rt, fd, nx) n (tw, wt, sk, gr, ch)).1) ((years ((nb, nt, lw), kd, cr, rt, fd, nx) n (tw, wt, sk, gr, ch)).2.1) ((years ((nb, nt, lw), kd, cr, rt, fd, nx) n (tw, wt, sk, gr, ch)).2.2.1) ((years ((nb, nt, lw), kd, cr, rt, fd, nx) n (tw, wt, sk, gr, ch)).2.2.2.1) ((years ((nb, nt, lw), kd, cr, rt, fd, nx) n (tw, wt, sk, gr, ch)).2.2.2.2) (yr + n)))), (ma, .inl (E.2.1.1, 47, .inl (nowF tw wt sk gr ch yr))), (mt, .inl (E.2.1.1, 30, .inl (townF cr rt fd wn nx))), (mg, .inl (E.2.1.1, 10, .inl (oA (if n = 0 then g else fun _ => none)))), (mh, .inl (E.2.1.1, 10, .inl (oA g))), (mo, .inl (E.2.1.1, 6, .inl (mpR (years ((nb, nt, lw), kd, cr, rt, fd, nx) n (tw, wt, sk, gr, ch)).2.2.2.2 ow nt)))] 42 [(0, .ref m0), (1, .int (nI (t))), (2, .int (nI (r))), (3, .int (nI (n))), (4, .int (nI (nt)))] []
          refine g_iload (q := 44) dX10_gainers_42 rfl rfl ?_
          refine g_aload_n (q := 45) dX10_gainers_44 rfl rfl rfl ?_
          refine gf_X10_7 rfl 0 rfl rfl (q := 48) dX10_gainers_45 rfl ?_
          refine g_icmp_geN (t := 74) (q := 51) dX10_gainers_48 (by decide) rfl (by omega) (by omega) (fun c48 => ?_) (fun c48 => ?_)
          · skip
            refine g_aload_n (q := 75) dX10_gainers_74 rfl rfl rfl ?_
            refine gc_X10_266 (c_putBack) rfl (Nat.le_of_ble_eq_true rfl) rfl 0 rfl [0, 2, 3, 5, 6] rfl rfl (rest := []) rfl (Nat.le_of_ble_eq_true rfl) (q := 78) dX10_gainers_75 rfl (exK (ws' := [(_, .inr (_, (_ :: _ :: _ :: _ :: _ :: _ :: _ :: _ :: _ :: _ :: _ :: _ :: _ :: _ :: _ :: _ :: _ :: _ :: _ :: _ :: _ :: _ :: _ :: _ :: _ :: _ :: _ :: _ :: _ :: _ :: _ :: _ :: _ :: _ :: _ :: []))), _, (_, .inl (_, _, .inl _)), (_, .inl (_, _, .inl _)), _, (_, .inl (_, _, .inl _)), (_, .inl (_, _, .inl _)), _]) (st' := []) rfl rfl ?_)
            refine g_aload_n (q := 79) dX10_gainers_78 rfl rfl rfl ?_
            refine gf_X10_13 rfl 0 rfl rfl (q := 82) dX10_gainers_79 rfl ?_
            refine g_iconst (v := nI 5) (q := 83) dX10_gainers_82 rfl ki_5 ?_
            refine g_iload_n (q := 84) dX10_gainers_83 rfl rfl rfl ?_
            refine g_imulN (q := 85) dX10_gainers_84 rfl ?_
            refine g_iconst (v := nI 1) (q := 86) dX10_gainers_85 rfl ki_1 ?_
            refine g_iaddN (q := 87) dX10_gainers_86 rfl ?_
            refine g_iald (v := nI (rt t)) 4 rfl (ixIn (j := 5 * t + 1) rfl (by omega) (by decide)) ((ixV (j := 5 * t + 1) rfl (by omega)).trans (townF_1 t)) (q := 88) dX10_gainers_87 rfl ?_
            refine g_istore (lv' := [(0, _), (1, _), (2, _), (3, _), (4, _)]) (q := 90) dX10_gainers_88 rfl (Nat.le_of_ble_eq_true rfl) rfl ?_
            refine g_aload_n (q := 91) dX10_gainers_90 rfl rfl rfl ?_
            refine gf_X10_13 rfl 0 rfl rfl (q := 94) dX10_gainers_91 rfl ?_
            refine g_iconst (v := nI 5) (q := 95) dX10_gainers_94 rfl ki_5 ?_
            refine g_iload_n (q := 96) dX10_gainers_95 rfl rfl rfl ?_
            refine g_imulN (q := 97) dX10_gainers_96 rfl ?_
            refine g_iconst (v := nI 1) (q := 98) dX10_gainers_97 rfl ki_1 ?_
            refine g_iaddN (q := 99) dX10_gainers_98 rfl ?_
            refine g_iload_n (q := 100) dX10_gainers_99 rfl rfl rfl ?_
            refine g_iast (f' := (townF cr (updn rt t r) fd wn nx)) 4 rfl (ixIn (j := 5 * t + 1) rfl (by omega) (by decide)) ((ixU (j := 5 * t + 1) rfl (by omega)).trans (townF_w1 _ _)) (ws' := [_, _, _, _, (_, .inl (_, _, .inl _)), _, _, _]) rfl (q := 101) dX10_gainers_100 rfl ?_
            refine g_aload_n (q := 102) dX10_gainers_101 rfl rfl rfl ?_
            refine g_iload_n (q := 103) dX10_gainers_102 rfl rfl rfl ?_
            refine gc_X10_263 (c_goAside (by omega) (show okL ((nb, nt, lw), kd, cr, (updn rt t r), fd, nx) from okL_r hP (by omega)) hY hB) rfl (Nat.le_of_ble_eq_true rfl) rfl 0 rfl [0, 1, 2, 3, 4, 5, 6] rfl rfl (rest := []) rfl (Nat.le_of_ble_eq_true rfl) (q := 106) dX10_gainers_103 rfl (exKM (ws' := [(_, .inr (_, (_ :: _ :: _ :: _ :: _ :: _ :: _ :: _ :: _ :: _ :: _ :: _ :: _ :: _ :: _ :: _ :: _ :: _ :: _ :: _ :: _ :: _ :: _ :: _ :: _ :: _ :: _ :: _ :: _ :: _ :: _ :: _ :: _ :: _ :: _ :: []))), (_, .inl (_, _, .inl _)), (_, .inl (_, _, .inl _)), (_, .inl (_, _, .inl _)), (_, .inl (_, _, .inl _)), (_, .inl (_, _, .inl _)), (_, .inl (_, _, .inl _)), _]) (st' := []) rfl rfl rfl ?_)
            refine g_iconst (v := nI 0) (q := 107) dX10_gainers_106 rfl ki_0 ?_
            refine g_istore (lv' := [(0, _), (1, _), (2, _), (3, _), (4, _), (5, _)]) (q := 109) dX10_gainers_107 rfl (Nat.le_of_ble_eq_true rfl) rfl ?_
            refine g_iconst (v := nI 0) (q := 110) dX10_gainers_109 rfl ki_0 ?_
            refine g_istore (lv' := [(0, _), (1, _), (2, _), (3, _), (4, _), (5, _), (6, _)]) (q := 112) dX10_gainers_110 rfl (Nat.le_of_ble_eq_true rfl) rfl ?_
            refine g_loop (nt) (fun i => [(m0, .inr (10, (.int (nI (nt)) :: .ref mt :: .int (nI (nb)) :: .ref mk :: .ref mb :: .int (nI (lw)) :: .int (nI (sl)) :: .int (nI (tl)) :: .ref mx :: .int (po) :: .int (ta) :: .long (tk) :: .int (dg) :: .int (nu) :: .int (fa) :: .int (rm_) :: .int (rto) :: .int (rbo) :: .ref mr :: .ref mn :: .ref ma :: .ref mi :: .ref mj :: .int (nI (if n = 0 then en else 0)) :: .ref mg :: .int (nI (sn)) :: .ref ms :: .int (nI (dn)) :: .ref md :: .ref mc :: .ref me :: .int (nI en) :: .ref mh :: .ref mo :: .ref mw :: []))), (mk, .inl (E.2.1.1, 10, .inl (nA (kd)))), (mn, .inl (E.2.1.1, 47, .inl (nowF ((years ((nb, nt, lw), kd, cr, (updn rt t r), fd, nx) n (tw, wt, sk, gr, ch)).1) ((years ((nb, nt, lw), kd, cr, (updn rt t r), fd, nx) n (tw, wt, sk, gr, ch)).2.1) ((years ((nb, nt, lw), kd, cr, (updn rt t r), fd, nx) n (tw, wt, sk, gr, ch)).2.2.1) ((years ((nb, nt, lw), kd, cr, (updn rt t r), fd, nx) n (tw, wt, sk, gr, ch)).2.2.2.1) ((years ((nb, nt, lw), kd, cr, (updn rt t r), fd, nx) n (tw, wt, sk, gr, ch)).2.2.2.2) (yr + n)))), (ma, .inl (E.2.1.1, 47, .inl (nowF tw wt sk gr ch yr))), (mt, .inl (E.2.1.1, 30, .inl (townF cr (updn rt t r) fd wn nx))), (mg, .inl (E.2.1.1, 10, .inl (oA (if n = 0 then g else fun _ => none)))), (mh, .inl (E.2.1.1, 10, .inl (oA g))), (mo, .inl (E.2.1.1, 6, .inl (mpR (years ((nb, nt, lw), kd, cr, rt, fd, nx) n (tw, wt, sk, gr, ch)).2.2.2.2 ow nt)))]) (fun i => [(0, .ref m0), (1, .int (nI (t))), (2, .int (nI (r))), (3, .int (nI (n))), (4, .int (nI (rt t))), (5, .int (bitsI (fun o => decide ((years ((nb, nt, lw), kd, cr, (updn rt t r), fd, nx) n (tw, wt, sk, gr, ch)).2.2.2.2 o < (years ((nb, nt, lw), kd, cr, rt, fd, nx) n (tw, wt, sk, gr, ch)).2.2.2.2 o)) i)), (6, .int (nI (i)))]) ?_ ?_ 0 (Nat.zero_le _)
            · intro i hi112 ih112
              show G E _ [(m0, .inr (10, (.int (nI (nt)) :: .ref mt :: .int (nI (nb)) :: .ref mk :: .ref mb :: .int (nI (lw)) :: .int (nI (sl)) :: .int (nI (tl)) :: .ref mx :: .int (po) :: .int (ta) :: .long (tk) :: .int (dg) :: .int (nu) :: .int (fa) :: .int (rm_) :: .int (rto) :: .int (rbo) :: .ref mr :: .ref mn :: .ref ma :: .ref mi :: .ref mj :: .int (nI (if n = 0 then en else 0)) :: .ref mg :: .int (nI (sn)) :: .ref ms :: .int (nI (dn)) :: .ref md :: .ref mc :: .ref me :: .int (nI en) :: .ref mh :: .ref mo :: .ref mw :: []))), (mk, .inl (E.2.1.1, 10, .inl (nA (kd)))), (mn, .inl (E.2.1.1, 47, .inl (nowF ((years ((nb, nt, lw), kd, cr, (updn rt t r), fd, nx) n (tw, wt, sk, gr, ch)).1) ((years ((nb, nt, lw), kd, cr, (updn rt t r), fd, nx) n (tw, wt, sk, gr, ch)).2.1) ((years ((nb, nt, lw), kd, cr, (updn rt t r), fd, nx) n (tw, wt, sk, gr, ch)).2.2.1) ((years ((nb, nt, lw), kd, cr, (updn rt t r), fd, nx) n (tw, wt, sk, gr, ch)).2.2.2.1) ((years ((nb, nt, lw), kd, cr, (updn rt t r), fd, nx) n (tw, wt, sk, gr, ch)).2.2.2.2) (yr + n)))), (ma, .inl (E.2.1.1, 47, .inl (nowF tw wt sk gr ch yr))), (mt, .inl (E.2.1.1, 30, .inl (townF cr (updn rt t r) fd wn nx))), (mg, .inl (E.2.1.1, 10, .inl (oA (if n = 0 then g else fun _ => none)))), (mh, .inl (E.2.1.1, 10, .inl (oA g))), (mo, .inl (E.2.1.1, 6, .inl (mpR (years ((nb, nt, lw), kd, cr, rt, fd, nx) n (tw, wt, sk, gr, ch)).2.2.2.2 ow nt)))] 112 [(0, .ref m0), (1, .int (nI (t))), (2, .int (nI (r))), (3, .int (nI (n))), (4, .int (nI (rt t))), (5, .int (bitsI (fun o => decide ((years ((nb, nt, lw), kd, cr, (updn rt t r), fd, nx) n (tw, wt, sk, gr, ch)).2.2.2.2 o < (years ((nb, nt, lw), kd, cr, rt, fd, nx) n (tw, wt, sk, gr, ch)).2.2.2.2 o)) i)), (6, .int (nI (i)))] []
              refine g_iload (q := 114) dX10_gainers_112 rfl rfl ?_
              refine g_aload_n (q := 115) dX10_gainers_114 rfl rfl rfl ?_
              refine gf_X10_7 rfl 0 rfl rfl (q := 118) dX10_gainers_115 rfl ?_
              refine g_icmp_geN (t := 160) (q := 121) dX10_gainers_118 (by decide) rfl (by omega) (by omega) (fun c118 => ?_) (fun c118 => ?_)
              · omega
              · skip
                refine g_iload (q := 123) dX10_gainers_121 rfl rfl ?_
                refine g_aload_n (q := 124) dX10_gainers_123 rfl rfl rfl ?_
                refine gf_X10_29 rfl 0 rfl rfl (q := 127) dX10_gainers_124 rfl ?_
                refine g_bipush (v := nI 40) (q := 129) dX10_gainers_127 rfl kb_40 ?_
                refine g_iload (q := 131) dX10_gainers_129 rfl rfl ?_
                refine g_iaddN (q := 132) dX10_gainers_131 rfl ?_
                refine g_iald (v := ((years ((nb, nt, lw), kd, cr, (updn rt t r), fd, nx) n (tw, wt, sk, gr, ch)).2.2.2.2) i) 2 rfl (ixIn (j := 40 + i) rfl (by omega) (by decide)) ((ixV (j := 40 + i) rfl (by omega)).trans (nowF_c (by omega))) (q := 133) dX10_gainers_132 rfl ?_
                refine g_aload_n (q := 134) dX10_gainers_133 rfl rfl rfl ?_
                refine gf_X10_60 rfl 0 rfl rfl (q := 137) dX10_gainers_134 rfl ?_
                refine g_iload (q := 139) dX10_gainers_137 rfl rfl ?_
                refine g_iald (v := (mpR (years ((nb, nt, lw), kd, cr, rt, fd, nx) n (tw, wt, sk, gr, ch)).2.2.2.2 ow nt) i) 7 rfl (ixIn (j := i) rfl (by omega) (by decide)) (ixV (j := i) rfl (by omega)) (q := 140) dX10_gainers_139 rfl ?_
                refine g_top (y := (years ((nb, nt, lw), kd, cr, rt, fd, nx) n (tw, wt, sk, gr, ch)).2.2.2.2 i) (mpR_lt hi112) ?_
                refine g_icmp_ge (t := 150) (q := 143) dX10_gainers_140 (by decide) rfl (fun c140 => ?_) (fun c140 => ?_)
                · skip
                  refine g_iconst (v := nI 0) (q := 151) dX10_gainers_150 rfl ki_0 ?_
                  refine g_ior (q := 152) dX10_gainers_151 rfl ?_
                  refine g_istore (lv' := [(0, _), (1, _), (2, _), (3, _), (4, _), (5, _), (6, _)]) (q := 154) dX10_gainers_152 rfl (Nat.le_of_ble_eq_true rfl) rfl ?_
                  refine g_iinc (lv' := [(0, _), (1, _), (2, _), (3, _), (4, _), (5, _), (6, _)]) (v := nI (i + 1)) (q := 157) dX10_gainers_154 rfl rfl (nI_inc _) (Nat.le_of_ble_eq_true rfl) rfl ?_
                  refine g_goto (q := 112) dX10_gainers_157 (by decide) ?_
                  rw [bits_f (c := (fun o => decide ((years ((nb, nt, lw), kd, cr, (updn rt t r), fd, nx) n (tw, wt, sk, gr, ch)).2.2.2.2 o < (years ((nb, nt, lw), kd, cr, rt, fd, nx) n (tw, wt, sk, gr, ch)).2.2.2.2 o))) (decide_eq_false (Int32.not_lt.mpr c140))] at ih112
                  rw [or_0]
                  exact ih112
                · skip
                  refine g_iconst (v := nI 1) (q := 144) dX10_gainers_143 rfl ki_1 ?_
                  refine g_iload (q := 146) dX10_gainers_144 rfl rfl ?_
                  refine g_ishl (q := 147) dX10_gainers_146 rfl ?_
                  refine g_goto (q := 151) dX10_gainers_147 (by decide) ?_
                  refine g_ior (q := 152) dX10_gainers_151 rfl ?_
                  refine g_istore (lv' := [(0, _), (1, _), (2, _), (3, _), (4, _), (5, _), (6, _)]) (q := 154) dX10_gainers_152 rfl (Nat.le_of_ble_eq_true rfl) rfl ?_
                  refine g_iinc (lv' := [(0, _), (1, _), (2, _), (3, _), (4, _), (5, _), (6, _)]) (v := nI (i + 1)) (q := 157) dX10_gainers_154 rfl rfl (nI_inc _) (Nat.le_of_ble_eq_true rfl) rfl ?_
                  refine g_goto (q := 112) dX10_gainers_157 (by decide) ?_
                  rw [bits_t (c := (fun o => decide ((years ((nb, nt, lw), kd, cr, (updn rt t r), fd, nx) n (tw, wt, sk, gr, ch)).2.2.2.2 o < (years ((nb, nt, lw), kd, cr, rt, fd, nx) n (tw, wt, sk, gr, ch)).2.2.2.2 o))) (decide_eq_true (Int32.not_le.mp c140))] at ih112
                  exact ih112
            · skip
              show G E _ [(m0, .inr (10, (.int (nI (nt)) :: .ref mt :: .int (nI (nb)) :: .ref mk :: .ref mb :: .int (nI (lw)) :: .int (nI (sl)) :: .int (nI (tl)) :: .ref mx :: .int (po) :: .int (ta) :: .long (tk) :: .int (dg) :: .int (nu) :: .int (fa) :: .int (rm_) :: .int (rto) :: .int (rbo) :: .ref mr :: .ref mn :: .ref ma :: .ref mi :: .ref mj :: .int (nI (if n = 0 then en else 0)) :: .ref mg :: .int (nI (sn)) :: .ref ms :: .int (nI (dn)) :: .ref md :: .ref mc :: .ref me :: .int (nI en) :: .ref mh :: .ref mo :: .ref mw :: []))), (mk, .inl (E.2.1.1, 10, .inl (nA (kd)))), (mn, .inl (E.2.1.1, 47, .inl (nowF ((years ((nb, nt, lw), kd, cr, (updn rt t r), fd, nx) n (tw, wt, sk, gr, ch)).1) ((years ((nb, nt, lw), kd, cr, (updn rt t r), fd, nx) n (tw, wt, sk, gr, ch)).2.1) ((years ((nb, nt, lw), kd, cr, (updn rt t r), fd, nx) n (tw, wt, sk, gr, ch)).2.2.1) ((years ((nb, nt, lw), kd, cr, (updn rt t r), fd, nx) n (tw, wt, sk, gr, ch)).2.2.2.1) ((years ((nb, nt, lw), kd, cr, (updn rt t r), fd, nx) n (tw, wt, sk, gr, ch)).2.2.2.2) (yr + n)))), (ma, .inl (E.2.1.1, 47, .inl (nowF tw wt sk gr ch yr))), (mt, .inl (E.2.1.1, 30, .inl (townF cr (updn rt t r) fd wn nx))), (mg, .inl (E.2.1.1, 10, .inl (oA (if n = 0 then g else fun _ => none)))), (mh, .inl (E.2.1.1, 10, .inl (oA g))), (mo, .inl (E.2.1.1, 6, .inl (mpR (years ((nb, nt, lw), kd, cr, rt, fd, nx) n (tw, wt, sk, gr, ch)).2.2.2.2 ow nt)))] 112 [(0, .ref m0), (1, .int (nI (t))), (2, .int (nI (r))), (3, .int (nI (n))), (4, .int (nI (rt t))), (5, .int (bitsI (fun o => decide ((years ((nb, nt, lw), kd, cr, (updn rt t r), fd, nx) n (tw, wt, sk, gr, ch)).2.2.2.2 o < (years ((nb, nt, lw), kd, cr, rt, fd, nx) n (tw, wt, sk, gr, ch)).2.2.2.2 o)) nt)), (6, .int (nI (nt)))] []
              refine g_iload (q := 114) dX10_gainers_112 rfl rfl ?_
              refine g_aload_n (q := 115) dX10_gainers_114 rfl rfl rfl ?_
              refine gf_X10_7 rfl 0 rfl rfl (q := 118) dX10_gainers_115 rfl ?_
              refine g_icmp_geN (t := 160) (q := 121) dX10_gainers_118 (by decide) rfl (by omega) (by omega) (fun c118 => ?_) (fun c118 => ?_)
              · skip
                refine g_aload_n (q := 161) dX10_gainers_160 rfl rfl rfl ?_
                refine gc_X10_266 (c_putBack) rfl (Nat.le_of_ble_eq_true rfl) rfl 0 rfl [0, 2, 3, 5, 6] rfl rfl (rest := []) rfl (Nat.le_of_ble_eq_true rfl) (q := 164) dX10_gainers_161 rfl (exK (ws' := [(_, .inr (_, (_ :: _ :: _ :: _ :: _ :: _ :: _ :: _ :: _ :: _ :: _ :: _ :: _ :: _ :: _ :: _ :: _ :: _ :: _ :: _ :: _ :: _ :: _ :: _ :: _ :: _ :: _ :: _ :: _ :: _ :: _ :: _ :: _ :: _ :: _ :: []))), _, (_, .inl (_, _, .inl _)), (_, .inl (_, _, .inl _)), _, (_, .inl (_, _, .inl _)), (_, .inl (_, _, .inl _)), _]) (st' := []) rfl rfl ?_)
                refine g_aload_n (q := 165) dX10_gainers_164 rfl rfl rfl ?_
                refine gf_X10_13 rfl 0 rfl rfl (q := 168) dX10_gainers_165 rfl ?_
                refine g_iconst (v := nI 5) (q := 169) dX10_gainers_168 rfl ki_5 ?_
                refine g_iload_n (q := 170) dX10_gainers_169 rfl rfl rfl ?_
                refine g_imulN (q := 171) dX10_gainers_170 rfl ?_
                refine g_iconst (v := nI 1) (q := 172) dX10_gainers_171 rfl ki_1 ?_
                refine g_iaddN (q := 173) dX10_gainers_172 rfl ?_
                refine g_iload (q := 175) dX10_gainers_173 rfl rfl ?_
                refine g_iast (f' := (townF cr (updn (updn rt t r) t (rt t)) fd wn nx)) 4 rfl (ixIn (j := 5 * t + 1) rfl (by omega) (by decide)) ((ixU (j := 5 * t + 1) rfl (by omega)).trans (townF_w1 _ _)) (ws' := [_, _, _, _, (_, .inl (_, _, .inl _)), _, _, _]) rfl (q := 176) dX10_gainers_175 rfl ?_
                refine g_eq (ws' := [(m0, .inr (10, (.int (nI (nt)) :: .ref mt :: .int (nI (nb)) :: .ref mk :: .ref mb :: .int (nI (lw)) :: .int (nI (sl)) :: .int (nI (tl)) :: .ref mx :: .int (po) :: .int (ta) :: .long (tk) :: .int (dg) :: .int (nu) :: .int (fa) :: .int (rm_) :: .int (rto) :: .int (rbo) :: .ref mr :: .ref mn :: .ref ma :: .ref mi :: .ref mj :: .int (nI (en)) :: .ref mg :: .int (nI (sn)) :: .ref ms :: .int (nI (dn)) :: .ref md :: .ref mc :: .ref me :: .int (nI en) :: .ref mh :: .ref mo :: .ref mw :: []))), (mk, .inl (E.2.1.1, 10, .inl (nA (kd)))), (mn, .inl (E.2.1.1, 47, .inl (nowF tw wt sk gr ch yr))), (ma, .inl (E.2.1.1, 47, .inl (nowF tw wt sk gr ch yr))), (mt, .inl (E.2.1.1, 30, .inl (townF cr rt fd wn nx))), (mg, .inl (E.2.1.1, 10, .inl (oA (g)))), (mh, .inl (E.2.1.1, 10, .inl (oA g))), (mo, .inl (E.2.1.1, 6, .inl (mpR (years ((nb, nt, lw), kd, cr, rt, fd, nx) n (tw, wt, sk, gr, ch)).2.2.2.2 ow nt)))]) ?_ (by rw [updn_back]) rfl rfl
                refine g_iload (q := 178) dX10_gainers_176 rfl rfl ?_
                refine g_iret (st := []) dX10_gainers_178 rfl rfl rfl ?_
                exact ⟨(nowF tw wt sk gr ch yr), (nI en), (oA g), (mpR (years ((nb, nt, lw), kd, cr, rt, fd, nx) n (tw, wt, sk, gr, ch)).2.2.2.2 ow nt), xr (by simp only [opGainers, ht, hr, hn]; rfl)⟩
              · omega
          · omega
      · have nn := isSome_f (bI_eq0.mp c28)
        refine g_bipush (v := (-3)) (q := 33) dX10_gainers_31 rfl kb_m3 ?_
        refine g_iret (st := []) dX10_gainers_33 rfl rfl rfl ?_
        exact ⟨(as_), (ga), (gh), (ow), xr (by simp only [opGainers, ht, hr, nn])⟩
  · have nt := isSome_f (bI_eq0.mp c5)
    refine g_bipush (v := (-2)) (q := 10) dX10_gainers_8 rfl kb_m2 ?_
    refine g_iret (st := []) dX10_gainers_10 rfl rfl rfl ?_
    exact ⟨(as_), (ga), (gh), (ow), xr (by simp only [opGainers, nt])⟩
set_option maxHeartbeats 2000000 in
set_option maxRecDepth 20000 in
theorem c_plain {E : EN} {m0 mt mk mb mx mr mn ma mi mj mg ms md mc me mh mo mw nt nb lw sl tl en sn dn : Nat} {po ta dg nu fa rm_ rto rbo ga : Int32} {tk : Int64} {n : Nat} {cr rt fd nx : Nat → Nat} {wn : Nat → Int32} (hn : n ≤ 6) (hn1 : 1 ≤ n)  : CT E yX10_plain cX10_plain 3 (none) 0 [.ref m0, .int (nI (n))] [(m0, .inr (10, (.int (nI (nt)) :: .ref mt :: .int (nI (nb)) :: .ref mk :: .ref mb :: .int (nI (lw)) :: .int (nI (sl)) :: .int (nI (tl)) :: .ref mx :: .int (po) :: .int (ta) :: .long (tk) :: .int (dg) :: .int (nu) :: .int (fa) :: .int (rm_) :: .int (rto) :: .int (rbo) :: .ref mr :: .ref mn :: .ref ma :: .ref mi :: .ref mj :: .int (nI (en)) :: .ref mg :: .int (nI (sn)) :: .ref ms :: .int (nI (dn)) :: .ref md :: .ref mc :: .ref me :: .int (ga) :: .ref mh :: .ref mo :: .ref mw :: []))), (mt, .inl (E.2.1.1, 30, .inl (townF cr rt fd wn nx)))] (xQ none [(m0, .inr (10, (.int (nI (n)) :: .ref mt :: .int (nI (0)) :: .ref mk :: .ref mb :: .int (nI (0)) :: .int (nI (0)) :: .int (nI (tl)) :: .ref mx :: .int (po) :: .int (ta) :: .long (tk) :: .int (dg) :: .int (nu) :: .int (fa) :: .int (rm_) :: .int (rto) :: .int (rbo) :: .ref mr :: .ref mn :: .ref ma :: .ref mi :: .ref mj :: .int (nI (en)) :: .ref mg :: .int (nI (sn)) :: .ref ms :: .int (nI (dn)) :: .ref md :: .ref mc :: .ref me :: .int (ga) :: .ref mh :: .ref mo :: .ref mw :: []))), (mt, .inl (E.2.1.1, 30, .inl (townF (fun _ => 0) (fun _ => 1) (fun _ => 1) (fun _ => -1) (nxM n))))]) := by
  refine ct_of (by decide +kernel) (Nat.le_of_ble_eq_true rfl) (lv := [(0, .ref m0), (1, .int (nI (n)))]) rfl (fun A => ?_)
  refine g_aload_n (q := 1) dX10_plain_0 rfl rfl rfl ?_
  refine g_iload_n (q := 2) dX10_plain_1 rfl rfl rfl ?_
  refine pf_X10_7 rfl 0 rfl (Nat.le_of_ble_eq_true rfl) (ws' := [(_, .inr (_, (_ :: _ :: _ :: _ :: _ :: _ :: _ :: _ :: _ :: _ :: _ :: _ :: _ :: _ :: _ :: _ :: _ :: _ :: _ :: _ :: _ :: _ :: _ :: _ :: _ :: _ :: _ :: _ :: _ :: _ :: _ :: _ :: _ :: _ :: _ :: []))), _]) rfl (q := 5) dX10_plain_2 rfl ?_
  refine g_iconst (v := nI 0) (q := 6) dX10_plain_5 rfl ki_0 ?_
  refine g_istore_n (lv' := [(0, _), (1, _), (2, _)]) (q := 7) dX10_plain_6 rfl rfl (Nat.le_of_ble_eq_true rfl) rfl ?_
  refine g_eq (ws' := [(m0, .inr (10, (.int (nI (n)) :: .ref mt :: .int (nI (nb)) :: .ref mk :: .ref mb :: .int (nI (lw)) :: .int (nI (sl)) :: .int (nI (tl)) :: .ref mx :: .int (po) :: .int (ta) :: .long (tk) :: .int (dg) :: .int (nu) :: .int (fa) :: .int (rm_) :: .int (rto) :: .int (rbo) :: .ref mr :: .ref mn :: .ref ma :: .ref mi :: .ref mj :: .int (nI (en)) :: .ref mg :: .int (nI (sn)) :: .ref ms :: .int (nI (dn)) :: .ref md :: .ref mc :: .ref me :: .int (ga) :: .ref mh :: .ref mo :: .ref mw :: []))), (mt, .inl (E.2.1.1, 30, .inl (townF (mpN (fun _ => 0) cr 0) (mpN (fun _ => 1) rt 0) (mpN (fun _ => 1) fd 0) (mpR (fun _ => -1) wn 0) (mpN (nxM n) nx 0))))]) ?_ (by simp only [mpN_0, mpR_0]) rfl rfl
  refine g_loop (6) (fun i => [(m0, .inr (10, (.int (nI (n)) :: .ref mt :: .int (nI (nb)) :: .ref mk :: .ref mb :: .int (nI (lw)) :: .int (nI (sl)) :: .int (nI (tl)) :: .ref mx :: .int (po) :: .int (ta) :: .long (tk) :: .int (dg) :: .int (nu) :: .int (fa) :: .int (rm_) :: .int (rto) :: .int (rbo) :: .ref mr :: .ref mn :: .ref ma :: .ref mi :: .ref mj :: .int (nI (en)) :: .ref mg :: .int (nI (sn)) :: .ref ms :: .int (nI (dn)) :: .ref md :: .ref mc :: .ref me :: .int (ga) :: .ref mh :: .ref mo :: .ref mw :: []))), (mt, .inl (E.2.1.1, 30, .inl (townF (mpN (fun _ => 0) cr i) (mpN (fun _ => 1) rt i) (mpN (fun _ => 1) fd i) (mpR (fun _ => -1) wn i) (mpN (nxM n) nx i))))]) (fun i => [(0, .ref m0), (1, .int (nI (n))), (2, .int (nI (i)))]) ?_ ?_ 0 (Nat.zero_le _)
  · intro i hi7 ih7
    show G E _ [(m0, .inr (10, (.int (nI (n)) :: .ref mt :: .int (nI (nb)) :: .ref mk :: .ref mb :: .int (nI (lw)) :: .int (nI (sl)) :: .int (nI (tl)) :: .ref mx :: .int (po) :: .int (ta) :: .long (tk) :: .int (dg) :: .int (nu) :: .int (fa) :: .int (rm_) :: .int (rto) :: .int (rbo) :: .ref mr :: .ref mn :: .ref ma :: .ref mi :: .ref mj :: .int (nI (en)) :: .ref mg :: .int (nI (sn)) :: .ref ms :: .int (nI (dn)) :: .ref md :: .ref mc :: .ref me :: .int (ga) :: .ref mh :: .ref mo :: .ref mw :: []))), (mt, .inl (E.2.1.1, 30, .inl (townF (mpN (fun _ => 0) cr i) (mpN (fun _ => 1) rt i) (mpN (fun _ => 1) fd i) (mpR (fun _ => -1) wn i) (mpN (nxM n) nx i))))] 7 [(0, .ref m0), (1, .int (nI (n))), (2, .int (nI (i)))] []
    refine g_iload_n (q := 8) dX10_plain_7 rfl rfl rfl ?_
    refine g_bipush (v := nI 6) (q := 10) dX10_plain_8 rfl kb_6 ?_
    refine g_icmp_geN (t := 85) (q := 13) dX10_plain_10 (by decide) rfl (by omega) (by omega) (fun c10 => ?_) (fun c10 => ?_)
    · omega
    · skip
      refine g_aload_n (q := 14) dX10_plain_13 rfl rfl rfl ?_
      refine gf_X10_13 rfl 0 rfl rfl (q := 17) dX10_plain_14 rfl ?_
      refine g_iconst (v := nI 5) (q := 18) dX10_plain_17 rfl ki_5 ?_
      refine g_iload_n (q := 19) dX10_plain_18 rfl rfl rfl ?_
      refine g_imulN (q := 20) dX10_plain_19 rfl ?_
      refine g_iconst (v := nI 0) (q := 21) dX10_plain_20 rfl ki_0 ?_
      refine g_iast (f' := (townF (updn (mpN (fun _ => 0) cr i) i 0) (mpN (fun _ => 1) rt i) (mpN (fun _ => 1) fd i) (mpR (fun _ => -1) wn i) (mpN (nxM n) nx i))) 1 rfl (ixIn (j := 5 * i) rfl (by omega) (by decide)) ((ixU (j := 5 * i) rfl (by omega)).trans (townF_w0 _ _)) (ws' := [_, (_, .inl (_, _, .inl _))]) rfl (q := 22) dX10_plain_21 rfl ?_
      refine g_aload_n (q := 23) dX10_plain_22 rfl rfl rfl ?_
      refine gf_X10_13 rfl 0 rfl rfl (q := 26) dX10_plain_23 rfl ?_
      refine g_iconst (v := nI 5) (q := 27) dX10_plain_26 rfl ki_5 ?_
      refine g_iload_n (q := 28) dX10_plain_27 rfl rfl rfl ?_
      refine g_imulN (q := 29) dX10_plain_28 rfl ?_
      refine g_iconst (v := nI 1) (q := 30) dX10_plain_29 rfl ki_1 ?_
      refine g_iaddN (q := 31) dX10_plain_30 rfl ?_
      refine g_iconst (v := nI 1) (q := 32) dX10_plain_31 rfl ki_1 ?_
      refine g_iast (f' := (townF (updn (mpN (fun _ => 0) cr i) i 0) (updn (mpN (fun _ => 1) rt i) i 1) (mpN (fun _ => 1) fd i) (mpR (fun _ => -1) wn i) (mpN (nxM n) nx i))) 1 rfl (ixIn (j := 5 * i + 1) rfl (by omega) (by decide)) ((ixU (j := 5 * i + 1) rfl (by omega)).trans (townF_w1 _ _)) (ws' := [_, (_, .inl (_, _, .inl _))]) rfl (q := 33) dX10_plain_32 rfl ?_
      refine g_aload_n (q := 34) dX10_plain_33 rfl rfl rfl ?_
      refine gf_X10_13 rfl 0 rfl rfl (q := 37) dX10_plain_34 rfl ?_
      refine g_iconst (v := nI 5) (q := 38) dX10_plain_37 rfl ki_5 ?_
      refine g_iload_n (q := 39) dX10_plain_38 rfl rfl rfl ?_
      refine g_imulN (q := 40) dX10_plain_39 rfl ?_
      refine g_iconst (v := nI 2) (q := 41) dX10_plain_40 rfl ki_2 ?_
      refine g_iaddN (q := 42) dX10_plain_41 rfl ?_
      refine g_iconst (v := nI 1) (q := 43) dX10_plain_42 rfl ki_1 ?_
      refine g_iast (f' := (townF (updn (mpN (fun _ => 0) cr i) i 0) (updn (mpN (fun _ => 1) rt i) i 1) (updn (mpN (fun _ => 1) fd i) i 1) (mpR (fun _ => -1) wn i) (mpN (nxM n) nx i))) 1 rfl (ixIn (j := 5 * i + 2) rfl (by omega) (by decide)) ((ixU (j := 5 * i + 2) rfl (by omega)).trans (townF_w2 _ _)) (ws' := [_, (_, .inl (_, _, .inl _))]) rfl (q := 44) dX10_plain_43 rfl ?_
      refine g_aload_n (q := 45) dX10_plain_44 rfl rfl rfl ?_
      refine gf_X10_13 rfl 0 rfl rfl (q := 48) dX10_plain_45 rfl ?_
      refine g_iconst (v := nI 5) (q := 49) dX10_plain_48 rfl ki_5 ?_
      refine g_iload_n (q := 50) dX10_plain_49 rfl rfl rfl ?_
      refine g_imulN (q := 51) dX10_plain_50 rfl ?_
      refine g_iconst (v := nI 3) (q := 52) dX10_plain_51 rfl ki_3 ?_
      refine g_iaddN (q := 53) dX10_plain_52 rfl ?_
      refine g_iconst (v := (-1)) (q := 54) dX10_plain_53 rfl ki_m1 ?_
      refine g_iast (f' := (townF (updn (mpN (fun _ => 0) cr i) i 0) (updn (mpN (fun _ => 1) rt i) i 1) (updn (mpN (fun _ => 1) fd i) i 1) (upd (mpR (fun _ => -1) wn i) i (-1)) (mpN (nxM n) nx i))) 1 rfl (ixIn (j := 5 * i + 3) rfl (by omega) (by decide)) ((ixU (j := 5 * i + 3) rfl (by omega)).trans (townF_w3 _ _)) (ws' := [_, (_, .inl (_, _, .inl _))]) rfl (q := 55) dX10_plain_54 rfl ?_
      refine g_aload_n (q := 56) dX10_plain_55 rfl rfl rfl ?_
      refine gf_X10_13 rfl 0 rfl rfl (q := 59) dX10_plain_56 rfl ?_
      refine g_iconst (v := nI 5) (q := 60) dX10_plain_59 rfl ki_5 ?_
      refine g_iload_n (q := 61) dX10_plain_60 rfl rfl rfl ?_
      refine g_imulN (q := 62) dX10_plain_61 rfl ?_
      refine g_iconst (v := nI 4) (q := 63) dX10_plain_62 rfl ki_4 ?_
      refine g_iaddN (q := 64) dX10_plain_63 rfl ?_
      refine g_iload_n (q := 65) dX10_plain_64 rfl rfl rfl ?_
      refine g_iload_n (q := 66) dX10_plain_65 rfl rfl rfl ?_
      refine g_iconst (v := nI 1) (q := 67) dX10_plain_66 rfl ki_1 ?_
      refine g_isubN (q := 68) dX10_plain_67 rfl (by omega) ?_
      refine g_icmp_neN (t := 75) (q := 71) dX10_plain_68 (by decide) rfl (by omega) (by omega) (fun c68 => ?_) (fun c68 => ?_)
      · skip
        refine g_iload_n (q := 76) dX10_plain_75 rfl rfl rfl ?_
        refine g_iconst (v := nI 1) (q := 77) dX10_plain_76 rfl ki_1 ?_
        refine g_iaddN (q := 78) dX10_plain_77 rfl ?_
        refine g_iast (f' := (townF (updn (mpN (fun _ => 0) cr i) i 0) (updn (mpN (fun _ => 1) rt i) i 1) (updn (mpN (fun _ => 1) fd i) i 1) (upd (mpR (fun _ => -1) wn i) i (-1)) (updn (mpN (nxM n) nx i) i (i + 1)))) 1 rfl (ixIn (j := 5 * i + 4) rfl (by omega) (by decide)) ((ixU (j := 5 * i + 4) rfl (by omega)).trans (townF_w4 _ _)) (ws' := [_, (_, .inl (_, _, .inl _))]) rfl (q := 79) dX10_plain_78 rfl ?_
        refine g_iinc (lv' := [(0, _), (1, _), (2, _)]) (v := nI (i + 1)) (q := 82) dX10_plain_79 rfl rfl (nI_inc _) (Nat.le_of_ble_eq_true rfl) rfl ?_
        refine g_goto (q := 7) dX10_plain_82 (by decide) ?_
        simp only [mpN_s, mpR_s, nxM] at ih7
        rw [if_neg (show ¬ i = n - 1 by omega)] at ih7
        exact ih7
      · skip
        refine g_iconst (v := nI 0) (q := 72) dX10_plain_71 rfl ki_0 ?_
        refine g_goto (q := 78) dX10_plain_72 (by decide) ?_
        refine g_iast (f' := (townF (updn (mpN (fun _ => 0) cr i) i 0) (updn (mpN (fun _ => 1) rt i) i 1) (updn (mpN (fun _ => 1) fd i) i 1) (upd (mpR (fun _ => -1) wn i) i (-1)) (updn (mpN (nxM n) nx i) i 0))) 1 rfl (ixIn (j := 5 * i + 4) rfl (by omega) (by decide)) ((ixU (j := 5 * i + 4) rfl (by omega)).trans (townF_w4 _ _)) (ws' := [_, (_, .inl (_, _, .inl _))]) rfl (q := 79) dX10_plain_78 rfl ?_
        refine g_iinc (lv' := [(0, _), (1, _), (2, _)]) (v := nI (i + 1)) (q := 82) dX10_plain_79 rfl rfl (nI_inc _) (Nat.le_of_ble_eq_true rfl) rfl ?_
        refine g_goto (q := 7) dX10_plain_82 (by decide) ?_
        simp only [mpN_s, mpR_s, nxM] at ih7
        rw [if_pos (show i = n - 1 by omega)] at ih7
        exact ih7
  · skip
    show G E _ [(m0, .inr (10, (.int (nI (n)) :: .ref mt :: .int (nI (nb)) :: .ref mk :: .ref mb :: .int (nI (lw)) :: .int (nI (sl)) :: .int (nI (tl)) :: .ref mx :: .int (po) :: .int (ta) :: .long (tk) :: .int (dg) :: .int (nu) :: .int (fa) :: .int (rm_) :: .int (rto) :: .int (rbo) :: .ref mr :: .ref mn :: .ref ma :: .ref mi :: .ref mj :: .int (nI (en)) :: .ref mg :: .int (nI (sn)) :: .ref ms :: .int (nI (dn)) :: .ref md :: .ref mc :: .ref me :: .int (ga) :: .ref mh :: .ref mo :: .ref mw :: []))), (mt, .inl (E.2.1.1, 30, .inl (townF (mpN (fun _ => 0) cr 6) (mpN (fun _ => 1) rt 6) (mpN (fun _ => 1) fd 6) (mpR (fun _ => -1) wn 6) (mpN (nxM n) nx 6))))] 7 [(0, .ref m0), (1, .int (nI (n))), (2, .int (nI (6)))] []
    refine g_iload_n (q := 8) dX10_plain_7 rfl rfl rfl ?_
    refine g_bipush (v := nI 6) (q := 10) dX10_plain_8 rfl kb_6 ?_
    refine g_icmp_geN (t := 85) (q := 13) dX10_plain_10 (by decide) rfl (by omega) (by omega) (fun c10 => ?_) (fun c10 => ?_)
    · skip
      refine g_cong (townF (fun _ => 0) (fun _ => 1) (fun _ => 1) (fun _ => -1) (nxM n)) 1 rfl (fun j hj => townF_cong hj (fun b hb => mpN_lt hb) (fun b hb => mpN_lt hb) (fun b hb => mpN_lt hb) (fun b hb => mpR_lt hb) (fun b hb => mpN_lt hb)) (ws' := [_, (_, .inl (_, _, .inl _))]) rfl ?_
      refine g_aload_n (q := 86) dX10_plain_85 rfl rfl rfl ?_
      refine g_iconst (v := nI 0) (q := 87) dX10_plain_86 rfl ki_0 ?_
      refine pf_X10_77 rfl 0 rfl (Nat.le_of_ble_eq_true rfl) (ws' := [(_, .inr (_, (_ :: _ :: _ :: _ :: _ :: _ :: _ :: _ :: _ :: _ :: _ :: _ :: _ :: _ :: _ :: _ :: _ :: _ :: _ :: _ :: _ :: _ :: _ :: _ :: _ :: _ :: _ :: _ :: _ :: _ :: _ :: _ :: _ :: _ :: _ :: []))), _]) rfl (q := 90) dX10_plain_87 rfl ?_
      refine g_aload_n (q := 91) dX10_plain_90 rfl rfl rfl ?_
      refine g_iconst (v := nI 0) (q := 92) dX10_plain_91 rfl ki_0 ?_
      refine pf_X10_80 rfl 0 rfl (Nat.le_of_ble_eq_true rfl) (ws' := [(_, .inr (_, (_ :: _ :: _ :: _ :: _ :: _ :: _ :: _ :: _ :: _ :: _ :: _ :: _ :: _ :: _ :: _ :: _ :: _ :: _ :: _ :: _ :: _ :: _ :: _ :: _ :: _ :: _ :: _ :: _ :: _ :: _ :: _ :: _ :: _ :: _ :: []))), _]) rfl (q := 95) dX10_plain_92 rfl ?_
      refine g_aload_n (q := 96) dX10_plain_95 rfl rfl rfl ?_
      refine g_iconst (v := nI 0) (q := 97) dX10_plain_96 rfl ki_0 ?_
      refine pf_X10_83 rfl 0 rfl (Nat.le_of_ble_eq_true rfl) (ws' := [(_, .inr (_, (_ :: _ :: _ :: _ :: _ :: _ :: _ :: _ :: _ :: _ :: _ :: _ :: _ :: _ :: _ :: _ :: _ :: _ :: _ :: _ :: _ :: _ :: _ :: _ :: _ :: _ :: _ :: _ :: _ :: _ :: _ :: _ :: _ :: _ :: _ :: []))), _]) rfl (q := 100) dX10_plain_97 rfl ?_
      refine g_vret (st := []) dX10_plain_100 rfl rfl ?_
      exact xv
    · omega
set_option maxHeartbeats 2000000 in
set_option maxRecDepth 20000 in
theorem c_mbegin {E : EN} {m0 mt mk mb mx mr mn ma mi mj mg ms md mc me mh mo mw nt nb lw sl tl en sn dn : Nat} {po ta dg nu fa rm_ rto rbo ga : Int32} {tk : Int64} {bt bw bs bg : Nat → Nat} {tw wt sk gr : Nat → Nat} {ch : Nat → Int32} {yr : Nat} {g : Nat → Option Nat}  : CT E yX10_begin cX10_begin 3 (none) 1 [.ref m0] [(m0, .inr (10, (.int (nI (nt)) :: .ref mt :: .int (nI (nb)) :: .ref mk :: .ref mb :: .int (nI (lw)) :: .int (nI (sl)) :: .int (nI (tl)) :: .ref mx :: .int (po) :: .int (ta) :: .long (tk) :: .int (dg) :: .int (nu) :: .int (fa) :: .int (rm_) :: .int (rto) :: .int (rbo) :: .ref mr :: .ref mn :: .ref ma :: .ref mi :: .ref mj :: .int (nI (en)) :: .ref mg :: .int (nI (sn)) :: .ref ms :: .int (nI (dn)) :: .ref md :: .ref mc :: .ref me :: .int (ga) :: .ref mh :: .ref mo :: .ref mw :: []))), (mb, .inl (E.2.1.1, 40, .inl (begF bt bw bs bg))), (mn, .inl (E.2.1.1, 47, .inl (nowF tw wt sk gr ch yr))), (mg, .inl (E.2.1.1, 10, .inl (oA (g))))] (xQ none [(m0, .inr (10, (.int (nI (nt)) :: .ref mt :: .int (nI (nb)) :: .ref mk :: .ref mb :: .int (nI (lw)) :: .int (nI (sl)) :: .int (nI (tl)) :: .ref mx :: .int (po) :: .int (ta) :: .long (tk) :: .int (dg) :: .int (nu) :: .int (fa) :: .int (rm_) :: .int (rto) :: .int (rbo) :: .ref mr :: .ref mn :: .ref ma :: .ref mi :: .ref mj :: .int (nI (0)) :: .ref mg :: .int (nI (sn)) :: .ref ms :: .int (nI (dn)) :: .ref md :: .ref mc :: .ref me :: .int (ga) :: .ref mh :: .ref mo :: .ref mw :: []))), (mb, .inl (E.2.1.1, 40, .inl (begF bt bw bs bg))), (mn, .inl (E.2.1.1, 47, .inl (nowF bt bw bs bg (fun _ => nI 0) 0))), (mg, .inl (E.2.1.1, 10, .inl (oA (fun _ => none))))]) := by
  refine ct_of (by decide +kernel) (Nat.le_of_ble_eq_true rfl) (lv := [(0, .ref m0)]) rfl (fun A => ?_)
  refine g_iconst (v := nI 0) (q := 1) dX10_begin_0 rfl ki_0 ?_
  refine g_istore_n (lv' := [(0, _), (1, _)]) (q := 2) dX10_begin_1 rfl rfl (Nat.le_of_ble_eq_true rfl) rfl ?_
  refine g_eq (ws' := [(m0, .inr (10, (.int (nI (nt)) :: .ref mt :: .int (nI (nb)) :: .ref mk :: .ref mb :: .int (nI (lw)) :: .int (nI (sl)) :: .int (nI (tl)) :: .ref mx :: .int (po) :: .int (ta) :: .long (tk) :: .int (dg) :: .int (nu) :: .int (fa) :: .int (rm_) :: .int (rto) :: .int (rbo) :: .ref mr :: .ref mn :: .ref ma :: .ref mi :: .ref mj :: .int (nI (en)) :: .ref mg :: .int (nI (sn)) :: .ref ms :: .int (nI (dn)) :: .ref md :: .ref mc :: .ref me :: .int (ga) :: .ref mh :: .ref mo :: .ref mw :: []))), (mb, .inl (E.2.1.1, 40, .inl (begF bt bw bs bg))), (mn, .inl (E.2.1.1, 47, .inl (nowF (mpN bt tw 0) (mpN bw wt 0) (mpN bs sk 0) (mpN bg gr 0) ch yr))), (mg, .inl (E.2.1.1, 10, .inl (oA (g))))]) ?_ (by simp only [mpN_0]) rfl rfl
  refine g_loop (10) (fun b => [(m0, .inr (10, (.int (nI (nt)) :: .ref mt :: .int (nI (nb)) :: .ref mk :: .ref mb :: .int (nI (lw)) :: .int (nI (sl)) :: .int (nI (tl)) :: .ref mx :: .int (po) :: .int (ta) :: .long (tk) :: .int (dg) :: .int (nu) :: .int (fa) :: .int (rm_) :: .int (rto) :: .int (rbo) :: .ref mr :: .ref mn :: .ref ma :: .ref mi :: .ref mj :: .int (nI (en)) :: .ref mg :: .int (nI (sn)) :: .ref ms :: .int (nI (dn)) :: .ref md :: .ref mc :: .ref me :: .int (ga) :: .ref mh :: .ref mo :: .ref mw :: []))), (mb, .inl (E.2.1.1, 40, .inl (begF bt bw bs bg))), (mn, .inl (E.2.1.1, 47, .inl (nowF (mpN bt tw b) (mpN bw wt b) (mpN bs sk b) (mpN bg gr b) ch yr))), (mg, .inl (E.2.1.1, 10, .inl (oA (g))))]) (fun b => [(0, .ref m0), (1, .int (nI (b)))]) ?_ ?_ 0 (Nat.zero_le _)
  · intro b hb2 ih2
    show G E _ [(m0, .inr (10, (.int (nI (nt)) :: .ref mt :: .int (nI (nb)) :: .ref mk :: .ref mb :: .int (nI (lw)) :: .int (nI (sl)) :: .int (nI (tl)) :: .ref mx :: .int (po) :: .int (ta) :: .long (tk) :: .int (dg) :: .int (nu) :: .int (fa) :: .int (rm_) :: .int (rto) :: .int (rbo) :: .ref mr :: .ref mn :: .ref ma :: .ref mi :: .ref mj :: .int (nI (en)) :: .ref mg :: .int (nI (sn)) :: .ref ms :: .int (nI (dn)) :: .ref md :: .ref mc :: .ref me :: .int (ga) :: .ref mh :: .ref mo :: .ref mw :: []))), (mb, .inl (E.2.1.1, 40, .inl (begF bt bw bs bg))), (mn, .inl (E.2.1.1, 47, .inl (nowF (mpN bt tw b) (mpN bw wt b) (mpN bs sk b) (mpN bg gr b) ch yr))), (mg, .inl (E.2.1.1, 10, .inl (oA (g))))] 2 [(0, .ref m0), (1, .int (nI (b)))] []
    refine g_iload_n (q := 3) dX10_begin_2 rfl rfl rfl ?_
    refine g_bipush (v := nI 10) (q := 5) dX10_begin_3 rfl kb_10 ?_
    refine g_icmp_geN (t := 48) (q := 8) dX10_begin_5 (by decide) rfl (by omega) (by omega) (fun c5 => ?_) (fun c5 => ?_)
    · omega
    · skip
      refine g_iconst (v := nI 0) (q := 9) dX10_begin_8 rfl ki_0 ?_
      refine g_istore_n (lv' := [(0, _), (1, _), (2, _)]) (q := 10) dX10_begin_9 rfl rfl (Nat.le_of_ble_eq_true rfl) rfl ?_
      refine g_iload_n (q := 11) dX10_begin_10 rfl rfl rfl ?_
      refine g_iconst (v := nI 4) (q := 12) dX10_begin_11 rfl ki_4 ?_
      refine g_icmp_geN (t := 42) (q := 15) dX10_begin_12 (by decide) rfl (by omega) (by omega) (fun c12 => ?_) (fun c12 => ?_)
      · omega
      · skip
        refine g_aload_n (q := 16) dX10_begin_15 rfl rfl rfl ?_
        refine gf_X10_29 rfl 0 rfl rfl (q := 19) dX10_begin_16 rfl ?_
        refine g_bipush (v := nI 10) (q := 21) dX10_begin_19 rfl kb_10 ?_
        refine g_iload_n (q := 22) dX10_begin_21 rfl rfl rfl ?_
        refine g_imulN (q := 23) dX10_begin_22 rfl ?_
        refine g_iload_n (q := 24) dX10_begin_23 rfl rfl rfl ?_
        refine g_iaddN (q := 25) dX10_begin_24 rfl ?_
        refine g_top (y := nI (b)) (by simp) ?_
        refine g_aload_n (q := 26) dX10_begin_25 rfl rfl rfl ?_
        refine gf_X10_20 rfl 0 rfl rfl (q := 29) dX10_begin_26 rfl ?_
        refine g_iconst (v := nI 4) (q := 30) dX10_begin_29 rfl ki_4 ?_
        refine g_iload_n (q := 31) dX10_begin_30 rfl rfl rfl ?_
        refine g_imulN (q := 32) dX10_begin_31 rfl ?_
        refine g_iload_n (q := 33) dX10_begin_32 rfl rfl rfl ?_
        refine g_iaddN (q := 34) dX10_begin_33 rfl ?_
        refine g_iald (v := nI (bt b)) 1 rfl (ixIn (j := 4 * b + 0) rfl (by omega) (by decide)) ((ixV (j := 4 * b + 0) rfl (by omega)).trans (begF_0 b)) (q := 35) dX10_begin_34 rfl ?_
        refine g_iast (f' := (nowF (updn (mpN bt tw b) b (bt b)) (mpN bw wt b) (mpN bs sk b) (mpN bg gr b) ch yr)) 2 rfl (ixIn (j := b) rfl (by omega) (by decide)) ((ixU (j := b) rfl (by omega)).trans (nowF_wt _ (by omega))) (ws' := [_, _, (_, .inl (_, _, .inl _)), _]) rfl (q := 36) dX10_begin_35 rfl ?_
        refine g_iinc (lv' := [(0, _), (1, _), (2, _)]) (v := nI (1)) (q := 39) dX10_begin_36 rfl rfl (nI_inc _) (Nat.le_of_ble_eq_true rfl) rfl ?_
        refine g_goto (q := 10) dX10_begin_39 (by decide) ?_
        refine g_iload_n (q := 11) dX10_begin_10 rfl rfl rfl ?_
        refine g_iconst (v := nI 4) (q := 12) dX10_begin_11 rfl ki_4 ?_
        refine g_icmp_geN (t := 42) (q := 15) dX10_begin_12 (by decide) rfl (by omega) (by omega) (fun c12 => ?_) (fun c12 => ?_)
        · omega
        · skip
          refine g_aload_n (q := 16) dX10_begin_15 rfl rfl rfl ?_
          refine gf_X10_29 rfl 0 rfl rfl (q := 19) dX10_begin_16 rfl ?_
          refine g_bipush (v := nI 10) (q := 21) dX10_begin_19 rfl kb_10 ?_
          refine g_iload_n (q := 22) dX10_begin_21 rfl rfl rfl ?_
          refine g_imulN (q := 23) dX10_begin_22 rfl ?_
          refine g_iload_n (q := 24) dX10_begin_23 rfl rfl rfl ?_
          refine g_iaddN (q := 25) dX10_begin_24 rfl ?_
          refine g_aload_n (q := 26) dX10_begin_25 rfl rfl rfl ?_
          refine gf_X10_20 rfl 0 rfl rfl (q := 29) dX10_begin_26 rfl ?_
          refine g_iconst (v := nI 4) (q := 30) dX10_begin_29 rfl ki_4 ?_
          refine g_iload_n (q := 31) dX10_begin_30 rfl rfl rfl ?_
          refine g_imulN (q := 32) dX10_begin_31 rfl ?_
          refine g_iload_n (q := 33) dX10_begin_32 rfl rfl rfl ?_
          refine g_iaddN (q := 34) dX10_begin_33 rfl ?_
          refine g_iald (v := nI (bw b)) 1 rfl (ixIn (j := 4 * b + 1) rfl (by omega) (by decide)) ((ixV (j := 4 * b + 1) rfl (by omega)).trans (begF_1 b)) (q := 35) dX10_begin_34 rfl ?_
          refine g_iast (f' := (nowF (updn (mpN bt tw b) b (bt b)) (updn (mpN bw wt b) b (bw b)) (mpN bs sk b) (mpN bg gr b) ch yr)) 2 rfl (ixIn (j := 10 + b) rfl (by omega) (by decide)) ((ixU (j := 10 + b) rfl (by omega)).trans (nowF_ww _ (by omega))) (ws' := [_, _, (_, .inl (_, _, .inl _)), _]) rfl (q := 36) dX10_begin_35 rfl ?_
          refine g_iinc (lv' := [(0, _), (1, _), (2, _)]) (v := nI (2)) (q := 39) dX10_begin_36 rfl rfl (nI_inc _) (Nat.le_of_ble_eq_true rfl) rfl ?_
          refine g_goto (q := 10) dX10_begin_39 (by decide) ?_
          refine g_iload_n (q := 11) dX10_begin_10 rfl rfl rfl ?_
          refine g_iconst (v := nI 4) (q := 12) dX10_begin_11 rfl ki_4 ?_
          refine g_icmp_geN (t := 42) (q := 15) dX10_begin_12 (by decide) rfl (by omega) (by omega) (fun c12 => ?_) (fun c12 => ?_)
          · omega
          · skip
            refine g_aload_n (q := 16) dX10_begin_15 rfl rfl rfl ?_
            refine gf_X10_29 rfl 0 rfl rfl (q := 19) dX10_begin_16 rfl ?_
            refine g_bipush (v := nI 10) (q := 21) dX10_begin_19 rfl kb_10 ?_
            refine g_iload_n (q := 22) dX10_begin_21 rfl rfl rfl ?_
            refine g_imulN (q := 23) dX10_begin_22 rfl ?_
            refine g_iload_n (q := 24) dX10_begin_23 rfl rfl rfl ?_
            refine g_iaddN (q := 25) dX10_begin_24 rfl ?_
            refine g_aload_n (q := 26) dX10_begin_25 rfl rfl rfl ?_
            refine gf_X10_20 rfl 0 rfl rfl (q := 29) dX10_begin_26 rfl ?_
            refine g_iconst (v := nI 4) (q := 30) dX10_begin_29 rfl ki_4 ?_
            refine g_iload_n (q := 31) dX10_begin_30 rfl rfl rfl ?_
            refine g_imulN (q := 32) dX10_begin_31 rfl ?_
            refine g_iload_n (q := 33) dX10_begin_32 rfl rfl rfl ?_
            refine g_iaddN (q := 34) dX10_begin_33 rfl ?_
            refine g_iald (v := nI (bs b)) 1 rfl (ixIn (j := 4 * b + 2) rfl (by omega) (by decide)) ((ixV (j := 4 * b + 2) rfl (by omega)).trans (begF_2 b)) (q := 35) dX10_begin_34 rfl ?_
            refine g_iast (f' := (nowF (updn (mpN bt tw b) b (bt b)) (updn (mpN bw wt b) b (bw b)) (updn (mpN bs sk b) b (bs b)) (mpN bg gr b) ch yr)) 2 rfl (ixIn (j := 20 + b) rfl (by omega) (by decide)) ((ixU (j := 20 + b) rfl (by omega)).trans (nowF_ws _ (by omega))) (ws' := [_, _, (_, .inl (_, _, .inl _)), _]) rfl (q := 36) dX10_begin_35 rfl ?_
            refine g_iinc (lv' := [(0, _), (1, _), (2, _)]) (v := nI (3)) (q := 39) dX10_begin_36 rfl rfl (nI_inc _) (Nat.le_of_ble_eq_true rfl) rfl ?_
            refine g_goto (q := 10) dX10_begin_39 (by decide) ?_
            refine g_iload_n (q := 11) dX10_begin_10 rfl rfl rfl ?_
            refine g_iconst (v := nI 4) (q := 12) dX10_begin_11 rfl ki_4 ?_
            refine g_icmp_geN (t := 42) (q := 15) dX10_begin_12 (by decide) rfl (by omega) (by omega) (fun c12 => ?_) (fun c12 => ?_)
            · omega
            · skip
              refine g_aload_n (q := 16) dX10_begin_15 rfl rfl rfl ?_
              refine gf_X10_29 rfl 0 rfl rfl (q := 19) dX10_begin_16 rfl ?_
              refine g_bipush (v := nI 10) (q := 21) dX10_begin_19 rfl kb_10 ?_
              refine g_iload_n (q := 22) dX10_begin_21 rfl rfl rfl ?_
              refine g_imulN (q := 23) dX10_begin_22 rfl ?_
              refine g_iload_n (q := 24) dX10_begin_23 rfl rfl rfl ?_
              refine g_iaddN (q := 25) dX10_begin_24 rfl ?_
              refine g_aload_n (q := 26) dX10_begin_25 rfl rfl rfl ?_
              refine gf_X10_20 rfl 0 rfl rfl (q := 29) dX10_begin_26 rfl ?_
              refine g_iconst (v := nI 4) (q := 30) dX10_begin_29 rfl ki_4 ?_
              refine g_iload_n (q := 31) dX10_begin_30 rfl rfl rfl ?_
              refine g_imulN (q := 32) dX10_begin_31 rfl ?_
              refine g_iload_n (q := 33) dX10_begin_32 rfl rfl rfl ?_
              refine g_iaddN (q := 34) dX10_begin_33 rfl ?_
              refine g_iald (v := nI (bg b)) 1 rfl (ixIn (j := 4 * b + 3) rfl (by omega) (by decide)) ((ixV (j := 4 * b + 3) rfl (by omega)).trans (begF_3 b)) (q := 35) dX10_begin_34 rfl ?_
              refine g_iast (f' := (nowF (updn (mpN bt tw b) b (bt b)) (updn (mpN bw wt b) b (bw b)) (updn (mpN bs sk b) b (bs b)) (updn (mpN bg gr b) b (bg b)) ch yr)) 2 rfl (ixIn (j := 30 + b) rfl (by omega) (by decide)) ((ixU (j := 30 + b) rfl (by omega)).trans (nowF_wg _ (by omega))) (ws' := [_, _, (_, .inl (_, _, .inl _)), _]) rfl (q := 36) dX10_begin_35 rfl ?_
              refine g_iinc (lv' := [(0, _), (1, _), (2, _)]) (v := nI (4)) (q := 39) dX10_begin_36 rfl rfl (nI_inc _) (Nat.le_of_ble_eq_true rfl) rfl ?_
              refine g_goto (q := 10) dX10_begin_39 (by decide) ?_
              refine g_iload_n (q := 11) dX10_begin_10 rfl rfl rfl ?_
              refine g_iconst (v := nI 4) (q := 12) dX10_begin_11 rfl ki_4 ?_
              refine g_icmp_geN (t := 42) (q := 15) dX10_begin_12 (by decide) rfl (by omega) (by omega) (fun c12 => ?_) (fun c12 => ?_)
              · skip
                refine g_iinc (lv' := [(0, _), (1, _), (2, _)]) (v := nI (b + 1)) (q := 45) dX10_begin_42 rfl rfl (nI_inc _) (Nat.le_of_ble_eq_true rfl) rfl ?_
                refine g_goto (q := 2) dX10_begin_45 (by decide) ?_
                refine g_less (lv' := [(0, _), (1, _)]) 2 rfl ?_
                simp only [mpN_s] at ih2
                exact ih2
              · omega
  · skip
    show G E _ [(m0, .inr (10, (.int (nI (nt)) :: .ref mt :: .int (nI (nb)) :: .ref mk :: .ref mb :: .int (nI (lw)) :: .int (nI (sl)) :: .int (nI (tl)) :: .ref mx :: .int (po) :: .int (ta) :: .long (tk) :: .int (dg) :: .int (nu) :: .int (fa) :: .int (rm_) :: .int (rto) :: .int (rbo) :: .ref mr :: .ref mn :: .ref ma :: .ref mi :: .ref mj :: .int (nI (en)) :: .ref mg :: .int (nI (sn)) :: .ref ms :: .int (nI (dn)) :: .ref md :: .ref mc :: .ref me :: .int (ga) :: .ref mh :: .ref mo :: .ref mw :: []))), (mb, .inl (E.2.1.1, 40, .inl (begF bt bw bs bg))), (mn, .inl (E.2.1.1, 47, .inl (nowF (mpN bt tw 10) (mpN bw wt 10) (mpN bs sk 10) (mpN bg gr 10) ch yr))), (mg, .inl (E.2.1.1, 10, .inl (oA (g))))] 2 [(0, .ref m0), (1, .int (nI (10)))] []
    refine g_iload_n (q := 3) dX10_begin_2 rfl rfl rfl ?_
    refine g_bipush (v := nI 10) (q := 5) dX10_begin_3 rfl kb_10 ?_
    refine g_icmp_geN (t := 48) (q := 8) dX10_begin_5 (by decide) rfl (by omega) (by omega) (fun c5 => ?_) (fun c5 => ?_)
    · skip
      refine g_iconst (v := nI 0) (q := 49) dX10_begin_48 rfl ki_0 ?_
      refine g_istore_n (lv' := [(0, _), (1, _)]) (q := 50) dX10_begin_49 rfl rfl (Nat.le_of_ble_eq_true rfl) rfl ?_
      refine g_eq (ws' := [(m0, .inr (10, (.int (nI (nt)) :: .ref mt :: .int (nI (nb)) :: .ref mk :: .ref mb :: .int (nI (lw)) :: .int (nI (sl)) :: .int (nI (tl)) :: .ref mx :: .int (po) :: .int (ta) :: .long (tk) :: .int (dg) :: .int (nu) :: .int (fa) :: .int (rm_) :: .int (rto) :: .int (rbo) :: .ref mr :: .ref mn :: .ref ma :: .ref mi :: .ref mj :: .int (nI (en)) :: .ref mg :: .int (nI (sn)) :: .ref ms :: .int (nI (dn)) :: .ref md :: .ref mc :: .ref me :: .int (ga) :: .ref mh :: .ref mo :: .ref mw :: []))), (mb, .inl (E.2.1.1, 40, .inl (begF bt bw bs bg))), (mn, .inl (E.2.1.1, 47, .inl (nowF (mpN bt tw 10) (mpN bw wt 10) (mpN bs sk 10) (mpN bg gr 10) (mpR (fun _ => nI 0) ch 0) yr))), (mg, .inl (E.2.1.1, 10, .inl (oA (g))))]) ?_ (by simp only [mpR_0]) rfl rfl
      refine g_loop (6) (fun i => [(m0, .inr (10, (.int (nI (nt)) :: .ref mt :: .int (nI (nb)) :: .ref mk :: .ref mb :: .int (nI (lw)) :: .int (nI (sl)) :: .int (nI (tl)) :: .ref mx :: .int (po) :: .int (ta) :: .long (tk) :: .int (dg) :: .int (nu) :: .int (fa) :: .int (rm_) :: .int (rto) :: .int (rbo) :: .ref mr :: .ref mn :: .ref ma :: .ref mi :: .ref mj :: .int (nI (en)) :: .ref mg :: .int (nI (sn)) :: .ref ms :: .int (nI (dn)) :: .ref md :: .ref mc :: .ref me :: .int (ga) :: .ref mh :: .ref mo :: .ref mw :: []))), (mb, .inl (E.2.1.1, 40, .inl (begF bt bw bs bg))), (mn, .inl (E.2.1.1, 47, .inl (nowF (mpN bt tw 10) (mpN bw wt 10) (mpN bs sk 10) (mpN bg gr 10) (mpR (fun _ => nI 0) ch i) yr))), (mg, .inl (E.2.1.1, 10, .inl (oA (g))))]) (fun i => [(0, .ref m0), (1, .int (nI (i)))]) ?_ ?_ 0 (Nat.zero_le _)
      · intro i hi50 ih50
        show G E _ [(m0, .inr (10, (.int (nI (nt)) :: .ref mt :: .int (nI (nb)) :: .ref mk :: .ref mb :: .int (nI (lw)) :: .int (nI (sl)) :: .int (nI (tl)) :: .ref mx :: .int (po) :: .int (ta) :: .long (tk) :: .int (dg) :: .int (nu) :: .int (fa) :: .int (rm_) :: .int (rto) :: .int (rbo) :: .ref mr :: .ref mn :: .ref ma :: .ref mi :: .ref mj :: .int (nI (en)) :: .ref mg :: .int (nI (sn)) :: .ref ms :: .int (nI (dn)) :: .ref md :: .ref mc :: .ref me :: .int (ga) :: .ref mh :: .ref mo :: .ref mw :: []))), (mb, .inl (E.2.1.1, 40, .inl (begF bt bw bs bg))), (mn, .inl (E.2.1.1, 47, .inl (nowF (mpN bt tw 10) (mpN bw wt 10) (mpN bs sk 10) (mpN bg gr 10) (mpR (fun _ => nI 0) ch i) yr))), (mg, .inl (E.2.1.1, 10, .inl (oA (g))))] 50 [(0, .ref m0), (1, .int (nI (i)))] []
        refine g_iload_n (q := 51) dX10_begin_50 rfl rfl rfl ?_
        refine g_bipush (v := nI 6) (q := 53) dX10_begin_51 rfl kb_6 ?_
        refine g_icmp_geN (t := 72) (q := 56) dX10_begin_53 (by decide) rfl (by omega) (by omega) (fun c53 => ?_) (fun c53 => ?_)
        · omega
        · skip
          refine g_aload_n (q := 57) dX10_begin_56 rfl rfl rfl ?_
          refine gf_X10_29 rfl 0 rfl rfl (q := 60) dX10_begin_57 rfl ?_
          refine g_bipush (v := nI 40) (q := 62) dX10_begin_60 rfl kb_40 ?_
          refine g_iload_n (q := 63) dX10_begin_62 rfl rfl rfl ?_
          refine g_iaddN (q := 64) dX10_begin_63 rfl ?_
          refine g_iconst (v := nI 0) (q := 65) dX10_begin_64 rfl ki_0 ?_
          refine g_iast (f' := (nowF (mpN bt tw 10) (mpN bw wt 10) (mpN bs sk 10) (mpN bg gr 10) (upd (mpR (fun _ => nI 0) ch i) i (nI (0))) yr)) 2 rfl (ixIn (j := 40 + i) rfl (by omega) (by decide)) ((ixU (j := 40 + i) rfl (by omega)).trans (nowF_wc _ (by omega))) (ws' := [_, _, (_, .inl (_, _, .inl _)), _]) rfl (q := 66) dX10_begin_65 rfl ?_
          refine g_iinc (lv' := [(0, _), (1, _)]) (v := nI (i + 1)) (q := 69) dX10_begin_66 rfl rfl (nI_inc _) (Nat.le_of_ble_eq_true rfl) rfl ?_
          refine g_goto (q := 50) dX10_begin_69 (by decide) ?_
          rw [mpR_s] at ih50
          exact ih50
      · skip
        show G E _ [(m0, .inr (10, (.int (nI (nt)) :: .ref mt :: .int (nI (nb)) :: .ref mk :: .ref mb :: .int (nI (lw)) :: .int (nI (sl)) :: .int (nI (tl)) :: .ref mx :: .int (po) :: .int (ta) :: .long (tk) :: .int (dg) :: .int (nu) :: .int (fa) :: .int (rm_) :: .int (rto) :: .int (rbo) :: .ref mr :: .ref mn :: .ref ma :: .ref mi :: .ref mj :: .int (nI (en)) :: .ref mg :: .int (nI (sn)) :: .ref ms :: .int (nI (dn)) :: .ref md :: .ref mc :: .ref me :: .int (ga) :: .ref mh :: .ref mo :: .ref mw :: []))), (mb, .inl (E.2.1.1, 40, .inl (begF bt bw bs bg))), (mn, .inl (E.2.1.1, 47, .inl (nowF (mpN bt tw 10) (mpN bw wt 10) (mpN bs sk 10) (mpN bg gr 10) (mpR (fun _ => nI 0) ch 6) yr))), (mg, .inl (E.2.1.1, 10, .inl (oA (g))))] 50 [(0, .ref m0), (1, .int (nI (6)))] []
        refine g_iload_n (q := 51) dX10_begin_50 rfl rfl rfl ?_
        refine g_bipush (v := nI 6) (q := 53) dX10_begin_51 rfl kb_6 ?_
        refine g_icmp_geN (t := 72) (q := 56) dX10_begin_53 (by decide) rfl (by omega) (by omega) (fun c53 => ?_) (fun c53 => ?_)
        · skip
          refine g_cong (nowF bt bw bs bg (fun _ => nI 0) yr) 2 rfl (fun j hj => nowF_cong (fun b hb => mpN_lt hb) (fun b hb => mpN_lt hb) (fun b hb => mpN_lt hb) (fun b hb => mpN_lt hb) (fun b hb => mpR_lt hb)) (ws' := [_, _, (_, .inl (_, _, .inl _)), _]) rfl ?_
          refine g_aload_n (q := 73) dX10_begin_72 rfl rfl rfl ?_
          refine gf_X10_29 rfl 0 rfl rfl (q := 76) dX10_begin_73 rfl ?_
          refine g_bipush (v := nI 46) (q := 78) dX10_begin_76 rfl kb_46 ?_
          refine g_iconst (v := nI 0) (q := 79) dX10_begin_78 rfl ki_0 ?_
          refine g_iast (f' := (nowF bt bw bs bg (fun _ => nI 0) 0)) 2 rfl (ixIn (j := 46) rfl (by omega) (by decide)) ((ixU (j := 46) rfl (by omega)).trans (nowF_wy _)) (ws' := [_, _, (_, .inl (_, _, .inl _)), _]) rfl (q := 80) dX10_begin_79 rfl ?_
          refine g_aload_n (q := 81) dX10_begin_80 rfl rfl rfl ?_
          refine gc_X10_89 (c_goNowhere) rfl (Nat.le_of_ble_eq_true rfl) rfl 0 rfl [0, 3] rfl rfl (rest := []) rfl (Nat.le_of_ble_eq_true rfl) (q := 84) dX10_begin_81 rfl (exK (ws' := [(_, .inr (_, (_ :: _ :: _ :: _ :: _ :: _ :: _ :: _ :: _ :: _ :: _ :: _ :: _ :: _ :: _ :: _ :: _ :: _ :: _ :: _ :: _ :: _ :: _ :: _ :: _ :: _ :: _ :: _ :: _ :: _ :: _ :: _ :: _ :: _ :: _ :: []))), _, _, (_, .inl (_, _, .inl _))]) (st' := []) rfl rfl ?_)
          refine g_vret (st := []) dX10_begin_84 rfl rfl ?_
          exact xv
        · omega
    · omega
