set_option maxHeartbeats 2000000 in
set_option maxRecDepth 20000 in
theorem c_nextToken {E : EN} {m0 mt mk mb mx mr mn ma mi mj mg ms md mc me mh mo mw nt nb lw sl tl en sn dn : Nat} {ta dg nu fa rm_ rto rbo ga : Int32} {tk : Int64} {tx : Nat → Nat} {e : Nat} (he : e ≤ tl) (hl : tl ≤ 200) (htx : ∀ j, j < tl → tx j < 256)  : CT E yX10_nextToken cX10_nextToken 1 (none) 1 [.ref m0] [(m0, .inr (10, (.int (nI (nt)) :: .ref mt :: .int (nI (nb)) :: .ref mk :: .ref mb :: .int (nI (lw)) :: .int (nI (sl)) :: .int (nI (tl)) :: .ref mx :: .int (nI (e)) :: .int (ta) :: .long (tk) :: .int (dg) :: .int (nu) :: .int (fa) :: .int (rm_) :: .int (rto) :: .int (rbo) :: .ref mr :: .ref mn :: .ref ma :: .ref mi :: .ref mj :: .int (nI (en)) :: .ref mg :: .int (nI (sn)) :: .ref ms :: .int (nI (dn)) :: .ref md :: .ref mc :: .ref me :: .int (ga) :: .ref mh :: .ref mo :: .ref mw :: []))), (mx, .inl (E.2.1.1, 200, .inl (nA (tx))))] (xQ none [(m0, .inr (10, (.int (nI (nt)) :: .ref mt :: .int (nI (nb)) :: .ref mk :: .ref mb :: .int (nI (lw)) :: .int (nI (sl)) :: .int (nI (tl)) :: .ref mx :: .int (nI (ten tx tl (tsk tx tl e))) :: .int (nI (tsk tx tl e)) :: .long (tokV tx tl (tsk tx tl e)) :: .int (nI (digV tx tl (tsk tx tl e))) :: .int (nI (numV tx tl (tsk tx tl e))) :: .int (fa) :: .int (rm_) :: .int (rto) :: .int (rbo) :: .ref mr :: .ref mn :: .ref ma :: .ref mi :: .ref mj :: .int (nI (en)) :: .ref mg :: .int (nI (sn)) :: .ref ms :: .int (nI (dn)) :: .ref md :: .ref mc :: .ref me :: .int (ga) :: .ref mh :: .ref mo :: .ref mw :: []))), (mx, .inl (E.2.1.1, 200, .inl (nA (tx))))]) := by
  refine ct_of (by decide +kernel) (Nat.le_of_ble_eq_true rfl) (lv := [(0, .ref m0)]) rfl (fun A => ?_)
  refine g_cut (ws' := [(m0, .inr (10, (.int (nI (nt)) :: .ref mt :: .int (nI (nb)) :: .ref mk :: .ref mb :: .int (nI (lw)) :: .int (nI (sl)) :: .int (nI (tl)) :: .ref mx :: .int (nI (tsk tx tl e)) :: .int (ta) :: .long (tk) :: .int (dg) :: .int (nu) :: .int (fa) :: .int (rm_) :: .int (rto) :: .int (rbo) :: .ref mr :: .ref mn :: .ref ma :: .ref mi :: .ref mj :: .int (nI (en)) :: .ref mg :: .int (nI (sn)) :: .ref ms :: .int (nI (dn)) :: .ref md :: .ref mc :: .ref me :: .int (ga) :: .ref mh :: .ref mo :: .ref mw :: []))), (mx, .inl (E.2.1.1, 200, .inl (nA (tx))))]) (q := 38) (lv' := [(0, .ref m0)]) (st' := []) (fun hcut => ?_) ?_
  · refine g_eq (ws' := [(m0, .inr (10, (.int (nI (nt)) :: .ref mt :: .int (nI (nb)) :: .ref mk :: .ref mb :: .int (nI (lw)) :: .int (nI (sl)) :: .int (nI (tl)) :: .ref mx :: .int (nI (e + 0)) :: .int (ta) :: .long (tk) :: .int (dg) :: .int (nu) :: .int (fa) :: .int (rm_) :: .int (rto) :: .int (rbo) :: .ref mr :: .ref mn :: .ref ma :: .ref mi :: .ref mj :: .int (nI (en)) :: .ref mg :: .int (nI (sn)) :: .ref ms :: .int (nI (dn)) :: .ref md :: .ref mc :: .ref me :: .int (ga) :: .ref mh :: .ref mo :: .ref mw :: []))), (mx, .inl (E.2.1.1, 200, .inl (nA (tx))))]) ?_ rfl rfl rfl
    refine g_loopW (cnt tx tl 1 e) (fun i => [(m0, .inr (10, (.int (nI (nt)) :: .ref mt :: .int (nI (nb)) :: .ref mk :: .ref mb :: .int (nI (lw)) :: .int (nI (sl)) :: .int (nI (tl)) :: .ref mx :: .int (nI (e + i)) :: .int (ta) :: .long (tk) :: .int (dg) :: .int (nu) :: .int (fa) :: .int (rm_) :: .int (rto) :: .int (rbo) :: .ref mr :: .ref mn :: .ref ma :: .ref mi :: .ref mj :: .int (nI (en)) :: .ref mg :: .int (nI (sn)) :: .ref ms :: .int (nI (dn)) :: .ref md :: .ref mc :: .ref me :: .int (ga) :: .ref mh :: .ref mo :: .ref mw :: []))), (mx, .inl (E.2.1.1, 200, .inl (nA (tx))))]) (fun i => [(0, .ref m0)]) 0 ?_ ?_ (Nat.zero_le _)
    · intro i hl0 hi0 ih0
      obtain ⟨hA1, hA2⟩ := cnt_in (by decide) hi0
      have hA3 := fm_1.mp hA2
      show G E _ [(m0, .inr (10, (.int (nI (nt)) :: .ref mt :: .int (nI (nb)) :: .ref mk :: .ref mb :: .int (nI (lw)) :: .int (nI (sl)) :: .int (nI (tl)) :: .ref mx :: .int (nI (e + i)) :: .int (ta) :: .long (tk) :: .int (dg) :: .int (nu) :: .int (fa) :: .int (rm_) :: .int (rto) :: .int (rbo) :: .ref mr :: .ref mn :: .ref ma :: .ref mi :: .ref mj :: .int (nI (en)) :: .ref mg :: .int (nI (sn)) :: .ref ms :: .int (nI (dn)) :: .ref md :: .ref mc :: .ref me :: .int (ga) :: .ref mh :: .ref mo :: .ref mw :: []))), (mx, .inl (E.2.1.1, 200, .inl (nA (tx))))] 0 [(0, .ref m0)] []
      refine g_aload_n (q := 1) dX10_nextToken_0 rfl rfl rfl ?_
      refine gf_X10_97 rfl 0 rfl rfl (q := 4) dX10_nextToken_1 rfl ?_
      refine g_aload_n (q := 5) dX10_nextToken_4 rfl rfl rfl ?_
      refine gf_X10_92 rfl 0 rfl rfl (q := 8) dX10_nextToken_5 rfl ?_
      refine g_icmp_geN (t := 38) (q := 11) dX10_nextToken_8 (by decide) rfl (by omega) (by omega) (fun c8 => ?_) (fun c8 => ?_)
      · omega
      · skip
        refine g_aload_n (q := 12) dX10_nextToken_11 rfl rfl rfl ?_
        refine gf_X10_23 rfl 0 rfl rfl (q := 15) dX10_nextToken_12 rfl ?_
        refine g_aload_n (q := 16) dX10_nextToken_15 rfl rfl rfl ?_
        refine gf_X10_97 rfl 0 rfl rfl (q := 19) dX10_nextToken_16 rfl ?_
        have hb1 := htx (e + i) (by omega)
        refine g_iald (v := nI (tx (e + i))) 1 rfl (ixIn (j := e + i) rfl (by omega) (by decide)) (ixV (j := e + i) rfl (by omega)) (q := 20) dX10_nextToken_19 rfl ?_
        refine g_bipush (v := nI 32) (q := 22) dX10_nextToken_20 rfl kb_32 ?_
        refine g_icmp_neN (t := 38) (q := 25) dX10_nextToken_22 (by decide) rfl (by omega) (by omega) (fun c22 => ?_) (fun c22 => ?_)
        · omega
        · skip
          refine g_aload_n (q := 26) dX10_nextToken_25 rfl rfl rfl ?_
          refine g_dup (q := 27) dX10_nextToken_26 rfl rfl ?_
          refine gf_X10_97 rfl 0 rfl rfl (q := 30) dX10_nextToken_27 rfl ?_
          refine g_iconst (v := nI 1) (q := 31) dX10_nextToken_30 rfl ki_1 ?_
          refine g_iaddN (q := 32) dX10_nextToken_31 rfl ?_
          refine pf_X10_97 rfl 0 rfl (Nat.le_of_ble_eq_true rfl) (ws' := [(_, .inr (_, (_ :: _ :: _ :: _ :: _ :: _ :: _ :: _ :: _ :: _ :: _ :: _ :: _ :: _ :: _ :: _ :: _ :: _ :: _ :: _ :: _ :: _ :: _ :: _ :: _ :: _ :: _ :: _ :: _ :: _ :: _ :: _ :: _ :: _ :: _ :: []))), _]) rfl (q := 35) dX10_nextToken_32 rfl ?_
          refine g_goto (q := 0) dX10_nextToken_35 (by decide) ?_
          exact ih0
    · skip
      show G E _ [(m0, .inr (10, (.int (nI (nt)) :: .ref mt :: .int (nI (nb)) :: .ref mk :: .ref mb :: .int (nI (lw)) :: .int (nI (sl)) :: .int (nI (tl)) :: .ref mx :: .int (nI (e + (cnt tx tl 1 e))) :: .int (ta) :: .long (tk) :: .int (dg) :: .int (nu) :: .int (fa) :: .int (rm_) :: .int (rto) :: .int (rbo) :: .ref mr :: .ref mn :: .ref ma :: .ref mi :: .ref mj :: .int (nI (en)) :: .ref mg :: .int (nI (sn)) :: .ref ms :: .int (nI (dn)) :: .ref md :: .ref mc :: .ref me :: .int (ga) :: .ref mh :: .ref mo :: .ref mw :: []))), (mx, .inl (E.2.1.1, 200, .inl (nA (tx))))] 0 [(0, .ref m0)] []
      have hcl := cnt_le (tx := tx) (k := 1) (by decide) he
      refine g_aload_n (q := 1) dX10_nextToken_0 rfl rfl rfl ?_
      refine gf_X10_97 rfl 0 rfl rfl (q := 4) dX10_nextToken_1 rfl ?_
      refine g_aload_n (q := 5) dX10_nextToken_4 rfl rfl rfl ?_
      refine gf_X10_92 rfl 0 rfl rfl (q := 8) dX10_nextToken_5 rfl ?_
      refine g_icmp_geN (t := 38) (q := 11) dX10_nextToken_8 (by decide) rfl (by omega) (by omega) (fun c8 => ?_) (fun c8 => ?_)
      · skip
        exact hcut
      · skip
        refine g_aload_n (q := 12) dX10_nextToken_11 rfl rfl rfl ?_
        refine gf_X10_23 rfl 0 rfl rfl (q := 15) dX10_nextToken_12 rfl ?_
        refine g_aload_n (q := 16) dX10_nextToken_15 rfl rfl rfl ?_
        refine gf_X10_97 rfl 0 rfl rfl (q := 19) dX10_nextToken_16 rfl ?_
        have hb2 := htx (e + (cnt tx tl 1 e)) (by omega)
        refine g_iald (v := nI (tx (e + (cnt tx tl 1 e)))) 1 rfl (ixIn (j := e + (cnt tx tl 1 e)) rfl (by omega) (by decide)) (ixV (j := e + (cnt tx tl 1 e)) rfl (by omega)) (q := 20) dX10_nextToken_19 rfl ?_
        refine g_bipush (v := nI 32) (q := 22) dX10_nextToken_20 rfl kb_32 ?_
        refine g_icmp_neN (t := 38) (q := 25) dX10_nextToken_22 (by decide) rfl (by omega) (by omega) (fun c22 => ?_) (fun c22 => ?_)
        · skip
          exact hcut
        · exact absurd ((fmA_lt (by omega)).trans (fm_1.mpr c22)) (cnt_ge (tx := tx) (tl := tl) (p := e) (k := 1) (by decide))
  · have hsl := tsk_le (tx := tx) he
    refine g_aload_n (q := 39) dX10_nextToken_38 rfl rfl rfl ?_
    refine g_aload_n (q := 40) dX10_nextToken_39 rfl rfl rfl ?_
    refine gf_X10_97 rfl 0 rfl rfl (q := 43) dX10_nextToken_40 rfl ?_
    refine pf_X10_100 rfl 0 rfl (Nat.le_of_ble_eq_true rfl) (ws' := [(_, .inr (_, (_ :: _ :: _ :: _ :: _ :: _ :: _ :: _ :: _ :: _ :: _ :: _ :: _ :: _ :: _ :: _ :: _ :: _ :: _ :: _ :: _ :: _ :: _ :: _ :: _ :: _ :: _ :: _ :: _ :: _ :: _ :: _ :: _ :: _ :: _ :: []))), _]) rfl (q := 46) dX10_nextToken_43 rfl ?_
    refine g_aload_n (q := 47) dX10_nextToken_46 rfl rfl rfl ?_
    refine g_iconst (v := nI 0) (q := 48) dX10_nextToken_47 rfl ki_0 ?_
    refine pf_X10_103 rfl 0 rfl (Nat.le_of_ble_eq_true rfl) (ws' := [(_, .inr (_, (_ :: _ :: _ :: _ :: _ :: _ :: _ :: _ :: _ :: _ :: _ :: _ :: _ :: _ :: _ :: _ :: _ :: _ :: _ :: _ :: _ :: _ :: _ :: _ :: _ :: _ :: _ :: _ :: _ :: _ :: _ :: _ :: _ :: _ :: _ :: []))), _]) rfl (q := 51) dX10_nextToken_48 rfl ?_
    refine g_aload_n (q := 52) dX10_nextToken_51 rfl rfl rfl ?_
    refine g_iconst (v := nI 0) (q := 53) dX10_nextToken_52 rfl ki_0 ?_
    refine pf_X10_106 rfl 0 rfl (Nat.le_of_ble_eq_true rfl) (ws' := [(_, .inr (_, (_ :: _ :: _ :: _ :: _ :: _ :: _ :: _ :: _ :: _ :: _ :: _ :: _ :: _ :: _ :: _ :: _ :: _ :: _ :: _ :: _ :: _ :: _ :: _ :: _ :: _ :: _ :: _ :: _ :: _ :: _ :: _ :: _ :: _ :: _ :: []))), _]) rfl (q := 56) dX10_nextToken_53 rfl ?_
    refine g_aload_n (q := 57) dX10_nextToken_56 rfl rfl rfl ?_
    refine gf_X10_97 rfl 0 rfl rfl (q := 60) dX10_nextToken_57 rfl ?_
    refine g_aload_n (q := 61) dX10_nextToken_60 rfl rfl rfl ?_
    refine gf_X10_92 rfl 0 rfl rfl (q := 64) dX10_nextToken_61 rfl ?_
    refine g_icmp_neN (t := 77) (q := 67) dX10_nextToken_64 (by decide) rfl (by omega) (by omega) (fun c64 => ?_) (fun c64 => ?_)
    · skip
      refine g_aload_n (q := 78) dX10_nextToken_77 rfl rfl rfl ?_
      refine gf_X10_23 rfl 0 rfl rfl (q := 81) dX10_nextToken_78 rfl ?_
      refine g_aload_n (q := 82) dX10_nextToken_81 rfl rfl rfl ?_
      refine gf_X10_97 rfl 0 rfl rfl (q := 85) dX10_nextToken_82 rfl ?_
      have hb3 := htx (tsk tx tl e) (by omega)
      refine g_iald (v := nI (tx (tsk tx tl e))) 1 rfl (ixIn (j := tsk tx tl e) rfl (by omega) (by decide)) (ixV (j := tsk tx tl e) rfl (by omega)) (q := 86) dX10_nextToken_85 rfl ?_
      refine g_bipush (v := nI 97) (q := 88) dX10_nextToken_86 rfl kb_97 ?_
      refine g_bipush (v := nI 122) (q := 90) dX10_nextToken_88 rfl kb_122 ?_
      refine gc_X10_73 (c_in) rfl (Nat.le_of_ble_eq_true rfl) rfl [] rfl rfl (rest := []) rfl (Nat.le_of_ble_eq_true rfl) (q := 93) dX10_nextToken_90 rfl (exK (ws' := [_, _]) (st' := [.int (bI (!ninB (nI (tx (tsk tx tl e))) (nI (97)) (nI (122))))]) rfl rfl ?_)
      refine g_top (y := bI (decide (fm (tx (tsk tx tl e)) = 2))) (in_2 (by omega)) ?_
      refine g_if_eq (t := 222) (q := 96) dX10_nextToken_93 (by decide) rfl (fun c93 => ?_) (fun c93 => ?_)
      · have h93 := of_decide_eq_false (bI_eq0.mp c93)
        refine g_aload_n (q := 223) dX10_nextToken_222 rfl rfl rfl ?_
        refine gf_X10_23 rfl 0 rfl rfl (q := 226) dX10_nextToken_223 rfl ?_
        refine g_aload_n (q := 227) dX10_nextToken_226 rfl rfl rfl ?_
        refine gf_X10_97 rfl 0 rfl rfl (q := 230) dX10_nextToken_227 rfl ?_
        have hb4 := htx (tsk tx tl e) (by omega)
        refine g_iald (v := nI (tx (tsk tx tl e))) 1 rfl (ixIn (j := tsk tx tl e) rfl (by omega) (by decide)) (ixV (j := tsk tx tl e) rfl (by omega)) (q := 231) dX10_nextToken_230 rfl ?_
        refine g_bipush (v := nI 48) (q := 233) dX10_nextToken_231 rfl kb_48 ?_
        refine g_bipush (v := nI 57) (q := 235) dX10_nextToken_233 rfl kb_57 ?_
        refine gc_X10_73 (c_in) rfl (Nat.le_of_ble_eq_true rfl) rfl [] rfl rfl (rest := []) rfl (Nat.le_of_ble_eq_true rfl) (q := 238) dX10_nextToken_235 rfl (exK (ws' := [_, _]) (st' := [.int (bI (!ninB (nI (tx (tsk tx tl e))) (nI (48)) (nI (57))))]) rfl rfl ?_)
        refine g_top (y := bI (decide (fm (tx (tsk tx tl e)) = 3))) (in_3 (by omega)) ?_
        refine g_if_eq (t := 357) (q := 241) dX10_nextToken_238 (by decide) rfl (fun c238 => ?_) (fun c238 => ?_)
        · have h238 := of_decide_eq_false (bI_eq0.mp c238)
          refine g_aload_n (q := 358) dX10_nextToken_357 rfl rfl rfl ?_
          refine g_aload_n (q := 359) dX10_nextToken_358 rfl rfl rfl ?_
          refine gf_X10_23 rfl 0 rfl rfl (q := 362) dX10_nextToken_359 rfl ?_
          refine g_aload_n (q := 363) dX10_nextToken_362 rfl rfl rfl ?_
          refine gf_X10_97 rfl 0 rfl rfl (q := 366) dX10_nextToken_363 rfl ?_
          have hb5 := htx (tsk tx tl e) (by omega)
          refine g_iald (v := nI (tx (tsk tx tl e))) 1 rfl (ixIn (j := tsk tx tl e) rfl (by omega) (by decide)) (ixV (j := tsk tx tl e) rfl (by omega)) (q := 367) dX10_nextToken_366 rfl ?_
          refine g_bipush (v := nI 59) (q := 369) dX10_nextToken_367 rfl kb_59 ?_
          refine g_icmp_neN (t := 378) (q := 372) dX10_nextToken_369 (by decide) rfl (by omega) (by omega) (fun c369 => ?_) (fun c369 => ?_)
          · skip
            refine g_ldc2 (v := (-4)) rfl mkX10_119 (q := 381) dX10_nextToken_378 rfl ?_
            refine pf_X10_111 rfl 0 rfl (Nat.le_of_ble_eq_true rfl) (ws' := [(_, .inr (_, (_ :: _ :: _ :: _ :: _ :: _ :: _ :: _ :: _ :: _ :: _ :: _ :: _ :: _ :: _ :: _ :: _ :: _ :: _ :: _ :: _ :: _ :: _ :: _ :: _ :: _ :: _ :: _ :: _ :: _ :: _ :: _ :: _ :: _ :: _ :: []))), _]) rfl (q := 384) dX10_nextToken_381 rfl ?_
            refine g_aload_n (q := 385) dX10_nextToken_384 rfl rfl rfl ?_
            refine g_dup (q := 386) dX10_nextToken_385 rfl rfl ?_
            refine gf_X10_97 rfl 0 rfl rfl (q := 389) dX10_nextToken_386 rfl ?_
            refine g_iconst (v := nI 1) (q := 390) dX10_nextToken_389 rfl ki_1 ?_
            refine g_iaddN (q := 391) dX10_nextToken_390 rfl ?_
            refine pf_X10_97 rfl 0 rfl (Nat.le_of_ble_eq_true rfl) (ws' := [(_, .inr (_, (_ :: _ :: _ :: _ :: _ :: _ :: _ :: _ :: _ :: _ :: _ :: _ :: _ :: _ :: _ :: _ :: _ :: _ :: _ :: _ :: _ :: _ :: _ :: _ :: _ :: _ :: _ :: _ :: _ :: _ :: _ :: _ :: _ :: _ :: _ :: []))), _]) rfl (q := 394) dX10_nextToken_391 rfl ?_
            refine g_vret (st := []) dX10_nextToken_394 rfl rfl ?_
            obtain ⟨k1, k2, k3, k4⟩ := tkO (tx := tx) (tl := tl) (s := tsk tx tl e) (by omega) h93 h238
            exact xv (by rw [k1, k2, k3, k4, if_neg c369])
          · skip
            refine g_ldc2 (v := (-3)) rfl mkX10_123 (q := 375) dX10_nextToken_372 rfl ?_
            refine g_goto (q := 381) dX10_nextToken_375 (by decide) ?_
            refine pf_X10_111 rfl 0 rfl (Nat.le_of_ble_eq_true rfl) (ws' := [(_, .inr (_, (_ :: _ :: _ :: _ :: _ :: _ :: _ :: _ :: _ :: _ :: _ :: _ :: _ :: _ :: _ :: _ :: _ :: _ :: _ :: _ :: _ :: _ :: _ :: _ :: _ :: _ :: _ :: _ :: _ :: _ :: _ :: _ :: _ :: _ :: _ :: []))), _]) rfl (q := 384) dX10_nextToken_381 rfl ?_
            refine g_aload_n (q := 385) dX10_nextToken_384 rfl rfl rfl ?_
            refine g_dup (q := 386) dX10_nextToken_385 rfl rfl ?_
            refine gf_X10_97 rfl 0 rfl rfl (q := 389) dX10_nextToken_386 rfl ?_
            refine g_iconst (v := nI 1) (q := 390) dX10_nextToken_389 rfl ki_1 ?_
            refine g_iaddN (q := 391) dX10_nextToken_390 rfl ?_
            refine pf_X10_97 rfl 0 rfl (Nat.le_of_ble_eq_true rfl) (ws' := [(_, .inr (_, (_ :: _ :: _ :: _ :: _ :: _ :: _ :: _ :: _ :: _ :: _ :: _ :: _ :: _ :: _ :: _ :: _ :: _ :: _ :: _ :: _ :: _ :: _ :: _ :: _ :: _ :: _ :: _ :: _ :: _ :: _ :: _ :: _ :: _ :: _ :: []))), _]) rfl (q := 394) dX10_nextToken_391 rfl ?_
            refine g_vret (st := []) dX10_nextToken_394 rfl rfl ?_
            obtain ⟨k1, k2, k3, k4⟩ := tkO (tx := tx) (tl := tl) (s := tsk tx tl e) (by omega) h93 h238
            exact xv (by rw [k1, k2, k3, k4, if_pos c369])
        · have h238 := of_decide_eq_true (bI_ne0.mp c238)
          have hf3 : fmA tx tl (tsk tx tl e) = 3 := (fmA_lt (by omega)).trans h238
          refine g_eq (ws' := [(m0, .inr (10, (.int (nI (nt)) :: .ref mt :: .int (nI (nb)) :: .ref mk :: .ref mb :: .int (nI (lw)) :: .int (nI (sl)) :: .int (nI (tl)) :: .ref mx :: .int (nI (tsk tx tl e + 0)) :: .int (nI (tsk tx tl e)) :: .long (tk) :: .int (nI (0)) :: .int (nI (dgN (sh tx (tsk tx tl e)) (min 0 3))) :: .int (fa) :: .int (rm_) :: .int (rto) :: .int (rbo) :: .ref mr :: .ref mn :: .ref ma :: .ref mi :: .ref mj :: .int (nI (en)) :: .ref mg :: .int (nI (sn)) :: .ref ms :: .int (nI (dn)) :: .ref md :: .ref mc :: .ref me :: .int (ga) :: .ref mh :: .ref mo :: .ref mw :: []))), (mx, .inl (E.2.1.1, 200, .inl (nA (tx))))]) ?_ rfl rfl rfl
          refine g_loopW (cnt tx tl 3 (tsk tx tl e)) (fun i => [(m0, .inr (10, (.int (nI (nt)) :: .ref mt :: .int (nI (nb)) :: .ref mk :: .ref mb :: .int (nI (lw)) :: .int (nI (sl)) :: .int (nI (tl)) :: .ref mx :: .int (nI (tsk tx tl e + i)) :: .int (nI (tsk tx tl e)) :: .long (tk) :: .int (nI (i)) :: .int (nI (dgN (sh tx (tsk tx tl e)) (min i 3))) :: .int (fa) :: .int (rm_) :: .int (rto) :: .int (rbo) :: .ref mr :: .ref mn :: .ref ma :: .ref mi :: .ref mj :: .int (nI (en)) :: .ref mg :: .int (nI (sn)) :: .ref ms :: .int (nI (dn)) :: .ref md :: .ref mc :: .ref me :: .int (ga) :: .ref mh :: .ref mo :: .ref mw :: []))), (mx, .inl (E.2.1.1, 200, .inl (nA (tx))))]) (fun i => [(0, .ref m0)]) 0 ?_ ?_ (Nat.zero_le _)
          · intro i hl241 hi241 ih241
            obtain ⟨hA1, hA2⟩ := cnt_in (by decide) hi241
            have hA4 := (dig_in hi241).2
            have hA5 := fm_3.mp hA2
            have hA6 := dg3_b (fun _ h => (dig_in h).2.2) (Nat.le_of_lt hi241)
            show G E _ [(m0, .inr (10, (.int (nI (nt)) :: .ref mt :: .int (nI (nb)) :: .ref mk :: .ref mb :: .int (nI (lw)) :: .int (nI (sl)) :: .int (nI (tl)) :: .ref mx :: .int (nI (tsk tx tl e + i)) :: .int (nI (tsk tx tl e)) :: .long (tk) :: .int (nI (i)) :: .int (nI (dgN (sh tx (tsk tx tl e)) (min i 3))) :: .int (fa) :: .int (rm_) :: .int (rto) :: .int (rbo) :: .ref mr :: .ref mn :: .ref ma :: .ref mi :: .ref mj :: .int (nI (en)) :: .ref mg :: .int (nI (sn)) :: .ref ms :: .int (nI (dn)) :: .ref md :: .ref mc :: .ref me :: .int (ga) :: .ref mh :: .ref mo :: .ref mw :: []))), (mx, .inl (E.2.1.1, 200, .inl (nA (tx))))] 241 [(0, .ref m0)] []
            refine g_aload_n (q := 242) dX10_nextToken_241 rfl rfl rfl ?_
            refine gf_X10_97 rfl 0 rfl rfl (q := 245) dX10_nextToken_242 rfl ?_
            refine g_aload_n (q := 246) dX10_nextToken_245 rfl rfl rfl ?_
            refine gf_X10_92 rfl 0 rfl rfl (q := 249) dX10_nextToken_246 rfl ?_
            refine g_icmp_geN (t := 333) (q := 252) dX10_nextToken_249 (by decide) rfl (by omega) (by omega) (fun c249 => ?_) (fun c249 => ?_)
            · omega
            · skip
              refine g_aload_n (q := 253) dX10_nextToken_252 rfl rfl rfl ?_
              refine gf_X10_23 rfl 0 rfl rfl (q := 256) dX10_nextToken_253 rfl ?_
              refine g_aload_n (q := 257) dX10_nextToken_256 rfl rfl rfl ?_
              refine gf_X10_97 rfl 0 rfl rfl (q := 260) dX10_nextToken_257 rfl ?_
              have hb6 := htx (tsk tx tl e + i) (by omega)
              refine g_iald (v := nI (tx (tsk tx tl e + i))) 1 rfl (ixIn (j := tsk tx tl e + i) rfl (by omega) (by decide)) (ixV (j := tsk tx tl e + i) rfl (by omega)) (q := 261) dX10_nextToken_260 rfl ?_
              refine g_bipush (v := nI 48) (q := 263) dX10_nextToken_261 rfl kb_48 ?_
              refine g_bipush (v := nI 57) (q := 265) dX10_nextToken_263 rfl kb_57 ?_
              refine gc_X10_73 (c_in) rfl (Nat.le_of_ble_eq_true rfl) rfl [] rfl rfl (rest := []) rfl (Nat.le_of_ble_eq_true rfl) (q := 268) dX10_nextToken_265 rfl (exK (ws' := [_, _]) (st' := [.int (bI (!ninB (nI (tx (tsk tx tl e + i))) (nI (48)) (nI (57))))]) rfl rfl ?_)
              refine g_top (y := nI 1) (by rw [in_3 (by omega), decide_eq_true hA2]; rfl) ?_
              refine g_if_eqN (t := 333) (q := 271) dX10_nextToken_268 (by decide) rfl (by omega) (fun c268 => ?_) (fun c268 => ?_)
              · omega
              · skip
                refine g_aload_n (q := 272) dX10_nextToken_271 rfl rfl rfl ?_
                refine g_aload_n (q := 273) dX10_nextToken_272 rfl rfl rfl ?_
                refine gf_X10_103 rfl 0 rfl rfl (q := 276) dX10_nextToken_273 rfl ?_
                refine g_iconst (v := nI 3) (q := 277) dX10_nextToken_276 rfl ki_3 ?_
                refine g_icmp_geN (t := 303) (q := 280) dX10_nextToken_277 (by decide) rfl (by omega) (by omega) (fun c277 => ?_) (fun c277 => ?_)
                · skip
                  refine g_aload_n (q := 304) dX10_nextToken_303 rfl rfl rfl ?_
                  refine gf_X10_106 rfl 0 rfl rfl (q := 307) dX10_nextToken_304 rfl ?_
                  refine pf_X10_106 rfl 0 rfl (Nat.le_of_ble_eq_true rfl) (ws' := [(_, .inr (_, (_ :: _ :: _ :: _ :: _ :: _ :: _ :: _ :: _ :: _ :: _ :: _ :: _ :: _ :: _ :: _ :: _ :: _ :: _ :: _ :: _ :: _ :: _ :: _ :: _ :: _ :: _ :: _ :: _ :: _ :: _ :: _ :: _ :: _ :: _ :: []))), _]) rfl (q := 310) dX10_nextToken_307 rfl ?_
                  refine g_aload_n (q := 311) dX10_nextToken_310 rfl rfl rfl ?_
                  refine g_dup (q := 312) dX10_nextToken_311 rfl rfl ?_
                  refine gf_X10_103 rfl 0 rfl rfl (q := 315) dX10_nextToken_312 rfl ?_
                  refine g_iconst (v := nI 1) (q := 316) dX10_nextToken_315 rfl ki_1 ?_
                  refine g_iaddN (q := 317) dX10_nextToken_316 rfl ?_
                  refine pf_X10_103 rfl 0 rfl (Nat.le_of_ble_eq_true rfl) (ws' := [(_, .inr (_, (_ :: _ :: _ :: _ :: _ :: _ :: _ :: _ :: _ :: _ :: _ :: _ :: _ :: _ :: _ :: _ :: _ :: _ :: _ :: _ :: _ :: _ :: _ :: _ :: _ :: _ :: _ :: _ :: _ :: _ :: _ :: _ :: _ :: _ :: _ :: []))), _]) rfl (q := 320) dX10_nextToken_317 rfl ?_
                  refine g_aload_n (q := 321) dX10_nextToken_320 rfl rfl rfl ?_
                  refine g_dup (q := 322) dX10_nextToken_321 rfl rfl ?_
                  refine gf_X10_97 rfl 0 rfl rfl (q := 325) dX10_nextToken_322 rfl ?_
                  refine g_iconst (v := nI 1) (q := 326) dX10_nextToken_325 rfl ki_1 ?_
                  refine g_iaddN (q := 327) dX10_nextToken_326 rfl ?_
                  refine pf_X10_97 rfl 0 rfl (Nat.le_of_ble_eq_true rfl) (ws' := [(_, .inr (_, (_ :: _ :: _ :: _ :: _ :: _ :: _ :: _ :: _ :: _ :: _ :: _ :: _ :: _ :: _ :: _ :: _ :: _ :: _ :: _ :: _ :: _ :: _ :: _ :: _ :: _ :: _ :: _ :: _ :: _ :: _ :: _ :: _ :: _ :: _ :: []))), _]) rfl (q := 330) dX10_nextToken_327 rfl ?_
                  refine g_goto (q := 241) dX10_nextToken_330 (by decide) ?_
                  rw [dg3_x (by omega)] at ih241
                  exact ih241
                · skip
                  refine g_bipush (v := nI 10) (q := 282) dX10_nextToken_280 rfl kb_10 ?_
                  refine g_aload_n (q := 283) dX10_nextToken_282 rfl rfl rfl ?_
                  refine gf_X10_106 rfl 0 rfl rfl (q := 286) dX10_nextToken_283 rfl ?_
                  refine g_imulN (q := 287) dX10_nextToken_286 rfl ?_
                  refine g_aload_n (q := 288) dX10_nextToken_287 rfl rfl rfl ?_
                  refine gf_X10_23 rfl 0 rfl rfl (q := 291) dX10_nextToken_288 rfl ?_
                  refine g_aload_n (q := 292) dX10_nextToken_291 rfl rfl rfl ?_
                  refine gf_X10_97 rfl 0 rfl rfl (q := 295) dX10_nextToken_292 rfl ?_
                  have hb7 := htx (tsk tx tl e + i) (by omega)
                  refine g_iald (v := nI (tx (tsk tx tl e + i))) 1 rfl (ixIn (j := tsk tx tl e + i) rfl (by omega) (by decide)) (ixV (j := tsk tx tl e + i) rfl (by omega)) (q := 296) dX10_nextToken_295 rfl ?_
                  refine g_iaddN (q := 297) dX10_nextToken_296 rfl ?_
                  refine g_bipush (v := nI 48) (q := 299) dX10_nextToken_297 rfl kb_48 ?_
                  refine g_isubN (q := 300) dX10_nextToken_299 rfl (by omega) ?_
                  refine g_goto (q := 307) dX10_nextToken_300 (by decide) ?_
                  refine pf_X10_106 rfl 0 rfl (Nat.le_of_ble_eq_true rfl) (ws' := [(_, .inr (_, (_ :: _ :: _ :: _ :: _ :: _ :: _ :: _ :: _ :: _ :: _ :: _ :: _ :: _ :: _ :: _ :: _ :: _ :: _ :: _ :: _ :: _ :: _ :: _ :: _ :: _ :: _ :: _ :: _ :: _ :: _ :: _ :: _ :: _ :: _ :: []))), _]) rfl (q := 310) dX10_nextToken_307 rfl ?_
                  refine g_aload_n (q := 311) dX10_nextToken_310 rfl rfl rfl ?_
                  refine g_dup (q := 312) dX10_nextToken_311 rfl rfl ?_
                  refine gf_X10_103 rfl 0 rfl rfl (q := 315) dX10_nextToken_312 rfl ?_
                  refine g_iconst (v := nI 1) (q := 316) dX10_nextToken_315 rfl ki_1 ?_
                  refine g_iaddN (q := 317) dX10_nextToken_316 rfl ?_
                  refine pf_X10_103 rfl 0 rfl (Nat.le_of_ble_eq_true rfl) (ws' := [(_, .inr (_, (_ :: _ :: _ :: _ :: _ :: _ :: _ :: _ :: _ :: _ :: _ :: _ :: _ :: _ :: _ :: _ :: _ :: _ :: _ :: _ :: _ :: _ :: _ :: _ :: _ :: _ :: _ :: _ :: _ :: _ :: _ :: _ :: _ :: _ :: _ :: []))), _]) rfl (q := 320) dX10_nextToken_317 rfl ?_
                  refine g_aload_n (q := 321) dX10_nextToken_320 rfl rfl rfl ?_
                  refine g_dup (q := 322) dX10_nextToken_321 rfl rfl ?_
                  refine gf_X10_97 rfl 0 rfl rfl (q := 325) dX10_nextToken_322 rfl ?_
                  refine g_iconst (v := nI 1) (q := 326) dX10_nextToken_325 rfl ki_1 ?_
                  refine g_iaddN (q := 327) dX10_nextToken_326 rfl ?_
                  refine pf_X10_97 rfl 0 rfl (Nat.le_of_ble_eq_true rfl) (ws' := [(_, .inr (_, (_ :: _ :: _ :: _ :: _ :: _ :: _ :: _ :: _ :: _ :: _ :: _ :: _ :: _ :: _ :: _ :: _ :: _ :: _ :: _ :: _ :: _ :: _ :: _ :: _ :: _ :: _ :: _ :: _ :: _ :: _ :: _ :: _ :: _ :: _ :: []))), _]) rfl (q := 330) dX10_nextToken_327 rfl ?_
                  refine g_goto (q := 241) dX10_nextToken_330 (by decide) ?_
                  rw [dg3_s (by omega) hA4.1] at ih241
                  exact ih241
          · skip
            show G E _ [(m0, .inr (10, (.int (nI (nt)) :: .ref mt :: .int (nI (nb)) :: .ref mk :: .ref mb :: .int (nI (lw)) :: .int (nI (sl)) :: .int (nI (tl)) :: .ref mx :: .int (nI (tsk tx tl e + (cnt tx tl 3 (tsk tx tl e)))) :: .int (nI (tsk tx tl e)) :: .long (tk) :: .int (nI (cnt tx tl 3 (tsk tx tl e))) :: .int (nI (dgN (sh tx (tsk tx tl e)) (min (cnt tx tl 3 (tsk tx tl e)) 3))) :: .int (fa) :: .int (rm_) :: .int (rto) :: .int (rbo) :: .ref mr :: .ref mn :: .ref ma :: .ref mi :: .ref mj :: .int (nI (en)) :: .ref mg :: .int (nI (sn)) :: .ref ms :: .int (nI (dn)) :: .ref md :: .ref mc :: .ref me :: .int (ga) :: .ref mh :: .ref mo :: .ref mw :: []))), (mx, .inl (E.2.1.1, 200, .inl (nA (tx))))] 241 [(0, .ref m0)] []
            have hcl := cnt_le (tx := tx) (k := 3) (by decide) hsl
            refine g_aload_n (q := 242) dX10_nextToken_241 rfl rfl rfl ?_
            refine gf_X10_97 rfl 0 rfl rfl (q := 245) dX10_nextToken_242 rfl ?_
            refine g_aload_n (q := 246) dX10_nextToken_245 rfl rfl rfl ?_
            refine gf_X10_92 rfl 0 rfl rfl (q := 249) dX10_nextToken_246 rfl ?_
            refine g_icmp_geN (t := 333) (q := 252) dX10_nextToken_249 (by decide) rfl (by omega) (by omega) (fun c249 => ?_) (fun c249 => ?_)
            · skip
              refine g_aload_n (q := 334) dX10_nextToken_333 rfl rfl rfl ?_
              refine g_aload_n (q := 335) dX10_nextToken_334 rfl rfl rfl ?_
              refine gf_X10_103 rfl 0 rfl rfl (q := 338) dX10_nextToken_335 rfl ?_
              refine g_iconst (v := nI 3) (q := 339) dX10_nextToken_338 rfl ki_3 ?_
              refine g_icmp_leN (t := 348) (q := 342) dX10_nextToken_339 (by decide) rfl (by omega) (by omega) (fun c339 => ?_) (fun c339 => ?_)
              · skip
                refine g_ldc2 (v := (-1)) rfl mkX10_121 (q := 351) dX10_nextToken_348 rfl ?_
                refine pf_X10_111 rfl 0 rfl (Nat.le_of_ble_eq_true rfl) (ws' := [(_, .inr (_, (_ :: _ :: _ :: _ :: _ :: _ :: _ :: _ :: _ :: _ :: _ :: _ :: _ :: _ :: _ :: _ :: _ :: _ :: _ :: _ :: _ :: _ :: _ :: _ :: _ :: _ :: _ :: _ :: _ :: _ :: _ :: _ :: _ :: _ :: _ :: []))), _]) rfl (q := 354) dX10_nextToken_351 rfl ?_
                refine g_goto (q := 394) dX10_nextToken_354 (by decide) ?_
                refine g_vret (st := []) dX10_nextToken_394 rfl rfl ?_
                obtain ⟨k1, k2, k3, k4⟩ := tkD hf3
                exact xv (by rw [k1, k2, k3, k4, if_pos (by omega)])
              · skip
                refine g_ldc2 (v := (-4)) rfl mkX10_119 (q := 345) dX10_nextToken_342 rfl ?_
                refine g_goto (q := 351) dX10_nextToken_345 (by decide) ?_
                refine pf_X10_111 rfl 0 rfl (Nat.le_of_ble_eq_true rfl) (ws' := [(_, .inr (_, (_ :: _ :: _ :: _ :: _ :: _ :: _ :: _ :: _ :: _ :: _ :: _ :: _ :: _ :: _ :: _ :: _ :: _ :: _ :: _ :: _ :: _ :: _ :: _ :: _ :: _ :: _ :: _ :: _ :: _ :: _ :: _ :: _ :: _ :: _ :: []))), _]) rfl (q := 354) dX10_nextToken_351 rfl ?_
                refine g_goto (q := 394) dX10_nextToken_354 (by decide) ?_
                refine g_vret (st := []) dX10_nextToken_394 rfl rfl ?_
                obtain ⟨k1, k2, k3, k4⟩ := tkD hf3
                exact xv (by rw [k1, k2, k3, k4, if_neg (by omega)])
            · skip
              refine g_aload_n (q := 253) dX10_nextToken_252 rfl rfl rfl ?_
              refine gf_X10_23 rfl 0 rfl rfl (q := 256) dX10_nextToken_253 rfl ?_
              refine g_aload_n (q := 257) dX10_nextToken_256 rfl rfl rfl ?_
              refine gf_X10_97 rfl 0 rfl rfl (q := 260) dX10_nextToken_257 rfl ?_
              have hb8 := htx (tsk tx tl e + (cnt tx tl 3 (tsk tx tl e))) (by omega)
              refine g_iald (v := nI (tx (tsk tx tl e + (cnt tx tl 3 (tsk tx tl e))))) 1 rfl (ixIn (j := tsk tx tl e + (cnt tx tl 3 (tsk tx tl e))) rfl (by omega) (by decide)) (ixV (j := tsk tx tl e + (cnt tx tl 3 (tsk tx tl e))) rfl (by omega)) (q := 261) dX10_nextToken_260 rfl ?_
              refine g_bipush (v := nI 48) (q := 263) dX10_nextToken_261 rfl kb_48 ?_
              refine g_bipush (v := nI 57) (q := 265) dX10_nextToken_263 rfl kb_57 ?_
              refine gc_X10_73 (c_in) rfl (Nat.le_of_ble_eq_true rfl) rfl [] rfl rfl (rest := []) rfl (Nat.le_of_ble_eq_true rfl) (q := 268) dX10_nextToken_265 rfl (exK (ws' := [_, _]) (st' := [.int (bI (!ninB (nI (tx (tsk tx tl e + (cnt tx tl 3 (tsk tx tl e))))) (nI (48)) (nI (57))))]) rfl rfl ?_)
              refine g_top (y := nI 0) (by rw [in_3 (by omega), decide_eq_false (fun z => cnt_ge (tx := tx) (tl := tl) (p := tsk tx tl e) (k := 3) (by decide) ((fmA_lt (by omega)).trans z))]; rfl) ?_
              refine g_if_eqN (t := 333) (q := 271) dX10_nextToken_268 (by decide) rfl (by omega) (fun c268 => ?_) (fun c268 => ?_)
              · skip
                refine g_aload_n (q := 334) dX10_nextToken_333 rfl rfl rfl ?_
                refine g_aload_n (q := 335) dX10_nextToken_334 rfl rfl rfl ?_
                refine gf_X10_103 rfl 0 rfl rfl (q := 338) dX10_nextToken_335 rfl ?_
                refine g_iconst (v := nI 3) (q := 339) dX10_nextToken_338 rfl ki_3 ?_
                refine g_icmp_leN (t := 348) (q := 342) dX10_nextToken_339 (by decide) rfl (by omega) (by omega) (fun c339 => ?_) (fun c339 => ?_)
                · skip
                  refine g_ldc2 (v := (-1)) rfl mkX10_121 (q := 351) dX10_nextToken_348 rfl ?_
                  refine pf_X10_111 rfl 0 rfl (Nat.le_of_ble_eq_true rfl) (ws' := [(_, .inr (_, (_ :: _ :: _ :: _ :: _ :: _ :: _ :: _ :: _ :: _ :: _ :: _ :: _ :: _ :: _ :: _ :: _ :: _ :: _ :: _ :: _ :: _ :: _ :: _ :: _ :: _ :: _ :: _ :: _ :: _ :: _ :: _ :: _ :: _ :: _ :: []))), _]) rfl (q := 354) dX10_nextToken_351 rfl ?_
                  refine g_goto (q := 394) dX10_nextToken_354 (by decide) ?_
                  refine g_vret (st := []) dX10_nextToken_394 rfl rfl ?_
                  obtain ⟨k1, k2, k3, k4⟩ := tkD hf3
                  exact xv (by rw [k1, k2, k3, k4, if_pos (by omega)])
                · skip
                  refine g_ldc2 (v := (-4)) rfl mkX10_119 (q := 345) dX10_nextToken_342 rfl ?_
                  refine g_goto (q := 351) dX10_nextToken_345 (by decide) ?_
                  refine pf_X10_111 rfl 0 rfl (Nat.le_of_ble_eq_true rfl) (ws' := [(_, .inr (_, (_ :: _ :: _ :: _ :: _ :: _ :: _ :: _ :: _ :: _ :: _ :: _ :: _ :: _ :: _ :: _ :: _ :: _ :: _ :: _ :: _ :: _ :: _ :: _ :: _ :: _ :: _ :: _ :: _ :: _ :: _ :: _ :: _ :: _ :: _ :: []))), _]) rfl (q := 354) dX10_nextToken_351 rfl ?_
                  refine g_goto (q := 394) dX10_nextToken_354 (by decide) ?_
                  refine g_vret (st := []) dX10_nextToken_394 rfl rfl ?_
                  obtain ⟨k1, k2, k3, k4⟩ := tkD hf3
                  exact xv (by rw [k1, k2, k3, k4, if_neg (by omega)])
              · omega
      · have h93 := of_decide_eq_true (bI_ne0.mp c93)
        refine g_aload_n (q := 97) dX10_nextToken_96 rfl rfl rfl ?_
        refine g_lconst (v := 0) (q := 98) dX10_nextToken_97 rfl (by decide) ?_
        refine pf_X10_111 rfl 0 rfl (Nat.le_of_ble_eq_true rfl) (ws' := [(_, .inr (_, (_ :: _ :: _ :: _ :: _ :: _ :: _ :: _ :: _ :: _ :: _ :: _ :: _ :: _ :: _ :: _ :: _ :: _ :: _ :: _ :: _ :: _ :: _ :: _ :: _ :: _ :: _ :: _ :: _ :: _ :: _ :: _ :: _ :: _ :: _ :: []))), _]) rfl (q := 101) dX10_nextToken_98 rfl ?_
        have hf2 : fmA tx tl (tsk tx tl e) = 2 := (fmA_lt (by omega)).trans h93
        refine g_eq (ws' := [(m0, .inr (10, (.int (nI (nt)) :: .ref mt :: .int (nI (nb)) :: .ref mk :: .ref mb :: .int (nI (lw)) :: .int (nI (sl)) :: .int (nI (tl)) :: .ref mx :: .int (nI (tsk tx tl e + 0)) :: .int (nI (tsk tx tl e)) :: .long (tkI tx (tsk tx tl e) 0) :: .int (nI (0)) :: .int (nI (0)) :: .int (fa) :: .int (rm_) :: .int (rto) :: .int (rbo) :: .ref mr :: .ref mn :: .ref ma :: .ref mi :: .ref mj :: .int (nI (en)) :: .ref mg :: .int (nI (sn)) :: .ref ms :: .int (nI (dn)) :: .ref md :: .ref mc :: .ref me :: .int (ga) :: .ref mh :: .ref mo :: .ref mw :: []))), (mx, .inl (E.2.1.1, 200, .inl (nA (tx))))]) ?_ rfl rfl rfl
        refine g_loopW (cnt tx tl 2 (tsk tx tl e)) (fun i => [(m0, .inr (10, (.int (nI (nt)) :: .ref mt :: .int (nI (nb)) :: .ref mk :: .ref mb :: .int (nI (lw)) :: .int (nI (sl)) :: .int (nI (tl)) :: .ref mx :: .int (nI (tsk tx tl e + i)) :: .int (nI (tsk tx tl e)) :: .long (tkI tx (tsk tx tl e) i) :: .int (nI (0)) :: .int (nI (0)) :: .int (fa) :: .int (rm_) :: .int (rto) :: .int (rbo) :: .ref mr :: .ref mn :: .ref ma :: .ref mi :: .ref mj :: .int (nI (en)) :: .ref mg :: .int (nI (sn)) :: .ref ms :: .int (nI (dn)) :: .ref md :: .ref mc :: .ref me :: .int (ga) :: .ref mh :: .ref mo :: .ref mw :: []))), (mx, .inl (E.2.1.1, 200, .inl (nA (tx))))]) (fun i => [(0, .ref m0)]) 0 ?_ ?_ (Nat.zero_le _)
        · intro i hl101 hi101 ih101
          obtain ⟨hA1, hA2⟩ := cnt_in (by decide) hi101
          have hA4 := (let_in hi101).2
          show G E _ [(m0, .inr (10, (.int (nI (nt)) :: .ref mt :: .int (nI (nb)) :: .ref mk :: .ref mb :: .int (nI (lw)) :: .int (nI (sl)) :: .int (nI (tl)) :: .ref mx :: .int (nI (tsk tx tl e + i)) :: .int (nI (tsk tx tl e)) :: .long (tkI tx (tsk tx tl e) i) :: .int (nI (0)) :: .int (nI (0)) :: .int (fa) :: .int (rm_) :: .int (rto) :: .int (rbo) :: .ref mr :: .ref mn :: .ref ma :: .ref mi :: .ref mj :: .int (nI (en)) :: .ref mg :: .int (nI (sn)) :: .ref ms :: .int (nI (dn)) :: .ref md :: .ref mc :: .ref me :: .int (ga) :: .ref mh :: .ref mo :: .ref mw :: []))), (mx, .inl (E.2.1.1, 200, .inl (nA (tx))))] 101 [(0, .ref m0)] []
          refine g_aload_n (q := 102) dX10_nextToken_101 rfl rfl rfl ?_
          refine gf_X10_97 rfl 0 rfl rfl (q := 105) dX10_nextToken_102 rfl ?_
          refine g_aload_n (q := 106) dX10_nextToken_105 rfl rfl rfl ?_
          refine gf_X10_92 rfl 0 rfl rfl (q := 109) dX10_nextToken_106 rfl ?_
          refine g_icmp_geN (t := 191) (q := 112) dX10_nextToken_109 (by decide) rfl (by omega) (by omega) (fun c109 => ?_) (fun c109 => ?_)
          · omega
          · skip
            refine g_aload_n (q := 113) dX10_nextToken_112 rfl rfl rfl ?_
            refine gf_X10_23 rfl 0 rfl rfl (q := 116) dX10_nextToken_113 rfl ?_
            refine g_aload_n (q := 117) dX10_nextToken_116 rfl rfl rfl ?_
            refine gf_X10_97 rfl 0 rfl rfl (q := 120) dX10_nextToken_117 rfl ?_
            have hb9 := htx (tsk tx tl e + i) (by omega)
            refine g_iald (v := nI (tx (tsk tx tl e + i))) 1 rfl (ixIn (j := tsk tx tl e + i) rfl (by omega) (by decide)) (ixV (j := tsk tx tl e + i) rfl (by omega)) (q := 121) dX10_nextToken_120 rfl ?_
            refine g_bipush (v := nI 97) (q := 123) dX10_nextToken_121 rfl kb_97 ?_
            refine g_bipush (v := nI 122) (q := 125) dX10_nextToken_123 rfl kb_122 ?_
            refine gc_X10_73 (c_in) rfl (Nat.le_of_ble_eq_true rfl) rfl [] rfl rfl (rest := []) rfl (Nat.le_of_ble_eq_true rfl) (q := 128) dX10_nextToken_125 rfl (exK (ws' := [_, _]) (st' := [.int (bI (!ninB (nI (tx (tsk tx tl e + i))) (nI (97)) (nI (122))))]) rfl rfl ?_)
            refine g_top (y := nI 1) (by rw [in_2 (by omega), decide_eq_true hA2]; rfl) ?_
            refine g_if_eqN (t := 191) (q := 131) dX10_nextToken_128 (by decide) rfl (by omega) (fun c128 => ?_) (fun c128 => ?_)
            · omega
            · skip
              refine g_aload_n (q := 132) dX10_nextToken_131 rfl rfl rfl ?_
              refine g_aload_n (q := 133) dX10_nextToken_132 rfl rfl rfl ?_
              refine gf_X10_97 rfl 0 rfl rfl (q := 136) dX10_nextToken_133 rfl ?_
              refine g_aload_n (q := 137) dX10_nextToken_136 rfl rfl rfl ?_
              refine gf_X10_100 rfl 0 rfl rfl (q := 140) dX10_nextToken_137 rfl ?_
              refine g_isubN (q := 141) dX10_nextToken_140 rfl (by omega) ?_
              refine g_bipush (v := nI 9) (q := 143) dX10_nextToken_141 rfl kb_9 ?_
              refine g_icmp_geN (t := 172) (q := 146) dX10_nextToken_143 (by decide) rfl (by omega) (by omega) (fun c143 => ?_) (fun c143 => ?_)
              · skip
                refine g_ldc2 (v := (-4)) rfl mkX10_119 (q := 175) dX10_nextToken_172 rfl ?_
                refine pf_X10_111 rfl 0 rfl (Nat.le_of_ble_eq_true rfl) (ws' := [(_, .inr (_, (_ :: _ :: _ :: _ :: _ :: _ :: _ :: _ :: _ :: _ :: _ :: _ :: _ :: _ :: _ :: _ :: _ :: _ :: _ :: _ :: _ :: _ :: _ :: _ :: _ :: _ :: _ :: _ :: _ :: _ :: _ :: _ :: _ :: _ :: _ :: []))), _]) rfl (q := 178) dX10_nextToken_175 rfl ?_
                refine g_aload_n (q := 179) dX10_nextToken_178 rfl rfl rfl ?_
                refine g_dup (q := 180) dX10_nextToken_179 rfl rfl ?_
                refine gf_X10_97 rfl 0 rfl rfl (q := 183) dX10_nextToken_180 rfl ?_
                refine g_iconst (v := nI 1) (q := 184) dX10_nextToken_183 rfl ki_1 ?_
                refine g_iaddN (q := 185) dX10_nextToken_184 rfl ?_
                refine pf_X10_97 rfl 0 rfl (Nat.le_of_ble_eq_true rfl) (ws' := [(_, .inr (_, (_ :: _ :: _ :: _ :: _ :: _ :: _ :: _ :: _ :: _ :: _ :: _ :: _ :: _ :: _ :: _ :: _ :: _ :: _ :: _ :: _ :: _ :: _ :: _ :: _ :: _ :: _ :: _ :: _ :: _ :: _ :: _ :: _ :: _ :: _ :: []))), _]) rfl (q := 188) dX10_nextToken_185 rfl ?_
                refine g_goto (q := 101) dX10_nextToken_188 (by decide) ?_
                rw [tkI_x (by omega)] at ih101
                exact ih101
              · skip
                refine g_ldc2 (v := 27) rfl mkX10_115 (q := 149) dX10_nextToken_146 rfl ?_
                refine g_aload_n (q := 150) dX10_nextToken_149 rfl rfl rfl ?_
                refine gf_X10_111 rfl 0 rfl rfl (q := 153) dX10_nextToken_150 rfl ?_
                refine g_lmul (q := 154) dX10_nextToken_153 rfl ?_
                refine g_aload_n (q := 155) dX10_nextToken_154 rfl rfl rfl ?_
                refine gf_X10_23 rfl 0 rfl rfl (q := 158) dX10_nextToken_155 rfl ?_
                refine g_aload_n (q := 159) dX10_nextToken_158 rfl rfl rfl ?_
                refine gf_X10_97 rfl 0 rfl rfl (q := 162) dX10_nextToken_159 rfl ?_
                have hb10 := htx (tsk tx tl e + i) (by omega)
                refine g_iald (v := nI (tx (tsk tx tl e + i))) 1 rfl (ixIn (j := tsk tx tl e + i) rfl (by omega) (by decide)) (ixV (j := tsk tx tl e + i) rfl (by omega)) (q := 163) dX10_nextToken_162 rfl ?_
                refine g_i2l (q := 164) dX10_nextToken_163 rfl ?_
                refine g_ladd (q := 165) dX10_nextToken_164 rfl ?_
                refine g_ldc2 (v := 96) rfl mkX10_117 (q := 168) dX10_nextToken_165 rfl ?_
                refine g_lsub (q := 169) dX10_nextToken_168 rfl ?_
                refine g_goto (q := 175) dX10_nextToken_169 (by decide) ?_
                refine pf_X10_111 rfl 0 rfl (Nat.le_of_ble_eq_true rfl) (ws' := [(_, .inr (_, (_ :: _ :: _ :: _ :: _ :: _ :: _ :: _ :: _ :: _ :: _ :: _ :: _ :: _ :: _ :: _ :: _ :: _ :: _ :: _ :: _ :: _ :: _ :: _ :: _ :: _ :: _ :: _ :: _ :: _ :: _ :: _ :: _ :: _ :: _ :: []))), _]) rfl (q := 178) dX10_nextToken_175 rfl ?_
                refine g_aload_n (q := 179) dX10_nextToken_178 rfl rfl rfl ?_
                refine g_dup (q := 180) dX10_nextToken_179 rfl rfl ?_
                refine gf_X10_97 rfl 0 rfl rfl (q := 183) dX10_nextToken_180 rfl ?_
                refine g_iconst (v := nI 1) (q := 184) dX10_nextToken_183 rfl ki_1 ?_
                refine g_iaddN (q := 185) dX10_nextToken_184 rfl ?_
                refine pf_X10_97 rfl 0 rfl (Nat.le_of_ble_eq_true rfl) (ws' := [(_, .inr (_, (_ :: _ :: _ :: _ :: _ :: _ :: _ :: _ :: _ :: _ :: _ :: _ :: _ :: _ :: _ :: _ :: _ :: _ :: _ :: _ :: _ :: _ :: _ :: _ :: _ :: _ :: _ :: _ :: _ :: _ :: _ :: _ :: _ :: _ :: _ :: []))), _]) rfl (q := 188) dX10_nextToken_185 rfl ?_
                refine g_goto (q := 101) dX10_nextToken_188 (by decide) ?_
                rw [tkI_s (by omega) hA4.1 hA4.2] at ih101
                exact ih101
        · skip
          show G E _ [(m0, .inr (10, (.int (nI (nt)) :: .ref mt :: .int (nI (nb)) :: .ref mk :: .ref mb :: .int (nI (lw)) :: .int (nI (sl)) :: .int (nI (tl)) :: .ref mx :: .int (nI (tsk tx tl e + (cnt tx tl 2 (tsk tx tl e)))) :: .int (nI (tsk tx tl e)) :: .long (tkI tx (tsk tx tl e) (cnt tx tl 2 (tsk tx tl e))) :: .int (nI (0)) :: .int (nI (0)) :: .int (fa) :: .int (rm_) :: .int (rto) :: .int (rbo) :: .ref mr :: .ref mn :: .ref ma :: .ref mi :: .ref mj :: .int (nI (en)) :: .ref mg :: .int (nI (sn)) :: .ref ms :: .int (nI (dn)) :: .ref md :: .ref mc :: .ref me :: .int (ga) :: .ref mh :: .ref mo :: .ref mw :: []))), (mx, .inl (E.2.1.1, 200, .inl (nA (tx))))] 101 [(0, .ref m0)] []
          have hcl := cnt_le (tx := tx) (k := 2) (by decide) hsl
          refine g_aload_n (q := 102) dX10_nextToken_101 rfl rfl rfl ?_
          refine gf_X10_97 rfl 0 rfl rfl (q := 105) dX10_nextToken_102 rfl ?_
          refine g_aload_n (q := 106) dX10_nextToken_105 rfl rfl rfl ?_
          refine gf_X10_92 rfl 0 rfl rfl (q := 109) dX10_nextToken_106 rfl ?_
          refine g_icmp_geN (t := 191) (q := 112) dX10_nextToken_109 (by decide) rfl (by omega) (by omega) (fun c109 => ?_) (fun c109 => ?_)
          · skip
            refine g_aload_n (q := 192) dX10_nextToken_191 rfl rfl rfl ?_
            refine g_aload_n (q := 193) dX10_nextToken_192 rfl rfl rfl ?_
            refine gf_X10_97 rfl 0 rfl rfl (q := 196) dX10_nextToken_193 rfl ?_
            refine g_aload_n (q := 197) dX10_nextToken_196 rfl rfl rfl ?_
            refine gf_X10_100 rfl 0 rfl rfl (q := 200) dX10_nextToken_197 rfl ?_
            refine g_isubN (q := 201) dX10_nextToken_200 rfl (by omega) ?_
            refine g_bipush (v := nI 9) (q := 203) dX10_nextToken_201 rfl kb_9 ?_
            refine g_icmp_leN (t := 212) (q := 206) dX10_nextToken_203 (by decide) rfl (by omega) (by omega) (fun c203 => ?_) (fun c203 => ?_)
            · skip
              refine g_aload_n (q := 213) dX10_nextToken_212 rfl rfl rfl ?_
              refine gf_X10_111 rfl 0 rfl rfl (q := 216) dX10_nextToken_213 rfl ?_
              refine pf_X10_111 rfl 0 rfl (Nat.le_of_ble_eq_true rfl) (ws' := [(_, .inr (_, (_ :: _ :: _ :: _ :: _ :: _ :: _ :: _ :: _ :: _ :: _ :: _ :: _ :: _ :: _ :: _ :: _ :: _ :: _ :: _ :: _ :: _ :: _ :: _ :: _ :: _ :: _ :: _ :: _ :: _ :: _ :: _ :: _ :: _ :: _ :: []))), _]) rfl (q := 219) dX10_nextToken_216 rfl ?_
              refine g_goto (q := 394) dX10_nextToken_219 (by decide) ?_
              refine g_vret (st := []) dX10_nextToken_394 rfl rfl ?_
              obtain ⟨k1, k2, k3, k4⟩ := tkL hf2
              exact xv (by rw [k1, k2, k3, k4, if_pos (by omega), tkI, if_pos (by omega)])
            · skip
              refine g_ldc2 (v := (-4)) rfl mkX10_119 (q := 209) dX10_nextToken_206 rfl ?_
              refine g_goto (q := 216) dX10_nextToken_209 (by decide) ?_
              refine pf_X10_111 rfl 0 rfl (Nat.le_of_ble_eq_true rfl) (ws' := [(_, .inr (_, (_ :: _ :: _ :: _ :: _ :: _ :: _ :: _ :: _ :: _ :: _ :: _ :: _ :: _ :: _ :: _ :: _ :: _ :: _ :: _ :: _ :: _ :: _ :: _ :: _ :: _ :: _ :: _ :: _ :: _ :: _ :: _ :: _ :: _ :: _ :: []))), _]) rfl (q := 219) dX10_nextToken_216 rfl ?_
              refine g_goto (q := 394) dX10_nextToken_219 (by decide) ?_
              refine g_vret (st := []) dX10_nextToken_394 rfl rfl ?_
              obtain ⟨k1, k2, k3, k4⟩ := tkL hf2
              exact xv (by rw [k1, k2, k3, k4, if_neg (by omega)])
          · skip
            refine g_aload_n (q := 113) dX10_nextToken_112 rfl rfl rfl ?_
            refine gf_X10_23 rfl 0 rfl rfl (q := 116) dX10_nextToken_113 rfl ?_
            refine g_aload_n (q := 117) dX10_nextToken_116 rfl rfl rfl ?_
            refine gf_X10_97 rfl 0 rfl rfl (q := 120) dX10_nextToken_117 rfl ?_
            have hb11 := htx (tsk tx tl e + (cnt tx tl 2 (tsk tx tl e))) (by omega)
            refine g_iald (v := nI (tx (tsk tx tl e + (cnt tx tl 2 (tsk tx tl e))))) 1 rfl (ixIn (j := tsk tx tl e + (cnt tx tl 2 (tsk tx tl e))) rfl (by omega) (by decide)) (ixV (j := tsk tx tl e + (cnt tx tl 2 (tsk tx tl e))) rfl (by omega)) (q := 121) dX10_nextToken_120 rfl ?_
            refine g_bipush (v := nI 97) (q := 123) dX10_nextToken_121 rfl kb_97 ?_
            refine g_bipush (v := nI 122) (q := 125) dX10_nextToken_123 rfl kb_122 ?_
            refine gc_X10_73 (c_in) rfl (Nat.le_of_ble_eq_true rfl) rfl [] rfl rfl (rest := []) rfl (Nat.le_of_ble_eq_true rfl) (q := 128) dX10_nextToken_125 rfl (exK (ws' := [_, _]) (st' := [.int (bI (!ninB (nI (tx (tsk tx tl e + (cnt tx tl 2 (tsk tx tl e))))) (nI (97)) (nI (122))))]) rfl rfl ?_)
            refine g_top (y := nI 0) (by rw [in_2 (by omega), decide_eq_false (fun z => cnt_ge (tx := tx) (tl := tl) (p := tsk tx tl e) (k := 2) (by decide) ((fmA_lt (by omega)).trans z))]; rfl) ?_
            refine g_if_eqN (t := 191) (q := 131) dX10_nextToken_128 (by decide) rfl (by omega) (fun c128 => ?_) (fun c128 => ?_)
            · skip
              refine g_aload_n (q := 192) dX10_nextToken_191 rfl rfl rfl ?_
              refine g_aload_n (q := 193) dX10_nextToken_192 rfl rfl rfl ?_
              refine gf_X10_97 rfl 0 rfl rfl (q := 196) dX10_nextToken_193 rfl ?_
              refine g_aload_n (q := 197) dX10_nextToken_196 rfl rfl rfl ?_
              refine gf_X10_100 rfl 0 rfl rfl (q := 200) dX10_nextToken_197 rfl ?_
              refine g_isubN (q := 201) dX10_nextToken_200 rfl (by omega) ?_
              refine g_bipush (v := nI 9) (q := 203) dX10_nextToken_201 rfl kb_9 ?_
              refine g_icmp_leN (t := 212) (q := 206) dX10_nextToken_203 (by decide) rfl (by omega) (by omega) (fun c203 => ?_) (fun c203 => ?_)
              · skip
                refine g_aload_n (q := 213) dX10_nextToken_212 rfl rfl rfl ?_
                refine gf_X10_111 rfl 0 rfl rfl (q := 216) dX10_nextToken_213 rfl ?_
                refine pf_X10_111 rfl 0 rfl (Nat.le_of_ble_eq_true rfl) (ws' := [(_, .inr (_, (_ :: _ :: _ :: _ :: _ :: _ :: _ :: _ :: _ :: _ :: _ :: _ :: _ :: _ :: _ :: _ :: _ :: _ :: _ :: _ :: _ :: _ :: _ :: _ :: _ :: _ :: _ :: _ :: _ :: _ :: _ :: _ :: _ :: _ :: _ :: []))), _]) rfl (q := 219) dX10_nextToken_216 rfl ?_
                refine g_goto (q := 394) dX10_nextToken_219 (by decide) ?_
                refine g_vret (st := []) dX10_nextToken_394 rfl rfl ?_
                obtain ⟨k1, k2, k3, k4⟩ := tkL hf2
                exact xv (by rw [k1, k2, k3, k4, if_pos (by omega), tkI, if_pos (by omega)])
              · skip
                refine g_ldc2 (v := (-4)) rfl mkX10_119 (q := 209) dX10_nextToken_206 rfl ?_
                refine g_goto (q := 216) dX10_nextToken_209 (by decide) ?_
                refine pf_X10_111 rfl 0 rfl (Nat.le_of_ble_eq_true rfl) (ws' := [(_, .inr (_, (_ :: _ :: _ :: _ :: _ :: _ :: _ :: _ :: _ :: _ :: _ :: _ :: _ :: _ :: _ :: _ :: _ :: _ :: _ :: _ :: _ :: _ :: _ :: _ :: _ :: _ :: _ :: _ :: _ :: _ :: _ :: _ :: _ :: _ :: _ :: []))), _]) rfl (q := 219) dX10_nextToken_216 rfl ?_
                refine g_goto (q := 394) dX10_nextToken_219 (by decide) ?_
                refine g_vret (st := []) dX10_nextToken_394 rfl rfl ?_
                obtain ⟨k1, k2, k3, k4⟩ := tkL hf2
                exact xv (by rw [k1, k2, k3, k4, if_neg (by omega)])
            · omega
    · skip
      refine g_aload_n (q := 68) dX10_nextToken_67 rfl rfl rfl ?_
      refine g_ldc2 (v := (-2)) rfl mkX10_109 (q := 71) dX10_nextToken_68 rfl ?_
      refine pf_X10_111 rfl 0 rfl (Nat.le_of_ble_eq_true rfl) (ws' := [(_, .inr (_, (_ :: _ :: _ :: _ :: _ :: _ :: _ :: _ :: _ :: _ :: _ :: _ :: _ :: _ :: _ :: _ :: _ :: _ :: _ :: _ :: _ :: _ :: _ :: _ :: _ :: _ :: _ :: _ :: _ :: _ :: _ :: _ :: _ :: _ :: _ :: []))), _]) rfl (q := 74) dX10_nextToken_71 rfl ?_
      refine g_goto (q := 394) dX10_nextToken_74 (by decide) ?_
      refine g_vret (st := []) dX10_nextToken_394 rfl rfl ?_
      obtain ⟨k1, k2, k3, k4⟩ := tkE (tx := tx) c64
      exact xv (by rw [k1, k2, k3, k4])
set_option maxHeartbeats 2000000 in
set_option maxRecDepth 20000 in
theorem c_fails {E : EN} {m0 mt mk mb mx mr mn ma mi mj mg ms md mc me mh mo mw nt nb lw sl tl en sn dn : Nat} {po dg nu fa rm_ rto rbo ga : Int32} {tk : Int64} {t : Nat}  : CT E yX10_fails cX10_fails 1 (some .boolean) 0 [.ref m0] [(m0, .inr (10, (.int (nI (nt)) :: .ref mt :: .int (nI (nb)) :: .ref mk :: .ref mb :: .int (nI (lw)) :: .int (nI (sl)) :: .int (nI (tl)) :: .ref mx :: .int (po) :: .int (nI (t)) :: .long (tk) :: .int (dg) :: .int (nu) :: .int (fa) :: .int (rm_) :: .int (rto) :: .int (rbo) :: .ref mr :: .ref mn :: .ref ma :: .ref mi :: .ref mj :: .int (nI (en)) :: .ref mg :: .int (nI (sn)) :: .ref ms :: .int (nI (dn)) :: .ref md :: .ref mc :: .ref me :: .int (ga) :: .ref mh :: .ref mo :: .ref mw :: [])))] (xQ (some (.int (nI 0))) [(m0, .inr (10, (.int (nI (nt)) :: .ref mt :: .int (nI (nb)) :: .ref mk :: .ref mb :: .int (nI (lw)) :: .int (nI (sl)) :: .int (nI (tl)) :: .ref mx :: .int (po) :: .int (nI (t)) :: .long (tk) :: .int (dg) :: .int (nu) :: .int (nI (t)) :: .int (rm_) :: .int (rto) :: .int (rbo) :: .ref mr :: .ref mn :: .ref ma :: .ref mi :: .ref mj :: .int (nI (en)) :: .ref mg :: .int (nI (sn)) :: .ref ms :: .int (nI (dn)) :: .ref md :: .ref mc :: .ref me :: .int (ga) :: .ref mh :: .ref mo :: .ref mw :: [])))]) := by
  refine ct_of (by decide +kernel) (Nat.le_of_ble_eq_true rfl) (lv := [(0, .ref m0)]) rfl (fun A => ?_)
  refine g_aload_n (q := 1) dX10_fails_0 rfl rfl rfl ?_
  refine g_aload_n (q := 2) dX10_fails_1 rfl rfl rfl ?_
  refine gf_X10_100 rfl 0 rfl rfl (q := 5) dX10_fails_2 rfl ?_
  refine pf_X10_125 rfl 0 rfl (Nat.le_of_ble_eq_true rfl) (ws' := [(_, .inr (_, (_ :: _ :: _ :: _ :: _ :: _ :: _ :: _ :: _ :: _ :: _ :: _ :: _ :: _ :: _ :: _ :: _ :: _ :: _ :: _ :: _ :: _ :: _ :: _ :: _ :: _ :: _ :: _ :: _ :: _ :: _ :: _ :: _ :: _ :: _ :: [])))]) rfl (q := 8) dX10_fails_5 rfl ?_
  refine g_iconst (v := nI 0) (q := 9) dX10_fails_8 rfl ki_0 ?_
  refine g_iret (st := []) dX10_fails_9 rfl (narZ (by first | exact Or.inl rfl | exact Or.inr rfl)) rfl ?_
  exact (xr rfl)
set_option maxHeartbeats 2000000 in
set_option maxRecDepth 20000 in
theorem c_isNumber {E : EN} {m0 mt mk mb mx mr mn ma mi mj mg ms md mc me mh mo mw nt nb lw sl tl en sn dn : Nat} {ta dg nu fa rm_ rto rbo ga : Int32} {tk : Int64} {tx : Nat → Nat} {e q lo hi : Nat} {rd : Nat → Int32} (he : e ≤ tl) (hq : q < 50) (hlo : lo < 1000) (hhi : hi < 1000) (hl : tl ≤ 200) (htx : ∀ j, j < tl → tx j < 256)  : CT E yX10_isNumber cX10_isNumber 4 (some .boolean) 2 [.ref m0, .int (nI (q)), .int (nI (lo)), .int (nI (hi))] [(m0, .inr (10, (.int (nI (nt)) :: .ref mt :: .int (nI (nb)) :: .ref mk :: .ref mb :: .int (nI (lw)) :: .int (nI (sl)) :: .int (nI (tl)) :: .ref mx :: .int (nI (e)) :: .int (ta) :: .long (tk) :: .int (dg) :: .int (nu) :: .int (fa) :: .int (rm_) :: .int (rto) :: .int (rbo) :: .ref mr :: .ref mn :: .ref ma :: .ref mi :: .ref mj :: .int (nI (en)) :: .ref mg :: .int (nI (sn)) :: .ref ms :: .int (nI (dn)) :: .ref md :: .ref mc :: .ref me :: .int (ga) :: .ref mh :: .ref mo :: .ref mw :: []))), (mx, .inl (E.2.1.1, 200, .inl (nA (tx)))), (mr, .inl (E.2.1.1, 50, .inl (rd)))] (fun r w => (numB tx tl e lo hi = true ∧ xQ (some (.int (nI 1))) [(m0, .inr (10, (.int (nI (nt)) :: .ref mt :: .int (nI (nb)) :: .ref mk :: .ref mb :: .int (nI (lw)) :: .int (nI (sl)) :: .int (nI (tl)) :: .ref mx :: .int (nI (ten tx tl (tsk tx tl e))) :: .int (nI (tsk tx tl e)) :: .long (tokV tx tl (tsk tx tl e)) :: .int (nI (digV tx tl (tsk tx tl e))) :: .int (nI (numV tx tl (tsk tx tl e))) :: .int (fa) :: .int (rm_) :: .int (rto) :: .int (rbo) :: .ref mr :: .ref mn :: .ref ma :: .ref mi :: .ref mj :: .int (nI (en)) :: .ref mg :: .int (nI (sn)) :: .ref ms :: .int (nI (dn)) :: .ref md :: .ref mc :: .ref me :: .int (ga) :: .ref mh :: .ref mo :: .ref mw :: []))), (mx, .inl (E.2.1.1, 200, .inl (nA (tx)))), (mr, .inl (E.2.1.1, 50, .inl (upd rd q (nI (nvl tx tl (tsk tx tl e))))))] r w) ∨ (numB tx tl e lo hi = false ∧ xQ (some (.int (nI 0))) [(m0, .inr (10, (.int (nI (nt)) :: .ref mt :: .int (nI (nb)) :: .ref mk :: .ref mb :: .int (nI (lw)) :: .int (nI (sl)) :: .int (nI (tl)) :: .ref mx :: .int (nI (ten tx tl (tsk tx tl e))) :: .int (nI (tsk tx tl e)) :: .long (tokV tx tl (tsk tx tl e)) :: .int (nI (digV tx tl (tsk tx tl e))) :: .int (nI (numV tx tl (tsk tx tl e))) :: .int (nI (tsk tx tl e)) :: .int (rm_) :: .int (rto) :: .int (rbo) :: .ref mr :: .ref mn :: .ref ma :: .ref mi :: .ref mj :: .int (nI (en)) :: .ref mg :: .int (nI (sn)) :: .ref ms :: .int (nI (dn)) :: .ref md :: .ref mc :: .ref me :: .int (ga) :: .ref mh :: .ref mo :: .ref mw :: []))), (mx, .inl (E.2.1.1, 200, .inl (nA (tx)))), (mr, .inl (E.2.1.1, 50, .inl (rd)))] r w)) := by
  refine ct_of (by decide +kernel) (Nat.le_of_ble_eq_true rfl) (lv := [(0, .ref m0), (1, .int (nI (q))), (2, .int (nI (lo))), (3, .int (nI (hi)))]) rfl (fun A => ?_)
  refine g_aload_n (q := 1) dX10_isNumber_0 rfl rfl rfl ?_
  refine gc_X10_128 (c_nextToken he hl htx) rfl (Nat.le_of_ble_eq_true rfl) rfl 0 rfl [0, 1] rfl rfl (rest := []) rfl (Nat.le_of_ble_eq_true rfl) (q := 4) dX10_isNumber_1 rfl (exK (ws' := [(_, .inr (_, (_ :: _ :: _ :: _ :: _ :: _ :: _ :: _ :: _ :: _ :: _ :: _ :: _ :: _ :: _ :: _ :: _ :: _ :: _ :: _ :: _ :: _ :: _ :: _ :: _ :: _ :: _ :: _ :: _ :: _ :: _ :: _ :: _ :: _ :: _ :: []))), (_, .inl (_, _, .inl _)), _]) (st' := []) rfl rfl ?_)
  refine g_aload_n (q := 5) dX10_isNumber_4 rfl rfl rfl ?_
  refine gf_X10_111 rfl 0 rfl rfl (q := 8) dX10_isNumber_5 rfl ?_
  refine g_ldc2 (v := (-1)) rfl mkX10_121 (q := 11) dX10_isNumber_8 rfl ?_
  refine g_lcmp (q := 12) dX10_isNumber_11 rfl ?_
  refine g_if_ne (t := 27) (q := 15) dX10_isNumber_12 (by decide) rfl (fun c12 => ?_) (fun c12 => ?_)
  · have c12e := fun z => c12 ((lg_cmp_eq _ _).mpr z)
    refine g_aload_n (q := 28) dX10_isNumber_27 rfl rfl rfl ?_
    refine gc_X10_131 (c_fails) rfl (Nat.le_of_ble_eq_true rfl) rfl 0 rfl [0] rfl rfl (rest := []) rfl (Nat.le_of_ble_eq_true rfl) (q := 31) dX10_isNumber_28 rfl (exK (ws' := [(_, .inr (_, (_ :: _ :: _ :: _ :: _ :: _ :: _ :: _ :: _ :: _ :: _ :: _ :: _ :: _ :: _ :: _ :: _ :: _ :: _ :: _ :: _ :: _ :: _ :: _ :: _ :: _ :: _ :: _ :: _ :: _ :: _ :: _ :: _ :: _ :: _ :: []))), _, _]) (st' := [.int (nI (0))]) rfl rfl ?_)
    refine g_iret (st := []) dX10_isNumber_31 rfl (narZ (by first | exact Or.inl rfl | exact Or.inr rfl)) rfl ?_
    exact Or.inr ⟨decide_eq_false (fun z => c12e (tok_m1.mpr ⟨z.1, z.2.1⟩)), ⟨rfl, rfl⟩⟩
  · have c12e := (lg_cmp_eq _ _).mp c12
    have h3 := tok_m1.mp c12e
    have hnv := nvl_lt h3.2
    refine g_aload_n (q := 16) dX10_isNumber_15 rfl rfl rfl ?_
    refine gf_X10_106 rfl 0 rfl rfl (q := 19) dX10_isNumber_16 rfl ?_
    refine g_top (y := nI (nvl tx tl (tsk tx tl e))) (congrArg nI (numV_n h3)) ?_
    refine g_iload_n (q := 20) dX10_isNumber_19 rfl rfl rfl ?_
    refine g_iload_n (q := 21) dX10_isNumber_20 rfl rfl rfl ?_
    refine gc_X10_73 (c_in) rfl (Nat.le_of_ble_eq_true rfl) rfl [] rfl rfl (rest := []) rfl (Nat.le_of_ble_eq_true rfl) (q := 24) dX10_isNumber_21 rfl (exK (ws' := [_, _, _]) (st' := [.int (bI (!ninB (nI (nvl tx tl (tsk tx tl e))) (nI (lo)) (nI (hi))))]) rfl rfl ?_)
    refine g_top (y := bI (decide (lo ≤ nvl tx tl (tsk tx tl e) ∧ nvl tx tl (tsk tx tl e) ≤ hi))) (in_dec (by omega) (by omega) (by omega)) ?_
    refine g_if_ne (t := 32) (q := 27) dX10_isNumber_24 (by decide) rfl (fun c24 => ?_) (fun c24 => ?_)
    · have h24 := of_decide_eq_true (bI_ne0.mp c24)
      refine g_aload_n (q := 33) dX10_isNumber_32 rfl rfl rfl ?_
      refine gf_X10_26 rfl 0 rfl rfl (q := 36) dX10_isNumber_33 rfl ?_
      refine g_iload_n (q := 37) dX10_isNumber_36 rfl rfl rfl ?_
      refine g_aload_n (q := 38) dX10_isNumber_37 rfl rfl rfl ?_
      refine gf_X10_106 rfl 0 rfl rfl (q := 41) dX10_isNumber_38 rfl ?_
      refine g_top (y := nI (nvl tx tl (tsk tx tl e))) (congrArg nI (numV_n h3)) ?_
      refine g_iast (f' := (upd rd q (nI (nvl tx tl (tsk tx tl e))))) 2 rfl (ixIn (j := q) rfl (by omega) (by decide)) (ixU (j := q) rfl (by omega)) (ws' := [_, _, (_, .inl (_, _, .inl _))]) rfl (q := 42) dX10_isNumber_41 rfl ?_
      refine g_iconst (v := nI 1) (q := 43) dX10_isNumber_42 rfl ki_1 ?_
      refine g_iret (st := []) dX10_isNumber_43 rfl (narZ (by first | exact Or.inl rfl | exact Or.inr rfl)) rfl ?_
      exact Or.inl ⟨decide_eq_true ⟨h3.1, h3.2, h24.1, h24.2⟩, ⟨rfl, rfl⟩⟩
    · have h24 := of_decide_eq_false (bI_eq0.mp c24)
      refine g_aload_n (q := 28) dX10_isNumber_27 rfl rfl rfl ?_
      refine gc_X10_131 (c_fails) rfl (Nat.le_of_ble_eq_true rfl) rfl 0 rfl [0] rfl rfl (rest := []) rfl (Nat.le_of_ble_eq_true rfl) (q := 31) dX10_isNumber_28 rfl (exK (ws' := [(_, .inr (_, (_ :: _ :: _ :: _ :: _ :: _ :: _ :: _ :: _ :: _ :: _ :: _ :: _ :: _ :: _ :: _ :: _ :: _ :: _ :: _ :: _ :: _ :: _ :: _ :: _ :: _ :: _ :: _ :: _ :: _ :: _ :: _ :: _ :: _ :: _ :: []))), _, _]) (st' := [.int (nI (0))]) rfl rfl ?_)
      refine g_iret (st := []) dX10_isNumber_31 rfl (narZ (by first | exact Or.inl rfl | exact Or.inr rfl)) rfl ?_
      exact Or.inr ⟨decide_eq_false (fun z => h24 z.2.2), ⟨rfl, rfl⟩⟩
set_option maxHeartbeats 2000000 in
set_option maxRecDepth 20000 in
theorem c_isPlace {E : EN} {m0 mt mk mb mx mr mn ma mi mj mg ms md mc me mh mo mw nt nb lw sl tl en sn dn : Nat} {ta dg nu fa rm_ rbo ga : Int32} {tk : Int64} {tx : Nat → Nat} {e q rtn : Nat} {rd : Nat → Int32} (he0 : e ≤ tl) (hq : q < 50) (hr1 : 2 ≤ rtn) (hr2 : rtn ≤ 6) (hl : tl ≤ 200) (htx : ∀ j, j < tl → tx j < 256)  : CT E yX10_isPlace cX10_isPlace 2 (some .boolean) 3 [.ref m0, .int (nI (q))] [(m0, .inr (10, (.int (nI (nt)) :: .ref mt :: .int (nI (nb)) :: .ref mk :: .ref mb :: .int (nI (lw)) :: .int (nI (sl)) :: .int (nI (tl)) :: .ref mx :: .int (nI (e)) :: .int (ta) :: .long (tk) :: .int (dg) :: .int (nu) :: .int (fa) :: .int (rm_) :: .int (nI (rtn)) :: .int (rbo) :: .ref mr :: .ref mn :: .ref ma :: .ref mi :: .ref mj :: .int (nI (en)) :: .ref mg :: .int (nI (sn)) :: .ref ms :: .int (nI (dn)) :: .ref md :: .ref mc :: .ref me :: .int (ga) :: .ref mh :: .ref mo :: .ref mw :: []))), (mx, .inl (E.2.1.1, 200, .inl (nA (tx)))), (mr, .inl (E.2.1.1, 50, .inl (rd)))] (fun r w => (numB tx tl e 0 (rtn - 1) = true ∧ xQ (some (.int (nI 1))) [(m0, .inr (10, (.int (nI (nt)) :: .ref mt :: .int (nI (nb)) :: .ref mk :: .ref mb :: .int (nI (lw)) :: .int (nI (sl)) :: .int (nI (tl)) :: .ref mx :: .int (nI (ten tx tl (tsk tx tl e))) :: .int (nI (tsk tx tl e)) :: .long (tokV tx tl (tsk tx tl e)) :: .int (nI (digV tx tl (tsk tx tl e))) :: .int (nI (numV tx tl (tsk tx tl e))) :: .int (fa) :: .int (rm_) :: .int (nI (rtn)) :: .int (rbo) :: .ref mr :: .ref mn :: .ref ma :: .ref mi :: .ref mj :: .int (nI (en)) :: .ref mg :: .int (nI (sn)) :: .ref ms :: .int (nI (dn)) :: .ref md :: .ref mc :: .ref me :: .int (ga) :: .ref mh :: .ref mo :: .ref mw :: []))), (mx, .inl (E.2.1.1, 200, .inl (nA (tx)))), (mr, .inl (E.2.1.1, 50, .inl (upd rd q (nI (nvl tx tl (tsk tx tl e))))))] r w) ∨ (numB tx tl e 0 (rtn - 1) = false ∧ xQ (some (.int (nI 0))) [(m0, .inr (10, (.int (nI (nt)) :: .ref mt :: .int (nI (nb)) :: .ref mk :: .ref mb :: .int (nI (lw)) :: .int (nI (sl)) :: .int (nI (tl)) :: .ref mx :: .int (nI (ten tx tl (tsk tx tl e))) :: .int (nI (tsk tx tl e)) :: .long (tokV tx tl (tsk tx tl e)) :: .int (nI (digV tx tl (tsk tx tl e))) :: .int (nI (numV tx tl (tsk tx tl e))) :: .int (nI (tsk tx tl e)) :: .int (rm_) :: .int (nI (rtn)) :: .int (rbo) :: .ref mr :: .ref mn :: .ref ma :: .ref mi :: .ref mj :: .int (nI (en)) :: .ref mg :: .int (nI (sn)) :: .ref ms :: .int (nI (dn)) :: .ref md :: .ref mc :: .ref me :: .int (ga) :: .ref mh :: .ref mo :: .ref mw :: []))), (mx, .inl (E.2.1.1, 200, .inl (nA (tx)))), (mr, .inl (E.2.1.1, 50, .inl (rd)))] r w)) := by
  refine ct_of (by decide +kernel) (Nat.le_of_ble_eq_true rfl) (lv := [(0, .ref m0), (1, .int (nI (q)))]) rfl (fun A => ?_)
  refine g_aload_n (q := 1) dX10_isPlace_0 rfl rfl rfl ?_
  refine g_iload_n (q := 2) dX10_isPlace_1 rfl rfl rfl ?_
  refine g_iconst (v := nI 0) (q := 3) dX10_isPlace_2 rfl ki_0 ?_
  refine g_aload_n (q := 4) dX10_isPlace_3 rfl rfl rfl ?_
  refine gf_X10_135 rfl 0 rfl rfl (q := 7) dX10_isPlace_4 rfl ?_
  refine g_iconst (v := nI 1) (q := 8) dX10_isPlace_7 rfl ki_1 ?_
  refine g_isubN (q := 9) dX10_isPlace_8 rfl (by omega) ?_
  refine gc_X10_138 (c_isNumber (e := e) he0 (by omega) (by omega) (by omega) hl htx) rfl (Nat.le_of_ble_eq_true rfl) rfl 0 rfl [0, 1, 2] rfl rfl (rest := []) rfl (Nat.le_of_ble_eq_true rfl) (q := 12) dX10_isPlace_9 rfl (exOrM rfl (fun hn0 => ?_) (fun hn0 => ?_))
  · skip
    refine g_eq (ws' := [(m0, .inr (10, (.int (nI (nt)) :: .ref mt :: .int (nI (nb)) :: .ref mk :: .ref mb :: .int (nI (lw)) :: .int (nI (sl)) :: .int (nI (tl)) :: .ref mx :: .int (nI (ten tx tl (tsk tx tl e))) :: .int (nI (tsk tx tl e)) :: .long (tokV tx tl (tsk tx tl e)) :: .int (nI (digV tx tl (tsk tx tl e))) :: .int (nI (numV tx tl (tsk tx tl e))) :: .int (fa) :: .int (rm_) :: .int (nI (rtn)) :: .int (rbo) :: .ref mr :: .ref mn :: .ref ma :: .ref mi :: .ref mj :: .int (nI (en)) :: .ref mg :: .int (nI (sn)) :: .ref ms :: .int (nI (dn)) :: .ref md :: .ref mc :: .ref me :: .int (ga) :: .ref mh :: .ref mo :: .ref mw :: []))), (mx, .inl (E.2.1.1, 200, .inl (nA (tx)))), (mr, .inl (E.2.1.1, 50, .inl (upd rd q (nI (nvl tx tl (tsk tx tl e))))))]) (st' := [.int (nI (1))]) ?_ rfl rfl rfl
    refine g_iret (st := []) dX10_isPlace_12 rfl (narZ (by first | exact Or.inl rfl | exact Or.inr rfl)) rfl ?_
    exact Or.inl ⟨hn0, ⟨rfl, rfl⟩⟩
  · skip
    refine g_eq (ws' := [(m0, .inr (10, (.int (nI (nt)) :: .ref mt :: .int (nI (nb)) :: .ref mk :: .ref mb :: .int (nI (lw)) :: .int (nI (sl)) :: .int (nI (tl)) :: .ref mx :: .int (nI (ten tx tl (tsk tx tl e))) :: .int (nI (tsk tx tl e)) :: .long (tokV tx tl (tsk tx tl e)) :: .int (nI (digV tx tl (tsk tx tl e))) :: .int (nI (numV tx tl (tsk tx tl e))) :: .int (nI (tsk tx tl e)) :: .int (rm_) :: .int (nI (rtn)) :: .int (rbo) :: .ref mr :: .ref mn :: .ref ma :: .ref mi :: .ref mj :: .int (nI (en)) :: .ref mg :: .int (nI (sn)) :: .ref ms :: .int (nI (dn)) :: .ref md :: .ref mc :: .ref me :: .int (ga) :: .ref mh :: .ref mo :: .ref mw :: []))), (mx, .inl (E.2.1.1, 200, .inl (nA (tx)))), (mr, .inl (E.2.1.1, 50, .inl (rd)))]) (st' := [.int (nI (0))]) ?_ rfl rfl rfl
    refine g_iret (st := []) dX10_isPlace_12 rfl (narZ (by first | exact Or.inl rfl | exact Or.inr rfl)) rfl ?_
    exact Or.inr ⟨hn0, ⟨rfl, rfl⟩⟩
set_option maxHeartbeats 2000000 in
set_option maxRecDepth 20000 in
theorem c_isLeague {E : EN} {m0 mt mk mb mx mr mn ma mi mj mg ms md mc me mh mo mw nt nb lw sl tl en sn dn : Nat} {dg nu fa rm_ ga : Int32} {tk : Int64} {tx : Nat → Nat} {e s wi rtn rbn : Nat} {rd : Nat → Int32} (he0 : e ≤ tl) (hw : wi + 4 < 50) (hr1 : 2 ≤ rtn) (hr2 : rtn ≤ 6) (hrb : rbn ≤ 10) (hl : tl ≤ 200) (htx : ∀ j, j < tl → tx j < 256)  : CT E yX10_isLeague cX10_isLeague 2 (some .boolean) 4 [.ref m0, .int (nI (wi))] [(m0, .inr (10, (.int (nI (nt)) :: .ref mt :: .int (nI (nb)) :: .ref mk :: .ref mb :: .int (nI (lw)) :: .int (nI (sl)) :: .int (nI (tl)) :: .ref mx :: .int (nI (e)) :: .int (nI (s)) :: .long (tk) :: .int (dg) :: .int (nu) :: .int (fa) :: .int (rm_) :: .int (nI (rtn)) :: .int (nI (rbn)) :: .ref mr :: .ref mn :: .ref ma :: .ref mi :: .ref mj :: .int (nI (en)) :: .ref mg :: .int (nI (sn)) :: .ref ms :: .int (nI (dn)) :: .ref md :: .ref mc :: .ref me :: .int (ga) :: .ref mh :: .ref mo :: .ref mw :: []))), (mx, .inl (E.2.1.1, 200, .inl (nA (tx)))), (mr, .inl (E.2.1.1, 50, .inl (rd)))] (fun r w => (∃ (z : (LN × Nat) × (Int32 × Int64 × Int32 × Int32) × (Nat → Int32)), (lineK tx tl 8 rtn rbn e s = .inr z.1 ∧ RdL rd z.2.2 wi z.1.1.2) ∧ xQ (some (.int (nI 1))) [(m0, .inr (10, (.int (nI (nt)) :: .ref mt :: .int (nI (nb)) :: .ref mk :: .ref mb :: .int (nI (lw)) :: .int (nI (sl)) :: .int (nI (tl)) :: .ref mx :: .int (nI (z.1.2)) :: .int (z.2.1.1) :: .long (z.2.1.2.1) :: .int (z.2.1.2.2.1) :: .int (z.2.1.2.2.2) :: .int (fa) :: .int (rm_) :: .int (nI (rT rtn z.1.1)) :: .int (nI (rB rbn z.1.1)) :: .ref mr :: .ref mn :: .ref ma :: .ref mi :: .ref mj :: .int (nI (en)) :: .ref mg :: .int (nI (sn)) :: .ref ms :: .int (nI (dn)) :: .ref md :: .ref mc :: .ref me :: .int (ga) :: .ref mh :: .ref mo :: .ref mw :: []))), (mx, .inl (E.2.1.1, 200, .inl (nA (tx)))), (mr, .inl (E.2.1.1, 50, .inl (z.2.2)))] r w) ∨ ∃ (z : Nat × (Int32 × Int32 × Int64 × Int32 × Int32 × Int32) × (Nat → Int32)), lineK tx tl 8 rtn rbn e s = .inl z.1 ∧ xQ (some (.int (nI 0))) [(m0, .inr (10, (.int (nI (nt)) :: .ref mt :: .int (nI (nb)) :: .ref mk :: .ref mb :: .int (nI (lw)) :: .int (nI (sl)) :: .int (nI (tl)) :: .ref mx :: .int (z.2.1.1) :: .int (z.2.1.2.1) :: .long (z.2.1.2.2.1) :: .int (z.2.1.2.2.2.1) :: .int (z.2.1.2.2.2.2.1) :: .int (nI (z.1)) :: .int (rm_) :: .int (nI (rtn)) :: .int (z.2.1.2.2.2.2.2) :: .ref mr :: .ref mn :: .ref ma :: .ref mi :: .ref mj :: .int (nI (en)) :: .ref mg :: .int (nI (sn)) :: .ref ms :: .int (nI (dn)) :: .ref md :: .ref mc :: .ref me :: .int (ga) :: .ref mh :: .ref mo :: .ref mw :: []))), (mx, .inl (E.2.1.1, 200, .inl (nA (tx)))), (mr, .inl (E.2.1.1, 50, .inl (z.2.2)))] r w) := by
  refine ct_of (by decide +kernel) (Nat.le_of_ble_eq_true rfl) (lv := [(0, .ref m0), (1, .int (nI (wi)))]) rfl (fun A => ?_)
  refine g_aload_n (q := 1) dX10_isLeague_0 rfl rfl rfl ?_
  refine g_iload_n (q := 2) dX10_isLeague_1 rfl rfl rfl ?_
  refine g_iconst (v := nI 1) (q := 3) dX10_isLeague_2 rfl ki_1 ?_
  refine g_iaddN (q := 4) dX10_isLeague_3 rfl ?_
  refine g_iconst (v := nI 2) (q := 5) dX10_isLeague_4 rfl ki_2 ?_
  refine g_bipush (v := nI 6) (q := 7) dX10_isLeague_5 rfl kb_6 ?_
  refine gc_X10_138 (c_isNumber (e := e) he0 (by omega) (by omega) (by omega) hl htx) rfl (Nat.le_of_ble_eq_true rfl) rfl 0 rfl [0, 1, 2] rfl rfl (rest := []) rfl (Nat.le_of_ble_eq_true rfl) (q := 10) dX10_isLeague_7 rfl (exOrM rfl (fun hn0 => ?_) (fun hn0 => ?_))
  · skip
    refine g_eq (ws' := [(m0, .inr (10, (.int (nI (nt)) :: .ref mt :: .int (nI (nb)) :: .ref mk :: .ref mb :: .int (nI (lw)) :: .int (nI (sl)) :: .int (nI (tl)) :: .ref mx :: .int (nI (ten tx tl (tsk tx tl e))) :: .int (nI (tsk tx tl e)) :: .long (tokV tx tl (tsk tx tl e)) :: .int (nI (digV tx tl (tsk tx tl e))) :: .int (nI (numV tx tl (tsk tx tl e))) :: .int (fa) :: .int (rm_) :: .int (nI (rtn)) :: .int (nI (rbn)) :: .ref mr :: .ref mn :: .ref ma :: .ref mi :: .ref mj :: .int (nI (en)) :: .ref mg :: .int (nI (sn)) :: .ref ms :: .int (nI (dn)) :: .ref md :: .ref mc :: .ref me :: .int (ga) :: .ref mh :: .ref mo :: .ref mw :: []))), (mx, .inl (E.2.1.1, 200, .inl (nA (tx)))), (mr, .inl (E.2.1.1, 50, .inl (upd rd (wi + 1) (nI (nvl tx tl (tsk tx tl e))))))]) (st' := [.int (nI (1))]) ?_ rfl rfl rfl
    refine g_if_neN (t := 15) (q := 13) dX10_isLeague_10 (by decide) rfl (by omega) (fun c10 => ?_) (fun c10 => ?_)
    · skip
      refine g_aload_n (q := 16) dX10_isLeague_15 rfl rfl rfl ?_
      refine g_aload_n (q := 17) dX10_isLeague_16 rfl rfl rfl ?_
      refine gf_X10_26 rfl 0 rfl rfl (q := 20) dX10_isLeague_17 rfl ?_
      refine g_iload_n (q := 21) dX10_isLeague_20 rfl rfl rfl ?_
      refine g_iconst (v := nI 1) (q := 22) dX10_isLeague_21 rfl ki_1 ?_
      refine g_iaddN (q := 23) dX10_isLeague_22 rfl ?_
      refine g_iald (v := nI (nvl tx tl (tsk tx tl e))) 2 rfl (ixIn (j := wi + 1) rfl (by omega) (by decide)) (ixVr (by omega)) (q := 24) dX10_isLeague_23 rfl ?_
      refine pf_X10_135 rfl 0 rfl (Nat.le_of_ble_eq_true rfl) (ws' := [(_, .inr (_, (_ :: _ :: _ :: _ :: _ :: _ :: _ :: _ :: _ :: _ :: _ :: _ :: _ :: _ :: _ :: _ :: _ :: _ :: _ :: _ :: _ :: _ :: _ :: _ :: _ :: _ :: _ :: _ :: _ :: _ :: _ :: _ :: _ :: _ :: _ :: []))), _, _]) rfl (q := 27) dX10_isLeague_24 rfl ?_
      refine g_aload_n (q := 28) dX10_isLeague_27 rfl rfl rfl ?_
      refine g_iconst (v := nI 0) (q := 29) dX10_isLeague_28 rfl ki_0 ?_
      refine pf_X10_141 rfl 0 rfl (Nat.le_of_ble_eq_true rfl) (ws' := [(_, .inr (_, (_ :: _ :: _ :: _ :: _ :: _ :: _ :: _ :: _ :: _ :: _ :: _ :: _ :: _ :: _ :: _ :: _ :: _ :: _ :: _ :: _ :: _ :: _ :: _ :: _ :: _ :: _ :: _ :: _ :: _ :: _ :: _ :: _ :: _ :: _ :: []))), _, _]) rfl (q := 32) dX10_isLeague_29 rfl ?_
      refine g_iconst (v := nI 1) (q := 33) dX10_isLeague_32 rfl ki_1 ?_
      refine g_iret (st := []) dX10_isLeague_33 rfl (narZ (by first | exact Or.inl rfl | exact Or.inr rfl)) rfl ?_
      exact Or.inl ⟨(((8, [nvl tx tl (tsk tx tl e)]), ten tx tl (tsk tx tl e)), (nI (tsk tx tl e), tokV tx tl (tsk tx tl e), nI (digV tx tl (tsk tx tl e)), nI (numV tx tl (tsk tx tl e))), upd rd (wi + 1) (nI (nvl tx tl (tsk tx tl e)))), ⟨by simp [lineK, bd, nums, hn0], rdl1⟩, ⟨rfl, rfl⟩⟩
    · omega
  · skip
    refine g_eq (ws' := [(m0, .inr (10, (.int (nI (nt)) :: .ref mt :: .int (nI (nb)) :: .ref mk :: .ref mb :: .int (nI (lw)) :: .int (nI (sl)) :: .int (nI (tl)) :: .ref mx :: .int (nI (ten tx tl (tsk tx tl e))) :: .int (nI (tsk tx tl e)) :: .long (tokV tx tl (tsk tx tl e)) :: .int (nI (digV tx tl (tsk tx tl e))) :: .int (nI (numV tx tl (tsk tx tl e))) :: .int (nI (tsk tx tl e)) :: .int (rm_) :: .int (nI (rtn)) :: .int (nI (rbn)) :: .ref mr :: .ref mn :: .ref ma :: .ref mi :: .ref mj :: .int (nI (en)) :: .ref mg :: .int (nI (sn)) :: .ref ms :: .int (nI (dn)) :: .ref md :: .ref mc :: .ref me :: .int (ga) :: .ref mh :: .ref mo :: .ref mw :: []))), (mx, .inl (E.2.1.1, 200, .inl (nA (tx)))), (mr, .inl (E.2.1.1, 50, .inl (rd)))]) (st' := [.int (nI (0))]) ?_ rfl rfl rfl
    refine g_if_neN (t := 15) (q := 13) dX10_isLeague_10 (by decide) rfl (by omega) (fun c10 => ?_) (fun c10 => ?_)
    · omega
    · skip
      refine g_iconst (v := nI 0) (q := 14) dX10_isLeague_13 rfl ki_0 ?_
      refine g_iret (st := []) dX10_isLeague_14 rfl (narZ (by first | exact Or.inl rfl | exact Or.inr rfl)) rfl ?_
      exact Or.inr ⟨(tsk tx tl e, (nI (ten tx tl (tsk tx tl e)), nI (tsk tx tl e), tokV tx tl (tsk tx tl e), nI (digV tx tl (tsk tx tl e)), nI (numV tx tl (tsk tx tl e)), nI (rbn)), rd), by simp [lineK, bd, nums, hn0], ⟨rfl, rfl⟩⟩
set_option maxHeartbeats 2000000 in
set_option maxRecDepth 20000 in
theorem c_isNext {E : EN} {m0 mt mk mb mx mr mn ma mi mj mg ms md mc me mh mo mw nt nb lw sl tl en sn dn : Nat} {dg nu fa rm_ ga : Int32} {tk : Int64} {tx : Nat → Nat} {e s wi rtn rbn : Nat} {rd : Nat → Int32} (he0 : e ≤ tl) (hw : wi + 4 < 50) (hr1 : 2 ≤ rtn) (hr2 : rtn ≤ 6) (hrb : rbn ≤ 10) (hl : tl ≤ 200) (htx : ∀ j, j < tl → tx j < 256)  : CT E yX10_isNext cX10_isNext 2 (some .boolean) 5 [.ref m0, .int (nI (wi))] [(m0, .inr (10, (.int (nI (nt)) :: .ref mt :: .int (nI (nb)) :: .ref mk :: .ref mb :: .int (nI (lw)) :: .int (nI (sl)) :: .int (nI (tl)) :: .ref mx :: .int (nI (e)) :: .int (nI (s)) :: .long (tk) :: .int (dg) :: .int (nu) :: .int (fa) :: .int (rm_) :: .int (nI (rtn)) :: .int (nI (rbn)) :: .ref mr :: .ref mn :: .ref ma :: .ref mi :: .ref mj :: .int (nI (en)) :: .ref mg :: .int (nI (sn)) :: .ref ms :: .int (nI (dn)) :: .ref md :: .ref mc :: .ref me :: .int (ga) :: .ref mh :: .ref mo :: .ref mw :: []))), (mx, .inl (E.2.1.1, 200, .inl (nA (tx)))), (mr, .inl (E.2.1.1, 50, .inl (rd)))] (fun r w => (∃ (z : (LN × Nat) × (Int32 × Int64 × Int32 × Int32) × (Nat → Int32)), (lineK tx tl 11 rtn rbn e s = .inr z.1 ∧ RdL rd z.2.2 wi z.1.1.2) ∧ xQ (some (.int (nI 1))) [(m0, .inr (10, (.int (nI (nt)) :: .ref mt :: .int (nI (nb)) :: .ref mk :: .ref mb :: .int (nI (lw)) :: .int (nI (sl)) :: .int (nI (tl)) :: .ref mx :: .int (nI (z.1.2)) :: .int (z.2.1.1) :: .long (z.2.1.2.1) :: .int (z.2.1.2.2.1) :: .int (z.2.1.2.2.2) :: .int (fa) :: .int (rm_) :: .int (nI (rT rtn z.1.1)) :: .int (nI (rB rbn z.1.1)) :: .ref mr :: .ref mn :: .ref ma :: .ref mi :: .ref mj :: .int (nI (en)) :: .ref mg :: .int (nI (sn)) :: .ref ms :: .int (nI (dn)) :: .ref md :: .ref mc :: .ref me :: .int (ga) :: .ref mh :: .ref mo :: .ref mw :: []))), (mx, .inl (E.2.1.1, 200, .inl (nA (tx)))), (mr, .inl (E.2.1.1, 50, .inl (z.2.2)))] r w) ∨ ∃ (z : Nat × (Int32 × Int32 × Int64 × Int32 × Int32 × Int32) × (Nat → Int32)), lineK tx tl 11 rtn rbn e s = .inl z.1 ∧ xQ (some (.int (nI 0))) [(m0, .inr (10, (.int (nI (nt)) :: .ref mt :: .int (nI (nb)) :: .ref mk :: .ref mb :: .int (nI (lw)) :: .int (nI (sl)) :: .int (nI (tl)) :: .ref mx :: .int (z.2.1.1) :: .int (z.2.1.2.1) :: .long (z.2.1.2.2.1) :: .int (z.2.1.2.2.2.1) :: .int (z.2.1.2.2.2.2.1) :: .int (nI (z.1)) :: .int (rm_) :: .int (nI (rtn)) :: .int (z.2.1.2.2.2.2.2) :: .ref mr :: .ref mn :: .ref ma :: .ref mi :: .ref mj :: .int (nI (en)) :: .ref mg :: .int (nI (sn)) :: .ref ms :: .int (nI (dn)) :: .ref md :: .ref mc :: .ref me :: .int (ga) :: .ref mh :: .ref mo :: .ref mw :: []))), (mx, .inl (E.2.1.1, 200, .inl (nA (tx)))), (mr, .inl (E.2.1.1, 50, .inl (z.2.2)))] r w) := by
  refine ct_of (by decide +kernel) (Nat.le_of_ble_eq_true rfl) (lv := [(0, .ref m0), (1, .int (nI (wi)))]) rfl (fun A => ?_)
  refine g_aload_n (q := 1) dX10_isNext_0 rfl rfl rfl ?_
  refine g_iload_n (q := 2) dX10_isNext_1 rfl rfl rfl ?_
  refine g_iconst (v := nI 1) (q := 3) dX10_isNext_2 rfl ki_1 ?_
  refine g_iaddN (q := 4) dX10_isNext_3 rfl ?_
  refine gc_X10_144 (c_isPlace (e := e) he0 (by omega) hr1 hr2 hl htx) rfl (Nat.le_of_ble_eq_true rfl) rfl 0 rfl [0, 1, 2] rfl rfl (rest := []) rfl (Nat.le_of_ble_eq_true rfl) (q := 7) dX10_isNext_4 rfl (exOrM rfl (fun hn0 => ?_) (fun hn0 => ?_))
  · skip
    refine g_eq (ws' := [(m0, .inr (10, (.int (nI (nt)) :: .ref mt :: .int (nI (nb)) :: .ref mk :: .ref mb :: .int (nI (lw)) :: .int (nI (sl)) :: .int (nI (tl)) :: .ref mx :: .int (nI (ten tx tl (tsk tx tl e))) :: .int (nI (tsk tx tl e)) :: .long (tokV tx tl (tsk tx tl e)) :: .int (nI (digV tx tl (tsk tx tl e))) :: .int (nI (numV tx tl (tsk tx tl e))) :: .int (fa) :: .int (rm_) :: .int (nI (rtn)) :: .int (nI (rbn)) :: .ref mr :: .ref mn :: .ref ma :: .ref mi :: .ref mj :: .int (nI (en)) :: .ref mg :: .int (nI (sn)) :: .ref ms :: .int (nI (dn)) :: .ref md :: .ref mc :: .ref me :: .int (ga) :: .ref mh :: .ref mo :: .ref mw :: []))), (mx, .inl (E.2.1.1, 200, .inl (nA (tx)))), (mr, .inl (E.2.1.1, 50, .inl (upd rd (wi + 1) (nI (nvl tx tl (tsk tx tl e))))))]) (st' := [.int (nI (1))]) ?_ rfl rfl rfl
    refine g_if_eqN (t := 20) (q := 10) dX10_isNext_7 (by decide) rfl (by omega) (fun c7 => ?_) (fun c7 => ?_)
    · omega
    · skip
      refine g_aload_n (q := 11) dX10_isNext_10 rfl rfl rfl ?_
      refine g_iload_n (q := 12) dX10_isNext_11 rfl rfl rfl ?_
      refine g_iconst (v := nI 2) (q := 13) dX10_isNext_12 rfl ki_2 ?_
      refine g_iaddN (q := 14) dX10_isNext_13 rfl ?_
      have he1 := nt_le (tx := tx) he0
      have hb0 := numB_t hn0
      refine gc_X10_144 (c_isPlace (e := ten tx tl (tsk tx tl e)) he1 (by omega) hr1 hr2 hl htx) rfl (Nat.le_of_ble_eq_true rfl) rfl 0 rfl [0, 1, 2] rfl rfl (rest := []) rfl (Nat.le_of_ble_eq_true rfl) (q := 17) dX10_isNext_14 rfl (exOrM rfl (fun hn1 => ?_) (fun hn1 => ?_))
      · skip
        refine g_eq (ws' := [(m0, .inr (10, (.int (nI (nt)) :: .ref mt :: .int (nI (nb)) :: .ref mk :: .ref mb :: .int (nI (lw)) :: .int (nI (sl)) :: .int (nI (tl)) :: .ref mx :: .int (nI (ten tx tl (tsk tx tl (ten tx tl (tsk tx tl e))))) :: .int (nI (tsk tx tl (ten tx tl (tsk tx tl e)))) :: .long (tokV tx tl (tsk tx tl (ten tx tl (tsk tx tl e)))) :: .int (nI (digV tx tl (tsk tx tl (ten tx tl (tsk tx tl e))))) :: .int (nI (numV tx tl (tsk tx tl (ten tx tl (tsk tx tl e))))) :: .int (fa) :: .int (rm_) :: .int (nI (rtn)) :: .int (nI (rbn)) :: .ref mr :: .ref mn :: .ref ma :: .ref mi :: .ref mj :: .int (nI (en)) :: .ref mg :: .int (nI (sn)) :: .ref ms :: .int (nI (dn)) :: .ref md :: .ref mc :: .ref me :: .int (ga) :: .ref mh :: .ref mo :: .ref mw :: []))), (mx, .inl (E.2.1.1, 200, .inl (nA (tx)))), (mr, .inl (E.2.1.1, 50, .inl (upd (upd rd (wi + 1) (nI (nvl tx tl (tsk tx tl e)))) (wi + 2) (nI (nvl tx tl (tsk tx tl (ten tx tl (tsk tx tl e))))))))]) (st' := [.int (nI (1))]) ?_ rfl rfl rfl
        refine g_if_neN (t := 22) (q := 20) dX10_isNext_17 (by decide) rfl (by omega) (fun c17 => ?_) (fun c17 => ?_)
        · skip
          have hb1 := numB_t hn1
          refine g_aload_n (q := 23) dX10_isNext_22 rfl rfl rfl ?_
          refine gf_X10_26 rfl 0 rfl rfl (q := 26) dX10_isNext_23 rfl ?_
          refine g_iload_n (q := 27) dX10_isNext_26 rfl rfl rfl ?_
          refine g_iconst (v := nI 1) (q := 28) dX10_isNext_27 rfl ki_1 ?_
          refine g_iaddN (q := 29) dX10_isNext_28 rfl ?_
          refine g_iald (v := (upd (upd rd (wi + 1) (nI (nvl tx tl (tsk tx tl e)))) (wi + 2) (nI (nvl tx tl (tsk tx tl (ten tx tl (tsk tx tl e)))))) (wi + 1)) 2 rfl (ixIn (j := wi + 1) rfl (by omega) (by decide)) (ixV (j := wi + 1) rfl (by omega)) (q := 30) dX10_isNext_29 rfl ?_
          refine g_top (y := nI (nvl tx tl (tsk tx tl e))) ((if_neg (by omega)).trans (if_pos rfl)) ?_
          refine g_aload_n (q := 31) dX10_isNext_30 rfl rfl rfl ?_
          refine gf_X10_26 rfl 0 rfl rfl (q := 34) dX10_isNext_31 rfl ?_
          refine g_iload_n (q := 35) dX10_isNext_34 rfl rfl rfl ?_
          refine g_iconst (v := nI 2) (q := 36) dX10_isNext_35 rfl ki_2 ?_
          refine g_iaddN (q := 37) dX10_isNext_36 rfl ?_
          refine g_iald (v := nI (nvl tx tl (tsk tx tl (ten tx tl (tsk tx tl e))))) 2 rfl (ixIn (j := wi + 2) rfl (by omega) (by decide)) (ixVr (by omega)) (q := 38) dX10_isNext_37 rfl ?_
          refine g_icmp_neN (t := 48) (q := 41) dX10_isNext_38 (by decide) rfl (by omega) (by omega) (fun c38 => ?_) (fun c38 => ?_)
          · skip
            refine g_iconst (v := nI 1) (q := 49) dX10_isNext_48 rfl ki_1 ?_
            refine g_goto (q := 53) dX10_isNext_49 (by decide) ?_
            refine g_iret (st := []) dX10_isNext_53 rfl (narZ (by first | exact Or.inl rfl | exact Or.inr rfl)) rfl ?_
            exact Or.inl ⟨(((11, [nvl tx tl (tsk tx tl e), nvl tx tl (tsk tx tl (ten tx tl (tsk tx tl e)))]), ten tx tl (tsk tx tl (ten tx tl (tsk tx tl e)))), (nI (tsk tx tl (ten tx tl (tsk tx tl e))), tokV tx tl (tsk tx tl (ten tx tl (tsk tx tl e))), nI (digV tx tl (tsk tx tl (ten tx tl (tsk tx tl e)))), nI (numV tx tl (tsk tx tl (ten tx tl (tsk tx tl e))))), upd (upd rd (wi + 1) (nI (nvl tx tl (tsk tx tl e)))) (wi + 2) (nI (nvl tx tl (tsk tx tl (ten tx tl (tsk tx tl e)))))), ⟨by simp [lineK, bd, nums, hn0, hn1, c38], rdl2⟩, ⟨rfl, rfl⟩⟩
          · skip
            refine g_aload_n (q := 42) dX10_isNext_41 rfl rfl rfl ?_
            refine gc_X10_131 (c_fails) rfl (Nat.le_of_ble_eq_true rfl) rfl 0 rfl [0] rfl rfl (rest := []) rfl (Nat.le_of_ble_eq_true rfl) (q := 45) dX10_isNext_42 rfl (exK (ws' := [(_, .inr (_, (_ :: _ :: _ :: _ :: _ :: _ :: _ :: _ :: _ :: _ :: _ :: _ :: _ :: _ :: _ :: _ :: _ :: _ :: _ :: _ :: _ :: _ :: _ :: _ :: _ :: _ :: _ :: _ :: _ :: _ :: _ :: _ :: _ :: _ :: _ :: []))), _, _]) (st' := [.int (nI (0))]) rfl rfl ?_)
            refine g_if_eqN (t := 52) (q := 48) dX10_isNext_45 (by decide) rfl (by omega) (fun c45 => ?_) (fun c45 => ?_)
            · skip
              refine g_iconst (v := nI 0) (q := 53) dX10_isNext_52 rfl ki_0 ?_
              refine g_iret (st := []) dX10_isNext_53 rfl (narZ (by first | exact Or.inl rfl | exact Or.inr rfl)) rfl ?_
              exact Or.inr ⟨(tsk tx tl (ten tx tl (tsk tx tl e)), (nI (ten tx tl (tsk tx tl (ten tx tl (tsk tx tl e)))), nI (tsk tx tl (ten tx tl (tsk tx tl e))), tokV tx tl (tsk tx tl (ten tx tl (tsk tx tl e))), nI (digV tx tl (tsk tx tl (ten tx tl (tsk tx tl e)))), nI (numV tx tl (tsk tx tl (ten tx tl (tsk tx tl e)))), nI (rbn)), upd (upd rd (wi + 1) (nI (nvl tx tl (tsk tx tl e)))) (wi + 2) (nI (nvl tx tl (tsk tx tl (ten tx tl (tsk tx tl e)))))), by simp [lineK, bd, nums, hn0, hn1, c38], ⟨rfl, rfl⟩⟩
            · omega
        · omega
      · skip
        refine g_eq (ws' := [(m0, .inr (10, (.int (nI (nt)) :: .ref mt :: .int (nI (nb)) :: .ref mk :: .ref mb :: .int (nI (lw)) :: .int (nI (sl)) :: .int (nI (tl)) :: .ref mx :: .int (nI (ten tx tl (tsk tx tl (ten tx tl (tsk tx tl e))))) :: .int (nI (tsk tx tl (ten tx tl (tsk tx tl e)))) :: .long (tokV tx tl (tsk tx tl (ten tx tl (tsk tx tl e)))) :: .int (nI (digV tx tl (tsk tx tl (ten tx tl (tsk tx tl e))))) :: .int (nI (numV tx tl (tsk tx tl (ten tx tl (tsk tx tl e))))) :: .int (nI (tsk tx tl (ten tx tl (tsk tx tl e)))) :: .int (rm_) :: .int (nI (rtn)) :: .int (nI (rbn)) :: .ref mr :: .ref mn :: .ref ma :: .ref mi :: .ref mj :: .int (nI (en)) :: .ref mg :: .int (nI (sn)) :: .ref ms :: .int (nI (dn)) :: .ref md :: .ref mc :: .ref me :: .int (ga) :: .ref mh :: .ref mo :: .ref mw :: []))), (mx, .inl (E.2.1.1, 200, .inl (nA (tx)))), (mr, .inl (E.2.1.1, 50, .inl (upd rd (wi + 1) (nI (nvl tx tl (tsk tx tl e))))))]) (st' := [.int (nI (0))]) ?_ rfl rfl rfl
        refine g_if_neN (t := 22) (q := 20) dX10_isNext_17 (by decide) rfl (by omega) (fun c17 => ?_) (fun c17 => ?_)
        · omega
        · skip
          refine g_iconst (v := nI 0) (q := 21) dX10_isNext_20 rfl ki_0 ?_
          refine g_iret (st := []) dX10_isNext_21 rfl (narZ (by first | exact Or.inl rfl | exact Or.inr rfl)) rfl ?_
          exact Or.inr ⟨(tsk tx tl (ten tx tl (tsk tx tl e)), (nI (ten tx tl (tsk tx tl (ten tx tl (tsk tx tl e)))), nI (tsk tx tl (ten tx tl (tsk tx tl e))), tokV tx tl (tsk tx tl (ten tx tl (tsk tx tl e))), nI (digV tx tl (tsk tx tl (ten tx tl (tsk tx tl e)))), nI (numV tx tl (tsk tx tl (ten tx tl (tsk tx tl e)))), nI (rbn)), upd rd (wi + 1) (nI (nvl tx tl (tsk tx tl e)))), by simp [lineK, bd, nums, hn0, hn1], ⟨rfl, rfl⟩⟩
  · skip
    refine g_eq (ws' := [(m0, .inr (10, (.int (nI (nt)) :: .ref mt :: .int (nI (nb)) :: .ref mk :: .ref mb :: .int (nI (lw)) :: .int (nI (sl)) :: .int (nI (tl)) :: .ref mx :: .int (nI (ten tx tl (tsk tx tl e))) :: .int (nI (tsk tx tl e)) :: .long (tokV tx tl (tsk tx tl e)) :: .int (nI (digV tx tl (tsk tx tl e))) :: .int (nI (numV tx tl (tsk tx tl e))) :: .int (nI (tsk tx tl e)) :: .int (rm_) :: .int (nI (rtn)) :: .int (nI (rbn)) :: .ref mr :: .ref mn :: .ref ma :: .ref mi :: .ref mj :: .int (nI (en)) :: .ref mg :: .int (nI (sn)) :: .ref ms :: .int (nI (dn)) :: .ref md :: .ref mc :: .ref me :: .int (ga) :: .ref mh :: .ref mo :: .ref mw :: []))), (mx, .inl (E.2.1.1, 200, .inl (nA (tx)))), (mr, .inl (E.2.1.1, 50, .inl (rd)))]) (st' := [.int (nI (0))]) ?_ rfl rfl rfl
    refine g_if_eqN (t := 20) (q := 10) dX10_isNext_7 (by decide) rfl (by omega) (fun c7 => ?_) (fun c7 => ?_)
    · skip
      refine g_iconst (v := nI 0) (q := 21) dX10_isNext_20 rfl ki_0 ?_
      refine g_iret (st := []) dX10_isNext_21 rfl (narZ (by first | exact Or.inl rfl | exact Or.inr rfl)) rfl ?_
      exact Or.inr ⟨(tsk tx tl e, (nI (ten tx tl (tsk tx tl e)), nI (tsk tx tl e), tokV tx tl (tsk tx tl e), nI (digV tx tl (tsk tx tl e)), nI (numV tx tl (tsk tx tl e)), nI (rbn)), rd), by simp [lineK, bd, nums, hn0], ⟨rfl, rfl⟩⟩
    · omega
set_option maxHeartbeats 2000000 in
set_option maxRecDepth 20000 in
theorem c_isBoyLine {E : EN} {m0 mt mk mb mx mr mn ma mi mj mg ms md mc me mh mo mw nt nb lw sl tl en sn dn : Nat} {dg nu fa rm_ ga : Int32} {tk : Int64} {tx : Nat → Nat} {e s wi rtn rbn : Nat} {rd : Nat → Int32} {k : Nat} (hk : k < 4) (he0 : e ≤ tl) (hw : wi + 4 < 50) (hr1 : 2 ≤ rtn) (hr2 : rtn ≤ 6) (hrb : rbn ≤ 10) (hl : tl ≤ 200) (htx : ∀ j, j < tl → tx j < 256)  : CT E yX10_isBoyLine cX10_isBoyLine 2 (some .boolean) 4 [.ref m0, .int (nI (wi))] [(m0, .inr (10, (.int (nI (nt)) :: .ref mt :: .int (nI (nb)) :: .ref mk :: .ref mb :: .int (nI (lw)) :: .int (nI (sl)) :: .int (nI (tl)) :: .ref mx :: .int (nI (e)) :: .int (nI (s)) :: .long (tk) :: .int (dg) :: .int (nu) :: .int (fa) :: .int (rm_) :: .int (nI (rtn)) :: .int (nI (rbn)) :: .ref mr :: .ref mn :: .ref ma :: .ref mi :: .ref mj :: .int (nI (en)) :: .ref mg :: .int (nI (sn)) :: .ref ms :: .int (nI (dn)) :: .ref md :: .ref mc :: .ref me :: .int (ga) :: .ref mh :: .ref mo :: .ref mw :: []))), (mx, .inl (E.2.1.1, 200, .inl (nA (tx)))), (mr, .inl (E.2.1.1, 50, .inl (rd)))] (fun r w => (∃ (z : (LN × Nat) × (Int32 × Int64 × Int32 × Int32) × (Nat → Int32)), (lineK tx tl k rtn rbn e s = .inr z.1 ∧ RdL rd z.2.2 wi z.1.1.2) ∧ xQ (some (.int (nI 1))) [(m0, .inr (10, (.int (nI (nt)) :: .ref mt :: .int (nI (nb)) :: .ref mk :: .ref mb :: .int (nI (lw)) :: .int (nI (sl)) :: .int (nI (tl)) :: .ref mx :: .int (nI (z.1.2)) :: .int (z.2.1.1) :: .long (z.2.1.2.1) :: .int (z.2.1.2.2.1) :: .int (z.2.1.2.2.2) :: .int (fa) :: .int (rm_) :: .int (nI (rT rtn z.1.1)) :: .int (nI (rB rbn z.1.1)) :: .ref mr :: .ref mn :: .ref ma :: .ref mi :: .ref mj :: .int (nI (en)) :: .ref mg :: .int (nI (sn)) :: .ref ms :: .int (nI (dn)) :: .ref md :: .ref mc :: .ref me :: .int (ga) :: .ref mh :: .ref mo :: .ref mw :: []))), (mx, .inl (E.2.1.1, 200, .inl (nA (tx)))), (mr, .inl (E.2.1.1, 50, .inl (z.2.2)))] r w) ∨ ∃ (z : Nat × (Int32 × Int32 × Int64 × Int32 × Int32 × Int32) × (Nat → Int32)), lineK tx tl k rtn rbn e s = .inl z.1 ∧ xQ (some (.int (nI 0))) [(m0, .inr (10, (.int (nI (nt)) :: .ref mt :: .int (nI (nb)) :: .ref mk :: .ref mb :: .int (nI (lw)) :: .int (nI (sl)) :: .int (nI (tl)) :: .ref mx :: .int (z.2.1.1) :: .int (z.2.1.2.1) :: .long (z.2.1.2.2.1) :: .int (z.2.1.2.2.2.1) :: .int (z.2.1.2.2.2.2.1) :: .int (nI (z.1)) :: .int (rm_) :: .int (nI (rtn)) :: .int (z.2.1.2.2.2.2.2) :: .ref mr :: .ref mn :: .ref ma :: .ref mi :: .ref mj :: .int (nI (en)) :: .ref mg :: .int (nI (sn)) :: .ref ms :: .int (nI (dn)) :: .ref md :: .ref mc :: .ref me :: .int (ga) :: .ref mh :: .ref mo :: .ref mw :: []))), (mx, .inl (E.2.1.1, 200, .inl (nA (tx)))), (mr, .inl (E.2.1.1, 50, .inl (z.2.2)))] r w) := by
  refine ct_of (by decide +kernel) (Nat.le_of_ble_eq_true rfl) (lv := [(0, .ref m0), (1, .int (nI (wi)))]) rfl (fun A => ?_)
  refine g_aload_n (q := 1) dX10_isBoyLine_0 rfl rfl rfl ?_
  refine gf_X10_141 rfl 0 rfl rfl (q := 4) dX10_isBoyLine_1 rfl ?_
  refine g_bipush (v := nI 10) (q := 6) dX10_isBoyLine_4 rfl kb_10 ?_
  refine g_icmp_neN (t := 14) (q := 9) dX10_isBoyLine_6 (by decide) rfl (by omega) (by omega) (fun c6 => ?_) (fun c6 => ?_)
  · skip
    refine g_aload_n (q := 15) dX10_isBoyLine_14 rfl rfl rfl ?_
    refine g_dup (q := 16) dX10_isBoyLine_15 rfl rfl ?_
    refine gf_X10_141 rfl 0 rfl rfl (q := 19) dX10_isBoyLine_16 rfl ?_
    refine g_iconst (v := nI 1) (q := 20) dX10_isBoyLine_19 rfl ki_1 ?_
    refine g_iaddN (q := 21) dX10_isBoyLine_20 rfl ?_
    refine pf_X10_141 rfl 0 rfl (Nat.le_of_ble_eq_true rfl) (ws' := [(_, .inr (_, (_ :: _ :: _ :: _ :: _ :: _ :: _ :: _ :: _ :: _ :: _ :: _ :: _ :: _ :: _ :: _ :: _ :: _ :: _ :: _ :: _ :: _ :: _ :: _ :: _ :: _ :: _ :: _ :: _ :: _ :: _ :: _ :: _ :: _ :: _ :: []))), _, _]) rfl (q := 24) dX10_isBoyLine_21 rfl ?_
    refine g_aload_n (q := 25) dX10_isBoyLine_24 rfl rfl rfl ?_
    refine g_iload_n (q := 26) dX10_isBoyLine_25 rfl rfl rfl ?_
    refine g_iconst (v := nI 1) (q := 27) dX10_isBoyLine_26 rfl ki_1 ?_
    refine g_iaddN (q := 28) dX10_isBoyLine_27 rfl ?_
    refine gc_X10_144 (c_isPlace (e := e) he0 (by omega) hr1 hr2 hl htx) rfl (Nat.le_of_ble_eq_true rfl) rfl 0 rfl [0, 1, 2] rfl rfl (rest := []) rfl (Nat.le_of_ble_eq_true rfl) (q := 31) dX10_isBoyLine_28 rfl (exOrM rfl (fun hn0 => ?_) (fun hn0 => ?_))
    · skip
      refine g_eq (ws' := [(m0, .inr (10, (.int (nI (nt)) :: .ref mt :: .int (nI (nb)) :: .ref mk :: .ref mb :: .int (nI (lw)) :: .int (nI (sl)) :: .int (nI (tl)) :: .ref mx :: .int (nI (ten tx tl (tsk tx tl e))) :: .int (nI (tsk tx tl e)) :: .long (tokV tx tl (tsk tx tl e)) :: .int (nI (digV tx tl (tsk tx tl e))) :: .int (nI (numV tx tl (tsk tx tl e))) :: .int (fa) :: .int (rm_) :: .int (nI (rtn)) :: .int (nI (rbn + 1)) :: .ref mr :: .ref mn :: .ref ma :: .ref mi :: .ref mj :: .int (nI (en)) :: .ref mg :: .int (nI (sn)) :: .ref ms :: .int (nI (dn)) :: .ref md :: .ref mc :: .ref me :: .int (ga) :: .ref mh :: .ref mo :: .ref mw :: []))), (mx, .inl (E.2.1.1, 200, .inl (nA (tx)))), (mr, .inl (E.2.1.1, 50, .inl (upd rd (wi + 1) (nI (nvl tx tl (tsk tx tl e))))))]) (st' := [.int (nI (1))]) ?_ rfl rfl rfl
      refine g_if_eqN (t := 76) (q := 34) dX10_isBoyLine_31 (by decide) rfl (by omega) (fun c31 => ?_) (fun c31 => ?_)
      · omega
      · skip
        refine g_aload_n (q := 35) dX10_isBoyLine_34 rfl rfl rfl ?_
        refine g_iload_n (q := 36) dX10_isBoyLine_35 rfl rfl rfl ?_
        refine g_iconst (v := nI 2) (q := 37) dX10_isBoyLine_36 rfl ki_2 ?_
        refine g_iaddN (q := 38) dX10_isBoyLine_37 rfl ?_
        refine g_iconst (v := nI 1) (q := 39) dX10_isBoyLine_38 rfl ki_1 ?_
        refine g_bipush (v := nI 99) (q := 41) dX10_isBoyLine_39 rfl kb_99 ?_
        have he1 := nt_le (tx := tx) he0
        have hb0 := numB_t hn0
        refine gc_X10_138 (c_isNumber (e := ten tx tl (tsk tx tl e)) he1 (by omega) (by omega) (by omega) hl htx) rfl (Nat.le_of_ble_eq_true rfl) rfl 0 rfl [0, 1, 2] rfl rfl (rest := []) rfl (Nat.le_of_ble_eq_true rfl) (q := 44) dX10_isBoyLine_41 rfl (exOrM rfl (fun hn1 => ?_) (fun hn1 => ?_))
        · skip
          refine g_eq (ws' := [(m0, .inr (10, (.int (nI (nt)) :: .ref mt :: .int (nI (nb)) :: .ref mk :: .ref mb :: .int (nI (lw)) :: .int (nI (sl)) :: .int (nI (tl)) :: .ref mx :: .int (nI (ten tx tl (tsk tx tl (ten tx tl (tsk tx tl e))))) :: .int (nI (tsk tx tl (ten tx tl (tsk tx tl e)))) :: .long (tokV tx tl (tsk tx tl (ten tx tl (tsk tx tl e)))) :: .int (nI (digV tx tl (tsk tx tl (ten tx tl (tsk tx tl e))))) :: .int (nI (numV tx tl (tsk tx tl (ten tx tl (tsk tx tl e))))) :: .int (fa) :: .int (rm_) :: .int (nI (rtn)) :: .int (nI (rbn + 1)) :: .ref mr :: .ref mn :: .ref ma :: .ref mi :: .ref mj :: .int (nI (en)) :: .ref mg :: .int (nI (sn)) :: .ref ms :: .int (nI (dn)) :: .ref md :: .ref mc :: .ref me :: .int (ga) :: .ref mh :: .ref mo :: .ref mw :: []))), (mx, .inl (E.2.1.1, 200, .inl (nA (tx)))), (mr, .inl (E.2.1.1, 50, .inl (upd (upd rd (wi + 1) (nI (nvl tx tl (tsk tx tl e)))) (wi + 2) (nI (nvl tx tl (tsk tx tl (ten tx tl (tsk tx tl e))))))))]) (st' := [.int (nI (1))]) ?_ rfl rfl rfl
          refine g_if_eqN (t := 76) (q := 47) dX10_isBoyLine_44 (by decide) rfl (by omega) (fun c44 => ?_) (fun c44 => ?_)
          · omega
          · skip
            refine g_aload_n (q := 48) dX10_isBoyLine_47 rfl rfl rfl ?_
            refine g_iload_n (q := 49) dX10_isBoyLine_48 rfl rfl rfl ?_
            refine g_iconst (v := nI 3) (q := 50) dX10_isBoyLine_49 rfl ki_3 ?_
            refine g_iaddN (q := 51) dX10_isBoyLine_50 rfl ?_
            refine g_iconst (v := nI 0) (q := 52) dX10_isBoyLine_51 rfl ki_0 ?_
            refine g_iconst (v := nI 3) (q := 53) dX10_isBoyLine_52 rfl ki_3 ?_
            have he2 := nt_le (tx := tx) he1
            have hb1 := numB_t hn1
            refine gc_X10_138 (c_isNumber (e := ten tx tl (tsk tx tl (ten tx tl (tsk tx tl e)))) he2 (by omega) (by omega) (by omega) hl htx) rfl (Nat.le_of_ble_eq_true rfl) rfl 0 rfl [0, 1, 2] rfl rfl (rest := []) rfl (Nat.le_of_ble_eq_true rfl) (q := 56) dX10_isBoyLine_53 rfl (exOrM rfl (fun hn2 => ?_) (fun hn2 => ?_))
            · skip
              refine g_eq (ws' := [(m0, .inr (10, (.int (nI (nt)) :: .ref mt :: .int (nI (nb)) :: .ref mk :: .ref mb :: .int (nI (lw)) :: .int (nI (sl)) :: .int (nI (tl)) :: .ref mx :: .int (nI (ten tx tl (tsk tx tl (ten tx tl (tsk tx tl (ten tx tl (tsk tx tl e))))))) :: .int (nI (tsk tx tl (ten tx tl (tsk tx tl (ten tx tl (tsk tx tl e)))))) :: .long (tokV tx tl (tsk tx tl (ten tx tl (tsk tx tl (ten tx tl (tsk tx tl e)))))) :: .int (nI (digV tx tl (tsk tx tl (ten tx tl (tsk tx tl (ten tx tl (tsk tx tl e))))))) :: .int (nI (numV tx tl (tsk tx tl (ten tx tl (tsk tx tl (ten tx tl (tsk tx tl e))))))) :: .int (fa) :: .int (rm_) :: .int (nI (rtn)) :: .int (nI (rbn + 1)) :: .ref mr :: .ref mn :: .ref ma :: .ref mi :: .ref mj :: .int (nI (en)) :: .ref mg :: .int (nI (sn)) :: .ref ms :: .int (nI (dn)) :: .ref md :: .ref mc :: .ref me :: .int (ga) :: .ref mh :: .ref mo :: .ref mw :: []))), (mx, .inl (E.2.1.1, 200, .inl (nA (tx)))), (mr, .inl (E.2.1.1, 50, .inl (upd (upd (upd rd (wi + 1) (nI (nvl tx tl (tsk tx tl e)))) (wi + 2) (nI (nvl tx tl (tsk tx tl (ten tx tl (tsk tx tl e)))))) (wi + 3) (nI (nvl tx tl (tsk tx tl (ten tx tl (tsk tx tl (ten tx tl (tsk tx tl e))))))))))]) (st' := [.int (nI (1))]) ?_ rfl rfl rfl
              refine g_if_eqN (t := 76) (q := 59) dX10_isBoyLine_56 (by decide) rfl (by omega) (fun c56 => ?_) (fun c56 => ?_)
              · omega
              · skip
                refine g_aload_n (q := 60) dX10_isBoyLine_59 rfl rfl rfl ?_
                refine g_iload_n (q := 61) dX10_isBoyLine_60 rfl rfl rfl ?_
                refine g_iconst (v := nI 4) (q := 62) dX10_isBoyLine_61 rfl ki_4 ?_
                refine g_iaddN (q := 63) dX10_isBoyLine_62 rfl ?_
                refine g_iconst (v := nI 0) (q := 64) dX10_isBoyLine_63 rfl ki_0 ?_
                refine g_bipush (v := nI 9) (q := 66) dX10_isBoyLine_64 rfl kb_9 ?_
                have he3 := nt_le (tx := tx) he2
                have hb2 := numB_t hn2
                refine gc_X10_138 (c_isNumber (e := ten tx tl (tsk tx tl (ten tx tl (tsk tx tl (ten tx tl (tsk tx tl e)))))) he3 (by omega) (by omega) (by omega) hl htx) rfl (Nat.le_of_ble_eq_true rfl) rfl 0 rfl [0, 1, 2] rfl rfl (rest := []) rfl (Nat.le_of_ble_eq_true rfl) (q := 69) dX10_isBoyLine_66 rfl (exOrM rfl (fun hn3 => ?_) (fun hn3 => ?_))
                · skip
                  refine g_eq (ws' := [(m0, .inr (10, (.int (nI (nt)) :: .ref mt :: .int (nI (nb)) :: .ref mk :: .ref mb :: .int (nI (lw)) :: .int (nI (sl)) :: .int (nI (tl)) :: .ref mx :: .int (nI (ten tx tl (tsk tx tl (ten tx tl (tsk tx tl (ten tx tl (tsk tx tl (ten tx tl (tsk tx tl e))))))))) :: .int (nI (tsk tx tl (ten tx tl (tsk tx tl (ten tx tl (tsk tx tl (ten tx tl (tsk tx tl e)))))))) :: .long (tokV tx tl (tsk tx tl (ten tx tl (tsk tx tl (ten tx tl (tsk tx tl (ten tx tl (tsk tx tl e)))))))) :: .int (nI (digV tx tl (tsk tx tl (ten tx tl (tsk tx tl (ten tx tl (tsk tx tl (ten tx tl (tsk tx tl e))))))))) :: .int (nI (numV tx tl (tsk tx tl (ten tx tl (tsk tx tl (ten tx tl (tsk tx tl (ten tx tl (tsk tx tl e))))))))) :: .int (fa) :: .int (rm_) :: .int (nI (rtn)) :: .int (nI (rbn + 1)) :: .ref mr :: .ref mn :: .ref ma :: .ref mi :: .ref mj :: .int (nI (en)) :: .ref mg :: .int (nI (sn)) :: .ref ms :: .int (nI (dn)) :: .ref md :: .ref mc :: .ref me :: .int (ga) :: .ref mh :: .ref mo :: .ref mw :: []))), (mx, .inl (E.2.1.1, 200, .inl (nA (tx)))), (mr, .inl (E.2.1.1, 50, .inl (upd (upd (upd (upd rd (wi + 1) (nI (nvl tx tl (tsk tx tl e)))) (wi + 2) (nI (nvl tx tl (tsk tx tl (ten tx tl (tsk tx tl e)))))) (wi + 3) (nI (nvl tx tl (tsk tx tl (ten tx tl (tsk tx tl (ten tx tl (tsk tx tl e)))))))) (wi + 4) (nI (nvl tx tl (tsk tx tl (ten tx tl (tsk tx tl (ten tx tl (tsk tx tl (ten tx tl (tsk tx tl e))))))))))))]) (st' := [.int (nI (1))]) ?_ rfl rfl rfl
                  refine g_if_eqN (t := 76) (q := 72) dX10_isBoyLine_69 (by decide) rfl (by omega) (fun c69 => ?_) (fun c69 => ?_)
                  · omega
                  · skip
                    refine g_iconst (v := nI 1) (q := 73) dX10_isBoyLine_72 rfl ki_1 ?_
                    refine g_goto (q := 77) dX10_isBoyLine_73 (by decide) ?_
                    refine g_iret (st := []) dX10_isBoyLine_77 rfl (narZ (by first | exact Or.inl rfl | exact Or.inr rfl)) rfl ?_
                    exact Or.inl ⟨(((k, [nvl tx tl (tsk tx tl e), nvl tx tl (tsk tx tl (ten tx tl (tsk tx tl e))), nvl tx tl (tsk tx tl (ten tx tl (tsk tx tl (ten tx tl (tsk tx tl e))))), nvl tx tl (tsk tx tl (ten tx tl (tsk tx tl (ten tx tl (tsk tx tl (ten tx tl (tsk tx tl e)))))))]), ten tx tl (tsk tx tl (ten tx tl (tsk tx tl (ten tx tl (tsk tx tl (ten tx tl (tsk tx tl e)))))))), (nI (tsk tx tl (ten tx tl (tsk tx tl (ten tx tl (tsk tx tl (ten tx tl (tsk tx tl e))))))), tokV tx tl (tsk tx tl (ten tx tl (tsk tx tl (ten tx tl (tsk tx tl (ten tx tl (tsk tx tl e))))))), nI (digV tx tl (tsk tx tl (ten tx tl (tsk tx tl (ten tx tl (tsk tx tl (ten tx tl (tsk tx tl e)))))))), nI (numV tx tl (tsk tx tl (ten tx tl (tsk tx tl (ten tx tl (tsk tx tl (ten tx tl (tsk tx tl e))))))))), upd (upd (upd (upd rd (wi + 1) (nI (nvl tx tl (tsk tx tl e)))) (wi + 2) (nI (nvl tx tl (tsk tx tl (ten tx tl (tsk tx tl e)))))) (wi + 3) (nI (nvl tx tl (tsk tx tl (ten tx tl (tsk tx tl (ten tx tl (tsk tx tl e)))))))) (wi + 4) (nI (nvl tx tl (tsk tx tl (ten tx tl (tsk tx tl (ten tx tl (tsk tx tl (ten tx tl (tsk tx tl e)))))))))), ⟨by simp [lineK, bd, nums, hn0, hn1, hn2, hn3, hk, show ¬ k = 11 by omega, rB, rT, show ¬ k = 8 by omega, show ¬ 10 ≤ rbn by omega], rdl4⟩, xr rfl (by rw [rT, rB, if_pos hk, if_neg (show ¬ k = 8 by omega)])⟩
                · skip
                  refine g_eq (ws' := [(m0, .inr (10, (.int (nI (nt)) :: .ref mt :: .int (nI (nb)) :: .ref mk :: .ref mb :: .int (nI (lw)) :: .int (nI (sl)) :: .int (nI (tl)) :: .ref mx :: .int (nI (ten tx tl (tsk tx tl (ten tx tl (tsk tx tl (ten tx tl (tsk tx tl (ten tx tl (tsk tx tl e))))))))) :: .int (nI (tsk tx tl (ten tx tl (tsk tx tl (ten tx tl (tsk tx tl (ten tx tl (tsk tx tl e)))))))) :: .long (tokV tx tl (tsk tx tl (ten tx tl (tsk tx tl (ten tx tl (tsk tx tl (ten tx tl (tsk tx tl e)))))))) :: .int (nI (digV tx tl (tsk tx tl (ten tx tl (tsk tx tl (ten tx tl (tsk tx tl (ten tx tl (tsk tx tl e))))))))) :: .int (nI (numV tx tl (tsk tx tl (ten tx tl (tsk tx tl (ten tx tl (tsk tx tl (ten tx tl (tsk tx tl e))))))))) :: .int (nI (tsk tx tl (ten tx tl (tsk tx tl (ten tx tl (tsk tx tl (ten tx tl (tsk tx tl e)))))))) :: .int (rm_) :: .int (nI (rtn)) :: .int (nI (rbn + 1)) :: .ref mr :: .ref mn :: .ref ma :: .ref mi :: .ref mj :: .int (nI (en)) :: .ref mg :: .int (nI (sn)) :: .ref ms :: .int (nI (dn)) :: .ref md :: .ref mc :: .ref me :: .int (ga) :: .ref mh :: .ref mo :: .ref mw :: []))), (mx, .inl (E.2.1.1, 200, .inl (nA (tx)))), (mr, .inl (E.2.1.1, 50, .inl (upd (upd (upd rd (wi + 1) (nI (nvl tx tl (tsk tx tl e)))) (wi + 2) (nI (nvl tx tl (tsk tx tl (ten tx tl (tsk tx tl e)))))) (wi + 3) (nI (nvl tx tl (tsk tx tl (ten tx tl (tsk tx tl (ten tx tl (tsk tx tl e))))))))))]) (st' := [.int (nI (0))]) ?_ rfl rfl rfl
                  refine g_if_eqN (t := 76) (q := 72) dX10_isBoyLine_69 (by decide) rfl (by omega) (fun c69 => ?_) (fun c69 => ?_)
                  · skip
                    refine g_iconst (v := nI 0) (q := 77) dX10_isBoyLine_76 rfl ki_0 ?_
                    refine g_iret (st := []) dX10_isBoyLine_77 rfl (narZ (by first | exact Or.inl rfl | exact Or.inr rfl)) rfl ?_
                    exact Or.inr ⟨(tsk tx tl (ten tx tl (tsk tx tl (ten tx tl (tsk tx tl (ten tx tl (tsk tx tl e)))))), (nI (ten tx tl (tsk tx tl (ten tx tl (tsk tx tl (ten tx tl (tsk tx tl (ten tx tl (tsk tx tl e)))))))), nI (tsk tx tl (ten tx tl (tsk tx tl (ten tx tl (tsk tx tl (ten tx tl (tsk tx tl e))))))), tokV tx tl (tsk tx tl (ten tx tl (tsk tx tl (ten tx tl (tsk tx tl (ten tx tl (tsk tx tl e))))))), nI (digV tx tl (tsk tx tl (ten tx tl (tsk tx tl (ten tx tl (tsk tx tl (ten tx tl (tsk tx tl e)))))))), nI (numV tx tl (tsk tx tl (ten tx tl (tsk tx tl (ten tx tl (tsk tx tl (ten tx tl (tsk tx tl e)))))))), nI (rbn + 1)), upd (upd (upd rd (wi + 1) (nI (nvl tx tl (tsk tx tl e)))) (wi + 2) (nI (nvl tx tl (tsk tx tl (ten tx tl (tsk tx tl e)))))) (wi + 3) (nI (nvl tx tl (tsk tx tl (ten tx tl (tsk tx tl (ten tx tl (tsk tx tl e)))))))), by simp [lineK, bd, nums, hn0, hn1, hn2, hn3, hk, show ¬ k = 11 by omega, rB, rT, show ¬ k = 8 by omega, show ¬ 10 ≤ rbn by omega], ⟨rfl, rfl⟩⟩
                  · omega
            · skip
              refine g_eq (ws' := [(m0, .inr (10, (.int (nI (nt)) :: .ref mt :: .int (nI (nb)) :: .ref mk :: .ref mb :: .int (nI (lw)) :: .int (nI (sl)) :: .int (nI (tl)) :: .ref mx :: .int (nI (ten tx tl (tsk tx tl (ten tx tl (tsk tx tl (ten tx tl (tsk tx tl e))))))) :: .int (nI (tsk tx tl (ten tx tl (tsk tx tl (ten tx tl (tsk tx tl e)))))) :: .long (tokV tx tl (tsk tx tl (ten tx tl (tsk tx tl (ten tx tl (tsk tx tl e)))))) :: .int (nI (digV tx tl (tsk tx tl (ten tx tl (tsk tx tl (ten tx tl (tsk tx tl e))))))) :: .int (nI (numV tx tl (tsk tx tl (ten tx tl (tsk tx tl (ten tx tl (tsk tx tl e))))))) :: .int (nI (tsk tx tl (ten tx tl (tsk tx tl (ten tx tl (tsk tx tl e)))))) :: .int (rm_) :: .int (nI (rtn)) :: .int (nI (rbn + 1)) :: .ref mr :: .ref mn :: .ref ma :: .ref mi :: .ref mj :: .int (nI (en)) :: .ref mg :: .int (nI (sn)) :: .ref ms :: .int (nI (dn)) :: .ref md :: .ref mc :: .ref me :: .int (ga) :: .ref mh :: .ref mo :: .ref mw :: []))), (mx, .inl (E.2.1.1, 200, .inl (nA (tx)))), (mr, .inl (E.2.1.1, 50, .inl (upd (upd rd (wi + 1) (nI (nvl tx tl (tsk tx tl e)))) (wi + 2) (nI (nvl tx tl (tsk tx tl (ten tx tl (tsk tx tl e))))))))]) (st' := [.int (nI (0))]) ?_ rfl rfl rfl
              refine g_if_eqN (t := 76) (q := 59) dX10_isBoyLine_56 (by decide) rfl (by omega) (fun c56 => ?_) (fun c56 => ?_)
              · skip
                refine g_iconst (v := nI 0) (q := 77) dX10_isBoyLine_76 rfl ki_0 ?_
                refine g_iret (st := []) dX10_isBoyLine_77 rfl (narZ (by first | exact Or.inl rfl | exact Or.inr rfl)) rfl ?_
                exact Or.inr ⟨(tsk tx tl (ten tx tl (tsk tx tl (ten tx tl (tsk tx tl e)))), (nI (ten tx tl (tsk tx tl (ten tx tl (tsk tx tl (ten tx tl (tsk tx tl e)))))), nI (tsk tx tl (ten tx tl (tsk tx tl (ten tx tl (tsk tx tl e))))), tokV tx tl (tsk tx tl (ten tx tl (tsk tx tl (ten tx tl (tsk tx tl e))))), nI (digV tx tl (tsk tx tl (ten tx tl (tsk tx tl (ten tx tl (tsk tx tl e)))))), nI (numV tx tl (tsk tx tl (ten tx tl (tsk tx tl (ten tx tl (tsk tx tl e)))))), nI (rbn + 1)), upd (upd rd (wi + 1) (nI (nvl tx tl (tsk tx tl e)))) (wi + 2) (nI (nvl tx tl (tsk tx tl (ten tx tl (tsk tx tl e)))))), by simp [lineK, bd, nums, hn0, hn1, hn2, hk, show ¬ k = 11 by omega, rB, rT, show ¬ k = 8 by omega, show ¬ 10 ≤ rbn by omega], ⟨rfl, rfl⟩⟩
              · omega
        · skip
          refine g_eq (ws' := [(m0, .inr (10, (.int (nI (nt)) :: .ref mt :: .int (nI (nb)) :: .ref mk :: .ref mb :: .int (nI (lw)) :: .int (nI (sl)) :: .int (nI (tl)) :: .ref mx :: .int (nI (ten tx tl (tsk tx tl (ten tx tl (tsk tx tl e))))) :: .int (nI (tsk tx tl (ten tx tl (tsk tx tl e)))) :: .long (tokV tx tl (tsk tx tl (ten tx tl (tsk tx tl e)))) :: .int (nI (digV tx tl (tsk tx tl (ten tx tl (tsk tx tl e))))) :: .int (nI (numV tx tl (tsk tx tl (ten tx tl (tsk tx tl e))))) :: .int (nI (tsk tx tl (ten tx tl (tsk tx tl e)))) :: .int (rm_) :: .int (nI (rtn)) :: .int (nI (rbn + 1)) :: .ref mr :: .ref mn :: .ref ma :: .ref mi :: .ref mj :: .int (nI (en)) :: .ref mg :: .int (nI (sn)) :: .ref ms :: .int (nI (dn)) :: .ref md :: .ref mc :: .ref me :: .int (ga) :: .ref mh :: .ref mo :: .ref mw :: []))), (mx, .inl (E.2.1.1, 200, .inl (nA (tx)))), (mr, .inl (E.2.1.1, 50, .inl (upd rd (wi + 1) (nI (nvl tx tl (tsk tx tl e))))))]) (st' := [.int (nI (0))]) ?_ rfl rfl rfl
          refine g_if_eqN (t := 76) (q := 47) dX10_isBoyLine_44 (by decide) rfl (by omega) (fun c44 => ?_) (fun c44 => ?_)
          · skip
            refine g_iconst (v := nI 0) (q := 77) dX10_isBoyLine_76 rfl ki_0 ?_
            refine g_iret (st := []) dX10_isBoyLine_77 rfl (narZ (by first | exact Or.inl rfl | exact Or.inr rfl)) rfl ?_
            exact Or.inr ⟨(tsk tx tl (ten tx tl (tsk tx tl e)), (nI (ten tx tl (tsk tx tl (ten tx tl (tsk tx tl e)))), nI (tsk tx tl (ten tx tl (tsk tx tl e))), tokV tx tl (tsk tx tl (ten tx tl (tsk tx tl e))), nI (digV tx tl (tsk tx tl (ten tx tl (tsk tx tl e)))), nI (numV tx tl (tsk tx tl (ten tx tl (tsk tx tl e)))), nI (rbn + 1)), upd rd (wi + 1) (nI (nvl tx tl (tsk tx tl e)))), by simp [lineK, bd, nums, hn0, hn1, hk, show ¬ k = 11 by omega, rB, rT, show ¬ k = 8 by omega, show ¬ 10 ≤ rbn by omega], ⟨rfl, rfl⟩⟩
          · omega
    · skip
      refine g_eq (ws' := [(m0, .inr (10, (.int (nI (nt)) :: .ref mt :: .int (nI (nb)) :: .ref mk :: .ref mb :: .int (nI (lw)) :: .int (nI (sl)) :: .int (nI (tl)) :: .ref mx :: .int (nI (ten tx tl (tsk tx tl e))) :: .int (nI (tsk tx tl e)) :: .long (tokV tx tl (tsk tx tl e)) :: .int (nI (digV tx tl (tsk tx tl e))) :: .int (nI (numV tx tl (tsk tx tl e))) :: .int (nI (tsk tx tl e)) :: .int (rm_) :: .int (nI (rtn)) :: .int (nI (rbn + 1)) :: .ref mr :: .ref mn :: .ref ma :: .ref mi :: .ref mj :: .int (nI (en)) :: .ref mg :: .int (nI (sn)) :: .ref ms :: .int (nI (dn)) :: .ref md :: .ref mc :: .ref me :: .int (ga) :: .ref mh :: .ref mo :: .ref mw :: []))), (mx, .inl (E.2.1.1, 200, .inl (nA (tx)))), (mr, .inl (E.2.1.1, 50, .inl (rd)))]) (st' := [.int (nI (0))]) ?_ rfl rfl rfl
      refine g_if_eqN (t := 76) (q := 34) dX10_isBoyLine_31 (by decide) rfl (by omega) (fun c31 => ?_) (fun c31 => ?_)
      · skip
        refine g_iconst (v := nI 0) (q := 77) dX10_isBoyLine_76 rfl ki_0 ?_
        refine g_iret (st := []) dX10_isBoyLine_77 rfl (narZ (by first | exact Or.inl rfl | exact Or.inr rfl)) rfl ?_
        exact Or.inr ⟨(tsk tx tl e, (nI (ten tx tl (tsk tx tl e)), nI (tsk tx tl e), tokV tx tl (tsk tx tl e), nI (digV tx tl (tsk tx tl e)), nI (numV tx tl (tsk tx tl e)), nI (rbn + 1)), rd), by simp [lineK, bd, nums, hn0, hk, show ¬ k = 11 by omega, rB, rT, show ¬ k = 8 by omega, show ¬ 10 ≤ rbn by omega], ⟨rfl, rfl⟩⟩
      · omega
  · skip
    refine g_aload_n (q := 10) dX10_isBoyLine_9 rfl rfl rfl ?_
    refine gc_X10_131 (c_fails) rfl (Nat.le_of_ble_eq_true rfl) rfl 0 rfl [0] rfl rfl (rest := []) rfl (Nat.le_of_ble_eq_true rfl) (q := 13) dX10_isBoyLine_10 rfl (exK (ws' := [(_, .inr (_, (_ :: _ :: _ :: _ :: _ :: _ :: _ :: _ :: _ :: _ :: _ :: _ :: _ :: _ :: _ :: _ :: _ :: _ :: _ :: _ :: _ :: _ :: _ :: _ :: _ :: _ :: _ :: _ :: _ :: _ :: _ :: _ :: _ :: _ :: _ :: []))), _, _]) (st' := [.int (nI (0))]) rfl rfl ?_)
    refine g_iret (st := []) dX10_isBoyLine_13 rfl (narZ (by first | exact Or.inl rfl | exact Or.inr rfl)) rfl ?_
    exact Or.inr ⟨(s, (nI (e), nI (s), tk, dg, nu, nI (rbn)), rd), by simp [lineK, bd, nums, hk, show ¬ k = 11 by omega, rB, rT, show ¬ k = 8 by omega, show 10 ≤ rbn by omega], ⟨rfl, rfl⟩⟩
