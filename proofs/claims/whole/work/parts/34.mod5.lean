set_option maxHeartbeats 2000000 in
set_option maxRecDepth 20000 in
theorem c_mlater {E : EN} {m0 mt mk mb mx mr mn ma mi mj mg ms md mc me mh mo mw nt nb lw sl tl en sn dn : Nat} {po ta dg nu fa rm_ rto rbo ga : Int32} {tk : Int64} {kd tw wt sk gr : Nat → Nat} {ch : Nat → Int32} {yr : Nat} {cr rt fd nx : Nat → Nat} {wn : Nat → Int32} {g : Nat → Option Nat} {as_ gh : Nat → Int32} {x y z : Int32} (hnb : nb ≤ 10) (hnt : nt ≤ 6) (hP : okL ((nb, nt, lw), kd, cr, rt, fd, nx)) (hY : okY (tw, wt, sk, gr, ch)) (hB : okB nb nt (tw, wt, sk, gr, ch))  : CT E yX10_later cX10_later 5 (some .int) 6 [.ref m0, .int (x), .int (y), .int (z)] [(m0, .inr (10, (.int (nI (nt)) :: .ref mt :: .int (nI (nb)) :: .ref mk :: .ref mb :: .int (nI (lw)) :: .int (nI (sl)) :: .int (nI (tl)) :: .ref mx :: .int (po) :: .int (ta) :: .long (tk) :: .int (dg) :: .int (nu) :: .int (fa) :: .int (rm_) :: .int (rto) :: .int (rbo) :: .ref mr :: .ref mn :: .ref ma :: .ref mi :: .ref mj :: .int (nI (en)) :: .ref mg :: .int (nI (sn)) :: .ref ms :: .int (nI (dn)) :: .ref md :: .ref mc :: .ref me :: .int (ga) :: .ref mh :: .ref mo :: .ref mw :: []))), (mk, .inl (E.2.1.1, 10, .inl (nA (kd)))), (mn, .inl (E.2.1.1, 47, .inl (nowF tw wt sk gr ch yr))), (ma, .inl (E.2.1.1, 47, .inl (as_))), (mt, .inl (E.2.1.1, 30, .inl (townF cr rt fd wn nx))), (mg, .inl (E.2.1.1, 10, .inl (oA (g)))), (mh, .inl (E.2.1.1, 10, .inl (gh)))] (fun r w => ∃ (as' : Nat → Int32) (ga' : Int32) (gh' : Nat → Int32), xQ (some (.int (opLater ((nb, nt, lw), kd, cr, rt, fd, nx) (tw, wt, sk, gr, ch) x y z))) [(m0, .inr (10, (.int (nI (nt)) :: .ref mt :: .int (nI (nb)) :: .ref mk :: .ref mb :: .int (nI (lw)) :: .int (nI (sl)) :: .int (nI (tl)) :: .ref mx :: .int (po) :: .int (ta) :: .long (tk) :: .int (dg) :: .int (nu) :: .int (fa) :: .int (rm_) :: .int (rto) :: .int (rbo) :: .ref mr :: .ref mn :: .ref ma :: .ref mi :: .ref mj :: .int (nI (en)) :: .ref mg :: .int (nI (sn)) :: .ref ms :: .int (nI (dn)) :: .ref md :: .ref mc :: .ref me :: .int (ga') :: .ref mh :: .ref mo :: .ref mw :: []))), (mk, .inl (E.2.1.1, 10, .inl (nA (kd)))), (mn, .inl (E.2.1.1, 47, .inl (nowF tw wt sk gr ch yr))), (ma, .inl (E.2.1.1, 47, .inl (as'))), (mt, .inl (E.2.1.1, 30, .inl (townF cr rt fd wn nx))), (mg, .inl (E.2.1.1, 10, .inl (oA (g)))), (mh, .inl (E.2.1.1, 10, .inl (gh')))] r w) := by
  refine ct_of (by decide +kernel) (Nat.le_of_ble_eq_true rfl) (lv := [(0, .ref m0), (1, .int (x)), (2, .int (y)), (3, .int (z))]) rfl (fun A => ?_)
  refine g_aload_n (q := 1) dX10_later_0 rfl rfl rfl ?_
  refine g_iload_n (q := 2) dX10_later_1 rfl rfl rfl ?_
  refine gc_X10_211 (c_misBoy (by omega)) rfl (Nat.le_of_ble_eq_true rfl) rfl 0 rfl [0] rfl rfl (rest := []) rfl (Nat.le_of_ble_eq_true rfl) (q := 5) dX10_later_2 rfl (exK (ws' := [_, _, _, _, _, _, _]) (st' := [.int (bI (tn x nb).isSome)]) rfl rfl ?_)
  refine g_if_ne (t := 11) (q := 8) dX10_later_5 (by decide) rfl (fun c5 => ?_) (fun c5 => ?_)
  · obtain ⟨b, hb⟩ := isSome_t (bI_ne0.mp c5)
    obtain ⟨hb1, rfl⟩ := tn_some hb
    refine g_iload_n (q := 12) dX10_later_11 rfl rfl rfl ?_
    refine gc_X10_260 (c_isTime) rfl (Nat.le_of_ble_eq_true rfl) rfl [] rfl rfl (rest := []) rfl (Nat.le_of_ble_eq_true rfl) (q := 15) dX10_later_12 rfl (exK (ws' := [_, _, _, _, _, _, _]) (st' := [.int (bI (rn y 0 99).isSome)]) rfl rfl ?_)
    refine g_if_eq (t := 27) (q := 18) dX10_later_15 (by decide) rfl (fun c15 => ?_) (fun c15 => ?_)
    · have nn := isSome_f (bI_eq0.mp c15)
      refine g_bipush (v := (-3)) (q := 29) dX10_later_27 rfl kb_m3 ?_
      refine g_iret (st := []) dX10_later_29 rfl rfl rfl ?_
      exact ⟨(as_), (ga), (gh), xr (by simp [opLater, hb, nn])⟩
    · obtain ⟨n, hn⟩ := isSome_t (bI_ne0.mp c15)
      obtain ⟨hn1, hn2, rfl⟩ := rn_some hn
      refine g_iload_n (q := 19) dX10_later_18 rfl rfl rfl ?_
      refine g_iconst (v := nI 0) (q := 20) dX10_later_19 rfl ki_0 ?_
      refine g_iconst (v := nI 3) (q := 21) dX10_later_20 rfl ki_3 ?_
      refine gc_X10_73 (c_in) rfl (Nat.le_of_ble_eq_true rfl) rfl [] rfl rfl (rest := []) rfl (Nat.le_of_ble_eq_true rfl) (q := 24) dX10_later_21 rfl (exK (ws' := [_, _, _, _, _, _, _]) (st' := [.int (bI (!ninB z (nI 0) (nI 3)))]) rfl rfl ?_)
      refine g_top (y := bI (rn z 0 3).isSome) (by rw [ninB_rn (by decide) (by decide), not_isNone]) ?_
      refine g_if_ne (t := 30) (q := 27) dX10_later_24 (by decide) rfl (fun c24 => ?_) (fun c24 => ?_)
      · obtain ⟨k, hk⟩ := isSome_t (bI_ne0.mp c24)
        obtain ⟨hk1, hk2, rfl⟩ := rn_some hk
        rcases (show k = 0 ∨ k = 1 ∨ k = 2 ∨ k = 3 by omega) with rfl | rfl | rfl | rfl
        · skip
          refine g_aload_n (q := 31) dX10_later_30 rfl rfl rfl ?_
          refine g_iload_n (q := 32) dX10_later_31 rfl rfl rfl ?_
          refine gc_X10_263 (c_goAside (by omega) hP hY hB) rfl (Nat.le_of_ble_eq_true rfl) rfl 0 rfl [0, 1, 2, 3, 4, 5, 6] rfl rfl (rest := []) rfl (Nat.le_of_ble_eq_true rfl) (q := 35) dX10_later_32 rfl (exKM (ws' := [(_, .inr (_, (_ :: _ :: _ :: _ :: _ :: _ :: _ :: _ :: _ :: _ :: _ :: _ :: _ :: _ :: _ :: _ :: _ :: _ :: _ :: _ :: _ :: _ :: _ :: _ :: _ :: _ :: _ :: _ :: _ :: _ :: _ :: _ :: _ :: _ :: _ :: []))), (_, .inl (_, _, .inl _)), (_, .inl (_, _, .inl _)), (_, .inl (_, _, .inl _)), (_, .inl (_, _, .inl _)), (_, .inl (_, _, .inl _)), (_, .inl (_, _, .inl _))]) (st' := []) rfl rfl rfl ?_)
          refine g_aload_n (q := 36) dX10_later_35 rfl rfl rfl ?_
          refine gf_X10_29 rfl 0 rfl rfl (q := 39) dX10_later_36 rfl ?_
          refine g_bipush (v := nI 10) (q := 41) dX10_later_39 rfl kb_10 ?_
          refine g_iload_n (q := 42) dX10_later_41 rfl rfl rfl ?_
          refine g_imulN (q := 43) dX10_later_42 rfl ?_
          refine g_iload_n (q := 44) dX10_later_43 rfl rfl rfl ?_
          refine g_iaddN (q := 45) dX10_later_44 rfl ?_
          refine g_top (y := nI (b)) (by simp) ?_
          refine g_iald (v := nI (((years ((nb, nt, lw), kd, cr, rt, fd, nx) n (tw, wt, sk, gr, ch)).1) b)) 2 rfl (ixIn (j := b) rfl (by omega) (by decide)) ((ixV (j := b) rfl (by omega)).trans (nowF_t (by omega))) (q := 46) dX10_later_45 rfl ?_
          refine g_istore (lv' := [(0, _), (1, _), (2, _), (3, _), (4, _)]) (q := 48) dX10_later_46 rfl (Nat.le_of_ble_eq_true rfl) rfl ?_
          refine g_aload_n (q := 49) dX10_later_48 rfl rfl rfl ?_
          refine gc_X10_266 (c_putBack) rfl (Nat.le_of_ble_eq_true rfl) rfl 0 rfl [0, 2, 3, 5, 6] rfl rfl (rest := []) rfl (Nat.le_of_ble_eq_true rfl) (q := 52) dX10_later_49 rfl (exK (ws' := [(_, .inr (_, (_ :: _ :: _ :: _ :: _ :: _ :: _ :: _ :: _ :: _ :: _ :: _ :: _ :: _ :: _ :: _ :: _ :: _ :: _ :: _ :: _ :: _ :: _ :: _ :: _ :: _ :: _ :: _ :: _ :: _ :: _ :: _ :: _ :: _ :: _ :: []))), _, (_, .inl (_, _, .inl _)), (_, .inl (_, _, .inl _)), _, (_, .inl (_, _, .inl _)), (_, .inl (_, _, .inl _))]) (st' := []) rfl rfl ?_)
          refine g_iload (q := 54) dX10_later_52 rfl rfl ?_
          refine g_iret (st := []) dX10_later_54 rfl rfl rfl ?_
          exact ⟨(nowF tw wt sk gr ch yr), (nI en), (oA g), xr (by simp [opLater, hb, hn, hk])⟩
        · skip
          refine g_aload_n (q := 31) dX10_later_30 rfl rfl rfl ?_
          refine g_iload_n (q := 32) dX10_later_31 rfl rfl rfl ?_
          refine gc_X10_263 (c_goAside (by omega) hP hY hB) rfl (Nat.le_of_ble_eq_true rfl) rfl 0 rfl [0, 1, 2, 3, 4, 5, 6] rfl rfl (rest := []) rfl (Nat.le_of_ble_eq_true rfl) (q := 35) dX10_later_32 rfl (exKM (ws' := [(_, .inr (_, (_ :: _ :: _ :: _ :: _ :: _ :: _ :: _ :: _ :: _ :: _ :: _ :: _ :: _ :: _ :: _ :: _ :: _ :: _ :: _ :: _ :: _ :: _ :: _ :: _ :: _ :: _ :: _ :: _ :: _ :: _ :: _ :: _ :: _ :: _ :: []))), (_, .inl (_, _, .inl _)), (_, .inl (_, _, .inl _)), (_, .inl (_, _, .inl _)), (_, .inl (_, _, .inl _)), (_, .inl (_, _, .inl _)), (_, .inl (_, _, .inl _))]) (st' := []) rfl rfl rfl ?_)
          refine g_aload_n (q := 36) dX10_later_35 rfl rfl rfl ?_
          refine gf_X10_29 rfl 0 rfl rfl (q := 39) dX10_later_36 rfl ?_
          refine g_bipush (v := nI 10) (q := 41) dX10_later_39 rfl kb_10 ?_
          refine g_iload_n (q := 42) dX10_later_41 rfl rfl rfl ?_
          refine g_imulN (q := 43) dX10_later_42 rfl ?_
          refine g_iload_n (q := 44) dX10_later_43 rfl rfl rfl ?_
          refine g_iaddN (q := 45) dX10_later_44 rfl ?_
          refine g_iald (v := nI (((years ((nb, nt, lw), kd, cr, rt, fd, nx) n (tw, wt, sk, gr, ch)).2.1) b)) 2 rfl (ixIn (j := 10 + b) rfl (by omega) (by decide)) ((ixV (j := 10 + b) rfl (by omega)).trans (nowF_w (by omega))) (q := 46) dX10_later_45 rfl ?_
          refine g_istore (lv' := [(0, _), (1, _), (2, _), (3, _), (4, _)]) (q := 48) dX10_later_46 rfl (Nat.le_of_ble_eq_true rfl) rfl ?_
          refine g_aload_n (q := 49) dX10_later_48 rfl rfl rfl ?_
          refine gc_X10_266 (c_putBack) rfl (Nat.le_of_ble_eq_true rfl) rfl 0 rfl [0, 2, 3, 5, 6] rfl rfl (rest := []) rfl (Nat.le_of_ble_eq_true rfl) (q := 52) dX10_later_49 rfl (exK (ws' := [(_, .inr (_, (_ :: _ :: _ :: _ :: _ :: _ :: _ :: _ :: _ :: _ :: _ :: _ :: _ :: _ :: _ :: _ :: _ :: _ :: _ :: _ :: _ :: _ :: _ :: _ :: _ :: _ :: _ :: _ :: _ :: _ :: _ :: _ :: _ :: _ :: _ :: []))), _, (_, .inl (_, _, .inl _)), (_, .inl (_, _, .inl _)), _, (_, .inl (_, _, .inl _)), (_, .inl (_, _, .inl _))]) (st' := []) rfl rfl ?_)
          refine g_iload (q := 54) dX10_later_52 rfl rfl ?_
          refine g_iret (st := []) dX10_later_54 rfl rfl rfl ?_
          exact ⟨(nowF tw wt sk gr ch yr), (nI en), (oA g), xr (by simp [opLater, hb, hn, hk])⟩
        · skip
          refine g_aload_n (q := 31) dX10_later_30 rfl rfl rfl ?_
          refine g_iload_n (q := 32) dX10_later_31 rfl rfl rfl ?_
          refine gc_X10_263 (c_goAside (by omega) hP hY hB) rfl (Nat.le_of_ble_eq_true rfl) rfl 0 rfl [0, 1, 2, 3, 4, 5, 6] rfl rfl (rest := []) rfl (Nat.le_of_ble_eq_true rfl) (q := 35) dX10_later_32 rfl (exKM (ws' := [(_, .inr (_, (_ :: _ :: _ :: _ :: _ :: _ :: _ :: _ :: _ :: _ :: _ :: _ :: _ :: _ :: _ :: _ :: _ :: _ :: _ :: _ :: _ :: _ :: _ :: _ :: _ :: _ :: _ :: _ :: _ :: _ :: _ :: _ :: _ :: _ :: _ :: []))), (_, .inl (_, _, .inl _)), (_, .inl (_, _, .inl _)), (_, .inl (_, _, .inl _)), (_, .inl (_, _, .inl _)), (_, .inl (_, _, .inl _)), (_, .inl (_, _, .inl _))]) (st' := []) rfl rfl rfl ?_)
          refine g_aload_n (q := 36) dX10_later_35 rfl rfl rfl ?_
          refine gf_X10_29 rfl 0 rfl rfl (q := 39) dX10_later_36 rfl ?_
          refine g_bipush (v := nI 10) (q := 41) dX10_later_39 rfl kb_10 ?_
          refine g_iload_n (q := 42) dX10_later_41 rfl rfl rfl ?_
          refine g_imulN (q := 43) dX10_later_42 rfl ?_
          refine g_iload_n (q := 44) dX10_later_43 rfl rfl rfl ?_
          refine g_iaddN (q := 45) dX10_later_44 rfl ?_
          refine g_iald (v := nI (((years ((nb, nt, lw), kd, cr, rt, fd, nx) n (tw, wt, sk, gr, ch)).2.2.1) b)) 2 rfl (ixIn (j := 20 + b) rfl (by omega) (by decide)) ((ixV (j := 20 + b) rfl (by omega)).trans (nowF_s (by omega))) (q := 46) dX10_later_45 rfl ?_
          refine g_istore (lv' := [(0, _), (1, _), (2, _), (3, _), (4, _)]) (q := 48) dX10_later_46 rfl (Nat.le_of_ble_eq_true rfl) rfl ?_
          refine g_aload_n (q := 49) dX10_later_48 rfl rfl rfl ?_
          refine gc_X10_266 (c_putBack) rfl (Nat.le_of_ble_eq_true rfl) rfl 0 rfl [0, 2, 3, 5, 6] rfl rfl (rest := []) rfl (Nat.le_of_ble_eq_true rfl) (q := 52) dX10_later_49 rfl (exK (ws' := [(_, .inr (_, (_ :: _ :: _ :: _ :: _ :: _ :: _ :: _ :: _ :: _ :: _ :: _ :: _ :: _ :: _ :: _ :: _ :: _ :: _ :: _ :: _ :: _ :: _ :: _ :: _ :: _ :: _ :: _ :: _ :: _ :: _ :: _ :: _ :: _ :: _ :: []))), _, (_, .inl (_, _, .inl _)), (_, .inl (_, _, .inl _)), _, (_, .inl (_, _, .inl _)), (_, .inl (_, _, .inl _))]) (st' := []) rfl rfl ?_)
          refine g_iload (q := 54) dX10_later_52 rfl rfl ?_
          refine g_iret (st := []) dX10_later_54 rfl rfl rfl ?_
          exact ⟨(nowF tw wt sk gr ch yr), (nI en), (oA g), xr (by simp [opLater, hb, hn, hk])⟩
        · skip
          refine g_aload_n (q := 31) dX10_later_30 rfl rfl rfl ?_
          refine g_iload_n (q := 32) dX10_later_31 rfl rfl rfl ?_
          refine gc_X10_263 (c_goAside (by omega) hP hY hB) rfl (Nat.le_of_ble_eq_true rfl) rfl 0 rfl [0, 1, 2, 3, 4, 5, 6] rfl rfl (rest := []) rfl (Nat.le_of_ble_eq_true rfl) (q := 35) dX10_later_32 rfl (exKM (ws' := [(_, .inr (_, (_ :: _ :: _ :: _ :: _ :: _ :: _ :: _ :: _ :: _ :: _ :: _ :: _ :: _ :: _ :: _ :: _ :: _ :: _ :: _ :: _ :: _ :: _ :: _ :: _ :: _ :: _ :: _ :: _ :: _ :: _ :: _ :: _ :: _ :: _ :: []))), (_, .inl (_, _, .inl _)), (_, .inl (_, _, .inl _)), (_, .inl (_, _, .inl _)), (_, .inl (_, _, .inl _)), (_, .inl (_, _, .inl _)), (_, .inl (_, _, .inl _))]) (st' := []) rfl rfl rfl ?_)
          refine g_aload_n (q := 36) dX10_later_35 rfl rfl rfl ?_
          refine gf_X10_29 rfl 0 rfl rfl (q := 39) dX10_later_36 rfl ?_
          refine g_bipush (v := nI 10) (q := 41) dX10_later_39 rfl kb_10 ?_
          refine g_iload_n (q := 42) dX10_later_41 rfl rfl rfl ?_
          refine g_imulN (q := 43) dX10_later_42 rfl ?_
          refine g_iload_n (q := 44) dX10_later_43 rfl rfl rfl ?_
          refine g_iaddN (q := 45) dX10_later_44 rfl ?_
          refine g_iald (v := nI (((years ((nb, nt, lw), kd, cr, rt, fd, nx) n (tw, wt, sk, gr, ch)).2.2.2.1) b)) 2 rfl (ixIn (j := 30 + b) rfl (by omega) (by decide)) ((ixV (j := 30 + b) rfl (by omega)).trans (nowF_g (by omega))) (q := 46) dX10_later_45 rfl ?_
          refine g_istore (lv' := [(0, _), (1, _), (2, _), (3, _), (4, _)]) (q := 48) dX10_later_46 rfl (Nat.le_of_ble_eq_true rfl) rfl ?_
          refine g_aload_n (q := 49) dX10_later_48 rfl rfl rfl ?_
          refine gc_X10_266 (c_putBack) rfl (Nat.le_of_ble_eq_true rfl) rfl 0 rfl [0, 2, 3, 5, 6] rfl rfl (rest := []) rfl (Nat.le_of_ble_eq_true rfl) (q := 52) dX10_later_49 rfl (exK (ws' := [(_, .inr (_, (_ :: _ :: _ :: _ :: _ :: _ :: _ :: _ :: _ :: _ :: _ :: _ :: _ :: _ :: _ :: _ :: _ :: _ :: _ :: _ :: _ :: _ :: _ :: _ :: _ :: _ :: _ :: _ :: _ :: _ :: _ :: _ :: _ :: _ :: _ :: []))), _, (_, .inl (_, _, .inl _)), (_, .inl (_, _, .inl _)), _, (_, .inl (_, _, .inl _)), (_, .inl (_, _, .inl _))]) (st' := []) rfl rfl ?_)
          refine g_iload (q := 54) dX10_later_52 rfl rfl ?_
          refine g_iret (st := []) dX10_later_54 rfl rfl rfl ?_
          exact ⟨(nowF tw wt sk gr ch yr), (nI en), (oA g), xr (by simp [opLater, hb, hn, hk])⟩
      · have nk := isSome_f (bI_eq0.mp c24)
        refine g_bipush (v := (-3)) (q := 29) dX10_later_27 rfl kb_m3 ?_
        refine g_iret (st := []) dX10_later_29 rfl rfl rfl ?_
        exact ⟨(as_), (ga), (gh), xr (by simp [opLater, hb, hn, nk])⟩
  · have nb := isSome_f (bI_eq0.mp c5)
    refine g_bipush (v := (-2)) (q := 10) dX10_later_8 rfl kb_m2 ?_
    refine g_iret (st := []) dX10_later_10 rfl rfl rfl ?_
    exact ⟨(as_), (ga), (gh), xr (by simp [opLater, nb])⟩
set_option maxHeartbeats 2000000 in
set_option maxRecDepth 20000 in
theorem c_mowed {E : EN} {m0 mt mk mb mx mr mn ma mi mj mg ms md mc me mh mo mw nt nb lw sl tl en sn dn : Nat} {po ta dg nu fa rm_ rto rbo ga : Int32} {tk : Int64} {kd tw wt sk gr : Nat → Nat} {ch : Nat → Int32} {yr : Nat} {cr rt fd nx : Nat → Nat} {wn : Nat → Int32} {g : Nat → Option Nat} {as_ gh : Nat → Int32} {x y : Int32} (hnb : nb ≤ 10) (hnt : nt ≤ 6) (hP : okL ((nb, nt, lw), kd, cr, rt, fd, nx)) (hY : okY (tw, wt, sk, gr, ch)) (hB : okB nb nt (tw, wt, sk, gr, ch))  : CT E yX10_owed cX10_owed 4 (some .int) 6 [.ref m0, .int (x), .int (y)] [(m0, .inr (10, (.int (nI (nt)) :: .ref mt :: .int (nI (nb)) :: .ref mk :: .ref mb :: .int (nI (lw)) :: .int (nI (sl)) :: .int (nI (tl)) :: .ref mx :: .int (po) :: .int (ta) :: .long (tk) :: .int (dg) :: .int (nu) :: .int (fa) :: .int (rm_) :: .int (rto) :: .int (rbo) :: .ref mr :: .ref mn :: .ref ma :: .ref mi :: .ref mj :: .int (nI (en)) :: .ref mg :: .int (nI (sn)) :: .ref ms :: .int (nI (dn)) :: .ref md :: .ref mc :: .ref me :: .int (ga) :: .ref mh :: .ref mo :: .ref mw :: []))), (mk, .inl (E.2.1.1, 10, .inl (nA (kd)))), (mn, .inl (E.2.1.1, 47, .inl (nowF tw wt sk gr ch yr))), (ma, .inl (E.2.1.1, 47, .inl (as_))), (mt, .inl (E.2.1.1, 30, .inl (townF cr rt fd wn nx))), (mg, .inl (E.2.1.1, 10, .inl (oA (g)))), (mh, .inl (E.2.1.1, 10, .inl (gh)))] (fun r w => ∃ (as' : Nat → Int32) (ga' : Int32) (gh' : Nat → Int32), xQ (some (.int (opOwed ((nb, nt, lw), kd, cr, rt, fd, nx) (tw, wt, sk, gr, ch) x y))) [(m0, .inr (10, (.int (nI (nt)) :: .ref mt :: .int (nI (nb)) :: .ref mk :: .ref mb :: .int (nI (lw)) :: .int (nI (sl)) :: .int (nI (tl)) :: .ref mx :: .int (po) :: .int (ta) :: .long (tk) :: .int (dg) :: .int (nu) :: .int (fa) :: .int (rm_) :: .int (rto) :: .int (rbo) :: .ref mr :: .ref mn :: .ref ma :: .ref mi :: .ref mj :: .int (nI (en)) :: .ref mg :: .int (nI (sn)) :: .ref ms :: .int (nI (dn)) :: .ref md :: .ref mc :: .ref me :: .int (ga') :: .ref mh :: .ref mo :: .ref mw :: []))), (mk, .inl (E.2.1.1, 10, .inl (nA (kd)))), (mn, .inl (E.2.1.1, 47, .inl (nowF tw wt sk gr ch yr))), (ma, .inl (E.2.1.1, 47, .inl (as'))), (mt, .inl (E.2.1.1, 30, .inl (townF cr rt fd wn nx))), (mg, .inl (E.2.1.1, 10, .inl (oA (g)))), (mh, .inl (E.2.1.1, 10, .inl (gh')))] r w) := by
  refine ct_of (by decide +kernel) (Nat.le_of_ble_eq_true rfl) (lv := [(0, .ref m0), (1, .int (x)), (2, .int (y))]) rfl (fun A => ?_)
  refine g_aload_n (q := 1) dX10_owed_0 rfl rfl rfl ?_
  refine g_iload_n (q := 2) dX10_owed_1 rfl rfl rfl ?_
  refine gc_X10_203 (c_misTown (by omega)) rfl (Nat.le_of_ble_eq_true rfl) rfl 0 rfl [0] rfl rfl (rest := []) rfl (Nat.le_of_ble_eq_true rfl) (q := 5) dX10_owed_2 rfl (exK (ws' := [_, _, _, _, _, _, _]) (st' := [.int (bI (tn x nt).isSome)]) rfl rfl ?_)
  refine g_if_ne (t := 11) (q := 8) dX10_owed_5 (by decide) rfl (fun c5 => ?_) (fun c5 => ?_)
  · obtain ⟨t, ht⟩ := isSome_t (bI_ne0.mp c5)
    obtain ⟨ht1, rfl⟩ := tn_some ht
    refine g_iload_n (q := 12) dX10_owed_11 rfl rfl rfl ?_
    refine gc_X10_260 (c_isTime) rfl (Nat.le_of_ble_eq_true rfl) rfl [] rfl rfl (rest := []) rfl (Nat.le_of_ble_eq_true rfl) (q := 15) dX10_owed_12 rfl (exK (ws' := [_, _, _, _, _, _, _]) (st' := [.int (bI (rn y 0 99).isSome)]) rfl rfl ?_)
    refine g_if_ne (t := 21) (q := 18) dX10_owed_15 (by decide) rfl (fun c15 => ?_) (fun c15 => ?_)
    · obtain ⟨n, hn⟩ := isSome_t (bI_ne0.mp c15)
      obtain ⟨hn1, hn2, rfl⟩ := rn_some hn
      refine g_aload_n (q := 22) dX10_owed_21 rfl rfl rfl ?_
      refine g_iload_n (q := 23) dX10_owed_22 rfl rfl rfl ?_
      refine gc_X10_263 (c_goAside (by omega) hP hY hB) rfl (Nat.le_of_ble_eq_true rfl) rfl 0 rfl [0, 1, 2, 3, 4, 5, 6] rfl rfl (rest := []) rfl (Nat.le_of_ble_eq_true rfl) (q := 26) dX10_owed_23 rfl (exKM (ws' := [(_, .inr (_, (_ :: _ :: _ :: _ :: _ :: _ :: _ :: _ :: _ :: _ :: _ :: _ :: _ :: _ :: _ :: _ :: _ :: _ :: _ :: _ :: _ :: _ :: _ :: _ :: _ :: _ :: _ :: _ :: _ :: _ :: _ :: _ :: _ :: _ :: _ :: []))), (_, .inl (_, _, .inl _)), (_, .inl (_, _, .inl _)), (_, .inl (_, _, .inl _)), (_, .inl (_, _, .inl _)), (_, .inl (_, _, .inl _)), (_, .inl (_, _, .inl _))]) (st' := []) rfl rfl rfl ?_)
      refine g_aload_n (q := 27) dX10_owed_26 rfl rfl rfl ?_
      refine gf_X10_29 rfl 0 rfl rfl (q := 30) dX10_owed_27 rfl ?_
      refine g_bipush (v := nI 40) (q := 32) dX10_owed_30 rfl kb_40 ?_
      refine g_iload_n (q := 33) dX10_owed_32 rfl rfl rfl ?_
      refine g_iaddN (q := 34) dX10_owed_33 rfl ?_
      refine g_iald (v := ((years ((nb, nt, lw), kd, cr, rt, fd, nx) n (tw, wt, sk, gr, ch)).2.2.2.2) t) 2 rfl (ixIn (j := 40 + t) rfl (by omega) (by decide)) ((ixV (j := 40 + t) rfl (by omega)).trans (nowF_c (by omega))) (q := 35) dX10_owed_34 rfl ?_
      refine g_ldc (v := nI 10000000) rfl mkX10_206 (q := 37) dX10_owed_35 rfl ?_
      refine g_iadd (q := 38) dX10_owed_37 rfl ?_
      refine g_istore_n (lv' := [(0, _), (1, _), (2, _), (3, _)]) (q := 39) dX10_owed_38 rfl rfl (Nat.le_of_ble_eq_true rfl) rfl ?_
      refine g_aload_n (q := 40) dX10_owed_39 rfl rfl rfl ?_
      refine gc_X10_266 (c_putBack) rfl (Nat.le_of_ble_eq_true rfl) rfl 0 rfl [0, 2, 3, 5, 6] rfl rfl (rest := []) rfl (Nat.le_of_ble_eq_true rfl) (q := 43) dX10_owed_40 rfl (exK (ws' := [(_, .inr (_, (_ :: _ :: _ :: _ :: _ :: _ :: _ :: _ :: _ :: _ :: _ :: _ :: _ :: _ :: _ :: _ :: _ :: _ :: _ :: _ :: _ :: _ :: _ :: _ :: _ :: _ :: _ :: _ :: _ :: _ :: _ :: _ :: _ :: _ :: _ :: []))), _, (_, .inl (_, _, .inl _)), (_, .inl (_, _, .inl _)), _, (_, .inl (_, _, .inl _)), (_, .inl (_, _, .inl _))]) (st' := []) rfl rfl ?_)
      refine g_iload_n (q := 44) dX10_owed_43 rfl rfl rfl ?_
      refine g_iret (st := []) dX10_owed_44 rfl rfl rfl ?_
      exact ⟨(nowF tw wt sk gr ch yr), (nI en), (oA g), xr (by simp [opOwed, ht, hn, Int32.add_comm])⟩
    · have nn := isSome_f (bI_eq0.mp c15)
      refine g_bipush (v := (-3)) (q := 20) dX10_owed_18 rfl kb_m3 ?_
      refine g_iret (st := []) dX10_owed_20 rfl rfl rfl ?_
      exact ⟨(as_), (ga), (gh), xr (by simp [opOwed, ht, nn, Int32.add_comm])⟩
  · have nt := isSome_f (bI_eq0.mp c5)
    refine g_bipush (v := (-2)) (q := 10) dX10_owed_8 rfl kb_m2 ?_
    refine g_iret (st := []) dX10_owed_10 rfl rfl rfl ?_
    exact ⟨(as_), (ga), (gh), xr (by simp [opOwed, nt, Int32.add_comm])⟩
set_option maxHeartbeats 2000000 in
set_option maxRecDepth 20000 in
theorem c_mwithout {E : EN} {m0 mt mk mb mx mr mn ma mi mj mg ms md mc me mh mo mw nt nb lw sl tl en sn dn : Nat} {po ta dg nu fa rm_ rto rbo ga : Int32} {tk : Int64} {kd tw wt sk gr : Nat → Nat} {ch : Nat → Int32} {yr : Nat} {cr rt fd nx : Nat → Nat} {wn : Nat → Int32} {g : Nat → Option Nat} {as_ gh : Nat → Int32} {y : Int32} (hnb : nb ≤ 10) (hnt : nt ≤ 6) (hP : okL ((nb, nt, lw), kd, cr, rt, fd, nx)) (hY : okY (tw, wt, sk, gr, ch)) (hB : okB nb nt (tw, wt, sk, gr, ch))  : CT E yX10_without cX10_without 4 (some .int) 6 [.ref m0, .int (y)] [(m0, .inr (10, (.int (nI (nt)) :: .ref mt :: .int (nI (nb)) :: .ref mk :: .ref mb :: .int (nI (lw)) :: .int (nI (sl)) :: .int (nI (tl)) :: .ref mx :: .int (po) :: .int (ta) :: .long (tk) :: .int (dg) :: .int (nu) :: .int (fa) :: .int (rm_) :: .int (rto) :: .int (rbo) :: .ref mr :: .ref mn :: .ref ma :: .ref mi :: .ref mj :: .int (nI (en)) :: .ref mg :: .int (nI (sn)) :: .ref ms :: .int (nI (dn)) :: .ref md :: .ref mc :: .ref me :: .int (ga) :: .ref mh :: .ref mo :: .ref mw :: []))), (mk, .inl (E.2.1.1, 10, .inl (nA (kd)))), (mn, .inl (E.2.1.1, 47, .inl (nowF tw wt sk gr ch yr))), (ma, .inl (E.2.1.1, 47, .inl (as_))), (mt, .inl (E.2.1.1, 30, .inl (townF cr rt fd wn nx))), (mg, .inl (E.2.1.1, 10, .inl (oA (g)))), (mh, .inl (E.2.1.1, 10, .inl (gh)))] (fun r w => ∃ (as' : Nat → Int32) (ga' : Int32) (gh' : Nat → Int32), xQ (some (.int (opWithout ((nb, nt, lw), kd, cr, rt, fd, nx) (tw, wt, sk, gr, ch) y))) [(m0, .inr (10, (.int (nI (nt)) :: .ref mt :: .int (nI (nb)) :: .ref mk :: .ref mb :: .int (nI (lw)) :: .int (nI (sl)) :: .int (nI (tl)) :: .ref mx :: .int (po) :: .int (ta) :: .long (tk) :: .int (dg) :: .int (nu) :: .int (fa) :: .int (rm_) :: .int (rto) :: .int (rbo) :: .ref mr :: .ref mn :: .ref ma :: .ref mi :: .ref mj :: .int (nI (en)) :: .ref mg :: .int (nI (sn)) :: .ref ms :: .int (nI (dn)) :: .ref md :: .ref mc :: .ref me :: .int (ga') :: .ref mh :: .ref mo :: .ref mw :: []))), (mk, .inl (E.2.1.1, 10, .inl (nA (kd)))), (mn, .inl (E.2.1.1, 47, .inl (nowF tw wt sk gr ch yr))), (ma, .inl (E.2.1.1, 47, .inl (as'))), (mt, .inl (E.2.1.1, 30, .inl (townF cr rt fd wn nx))), (mg, .inl (E.2.1.1, 10, .inl (oA (g)))), (mh, .inl (E.2.1.1, 10, .inl (gh')))] r w) := by
  refine ct_of (by decide +kernel) (Nat.le_of_ble_eq_true rfl) (lv := [(0, .ref m0), (1, .int (y))]) rfl (fun A => ?_)
  refine g_iload_n (q := 1) dX10_without_0 rfl rfl rfl ?_
  refine gc_X10_260 (c_isTime) rfl (Nat.le_of_ble_eq_true rfl) rfl [] rfl rfl (rest := []) rfl (Nat.le_of_ble_eq_true rfl) (q := 4) dX10_without_1 rfl (exK (ws' := [_, _, _, _, _, _, _]) (st' := [.int (bI (rn y 0 99).isSome)]) rfl rfl ?_)
  refine g_if_ne (t := 10) (q := 7) dX10_without_4 (by decide) rfl (fun c4 => ?_) (fun c4 => ?_)
  · obtain ⟨n, hn⟩ := isSome_t (bI_ne0.mp c4)
    obtain ⟨hn1, hn2, rfl⟩ := rn_some hn
    refine g_aload_n (q := 11) dX10_without_10 rfl rfl rfl ?_
    refine g_iload_n (q := 12) dX10_without_11 rfl rfl rfl ?_
    refine gc_X10_263 (c_goAside (by omega) hP hY hB) rfl (Nat.le_of_ble_eq_true rfl) rfl 0 rfl [0, 1, 2, 3, 4, 5, 6] rfl rfl (rest := []) rfl (Nat.le_of_ble_eq_true rfl) (q := 15) dX10_without_12 rfl (exKM (ws' := [(_, .inr (_, (_ :: _ :: _ :: _ :: _ :: _ :: _ :: _ :: _ :: _ :: _ :: _ :: _ :: _ :: _ :: _ :: _ :: _ :: _ :: _ :: _ :: _ :: _ :: _ :: _ :: _ :: _ :: _ :: _ :: _ :: _ :: _ :: _ :: _ :: _ :: []))), (_, .inl (_, _, .inl _)), (_, .inl (_, _, .inl _)), (_, .inl (_, _, .inl _)), (_, .inl (_, _, .inl _)), (_, .inl (_, _, .inl _)), (_, .inl (_, _, .inl _))]) (st' := []) rfl rfl rfl ?_)
    refine g_iconst (v := nI 1) (q := 16) dX10_without_15 rfl ki_1 ?_
    refine g_aload_n (q := 17) dX10_without_16 rfl rfl rfl ?_
    refine gf_X10_7 rfl 0 rfl rfl (q := 20) dX10_without_17 rfl ?_
    refine g_ishl (q := 21) dX10_without_20 rfl ?_
    refine g_iconst (v := nI 1) (q := 22) dX10_without_21 rfl ki_1 ?_
    refine g_isub (q := 23) dX10_without_22 rfl ?_
    refine g_istore_n (lv' := [(0, _), (1, _), (2, _)]) (q := 24) dX10_without_23 rfl rfl (Nat.le_of_ble_eq_true rfl) rfl ?_
    refine g_iconst (v := nI 0) (q := 25) dX10_without_24 rfl ki_0 ?_
    refine g_istore_n (lv' := [(0, _), (1, _), (2, _), (3, _)]) (q := 26) dX10_without_25 rfl rfl (Nat.le_of_ble_eq_true rfl) rfl ?_
    refine g_loop (nb) (fun i => [(m0, .inr (10, (.int (nI (nt)) :: .ref mt :: .int (nI (nb)) :: .ref mk :: .ref mb :: .int (nI (lw)) :: .int (nI (sl)) :: .int (nI (tl)) :: .ref mx :: .int (po) :: .int (ta) :: .long (tk) :: .int (dg) :: .int (nu) :: .int (fa) :: .int (rm_) :: .int (rto) :: .int (rbo) :: .ref mr :: .ref mn :: .ref ma :: .ref mi :: .ref mj :: .int (nI (if n = 0 then en else 0)) :: .ref mg :: .int (nI (sn)) :: .ref ms :: .int (nI (dn)) :: .ref md :: .ref mc :: .ref me :: .int (nI en) :: .ref mh :: .ref mo :: .ref mw :: []))), (mk, .inl (E.2.1.1, 10, .inl (nA (kd)))), (mn, .inl (E.2.1.1, 47, .inl (nowF ((years ((nb, nt, lw), kd, cr, rt, fd, nx) n (tw, wt, sk, gr, ch)).1) ((years ((nb, nt, lw), kd, cr, rt, fd, nx) n (tw, wt, sk, gr, ch)).2.1) ((years ((nb, nt, lw), kd, cr, rt, fd, nx) n (tw, wt, sk, gr, ch)).2.2.1) ((years ((nb, nt, lw), kd, cr, rt, fd, nx) n (tw, wt, sk, gr, ch)).2.2.2.1) ((years ((nb, nt, lw), kd, cr, rt, fd, nx) n (tw, wt, sk, gr, ch)).2.2.2.2) (yr + n)))), (ma, .inl (E.2.1.1, 47, .inl (nowF tw wt sk gr ch yr))), (mt, .inl (E.2.1.1, 30, .inl (townF cr rt fd wn nx))), (mg, .inl (E.2.1.1, 10, .inl (oA (if n = 0 then g else fun _ => none)))), (mh, .inl (E.2.1.1, 10, .inl (oA g)))]) (fun i => [(0, .ref m0), (1, .int (nI (n))), (2, .int (wsM (years ((nb, nt, lw), kd, cr, rt, fd, nx) n (tw, wt, sk, gr, ch)).1 nt i)), (3, .int (nI (i)))]) ?_ ?_ 0 (Nat.zero_le _)
    · intro i hi26 ih26
      show G E _ [(m0, .inr (10, (.int (nI (nt)) :: .ref mt :: .int (nI (nb)) :: .ref mk :: .ref mb :: .int (nI (lw)) :: .int (nI (sl)) :: .int (nI (tl)) :: .ref mx :: .int (po) :: .int (ta) :: .long (tk) :: .int (dg) :: .int (nu) :: .int (fa) :: .int (rm_) :: .int (rto) :: .int (rbo) :: .ref mr :: .ref mn :: .ref ma :: .ref mi :: .ref mj :: .int (nI (if n = 0 then en else 0)) :: .ref mg :: .int (nI (sn)) :: .ref ms :: .int (nI (dn)) :: .ref md :: .ref mc :: .ref me :: .int (nI en) :: .ref mh :: .ref mo :: .ref mw :: []))), (mk, .inl (E.2.1.1, 10, .inl (nA (kd)))), (mn, .inl (E.2.1.1, 47, .inl (nowF ((years ((nb, nt, lw), kd, cr, rt, fd, nx) n (tw, wt, sk, gr, ch)).1) ((years ((nb, nt, lw), kd, cr, rt, fd, nx) n (tw, wt, sk, gr, ch)).2.1) ((years ((nb, nt, lw), kd, cr, rt, fd, nx) n (tw, wt, sk, gr, ch)).2.2.1) ((years ((nb, nt, lw), kd, cr, rt, fd, nx) n (tw, wt, sk, gr, ch)).2.2.2.1) ((years ((nb, nt, lw), kd, cr, rt, fd, nx) n (tw, wt, sk, gr, ch)).2.2.2.2) (yr + n)))), (ma, .inl (E.2.1.1, 47, .inl (nowF tw wt sk gr ch yr))), (mt, .inl (E.2.1.1, 30, .inl (townF cr rt fd wn nx))), (mg, .inl (E.2.1.1, 10, .inl (oA (if n = 0 then g else fun _ => none)))), (mh, .inl (E.2.1.1, 10, .inl (oA g)))] 26 [(0, .ref m0), (1, .int (nI (n))), (2, .int (wsM (years ((nb, nt, lw), kd, cr, rt, fd, nx) n (tw, wt, sk, gr, ch)).1 nt i)), (3, .int (nI (i)))] []
      refine g_iload_n (q := 27) dX10_without_26 rfl rfl rfl ?_
      refine g_aload_n (q := 28) dX10_without_27 rfl rfl rfl ?_
      refine gf_X10_77 rfl 0 rfl rfl (q := 31) dX10_without_28 rfl ?_
      refine g_icmp_geN (t := 53) (q := 34) dX10_without_31 (by decide) rfl (by omega) (by omega) (fun c31 => ?_) (fun c31 => ?_)
      · omega
      · skip
        refine g_iload_n (q := 35) dX10_without_34 rfl rfl rfl ?_
        refine g_iconst (v := nI 1) (q := 36) dX10_without_35 rfl ki_1 ?_
        refine g_aload_n (q := 37) dX10_without_36 rfl rfl rfl ?_
        refine gf_X10_29 rfl 0 rfl rfl (q := 40) dX10_without_37 rfl ?_
        refine g_iload_n (q := 41) dX10_without_40 rfl rfl rfl ?_
        refine g_iald (v := nI (((years ((nb, nt, lw), kd, cr, rt, fd, nx) n (tw, wt, sk, gr, ch)).1) i)) 2 rfl (ixIn (j := i) rfl (by omega) (by decide)) ((ixV (j := i) rfl (by omega)).trans (nowF_t (by omega))) (q := 42) dX10_without_41 rfl ?_
        refine g_ishl (q := 43) dX10_without_42 rfl ?_
        refine g_iconst (v := (-1)) (q := 44) dX10_without_43 rfl ki_m1 ?_
        refine g_ixor (q := 45) dX10_without_44 rfl ?_
        refine g_iand (q := 46) dX10_without_45 rfl ?_
        refine g_istore_n (lv' := [(0, _), (1, _), (2, _), (3, _)]) (q := 47) dX10_without_46 rfl rfl (Nat.le_of_ble_eq_true rfl) rfl ?_
        refine g_iinc (lv' := [(0, _), (1, _), (2, _), (3, _)]) (v := nI (i + 1)) (q := 50) dX10_without_47 rfl rfl (nI_inc _) (Nat.le_of_ble_eq_true rfl) rfl ?_
        refine g_goto (q := 26) dX10_without_50 (by decide) ?_
        exact ih26
    · skip
      show G E _ [(m0, .inr (10, (.int (nI (nt)) :: .ref mt :: .int (nI (nb)) :: .ref mk :: .ref mb :: .int (nI (lw)) :: .int (nI (sl)) :: .int (nI (tl)) :: .ref mx :: .int (po) :: .int (ta) :: .long (tk) :: .int (dg) :: .int (nu) :: .int (fa) :: .int (rm_) :: .int (rto) :: .int (rbo) :: .ref mr :: .ref mn :: .ref ma :: .ref mi :: .ref mj :: .int (nI (if n = 0 then en else 0)) :: .ref mg :: .int (nI (sn)) :: .ref ms :: .int (nI (dn)) :: .ref md :: .ref mc :: .ref me :: .int (nI en) :: .ref mh :: .ref mo :: .ref mw :: []))), (mk, .inl (E.2.1.1, 10, .inl (nA (kd)))), (mn, .inl (E.2.1.1, 47, .inl (nowF ((years ((nb, nt, lw), kd, cr, rt, fd, nx) n (tw, wt, sk, gr, ch)).1) ((years ((nb, nt, lw), kd, cr, rt, fd, nx) n (tw, wt, sk, gr, ch)).2.1) ((years ((nb, nt, lw), kd, cr, rt, fd, nx) n (tw, wt, sk, gr, ch)).2.2.1) ((years ((nb, nt, lw), kd, cr, rt, fd, nx) n (tw, wt, sk, gr, ch)).2.2.2.1) ((years ((nb, nt, lw), kd, cr, rt, fd, nx) n (tw, wt, sk, gr, ch)).2.2.2.2) (yr + n)))), (ma, .inl (E.2.1.1, 47, .inl (nowF tw wt sk gr ch yr))), (mt, .inl (E.2.1.1, 30, .inl (townF cr rt fd wn nx))), (mg, .inl (E.2.1.1, 10, .inl (oA (if n = 0 then g else fun _ => none)))), (mh, .inl (E.2.1.1, 10, .inl (oA g)))] 26 [(0, .ref m0), (1, .int (nI (n))), (2, .int (wsM (years ((nb, nt, lw), kd, cr, rt, fd, nx) n (tw, wt, sk, gr, ch)).1 nt nb)), (3, .int (nI (nb)))] []
      refine g_iload_n (q := 27) dX10_without_26 rfl rfl rfl ?_
      refine g_aload_n (q := 28) dX10_without_27 rfl rfl rfl ?_
      refine gf_X10_77 rfl 0 rfl rfl (q := 31) dX10_without_28 rfl ?_
      refine g_icmp_geN (t := 53) (q := 34) dX10_without_31 (by decide) rfl (by omega) (by omega) (fun c31 => ?_) (fun c31 => ?_)
      · skip
        refine g_aload_n (q := 54) dX10_without_53 rfl rfl rfl ?_
        refine gc_X10_266 (c_putBack) rfl (Nat.le_of_ble_eq_true rfl) rfl 0 rfl [0, 2, 3, 5, 6] rfl rfl (rest := []) rfl (Nat.le_of_ble_eq_true rfl) (q := 57) dX10_without_54 rfl (exK (ws' := [(_, .inr (_, (_ :: _ :: _ :: _ :: _ :: _ :: _ :: _ :: _ :: _ :: _ :: _ :: _ :: _ :: _ :: _ :: _ :: _ :: _ :: _ :: _ :: _ :: _ :: _ :: _ :: _ :: _ :: _ :: _ :: _ :: _ :: _ :: _ :: _ :: _ :: []))), _, (_, .inl (_, _, .inl _)), (_, .inl (_, _, .inl _)), _, (_, .inl (_, _, .inl _)), (_, .inl (_, _, .inl _))]) (st' := []) rfl rfl ?_)
        refine g_iload_n (q := 58) dX10_without_57 rfl rfl rfl ?_
        refine g_iret (st := []) dX10_without_58 rfl rfl rfl ?_
        exact ⟨(nowF tw wt sk gr ch yr), (nI en), (oA g), xr (by simp only [opWithout, hn]; exact wsM_bits hnt nb (fun j hj => (years_ok hP hY hB n).1.1 j (by omega)))⟩
      · omega
  · have nn := isSome_f (bI_eq0.mp c4)
    refine g_bipush (v := (-3)) (q := 9) dX10_without_7 rfl kb_m3 ?_
    refine g_iret (st := []) dX10_without_9 rfl rfl rfl ?_
    exact ⟨(as_), (ga), (gh), xr (by simp only [opWithout, nn])⟩
set_option maxHeartbeats 2000000 in
set_option maxRecDepth 20000 in
theorem c_paidBy {E : EN} {m0 mt mk mb mx mr mn ma mi mj mg ms md mc me mh mo mw nt nb lw sl tl en sn dn : Nat} {po ta dg nu fa rm_ rto rbo ga : Int32} {tk : Int64} {kd tw wt sk gr : Nat → Nat} {ch : Nat → Int32} {yr : Nat} {cr rt fd nx : Nat → Nat} {wn : Nat → Int32} {t n p f : Nat} (ht : t < 6) (hn : n < 100) (hf : f < 100) (hnb : nb ≤ 10) (hw1 : ∀ j, j < nb → 1 ≤ wt j) (hkd : ∀ j, j < 10 → kd j < 4) (htw : ∀ j, j < 10 → tw j < 6) (hwt : ∀ j, j < 10 → wt j < 100) (hrt : ∀ j, j < 6 → rt j < 10)  : CT E yX10_paidBy cX10_paidBy 9 (some .int) 1 [.ref m0, .int (nI (t)), .int (nI (n)), .int (nI (p)), .int (nI (f))] [(m0, .inr (10, (.int (nI (nt)) :: .ref mt :: .int (nI (nb)) :: .ref mk :: .ref mb :: .int (nI (lw)) :: .int (nI (sl)) :: .int (nI (tl)) :: .ref mx :: .int (po) :: .int (ta) :: .long (tk) :: .int (dg) :: .int (nu) :: .int (fa) :: .int (rm_) :: .int (rto) :: .int (rbo) :: .ref mr :: .ref mn :: .ref ma :: .ref mi :: .ref mj :: .int (nI (en)) :: .ref mg :: .int (nI (sn)) :: .ref ms :: .int (nI (dn)) :: .ref md :: .ref mc :: .ref me :: .int (ga) :: .ref mh :: .ref mo :: .ref mw :: []))), (mk, .inl (E.2.1.1, 10, .inl (nA (kd)))), (mn, .inl (E.2.1.1, 47, .inl (nowF tw wt sk gr ch yr))), (mt, .inl (E.2.1.1, 30, .inl (townF cr rt fd wn nx)))] (xQ (some (.int (gof nb kd tw wt rt t n p f))) [(m0, .inr (10, (.int (nI (nt)) :: .ref mt :: .int (nI (nb)) :: .ref mk :: .ref mb :: .int (nI (lw)) :: .int (nI (sl)) :: .int (nI (tl)) :: .ref mx :: .int (po) :: .int (ta) :: .long (tk) :: .int (dg) :: .int (nu) :: .int (fa) :: .int (rm_) :: .int (rto) :: .int (rbo) :: .ref mr :: .ref mn :: .ref ma :: .ref mi :: .ref mj :: .int (nI (en)) :: .ref mg :: .int (nI (sn)) :: .ref ms :: .int (nI (dn)) :: .ref md :: .ref mc :: .ref me :: .int (ga) :: .ref mh :: .ref mo :: .ref mw :: []))), (mk, .inl (E.2.1.1, 10, .inl (nA (kd)))), (mn, .inl (E.2.1.1, 47, .inl (nowF tw wt sk gr ch yr))), (mt, .inl (E.2.1.1, 30, .inl (townF cr rt fd wn nx)))]) := by
  refine ct_of (by decide +kernel) (Nat.le_of_ble_eq_true rfl) (lv := [(0, .ref m0), (1, .int (nI (t))), (2, .int (nI (n))), (3, .int (nI (p))), (4, .int (nI (f)))]) rfl (fun A => ?_)
  refine g_iconst (v := nI 0) (q := 1) dX10_paidBy_0 rfl ki_0 ?_
  refine g_istore (lv' := [(0, _), (1, _), (2, _), (3, _), (4, _), (5, _)]) (q := 3) dX10_paidBy_1 rfl (Nat.le_of_ble_eq_true rfl) rfl ?_
  refine g_iconst (v := nI 0) (q := 4) dX10_paidBy_3 rfl ki_0 ?_
  refine g_istore (lv' := [(0, _), (1, _), (2, _), (3, _), (4, _), (5, _), (6, _)]) (q := 6) dX10_paidBy_4 rfl (Nat.le_of_ble_eq_true rfl) rfl ?_
  refine g_loop (nb) (fun b => [(m0, .inr (10, (.int (nI (nt)) :: .ref mt :: .int (nI (nb)) :: .ref mk :: .ref mb :: .int (nI (lw)) :: .int (nI (sl)) :: .int (nI (tl)) :: .ref mx :: .int (po) :: .int (ta) :: .long (tk) :: .int (dg) :: .int (nu) :: .int (fa) :: .int (rm_) :: .int (rto) :: .int (rbo) :: .ref mr :: .ref mn :: .ref ma :: .ref mi :: .ref mj :: .int (nI (en)) :: .ref mg :: .int (nI (sn)) :: .ref ms :: .int (nI (dn)) :: .ref md :: .ref mc :: .ref me :: .int (ga) :: .ref mh :: .ref mo :: .ref mw :: []))), (mk, .inl (E.2.1.1, 10, .inl (nA (kd)))), (mn, .inl (E.2.1.1, 47, .inl (nowF tw wt sk gr ch yr))), (mt, .inl (E.2.1.1, 30, .inl (townF cr rt fd wn nx)))]) (fun b => [(0, .ref m0), (1, .int (nI (t))), (2, .int (nI (n))), (3, .int (nI (p))), (4, .int (nI (f))), (5, .int (gofM kd tw wt rt t n p f b)), (6, .int (nI (b)))]) ?_ ?_ 0 (Nat.zero_le _)
  · intro b hb6 ih6
    have q1 := hw1 b hb6
    have q2 := hwt b (by omega)
    show G E _ [(m0, .inr (10, (.int (nI (nt)) :: .ref mt :: .int (nI (nb)) :: .ref mk :: .ref mb :: .int (nI (lw)) :: .int (nI (sl)) :: .int (nI (tl)) :: .ref mx :: .int (po) :: .int (ta) :: .long (tk) :: .int (dg) :: .int (nu) :: .int (fa) :: .int (rm_) :: .int (rto) :: .int (rbo) :: .ref mr :: .ref mn :: .ref ma :: .ref mi :: .ref mj :: .int (nI (en)) :: .ref mg :: .int (nI (sn)) :: .ref ms :: .int (nI (dn)) :: .ref md :: .ref mc :: .ref me :: .int (ga) :: .ref mh :: .ref mo :: .ref mw :: []))), (mk, .inl (E.2.1.1, 10, .inl (nA (kd)))), (mn, .inl (E.2.1.1, 47, .inl (nowF tw wt sk gr ch yr))), (mt, .inl (E.2.1.1, 30, .inl (townF cr rt fd wn nx)))] 6 [(0, .ref m0), (1, .int (nI (t))), (2, .int (nI (n))), (3, .int (nI (p))), (4, .int (nI (f))), (5, .int (gofM kd tw wt rt t n p f b)), (6, .int (nI (b)))] []
    refine g_iload (q := 8) dX10_paidBy_6 rfl rfl ?_
    refine g_aload_n (q := 9) dX10_paidBy_8 rfl rfl rfl ?_
    refine gf_X10_77 rfl 0 rfl rfl (q := 12) dX10_paidBy_9 rfl ?_
    refine g_icmp_geN (t := 99) (q := 15) dX10_paidBy_12 (by decide) rfl (by omega) (by omega) (fun c12 => ?_) (fun c12 => ?_)
    · omega
    · skip
      refine g_aload_n (q := 16) dX10_paidBy_15 rfl rfl rfl ?_
      refine gf_X10_29 rfl 0 rfl rfl (q := 19) dX10_paidBy_16 rfl ?_
      refine g_iload (q := 21) dX10_paidBy_19 rfl rfl ?_
      have hb1 := htw (b) (by omega)
      refine g_iald (v := nI (tw b)) 2 rfl (ixIn (j := b) rfl (by omega) (by decide)) ((ixV (j := b) rfl (by omega)).trans (nowF_t (by omega))) (q := 22) dX10_paidBy_21 rfl ?_
      refine g_iload_n (q := 23) dX10_paidBy_22 rfl rfl rfl ?_
      refine g_icmp_neN (t := 93) (q := 26) dX10_paidBy_23 (by decide) rfl (by omega) (by omega) (fun c23 => ?_) (fun c23 => ?_)
      · skip
        refine g_iinc (lv' := [(0, _), (1, _), (2, _), (3, _), (4, _), (5, _), (6, _)]) (v := nI (b + 1)) (q := 96) dX10_paidBy_93 rfl rfl (nI_inc _) (Nat.le_of_ble_eq_true rfl) rfl ?_
        refine g_goto (q := 6) dX10_paidBy_96 (by decide) ?_
        rw [gofM, if_neg c23] at ih6
        exact ih6
      · skip
        refine g_aload_n (q := 27) dX10_paidBy_26 rfl rfl rfl ?_
        refine gf_X10_29 rfl 0 rfl rfl (q := 30) dX10_paidBy_27 rfl ?_
        refine g_bipush (v := nI 10) (q := 32) dX10_paidBy_30 rfl kb_10 ?_
        refine g_iload (q := 34) dX10_paidBy_32 rfl rfl ?_
        refine g_iaddN (q := 35) dX10_paidBy_34 rfl ?_
        have hb2 := hwt (b) (by omega)
        refine g_iald (v := nI (wt b)) 2 rfl (ixIn (j := 10 + b) rfl (by omega) (by decide)) ((ixV (j := 10 + b) rfl (by omega)).trans (nowF_w (by omega))) (q := 36) dX10_paidBy_35 rfl ?_
        refine g_istore (lv' := [(0, _), (1, _), (2, _), (3, _), (4, _), (5, _), (6, _), (7, _)]) (q := 38) dX10_paidBy_36 rfl (Nat.le_of_ble_eq_true rfl) rfl ?_
        refine g_iconst (v := nI 0) (q := 39) dX10_paidBy_38 rfl ki_0 ?_
        refine g_istore (lv' := [(0, _), (1, _), (2, _), (3, _), (4, _), (5, _), (6, _), (7, _), (8, _)]) (q := 41) dX10_paidBy_39 rfl (Nat.le_of_ble_eq_true rfl) rfl ?_
        refine g_loop (n) (fun j => [(m0, .inr (10, (.int (nI (nt)) :: .ref mt :: .int (nI (nb)) :: .ref mk :: .ref mb :: .int (nI (lw)) :: .int (nI (sl)) :: .int (nI (tl)) :: .ref mx :: .int (po) :: .int (ta) :: .long (tk) :: .int (dg) :: .int (nu) :: .int (fa) :: .int (rm_) :: .int (rto) :: .int (rbo) :: .ref mr :: .ref mn :: .ref ma :: .ref mi :: .ref mj :: .int (nI (en)) :: .ref mg :: .int (nI (sn)) :: .ref ms :: .int (nI (dn)) :: .ref md :: .ref mc :: .ref me :: .int (ga) :: .ref mh :: .ref mo :: .ref mw :: []))), (mk, .inl (E.2.1.1, 10, .inl (nA (kd)))), (mn, .inl (E.2.1.1, 47, .inl (nowF tw wt sk gr ch yr))), (mt, .inl (E.2.1.1, 30, .inl (townF cr rt fd wn nx)))]) (fun j => [(0, .ref m0), (1, .int (nI (t))), (2, .int (nI (n))), (3, .int (nI (p))), (4, .int (nI (f))), (5, .int (gofM kd tw wt rt t n p f b)), (6, .int (nI (b))), (7, .int (nI (fedI f (wt b) j))), (8, .int (nI (j)))]) ?_ ?_ 0 (Nat.zero_le _)
        · intro j hj41 ih41
          have q6 := fedI_in (f := f) q1 q2 j
          show G E _ [(m0, .inr (10, (.int (nI (nt)) :: .ref mt :: .int (nI (nb)) :: .ref mk :: .ref mb :: .int (nI (lw)) :: .int (nI (sl)) :: .int (nI (tl)) :: .ref mx :: .int (po) :: .int (ta) :: .long (tk) :: .int (dg) :: .int (nu) :: .int (fa) :: .int (rm_) :: .int (rto) :: .int (rbo) :: .ref mr :: .ref mn :: .ref ma :: .ref mi :: .ref mj :: .int (nI (en)) :: .ref mg :: .int (nI (sn)) :: .ref ms :: .int (nI (dn)) :: .ref md :: .ref mc :: .ref me :: .int (ga) :: .ref mh :: .ref mo :: .ref mw :: []))), (mk, .inl (E.2.1.1, 10, .inl (nA (kd)))), (mn, .inl (E.2.1.1, 47, .inl (nowF tw wt sk gr ch yr))), (mt, .inl (E.2.1.1, 30, .inl (townF cr rt fd wn nx)))] 41 [(0, .ref m0), (1, .int (nI (t))), (2, .int (nI (n))), (3, .int (nI (p))), (4, .int (nI (f))), (5, .int (gofM kd tw wt rt t n p f b)), (6, .int (nI (b))), (7, .int (nI (fedI f (wt b) j))), (8, .int (nI (j)))] []
          refine g_iload (q := 43) dX10_paidBy_41 rfl rfl ?_
          refine g_iload_n (q := 44) dX10_paidBy_43 rfl rfl rfl ?_
          refine g_icmp_geN (t := 62) (q := 47) dX10_paidBy_44 (by decide) rfl (by omega) (by omega) (fun c44 => ?_) (fun c44 => ?_)
          · omega
          · skip
            refine g_iload (q := 49) dX10_paidBy_47 rfl rfl ?_
            refine g_iload (q := 51) dX10_paidBy_49 rfl rfl ?_
            refine gc_X10_241 (c_weightThen (by omega) (by omega) (by omega)) rfl (Nat.le_of_ble_eq_true rfl) rfl [] rfl rfl (rest := []) rfl (Nat.le_of_ble_eq_true rfl) (q := 54) dX10_paidBy_51 rfl (exK (ws' := [_, _, _, _]) (st' := [.int (nI (fed (fedI f (wt b) j) f))]) rfl rfl ?_)
            refine g_istore (lv' := [(0, _), (1, _), (2, _), (3, _), (4, _), (5, _), (6, _), (7, _), (8, _)]) (q := 56) dX10_paidBy_54 rfl (Nat.le_of_ble_eq_true rfl) rfl ?_
            refine g_iinc (lv' := [(0, _), (1, _), (2, _), (3, _), (4, _), (5, _), (6, _), (7, _), (8, _)]) (v := nI (j + 1)) (q := 59) dX10_paidBy_56 rfl rfl (nI_inc _) (Nat.le_of_ble_eq_true rfl) rfl ?_
            refine g_goto (q := 41) dX10_paidBy_59 (by decide) ?_
            exact ih41
        · skip
          show G E _ [(m0, .inr (10, (.int (nI (nt)) :: .ref mt :: .int (nI (nb)) :: .ref mk :: .ref mb :: .int (nI (lw)) :: .int (nI (sl)) :: .int (nI (tl)) :: .ref mx :: .int (po) :: .int (ta) :: .long (tk) :: .int (dg) :: .int (nu) :: .int (fa) :: .int (rm_) :: .int (rto) :: .int (rbo) :: .ref mr :: .ref mn :: .ref ma :: .ref mi :: .ref mj :: .int (nI (en)) :: .ref mg :: .int (nI (sn)) :: .ref ms :: .int (nI (dn)) :: .ref md :: .ref mc :: .ref me :: .int (ga) :: .ref mh :: .ref mo :: .ref mw :: []))), (mk, .inl (E.2.1.1, 10, .inl (nA (kd)))), (mn, .inl (E.2.1.1, 47, .inl (nowF tw wt sk gr ch yr))), (mt, .inl (E.2.1.1, 30, .inl (townF cr rt fd wn nx)))] 41 [(0, .ref m0), (1, .int (nI (t))), (2, .int (nI (n))), (3, .int (nI (p))), (4, .int (nI (f))), (5, .int (gofM kd tw wt rt t n p f b)), (6, .int (nI (b))), (7, .int (nI (fedI f (wt b) n))), (8, .int (nI (n)))] []
          have q6 := fedI_in (f := f) q1 q2 n
          refine g_iload (q := 43) dX10_paidBy_41 rfl rfl ?_
          refine g_iload_n (q := 44) dX10_paidBy_43 rfl rfl rfl ?_
          refine g_icmp_geN (t := 62) (q := 47) dX10_paidBy_44 (by decide) rfl (by omega) (by omega) (fun c44 => ?_) (fun c44 => ?_)
          · skip
            refine g_iload (q := 64) dX10_paidBy_62 rfl rfl ?_
            refine g_aload_n (q := 65) dX10_paidBy_64 rfl rfl rfl ?_
            refine g_iload (q := 67) dX10_paidBy_65 rfl rfl ?_
            refine g_iload (q := 69) dX10_paidBy_67 rfl rfl ?_
            refine gc_X10_207 (c_mpoundsOf (by omega) (by omega) hkd) rfl (Nat.le_of_ble_eq_true rfl) rfl 0 rfl [0, 1] rfl rfl (rest := [_]) rfl (Nat.le_of_ble_eq_true rfl) (q := 72) dX10_paidBy_69 rfl (exK (ws' := [_, _, _, _]) (st' := [.int (nI (pnd (kd b) (fedI f (wt b) n))), _]) rfl rfl ?_)
            refine g_aload_n (q := 73) dX10_paidBy_72 rfl rfl rfl ?_
            refine gf_X10_13 rfl 0 rfl rfl (q := 76) dX10_paidBy_73 rfl ?_
            refine g_iconst (v := nI 5) (q := 77) dX10_paidBy_76 rfl ki_5 ?_
            refine g_iload_n (q := 78) dX10_paidBy_77 rfl rfl rfl ?_
            refine g_imulN (q := 79) dX10_paidBy_78 rfl ?_
            refine g_iconst (v := nI 1) (q := 80) dX10_paidBy_79 rfl ki_1 ?_
            refine g_iaddN (q := 81) dX10_paidBy_80 rfl ?_
            have hb3 := hrt (t) (by omega)
            refine g_iald (v := nI (rt t)) 3 rfl (ixIn (j := 5 * t + 1) rfl (by omega) (by decide)) ((ixV (j := 5 * t + 1) rfl (by omega)).trans (townF_1 t)) (q := 82) dX10_paidBy_81 rfl ?_
            refine g_imulN (q := 83) dX10_paidBy_82 rfl ?_
            refine g_iload_n (q := 84) dX10_paidBy_83 rfl rfl rfl ?_
            refine g_iload (q := 86) dX10_paidBy_84 rfl rfl ?_
            refine g_imulN (q := 87) dX10_paidBy_86 rfl ?_
            refine g_iload_n (q := 88) dX10_paidBy_87 rfl rfl rfl ?_
            refine g_imulN (q := 89) dX10_paidBy_88 rfl ?_
            refine g_isub (q := 90) dX10_paidBy_89 rfl ?_
            refine g_iadd (q := 91) dX10_paidBy_90 rfl ?_
            refine g_istore (lv' := [(0, _), (1, _), (2, _), (3, _), (4, _), (5, _), (6, _), (7, _), (8, _)]) (q := 93) dX10_paidBy_91 rfl (Nat.le_of_ble_eq_true rfl) rfl ?_
            refine g_iinc (lv' := [(0, _), (1, _), (2, _), (3, _), (4, _), (5, _), (6, _), (7, _), (8, _)]) (v := nI (b + 1)) (q := 96) dX10_paidBy_93 rfl rfl (nI_inc _) (Nat.le_of_ble_eq_true rfl) rfl ?_
            refine g_goto (q := 6) dX10_paidBy_96 (by decide) ?_
            refine g_less (lv' := [(0, _), (1, _), (2, _), (3, _), (4, _), (5, _), (6, _)]) 7 rfl ?_
            rw [gofM, if_pos c23] at ih6
            exact ih6
          · omega
  · skip
    show G E _ [(m0, .inr (10, (.int (nI (nt)) :: .ref mt :: .int (nI (nb)) :: .ref mk :: .ref mb :: .int (nI (lw)) :: .int (nI (sl)) :: .int (nI (tl)) :: .ref mx :: .int (po) :: .int (ta) :: .long (tk) :: .int (dg) :: .int (nu) :: .int (fa) :: .int (rm_) :: .int (rto) :: .int (rbo) :: .ref mr :: .ref mn :: .ref ma :: .ref mi :: .ref mj :: .int (nI (en)) :: .ref mg :: .int (nI (sn)) :: .ref ms :: .int (nI (dn)) :: .ref md :: .ref mc :: .ref me :: .int (ga) :: .ref mh :: .ref mo :: .ref mw :: []))), (mk, .inl (E.2.1.1, 10, .inl (nA (kd)))), (mn, .inl (E.2.1.1, 47, .inl (nowF tw wt sk gr ch yr))), (mt, .inl (E.2.1.1, 30, .inl (townF cr rt fd wn nx)))] 6 [(0, .ref m0), (1, .int (nI (t))), (2, .int (nI (n))), (3, .int (nI (p))), (4, .int (nI (f))), (5, .int (gofM kd tw wt rt t n p f nb)), (6, .int (nI (nb)))] []
    refine g_iload (q := 8) dX10_paidBy_6 rfl rfl ?_
    refine g_aload_n (q := 9) dX10_paidBy_8 rfl rfl rfl ?_
    refine gf_X10_77 rfl 0 rfl rfl (q := 12) dX10_paidBy_9 rfl ?_
    refine g_icmp_geN (t := 99) (q := 15) dX10_paidBy_12 (by decide) rfl (by omega) (by omega) (fun c12 => ?_) (fun c12 => ?_)
    · skip
      refine g_iload (q := 101) dX10_paidBy_99 rfl rfl ?_
      refine g_iret (st := []) dX10_paidBy_101 rfl rfl rfl ?_
      exact (xr (gof_M nb kd tw wt rt t n p f))
    · omega
set_option maxHeartbeats 2000000 in
set_option maxRecDepth 20000 in
theorem c_mpays {E : EN} {m0 mt mk mb mx mr mn ma mi mj mg ms md mc me mh mo mw nt nb lw sl tl en sn dn : Nat} {po ta dg nu fa rm_ rto rbo ga : Int32} {tk : Int64} {kd tw wt sk gr : Nat → Nat} {ch : Nat → Int32} {yr : Nat} {cr rt fd nx : Nat → Nat} {wn : Nat → Int32} {x y z v : Int32} (hw1 : ∀ j, j < nb → 1 ≤ wt j) (hnb : nb ≤ 10) (hnt : nt ≤ 6) (hkd : ∀ j, j < 10 → kd j < 4) (htw : ∀ j, j < 10 → tw j < 6) (hwt : ∀ j, j < 10 → wt j < 100) (hrt : ∀ j, j < 6 → rt j < 10)  : CT E yX10_pays cX10_pays 7 (some .int) 2 [.ref m0, .int (x), .int (y), .int (z), .int (v)] [(m0, .inr (10, (.int (nI (nt)) :: .ref mt :: .int (nI (nb)) :: .ref mk :: .ref mb :: .int (nI (lw)) :: .int (nI (sl)) :: .int (nI (tl)) :: .ref mx :: .int (po) :: .int (ta) :: .long (tk) :: .int (dg) :: .int (nu) :: .int (fa) :: .int (rm_) :: .int (rto) :: .int (rbo) :: .ref mr :: .ref mn :: .ref ma :: .ref mi :: .ref mj :: .int (nI (en)) :: .ref mg :: .int (nI (sn)) :: .ref ms :: .int (nI (dn)) :: .ref md :: .ref mc :: .ref me :: .int (ga) :: .ref mh :: .ref mo :: .ref mw :: []))), (mk, .inl (E.2.1.1, 10, .inl (nA (kd)))), (mn, .inl (E.2.1.1, 47, .inl (nowF tw wt sk gr ch yr))), (mt, .inl (E.2.1.1, 30, .inl (townF cr rt fd wn nx)))] (xQ (some (.int (opPays nt nb kd tw wt rt x y z v))) [(m0, .inr (10, (.int (nI (nt)) :: .ref mt :: .int (nI (nb)) :: .ref mk :: .ref mb :: .int (nI (lw)) :: .int (nI (sl)) :: .int (nI (tl)) :: .ref mx :: .int (po) :: .int (ta) :: .long (tk) :: .int (dg) :: .int (nu) :: .int (fa) :: .int (rm_) :: .int (rto) :: .int (rbo) :: .ref mr :: .ref mn :: .ref ma :: .ref mi :: .ref mj :: .int (nI (en)) :: .ref mg :: .int (nI (sn)) :: .ref ms :: .int (nI (dn)) :: .ref md :: .ref mc :: .ref me :: .int (ga) :: .ref mh :: .ref mo :: .ref mw :: []))), (mk, .inl (E.2.1.1, 10, .inl (nA (kd)))), (mn, .inl (E.2.1.1, 47, .inl (nowF tw wt sk gr ch yr))), (mt, .inl (E.2.1.1, 30, .inl (townF cr rt fd wn nx)))]) := by
  refine ct_of (by decide +kernel) (Nat.le_of_ble_eq_true rfl) (lv := [(0, .ref m0), (1, .int (x)), (2, .int (y)), (3, .int (z)), (4, .int (v))]) rfl (fun A => ?_)
  refine g_aload_n (q := 1) dX10_pays_0 rfl rfl rfl ?_
  refine g_iload_n (q := 2) dX10_pays_1 rfl rfl rfl ?_
  refine gc_X10_203 (c_misTown (by omega)) rfl (Nat.le_of_ble_eq_true rfl) rfl 0 rfl [0] rfl rfl (rest := []) rfl (Nat.le_of_ble_eq_true rfl) (q := 5) dX10_pays_2 rfl (exK (ws' := [_, _, _, _]) (st' := [.int (bI (tn x nt).isSome)]) rfl rfl ?_)
  refine g_if_ne (t := 11) (q := 8) dX10_pays_5 (by decide) rfl (fun c5 => ?_) (fun c5 => ?_)
  · obtain ⟨t, ht⟩ := isSome_t (bI_ne0.mp c5)
    obtain ⟨ht1, rfl⟩ := tn_some ht
    refine g_iload_n (q := 12) dX10_pays_11 rfl rfl rfl ?_
    refine g_iconst (v := nI 1) (q := 13) dX10_pays_12 rfl ki_1 ?_
    refine g_bipush (v := nI 9) (q := 15) dX10_pays_13 rfl kb_9 ?_
    refine gc_X10_73 (c_in) rfl (Nat.le_of_ble_eq_true rfl) rfl [] rfl rfl (rest := []) rfl (Nat.le_of_ble_eq_true rfl) (q := 18) dX10_pays_15 rfl (exK (ws' := [_, _, _, _]) (st' := [.int (bI (!ninB y (nI 1) (nI 9)))]) rfl rfl ?_)
    refine g_top (y := bI (rn y 1 9).isSome) (by rw [ninB_rn (by decide) (by decide), not_isNone]) ?_
    refine g_if_eq (t := 41) (q := 21) dX10_pays_18 (by decide) rfl (fun c18 => ?_) (fun c18 => ?_)
    · have nn := isSome_f (bI_eq0.mp c18)
      refine g_bipush (v := (-3)) (q := 43) dX10_pays_41 rfl kb_m3 ?_
      refine g_iret (st := []) dX10_pays_43 rfl rfl rfl ?_
      exact xr (by simp only [opPays, ht, nn])
    · obtain ⟨n, hn⟩ := isSome_t (bI_ne0.mp c18)
      obtain ⟨hn1, hn2, rfl⟩ := rn_some hn
      refine g_iload_n (q := 22) dX10_pays_21 rfl rfl rfl ?_
      refine g_iconst (v := nI 0) (q := 23) dX10_pays_22 rfl ki_0 ?_
      refine g_bipush (v := nI 99) (q := 25) dX10_pays_23 rfl kb_99 ?_
      refine gc_X10_73 (c_in) rfl (Nat.le_of_ble_eq_true rfl) rfl [] rfl rfl (rest := []) rfl (Nat.le_of_ble_eq_true rfl) (q := 28) dX10_pays_25 rfl (exK (ws' := [_, _, _, _]) (st' := [.int (bI (!ninB z (nI 0) (nI 99)))]) rfl rfl ?_)
      refine g_top (y := bI (rn z 0 99).isSome) (by rw [ninB_rn (by decide) (by decide), not_isNone]) ?_
      refine g_if_eq (t := 41) (q := 31) dX10_pays_28 (by decide) rfl (fun c28 => ?_) (fun c28 => ?_)
      · have np := isSome_f (bI_eq0.mp c28)
        refine g_bipush (v := (-3)) (q := 43) dX10_pays_41 rfl kb_m3 ?_
        refine g_iret (st := []) dX10_pays_43 rfl rfl rfl ?_
        exact xr (by simp only [opPays, ht, hn, np])
      · obtain ⟨p, hp⟩ := isSome_t (bI_ne0.mp c28)
        obtain ⟨hp1, hp2, rfl⟩ := rn_some hp
        refine g_iload (q := 33) dX10_pays_31 rfl rfl ?_
        refine g_iconst (v := nI 0) (q := 34) dX10_pays_33 rfl ki_0 ?_
        refine g_iconst (v := nI 1) (q := 35) dX10_pays_34 rfl ki_1 ?_
        refine gc_X10_73 (c_in) rfl (Nat.le_of_ble_eq_true rfl) rfl [] rfl rfl (rest := []) rfl (Nat.le_of_ble_eq_true rfl) (q := 38) dX10_pays_35 rfl (exK (ws' := [_, _, _, _]) (st' := [.int (bI (!ninB v (nI 0) (nI 1)))]) rfl rfl ?_)
        refine g_top (y := bI (rn v 0 1).isSome) (by rw [ninB_rn (by decide) (by decide), not_isNone]) ?_
        refine g_if_ne (t := 44) (q := 41) dX10_pays_38 (by decide) rfl (fun c38 => ?_) (fun c38 => ?_)
        · obtain ⟨k, hk⟩ := isSome_t (bI_ne0.mp c38)
          obtain ⟨hk1, hk2, rfl⟩ := rn_some hk
          refine g_iconst (v := nI 0) (q := 45) dX10_pays_44 rfl ki_0 ?_
          refine g_istore (lv' := [(0, _), (1, _), (2, _), (3, _), (4, _), (5, _)]) (q := 47) dX10_pays_45 rfl (Nat.le_of_ble_eq_true rfl) rfl ?_
          refine g_iconst (v := nI 1) (q := 48) dX10_pays_47 rfl ki_1 ?_
          refine g_istore (lv' := [(0, _), (1, _), (2, _), (3, _), (4, _), (5, _), (6, _)]) (q := 50) dX10_pays_48 rfl (Nat.le_of_ble_eq_true rfl) rfl ?_
          refine g_loop (3) (fun i => [(m0, .inr (10, (.int (nI (nt)) :: .ref mt :: .int (nI (nb)) :: .ref mk :: .ref mb :: .int (nI (lw)) :: .int (nI (sl)) :: .int (nI (tl)) :: .ref mx :: .int (po) :: .int (ta) :: .long (tk) :: .int (dg) :: .int (nu) :: .int (fa) :: .int (rm_) :: .int (rto) :: .int (rbo) :: .ref mr :: .ref mn :: .ref ma :: .ref mi :: .ref mj :: .int (nI (en)) :: .ref mg :: .int (nI (sn)) :: .ref ms :: .int (nI (dn)) :: .ref md :: .ref mc :: .ref me :: .int (ga) :: .ref mh :: .ref mo :: .ref mw :: []))), (mk, .inl (E.2.1.1, 10, .inl (nA (kd)))), (mn, .inl (E.2.1.1, 47, .inl (nowF tw wt sk gr ch yr))), (mt, .inl (E.2.1.1, 30, .inl (townF cr rt fd wn nx)))]) (fun i => [(0, .ref m0), (1, .int (nI (t))), (2, .int (nI (n))), (3, .int (nI (p))), (4, .int (nI (k))), (5, .int (nI ((payB (gof nb kd tw wt rt t n p) i).1))), (6, .int (nI (i + 1)))]) ?_ ?_ 0 (Nat.zero_le _)
          · intro i hi50 ih50
            have hpl := payB_le (gof nb kd tw wt rt t n p) i
            show G E _ [(m0, .inr (10, (.int (nI (nt)) :: .ref mt :: .int (nI (nb)) :: .ref mk :: .ref mb :: .int (nI (lw)) :: .int (nI (sl)) :: .int (nI (tl)) :: .ref mx :: .int (po) :: .int (ta) :: .long (tk) :: .int (dg) :: .int (nu) :: .int (fa) :: .int (rm_) :: .int (rto) :: .int (rbo) :: .ref mr :: .ref mn :: .ref ma :: .ref mi :: .ref mj :: .int (nI (en)) :: .ref mg :: .int (nI (sn)) :: .ref ms :: .int (nI (dn)) :: .ref md :: .ref mc :: .ref me :: .int (ga) :: .ref mh :: .ref mo :: .ref mw :: []))), (mk, .inl (E.2.1.1, 10, .inl (nA (kd)))), (mn, .inl (E.2.1.1, 47, .inl (nowF tw wt sk gr ch yr))), (mt, .inl (E.2.1.1, 30, .inl (townF cr rt fd wn nx)))] 50 [(0, .ref m0), (1, .int (nI (t))), (2, .int (nI (n))), (3, .int (nI (p))), (4, .int (nI (k))), (5, .int (nI ((payB (gof nb kd tw wt rt t n p) i).1))), (6, .int (nI (i + 1)))] []
            refine g_iload (q := 52) dX10_pays_50 rfl rfl ?_
            refine g_iconst (v := nI 4) (q := 53) dX10_pays_52 rfl ki_4 ?_
            refine g_icmp_geN (t := 92) (q := 56) dX10_pays_53 (by decide) rfl (by omega) (by omega) (fun c53 => ?_) (fun c53 => ?_)
            · omega
            · skip
              refine g_aload_n (q := 57) dX10_pays_56 rfl rfl rfl ?_
              refine g_iload_n (q := 58) dX10_pays_57 rfl rfl rfl ?_
              refine g_iload_n (q := 59) dX10_pays_58 rfl rfl rfl ?_
              refine g_iload_n (q := 60) dX10_pays_59 rfl rfl rfl ?_
              refine g_iload (q := 62) dX10_pays_60 rfl rfl ?_
              refine gc_X10_269 (c_paidBy (by omega) (by omega) (by omega) hnb hw1 hkd htw hwt hrt) rfl (Nat.le_of_ble_eq_true rfl) rfl 0 rfl [0, 1, 2, 3] rfl rfl (rest := []) rfl (Nat.le_of_ble_eq_true rfl) (q := 65) dX10_pays_62 rfl (exK (ws' := [_, _, _, _]) (st' := [.int (gof nb kd tw wt rt t n p (i + 1))]) rfl rfl ?_)
              refine g_aload_n (q := 66) dX10_pays_65 rfl rfl rfl ?_
              refine g_iload_n (q := 67) dX10_pays_66 rfl rfl rfl ?_
              refine g_iload_n (q := 68) dX10_pays_67 rfl rfl rfl ?_
              refine g_iload_n (q := 69) dX10_pays_68 rfl rfl rfl ?_
              refine g_iload (q := 71) dX10_pays_69 rfl rfl ?_
              refine gc_X10_269 (c_paidBy (by omega) (by omega) (by omega) hnb hw1 hkd htw hwt hrt) rfl (Nat.le_of_ble_eq_true rfl) rfl 0 rfl [0, 1, 2, 3] rfl rfl (rest := [_]) rfl (Nat.le_of_ble_eq_true rfl) (q := 74) dX10_pays_71 rfl (exK (ws' := [_, _, _, _]) (st' := [.int (gof nb kd tw wt rt t n p ((payB (gof nb kd tw wt rt t n p) i).1)), _]) rfl rfl ?_)
              refine g_icmp_le (t := 82) (q := 77) dX10_pays_74 (by decide) rfl (fun c74 => ?_) (fun c74 => ?_)
              · skip
                refine g_iload (q := 84) dX10_pays_82 rfl rfl ?_
                refine g_istore (lv' := [(0, _), (1, _), (2, _), (3, _), (4, _), (5, _), (6, _)]) (q := 86) dX10_pays_84 rfl (Nat.le_of_ble_eq_true rfl) rfl ?_
                refine g_iinc (lv' := [(0, _), (1, _), (2, _), (3, _), (4, _), (5, _), (6, _)]) (v := nI (i + 1 + 1)) (q := 89) dX10_pays_86 rfl rfl (nI_inc _) (Nat.le_of_ble_eq_true rfl) rfl ?_
                refine g_goto (q := 50) dX10_pays_89 (by decide) ?_
                rw [payB, if_neg (by rw [payB_val]; exact Int32.not_lt.mpr c74)] at ih50
                exact ih50
              · skip
                refine g_iload (q := 79) dX10_pays_77 rfl rfl ?_
                refine g_goto (q := 84) dX10_pays_79 (by decide) ?_
                refine g_istore (lv' := [(0, _), (1, _), (2, _), (3, _), (4, _), (5, _), (6, _)]) (q := 86) dX10_pays_84 rfl (Nat.le_of_ble_eq_true rfl) rfl ?_
                refine g_iinc (lv' := [(0, _), (1, _), (2, _), (3, _), (4, _), (5, _), (6, _)]) (v := nI (i + 1 + 1)) (q := 89) dX10_pays_86 rfl rfl (nI_inc _) (Nat.le_of_ble_eq_true rfl) rfl ?_
                refine g_goto (q := 50) dX10_pays_89 (by decide) ?_
                rw [payB, if_pos (by rw [payB_val]; exact Int32.not_le.mp c74)] at ih50
                exact ih50
          · skip
            show G E _ [(m0, .inr (10, (.int (nI (nt)) :: .ref mt :: .int (nI (nb)) :: .ref mk :: .ref mb :: .int (nI (lw)) :: .int (nI (sl)) :: .int (nI (tl)) :: .ref mx :: .int (po) :: .int (ta) :: .long (tk) :: .int (dg) :: .int (nu) :: .int (fa) :: .int (rm_) :: .int (rto) :: .int (rbo) :: .ref mr :: .ref mn :: .ref ma :: .ref mi :: .ref mj :: .int (nI (en)) :: .ref mg :: .int (nI (sn)) :: .ref ms :: .int (nI (dn)) :: .ref md :: .ref mc :: .ref me :: .int (ga) :: .ref mh :: .ref mo :: .ref mw :: []))), (mk, .inl (E.2.1.1, 10, .inl (nA (kd)))), (mn, .inl (E.2.1.1, 47, .inl (nowF tw wt sk gr ch yr))), (mt, .inl (E.2.1.1, 30, .inl (townF cr rt fd wn nx)))] 50 [(0, .ref m0), (1, .int (nI (t))), (2, .int (nI (n))), (3, .int (nI (p))), (4, .int (nI (k))), (5, .int (nI ((payB (gof nb kd tw wt rt t n p) 3).1))), (6, .int (nI (3 + 1)))] []
            have hpl := payB_le (gof nb kd tw wt rt t n p) 3
            refine g_iload (q := 52) dX10_pays_50 rfl rfl ?_
            refine g_iconst (v := nI 4) (q := 53) dX10_pays_52 rfl ki_4 ?_
            refine g_icmp_geN (t := 92) (q := 56) dX10_pays_53 (by decide) rfl (by omega) (by omega) (fun c53 => ?_) (fun c53 => ?_)
            · skip
              refine g_iload (q := 94) dX10_pays_92 rfl rfl ?_
              refine g_if_neN (t := 102) (q := 97) dX10_pays_94 (by decide) rfl (by omega) (fun c94 => ?_) (fun c94 => ?_)
              · skip
                refine g_aload_n (q := 103) dX10_pays_102 rfl rfl rfl ?_
                refine g_iload_n (q := 104) dX10_pays_103 rfl rfl rfl ?_
                refine g_iload_n (q := 105) dX10_pays_104 rfl rfl rfl ?_
                refine g_iload_n (q := 106) dX10_pays_105 rfl rfl rfl ?_
                refine g_iload (q := 108) dX10_pays_106 rfl rfl ?_
                refine gc_X10_269 (c_paidBy (by omega) (by omega) (by omega) hnb hw1 hkd htw hwt hrt) rfl (Nat.le_of_ble_eq_true rfl) rfl 0 rfl [0, 1, 2, 3] rfl rfl (rest := []) rfl (Nat.le_of_ble_eq_true rfl) (q := 111) dX10_pays_108 rfl (exK (ws' := [_, _, _, _]) (st' := [.int (gof nb kd tw wt rt t n p ((payB (gof nb kd tw wt rt t n p) 3).1))]) rfl rfl ?_)
                refine g_ldc (v := nI 10000000) rfl mkX10_206 (q := 113) dX10_pays_111 rfl ?_
                refine g_iadd (q := 114) dX10_pays_113 rfl ?_
                refine g_iret (st := []) dX10_pays_114 rfl rfl rfl ?_
                exact xr (by simp only [opPays, ht, hn, hp, hk, if_neg c94]; rw [payB_val, Int32.add_comm])
              · skip
                refine g_iload (q := 99) dX10_pays_97 rfl rfl ?_
                refine g_goto (q := 114) dX10_pays_99 (by decide) ?_
                refine g_iret (st := []) dX10_pays_114 rfl rfl rfl ?_
                exact xr (by simp only [opPays, ht, hn, hp, hk, if_pos c94])
            · omega
        · have nk := isSome_f (bI_eq0.mp c38)
          refine g_bipush (v := (-3)) (q := 43) dX10_pays_41 rfl kb_m3 ?_
          refine g_iret (st := []) dX10_pays_43 rfl rfl rfl ?_
          exact xr (by simp only [opPays, ht, hn, hp, nk])
  · have nt := isSome_f (bI_eq0.mp c5)
    refine g_bipush (v := (-2)) (q := 10) dX10_pays_8 rfl kb_m2 ?_
    refine g_iret (st := []) dX10_pays_10 rfl rfl rfl ?_
    exact xr (by simp only [opPays, nt])
set_option maxHeartbeats 2000000 in
set_option maxRecDepth 20000 in
theorem c_mweigh {E : EN} {m0 mt mk mb mx mr mn ma mi mj mg ms md mc me mh mo mw nt nb lw sl tl en sn dn : Nat} {po ta dg nu fa rm_ rto rbo ga : Int32} {tk : Int64} {st_ sb sw : Nat → Nat} {x y z : Int32} (hn : sn ≤ 12) (hnb : nb ≤ 10) (hnt : nt ≤ 6)  : CT E yX10_weigh cX10_weigh 4 (some .int) 2 [.ref m0, .int (x), .int (y), .int (z)] [(m0, .inr (10, (.int (nI (nt)) :: .ref mt :: .int (nI (nb)) :: .ref mk :: .ref mb :: .int (nI (lw)) :: .int (nI (sl)) :: .int (nI (tl)) :: .ref mx :: .int (po) :: .int (ta) :: .long (tk) :: .int (dg) :: .int (nu) :: .int (fa) :: .int (rm_) :: .int (rto) :: .int (rbo) :: .ref mr :: .ref mn :: .ref ma :: .ref mi :: .ref mj :: .int (nI (en)) :: .ref mg :: .int (nI (sn)) :: .ref ms :: .int (nI (dn)) :: .ref md :: .ref mc :: .ref me :: .int (ga) :: .ref mh :: .ref mo :: .ref mw :: []))), (ms, .inl (E.2.1.1, 36, .inl (scF st_ sb sw)))] (xQ (some (.int (opWeigh nt nb sn st_ sb sw x y z).1)) [(m0, .inr (10, (.int (nI (nt)) :: .ref mt :: .int (nI (nb)) :: .ref mk :: .ref mb :: .int (nI (lw)) :: .int (nI (sl)) :: .int (nI (tl)) :: .ref mx :: .int (po) :: .int (ta) :: .long (tk) :: .int (dg) :: .int (nu) :: .int (fa) :: .int (rm_) :: .int (rto) :: .int (rbo) :: .ref mr :: .ref mn :: .ref ma :: .ref mi :: .ref mj :: .int (nI (en)) :: .ref mg :: .int (nI ((opWeigh nt nb sn st_ sb sw x y z).2.1)) :: .ref ms :: .int (nI (dn)) :: .ref md :: .ref mc :: .ref me :: .int (ga) :: .ref mh :: .ref mo :: .ref mw :: []))), (ms, .inl (E.2.1.1, 36, .inl (scF ((opWeigh nt nb sn st_ sb sw x y z).2.2.1) ((opWeigh nt nb sn st_ sb sw x y z).2.2.2.1) ((opWeigh nt nb sn st_ sb sw x y z).2.2.2.2))))]) := by
  refine ct_of (by decide +kernel) (Nat.le_of_ble_eq_true rfl) (lv := [(0, .ref m0), (1, .int (x)), (2, .int (y)), (3, .int (z))]) rfl (fun A => ?_)
  refine g_aload_n (q := 1) dX10_weigh_0 rfl rfl rfl ?_
  refine g_iload_n (q := 2) dX10_weigh_1 rfl rfl rfl ?_
  refine gc_X10_203 (c_misTown (by omega)) rfl (Nat.le_of_ble_eq_true rfl) rfl 0 rfl [0] rfl rfl (rest := []) rfl (Nat.le_of_ble_eq_true rfl) (q := 5) dX10_weigh_2 rfl (exK (ws' := [_, _]) (st' := [.int (bI (tn x nt).isSome)]) rfl rfl ?_)
  refine g_if_eq (t := 16) (q := 8) dX10_weigh_5 (by decide) rfl (fun c5 => ?_) (fun c5 => ?_)
  · have nt := isSome_f (bI_eq0.mp c5)
    refine g_bipush (v := (-2)) (q := 18) dX10_weigh_16 rfl kb_m2 ?_
    refine g_iret (st := []) dX10_weigh_18 rfl rfl rfl ?_
    simp only [opWeigh, nt]
    exact ⟨rfl, rfl⟩
  · obtain ⟨t, ht⟩ := isSome_t (bI_ne0.mp c5)
    obtain ⟨ht1, rfl⟩ := tn_some ht
    refine g_aload_n (q := 9) dX10_weigh_8 rfl rfl rfl ?_
    refine g_iload_n (q := 10) dX10_weigh_9 rfl rfl rfl ?_
    refine gc_X10_211 (c_misBoy (by omega)) rfl (Nat.le_of_ble_eq_true rfl) rfl 0 rfl [0] rfl rfl (rest := []) rfl (Nat.le_of_ble_eq_true rfl) (q := 13) dX10_weigh_10 rfl (exK (ws' := [_, _]) (st' := [.int (bI (tn y nb).isSome)]) rfl rfl ?_)
    refine g_if_ne (t := 19) (q := 16) dX10_weigh_13 (by decide) rfl (fun c13 => ?_) (fun c13 => ?_)
    · obtain ⟨b, hb⟩ := isSome_t (bI_ne0.mp c13)
      obtain ⟨hb1, rfl⟩ := tn_some hb
      refine g_iload_n (q := 20) dX10_weigh_19 rfl rfl rfl ?_
      refine g_iconst (v := nI 0) (q := 21) dX10_weigh_20 rfl ki_0 ?_
      refine g_sipush (v := nI 199) (q := 24) dX10_weigh_21 rfl ks_199 ?_
      refine gc_X10_73 (c_in) rfl (Nat.le_of_ble_eq_true rfl) rfl [] rfl rfl (rest := []) rfl (Nat.le_of_ble_eq_true rfl) (q := 27) dX10_weigh_24 rfl (exK (ws' := [_, _]) (st' := [.int (bI (!ninB z (nI 0) (nI 199)))]) rfl rfl ?_)
      refine g_top (y := bI (rn z 0 199).isSome) (by rw [ninB_rn (by decide) (by decide), not_isNone]) ?_
      refine g_if_ne (t := 33) (q := 30) dX10_weigh_27 (by decide) rfl (fun c27 => ?_) (fun c27 => ?_)
      · obtain ⟨w, hw⟩ := isSome_t (bI_ne0.mp c27)
        obtain ⟨hw1, hw2, rfl⟩ := rn_some hw
        refine g_aload_n (q := 34) dX10_weigh_33 rfl rfl rfl ?_
        refine gf_X10_197 rfl 0 rfl rfl (q := 37) dX10_weigh_34 rfl ?_
        refine g_bipush (v := nI 12) (q := 39) dX10_weigh_37 rfl kb_12 ?_
        refine g_icmp_neN (t := 45) (q := 42) dX10_weigh_39 (by decide) rfl (by omega) (by omega) (fun c39 => ?_) (fun c39 => ?_)
        · skip
          refine g_aload_n (q := 46) dX10_weigh_45 rfl rfl rfl ?_
          refine gf_X10_45 rfl 0 rfl rfl (q := 49) dX10_weigh_46 rfl ?_
          refine g_iconst (v := nI 3) (q := 50) dX10_weigh_49 rfl ki_3 ?_
          refine g_aload_n (q := 51) dX10_weigh_50 rfl rfl rfl ?_
          refine gf_X10_197 rfl 0 rfl rfl (q := 54) dX10_weigh_51 rfl ?_
          refine g_imulN (q := 55) dX10_weigh_54 rfl ?_
          refine g_iload_n (q := 56) dX10_weigh_55 rfl rfl rfl ?_
          refine g_iast (f' := (scF (updn st_ sn t) sb sw)) 1 rfl (ixIn (j := 3 * sn) rfl (by omega) (by decide)) ((ixU (j := 3 * sn) rfl (by omega)).trans (scF_w0 _ _)) (ws' := [_, (_, .inl (_, _, .inl _))]) rfl (q := 57) dX10_weigh_56 rfl ?_
          refine g_aload_n (q := 58) dX10_weigh_57 rfl rfl rfl ?_
          refine gf_X10_45 rfl 0 rfl rfl (q := 61) dX10_weigh_58 rfl ?_
          refine g_iconst (v := nI 3) (q := 62) dX10_weigh_61 rfl ki_3 ?_
          refine g_aload_n (q := 63) dX10_weigh_62 rfl rfl rfl ?_
          refine gf_X10_197 rfl 0 rfl rfl (q := 66) dX10_weigh_63 rfl ?_
          refine g_imulN (q := 67) dX10_weigh_66 rfl ?_
          refine g_iconst (v := nI 1) (q := 68) dX10_weigh_67 rfl ki_1 ?_
          refine g_iaddN (q := 69) dX10_weigh_68 rfl ?_
          refine g_iload_n (q := 70) dX10_weigh_69 rfl rfl rfl ?_
          refine g_iast (f' := (scF (updn st_ sn t) (updn sb sn b) sw)) 1 rfl (ixIn (j := 3 * sn + 1) rfl (by omega) (by decide)) ((ixU (j := 3 * sn + 1) rfl (by omega)).trans (scF_w1 _ _)) (ws' := [_, (_, .inl (_, _, .inl _))]) rfl (q := 71) dX10_weigh_70 rfl ?_
          refine g_aload_n (q := 72) dX10_weigh_71 rfl rfl rfl ?_
          refine gf_X10_45 rfl 0 rfl rfl (q := 75) dX10_weigh_72 rfl ?_
          refine g_iconst (v := nI 3) (q := 76) dX10_weigh_75 rfl ki_3 ?_
          refine g_aload_n (q := 77) dX10_weigh_76 rfl rfl rfl ?_
          refine gf_X10_197 rfl 0 rfl rfl (q := 80) dX10_weigh_77 rfl ?_
          refine g_imulN (q := 81) dX10_weigh_80 rfl ?_
          refine g_iconst (v := nI 2) (q := 82) dX10_weigh_81 rfl ki_2 ?_
          refine g_iaddN (q := 83) dX10_weigh_82 rfl ?_
          refine g_iload_n (q := 84) dX10_weigh_83 rfl rfl rfl ?_
          refine g_iast (f' := (scF (updn st_ sn t) (updn sb sn b) (updn sw sn w))) 1 rfl (ixIn (j := 3 * sn + 2) rfl (by omega) (by decide)) ((ixU (j := 3 * sn + 2) rfl (by omega)).trans (scF_w2 _ _)) (ws' := [_, (_, .inl (_, _, .inl _))]) rfl (q := 85) dX10_weigh_84 rfl ?_
          refine g_aload_n (q := 86) dX10_weigh_85 rfl rfl rfl ?_
          refine g_dup (q := 87) dX10_weigh_86 rfl rfl ?_
          refine gf_X10_197 rfl 0 rfl rfl (q := 90) dX10_weigh_87 rfl ?_
          refine g_iconst (v := nI 1) (q := 91) dX10_weigh_90 rfl ki_1 ?_
          refine g_iaddN (q := 92) dX10_weigh_91 rfl ?_
          refine pf_X10_197 rfl 0 rfl (Nat.le_of_ble_eq_true rfl) (ws' := [(_, .inr (_, (_ :: _ :: _ :: _ :: _ :: _ :: _ :: _ :: _ :: _ :: _ :: _ :: _ :: _ :: _ :: _ :: _ :: _ :: _ :: _ :: _ :: _ :: _ :: _ :: _ :: _ :: _ :: _ :: _ :: _ :: _ :: _ :: _ :: _ :: _ :: []))), _]) rfl (q := 95) dX10_weigh_92 rfl ?_
          refine g_aload_n (q := 96) dX10_weigh_95 rfl rfl rfl ?_
          refine gf_X10_197 rfl 0 rfl rfl (q := 99) dX10_weigh_96 rfl ?_
          refine g_iret (st := []) dX10_weigh_99 rfl rfl rfl ?_
          simp only [opWeigh, ht, hb, hw, if_neg (show ¬ 12 ≤ sn by omega)]
          exact ⟨rfl, rfl⟩
        · skip
          refine g_bipush (v := (-5)) (q := 44) dX10_weigh_42 rfl kb_m5 ?_
          refine g_iret (st := []) dX10_weigh_44 rfl rfl rfl ?_
          simp only [opWeigh, ht, hb, hw, if_pos (show 12 ≤ sn by omega)]
          exact ⟨rfl, rfl⟩
      · have nw := isSome_f (bI_eq0.mp c27)
        refine g_bipush (v := (-3)) (q := 32) dX10_weigh_30 rfl kb_m3 ?_
        refine g_iret (st := []) dX10_weigh_32 rfl rfl rfl ?_
        simp only [opWeigh, ht, hb, nw]
        exact ⟨rfl, rfl⟩
    · have nb := isSome_f (bI_eq0.mp c13)
      refine g_bipush (v := (-2)) (q := 18) dX10_weigh_16 rfl kb_m2 ?_
      refine g_iret (st := []) dX10_weigh_18 rfl rfl rfl ?_
      simp only [opWeigh, ht, nb]
      exact ⟨rfl, rfl⟩
set_option maxHeartbeats 2000000 in
set_option maxRecDepth 20000 in
theorem c_mroad {E : EN} {m0 mt mk mb mx mr mn ma mi mj mg ms md mc me mh mo mw nt nb lw sl tl en sn dn : Nat} {po ta dg nu fa rm_ rto rbo ga : Int32} {tk : Int64} {dw dc : Nat → Nat} {x y : Int32} (hn : dn ≤ 6)  : CT E yX10_road cX10_road 3 (some .int) 2 [.ref m0, .int (x), .int (y)] [(m0, .inr (10, (.int (nI (nt)) :: .ref mt :: .int (nI (nb)) :: .ref mk :: .ref mb :: .int (nI (lw)) :: .int (nI (sl)) :: .int (nI (tl)) :: .ref mx :: .int (po) :: .int (ta) :: .long (tk) :: .int (dg) :: .int (nu) :: .int (fa) :: .int (rm_) :: .int (rto) :: .int (rbo) :: .ref mr :: .ref mn :: .ref ma :: .ref mi :: .ref mj :: .int (nI (en)) :: .ref mg :: .int (nI (sn)) :: .ref ms :: .int (nI (dn)) :: .ref md :: .ref mc :: .ref me :: .int (ga) :: .ref mh :: .ref mo :: .ref mw :: []))), (md, .inl (E.2.1.1, 12, .inl (rdF dw dc)))] (xQ (some (.int (opRoad dn dw dc x y).1)) [(m0, .inr (10, (.int (nI (nt)) :: .ref mt :: .int (nI (nb)) :: .ref mk :: .ref mb :: .int (nI (lw)) :: .int (nI (sl)) :: .int (nI (tl)) :: .ref mx :: .int (po) :: .int (ta) :: .long (tk) :: .int (dg) :: .int (nu) :: .int (fa) :: .int (rm_) :: .int (rto) :: .int (rbo) :: .ref mr :: .ref mn :: .ref ma :: .ref mi :: .ref mj :: .int (nI (en)) :: .ref mg :: .int (nI (sn)) :: .ref ms :: .int (nI ((opRoad dn dw dc x y).2.1)) :: .ref md :: .ref mc :: .ref me :: .int (ga) :: .ref mh :: .ref mo :: .ref mw :: []))), (md, .inl (E.2.1.1, 12, .inl (rdF ((opRoad dn dw dc x y).2.2.1) ((opRoad dn dw dc x y).2.2.2))))]) := by
  refine ct_of (by decide +kernel) (Nat.le_of_ble_eq_true rfl) (lv := [(0, .ref m0), (1, .int (x)), (2, .int (y))]) rfl (fun A => ?_)
  refine g_iload_n (q := 1) dX10_road_0 rfl rfl rfl ?_
  refine g_iconst (v := nI 1) (q := 2) dX10_road_1 rfl ki_1 ?_
  refine g_bipush (v := nI 99) (q := 4) dX10_road_2 rfl kb_99 ?_
  refine gc_X10_73 (c_in) rfl (Nat.le_of_ble_eq_true rfl) rfl [] rfl rfl (rest := []) rfl (Nat.le_of_ble_eq_true rfl) (q := 7) dX10_road_4 rfl (exK (ws' := [_, _]) (st' := [.int (bI (!ninB x (nI 1) (nI 99)))]) rfl rfl ?_)
  refine g_top (y := bI (rn x 1 99).isSome) (by rw [ninB_rn (by decide) (by decide), not_isNone]) ?_
  refine g_if_eq (t := 19) (q := 10) dX10_road_7 (by decide) rfl (fun c7 => ?_) (fun c7 => ?_)
  · have nw := isSome_f (bI_eq0.mp c7)
    refine g_bipush (v := (-3)) (q := 21) dX10_road_19 rfl kb_m3 ?_
    refine g_iret (st := []) dX10_road_21 rfl rfl rfl ?_
    simp only [opRoad, nw]
    exact ⟨rfl, rfl⟩
  · obtain ⟨w, hw⟩ := isSome_t (bI_ne0.mp c7)
    obtain ⟨hw1, hw2, rfl⟩ := rn_some hw
    refine g_iload_n (q := 11) dX10_road_10 rfl rfl rfl ?_
    refine g_iconst (v := nI 0) (q := 12) dX10_road_11 rfl ki_0 ?_
    refine g_iconst (v := nI 3) (q := 13) dX10_road_12 rfl ki_3 ?_
    refine gc_X10_73 (c_in) rfl (Nat.le_of_ble_eq_true rfl) rfl [] rfl rfl (rest := []) rfl (Nat.le_of_ble_eq_true rfl) (q := 16) dX10_road_13 rfl (exK (ws' := [_, _]) (st' := [.int (bI (!ninB y (nI 0) (nI 3)))]) rfl rfl ?_)
    refine g_top (y := bI (rn y 0 3).isSome) (by rw [ninB_rn (by decide) (by decide), not_isNone]) ?_
    refine g_if_ne (t := 22) (q := 19) dX10_road_16 (by decide) rfl (fun c16 => ?_) (fun c16 => ?_)
    · obtain ⟨c, hc⟩ := isSome_t (bI_ne0.mp c16)
      obtain ⟨hc1, hc2, rfl⟩ := rn_some hc
      refine g_aload_n (q := 23) dX10_road_22 rfl rfl rfl ?_
      refine gf_X10_200 rfl 0 rfl rfl (q := 26) dX10_road_23 rfl ?_
      refine g_bipush (v := nI 6) (q := 28) dX10_road_26 rfl kb_6 ?_
      refine g_icmp_neN (t := 34) (q := 31) dX10_road_28 (by decide) rfl (by omega) (by omega) (fun c28 => ?_) (fun c28 => ?_)
      · skip
        refine g_aload_n (q := 35) dX10_road_34 rfl rfl rfl ?_
        refine gf_X10_48 rfl 0 rfl rfl (q := 38) dX10_road_35 rfl ?_
        refine g_iconst (v := nI 2) (q := 39) dX10_road_38 rfl ki_2 ?_
        refine g_aload_n (q := 40) dX10_road_39 rfl rfl rfl ?_
        refine gf_X10_200 rfl 0 rfl rfl (q := 43) dX10_road_40 rfl ?_
        refine g_imulN (q := 44) dX10_road_43 rfl ?_
        refine g_iload_n (q := 45) dX10_road_44 rfl rfl rfl ?_
        refine g_iast (f' := (rdF (updn dw dn w) dc)) 1 rfl (ixIn (j := 2 * dn) rfl (by omega) (by decide)) ((ixU (j := 2 * dn) rfl (by omega)).trans (rdF_w0 _ _)) (ws' := [_, (_, .inl (_, _, .inl _))]) rfl (q := 46) dX10_road_45 rfl ?_
        refine g_aload_n (q := 47) dX10_road_46 rfl rfl rfl ?_
        refine gf_X10_48 rfl 0 rfl rfl (q := 50) dX10_road_47 rfl ?_
        refine g_iconst (v := nI 2) (q := 51) dX10_road_50 rfl ki_2 ?_
        refine g_aload_n (q := 52) dX10_road_51 rfl rfl rfl ?_
        refine gf_X10_200 rfl 0 rfl rfl (q := 55) dX10_road_52 rfl ?_
        refine g_imulN (q := 56) dX10_road_55 rfl ?_
        refine g_iconst (v := nI 1) (q := 57) dX10_road_56 rfl ki_1 ?_
        refine g_iaddN (q := 58) dX10_road_57 rfl ?_
        refine g_iload_n (q := 59) dX10_road_58 rfl rfl rfl ?_
        refine g_iast (f' := (rdF (updn dw dn w) (updn dc dn c))) 1 rfl (ixIn (j := 2 * dn + 1) rfl (by omega) (by decide)) ((ixU (j := 2 * dn + 1) rfl (by omega)).trans (rdF_w1 _ _)) (ws' := [_, (_, .inl (_, _, .inl _))]) rfl (q := 60) dX10_road_59 rfl ?_
        refine g_aload_n (q := 61) dX10_road_60 rfl rfl rfl ?_
        refine g_dup (q := 62) dX10_road_61 rfl rfl ?_
        refine gf_X10_200 rfl 0 rfl rfl (q := 65) dX10_road_62 rfl ?_
        refine g_iconst (v := nI 1) (q := 66) dX10_road_65 rfl ki_1 ?_
        refine g_iaddN (q := 67) dX10_road_66 rfl ?_
        refine pf_X10_200 rfl 0 rfl (Nat.le_of_ble_eq_true rfl) (ws' := [(_, .inr (_, (_ :: _ :: _ :: _ :: _ :: _ :: _ :: _ :: _ :: _ :: _ :: _ :: _ :: _ :: _ :: _ :: _ :: _ :: _ :: _ :: _ :: _ :: _ :: _ :: _ :: _ :: _ :: _ :: _ :: _ :: _ :: _ :: _ :: _ :: _ :: []))), _]) rfl (q := 70) dX10_road_67 rfl ?_
        refine g_aload_n (q := 71) dX10_road_70 rfl rfl rfl ?_
        refine gf_X10_200 rfl 0 rfl rfl (q := 74) dX10_road_71 rfl ?_
        refine g_iret (st := []) dX10_road_74 rfl rfl rfl ?_
        simp only [opRoad, hw, hc, if_neg (show ¬ 6 ≤ dn by omega)]
        exact ⟨rfl, rfl⟩
      · skip
        refine g_bipush (v := (-5)) (q := 33) dX10_road_31 rfl kb_m5 ?_
        refine g_iret (st := []) dX10_road_33 rfl rfl rfl ?_
        simp only [opRoad, hw, hc, if_pos (show 6 ≤ dn by omega)]
        exact ⟨rfl, rfl⟩
    · have nc := isSome_f (bI_eq0.mp c16)
      refine g_bipush (v := (-3)) (q := 21) dX10_road_19 rfl kb_m3 ?_
      refine g_iret (st := []) dX10_road_21 rfl rfl rfl ?_
      simp only [opRoad, hw, nc]
      exact ⟨rfl, rfl⟩
set_option maxHeartbeats 2000000 in
set_option maxRecDepth 20000 in
theorem c_mcount {E : EN} {m0 mt mk mb mx mr mn ma mi mj mg ms md mc me mh mo mw nt nb lw sl tl en sn dn : Nat} {po ta dg nu fa rm_ rto rbo ga : Int32} {tk : Int64} {tw wt sk gr : Nat → Nat} {ch : Nat → Int32} {yr : Nat} {x : Int32}  : CT E yX10_count cX10_count 2 (some .int) 0 [.ref m0, .int (x)] [(m0, .inr (10, (.int (nI (nt)) :: .ref mt :: .int (nI (nb)) :: .ref mk :: .ref mb :: .int (nI (lw)) :: .int (nI (sl)) :: .int (nI (tl)) :: .ref mx :: .int (po) :: .int (ta) :: .long (tk) :: .int (dg) :: .int (nu) :: .int (fa) :: .int (rm_) :: .int (rto) :: .int (rbo) :: .ref mr :: .ref mn :: .ref ma :: .ref mi :: .ref mj :: .int (nI (en)) :: .ref mg :: .int (nI (sn)) :: .ref ms :: .int (nI (dn)) :: .ref md :: .ref mc :: .ref me :: .int (ga) :: .ref mh :: .ref mo :: .ref mw :: []))), (mn, .inl (E.2.1.1, 47, .inl (nowF tw wt sk gr ch yr)))] (xQ (some (.int (opCount nt nb lw sl en yr sn dn tl x))) [(m0, .inr (10, (.int (nI (nt)) :: .ref mt :: .int (nI (nb)) :: .ref mk :: .ref mb :: .int (nI (lw)) :: .int (nI (sl)) :: .int (nI (tl)) :: .ref mx :: .int (po) :: .int (ta) :: .long (tk) :: .int (dg) :: .int (nu) :: .int (fa) :: .int (rm_) :: .int (rto) :: .int (rbo) :: .ref mr :: .ref mn :: .ref ma :: .ref mi :: .ref mj :: .int (nI (en)) :: .ref mg :: .int (nI (sn)) :: .ref ms :: .int (nI (dn)) :: .ref md :: .ref mc :: .ref me :: .int (ga) :: .ref mh :: .ref mo :: .ref mw :: []))), (mn, .inl (E.2.1.1, 47, .inl (nowF tw wt sk gr ch yr)))]) := by
  refine ct_of (by decide +kernel) (Nat.le_of_ble_eq_true rfl) (lv := [(0, .ref m0), (1, .int (x))]) rfl (fun A => ?_)
  refine g_iload_n (q := 1) dX10_count_0 rfl rfl rfl ?_
  rcases hk : tn x 9 with _ | k
  · refine g_tableOut (q := 100) dX10_count_1 (tn_out hk (by decide)) (by decide) ?_
    refine g_bipush (v := (-3)) (q := 102) dX10_count_100 rfl kb_m3 ?_
    refine g_iret (st := []) dX10_count_102 rfl rfl rfl ?_
    exact xr (by simp [opCount, hk])
  · obtain ⟨hk1, rfl⟩ := tn_some hk
    rcases (show k = 0 ∨ k = 1 ∨ k = 2 ∨ k = 3 ∨ k = 4 ∨ k = 5 ∨ k = 6 ∨ k = 7 ∨ k = 8 by omega) with rfl | rfl | rfl | rfl | rfl | rfl | rfl | rfl | rfl
    · refine g_tableIn (off := 51) (q := 52) dX10_count_1 (by decide) (by decide) (by decide) (by decide) ?_
      refine g_aload_n (q := 53) dX10_count_52 rfl rfl rfl ?_
      refine gf_X10_7 rfl 0 rfl rfl (q := 56) dX10_count_53 rfl ?_
      refine g_iret (st := []) dX10_count_56 rfl rfl rfl ?_
      exact xr (by simp [opCount, hk])
    · refine g_tableIn (off := 56) (q := 57) dX10_count_1 (by decide) (by decide) (by decide) (by decide) ?_
      refine g_aload_n (q := 58) dX10_count_57 rfl rfl rfl ?_
      refine gf_X10_77 rfl 0 rfl rfl (q := 61) dX10_count_58 rfl ?_
      refine g_iret (st := []) dX10_count_61 rfl rfl rfl ?_
      exact xr (by simp [opCount, hk])
    · refine g_tableIn (off := 61) (q := 62) dX10_count_1 (by decide) (by decide) (by decide) (by decide) ?_
      refine g_aload_n (q := 63) dX10_count_62 rfl rfl rfl ?_
      refine gf_X10_80 rfl 0 rfl rfl (q := 66) dX10_count_63 rfl ?_
      refine g_iret (st := []) dX10_count_66 rfl rfl rfl ?_
      exact xr (by simp [opCount, hk])
    · refine g_tableIn (off := 66) (q := 67) dX10_count_1 (by decide) (by decide) (by decide) (by decide) ?_
      refine g_aload_n (q := 68) dX10_count_67 rfl rfl rfl ?_
      refine gf_X10_83 rfl 0 rfl rfl (q := 71) dX10_count_68 rfl ?_
      refine g_iret (st := []) dX10_count_71 rfl rfl rfl ?_
      exact xr (by simp [opCount, hk])
    · refine g_tableIn (off := 71) (q := 72) dX10_count_1 (by decide) (by decide) (by decide) (by decide) ?_
      refine g_aload_n (q := 73) dX10_count_72 rfl rfl rfl ?_
      refine gf_X10_86 rfl 0 rfl rfl (q := 76) dX10_count_73 rfl ?_
      refine g_iret (st := []) dX10_count_76 rfl rfl rfl ?_
      exact xr (by simp [opCount, hk])
    · refine g_tableIn (off := 76) (q := 77) dX10_count_1 (by decide) (by decide) (by decide) (by decide) ?_
      refine g_aload_n (q := 78) dX10_count_77 rfl rfl rfl ?_
      refine gf_X10_29 rfl 0 rfl rfl (q := 81) dX10_count_78 rfl ?_
      refine g_bipush (v := nI 46) (q := 83) dX10_count_81 rfl kb_46 ?_
      refine g_iald (v := nI (yr)) 1 rfl (ixIn (j := 46) rfl (by omega) (by decide)) ((ixV (j := 46) rfl (by omega)).trans nowF_y) (q := 84) dX10_count_83 rfl ?_
      refine g_iret (st := []) dX10_count_84 rfl rfl rfl ?_
      exact xr (by simp [opCount, hk])
    · refine g_tableIn (off := 84) (q := 85) dX10_count_1 (by decide) (by decide) (by decide) (by decide) ?_
      refine g_aload_n (q := 86) dX10_count_85 rfl rfl rfl ?_
      refine gf_X10_197 rfl 0 rfl rfl (q := 89) dX10_count_86 rfl ?_
      refine g_iret (st := []) dX10_count_89 rfl rfl rfl ?_
      exact xr (by simp [opCount, hk])
    · refine g_tableIn (off := 89) (q := 90) dX10_count_1 (by decide) (by decide) (by decide) (by decide) ?_
      refine g_aload_n (q := 91) dX10_count_90 rfl rfl rfl ?_
      refine gf_X10_200 rfl 0 rfl rfl (q := 94) dX10_count_91 rfl ?_
      refine g_iret (st := []) dX10_count_94 rfl rfl rfl ?_
      exact xr (by simp [opCount, hk])
    · refine g_tableIn (off := 94) (q := 95) dX10_count_1 (by decide) (by decide) (by decide) (by decide) ?_
      refine g_aload_n (q := 96) dX10_count_95 rfl rfl rfl ?_
      refine gf_X10_92 rfl 0 rfl rfl (q := 99) dX10_count_96 rfl ?_
      refine g_iret (st := []) dX10_count_99 rfl rfl rfl ?_
      exact xr (by simp [opCount, hk])
set_option maxHeartbeats 2000000 in
set_option maxRecDepth 20000 in
theorem c_mkeep {E : EN} {m0 mt mk mb mx mr mn ma mi mj mg ms md mc me mh mo mw nt nb lw sl tl en sn dn : Nat} {po ta dg nu fa rm_ rto rbo ga : Int32} {tk : Int64} {kd tw wt sk gr : Nat → Nat} {ch : Nat → Int32} {yr : Nat} {K0 K1 : KT} {x : Int32}  : CT E yX10_keep cX10_keep 2 (some .int) 1 [.ref m0, .int (x)] [(m0, .inr (10, (.int (nI (nt)) :: .ref mt :: .int (nI (nb)) :: .ref mk :: .ref mb :: .int (nI (lw)) :: .int (nI (sl)) :: .int (nI (tl)) :: .ref mx :: .int (po) :: .int (ta) :: .long (tk) :: .int (dg) :: .int (nu) :: .int (fa) :: .int (rm_) :: .int (rto) :: .int (rbo) :: .ref mr :: .ref mn :: .ref ma :: .ref mi :: .ref mj :: .int (nI (en)) :: .ref mg :: .int (nI (sn)) :: .ref ms :: .int (nI (dn)) :: .ref md :: .ref mc :: .ref me :: .int (ga) :: .ref mh :: .ref mo :: .ref mw :: []))), (mn, .inl (E.2.1.1, 47, .inl (nowF tw wt sk gr ch yr))), (mi, .inl (E.2.1.1, 94, .inl (imF (nowF K0.2.2.2.2.1 K0.2.2.2.2.2.1 K0.2.2.2.2.2.2.1 K0.2.2.2.2.2.2.2.1 K0.2.2.2.2.2.2.2.2 K0.2.2.1) (nowF K1.2.2.2.2.1 K1.2.2.2.2.2.1 K1.2.2.2.2.2.2.1 K1.2.2.2.2.2.2.2.1 K1.2.2.2.2.2.2.2.2 K1.2.2.1)))), (mj, .inl (E.2.1.2.2.1, 2, .inl (ikA (K0.1) (K1.1))))] (xQ (some (.int (opKeep (nb, yr, kd, tw, wt, sk, gr, ch) K0 K1 x).1)) [(m0, .inr (10, (.int (nI (nt)) :: .ref mt :: .int (nI (nb)) :: .ref mk :: .ref mb :: .int (nI (lw)) :: .int (nI (sl)) :: .int (nI (tl)) :: .ref mx :: .int (po) :: .int (ta) :: .long (tk) :: .int (dg) :: .int (nu) :: .int (fa) :: .int (rm_) :: .int (rto) :: .int (rbo) :: .ref mr :: .ref mn :: .ref ma :: .ref mi :: .ref mj :: .int (nI (en)) :: .ref mg :: .int (nI (sn)) :: .ref ms :: .int (nI (dn)) :: .ref md :: .ref mc :: .ref me :: .int (ga) :: .ref mh :: .ref mo :: .ref mw :: []))), (mn, .inl (E.2.1.1, 47, .inl (nowF tw wt sk gr ch yr))), (mi, .inl (E.2.1.1, 94, .inl (imF (nowF (opKeep (nb, yr, kd, tw, wt, sk, gr, ch) K0 K1 x).2.1.2.2.2.2.1 (opKeep (nb, yr, kd, tw, wt, sk, gr, ch) K0 K1 x).2.1.2.2.2.2.2.1 (opKeep (nb, yr, kd, tw, wt, sk, gr, ch) K0 K1 x).2.1.2.2.2.2.2.2.1 (opKeep (nb, yr, kd, tw, wt, sk, gr, ch) K0 K1 x).2.1.2.2.2.2.2.2.2.1 (opKeep (nb, yr, kd, tw, wt, sk, gr, ch) K0 K1 x).2.1.2.2.2.2.2.2.2.2 ((opKeep (nb, yr, kd, tw, wt, sk, gr, ch) K0 K1 x).2.1.2.2.1)) (nowF (opKeep (nb, yr, kd, tw, wt, sk, gr, ch) K0 K1 x).2.2.2.2.2.2.1 (opKeep (nb, yr, kd, tw, wt, sk, gr, ch) K0 K1 x).2.2.2.2.2.2.2.1 (opKeep (nb, yr, kd, tw, wt, sk, gr, ch) K0 K1 x).2.2.2.2.2.2.2.2.1 (opKeep (nb, yr, kd, tw, wt, sk, gr, ch) K0 K1 x).2.2.2.2.2.2.2.2.2.1 (opKeep (nb, yr, kd, tw, wt, sk, gr, ch) K0 K1 x).2.2.2.2.2.2.2.2.2.2 ((opKeep (nb, yr, kd, tw, wt, sk, gr, ch) K0 K1 x).2.2.2.2.1))))), (mj, .inl (E.2.1.2.2.1, 2, .inl (ikA ((opKeep (nb, yr, kd, tw, wt, sk, gr, ch) K0 K1 x).2.1.1) ((opKeep (nb, yr, kd, tw, wt, sk, gr, ch) K0 K1 x).2.2.1))))]) := by
  refine ct_of (by decide +kernel) (Nat.le_of_ble_eq_true rfl) (lv := [(0, .ref m0), (1, .int (x))]) rfl (fun A => ?_)
  refine g_iload_n (q := 1) dX10_keep_0 rfl rfl rfl ?_
  refine g_iconst (v := nI 0) (q := 2) dX10_keep_1 rfl ki_0 ?_
  refine g_iconst (v := nI 1) (q := 3) dX10_keep_2 rfl ki_1 ?_
  refine gc_X10_73 (c_in) rfl (Nat.le_of_ble_eq_true rfl) rfl [] rfl rfl (rest := []) rfl (Nat.le_of_ble_eq_true rfl) (q := 6) dX10_keep_3 rfl (exK (ws' := [_, _, _, _]) (st' := [.int (bI (!ninB x (nI 0) (nI 1)))]) rfl rfl ?_)
  refine g_top (y := bI (rn x 0 1).isSome) (by rw [ninB_rn (by decide) (by decide), not_isNone]) ?_
  refine g_if_ne (t := 12) (q := 9) dX10_keep_6 (by decide) rfl (fun c6 => ?_) (fun c6 => ?_)
  · obtain ⟨k, hk⟩ := isSome_t (bI_ne0.mp c6)
    obtain ⟨hk1, hk2, rfl⟩ := rn_some hk
    rcases (show k = 0 ∨ k = 1 by omega) with rfl | rfl
    · skip
      refine g_aload_n (q := 13) dX10_keep_12 rfl rfl rfl ?_
      refine gf_X10_29 rfl 0 rfl rfl (q := 16) dX10_keep_13 rfl ?_
      refine g_iconst (v := nI 0) (q := 17) dX10_keep_16 rfl ki_0 ?_
      refine g_aload_n (q := 18) dX10_keep_17 rfl rfl rfl ?_
      refine gf_X10_35 rfl 0 rfl rfl (q := 21) dX10_keep_18 rfl ?_
      refine g_bipush (v := nI 47) (q := 23) dX10_keep_21 rfl kb_47 ?_
      refine g_iload_n (q := 24) dX10_keep_23 rfl rfl rfl ?_
      refine g_imulN (q := 25) dX10_keep_24 rfl ?_
      refine gc_X10_253 (c_copy_k0) rfl (Nat.le_of_ble_eq_true rfl) rfl [1, 2] rfl rfl (rest := []) rfl (Nat.le_of_ble_eq_true rfl) (q := 28) dX10_keep_25 rfl (exK (ws' := [_, (_, .inl (_, _, .inl _)), (_, .inl (_, _, .inl _)), _]) (st' := []) rfl rfl ?_)
      refine g_cong (imF (nowF tw wt sk gr ch yr) (nowF K1.2.2.2.2.1 K1.2.2.2.2.2.1 K1.2.2.2.2.2.2.1 K1.2.2.2.2.2.2.2.1 K1.2.2.2.2.2.2.2.2 K1.2.2.1)) 2 rfl (fun j hj => im_k0 _ _ _ j) (ws' := [_, _, (_, .inl (_, _, .inl _)), _]) rfl ?_
      refine g_aload_n (q := 29) dX10_keep_28 rfl rfl rfl ?_
      refine gf_X10_38 rfl 0 rfl rfl (q := 32) dX10_keep_29 rfl ?_
      refine g_iload_n (q := 33) dX10_keep_32 rfl rfl rfl ?_
      refine g_iconst (v := nI 1) (q := 34) dX10_keep_33 rfl ki_1 ?_
      refine g_zast (f' := (ikA (true) (K1.1))) 3 rfl (ixIn (j := 0) rfl (by omega) (by decide)) (ikA_w0 K0.1 K1.1 true) (ws' := [_, _, _, (_, .inl (_, _, .inl _))]) rfl (q := 35) dX10_keep_34 rfl ?_
      refine g_aload_n (q := 36) dX10_keep_35 rfl rfl rfl ?_
      refine gf_X10_29 rfl 0 rfl rfl (q := 39) dX10_keep_36 rfl ?_
      refine g_bipush (v := nI 46) (q := 41) dX10_keep_39 rfl kb_46 ?_
      refine g_iald (v := nI (yr)) 1 rfl (ixIn (j := 46) rfl (by omega) (by decide)) ((ixV (j := 46) rfl (by omega)).trans nowF_y) (q := 42) dX10_keep_41 rfl ?_
      refine g_iret (st := []) dX10_keep_42 rfl rfl rfl ?_
      simp only [opKeep, hk, if_true, if_pos rfl, reduceIte, Nat.one_ne_zero, if_false]
      exact ⟨rfl, rfl⟩
    · skip
      refine g_aload_n (q := 13) dX10_keep_12 rfl rfl rfl ?_
      refine gf_X10_29 rfl 0 rfl rfl (q := 16) dX10_keep_13 rfl ?_
      refine g_iconst (v := nI 0) (q := 17) dX10_keep_16 rfl ki_0 ?_
      refine g_aload_n (q := 18) dX10_keep_17 rfl rfl rfl ?_
      refine gf_X10_35 rfl 0 rfl rfl (q := 21) dX10_keep_18 rfl ?_
      refine g_bipush (v := nI 47) (q := 23) dX10_keep_21 rfl kb_47 ?_
      refine g_iload_n (q := 24) dX10_keep_23 rfl rfl rfl ?_
      refine g_imulN (q := 25) dX10_keep_24 rfl ?_
      refine gc_X10_253 (c_copy_k1) rfl (Nat.le_of_ble_eq_true rfl) rfl [1, 2] rfl rfl (rest := []) rfl (Nat.le_of_ble_eq_true rfl) (q := 28) dX10_keep_25 rfl (exK (ws' := [_, (_, .inl (_, _, .inl _)), (_, .inl (_, _, .inl _)), _]) (st' := []) rfl rfl ?_)
      refine g_cong (imF (nowF K0.2.2.2.2.1 K0.2.2.2.2.2.1 K0.2.2.2.2.2.2.1 K0.2.2.2.2.2.2.2.1 K0.2.2.2.2.2.2.2.2 K0.2.2.1) (nowF tw wt sk gr ch yr)) 2 rfl (fun j hj => im_k1 _ _ _ j hj) (ws' := [_, _, (_, .inl (_, _, .inl _)), _]) rfl ?_
      refine g_aload_n (q := 29) dX10_keep_28 rfl rfl rfl ?_
      refine gf_X10_38 rfl 0 rfl rfl (q := 32) dX10_keep_29 rfl ?_
      refine g_iload_n (q := 33) dX10_keep_32 rfl rfl rfl ?_
      refine g_iconst (v := nI 1) (q := 34) dX10_keep_33 rfl ki_1 ?_
      refine g_zast (f' := (ikA (K0.1) (true))) 3 rfl (ixIn (j := 1) rfl (by omega) (by decide)) (ikA_w1 K0.1 K1.1 true) (ws' := [_, _, _, (_, .inl (_, _, .inl _))]) rfl (q := 35) dX10_keep_34 rfl ?_
      refine g_aload_n (q := 36) dX10_keep_35 rfl rfl rfl ?_
      refine gf_X10_29 rfl 0 rfl rfl (q := 39) dX10_keep_36 rfl ?_
      refine g_bipush (v := nI 46) (q := 41) dX10_keep_39 rfl kb_46 ?_
      refine g_iald (v := nI (yr)) 1 rfl (ixIn (j := 46) rfl (by omega) (by decide)) ((ixV (j := 46) rfl (by omega)).trans nowF_y) (q := 42) dX10_keep_41 rfl ?_
      refine g_iret (st := []) dX10_keep_42 rfl rfl rfl ?_
      simp only [opKeep, hk, if_true, if_pos rfl, reduceIte, Nat.one_ne_zero, if_false]
      exact ⟨rfl, rfl⟩
  · have nk := isSome_f (bI_eq0.mp c6)
    refine g_bipush (v := (-2)) (q := 11) dX10_keep_9 rfl kb_m2 ?_
    refine g_iret (st := []) dX10_keep_11 rfl rfl rfl ?_
    simp only [opKeep, nk, if_true, if_pos rfl, reduceIte, Nat.one_ne_zero, if_false]
    exact ⟨rfl, rfl⟩
set_option maxHeartbeats 2000000 in
set_option maxRecDepth 20000 in
theorem c_mback {E : EN} {m0 mt mk mb mx mr mn ma mi mj mg ms md mc me mh mo mw nt nb lw sl tl en sn dn : Nat} {po ta dg nu fa rm_ rto rbo ga : Int32} {tk : Int64} {kd tw wt sk gr : Nat → Nat} {ch : Nat → Int32} {yr : Nat} {eb eg : Nat → Nat} {K0 K1 : KT} {x : Int32}  : CT E yX10_back cX10_back 2 (some .int) 1 [.ref m0, .int (x)] [(m0, .inr (10, (.int (nI (nt)) :: .ref mt :: .int (nI (nb)) :: .ref mk :: .ref mb :: .int (nI (lw)) :: .int (nI (sl)) :: .int (nI (tl)) :: .ref mx :: .int (po) :: .int (ta) :: .long (tk) :: .int (dg) :: .int (nu) :: .int (fa) :: .int (rm_) :: .int (rto) :: .int (rbo) :: .ref mr :: .ref mn :: .ref ma :: .ref mi :: .ref mj :: .int (nI (en)) :: .ref mg :: .int (nI (sn)) :: .ref ms :: .int (nI (dn)) :: .ref md :: .ref mc :: .ref me :: .int (ga) :: .ref mh :: .ref mo :: .ref mw :: []))), (mn, .inl (E.2.1.1, 47, .inl (nowF tw wt sk gr ch yr))), (mi, .inl (E.2.1.1, 94, .inl (imF (nowF K0.2.2.2.2.1 K0.2.2.2.2.2.1 K0.2.2.2.2.2.2.1 K0.2.2.2.2.2.2.2.1 K0.2.2.2.2.2.2.2.2 K0.2.2.1) (nowF K1.2.2.2.2.1 K1.2.2.2.2.2.1 K1.2.2.2.2.2.2.1 K1.2.2.2.2.2.2.2.1 K1.2.2.2.2.2.2.2.2 K1.2.2.1)))), (mj, .inl (E.2.1.2.2.1, 2, .inl (ikA (K0.1) (K1.1)))), (mg, .inl (E.2.1.1, 10, .inl (oA (gsE eb eg en))))] (xQ (some (.int (opBack (nb, yr, kd, tw, wt, sk, gr, ch) en K0 K1 x).1)) [(m0, .inr (10, (.int (nI (nt)) :: .ref mt :: .int (nI (nb)) :: .ref mk :: .ref mb :: .int (nI (lw)) :: .int (nI (sl)) :: .int (nI (tl)) :: .ref mx :: .int (po) :: .int (ta) :: .long (tk) :: .int (dg) :: .int (nu) :: .int (fa) :: .int (rm_) :: .int (rto) :: .int (rbo) :: .ref mr :: .ref mn :: .ref ma :: .ref mi :: .ref mj :: .int (nI ((opBack (nb, yr, kd, tw, wt, sk, gr, ch) en K0 K1 x).2.2)) :: .ref mg :: .int (nI (sn)) :: .ref ms :: .int (nI (dn)) :: .ref md :: .ref mc :: .ref me :: .int (ga) :: .ref mh :: .ref mo :: .ref mw :: []))), (mn, .inl (E.2.1.1, 47, .inl (nowF ((opBack (nb, yr, kd, tw, wt, sk, gr, ch) en K0 K1 x).2.1.2.2.2.1) ((opBack (nb, yr, kd, tw, wt, sk, gr, ch) en K0 K1 x).2.1.2.2.2.2.1) ((opBack (nb, yr, kd, tw, wt, sk, gr, ch) en K0 K1 x).2.1.2.2.2.2.2.1) ((opBack (nb, yr, kd, tw, wt, sk, gr, ch) en K0 K1 x).2.1.2.2.2.2.2.2.1) ((opBack (nb, yr, kd, tw, wt, sk, gr, ch) en K0 K1 x).2.1.2.2.2.2.2.2.2) ((opBack (nb, yr, kd, tw, wt, sk, gr, ch) en K0 K1 x).2.1.2.1)))), (mi, .inl (E.2.1.1, 94, .inl (imF (nowF K0.2.2.2.2.1 K0.2.2.2.2.2.1 K0.2.2.2.2.2.2.1 K0.2.2.2.2.2.2.2.1 K0.2.2.2.2.2.2.2.2 K0.2.2.1) (nowF K1.2.2.2.2.1 K1.2.2.2.2.2.1 K1.2.2.2.2.2.2.1 K1.2.2.2.2.2.2.2.1 K1.2.2.2.2.2.2.2.2 K1.2.2.1)))), (mj, .inl (E.2.1.2.2.1, 2, .inl (ikA (K0.1) (K1.1)))), (mg, .inl (E.2.1.1, 10, .inl (oA (gsE eb eg (opBack (nb, yr, kd, tw, wt, sk, gr, ch) en K0 K1 x).2.2))))]) := by
  refine ct_of (by decide +kernel) (Nat.le_of_ble_eq_true rfl) (lv := [(0, .ref m0), (1, .int (x))]) rfl (fun A => ?_)
  refine g_iload_n (q := 1) dX10_back_0 rfl rfl rfl ?_
  refine g_iconst (v := nI 0) (q := 2) dX10_back_1 rfl ki_0 ?_
  refine g_iconst (v := nI 1) (q := 3) dX10_back_2 rfl ki_1 ?_
  refine gc_X10_73 (c_in) rfl (Nat.le_of_ble_eq_true rfl) rfl [] rfl rfl (rest := []) rfl (Nat.le_of_ble_eq_true rfl) (q := 6) dX10_back_3 rfl (exK (ws' := [_, _, _, _, _]) (st' := [.int (bI (!ninB x (nI 0) (nI 1)))]) rfl rfl ?_)
  refine g_top (y := bI (rn x 0 1).isSome) (by rw [ninB_rn (by decide) (by decide), not_isNone]) ?_
  refine g_if_ne (t := 12) (q := 9) dX10_back_6 (by decide) rfl (fun c6 => ?_) (fun c6 => ?_)
  · obtain ⟨k, hk⟩ := isSome_t (bI_ne0.mp c6)
    obtain ⟨hk1, hk2, rfl⟩ := rn_some hk
    rcases (show k = 0 ∨ k = 1 by omega) with rfl | rfl
    · skip
      refine g_aload_n (q := 13) dX10_back_12 rfl rfl rfl ?_
      refine gf_X10_38 rfl 0 rfl rfl (q := 16) dX10_back_13 rfl ?_
      refine g_iload_n (q := 17) dX10_back_16 rfl rfl rfl ?_
      refine g_zald (v := bI (K0.1)) 3 rfl (ixIn (j := 0) rfl (by omega) (by decide)) rfl (q := 18) dX10_back_17 rfl ?_
      refine g_if_ne (t := 24) (q := 21) dX10_back_18 (by decide) rfl (fun c18 => ?_) (fun c18 => ?_)
      · skip
        refine g_aload_n (q := 25) dX10_back_24 rfl rfl rfl ?_
        refine gf_X10_35 rfl 0 rfl rfl (q := 28) dX10_back_25 rfl ?_
        refine g_bipush (v := nI 47) (q := 30) dX10_back_28 rfl kb_47 ?_
        refine g_iload_n (q := 31) dX10_back_30 rfl rfl rfl ?_
        refine g_imulN (q := 32) dX10_back_31 rfl ?_
        refine g_aload_n (q := 33) dX10_back_32 rfl rfl rfl ?_
        refine gf_X10_29 rfl 0 rfl rfl (q := 36) dX10_back_33 rfl ?_
        refine g_iconst (v := nI 0) (q := 37) dX10_back_36 rfl ki_0 ?_
        refine gc_X10_253 (c_copy_b0) rfl (Nat.le_of_ble_eq_true rfl) rfl [2, 1] rfl rfl (rest := []) rfl (Nat.le_of_ble_eq_true rfl) (q := 40) dX10_back_37 rfl (exK (ws' := [_, (_, .inl (_, _, .inl _)), (_, .inl (_, _, .inl _)), _, _]) (st' := []) rfl rfl ?_)
        refine g_cong (nowF K0.2.2.2.2.1 K0.2.2.2.2.2.1 K0.2.2.2.2.2.2.1 K0.2.2.2.2.2.2.2.1 K0.2.2.2.2.2.2.2.2 K0.2.2.1) 1 rfl (fun j hj => im_b0 _ _ _ j hj) (ws' := [_, (_, .inl (_, _, .inl _)), _, _, _]) rfl ?_
        refine g_aload_n (q := 41) dX10_back_40 rfl rfl rfl ?_
        refine gc_X10_89 (c_goNowhere) rfl (Nat.le_of_ble_eq_true rfl) rfl 0 rfl [0, 4] rfl rfl (rest := []) rfl (Nat.le_of_ble_eq_true rfl) (q := 44) dX10_back_41 rfl (exK (ws' := [(_, .inr (_, (_ :: _ :: _ :: _ :: _ :: _ :: _ :: _ :: _ :: _ :: _ :: _ :: _ :: _ :: _ :: _ :: _ :: _ :: _ :: _ :: _ :: _ :: _ :: _ :: _ :: _ :: _ :: _ :: _ :: _ :: _ :: _ :: _ :: _ :: _ :: []))), _, _, _, (_, .inl (_, _, .inl _))]) (st' := []) rfl rfl ?_)
        refine g_aload_n (q := 45) dX10_back_44 rfl rfl rfl ?_
        refine gf_X10_29 rfl 0 rfl rfl (q := 48) dX10_back_45 rfl ?_
        refine g_bipush (v := nI 46) (q := 50) dX10_back_48 rfl kb_46 ?_
        refine g_iald (v := nI (K0.2.2.1)) 1 rfl (ixIn (j := 46) rfl (by omega) (by decide)) ((ixV (j := 46) rfl (by omega)).trans nowF_y) (q := 51) dX10_back_50 rfl ?_
        refine g_iret (st := []) dX10_back_51 rfl rfl rfl ?_
        simp only [opBack, hk, if_true, if_pos rfl, reduceIte, Nat.one_ne_zero, if_false, bI_ne0.mp c18]
        exact ⟨rfl, rfl⟩
      · skip
        refine g_bipush (v := (-4)) (q := 23) dX10_back_21 rfl kb_m4 ?_
        refine g_iret (st := []) dX10_back_23 rfl rfl rfl ?_
        simp only [opBack, hk, if_true, if_pos rfl, reduceIte, Nat.one_ne_zero, if_false, bI_eq0.mp c18, Bool.false_eq_true]
        exact ⟨rfl, rfl⟩
    · skip
      refine g_aload_n (q := 13) dX10_back_12 rfl rfl rfl ?_
      refine gf_X10_38 rfl 0 rfl rfl (q := 16) dX10_back_13 rfl ?_
      refine g_iload_n (q := 17) dX10_back_16 rfl rfl rfl ?_
      refine g_zald (v := bI (K1.1)) 3 rfl (ixIn (j := 1) rfl (by omega) (by decide)) rfl (q := 18) dX10_back_17 rfl ?_
      refine g_if_ne (t := 24) (q := 21) dX10_back_18 (by decide) rfl (fun c18 => ?_) (fun c18 => ?_)
      · skip
        refine g_aload_n (q := 25) dX10_back_24 rfl rfl rfl ?_
        refine gf_X10_35 rfl 0 rfl rfl (q := 28) dX10_back_25 rfl ?_
        refine g_bipush (v := nI 47) (q := 30) dX10_back_28 rfl kb_47 ?_
        refine g_iload_n (q := 31) dX10_back_30 rfl rfl rfl ?_
        refine g_imulN (q := 32) dX10_back_31 rfl ?_
        refine g_aload_n (q := 33) dX10_back_32 rfl rfl rfl ?_
        refine gf_X10_29 rfl 0 rfl rfl (q := 36) dX10_back_33 rfl ?_
        refine g_iconst (v := nI 0) (q := 37) dX10_back_36 rfl ki_0 ?_
        refine gc_X10_253 (c_copy_b1) rfl (Nat.le_of_ble_eq_true rfl) rfl [2, 1] rfl rfl (rest := []) rfl (Nat.le_of_ble_eq_true rfl) (q := 40) dX10_back_37 rfl (exK (ws' := [_, (_, .inl (_, _, .inl _)), (_, .inl (_, _, .inl _)), _, _]) (st' := []) rfl rfl ?_)
        refine g_cong (nowF K1.2.2.2.2.1 K1.2.2.2.2.2.1 K1.2.2.2.2.2.2.1 K1.2.2.2.2.2.2.2.1 K1.2.2.2.2.2.2.2.2 K1.2.2.1) 1 rfl (fun j hj => im_b1 _ _ _ j hj) (ws' := [_, (_, .inl (_, _, .inl _)), _, _, _]) rfl ?_
        refine g_aload_n (q := 41) dX10_back_40 rfl rfl rfl ?_
        refine gc_X10_89 (c_goNowhere) rfl (Nat.le_of_ble_eq_true rfl) rfl 0 rfl [0, 4] rfl rfl (rest := []) rfl (Nat.le_of_ble_eq_true rfl) (q := 44) dX10_back_41 rfl (exK (ws' := [(_, .inr (_, (_ :: _ :: _ :: _ :: _ :: _ :: _ :: _ :: _ :: _ :: _ :: _ :: _ :: _ :: _ :: _ :: _ :: _ :: _ :: _ :: _ :: _ :: _ :: _ :: _ :: _ :: _ :: _ :: _ :: _ :: _ :: _ :: _ :: _ :: _ :: []))), _, _, _, (_, .inl (_, _, .inl _))]) (st' := []) rfl rfl ?_)
        refine g_aload_n (q := 45) dX10_back_44 rfl rfl rfl ?_
        refine gf_X10_29 rfl 0 rfl rfl (q := 48) dX10_back_45 rfl ?_
        refine g_bipush (v := nI 46) (q := 50) dX10_back_48 rfl kb_46 ?_
        refine g_iald (v := nI (K1.2.2.1)) 1 rfl (ixIn (j := 46) rfl (by omega) (by decide)) ((ixV (j := 46) rfl (by omega)).trans nowF_y) (q := 51) dX10_back_50 rfl ?_
        refine g_iret (st := []) dX10_back_51 rfl rfl rfl ?_
        simp only [opBack, hk, if_true, if_pos rfl, reduceIte, Nat.one_ne_zero, if_false, bI_ne0.mp c18]
        exact ⟨rfl, rfl⟩
      · skip
        refine g_bipush (v := (-4)) (q := 23) dX10_back_21 rfl kb_m4 ?_
        refine g_iret (st := []) dX10_back_23 rfl rfl rfl ?_
        simp only [opBack, hk, if_true, if_pos rfl, reduceIte, Nat.one_ne_zero, if_false, bI_eq0.mp c18, Bool.false_eq_true]
        exact ⟨rfl, rfl⟩
  · have nk := isSome_f (bI_eq0.mp c6)
    refine g_bipush (v := (-2)) (q := 11) dX10_back_9 rfl kb_m2 ?_
    refine g_iret (st := []) dX10_back_11 rfl rfl rfl ?_
    simp only [opBack, nk, if_true, if_pos rfl, reduceIte, Nat.one_ne_zero, if_false]
    exact ⟨rfl, rfl⟩
