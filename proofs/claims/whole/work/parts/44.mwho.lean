set_option maxHeartbeats 2000000 in
set_option maxRecDepth 20000 in
theorem c_canBe {E : EN} {m0 mt mk mb mx mr mn ma mi mj mg ms md mc me mh mo mw nt nb lw sl tl en sn dn : Nat} {po ta dg nu fa rm_ rto rbo ga : Int32} {tk : Int64} {tw wt sk gr : Nat → Nat} {ch : Nat → Int32} {yr : Nat} {dw dc : Nat → Nat} {d b : Nat} (hd : d < 6) (hb : b < 10) (hdw : ∀ j, j < 6 → dw j < 1000) (hdc : ∀ j, j < 6 → dc j < 1000) (hwt : ∀ j, j < 10 → wt j < 100) (hsk : ∀ j, j < 10 → sk j < 4)  : CT E yX10_canBe cX10_canBe 3 (some .boolean) 1 [.ref m0, .int (nI (d)), .int (nI (b))] [(m0, .inr (10, (.int (nI (nt)) :: .ref mt :: .int (nI (nb)) :: .ref mk :: .ref mb :: .int (nI (lw)) :: .int (nI (sl)) :: .int (nI (tl)) :: .ref mx :: .int (po) :: .int (ta) :: .long (tk) :: .int (dg) :: .int (nu) :: .int (fa) :: .int (rm_) :: .int (rto) :: .int (rbo) :: .ref mr :: .ref mn :: .ref ma :: .ref mi :: .ref mj :: .int (nI (en)) :: .ref mg :: .int (nI (sn)) :: .ref ms :: .int (nI (dn)) :: .ref md :: .ref mc :: .ref me :: .int (ga) :: .ref mh :: .ref mo :: .ref mw :: []))), (mn, .inl (E.2.1.1, 47, .inl (nowF tw wt sk gr ch yr))), (md, .inl (E.2.1.1, 12, .inl (rdF dw dc)))] (xQ (some (.int (bI (fitB sk wt dw dc d b)))) [(m0, .inr (10, (.int (nI (nt)) :: .ref mt :: .int (nI (nb)) :: .ref mk :: .ref mb :: .int (nI (lw)) :: .int (nI (sl)) :: .int (nI (tl)) :: .ref mx :: .int (po) :: .int (ta) :: .long (tk) :: .int (dg) :: .int (nu) :: .int (fa) :: .int (rm_) :: .int (rto) :: .int (rbo) :: .ref mr :: .ref mn :: .ref ma :: .ref mi :: .ref mj :: .int (nI (en)) :: .ref mg :: .int (nI (sn)) :: .ref ms :: .int (nI (dn)) :: .ref md :: .ref mc :: .ref me :: .int (ga) :: .ref mh :: .ref mo :: .ref mw :: []))), (mn, .inl (E.2.1.1, 47, .inl (nowF tw wt sk gr ch yr))), (md, .inl (E.2.1.1, 12, .inl (rdF dw dc)))]) := by
  refine ct_of (by decide +kernel) (Nat.le_of_ble_eq_true rfl) (lv := [(0, .ref m0), (1, .int (nI (d))), (2, .int (nI (b)))]) rfl (fun A => ?_)
  refine g_aload_n (q := 1) dX10_canBe_0 rfl rfl rfl ?_
  refine gf_X10_29 rfl 0 rfl rfl (q := 4) dX10_canBe_1 rfl ?_
  refine g_bipush (v := nI 20) (q := 6) dX10_canBe_4 rfl kb_20 ?_
  refine g_iload_n (q := 7) dX10_canBe_6 rfl rfl rfl ?_
  refine g_iaddN (q := 8) dX10_canBe_7 rfl ?_
  have hb1 := hsk (b) (by omega)
  refine g_iald (v := nI (sk b)) 1 rfl (ixIn (j := 20 + b) rfl (by omega) (by decide)) ((ixV (j := 20 + b) rfl (by omega)).trans (nowF_s (by omega))) (q := 9) dX10_canBe_8 rfl ?_
  refine g_aload_n (q := 10) dX10_canBe_9 rfl rfl rfl ?_
  refine gf_X10_48 rfl 0 rfl rfl (q := 13) dX10_canBe_10 rfl ?_
  refine g_iconst (v := nI 2) (q := 14) dX10_canBe_13 rfl ki_2 ?_
  refine g_iload_n (q := 15) dX10_canBe_14 rfl rfl rfl ?_
  refine g_imulN (q := 16) dX10_canBe_15 rfl ?_
  refine g_iconst (v := nI 1) (q := 17) dX10_canBe_16 rfl ki_1 ?_
  refine g_iaddN (q := 18) dX10_canBe_17 rfl ?_
  have hb2 := hdc (d) (by omega)
  refine g_iald (v := nI (dc d)) 2 rfl (ixIn (j := 2 * d + 1) rfl (by omega) (by decide)) ((ixV (j := 2 * d + 1) rfl (by omega)).trans (rdF_1 d)) (q := 19) dX10_canBe_18 rfl ?_
  refine g_icmp_neN (t := 52) (q := 22) dX10_canBe_19 (by decide) rfl (by omega) (by omega) (fun c19 => ?_) (fun c19 => ?_)
  · skip
    refine g_iconst (v := nI 0) (q := 53) dX10_canBe_52 rfl ki_0 ?_
    refine g_iret (st := []) dX10_canBe_53 rfl (narZ (by first | exact Or.inl rfl | exact Or.inr rfl)) rfl ?_
    exact xr (show nI (0) = bI (fitB sk wt dw dc d b) by exact bI_f (fun z => c19 z.1))
  · skip
    refine g_aload_n (q := 23) dX10_canBe_22 rfl rfl rfl ?_
    refine gf_X10_29 rfl 0 rfl rfl (q := 26) dX10_canBe_23 rfl ?_
    refine g_bipush (v := nI 10) (q := 28) dX10_canBe_26 rfl kb_10 ?_
    refine g_iload_n (q := 29) dX10_canBe_28 rfl rfl rfl ?_
    refine g_iaddN (q := 30) dX10_canBe_29 rfl ?_
    have hb3 := hwt (b) (by omega)
    refine g_iald (v := nI (wt b)) 1 rfl (ixIn (j := 10 + b) rfl (by omega) (by decide)) ((ixV (j := 10 + b) rfl (by omega)).trans (nowF_w (by omega))) (q := 31) dX10_canBe_30 rfl ?_
    refine g_aload_n (q := 32) dX10_canBe_31 rfl rfl rfl ?_
    refine gf_X10_48 rfl 0 rfl rfl (q := 35) dX10_canBe_32 rfl ?_
    refine g_iconst (v := nI 2) (q := 36) dX10_canBe_35 rfl ki_2 ?_
    refine g_iload_n (q := 37) dX10_canBe_36 rfl rfl rfl ?_
    refine g_imulN (q := 38) dX10_canBe_37 rfl ?_
    have hb4 := hdw (d) (by omega)
    refine g_iald (v := nI (dw d)) 2 rfl (ixIn (j := 2 * d) rfl (by omega) (by decide)) ((ixV (j := 2 * d) rfl (by omega)).trans (rdF_0 d)) (q := 39) dX10_canBe_38 rfl ?_
    refine g_isub (q := 40) dX10_canBe_39 rfl ?_
    refine g_iconst (v := (-1)) (q := 41) dX10_canBe_40 rfl ki_m1 ?_
    refine g_iconst (v := nI 1) (q := 42) dX10_canBe_41 rfl ki_1 ?_
    refine gc_X10_73 (c_in) rfl (Nat.le_of_ble_eq_true rfl) rfl [] rfl rfl (rest := []) rfl (Nat.le_of_ble_eq_true rfl) (q := 45) dX10_canBe_42 rfl (exK (ws' := [_, _, _]) (st' := [.int (bI (!ninB (nI (wt b) - nI (dw d)) (-1) (nI 1)))]) rfl rfl ?_)
    refine g_top (y := bI (decide (wt b ≤ dw d + 1 ∧ dw d ≤ wt b + 1))) (by rw [in1 (by omega) (by omega), Bool.not_not]) ?_
    refine g_if_eq (t := 52) (q := 48) dX10_canBe_45 (by decide) rfl (fun c45 => ?_) (fun c45 => ?_)
    · skip
      refine g_iconst (v := nI 0) (q := 53) dX10_canBe_52 rfl ki_0 ?_
      refine g_iret (st := []) dX10_canBe_53 rfl (narZ (by first | exact Or.inl rfl | exact Or.inr rfl)) rfl ?_
      exact xr (show nI (0) = bI (fitB sk wt dw dc d b) by exact bI_f (fun z => of_decide_eq_false (bI_eq0.mp c45) z.2))
    · skip
      refine g_iconst (v := nI 1) (q := 49) dX10_canBe_48 rfl ki_1 ?_
      refine g_goto (q := 53) dX10_canBe_49 (by decide) ?_
      refine g_iret (st := []) dX10_canBe_53 rfl (narZ (by first | exact Or.inl rfl | exact Or.inr rfl)) rfl ?_
      exact xr (show nI (1) = bI (fitB sk wt dw dc d b) by exact bI_t ⟨c19, of_decide_eq_true (bI_ne0.mp c45)⟩)
set_option maxHeartbeats 2000000 in
set_option maxRecDepth 20000 in
theorem c_isFree {E : EN} {m0 mt mk mb mx mr mn ma mi mj mg ms md mc me mh mo mw nt nb lw sl tl en sn dn : Nat} {po ta dg nu fa rm_ rto rbo ga : Int32} {tk : Int64} {r : Nat → Nat} {d : Nat} (hd : d < 7) (hr : ∀ k, r k < 1000)  : CT E yX10_isFree cX10_isFree 4 (some .boolean) 0 [.ref m0, .int (nI (d))] [(m0, .inr (10, (.int (nI (nt)) :: .ref mt :: .int (nI (nb)) :: .ref mk :: .ref mb :: .int (nI (lw)) :: .int (nI (sl)) :: .int (nI (tl)) :: .ref mx :: .int (po) :: .int (ta) :: .long (tk) :: .int (dg) :: .int (nu) :: .int (fa) :: .int (rm_) :: .int (rto) :: .int (rbo) :: .ref mr :: .ref mn :: .ref ma :: .ref mi :: .ref mj :: .int (nI (en)) :: .ref mg :: .int (nI (sn)) :: .ref ms :: .int (nI (dn)) :: .ref md :: .ref mc :: .ref me :: .int (ga) :: .ref mh :: .ref mo :: .ref mw :: []))), (mw, .inl (E.2.1.1, 7, .inl (rwF (r))))] (xQ (some (.int (bI (frB r d)))) [(m0, .inr (10, (.int (nI (nt)) :: .ref mt :: .int (nI (nb)) :: .ref mk :: .ref mb :: .int (nI (lw)) :: .int (nI (sl)) :: .int (nI (tl)) :: .ref mx :: .int (po) :: .int (ta) :: .long (tk) :: .int (dg) :: .int (nu) :: .int (fa) :: .int (rm_) :: .int (rto) :: .int (rbo) :: .ref mr :: .ref mn :: .ref ma :: .ref mi :: .ref mj :: .int (nI (en)) :: .ref mg :: .int (nI (sn)) :: .ref ms :: .int (nI (dn)) :: .ref md :: .ref mc :: .ref me :: .int (ga) :: .ref mh :: .ref mo :: .ref mw :: []))), (mw, .inl (E.2.1.1, 7, .inl (rwF (r))))]) := by
  refine ct_of (by decide +kernel) (Nat.le_of_ble_eq_true rfl) (lv := [(0, .ref m0), (1, .int (nI (d)))]) rfl (fun A => ?_)
  refine g_iconst (v := nI 1) (q := 1) dX10_isFree_0 rfl ki_1 ?_
  refine g_istore_n (lv' := [(0, _), (1, _), (2, _)]) (q := 2) dX10_isFree_1 rfl rfl (Nat.le_of_ble_eq_true rfl) rfl ?_
  refine g_iconst (v := nI 0) (q := 3) dX10_isFree_2 rfl ki_0 ?_
  refine g_istore_n (lv' := [(0, _), (1, _), (2, _), (3, _)]) (q := 4) dX10_isFree_3 rfl rfl (Nat.le_of_ble_eq_true rfl) rfl ?_
  refine g_eq (lv' := [(0, .ref m0), (1, .int (nI d)), (2, .int (bI (allN (fun k => !decide (r k = r d)) 0))), (3, .int (nI 0))]) ?_ rfl rfl rfl
  refine g_loop (d) (fun k => [(m0, .inr (10, (.int (nI (nt)) :: .ref mt :: .int (nI (nb)) :: .ref mk :: .ref mb :: .int (nI (lw)) :: .int (nI (sl)) :: .int (nI (tl)) :: .ref mx :: .int (po) :: .int (ta) :: .long (tk) :: .int (dg) :: .int (nu) :: .int (fa) :: .int (rm_) :: .int (rto) :: .int (rbo) :: .ref mr :: .ref mn :: .ref ma :: .ref mi :: .ref mj :: .int (nI (en)) :: .ref mg :: .int (nI (sn)) :: .ref ms :: .int (nI (dn)) :: .ref md :: .ref mc :: .ref me :: .int (ga) :: .ref mh :: .ref mo :: .ref mw :: []))), (mw, .inl (E.2.1.1, 7, .inl (rwF (r))))]) (fun k => [(0, .ref m0), (1, .int (nI (d))), (2, .int (bI (allN (fun k => !decide (r k = r d)) k))), (3, .int (nI (k)))]) ?_ ?_ 0 (Nat.zero_le _)
  · intro k hk4 ih4
    have q1 := hr k
    have q2 := hr d
    show G E _ [(m0, .inr (10, (.int (nI (nt)) :: .ref mt :: .int (nI (nb)) :: .ref mk :: .ref mb :: .int (nI (lw)) :: .int (nI (sl)) :: .int (nI (tl)) :: .ref mx :: .int (po) :: .int (ta) :: .long (tk) :: .int (dg) :: .int (nu) :: .int (fa) :: .int (rm_) :: .int (rto) :: .int (rbo) :: .ref mr :: .ref mn :: .ref ma :: .ref mi :: .ref mj :: .int (nI (en)) :: .ref mg :: .int (nI (sn)) :: .ref ms :: .int (nI (dn)) :: .ref md :: .ref mc :: .ref me :: .int (ga) :: .ref mh :: .ref mo :: .ref mw :: []))), (mw, .inl (E.2.1.1, 7, .inl (rwF (r))))] 4 [(0, .ref m0), (1, .int (nI (d))), (2, .int (bI (allN (fun k => !decide (r k = r d)) k))), (3, .int (nI (k)))] []
    refine g_iload_n (q := 5) dX10_isFree_4 rfl rfl rfl ?_
    refine g_iload_n (q := 6) dX10_isFree_5 rfl rfl rfl ?_
    refine g_icmp_geN (t := 40) (q := 9) dX10_isFree_6 (by decide) rfl (by omega) (by omega) (fun c6 => ?_) (fun c6 => ?_)
    · omega
    · skip
      refine g_iload_n (q := 10) dX10_isFree_9 rfl rfl rfl ?_
      refine g_if_eq (t := 32) (q := 13) dX10_isFree_10 (by decide) rfl (fun c10 => ?_) (fun c10 => ?_)
      · skip
        refine g_iconst (v := nI 0) (q := 33) dX10_isFree_32 rfl ki_0 ?_
        refine g_istore_n (lv' := [(0, _), (1, _), (2, _), (3, _)]) (q := 34) dX10_isFree_33 rfl rfl (Nat.le_of_ble_eq_true rfl) rfl ?_
        refine g_iinc (lv' := [(0, _), (1, _), (2, _), (3, _)]) (v := nI (k + 1)) (q := 37) dX10_isFree_34 rfl rfl (nI_inc _) (Nat.le_of_ble_eq_true rfl) rfl ?_
        refine g_goto (q := 4) dX10_isFree_37 (by decide) ?_
        rw [frB_s, bI_eq0.mp c10] at ih4
        exact ih4
      · skip
        refine g_aload_n (q := 14) dX10_isFree_13 rfl rfl rfl ?_
        refine gf_X10_63 rfl 0 rfl rfl (q := 17) dX10_isFree_14 rfl ?_
        refine g_iload_n (q := 18) dX10_isFree_17 rfl rfl rfl ?_
        refine g_iald (v := nI (r k) - 1) 1 rfl (ixIn (j := k) rfl (by omega) (by decide)) (ixV (j := k) rfl (by omega)) (q := 19) dX10_isFree_18 rfl ?_
        refine g_aload_n (q := 20) dX10_isFree_19 rfl rfl rfl ?_
        refine gf_X10_63 rfl 0 rfl rfl (q := 23) dX10_isFree_20 rfl ?_
        refine g_iload_n (q := 24) dX10_isFree_23 rfl rfl rfl ?_
        refine g_iald (v := nI (r d) - 1) 1 rfl (ixIn (j := d) rfl (by omega) (by decide)) (ixV (j := d) rfl (by omega)) (q := 25) dX10_isFree_24 rfl ?_
        refine g_icmp_eq (t := 32) (q := 28) dX10_isFree_25 (by decide) rfl (fun c25 => ?_) (fun c25 => ?_)
        · skip
          refine g_iconst (v := nI 0) (q := 33) dX10_isFree_32 rfl ki_0 ?_
          refine g_istore_n (lv' := [(0, _), (1, _), (2, _), (3, _)]) (q := 34) dX10_isFree_33 rfl rfl (Nat.le_of_ble_eq_true rfl) rfl ?_
          refine g_iinc (lv' := [(0, _), (1, _), (2, _), (3, _)]) (v := nI (k + 1)) (q := 37) dX10_isFree_34 rfl rfl (nI_inc _) (Nat.le_of_ble_eq_true rfl) rfl ?_
          refine g_goto (q := 4) dX10_isFree_37 (by decide) ?_
          rw [frB_s, bI_ne0.mp c10, decide_eq_true ((rw_inj (by omega) (by omega)).mp c25)] at ih4
          exact ih4
        · skip
          refine g_iconst (v := nI 1) (q := 29) dX10_isFree_28 rfl ki_1 ?_
          refine g_goto (q := 33) dX10_isFree_29 (by decide) ?_
          refine g_istore_n (lv' := [(0, _), (1, _), (2, _), (3, _)]) (q := 34) dX10_isFree_33 rfl rfl (Nat.le_of_ble_eq_true rfl) rfl ?_
          refine g_iinc (lv' := [(0, _), (1, _), (2, _), (3, _)]) (v := nI (k + 1)) (q := 37) dX10_isFree_34 rfl rfl (nI_inc _) (Nat.le_of_ble_eq_true rfl) rfl ?_
          refine g_goto (q := 4) dX10_isFree_37 (by decide) ?_
          rw [frB_s, bI_ne0.mp c10, decide_eq_false (fun z => c25 ((rw_inj (by omega) (by omega)).mpr z))] at ih4
          exact ih4
  · skip
    show G E _ [(m0, .inr (10, (.int (nI (nt)) :: .ref mt :: .int (nI (nb)) :: .ref mk :: .ref mb :: .int (nI (lw)) :: .int (nI (sl)) :: .int (nI (tl)) :: .ref mx :: .int (po) :: .int (ta) :: .long (tk) :: .int (dg) :: .int (nu) :: .int (fa) :: .int (rm_) :: .int (rto) :: .int (rbo) :: .ref mr :: .ref mn :: .ref ma :: .ref mi :: .ref mj :: .int (nI (en)) :: .ref mg :: .int (nI (sn)) :: .ref ms :: .int (nI (dn)) :: .ref md :: .ref mc :: .ref me :: .int (ga) :: .ref mh :: .ref mo :: .ref mw :: []))), (mw, .inl (E.2.1.1, 7, .inl (rwF (r))))] 4 [(0, .ref m0), (1, .int (nI (d))), (2, .int (bI (allN (fun k => !decide (r k = r d)) d))), (3, .int (nI (d)))] []
    refine g_iload_n (q := 5) dX10_isFree_4 rfl rfl rfl ?_
    refine g_iload_n (q := 6) dX10_isFree_5 rfl rfl rfl ?_
    refine g_icmp_geN (t := 40) (q := 9) dX10_isFree_6 (by decide) rfl (by omega) (by omega) (fun c6 => ?_) (fun c6 => ?_)
    · skip
      refine g_iload_n (q := 41) dX10_isFree_40 rfl rfl rfl ?_
      refine g_iret (st := []) dX10_isFree_41 rfl (narZ (bI_01 _)) rfl ?_
      exact (xr rfl)
    · omega
set_option maxHeartbeats 2000000 in
set_option maxRecDepth 20000 in
theorem c_mwho {E : EN} {m0 mt mk mb mx mr mn ma mi mj mg ms md mc me mh mo mw nt nb lw sl tl en sn dn : Nat} {po ta dg nu fa rm_ rto rbo ga : Int32} {tk : Int64} {tw wt sk gr : Nat → Nat} {ch : Nat → Int32} {yr : Nat} {dw dc : Nat → Nat} {r0 : Nat → Nat} {x : Int32} (hdn : dn ≤ 6) (hnb : nb ≤ 10) (hr0 : ∀ k, r0 k ≤ 11) (hdw : ∀ j, j < 6 → dw j < 1000) (hdc : ∀ j, j < 6 → dc j < 1000) (hwt : ∀ j, j < 10 → wt j < 100) (hsk : ∀ j, j < 10 → sk j < 4)  : CT E yX10_who cX10_who 5 (some .int) 2 [.ref m0, .int (x)] [(m0, .inr (10, (.int (nI (nt)) :: .ref mt :: .int (nI (nb)) :: .ref mk :: .ref mb :: .int (nI (lw)) :: .int (nI (sl)) :: .int (nI (tl)) :: .ref mx :: .int (po) :: .int (ta) :: .long (tk) :: .int (dg) :: .int (nu) :: .int (fa) :: .int (rm_) :: .int (rto) :: .int (rbo) :: .ref mr :: .ref mn :: .ref ma :: .ref mi :: .ref mj :: .int (nI (en)) :: .ref mg :: .int (nI (sn)) :: .ref ms :: .int (nI (dn)) :: .ref md :: .ref mc :: .ref me :: .int (ga) :: .ref mh :: .ref mo :: .ref mw :: []))), (mn, .inl (E.2.1.1, 47, .inl (nowF tw wt sk gr ch yr))), (md, .inl (E.2.1.1, 12, .inl (rdF dw dc))), (mw, .inl (E.2.1.1, 7, .inl (rwF (r0))))] (fun r w => ∃ (r' : Nat → Nat), (∀ k, r' k ≤ 11) ∧ xQ (some (.int (opWhoM nb dn sk wt dw dc x))) [(m0, .inr (10, (.int (nI (nt)) :: .ref mt :: .int (nI (nb)) :: .ref mk :: .ref mb :: .int (nI (lw)) :: .int (nI (sl)) :: .int (nI (tl)) :: .ref mx :: .int (po) :: .int (ta) :: .long (tk) :: .int (dg) :: .int (nu) :: .int (fa) :: .int (rm_) :: .int (rto) :: .int (rbo) :: .ref mr :: .ref mn :: .ref ma :: .ref mi :: .ref mj :: .int (nI (en)) :: .ref mg :: .int (nI (sn)) :: .ref ms :: .int (nI (dn)) :: .ref md :: .ref mc :: .ref me :: .int (ga) :: .ref mh :: .ref mo :: .ref mw :: []))), (mn, .inl (E.2.1.1, 47, .inl (nowF tw wt sk gr ch yr))), (md, .inl (E.2.1.1, 12, .inl (rdF dw dc))), (mw, .inl (E.2.1.1, 7, .inl (rwF (r'))))] r w) := by
  refine ct_of (by decide +kernel) (Nat.le_of_ble_eq_true rfl) (lv := [(0, .ref m0), (1, .int (x))]) rfl (fun A => ?_)
  refine g_iload_n (q := 1) dX10_who_0 rfl rfl rfl ?_
  refine g_iconst (v := (-1)) (q := 2) dX10_who_1 rfl ki_m1 ?_
  refine g_aload_n (q := 3) dX10_who_2 rfl rfl rfl ?_
  refine gf_X10_200 rfl 0 rfl rfl (q := 6) dX10_who_3 rfl ?_
  refine g_iconst (v := nI 1) (q := 7) dX10_who_6 rfl ki_1 ?_
  refine g_isub (q := 8) dX10_who_7 rfl ?_
  refine gc_X10_73 (c_in) rfl (Nat.le_of_ble_eq_true rfl) rfl [] rfl rfl (rest := []) rfl (Nat.le_of_ble_eq_true rfl) (q := 11) dX10_who_8 rfl (exK (ws' := [_, _, _, _]) (st' := [.int (bI (!ninB x (-1) (nI dn - nI 1)))]) rfl rfl ?_)
  refine g_top (y := bI (wq x dn).isSome) (by rw [wq_in hdn, not_isNone]) ?_
  refine g_if_ne (t := 17) (q := 14) dX10_who_11 (by decide) rfl (fun c11 => ?_) (fun c11 => ?_)
  · obtain ⟨o, ho⟩ := isSome_t (bI_ne0.mp c11)
    rcases wq_some ho with ⟨rfl, rfl⟩ | ⟨i0, hi0, rfl, rfl⟩
    · skip
      refine g_iconst (v := nI 0) (q := 18) dX10_who_17 rfl ki_0 ?_
      refine g_istore_n (lv' := [(0, _), (1, _), (2, _)]) (q := 19) dX10_who_18 rfl rfl (Nat.le_of_ble_eq_true rfl) rfl ?_
      refine g_iconst (v := nI 0) (q := 20) dX10_who_19 rfl ki_0 ?_
      refine g_istore_n (lv' := [(0, _), (1, _), (2, _), (3, _)]) (q := 21) dX10_who_20 rfl rfl (Nat.le_of_ble_eq_true rfl) rfl ?_
      refine g_iconst (v := nI 0) (q := 22) dX10_who_21 rfl ki_0 ?_
      refine g_istore (lv' := [(0, _), (1, _), (2, _), (3, _), (4, _)]) (q := 24) dX10_who_22 rfl (Nat.le_of_ble_eq_true rfl) rfl ?_
      refine g_aload_n (q := 25) dX10_who_24 rfl rfl rfl ?_
      refine gf_X10_63 rfl 0 rfl rfl (q := 28) dX10_who_25 rfl ?_
      refine g_iconst (v := nI 0) (q := 29) dX10_who_28 rfl ki_0 ?_
      refine g_iconst (v := (-1)) (q := 30) dX10_who_29 rfl ki_m1 ?_
      refine g_iast (f' := (rwF (updn r0 0 0))) 3 rfl (ixIn (j := 0) rfl (by omega) (by decide)) ((ixU (j := 0) rfl (by omega)).trans (rwF_n _ _)) (ws' := [_, _, _, (_, .inl (_, _, .inl _))]) rfl (q := 31) dX10_who_30 rfl ?_
      refine g_aload_n (q := 32) dX10_who_31 rfl rfl rfl ?_
      refine gf_X10_200 rfl 0 rfl rfl (q := 35) dX10_who_32 rfl ?_
      refine g_if_neN (t := 40) (q := 38) dX10_who_35 (by decide) rfl (by omega) (fun c35 => ?_) (fun c35 => ?_)
      · skip
        refine g_eq (ws' := [(m0, .inr (10, (.int (nI (nt)) :: .ref mt :: .int (nI (nb)) :: .ref mk :: .ref mb :: .int (nI (lw)) :: .int (nI (sl)) :: .int (nI (tl)) :: .ref mx :: .int (po) :: .int (ta) :: .long (tk) :: .int (dg) :: .int (nu) :: .int (fa) :: .int (rm_) :: .int (rto) :: .int (rbo) :: .ref mr :: .ref mn :: .ref ma :: .ref mi :: .ref mj :: .int (nI (en)) :: .ref mg :: .int (nI (sn)) :: .ref ms :: .int (nI (dn)) :: .ref md :: .ref mc :: .ref me :: .int (ga) :: .ref mh :: .ref mo :: .ref mw :: []))), (mn, .inl (E.2.1.1, 47, .inl (nowF tw wt sk gr ch yr))), (md, .inl (E.2.1.1, 12, .inl (rdF dw dc))), (mw, .inl (E.2.1.1, 7, .inl (rwF (updn r0 0 0))))]) (lv' := [(0, .ref m0), (1, .int (-1)), (2, .int (nI (0))), (3, .int (bitsI (fun _ => false) nb)), (4, .int (nI (0 + 1) - 1))]) ?_ rfl (by rw [bits_none, rw_1]) rfl
        refine who_dfs0 (ok := okW (fitB sk wt dw dc)) (lf := (lfW none)) (nb := nb) (dn := dn) (B := 11) (by omega) (okW_c _) (lfW_c (fun i hi => by cases hi)) (fun D r s => G E _ [(m0, .inr (10, (.int (nI (nt)) :: .ref mt :: .int (nI (nb)) :: .ref mk :: .ref mb :: .int (nI (lw)) :: .int (nI (sl)) :: .int (nI (tl)) :: .ref mx :: .int (po) :: .int (ta) :: .long (tk) :: .int (dg) :: .int (nu) :: .int (fa) :: .int (rm_) :: .int (rto) :: .int (rbo) :: .ref mr :: .ref mn :: .ref ma :: .ref mi :: .ref mj :: .int (nI (en)) :: .ref mg :: .int (nI (sn)) :: .ref ms :: .int (nI (dn)) :: .ref md :: .ref mc :: .ref me :: .int (ga) :: .ref mh :: .ref mo :: .ref mw :: []))), (mn, .inl (E.2.1.1, 47, .inl (nowF tw wt sk gr ch yr))), (md, .inl (E.2.1.1, 12, .inl (rdF dw dc))), (mw, .inl (E.2.1.1, 7, .inl (rwF (r))))] 40 [(0, .ref m0), (1, .int (-1)), (2, .int (nI s.1)), (3, .int (bitsI s.2 nb)), (4, .int (nI D - 1))] []) ?_ (s := (0, fun _ => false)) (r := updn r0 0 0) (fun k => by unfold updn; split; omega; exact hr0 k) updn_s (by omega) ?_
        · intro d r s hd hr hrd hp k1 k2 k3 k4
          obtain ⟨n, c⟩ := s
          have hr2 : ∀ k, updn r d (r d + 1) k < 1000 := fun k => by unfold updn; split; omega; have := hr k; omega
          refine g_eq (ws' := [(m0, .inr (10, (.int (nI (nt)) :: .ref mt :: .int (nI (nb)) :: .ref mk :: .ref mb :: .int (nI (lw)) :: .int (nI (sl)) :: .int (nI (tl)) :: .ref mx :: .int (po) :: .int (ta) :: .long (tk) :: .int (dg) :: .int (nu) :: .int (fa) :: .int (rm_) :: .int (rto) :: .int (rbo) :: .ref mr :: .ref mn :: .ref ma :: .ref mi :: .ref mj :: .int (nI (en)) :: .ref mg :: .int (nI (sn)) :: .ref ms :: .int (nI (dn)) :: .ref md :: .ref mc :: .ref me :: .int (ga) :: .ref mh :: .ref mo :: .ref mw :: []))), (mn, .inl (E.2.1.1, 47, .inl (nowF tw wt sk gr ch yr))), (md, .inl (E.2.1.1, 12, .inl (rdF dw dc))), (mw, .inl (E.2.1.1, 7, .inl (rwF (r))))]) (lv' := [(0, .ref m0), (1, .int (-1)), (2, .int (nI (n))), (3, .int (bitsI c nb)), (4, .int (nI d))]) ?_ rfl (by rw [rw_1]) rfl
          refine g_iload (q := 42) dX10_who_40 rfl rfl ?_
          refine g_if_lt (t := 152) (q := 45) dX10_who_42 (by decide) rfl (fun c42 => ?_) (fun c42 => ?_)
          · exact absurd c42 (nI_pos (by omega))
          · skip
            refine g_aload_n (q := 46) dX10_who_45 rfl rfl rfl ?_
            refine gf_X10_63 rfl 0 rfl rfl (q := 49) dX10_who_46 rfl ?_
            refine g_iload (q := 51) dX10_who_49 rfl rfl ?_
            refine g_dup2 (q := 52) dX10_who_51 rfl rfl rfl ?_
            refine g_iald (v := nI (r d) - 1) 3 rfl (ixIn (j := d) rfl (by omega) (by decide)) (ixV (j := d) rfl (by omega)) (q := 53) dX10_who_52 rfl ?_
            refine g_iconst (v := nI 1) (q := 54) dX10_who_53 rfl ki_1 ?_
            refine g_iadd (q := 55) dX10_who_54 rfl ?_
            refine g_top (y := nI (r d)) (rw_inc _) ?_
            refine g_iast (f' := (rwF (updn r d (r d + 1)))) 3 rfl (ixIn (j := d) rfl (by omega) (by decide)) ((ixU (j := d) rfl (by omega)).trans (rwF_w _ _ _)) (ws' := [_, _, _, (_, .inl (_, _, .inl _))]) rfl (q := 56) dX10_who_55 rfl ?_
            refine g_aload_n (q := 57) dX10_who_56 rfl rfl rfl ?_
            refine gf_X10_63 rfl 0 rfl rfl (q := 60) dX10_who_57 rfl ?_
            refine g_iload (q := 62) dX10_who_60 rfl rfl ?_
            refine g_iald (v := nI (r d)) 3 rfl (ixIn (j := d) rfl (by omega) (by decide)) ((ixV (j := d) rfl (by omega)).trans rw_at) (q := 63) dX10_who_62 rfl ?_
            refine g_aload_n (q := 64) dX10_who_63 rfl rfl rfl ?_
            refine gf_X10_77 rfl 0 rfl rfl (q := 67) dX10_who_64 rfl ?_
            refine g_icmp_ltN (t := 76) (q := 70) dX10_who_67 (by decide) rfl (by omega) (by omega) (fun c67 => ?_) (fun c67 => ?_)
            · skip
              refine g_aload_n (q := 77) dX10_who_76 rfl rfl rfl ?_
              refine g_iload (q := 79) dX10_who_77 rfl rfl ?_
              refine gc_X10_276 (c_isFree (by omega) hr2) rfl (Nat.le_of_ble_eq_true rfl) rfl 0 rfl [0, 3] rfl rfl (rest := []) rfl (Nat.le_of_ble_eq_true rfl) (q := 82) dX10_who_79 rfl (exK (ws' := [_, _, _, _]) (st' := [.int (bI (frB (updn r d (r d + 1)) d))]) rfl rfl ?_)
              refine g_if_eq (t := 40) (q := 85) dX10_who_82 (by decide) rfl (fun c82 => ?_) (fun c82 => ?_)
              · skip
                refine g_eq (lv' := [(0, .ref m0), (1, .int (-1)), (2, .int (nI (n))), (3, .int (bitsI c nb)), (4, .int (nI (d + 1) - 1))]) ?_ rfl (by rw [rw_1]) rfl
                exact k4 c67 (by rw [okW, bI_eq0.mp c82, Bool.false_and])
              · skip
                refine g_aload_n (q := 86) dX10_who_85 rfl rfl rfl ?_
                refine g_iload (q := 88) dX10_who_86 rfl rfl ?_
                refine g_aload_n (q := 89) dX10_who_88 rfl rfl rfl ?_
                refine gf_X10_63 rfl 0 rfl rfl (q := 92) dX10_who_89 rfl ?_
                refine g_iload (q := 94) dX10_who_92 rfl rfl ?_
                refine g_iald (v := nI (r d)) 3 rfl (ixIn (j := d) rfl (by omega) (by decide)) ((ixV (j := d) rfl (by omega)).trans rw_at) (q := 95) dX10_who_94 rfl ?_
                refine gc_X10_279 (c_canBe (by omega) (by omega) hdw hdc hwt hsk) rfl (Nat.le_of_ble_eq_true rfl) rfl 0 rfl [0, 1, 2] rfl rfl (rest := []) rfl (Nat.le_of_ble_eq_true rfl) (q := 98) dX10_who_95 rfl (exK (ws' := [_, _, _, _]) (st' := [.int (bI (fitB sk wt dw dc d (r d)))]) rfl rfl ?_)
                refine g_if_eq (t := 40) (q := 101) dX10_who_98 (by decide) rfl (fun c98 => ?_) (fun c98 => ?_)
                · skip
                  refine g_eq (lv' := [(0, .ref m0), (1, .int (-1)), (2, .int (nI (n))), (3, .int (bitsI c nb)), (4, .int (nI (d + 1) - 1))]) ?_ rfl (by rw [rw_1]) rfl
                  exact k4 c67 (by rw [okW, bI_ne0.mp c82, Bool.true_and]; show fitB sk wt dw dc d (updn r d (r d + 1) d - 1) = false; rw [updn_s]; exact bI_eq0.mp c98)
                · skip
                  refine g_iload (q := 103) dX10_who_101 rfl rfl ?_
                  refine g_iconst (v := nI 1) (q := 104) dX10_who_103 rfl ki_1 ?_
                  refine g_iaddN (q := 105) dX10_who_104 rfl ?_
                  refine g_aload_n (q := 106) dX10_who_105 rfl rfl rfl ?_
                  refine gf_X10_200 rfl 0 rfl rfl (q := 109) dX10_who_106 rfl ?_
                  refine g_icmp_neN (t := 138) (q := 112) dX10_who_109 (by decide) rfl (by omega) (by omega) (fun c109 => ?_) (fun c109 => ?_)
                  · skip
                    refine g_iinc (lv' := [(0, _), (1, _), (2, _), (3, _), (4, _)]) (v := nI (d + 1)) (q := 141) dX10_who_138 rfl rfl (nI_inc _) (Nat.le_of_ble_eq_true rfl) rfl ?_
                    refine g_aload_n (q := 142) dX10_who_141 rfl rfl rfl ?_
                    refine gf_X10_63 rfl 0 rfl rfl (q := 145) dX10_who_142 rfl ?_
                    refine g_iload (q := 147) dX10_who_145 rfl rfl ?_
                    refine g_iconst (v := (-1)) (q := 148) dX10_who_147 rfl ki_m1 ?_
                    refine g_iast (f' := (rwF (updn (updn r d (r d + 1)) (d + 1) 0))) 3 rfl (ixIn (j := d + 1) rfl (by omega) (by decide)) ((ixU (j := d + 1) rfl (by omega)).trans (rwF_n _ _)) (ws' := [_, _, _, (_, .inl (_, _, .inl _))]) rfl (q := 149) dX10_who_148 rfl ?_
                    refine g_goto (q := 40) dX10_who_149 (by decide) ?_
                    refine g_eq (lv' := [(0, .ref m0), (1, .int (-1)), (2, .int (nI (n))), (3, .int (bitsI c nb)), (4, .int (nI (d + 2) - 1))]) ?_ rfl (by rw [show d + 2 = (d + 1) + 1 from rfl, rw_1]) rfl
                    exact k3 c67 (by rw [okW, bI_ne0.mp c82, Bool.true_and]; show fitB sk wt dw dc d (updn r d (r d + 1) d - 1) = true; rw [updn_s]; exact bI_ne0.mp c98) c109
                  · skip
                    refine g_iinc (lv' := [(0, _), (1, _), (2, _), (3, _), (4, _)]) (v := nI (n + 1)) (q := 115) dX10_who_112 rfl rfl (nI_inc _) (Nat.le_of_ble_eq_true rfl) rfl ?_
                    refine g_iload_n (q := 116) dX10_who_115 rfl rfl rfl ?_
                    refine g_iload_n (q := 117) dX10_who_116 rfl rfl rfl ?_
                    refine g_iconst (v := (-1)) (q := 118) dX10_who_117 rfl ki_m1 ?_
                    refine g_icmp_ne (t := 125) (q := 121) dX10_who_118 (by decide) rfl (fun c118 => ?_) (fun c118 => ?_)
                    · exact absurd c118 (by decide)
                    · skip
                      refine g_iconst (v := nI 0) (q := 122) dX10_who_121 rfl ki_0 ?_
                      refine g_goto (q := 133) dX10_who_122 (by decide) ?_
                      refine g_ior (q := 134) dX10_who_133 rfl ?_
                      refine g_istore_n (lv' := [(0, _), (1, _), (2, _), (3, _), (4, _)]) (q := 135) dX10_who_134 rfl rfl (Nat.le_of_ble_eq_true rfl) rfl ?_
                      refine g_goto (q := 40) dX10_who_135 (by decide) ?_
                      refine g_eq (lv' := [(0, .ref m0), (1, .int (-1)), (2, .int (nI (n + 1))), (3, .int (bitsI (c) nb)), (4, .int (nI (d + 1) - 1))]) ?_ rfl (by rw [rw_1, or_0]) rfl
                      exact k2 c67 (by rw [okW, bI_ne0.mp c82, Bool.true_and]; show fitB sk wt dw dc d (updn r d (r d + 1) d - 1) = true; rw [updn_s]; exact bI_ne0.mp c98) c109
            · skip
              refine g_iinc (lv' := [(0, _), (1, _), (2, _), (3, _), (4, _)]) (v := (nI (d)) - 1) (q := 73) dX10_who_70 rfl rfl (nI_decI _) (Nat.le_of_ble_eq_true rfl) rfl ?_
              refine g_goto (q := 40) dX10_who_73 (by decide) ?_
              exact k1 (by omega)
        · intro r2 hr2
          refine g_eq (ws' := [(m0, .inr (10, (.int (nI (nt)) :: .ref mt :: .int (nI (nb)) :: .ref mk :: .ref mb :: .int (nI (lw)) :: .int (nI (sl)) :: .int (nI (tl)) :: .ref mx :: .int (po) :: .int (ta) :: .long (tk) :: .int (dg) :: .int (nu) :: .int (fa) :: .int (rm_) :: .int (rto) :: .int (rbo) :: .ref mr :: .ref mn :: .ref ma :: .ref mi :: .ref mj :: .int (nI (en)) :: .ref mg :: .int (nI (sn)) :: .ref ms :: .int (nI (dn)) :: .ref md :: .ref mc :: .ref me :: .int (ga) :: .ref mh :: .ref mo :: .ref mw :: []))), (mn, .inl (E.2.1.1, 47, .inl (nowF tw wt sk gr ch yr))), (md, .inl (E.2.1.1, 12, .inl (rdF dw dc))), (mw, .inl (E.2.1.1, 7, .inl (rwF (r2))))]) (lv' := [(0, .ref m0), (1, .int (-1)), (2, .int (nI ((dfs (okW (fitB sk wt dw dc)) (lfW none) nb dn dn (fun _ => 0) (0, fun _ => false)).1))), (3, .int (bitsI (dfs (okW (fitB sk wt dw dc)) (lfW none) nb dn dn (fun _ => 0) (0, fun _ => false)).2 nb)), (4, .int (-1))]) ?_ rfl (by rw [show nI 0 - 1 = (-1 : Int32) from by decide]) rfl
          refine g_iload (q := 42) dX10_who_40 rfl rfl ?_
          refine g_if_lt (t := 152) (q := 45) dX10_who_42 (by decide) rfl (fun c42 => ?_) (fun c42 => ?_)
          · skip
            refine g_iload_n (q := 153) dX10_who_152 rfl rfl rfl ?_
            refine g_iconst (v := (-1)) (q := 154) dX10_who_153 rfl ki_m1 ?_
            refine g_icmp_ne (t := 161) (q := 157) dX10_who_154 (by decide) rfl (fun c154 => ?_) (fun c154 => ?_)
            · exact absurd c154 (by decide)
            · skip
              refine g_iload_n (q := 158) dX10_who_157 rfl rfl rfl ?_
              refine g_goto (q := 162) dX10_who_158 (by decide) ?_
              refine g_iret (st := []) dX10_who_162 rfl rfl rfl ?_
              exact ⟨r2, fun k => by have := hr2 k; omega, xr (by simp only [opWhoM, ho])⟩
          · exact absurd (by decide) c42
      · skip
        refine g_iconst (v := nI 1) (q := 39) dX10_who_38 rfl ki_1 ?_
        refine g_iret (st := []) dX10_who_39 rfl rfl rfl ?_
        exact ⟨(updn r0 0 0), fun k => by unfold updn; split; omega; exact hr0 k, xr (by subst c35; rfl)⟩
    · skip
      refine g_iconst (v := nI 0) (q := 18) dX10_who_17 rfl ki_0 ?_
      refine g_istore_n (lv' := [(0, _), (1, _), (2, _)]) (q := 19) dX10_who_18 rfl rfl (Nat.le_of_ble_eq_true rfl) rfl ?_
      refine g_iconst (v := nI 0) (q := 20) dX10_who_19 rfl ki_0 ?_
      refine g_istore_n (lv' := [(0, _), (1, _), (2, _), (3, _)]) (q := 21) dX10_who_20 rfl rfl (Nat.le_of_ble_eq_true rfl) rfl ?_
      refine g_iconst (v := nI 0) (q := 22) dX10_who_21 rfl ki_0 ?_
      refine g_istore (lv' := [(0, _), (1, _), (2, _), (3, _), (4, _)]) (q := 24) dX10_who_22 rfl (Nat.le_of_ble_eq_true rfl) rfl ?_
      refine g_aload_n (q := 25) dX10_who_24 rfl rfl rfl ?_
      refine gf_X10_63 rfl 0 rfl rfl (q := 28) dX10_who_25 rfl ?_
      refine g_iconst (v := nI 0) (q := 29) dX10_who_28 rfl ki_0 ?_
      refine g_iconst (v := (-1)) (q := 30) dX10_who_29 rfl ki_m1 ?_
      refine g_iast (f' := (rwF (updn r0 0 0))) 3 rfl (ixIn (j := 0) rfl (by omega) (by decide)) ((ixU (j := 0) rfl (by omega)).trans (rwF_n _ _)) (ws' := [_, _, _, (_, .inl (_, _, .inl _))]) rfl (q := 31) dX10_who_30 rfl ?_
      refine g_aload_n (q := 32) dX10_who_31 rfl rfl rfl ?_
      refine gf_X10_200 rfl 0 rfl rfl (q := 35) dX10_who_32 rfl ?_
      refine g_if_neN (t := 40) (q := 38) dX10_who_35 (by decide) rfl (by omega) (fun c35 => ?_) (fun c35 => ?_)
      · skip
        refine g_eq (ws' := [(m0, .inr (10, (.int (nI (nt)) :: .ref mt :: .int (nI (nb)) :: .ref mk :: .ref mb :: .int (nI (lw)) :: .int (nI (sl)) :: .int (nI (tl)) :: .ref mx :: .int (po) :: .int (ta) :: .long (tk) :: .int (dg) :: .int (nu) :: .int (fa) :: .int (rm_) :: .int (rto) :: .int (rbo) :: .ref mr :: .ref mn :: .ref ma :: .ref mi :: .ref mj :: .int (nI (en)) :: .ref mg :: .int (nI (sn)) :: .ref ms :: .int (nI (dn)) :: .ref md :: .ref mc :: .ref me :: .int (ga) :: .ref mh :: .ref mo :: .ref mw :: []))), (mn, .inl (E.2.1.1, 47, .inl (nowF tw wt sk gr ch yr))), (md, .inl (E.2.1.1, 12, .inl (rdF dw dc))), (mw, .inl (E.2.1.1, 7, .inl (rwF (updn r0 0 0))))]) (lv' := [(0, .ref m0), (1, .int (nI i0)), (2, .int (nI (0))), (3, .int (bitsI (fun _ => false) nb)), (4, .int (nI (0 + 1) - 1))]) ?_ rfl (by rw [bits_none, rw_1]) rfl
        refine who_dfs0 (ok := okW (fitB sk wt dw dc)) (lf := (lfW (some i0))) (nb := nb) (dn := dn) (B := 11) (by omega) (okW_c _) (lfW_c (fun i hi => by cases hi; exact hi0)) (fun D r s => G E _ [(m0, .inr (10, (.int (nI (nt)) :: .ref mt :: .int (nI (nb)) :: .ref mk :: .ref mb :: .int (nI (lw)) :: .int (nI (sl)) :: .int (nI (tl)) :: .ref mx :: .int (po) :: .int (ta) :: .long (tk) :: .int (dg) :: .int (nu) :: .int (fa) :: .int (rm_) :: .int (rto) :: .int (rbo) :: .ref mr :: .ref mn :: .ref ma :: .ref mi :: .ref mj :: .int (nI (en)) :: .ref mg :: .int (nI (sn)) :: .ref ms :: .int (nI (dn)) :: .ref md :: .ref mc :: .ref me :: .int (ga) :: .ref mh :: .ref mo :: .ref mw :: []))), (mn, .inl (E.2.1.1, 47, .inl (nowF tw wt sk gr ch yr))), (md, .inl (E.2.1.1, 12, .inl (rdF dw dc))), (mw, .inl (E.2.1.1, 7, .inl (rwF (r))))] 40 [(0, .ref m0), (1, .int (nI i0)), (2, .int (nI s.1)), (3, .int (bitsI s.2 nb)), (4, .int (nI D - 1))] []) ?_ (s := (0, fun _ => false)) (r := updn r0 0 0) (fun k => by unfold updn; split; omega; exact hr0 k) updn_s (by omega) ?_
        · intro d r s hd hr hrd hp k1 k2 k3 k4
          obtain ⟨n, c⟩ := s
          have hr2 : ∀ k, updn r d (r d + 1) k < 1000 := fun k => by unfold updn; split; omega; have := hr k; omega
          have hi1 : i0 ≤ d → 1 ≤ updn r d (r d + 1) i0 ∧ (r d < nb → updn r d (r d + 1) i0 ≤ nb) := fun h => by unfold updn; split; omega; have := hp i0 (by omega); omega
          refine g_eq (ws' := [(m0, .inr (10, (.int (nI (nt)) :: .ref mt :: .int (nI (nb)) :: .ref mk :: .ref mb :: .int (nI (lw)) :: .int (nI (sl)) :: .int (nI (tl)) :: .ref mx :: .int (po) :: .int (ta) :: .long (tk) :: .int (dg) :: .int (nu) :: .int (fa) :: .int (rm_) :: .int (rto) :: .int (rbo) :: .ref mr :: .ref mn :: .ref ma :: .ref mi :: .ref mj :: .int (nI (en)) :: .ref mg :: .int (nI (sn)) :: .ref ms :: .int (nI (dn)) :: .ref md :: .ref mc :: .ref me :: .int (ga) :: .ref mh :: .ref mo :: .ref mw :: []))), (mn, .inl (E.2.1.1, 47, .inl (nowF tw wt sk gr ch yr))), (md, .inl (E.2.1.1, 12, .inl (rdF dw dc))), (mw, .inl (E.2.1.1, 7, .inl (rwF (r))))]) (lv' := [(0, .ref m0), (1, .int (nI i0)), (2, .int (nI (n))), (3, .int (bitsI c nb)), (4, .int (nI d))]) ?_ rfl (by rw [rw_1]) rfl
          refine g_iload (q := 42) dX10_who_40 rfl rfl ?_
          refine g_if_lt (t := 152) (q := 45) dX10_who_42 (by decide) rfl (fun c42 => ?_) (fun c42 => ?_)
          · exact absurd c42 (nI_pos (by omega))
          · skip
            refine g_aload_n (q := 46) dX10_who_45 rfl rfl rfl ?_
            refine gf_X10_63 rfl 0 rfl rfl (q := 49) dX10_who_46 rfl ?_
            refine g_iload (q := 51) dX10_who_49 rfl rfl ?_
            refine g_dup2 (q := 52) dX10_who_51 rfl rfl rfl ?_
            refine g_iald (v := nI (r d) - 1) 3 rfl (ixIn (j := d) rfl (by omega) (by decide)) (ixV (j := d) rfl (by omega)) (q := 53) dX10_who_52 rfl ?_
            refine g_iconst (v := nI 1) (q := 54) dX10_who_53 rfl ki_1 ?_
            refine g_iadd (q := 55) dX10_who_54 rfl ?_
            refine g_top (y := nI (r d)) (rw_inc _) ?_
            refine g_iast (f' := (rwF (updn r d (r d + 1)))) 3 rfl (ixIn (j := d) rfl (by omega) (by decide)) ((ixU (j := d) rfl (by omega)).trans (rwF_w _ _ _)) (ws' := [_, _, _, (_, .inl (_, _, .inl _))]) rfl (q := 56) dX10_who_55 rfl ?_
            refine g_aload_n (q := 57) dX10_who_56 rfl rfl rfl ?_
            refine gf_X10_63 rfl 0 rfl rfl (q := 60) dX10_who_57 rfl ?_
            refine g_iload (q := 62) dX10_who_60 rfl rfl ?_
            refine g_iald (v := nI (r d)) 3 rfl (ixIn (j := d) rfl (by omega) (by decide)) ((ixV (j := d) rfl (by omega)).trans rw_at) (q := 63) dX10_who_62 rfl ?_
            refine g_aload_n (q := 64) dX10_who_63 rfl rfl rfl ?_
            refine gf_X10_77 rfl 0 rfl rfl (q := 67) dX10_who_64 rfl ?_
            refine g_icmp_ltN (t := 76) (q := 70) dX10_who_67 (by decide) rfl (by omega) (by omega) (fun c67 => ?_) (fun c67 => ?_)
            · skip
              refine g_aload_n (q := 77) dX10_who_76 rfl rfl rfl ?_
              refine g_iload (q := 79) dX10_who_77 rfl rfl ?_
              refine gc_X10_276 (c_isFree (by omega) hr2) rfl (Nat.le_of_ble_eq_true rfl) rfl 0 rfl [0, 3] rfl rfl (rest := []) rfl (Nat.le_of_ble_eq_true rfl) (q := 82) dX10_who_79 rfl (exK (ws' := [_, _, _, _]) (st' := [.int (bI (frB (updn r d (r d + 1)) d))]) rfl rfl ?_)
              refine g_if_eq (t := 40) (q := 85) dX10_who_82 (by decide) rfl (fun c82 => ?_) (fun c82 => ?_)
              · skip
                refine g_eq (lv' := [(0, .ref m0), (1, .int (nI i0)), (2, .int (nI (n))), (3, .int (bitsI c nb)), (4, .int (nI (d + 1) - 1))]) ?_ rfl (by rw [rw_1]) rfl
                exact k4 c67 (by rw [okW, bI_eq0.mp c82, Bool.false_and])
              · skip
                refine g_aload_n (q := 86) dX10_who_85 rfl rfl rfl ?_
                refine g_iload (q := 88) dX10_who_86 rfl rfl ?_
                refine g_aload_n (q := 89) dX10_who_88 rfl rfl rfl ?_
                refine gf_X10_63 rfl 0 rfl rfl (q := 92) dX10_who_89 rfl ?_
                refine g_iload (q := 94) dX10_who_92 rfl rfl ?_
                refine g_iald (v := nI (r d)) 3 rfl (ixIn (j := d) rfl (by omega) (by decide)) ((ixV (j := d) rfl (by omega)).trans rw_at) (q := 95) dX10_who_94 rfl ?_
                refine gc_X10_279 (c_canBe (by omega) (by omega) hdw hdc hwt hsk) rfl (Nat.le_of_ble_eq_true rfl) rfl 0 rfl [0, 1, 2] rfl rfl (rest := []) rfl (Nat.le_of_ble_eq_true rfl) (q := 98) dX10_who_95 rfl (exK (ws' := [_, _, _, _]) (st' := [.int (bI (fitB sk wt dw dc d (r d)))]) rfl rfl ?_)
                refine g_if_eq (t := 40) (q := 101) dX10_who_98 (by decide) rfl (fun c98 => ?_) (fun c98 => ?_)
                · skip
                  refine g_eq (lv' := [(0, .ref m0), (1, .int (nI i0)), (2, .int (nI (n))), (3, .int (bitsI c nb)), (4, .int (nI (d + 1) - 1))]) ?_ rfl (by rw [rw_1]) rfl
                  exact k4 c67 (by rw [okW, bI_ne0.mp c82, Bool.true_and]; show fitB sk wt dw dc d (updn r d (r d + 1) d - 1) = false; rw [updn_s]; exact bI_eq0.mp c98)
                · skip
                  refine g_iload (q := 103) dX10_who_101 rfl rfl ?_
                  refine g_iconst (v := nI 1) (q := 104) dX10_who_103 rfl ki_1 ?_
                  refine g_iaddN (q := 105) dX10_who_104 rfl ?_
                  refine g_aload_n (q := 106) dX10_who_105 rfl rfl rfl ?_
                  refine gf_X10_200 rfl 0 rfl rfl (q := 109) dX10_who_106 rfl ?_
                  refine g_icmp_neN (t := 138) (q := 112) dX10_who_109 (by decide) rfl (by omega) (by omega) (fun c109 => ?_) (fun c109 => ?_)
                  · skip
                    refine g_iinc (lv' := [(0, _), (1, _), (2, _), (3, _), (4, _)]) (v := nI (d + 1)) (q := 141) dX10_who_138 rfl rfl (nI_inc _) (Nat.le_of_ble_eq_true rfl) rfl ?_
                    refine g_aload_n (q := 142) dX10_who_141 rfl rfl rfl ?_
                    refine gf_X10_63 rfl 0 rfl rfl (q := 145) dX10_who_142 rfl ?_
                    refine g_iload (q := 147) dX10_who_145 rfl rfl ?_
                    refine g_iconst (v := (-1)) (q := 148) dX10_who_147 rfl ki_m1 ?_
                    refine g_iast (f' := (rwF (updn (updn r d (r d + 1)) (d + 1) 0))) 3 rfl (ixIn (j := d + 1) rfl (by omega) (by decide)) ((ixU (j := d + 1) rfl (by omega)).trans (rwF_n _ _)) (ws' := [_, _, _, (_, .inl (_, _, .inl _))]) rfl (q := 149) dX10_who_148 rfl ?_
                    refine g_goto (q := 40) dX10_who_149 (by decide) ?_
                    refine g_eq (lv' := [(0, .ref m0), (1, .int (nI i0)), (2, .int (nI (n))), (3, .int (bitsI c nb)), (4, .int (nI (d + 2) - 1))]) ?_ rfl (by rw [show d + 2 = (d + 1) + 1 from rfl, rw_1]) rfl
                    exact k3 c67 (by rw [okW, bI_ne0.mp c82, Bool.true_and]; show fitB sk wt dw dc d (updn r d (r d + 1) d - 1) = true; rw [updn_s]; exact bI_ne0.mp c98) c109
                  · skip
                    refine g_iinc (lv' := [(0, _), (1, _), (2, _), (3, _), (4, _)]) (v := nI (n + 1)) (q := 115) dX10_who_112 rfl rfl (nI_inc _) (Nat.le_of_ble_eq_true rfl) rfl ?_
                    refine g_iload_n (q := 116) dX10_who_115 rfl rfl rfl ?_
                    refine g_iload_n (q := 117) dX10_who_116 rfl rfl rfl ?_
                    refine g_iconst (v := (-1)) (q := 118) dX10_who_117 rfl ki_m1 ?_
                    refine g_icmp_ne (t := 125) (q := 121) dX10_who_118 (by decide) rfl (fun c118 => ?_) (fun c118 => ?_)
                    · skip
                      refine g_iconst (v := nI 1) (q := 126) dX10_who_125 rfl ki_1 ?_
                      refine g_aload_n (q := 127) dX10_who_126 rfl rfl rfl ?_
                      refine gf_X10_63 rfl 0 rfl rfl (q := 130) dX10_who_127 rfl ?_
                      refine g_iload_n (q := 131) dX10_who_130 rfl rfl rfl ?_
                      refine g_iald (v := nI ((updn r d (r d + 1)) i0) - 1) 3 rfl (ixIn (j := i0) rfl (by omega) (by decide)) (ixV (j := i0) rfl (by omega)) (q := 132) dX10_who_131 rfl ?_
                      have hi2 := hi1 (by omega)
                      refine g_top (y := nI (updn r d (r d + 1) i0 - 1)) (rw_pos hi2.1) ?_
                      refine g_ishl (q := 133) dX10_who_132 rfl ?_
                      refine g_ior (q := 134) dX10_who_133 rfl ?_
                      refine g_istore_n (lv' := [(0, _), (1, _), (2, _), (3, _), (4, _)]) (q := 135) dX10_who_134 rfl rfl (Nat.le_of_ble_eq_true rfl) rfl ?_
                      refine g_goto (q := 40) dX10_who_135 (by decide) ?_
                      refine g_eq (lv' := [(0, .ref m0), (1, .int (nI i0)), (2, .int (nI (n + 1))), (3, .int (bitsI (fun b => c b || decide (b = updn r d (r d + 1) i0 - 1)) nb)), (4, .int (nI (d + 1) - 1))]) ?_ rfl (by rw [rw_1, orBit hnb (by omega)]) rfl
                      exact k2 c67 (by rw [okW, bI_ne0.mp c82, Bool.true_and]; show fitB sk wt dw dc d (updn r d (r d + 1) d - 1) = true; rw [updn_s]; exact bI_ne0.mp c98) c109
                    · exact absurd c118 (nI_m1 (by omega))
            · skip
              refine g_iinc (lv' := [(0, _), (1, _), (2, _), (3, _), (4, _)]) (v := (nI (d)) - 1) (q := 73) dX10_who_70 rfl rfl (nI_decI _) (Nat.le_of_ble_eq_true rfl) rfl ?_
              refine g_goto (q := 40) dX10_who_73 (by decide) ?_
              exact k1 (by omega)
        · intro r2 hr2
          refine g_eq (ws' := [(m0, .inr (10, (.int (nI (nt)) :: .ref mt :: .int (nI (nb)) :: .ref mk :: .ref mb :: .int (nI (lw)) :: .int (nI (sl)) :: .int (nI (tl)) :: .ref mx :: .int (po) :: .int (ta) :: .long (tk) :: .int (dg) :: .int (nu) :: .int (fa) :: .int (rm_) :: .int (rto) :: .int (rbo) :: .ref mr :: .ref mn :: .ref ma :: .ref mi :: .ref mj :: .int (nI (en)) :: .ref mg :: .int (nI (sn)) :: .ref ms :: .int (nI (dn)) :: .ref md :: .ref mc :: .ref me :: .int (ga) :: .ref mh :: .ref mo :: .ref mw :: []))), (mn, .inl (E.2.1.1, 47, .inl (nowF tw wt sk gr ch yr))), (md, .inl (E.2.1.1, 12, .inl (rdF dw dc))), (mw, .inl (E.2.1.1, 7, .inl (rwF (r2))))]) (lv' := [(0, .ref m0), (1, .int (nI i0)), (2, .int (nI ((dfs (okW (fitB sk wt dw dc)) (lfW (some i0)) nb dn dn (fun _ => 0) (0, fun _ => false)).1))), (3, .int (bitsI (dfs (okW (fitB sk wt dw dc)) (lfW (some i0)) nb dn dn (fun _ => 0) (0, fun _ => false)).2 nb)), (4, .int (-1))]) ?_ rfl (by rw [show nI 0 - 1 = (-1 : Int32) from by decide]) rfl
          refine g_iload (q := 42) dX10_who_40 rfl rfl ?_
          refine g_if_lt (t := 152) (q := 45) dX10_who_42 (by decide) rfl (fun c42 => ?_) (fun c42 => ?_)
          · skip
            refine g_iload_n (q := 153) dX10_who_152 rfl rfl rfl ?_
            refine g_iconst (v := (-1)) (q := 154) dX10_who_153 rfl ki_m1 ?_
            refine g_icmp_ne (t := 161) (q := 157) dX10_who_154 (by decide) rfl (fun c154 => ?_) (fun c154 => ?_)
            · skip
              refine g_iload_n (q := 162) dX10_who_161 rfl rfl rfl ?_
              refine g_iret (st := []) dX10_who_162 rfl rfl rfl ?_
              exact ⟨r2, fun k => by have := hr2 k; omega, xr (by simp only [opWhoM, ho])⟩
            · exact absurd c154 (nI_m1 (by omega))
          · exact absurd (by decide) c42
      · skip
        refine g_iconst (v := nI 1) (q := 39) dX10_who_38 rfl ki_1 ?_
        refine g_iret (st := []) dX10_who_39 rfl rfl rfl ?_
        exact ⟨(updn r0 0 0), fun k => by unfold updn; split; omega; exact hr0 k, xr (by omega)⟩
  · have no := isSome_f (bI_eq0.mp c11)
    refine g_bipush (v := (-3)) (q := 16) dX10_who_14 rfl kb_m3 ?_
    refine g_iret (st := []) dX10_who_16 rfl rfl rfl ?_
    exact ⟨r0, hr0, xr (by simp only [opWhoM, no])⟩
