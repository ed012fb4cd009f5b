set_option maxHeartbeats 2000000 in
set_option maxRecDepth 20000 in
theorem c_mgive {E : EN} {m0 mt mk mb mx mr mn ma mi mj mg ms md mc me mh mo mw nt nb lw sl tl en sn dn : Nat} {po ta dg nu fa rm_ rto rbo ga : Int32} {tk : Int64} {tw wt sk gr : Nat → Nat} {ch : Nat → Int32} {yr : Nat} {eb eg : Nat → Nat} {x y : Int32} (hnb : nb ≤ 10) (hnt : nt ≤ 6) (hE : okE nb nt en tw eb eg) (htw : ∀ j, j < 10 → tw j < 6)  : CT E yX10_give cX10_give 3 (some .int) 2 [.ref m0, .int (x), .int (y)] [(m0, .inr (10, (.int (nI (nt)) :: .ref mt :: .int (nI (nb)) :: .ref mk :: .ref mb :: .int (nI (lw)) :: .int (nI (sl)) :: .int (nI (tl)) :: .ref mx :: .int (po) :: .int (ta) :: .long (tk) :: .int (dg) :: .int (nu) :: .int (fa) :: .int (rm_) :: .int (rto) :: .int (rbo) :: .ref mr :: .ref mn :: .ref ma :: .ref mi :: .ref mj :: .int (nI (en)) :: .ref mg :: .int (nI (sn)) :: .ref ms :: .int (nI (dn)) :: .ref md :: .ref mc :: .ref me :: .int (ga) :: .ref mh :: .ref mo :: .ref mw :: []))), (mn, .inl (E.2.1.1, 47, .inl (nowF tw wt sk gr ch yr))), (mg, .inl (E.2.1.1, 10, .inl (oA (gsE eb eg en))))] (xQ (some (.int (opGive nb nt en tw eb eg x y).1)) [(m0, .inr (10, (.int (nI (nt)) :: .ref mt :: .int (nI (nb)) :: .ref mk :: .ref mb :: .int (nI (lw)) :: .int (nI (sl)) :: .int (nI (tl)) :: .ref mx :: .int (po) :: .int (ta) :: .long (tk) :: .int (dg) :: .int (nu) :: .int (fa) :: .int (rm_) :: .int (rto) :: .int (rbo) :: .ref mr :: .ref mn :: .ref ma :: .ref mi :: .ref mj :: .int (nI ((opGive nb nt en tw eb eg x y).2.1)) :: .ref mg :: .int (nI (sn)) :: .ref ms :: .int (nI (dn)) :: .ref md :: .ref mc :: .ref me :: .int (ga) :: .ref mh :: .ref mo :: .ref mw :: []))), (mn, .inl (E.2.1.1, 47, .inl (nowF tw wt sk gr ch yr))), (mg, .inl (E.2.1.1, 10, .inl (oA (gsE (opGive nb nt en tw eb eg x y).2.2.1 (opGive nb nt en tw eb eg x y).2.2.2 (opGive nb nt en tw eb eg x y).2.1))))]) := by
  refine ct_of (by decide +kernel) (Nat.le_of_ble_eq_true rfl) (lv := [(0, .ref m0), (1, .int (x)), (2, .int (y))]) rfl (fun A => ?_)
  refine g_aload_n (q := 1) dX10_give_0 rfl rfl rfl ?_
  refine g_iload_n (q := 2) dX10_give_1 rfl rfl rfl ?_
  refine gc_X10_211 (c_misBoy (by omega)) rfl (Nat.le_of_ble_eq_true rfl) rfl 0 rfl [0] rfl rfl (rest := []) rfl (Nat.le_of_ble_eq_true rfl) (q := 5) dX10_give_2 rfl (exK (ws' := [_, _, _]) (st' := [.int (bI (tn x nb).isSome)]) rfl rfl ?_)
  refine g_if_eq (t := 16) (q := 8) dX10_give_5 (by decide) rfl (fun c5 => ?_) (fun c5 => ?_)
  · have nb := isSome_f (bI_eq0.mp c5)
    refine g_bipush (v := (-2)) (q := 18) dX10_give_16 rfl kb_m2 ?_
    refine g_iret (st := []) dX10_give_18 rfl rfl rfl ?_
    cases htn : tn y nt <;> simp only [opGive, nb]
    all_goals exact ⟨rfl, rfl⟩
  · obtain ⟨b, hb⟩ := isSome_t (bI_ne0.mp c5)
    obtain ⟨hb1, rfl⟩ := tn_some hb
    refine g_aload_n (q := 9) dX10_give_8 rfl rfl rfl ?_
    refine g_iload_n (q := 10) dX10_give_9 rfl rfl rfl ?_
    refine gc_X10_203 (c_misTown (by omega)) rfl (Nat.le_of_ble_eq_true rfl) rfl 0 rfl [0] rfl rfl (rest := []) rfl (Nat.le_of_ble_eq_true rfl) (q := 13) dX10_give_10 rfl (exK (ws' := [_, _, _]) (st' := [.int (bI (tn y nt).isSome)]) rfl rfl ?_)
    refine g_if_ne (t := 19) (q := 16) dX10_give_13 (by decide) rfl (fun c13 => ?_) (fun c13 => ?_)
    · obtain ⟨t, ht⟩ := isSome_t (bI_ne0.mp c13)
      obtain ⟨ht1, rfl⟩ := tn_some ht
      have hE1 := hE.1
      refine g_aload_n (q := 20) dX10_give_19 rfl rfl rfl ?_
      refine gf_X10_29 rfl 0 rfl rfl (q := 23) dX10_give_20 rfl ?_
      refine g_iload_n (q := 24) dX10_give_23 rfl rfl rfl ?_
      have hb1 := htw (b) (by omega)
      refine g_iald (v := nI (tw b)) 1 rfl (ixIn (j := b) rfl (by omega) (by decide)) ((ixV (j := b) rfl (by omega)).trans (nowF_t (by omega))) (q := 25) dX10_give_24 rfl ?_
      refine g_iload_n (q := 26) dX10_give_25 rfl rfl rfl ?_
      refine g_icmp_neN (t := 32) (q := 29) dX10_give_26 (by decide) rfl (by omega) (by omega) (fun c26 => ?_) (fun c26 => ?_)
      · skip
        refine g_aload_n (q := 33) dX10_give_32 rfl rfl rfl ?_
        refine gf_X10_42 rfl 0 rfl rfl (q := 36) dX10_give_33 rfl ?_
        refine g_iload_n (q := 37) dX10_give_36 rfl rfl rfl ?_
        refine g_iald (v := oI ((gsE eb eg en) b)) 2 rfl (ixIn (j := b) rfl (by omega) (by decide)) (ixV (j := b) rfl (by omega)) (q := 38) dX10_give_37 rfl ?_
        rcases hG : ((gsE eb eg en) b) with _ | o
        · skip
          refine g_top (y := (-1)) (by first | rfl | (rw [hG]; rfl)) ?_
          refine g_iconst (v := (-1)) (q := 39) dX10_give_38 rfl ki_m1 ?_
          refine g_icmp_eq (t := 45) (q := 42) dX10_give_39 (by decide) rfl (fun c39 => ?_) (fun c39 => ?_)
          · skip
            refine g_aload_n (q := 46) dX10_give_45 rfl rfl rfl ?_
            refine gf_X10_86 rfl 0 rfl rfl (q := 49) dX10_give_46 rfl ?_
            refine g_bipush (v := nI 8) (q := 51) dX10_give_49 rfl kb_8 ?_
            refine g_icmp_neN (t := 57) (q := 54) dX10_give_51 (by decide) rfl (by omega) (by omega) (fun c51 => ?_) (fun c51 => ?_)
            · skip
              refine g_aload_n (q := 58) dX10_give_57 rfl rfl rfl ?_
              refine gf_X10_42 rfl 0 rfl rfl (q := 61) dX10_give_58 rfl ?_
              refine g_iload_n (q := 62) dX10_give_61 rfl rfl rfl ?_
              refine g_iload_n (q := 63) dX10_give_62 rfl rfl rfl ?_
              refine g_iast (f' := (oA (updO (gsE eb eg en) b (some t)))) 2 rfl (ixIn (j := b) rfl (by omega) (by decide)) ((ixU (j := b) rfl (by omega)).trans (upd_oA _ _ _)) (ws' := [_, _, (_, .inl (_, _, .inl _))]) rfl (q := 64) dX10_give_63 rfl ?_
              refine g_aload_n (q := 65) dX10_give_64 rfl rfl rfl ?_
              refine g_dup (q := 66) dX10_give_65 rfl rfl ?_
              refine gf_X10_86 rfl 0 rfl rfl (q := 69) dX10_give_66 rfl ?_
              refine g_iconst (v := nI 1) (q := 70) dX10_give_69 rfl ki_1 ?_
              refine g_iaddN (q := 71) dX10_give_70 rfl ?_
              refine pf_X10_86 rfl 0 rfl (Nat.le_of_ble_eq_true rfl) (ws' := [(_, .inr (_, (_ :: _ :: _ :: _ :: _ :: _ :: _ :: _ :: _ :: _ :: _ :: _ :: _ :: _ :: _ :: _ :: _ :: _ :: _ :: _ :: _ :: _ :: _ :: _ :: _ :: _ :: _ :: _ :: _ :: _ :: _ :: _ :: _ :: _ :: _ :: []))), _, _]) rfl (q := 74) dX10_give_71 rfl ?_
              refine g_aload_n (q := 75) dX10_give_74 rfl rfl rfl ?_
              refine gf_X10_86 rfl 0 rfl rfl (q := 78) dX10_give_75 rfl ?_
              refine g_iret (st := []) dX10_give_78 rfl rfl rfl ?_
              simp only [opGive, hb, ht, if_neg c26, has_none hG, Bool.false_eq_true, if_false, if_neg (show ¬ 8 ≤ en by omega), gsE_push]
              exact ⟨rfl, rfl⟩
            · skip
              refine g_bipush (v := (-5)) (q := 56) dX10_give_54 rfl kb_m5 ?_
              refine g_iret (st := []) dX10_give_56 rfl rfl rfl ?_
              simp only [opGive, hb, ht, if_neg c26, has_none hG, Bool.false_eq_true, if_false, if_pos (show 8 ≤ en by omega)]
              exact ⟨rfl, rfl⟩
          · exact absurd (by decide) c39
        · skip
          have hGb := gsE_slt hE.2.2.1 hG
          refine g_top (y := nI o) (by first | rfl | (rw [hG]; rfl)) ?_
          refine g_iconst (v := (-1)) (q := 39) dX10_give_38 rfl ki_m1 ?_
          refine g_icmp_eq (t := 45) (q := 42) dX10_give_39 (by decide) rfl (fun c39 => ?_) (fun c39 => ?_)
          · exact absurd c39 (nI_m1 (by omega))
          · skip
            refine g_bipush (v := (-4)) (q := 44) dX10_give_42 rfl kb_m4 ?_
            refine g_iret (st := []) dX10_give_44 rfl rfl rfl ?_
            simp only [opGive, hb, ht, if_neg c26, has_some hG, if_true]
            exact ⟨rfl, rfl⟩
      · skip
        refine g_bipush (v := (-3)) (q := 31) dX10_give_29 rfl kb_m3 ?_
        refine g_iret (st := []) dX10_give_31 rfl rfl rfl ?_
        simp only [opGive, hb, ht, if_pos c26]
        exact ⟨rfl, rfl⟩
    · have nt := isSome_f (bI_eq0.mp c13)
      refine g_bipush (v := (-2)) (q := 18) dX10_give_16 rfl kb_m2 ?_
      refine g_iret (st := []) dX10_give_18 rfl rfl rfl ?_
      simp only [opGive, hb, nt]
      exact ⟨rfl, rfl⟩
set_option maxHeartbeats 2000000 in
set_option maxRecDepth 20000 in
theorem c_mdrop {E : EN} {m0 mt mk mb mx mr mn ma mi mj mg ms md mc me mh mo mw nt nb lw sl tl en sn dn : Nat} {po ta dg nu fa rm_ rto rbo ga : Int32} {tk : Int64} {g : Nat → Option Nat}  : CT E yX10_drop cX10_drop 2 (some .int) 1 [.ref m0] [(m0, .inr (10, (.int (nI (nt)) :: .ref mt :: .int (nI (nb)) :: .ref mk :: .ref mb :: .int (nI (lw)) :: .int (nI (sl)) :: .int (nI (tl)) :: .ref mx :: .int (po) :: .int (ta) :: .long (tk) :: .int (dg) :: .int (nu) :: .int (fa) :: .int (rm_) :: .int (rto) :: .int (rbo) :: .ref mr :: .ref mn :: .ref ma :: .ref mi :: .ref mj :: .int (nI (en)) :: .ref mg :: .int (nI (sn)) :: .ref ms :: .int (nI (dn)) :: .ref md :: .ref mc :: .ref me :: .int (ga) :: .ref mh :: .ref mo :: .ref mw :: []))), (mg, .inl (E.2.1.1, 10, .inl (oA (g))))] (xQ (some (.int (nI en))) [(m0, .inr (10, (.int (nI (nt)) :: .ref mt :: .int (nI (nb)) :: .ref mk :: .ref mb :: .int (nI (lw)) :: .int (nI (sl)) :: .int (nI (tl)) :: .ref mx :: .int (po) :: .int (ta) :: .long (tk) :: .int (dg) :: .int (nu) :: .int (fa) :: .int (rm_) :: .int (rto) :: .int (rbo) :: .ref mr :: .ref mn :: .ref ma :: .ref mi :: .ref mj :: .int (nI (0)) :: .ref mg :: .int (nI (sn)) :: .ref ms :: .int (nI (dn)) :: .ref md :: .ref mc :: .ref me :: .int (ga) :: .ref mh :: .ref mo :: .ref mw :: []))), (mg, .inl (E.2.1.1, 10, .inl (oA (fun _ => none))))]) := by
  refine ct_of (by decide +kernel) (Nat.le_of_ble_eq_true rfl) (lv := [(0, .ref m0)]) rfl (fun A => ?_)
  refine g_aload_n (q := 1) dX10_drop_0 rfl rfl rfl ?_
  refine gf_X10_86 rfl 0 rfl rfl (q := 4) dX10_drop_1 rfl ?_
  refine g_istore_n (lv' := [(0, _), (1, _)]) (q := 5) dX10_drop_4 rfl rfl (Nat.le_of_ble_eq_true rfl) rfl ?_
  refine g_aload_n (q := 6) dX10_drop_5 rfl rfl rfl ?_
  refine gc_X10_89 (c_goNowhere) rfl (Nat.le_of_ble_eq_true rfl) rfl 0 rfl [0, 1] rfl rfl (rest := []) rfl (Nat.le_of_ble_eq_true rfl) (q := 9) dX10_drop_6 rfl (exK (ws' := [(_, .inr (_, (_ :: _ :: _ :: _ :: _ :: _ :: _ :: _ :: _ :: _ :: _ :: _ :: _ :: _ :: _ :: _ :: _ :: _ :: _ :: _ :: _ :: _ :: _ :: _ :: _ :: _ :: _ :: _ :: _ :: _ :: _ :: _ :: _ :: _ :: _ :: []))), (_, .inl (_, _, .inl _))]) (st' := []) rfl rfl ?_)
  refine g_iload_n (q := 10) dX10_drop_9 rfl rfl rfl ?_
  refine g_iret (st := []) dX10_drop_10 rfl rfl rfl ?_
  exact (xr rfl)
set_option maxHeartbeats 2000000 in
set_option maxRecDepth 20000 in
theorem c_mbalanceOf {E : EN} {m0 mt mk mb mx mr mn ma mi mj mg ms md mc me mh mo mw nt nb lw sl tl en sn dn : Nat} {po ta dg nu fa rm_ rto rbo ga : Int32} {tk : Int64} {kd tw wt sk gr : Nat → Nat} {ch : Nat → Int32} {yr : Nat} {cr rt fd nx : Nat → Nat} {wn : Nat → Int32} {g : Nat → Option Nat} {t : Nat} (ht : t < 1000) (hnb : nb ≤ 10) (hg : ∀ b o, g b = some o → o < 6) (hkd : ∀ j, j < 10 → kd j < 4) (htw : ∀ j, j < 10 → tw j < 6) (hwt : ∀ j, j < 10 → wt j < 100) (hrt : ∀ j, j < 6 → rt j < 10)  : CT E yX10_balanceOf cX10_balanceOf 4 (some .int) 2 [.ref m0, .int (nI (t))] [(m0, .inr (10, (.int (nI (nt)) :: .ref mt :: .int (nI (nb)) :: .ref mk :: .ref mb :: .int (nI (lw)) :: .int (nI (sl)) :: .int (nI (tl)) :: .ref mx :: .int (po) :: .int (ta) :: .long (tk) :: .int (dg) :: .int (nu) :: .int (fa) :: .int (rm_) :: .int (rto) :: .int (rbo) :: .ref mr :: .ref mn :: .ref ma :: .ref mi :: .ref mj :: .int (nI (en)) :: .ref mg :: .int (nI (sn)) :: .ref ms :: .int (nI (dn)) :: .ref md :: .ref mc :: .ref me :: .int (ga) :: .ref mh :: .ref mo :: .ref mw :: []))), (mk, .inl (E.2.1.1, 10, .inl (nA (kd)))), (mn, .inl (E.2.1.1, 47, .inl (nowF tw wt sk gr ch yr))), (mt, .inl (E.2.1.1, 30, .inl (townF cr rt fd wn nx))), (mg, .inl (E.2.1.1, 10, .inl (oA (g))))] (xQ (some (.int (balM g kd tw wt rt t nb))) [(m0, .inr (10, (.int (nI (nt)) :: .ref mt :: .int (nI (nb)) :: .ref mk :: .ref mb :: .int (nI (lw)) :: .int (nI (sl)) :: .int (nI (tl)) :: .ref mx :: .int (po) :: .int (ta) :: .long (tk) :: .int (dg) :: .int (nu) :: .int (fa) :: .int (rm_) :: .int (rto) :: .int (rbo) :: .ref mr :: .ref mn :: .ref ma :: .ref mi :: .ref mj :: .int (nI (en)) :: .ref mg :: .int (nI (sn)) :: .ref ms :: .int (nI (dn)) :: .ref md :: .ref mc :: .ref me :: .int (ga) :: .ref mh :: .ref mo :: .ref mw :: []))), (mk, .inl (E.2.1.1, 10, .inl (nA (kd)))), (mn, .inl (E.2.1.1, 47, .inl (nowF tw wt sk gr ch yr))), (mt, .inl (E.2.1.1, 30, .inl (townF cr rt fd wn nx))), (mg, .inl (E.2.1.1, 10, .inl (oA (g))))]) := by
  refine ct_of (by decide +kernel) (Nat.le_of_ble_eq_true rfl) (lv := [(0, .ref m0), (1, .int (nI (t)))]) rfl (fun A => ?_)
  refine g_iconst (v := nI 0) (q := 1) dX10_balanceOf_0 rfl ki_0 ?_
  refine g_istore_n (lv' := [(0, _), (1, _), (2, _)]) (q := 2) dX10_balanceOf_1 rfl rfl (Nat.le_of_ble_eq_true rfl) rfl ?_
  refine g_iconst (v := nI 0) (q := 3) dX10_balanceOf_2 rfl ki_0 ?_
  refine g_istore_n (lv' := [(0, _), (1, _), (2, _), (3, _)]) (q := 4) dX10_balanceOf_3 rfl rfl (Nat.le_of_ble_eq_true rfl) rfl ?_
  refine g_loop (nb) (fun i => [(m0, .inr (10, (.int (nI (nt)) :: .ref mt :: .int (nI (nb)) :: .ref mk :: .ref mb :: .int (nI (lw)) :: .int (nI (sl)) :: .int (nI (tl)) :: .ref mx :: .int (po) :: .int (ta) :: .long (tk) :: .int (dg) :: .int (nu) :: .int (fa) :: .int (rm_) :: .int (rto) :: .int (rbo) :: .ref mr :: .ref mn :: .ref ma :: .ref mi :: .ref mj :: .int (nI (en)) :: .ref mg :: .int (nI (sn)) :: .ref ms :: .int (nI (dn)) :: .ref md :: .ref mc :: .ref me :: .int (ga) :: .ref mh :: .ref mo :: .ref mw :: []))), (mk, .inl (E.2.1.1, 10, .inl (nA (kd)))), (mn, .inl (E.2.1.1, 47, .inl (nowF tw wt sk gr ch yr))), (mt, .inl (E.2.1.1, 30, .inl (townF cr rt fd wn nx))), (mg, .inl (E.2.1.1, 10, .inl (oA (g))))]) (fun i => [(0, .ref m0), (1, .int (nI (t))), (2, .int (balM g kd tw wt rt t i)), (3, .int (nI (i)))]) ?_ ?_ 0 (Nat.zero_le _)
  · intro i hi4 ih4
    show G E _ [(m0, .inr (10, (.int (nI (nt)) :: .ref mt :: .int (nI (nb)) :: .ref mk :: .ref mb :: .int (nI (lw)) :: .int (nI (sl)) :: .int (nI (tl)) :: .ref mx :: .int (po) :: .int (ta) :: .long (tk) :: .int (dg) :: .int (nu) :: .int (fa) :: .int (rm_) :: .int (rto) :: .int (rbo) :: .ref mr :: .ref mn :: .ref ma :: .ref mi :: .ref mj :: .int (nI (en)) :: .ref mg :: .int (nI (sn)) :: .ref ms :: .int (nI (dn)) :: .ref md :: .ref mc :: .ref me :: .int (ga) :: .ref mh :: .ref mo :: .ref mw :: []))), (mk, .inl (E.2.1.1, 10, .inl (nA (kd)))), (mn, .inl (E.2.1.1, 47, .inl (nowF tw wt sk gr ch yr))), (mt, .inl (E.2.1.1, 30, .inl (townF cr rt fd wn nx))), (mg, .inl (E.2.1.1, 10, .inl (oA (g))))] 4 [(0, .ref m0), (1, .int (nI (t))), (2, .int (balM g kd tw wt rt t i)), (3, .int (nI (i)))] []
    refine g_iload_n (q := 5) dX10_balanceOf_4 rfl rfl rfl ?_
    refine g_aload_n (q := 6) dX10_balanceOf_5 rfl rfl rfl ?_
    refine gf_X10_77 rfl 0 rfl rfl (q := 9) dX10_balanceOf_6 rfl ?_
    refine g_icmp_geN (t := 72) (q := 12) dX10_balanceOf_9 (by decide) rfl (by omega) (by omega) (fun c9 => ?_) (fun c9 => ?_)
    · omega
    · skip
      refine g_aload_n (q := 13) dX10_balanceOf_12 rfl rfl rfl ?_
      refine gf_X10_42 rfl 0 rfl rfl (q := 16) dX10_balanceOf_13 rfl ?_
      refine g_iload_n (q := 17) dX10_balanceOf_16 rfl rfl rfl ?_
      refine g_iald (v := oI (g i)) 4 rfl (ixIn (j := i) rfl (by omega) (by decide)) (ixV (j := i) rfl (by omega)) (q := 18) dX10_balanceOf_17 rfl ?_
      rcases hG : (g i) with _ | o
      · skip
        refine g_top (y := (-1)) (by first | rfl | (rw [hG]; rfl)) ?_
        refine g_iconst (v := (-1)) (q := 19) dX10_balanceOf_18 rfl ki_m1 ?_
        refine g_icmp_eq (t := 66) (q := 22) dX10_balanceOf_19 (by decide) rfl (fun c19 => ?_) (fun c19 => ?_)
        · skip
          refine g_iinc (lv' := [(0, _), (1, _), (2, _), (3, _)]) (v := nI (i + 1)) (q := 69) dX10_balanceOf_66 rfl rfl (nI_inc _) (Nat.le_of_ble_eq_true rfl) rfl ?_
          refine g_goto (q := 4) dX10_balanceOf_69 (by decide) ?_
          simp only [balM, hG] at ih4
          exact ih4
        · exact absurd (by decide) c19
      · skip
        have hGb := hg _ _ hG
        refine g_top (y := nI o) (by first | rfl | (rw [hG]; rfl)) ?_
        refine g_iconst (v := (-1)) (q := 19) dX10_balanceOf_18 rfl ki_m1 ?_
        refine g_icmp_eq (t := 66) (q := 22) dX10_balanceOf_19 (by decide) rfl (fun c19 => ?_) (fun c19 => ?_)
        · exact absurd c19 (nI_m1 (by omega))
        · skip
          refine g_iload_n (q := 23) dX10_balanceOf_22 rfl rfl rfl ?_
          refine g_aload_n (q := 24) dX10_balanceOf_23 rfl rfl rfl ?_
          refine gf_X10_42 rfl 0 rfl rfl (q := 27) dX10_balanceOf_24 rfl ?_
          refine g_iload_n (q := 28) dX10_balanceOf_27 rfl rfl rfl ?_
          refine g_iald (v := oI (g i)) 4 rfl (ixIn (j := i) rfl (by omega) (by decide)) (ixV (j := i) rfl (by omega)) (q := 29) dX10_balanceOf_28 rfl ?_
          refine g_top (y := nI o) (by first | rfl | (rw [hG]; rfl)) ?_
          refine g_iload_n (q := 30) dX10_balanceOf_29 rfl rfl rfl ?_
          refine g_icmp_neN (t := 41) (q := 33) dX10_balanceOf_30 (by decide) rfl (by omega) (by omega) (fun c30 => ?_) (fun c30 => ?_)
          · skip
            refine g_iconst (v := nI 0) (q := 42) dX10_balanceOf_41 rfl ki_0 ?_
            refine g_iadd (q := 43) dX10_balanceOf_42 rfl ?_
            refine g_istore_n (lv' := [(0, _), (1, _), (2, _), (3, _)]) (q := 44) dX10_balanceOf_43 rfl rfl (Nat.le_of_ble_eq_true rfl) rfl ?_
            refine g_iload_n (q := 45) dX10_balanceOf_44 rfl rfl rfl ?_
            refine g_aload_n (q := 46) dX10_balanceOf_45 rfl rfl rfl ?_
            refine gf_X10_29 rfl 0 rfl rfl (q := 49) dX10_balanceOf_46 rfl ?_
            refine g_iload_n (q := 50) dX10_balanceOf_49 rfl rfl rfl ?_
            have hb1 := htw (i) (by omega)
            refine g_iald (v := nI (tw i)) 2 rfl (ixIn (j := i) rfl (by omega) (by decide)) ((ixV (j := i) rfl (by omega)).trans (nowF_t (by omega))) (q := 51) dX10_balanceOf_50 rfl ?_
            refine g_iload_n (q := 52) dX10_balanceOf_51 rfl rfl rfl ?_
            refine g_icmp_neN (t := 63) (q := 55) dX10_balanceOf_52 (by decide) rfl (by omega) (by omega) (fun c52 => ?_) (fun c52 => ?_)
            · skip
              refine g_iconst (v := nI 0) (q := 64) dX10_balanceOf_63 rfl ki_0 ?_
              refine g_isub (q := 65) dX10_balanceOf_64 rfl ?_
              refine g_istore_n (lv' := [(0, _), (1, _), (2, _), (3, _)]) (q := 66) dX10_balanceOf_65 rfl rfl (Nat.le_of_ble_eq_true rfl) rfl ?_
              refine g_iinc (lv' := [(0, _), (1, _), (2, _), (3, _)]) (v := nI (i + 1)) (q := 69) dX10_balanceOf_66 rfl rfl (nI_inc _) (Nat.le_of_ble_eq_true rfl) rfl ?_
              refine g_goto (q := 4) dX10_balanceOf_69 (by decide) ?_
              simp only [balM, hG, if_neg c30, if_neg c52] at ih4
              exact ih4
            · skip
              refine g_aload_n (q := 56) dX10_balanceOf_55 rfl rfl rfl ?_
              refine g_iload_n (q := 57) dX10_balanceOf_56 rfl rfl rfl ?_
              refine gc_X10_214 (c_worthOf (by omega) hkd htw hwt hrt) rfl (Nat.le_of_ble_eq_true rfl) rfl 0 rfl [0, 1, 2, 3] rfl rfl (rest := [_]) rfl (Nat.le_of_ble_eq_true rfl) (q := 60) dX10_balanceOf_57 rfl (exK (ws' := [_, _, _, _, _]) (st' := [.int (nI (worN kd tw wt rt i)), _]) rfl rfl ?_)
              refine g_goto (q := 64) dX10_balanceOf_60 (by decide) ?_
              refine g_isub (q := 65) dX10_balanceOf_64 rfl ?_
              refine g_istore_n (lv' := [(0, _), (1, _), (2, _), (3, _)]) (q := 66) dX10_balanceOf_65 rfl rfl (Nat.le_of_ble_eq_true rfl) rfl ?_
              refine g_iinc (lv' := [(0, _), (1, _), (2, _), (3, _)]) (v := nI (i + 1)) (q := 69) dX10_balanceOf_66 rfl rfl (nI_inc _) (Nat.le_of_ble_eq_true rfl) rfl ?_
              refine g_goto (q := 4) dX10_balanceOf_69 (by decide) ?_
              simp only [balM, hG, if_neg c30, if_pos c52] at ih4
              exact ih4
          · skip
            refine g_aload_n (q := 34) dX10_balanceOf_33 rfl rfl rfl ?_
            refine g_iload_n (q := 35) dX10_balanceOf_34 rfl rfl rfl ?_
            refine gc_X10_214 (c_worthOf (by omega) hkd htw hwt hrt) rfl (Nat.le_of_ble_eq_true rfl) rfl 0 rfl [0, 1, 2, 3] rfl rfl (rest := [_]) rfl (Nat.le_of_ble_eq_true rfl) (q := 38) dX10_balanceOf_35 rfl (exK (ws' := [_, _, _, _, _]) (st' := [.int (nI (worN kd tw wt rt i)), _]) rfl rfl ?_)
            refine g_goto (q := 42) dX10_balanceOf_38 (by decide) ?_
            refine g_iadd (q := 43) dX10_balanceOf_42 rfl ?_
            refine g_istore_n (lv' := [(0, _), (1, _), (2, _), (3, _)]) (q := 44) dX10_balanceOf_43 rfl rfl (Nat.le_of_ble_eq_true rfl) rfl ?_
            refine g_iload_n (q := 45) dX10_balanceOf_44 rfl rfl rfl ?_
            refine g_aload_n (q := 46) dX10_balanceOf_45 rfl rfl rfl ?_
            refine gf_X10_29 rfl 0 rfl rfl (q := 49) dX10_balanceOf_46 rfl ?_
            refine g_iload_n (q := 50) dX10_balanceOf_49 rfl rfl rfl ?_
            have hb2 := htw (i) (by omega)
            refine g_iald (v := nI (tw i)) 2 rfl (ixIn (j := i) rfl (by omega) (by decide)) ((ixV (j := i) rfl (by omega)).trans (nowF_t (by omega))) (q := 51) dX10_balanceOf_50 rfl ?_
            refine g_iload_n (q := 52) dX10_balanceOf_51 rfl rfl rfl ?_
            refine g_icmp_neN (t := 63) (q := 55) dX10_balanceOf_52 (by decide) rfl (by omega) (by omega) (fun c52 => ?_) (fun c52 => ?_)
            · skip
              refine g_iconst (v := nI 0) (q := 64) dX10_balanceOf_63 rfl ki_0 ?_
              refine g_isub (q := 65) dX10_balanceOf_64 rfl ?_
              refine g_istore_n (lv' := [(0, _), (1, _), (2, _), (3, _)]) (q := 66) dX10_balanceOf_65 rfl rfl (Nat.le_of_ble_eq_true rfl) rfl ?_
              refine g_iinc (lv' := [(0, _), (1, _), (2, _), (3, _)]) (v := nI (i + 1)) (q := 69) dX10_balanceOf_66 rfl rfl (nI_inc _) (Nat.le_of_ble_eq_true rfl) rfl ?_
              refine g_goto (q := 4) dX10_balanceOf_69 (by decide) ?_
              simp only [balM, hG, if_pos c30, if_neg c52] at ih4
              exact ih4
            · skip
              refine g_aload_n (q := 56) dX10_balanceOf_55 rfl rfl rfl ?_
              refine g_iload_n (q := 57) dX10_balanceOf_56 rfl rfl rfl ?_
              refine gc_X10_214 (c_worthOf (by omega) hkd htw hwt hrt) rfl (Nat.le_of_ble_eq_true rfl) rfl 0 rfl [0, 1, 2, 3] rfl rfl (rest := [_]) rfl (Nat.le_of_ble_eq_true rfl) (q := 60) dX10_balanceOf_57 rfl (exK (ws' := [_, _, _, _, _]) (st' := [.int (nI (worN kd tw wt rt i)), _]) rfl rfl ?_)
              refine g_goto (q := 64) dX10_balanceOf_60 (by decide) ?_
              refine g_isub (q := 65) dX10_balanceOf_64 rfl ?_
              refine g_istore_n (lv' := [(0, _), (1, _), (2, _), (3, _)]) (q := 66) dX10_balanceOf_65 rfl rfl (Nat.le_of_ble_eq_true rfl) rfl ?_
              refine g_iinc (lv' := [(0, _), (1, _), (2, _), (3, _)]) (v := nI (i + 1)) (q := 69) dX10_balanceOf_66 rfl rfl (nI_inc _) (Nat.le_of_ble_eq_true rfl) rfl ?_
              refine g_goto (q := 4) dX10_balanceOf_69 (by decide) ?_
              simp only [balM, hG, if_pos c30, if_pos c52] at ih4
              exact ih4
  · skip
    show G E _ [(m0, .inr (10, (.int (nI (nt)) :: .ref mt :: .int (nI (nb)) :: .ref mk :: .ref mb :: .int (nI (lw)) :: .int (nI (sl)) :: .int (nI (tl)) :: .ref mx :: .int (po) :: .int (ta) :: .long (tk) :: .int (dg) :: .int (nu) :: .int (fa) :: .int (rm_) :: .int (rto) :: .int (rbo) :: .ref mr :: .ref mn :: .ref ma :: .ref mi :: .ref mj :: .int (nI (en)) :: .ref mg :: .int (nI (sn)) :: .ref ms :: .int (nI (dn)) :: .ref md :: .ref mc :: .ref me :: .int (ga) :: .ref mh :: .ref mo :: .ref mw :: []))), (mk, .inl (E.2.1.1, 10, .inl (nA (kd)))), (mn, .inl (E.2.1.1, 47, .inl (nowF tw wt sk gr ch yr))), (mt, .inl (E.2.1.1, 30, .inl (townF cr rt fd wn nx))), (mg, .inl (E.2.1.1, 10, .inl (oA (g))))] 4 [(0, .ref m0), (1, .int (nI (t))), (2, .int (balM g kd tw wt rt t nb)), (3, .int (nI (nb)))] []
    refine g_iload_n (q := 5) dX10_balanceOf_4 rfl rfl rfl ?_
    refine g_aload_n (q := 6) dX10_balanceOf_5 rfl rfl rfl ?_
    refine gf_X10_77 rfl 0 rfl rfl (q := 9) dX10_balanceOf_6 rfl ?_
    refine g_icmp_geN (t := 72) (q := 12) dX10_balanceOf_9 (by decide) rfl (by omega) (by omega) (fun c9 => ?_) (fun c9 => ?_)
    · skip
      refine g_iload_n (q := 73) dX10_balanceOf_72 rfl rfl rfl ?_
      refine g_iret (st := []) dX10_balanceOf_73 rfl rfl rfl ?_
      exact (xr rfl)
    · omega
set_option maxHeartbeats 2000000 in
set_option maxRecDepth 20000 in
theorem c_mbalance {E : EN} {m0 mt mk mb mx mr mn ma mi mj mg ms md mc me mh mo mw nt nb lw sl tl en sn dn : Nat} {po ta dg nu fa rm_ rto rbo ga : Int32} {tk : Int64} {kd tw wt sk gr : Nat → Nat} {ch : Nat → Int32} {yr : Nat} {cr rt fd nx : Nat → Nat} {wn : Nat → Int32} {eb eg : Nat → Nat} {x : Int32} (hnb : nb ≤ 10) (hnt : nt ≤ 6) (hE : okE nb nt en tw eb eg) (hkd : ∀ j, j < 10 → kd j < 4) (htw : ∀ j, j < 10 → tw j < 6) (hwt : ∀ j, j < 10 → wt j < 100) (hrt : ∀ j, j < 6 → rt j < 10)  : CT E yX10_balance cX10_balance 2 (some .int) 3 [.ref m0, .int (x)] [(m0, .inr (10, (.int (nI (nt)) :: .ref mt :: .int (nI (nb)) :: .ref mk :: .ref mb :: .int (nI (lw)) :: .int (nI (sl)) :: .int (nI (tl)) :: .ref mx :: .int (po) :: .int (ta) :: .long (tk) :: .int (dg) :: .int (nu) :: .int (fa) :: .int (rm_) :: .int (rto) :: .int (rbo) :: .ref mr :: .ref mn :: .ref ma :: .ref mi :: .ref mj :: .int (nI (en)) :: .ref mg :: .int (nI (sn)) :: .ref ms :: .int (nI (dn)) :: .ref md :: .ref mc :: .ref me :: .int (ga) :: .ref mh :: .ref mo :: .ref mw :: []))), (mk, .inl (E.2.1.1, 10, .inl (nA (kd)))), (mn, .inl (E.2.1.1, 47, .inl (nowF tw wt sk gr ch yr))), (mt, .inl (E.2.1.1, 30, .inl (townF cr rt fd wn nx))), (mg, .inl (E.2.1.1, 10, .inl (oA (gsE eb eg en))))] (xQ (some (.int (opBalance nt en kd tw wt rt eb eg x))) [(m0, .inr (10, (.int (nI (nt)) :: .ref mt :: .int (nI (nb)) :: .ref mk :: .ref mb :: .int (nI (lw)) :: .int (nI (sl)) :: .int (nI (tl)) :: .ref mx :: .int (po) :: .int (ta) :: .long (tk) :: .int (dg) :: .int (nu) :: .int (fa) :: .int (rm_) :: .int (rto) :: .int (rbo) :: .ref mr :: .ref mn :: .ref ma :: .ref mi :: .ref mj :: .int (nI (en)) :: .ref mg :: .int (nI (sn)) :: .ref ms :: .int (nI (dn)) :: .ref md :: .ref mc :: .ref me :: .int (ga) :: .ref mh :: .ref mo :: .ref mw :: []))), (mk, .inl (E.2.1.1, 10, .inl (nA (kd)))), (mn, .inl (E.2.1.1, 47, .inl (nowF tw wt sk gr ch yr))), (mt, .inl (E.2.1.1, 30, .inl (townF cr rt fd wn nx))), (mg, .inl (E.2.1.1, 10, .inl (oA (gsE eb eg en))))]) := by
  refine ct_of (by decide +kernel) (Nat.le_of_ble_eq_true rfl) (lv := [(0, .ref m0), (1, .int (x))]) rfl (fun A => ?_)
  refine g_aload_n (q := 1) dX10_balance_0 rfl rfl rfl ?_
  refine g_iload_n (q := 2) dX10_balance_1 rfl rfl rfl ?_
  refine gc_X10_203 (c_misTown (by omega)) rfl (Nat.le_of_ble_eq_true rfl) rfl 0 rfl [0] rfl rfl (rest := []) rfl (Nat.le_of_ble_eq_true rfl) (q := 5) dX10_balance_2 rfl (exK (ws' := [_, _, _, _, _]) (st' := [.int (bI (tn x nt).isSome)]) rfl rfl ?_)
  refine g_if_eq (t := 19) (q := 8) dX10_balance_5 (by decide) rfl (fun c5 => ?_) (fun c5 => ?_)
  · have nt := isSome_f (bI_eq0.mp c5)
    refine g_bipush (v := (-2)) (q := 21) dX10_balance_19 rfl kb_m2 ?_
    refine g_iret (st := []) dX10_balance_21 rfl rfl rfl ?_
    exact xr (by simp [opBalance, nt, balM_L hE, Int32.add_comm])
  · obtain ⟨t, ht⟩ := isSome_t (bI_ne0.mp c5)
    obtain ⟨ht1, rfl⟩ := tn_some ht
    refine g_aload_n (q := 9) dX10_balance_8 rfl rfl rfl ?_
    refine g_iload_n (q := 10) dX10_balance_9 rfl rfl rfl ?_
    refine gc_X10_218 (c_mbalanceOf (by omega) hnb (fun b o h => Nat.lt_of_lt_of_le (gsE_slt hE.2.2.1 h) hnt) hkd htw hwt hrt) rfl (Nat.le_of_ble_eq_true rfl) rfl 0 rfl [0, 1, 2, 3, 4] rfl rfl (rest := []) rfl (Nat.le_of_ble_eq_true rfl) (q := 13) dX10_balance_10 rfl (exK (ws' := [_, _, _, _, _]) (st' := [.int (balM (gsE eb eg en) kd tw wt rt t nb)]) rfl rfl ?_)
    refine g_ldc (v := nI 10000000) rfl mkX10_206 (q := 15) dX10_balance_13 rfl ?_
    refine g_iadd (q := 16) dX10_balance_15 rfl ?_
    refine g_goto (q := 21) dX10_balance_16 (by decide) ?_
    refine g_iret (st := []) dX10_balance_21 rfl rfl rfl ?_
    exact xr (by simp [opBalance, ht, balM_L hE, Int32.add_comm])
theorem nb_f {b : Bool} (h : (!b) = true) : b = false := by cases b <;> simp_all
theorem nb_t {b : Bool} (h : (!b) = false) : b = true := by cases b <;> simp_all
set_option maxHeartbeats 2000000 in
set_option maxRecDepth 20000 in
theorem c_mjudge {E : EN} {m0 mt mk mb mx mr mn ma mi mj mg ms md mc me mh mo mw nt nb lw sl tl en sn dn : Nat} {po ta dg nu fa rm_ rto rbo ga : Int32} {tk : Int64} {kd tw wt sk gr : Nat → Nat} {ch : Nat → Int32} {yr : Nat} {cr rt fd nx : Nat → Nat} {wn : Nat → Int32} {eb eg : Nat → Nat} (hsl : sl < 1000) (hnb : nb ≤ 10) (hnt : nt ≤ 6) (hE : okE nb nt en tw eb eg) (hwr : ∀ i, i < en → worN kd tw wt rt (eb i) < 1000) (hkd : ∀ j, j < 10 → kd j < 4) (htw : ∀ j, j < 10 → tw j < 6) (hwt : ∀ j, j < 10 → wt j < 100) (hrt : ∀ j, j < 6 → rt j < 10)  : CT E yX10_judge cX10_judge 4 (some .int) 3 [.ref m0] [(m0, .inr (10, (.int (nI (nt)) :: .ref mt :: .int (nI (nb)) :: .ref mk :: .ref mb :: .int (nI (lw)) :: .int (nI (sl)) :: .int (nI (tl)) :: .ref mx :: .int (po) :: .int (ta) :: .long (tk) :: .int (dg) :: .int (nu) :: .int (fa) :: .int (rm_) :: .int (rto) :: .int (rbo) :: .ref mr :: .ref mn :: .ref ma :: .ref mi :: .ref mj :: .int (nI (en)) :: .ref mg :: .int (nI (sn)) :: .ref ms :: .int (nI (dn)) :: .ref md :: .ref mc :: .ref me :: .int (ga) :: .ref mh :: .ref mo :: .ref mw :: []))), (mk, .inl (E.2.1.1, 10, .inl (nA (kd)))), (mn, .inl (E.2.1.1, 47, .inl (nowF tw wt sk gr ch yr))), (mt, .inl (E.2.1.1, 30, .inl (townF cr rt fd wn nx))), (mg, .inl (E.2.1.1, 10, .inl (oA (gsE eb eg en))))] (xQ (some (.int (opJudge nt sl en kd tw wt rt eb eg))) [(m0, .inr (10, (.int (nI (nt)) :: .ref mt :: .int (nI (nb)) :: .ref mk :: .ref mb :: .int (nI (lw)) :: .int (nI (sl)) :: .int (nI (tl)) :: .ref mx :: .int (po) :: .int (ta) :: .long (tk) :: .int (dg) :: .int (nu) :: .int (fa) :: .int (rm_) :: .int (rto) :: .int (rbo) :: .ref mr :: .ref mn :: .ref ma :: .ref mi :: .ref mj :: .int (nI (en)) :: .ref mg :: .int (nI (sn)) :: .ref ms :: .int (nI (dn)) :: .ref md :: .ref mc :: .ref me :: .int (ga) :: .ref mh :: .ref mo :: .ref mw :: []))), (mk, .inl (E.2.1.1, 10, .inl (nA (kd)))), (mn, .inl (E.2.1.1, 47, .inl (nowF tw wt sk gr ch yr))), (mt, .inl (E.2.1.1, 30, .inl (townF cr rt fd wn nx))), (mg, .inl (E.2.1.1, 10, .inl (oA (gsE eb eg en))))]) := by
  refine ct_of (by decide +kernel) (Nat.le_of_ble_eq_true rfl) (lv := [(0, .ref m0)]) rfl (fun A => ?_)
  refine g_iconst (v := nI 0) (q := 1) dX10_judge_0 rfl ki_0 ?_
  refine g_istore_n (lv' := [(0, _), (1, _)]) (q := 2) dX10_judge_1 rfl rfl (Nat.le_of_ble_eq_true rfl) rfl ?_
  refine g_loopI (nt) (fun t => fstN (clo sl en kd tw wt rt eb eg) t = none) (fun t => [(m0, .inr (10, (.int (nI (nt)) :: .ref mt :: .int (nI (nb)) :: .ref mk :: .ref mb :: .int (nI (lw)) :: .int (nI (sl)) :: .int (nI (tl)) :: .ref mx :: .int (po) :: .int (ta) :: .long (tk) :: .int (dg) :: .int (nu) :: .int (fa) :: .int (rm_) :: .int (rto) :: .int (rbo) :: .ref mr :: .ref mn :: .ref ma :: .ref mi :: .ref mj :: .int (nI (en)) :: .ref mg :: .int (nI (sn)) :: .ref ms :: .int (nI (dn)) :: .ref md :: .ref mc :: .ref me :: .int (ga) :: .ref mh :: .ref mo :: .ref mw :: []))), (mk, .inl (E.2.1.1, 10, .inl (nA (kd)))), (mn, .inl (E.2.1.1, 47, .inl (nowF tw wt sk gr ch yr))), (mt, .inl (E.2.1.1, 30, .inl (townF cr rt fd wn nx))), (mg, .inl (E.2.1.1, 10, .inl (oA (gsE eb eg en))))]) (fun t => [(0, .ref m0), (1, .int (nI (t)))]) ?_ ?_ 0 (Nat.zero_le _) (rfl)
  · intro t ht2 hv2 ih2
    show G E _ [(m0, .inr (10, (.int (nI (nt)) :: .ref mt :: .int (nI (nb)) :: .ref mk :: .ref mb :: .int (nI (lw)) :: .int (nI (sl)) :: .int (nI (tl)) :: .ref mx :: .int (po) :: .int (ta) :: .long (tk) :: .int (dg) :: .int (nu) :: .int (fa) :: .int (rm_) :: .int (rto) :: .int (rbo) :: .ref mr :: .ref mn :: .ref ma :: .ref mi :: .ref mj :: .int (nI (en)) :: .ref mg :: .int (nI (sn)) :: .ref ms :: .int (nI (dn)) :: .ref md :: .ref mc :: .ref me :: .int (ga) :: .ref mh :: .ref mo :: .ref mw :: []))), (mk, .inl (E.2.1.1, 10, .inl (nA (kd)))), (mn, .inl (E.2.1.1, 47, .inl (nowF tw wt sk gr ch yr))), (mt, .inl (E.2.1.1, 30, .inl (townF cr rt fd wn nx))), (mg, .inl (E.2.1.1, 10, .inl (oA (gsE eb eg en))))] 2 [(0, .ref m0), (1, .int (nI (t)))] []
    refine g_iload_n (q := 3) dX10_judge_2 rfl rfl rfl ?_
    refine g_aload_n (q := 4) dX10_judge_3 rfl rfl rfl ?_
    refine gf_X10_7 rfl 0 rfl rfl (q := 7) dX10_judge_4 rfl ?_
    refine g_icmp_geN (t := 106) (q := 10) dX10_judge_7 (by decide) rfl (by omega) (by omega) (fun c7 => ?_) (fun c7 => ?_)
    · omega
    · skip
      refine g_iconst (v := nI 0) (q := 11) dX10_judge_10 rfl ki_0 ?_
      refine g_istore_n (lv' := [(0, _), (1, _), (2, _)]) (q := 12) dX10_judge_11 rfl rfl (Nat.le_of_ble_eq_true rfl) rfl ?_
      refine g_iconst (v := nI 0) (q := 13) dX10_judge_12 rfl ki_0 ?_
      refine g_istore_n (lv' := [(0, _), (1, _), (2, _), (3, _)]) (q := 14) dX10_judge_13 rfl rfl (Nat.le_of_ble_eq_true rfl) rfl ?_
      refine g_loop (nb) (fun i => [(m0, .inr (10, (.int (nI (nt)) :: .ref mt :: .int (nI (nb)) :: .ref mk :: .ref mb :: .int (nI (lw)) :: .int (nI (sl)) :: .int (nI (tl)) :: .ref mx :: .int (po) :: .int (ta) :: .long (tk) :: .int (dg) :: .int (nu) :: .int (fa) :: .int (rm_) :: .int (rto) :: .int (rbo) :: .ref mr :: .ref mn :: .ref ma :: .ref mi :: .ref mj :: .int (nI (en)) :: .ref mg :: .int (nI (sn)) :: .ref ms :: .int (nI (dn)) :: .ref md :: .ref mc :: .ref me :: .int (ga) :: .ref mh :: .ref mo :: .ref mw :: []))), (mk, .inl (E.2.1.1, 10, .inl (nA (kd)))), (mn, .inl (E.2.1.1, 47, .inl (nowF tw wt sk gr ch yr))), (mt, .inl (E.2.1.1, 30, .inl (townF cr rt fd wn nx))), (mg, .inl (E.2.1.1, 10, .inl (oA (gsE eb eg en))))]) (fun i => [(0, .ref m0), (1, .int (nI (t))), (2, .int (cmM (gsE eb eg en) tw t i)), (3, .int (nI (i)))]) ?_ ?_ 0 (Nat.zero_le _)
      · intro i hi14 ih14
        show G E _ [(m0, .inr (10, (.int (nI (nt)) :: .ref mt :: .int (nI (nb)) :: .ref mk :: .ref mb :: .int (nI (lw)) :: .int (nI (sl)) :: .int (nI (tl)) :: .ref mx :: .int (po) :: .int (ta) :: .long (tk) :: .int (dg) :: .int (nu) :: .int (fa) :: .int (rm_) :: .int (rto) :: .int (rbo) :: .ref mr :: .ref mn :: .ref ma :: .ref mi :: .ref mj :: .int (nI (en)) :: .ref mg :: .int (nI (sn)) :: .ref ms :: .int (nI (dn)) :: .ref md :: .ref mc :: .ref me :: .int (ga) :: .ref mh :: .ref mo :: .ref mw :: []))), (mk, .inl (E.2.1.1, 10, .inl (nA (kd)))), (mn, .inl (E.2.1.1, 47, .inl (nowF tw wt sk gr ch yr))), (mt, .inl (E.2.1.1, 30, .inl (townF cr rt fd wn nx))), (mg, .inl (E.2.1.1, 10, .inl (oA (gsE eb eg en))))] 14 [(0, .ref m0), (1, .int (nI (t))), (2, .int (cmM (gsE eb eg en) tw t i)), (3, .int (nI (i)))] []
        refine g_iload_n (q := 15) dX10_judge_14 rfl rfl rfl ?_
        refine g_aload_n (q := 16) dX10_judge_15 rfl rfl rfl ?_
        refine gf_X10_77 rfl 0 rfl rfl (q := 19) dX10_judge_16 rfl ?_
        refine g_icmp_geN (t := 74) (q := 22) dX10_judge_19 (by decide) rfl (by omega) (by omega) (fun c19 => ?_) (fun c19 => ?_)
        · omega
        · skip
          refine g_aload_n (q := 23) dX10_judge_22 rfl rfl rfl ?_
          refine gf_X10_42 rfl 0 rfl rfl (q := 26) dX10_judge_23 rfl ?_
          refine g_iload_n (q := 27) dX10_judge_26 rfl rfl rfl ?_
          refine g_iald (v := oI ((gsE eb eg en) i)) 4 rfl (ixIn (j := i) rfl (by omega) (by decide)) (ixV (j := i) rfl (by omega)) (q := 28) dX10_judge_27 rfl ?_
          rcases hG : ((gsE eb eg en) i) with _ | o
          · skip
            refine g_top (y := (-1)) (by first | rfl | (rw [hG]; rfl)) ?_
            refine g_iconst (v := (-1)) (q := 29) dX10_judge_28 rfl ki_m1 ?_
            refine g_icmp_eq (t := 68) (q := 32) dX10_judge_29 (by decide) rfl (fun c29 => ?_) (fun c29 => ?_)
            · skip
              refine g_iinc (lv' := [(0, _), (1, _), (2, _), (3, _)]) (v := nI (i + 1)) (q := 71) dX10_judge_68 rfl rfl (nI_inc _) (Nat.le_of_ble_eq_true rfl) rfl ?_
              refine g_goto (q := 14) dX10_judge_71 (by decide) ?_
              simp only [cmM, hG] at ih14
              exact ih14
            · exact absurd (by decide) c29
          · skip
            have hGb := Nat.lt_of_lt_of_le (gsE_slt hE.2.2.1 hG) hnt
            refine g_top (y := nI o) (by first | rfl | (rw [hG]; rfl)) ?_
            refine g_iconst (v := (-1)) (q := 29) dX10_judge_28 rfl ki_m1 ?_
            refine g_icmp_eq (t := 68) (q := 32) dX10_judge_29 (by decide) rfl (fun c29 => ?_) (fun c29 => ?_)
            · exact absurd c29 (nI_m1 (by omega))
            · skip
              refine g_iload_n (q := 33) dX10_judge_32 rfl rfl rfl ?_
              refine g_aload_n (q := 34) dX10_judge_33 rfl rfl rfl ?_
              refine gf_X10_42 rfl 0 rfl rfl (q := 37) dX10_judge_34 rfl ?_
              refine g_iload_n (q := 38) dX10_judge_37 rfl rfl rfl ?_
              refine g_iald (v := oI ((gsE eb eg en) i)) 4 rfl (ixIn (j := i) rfl (by omega) (by decide)) (ixV (j := i) rfl (by omega)) (q := 39) dX10_judge_38 rfl ?_
              refine g_top (y := nI o) (by first | rfl | (rw [hG]; rfl)) ?_
              refine g_iload_n (q := 40) dX10_judge_39 rfl rfl rfl ?_
              refine g_icmp_neN (t := 47) (q := 43) dX10_judge_40 (by decide) rfl (by omega) (by omega) (fun c40 => ?_) (fun c40 => ?_)
              · skip
                refine g_iconst (v := nI 0) (q := 48) dX10_judge_47 rfl ki_0 ?_
                refine g_iadd (q := 49) dX10_judge_48 rfl ?_
                refine g_istore_n (lv' := [(0, _), (1, _), (2, _), (3, _)]) (q := 50) dX10_judge_49 rfl rfl (Nat.le_of_ble_eq_true rfl) rfl ?_
                refine g_iload_n (q := 51) dX10_judge_50 rfl rfl rfl ?_
                refine g_aload_n (q := 52) dX10_judge_51 rfl rfl rfl ?_
                refine gf_X10_29 rfl 0 rfl rfl (q := 55) dX10_judge_52 rfl ?_
                refine g_iload_n (q := 56) dX10_judge_55 rfl rfl rfl ?_
                have hb1 := htw (i) (by omega)
                refine g_iald (v := nI (tw i)) 2 rfl (ixIn (j := i) rfl (by omega) (by decide)) ((ixV (j := i) rfl (by omega)).trans (nowF_t (by omega))) (q := 57) dX10_judge_56 rfl ?_
                refine g_iload_n (q := 58) dX10_judge_57 rfl rfl rfl ?_
                refine g_icmp_neN (t := 65) (q := 61) dX10_judge_58 (by decide) rfl (by omega) (by omega) (fun c58 => ?_) (fun c58 => ?_)
                · skip
                  refine g_iconst (v := nI 0) (q := 66) dX10_judge_65 rfl ki_0 ?_
                  refine g_isub (q := 67) dX10_judge_66 rfl ?_
                  refine g_istore_n (lv' := [(0, _), (1, _), (2, _), (3, _)]) (q := 68) dX10_judge_67 rfl rfl (Nat.le_of_ble_eq_true rfl) rfl ?_
                  refine g_iinc (lv' := [(0, _), (1, _), (2, _), (3, _)]) (v := nI (i + 1)) (q := 71) dX10_judge_68 rfl rfl (nI_inc _) (Nat.le_of_ble_eq_true rfl) rfl ?_
                  refine g_goto (q := 14) dX10_judge_71 (by decide) ?_
                  simp only [cmM, hG, if_neg c40, if_neg c58] at ih14
                  exact ih14
                · skip
                  refine g_iconst (v := nI 1) (q := 62) dX10_judge_61 rfl ki_1 ?_
                  refine g_goto (q := 66) dX10_judge_62 (by decide) ?_
                  refine g_isub (q := 67) dX10_judge_66 rfl ?_
                  refine g_istore_n (lv' := [(0, _), (1, _), (2, _), (3, _)]) (q := 68) dX10_judge_67 rfl rfl (Nat.le_of_ble_eq_true rfl) rfl ?_
                  refine g_iinc (lv' := [(0, _), (1, _), (2, _), (3, _)]) (v := nI (i + 1)) (q := 71) dX10_judge_68 rfl rfl (nI_inc _) (Nat.le_of_ble_eq_true rfl) rfl ?_
                  refine g_goto (q := 14) dX10_judge_71 (by decide) ?_
                  simp only [cmM, hG, if_neg c40, if_pos c58] at ih14
                  exact ih14
              · skip
                refine g_iconst (v := nI 1) (q := 44) dX10_judge_43 rfl ki_1 ?_
                refine g_goto (q := 48) dX10_judge_44 (by decide) ?_
                refine g_iadd (q := 49) dX10_judge_48 rfl ?_
                refine g_istore_n (lv' := [(0, _), (1, _), (2, _), (3, _)]) (q := 50) dX10_judge_49 rfl rfl (Nat.le_of_ble_eq_true rfl) rfl ?_
                refine g_iload_n (q := 51) dX10_judge_50 rfl rfl rfl ?_
                refine g_aload_n (q := 52) dX10_judge_51 rfl rfl rfl ?_
                refine gf_X10_29 rfl 0 rfl rfl (q := 55) dX10_judge_52 rfl ?_
                refine g_iload_n (q := 56) dX10_judge_55 rfl rfl rfl ?_
                have hb2 := htw (i) (by omega)
                refine g_iald (v := nI (tw i)) 2 rfl (ixIn (j := i) rfl (by omega) (by decide)) ((ixV (j := i) rfl (by omega)).trans (nowF_t (by omega))) (q := 57) dX10_judge_56 rfl ?_
                refine g_iload_n (q := 58) dX10_judge_57 rfl rfl rfl ?_
                refine g_icmp_neN (t := 65) (q := 61) dX10_judge_58 (by decide) rfl (by omega) (by omega) (fun c58 => ?_) (fun c58 => ?_)
                · skip
                  refine g_iconst (v := nI 0) (q := 66) dX10_judge_65 rfl ki_0 ?_
                  refine g_isub (q := 67) dX10_judge_66 rfl ?_
                  refine g_istore_n (lv' := [(0, _), (1, _), (2, _), (3, _)]) (q := 68) dX10_judge_67 rfl rfl (Nat.le_of_ble_eq_true rfl) rfl ?_
                  refine g_iinc (lv' := [(0, _), (1, _), (2, _), (3, _)]) (v := nI (i + 1)) (q := 71) dX10_judge_68 rfl rfl (nI_inc _) (Nat.le_of_ble_eq_true rfl) rfl ?_
                  refine g_goto (q := 14) dX10_judge_71 (by decide) ?_
                  simp only [cmM, hG, if_pos c40, if_neg c58] at ih14
                  exact ih14
                · skip
                  refine g_iconst (v := nI 1) (q := 62) dX10_judge_61 rfl ki_1 ?_
                  refine g_goto (q := 66) dX10_judge_62 (by decide) ?_
                  refine g_isub (q := 67) dX10_judge_66 rfl ?_
                  refine g_istore_n (lv' := [(0, _), (1, _), (2, _), (3, _)]) (q := 68) dX10_judge_67 rfl rfl (Nat.le_of_ble_eq_true rfl) rfl ?_
                  refine g_iinc (lv' := [(0, _), (1, _), (2, _), (3, _)]) (v := nI (i + 1)) (q := 71) dX10_judge_68 rfl rfl (nI_inc _) (Nat.le_of_ble_eq_true rfl) rfl ?_
                  refine g_goto (q := 14) dX10_judge_71 (by decide) ?_
                  simp only [cmM, hG, if_pos c40, if_pos c58] at ih14
                  exact ih14
      · skip
        show G E _ [(m0, .inr (10, (.int (nI (nt)) :: .ref mt :: .int (nI (nb)) :: .ref mk :: .ref mb :: .int (nI (lw)) :: .int (nI (sl)) :: .int (nI (tl)) :: .ref mx :: .int (po) :: .int (ta) :: .long (tk) :: .int (dg) :: .int (nu) :: .int (fa) :: .int (rm_) :: .int (rto) :: .int (rbo) :: .ref mr :: .ref mn :: .ref ma :: .ref mi :: .ref mj :: .int (nI (en)) :: .ref mg :: .int (nI (sn)) :: .ref ms :: .int (nI (dn)) :: .ref md :: .ref mc :: .ref me :: .int (ga) :: .ref mh :: .ref mo :: .ref mw :: []))), (mk, .inl (E.2.1.1, 10, .inl (nA (kd)))), (mn, .inl (E.2.1.1, 47, .inl (nowF tw wt sk gr ch yr))), (mt, .inl (E.2.1.1, 30, .inl (townF cr rt fd wn nx))), (mg, .inl (E.2.1.1, 10, .inl (oA (gsE eb eg en))))] 14 [(0, .ref m0), (1, .int (nI (t))), (2, .int (cmM (gsE eb eg en) tw t nb)), (3, .int (nI (nb)))] []
        refine g_iload_n (q := 15) dX10_judge_14 rfl rfl rfl ?_
        refine g_aload_n (q := 16) dX10_judge_15 rfl rfl rfl ?_
        refine gf_X10_77 rfl 0 rfl rfl (q := 19) dX10_judge_16 rfl ?_
        refine g_icmp_geN (t := 74) (q := 22) dX10_judge_19 (by decide) rfl (by omega) (by omega) (fun c19 => ?_) (fun c19 => ?_)
        · skip
          refine g_iload_n (q := 75) dX10_judge_74 rfl rfl rfl ?_
          refine g_if_ne (t := 98) (q := 78) dX10_judge_75 (by decide) rfl (fun c75 => ?_) (fun c75 => ?_)
          · skip
            refine g_iload_n (q := 99) dX10_judge_98 rfl rfl rfl ?_
            refine g_iret (st := []) dX10_judge_99 rfl rfl rfl ?_
            exact xr (by rw [opJudge, fstN_hit hv2 (Bool.eq_false_iff.mpr (fun z => absurd ((clo_t hE hsl hwr).mp z).1 c75)) ht2]; rfl)
          · skip
            refine g_aload_n (q := 79) dX10_judge_78 rfl rfl rfl ?_
            refine g_iload_n (q := 80) dX10_judge_79 rfl rfl rfl ?_
            refine gc_X10_218 (c_mbalanceOf (by omega) hnb (fun b o h => Nat.lt_of_lt_of_le (gsE_slt hE.2.2.1 h) hnt) hkd htw hwt hrt) rfl (Nat.le_of_ble_eq_true rfl) rfl 0 rfl [0, 1, 2, 3, 4] rfl rfl (rest := []) rfl (Nat.le_of_ble_eq_true rfl) (q := 83) dX10_judge_80 rfl (exK (ws' := [_, _, _, _, _]) (st' := [.int (balM (gsE eb eg en) kd tw wt rt t nb)]) rfl rfl ?_)
            refine g_aload_n (q := 84) dX10_judge_83 rfl rfl rfl ?_
            refine gf_X10_83 rfl 0 rfl rfl (q := 87) dX10_judge_84 rfl ?_
            refine g_ineg (q := 88) dX10_judge_87 rfl ?_
            refine g_aload_n (q := 89) dX10_judge_88 rfl rfl rfl ?_
            refine gf_X10_83 rfl 0 rfl rfl (q := 92) dX10_judge_89 rfl ?_
            refine gc_X10_73 (c_in) rfl (Nat.le_of_ble_eq_true rfl) rfl [] rfl rfl (rest := []) rfl (Nat.le_of_ble_eq_true rfl) (q := 95) dX10_judge_92 rfl (exK (ws' := [_, _, _, _, _]) (st' := [.int (bI (!ninB (balM (gsE eb eg en) kd tw wt rt t nb) (-(nI sl)) (nI sl)))]) rfl rfl ?_)
            refine g_if_ne (t := 100) (q := 98) dX10_judge_95 (by decide) rfl (fun c95 => ?_) (fun c95 => ?_)
            · skip
              refine g_iinc (lv' := [(0, _), (1, _), (2, _), (3, _)]) (v := nI (t + 1)) (q := 103) dX10_judge_100 rfl rfl (nI_inc _) (Nat.le_of_ble_eq_true rfl) rfl ?_
              refine g_goto (q := 2) dX10_judge_103 (by decide) ?_
              refine g_less (lv' := [(0, _), (1, _)]) 2 rfl ?_
              exact ih2 (fstN_s hv2 ((clo_t hE hsl hwr).mpr ⟨c75, nb_f (bI_ne0.mp c95)⟩))
            · skip
              refine g_iload_n (q := 99) dX10_judge_98 rfl rfl rfl ?_
              refine g_iret (st := []) dX10_judge_99 rfl rfl rfl ?_
              exact xr (by rw [opJudge, fstN_hit hv2 (Bool.eq_false_iff.mpr (fun z => absurd ((clo_t hE hsl hwr).mp z).2 (by rw [nb_t (bI_eq0.mp c95)]; decide))) ht2]; rfl)
        · omega
  · intro hv2
    show G E _ [(m0, .inr (10, (.int (nI (nt)) :: .ref mt :: .int (nI (nb)) :: .ref mk :: .ref mb :: .int (nI (lw)) :: .int (nI (sl)) :: .int (nI (tl)) :: .ref mx :: .int (po) :: .int (ta) :: .long (tk) :: .int (dg) :: .int (nu) :: .int (fa) :: .int (rm_) :: .int (rto) :: .int (rbo) :: .ref mr :: .ref mn :: .ref ma :: .ref mi :: .ref mj :: .int (nI (en)) :: .ref mg :: .int (nI (sn)) :: .ref ms :: .int (nI (dn)) :: .ref md :: .ref mc :: .ref me :: .int (ga) :: .ref mh :: .ref mo :: .ref mw :: []))), (mk, .inl (E.2.1.1, 10, .inl (nA (kd)))), (mn, .inl (E.2.1.1, 47, .inl (nowF tw wt sk gr ch yr))), (mt, .inl (E.2.1.1, 30, .inl (townF cr rt fd wn nx))), (mg, .inl (E.2.1.1, 10, .inl (oA (gsE eb eg en))))] 2 [(0, .ref m0), (1, .int (nI (nt)))] []
    refine g_iload_n (q := 3) dX10_judge_2 rfl rfl rfl ?_
    refine g_aload_n (q := 4) dX10_judge_3 rfl rfl rfl ?_
    refine gf_X10_7 rfl 0 rfl rfl (q := 7) dX10_judge_4 rfl ?_
    refine g_icmp_geN (t := 106) (q := 10) dX10_judge_7 (by decide) rfl (by omega) (by omega) (fun c7 => ?_) (fun c7 => ?_)
    · skip
      refine g_iconst (v := (-1)) (q := 107) dX10_judge_106 rfl ki_m1 ?_
      refine g_iret (st := []) dX10_judge_107 rfl rfl rfl ?_
      exact xr (by rw [opJudge, hv2]; rfl)
    · omega
set_option maxHeartbeats 2000000 in
set_option maxRecDepth 20000 in
theorem c_goAll {E : EN} {m0 mt mk mb mx mr mn ma mi mj mg ms md mc me mh mo mw nt nb lw sl tl en sn dn : Nat} {po ta dg nu fa rm_ rto rbo ga : Int32} {tk : Int64} {kd tw wt sk gr : Nat → Nat} {ch : Nat → Int32} {yr : Nat} {cr rt fd nx : Nat → Nat} {wn : Nat → Int32} {g : Nat → Option Nat} (hnb : nb ≤ 10) (hnt : nt ≤ 6) (hg : ∀ b o, g b = some o → o < 6) (hkd : ∀ j, j < 10 → kd j < 4) (htw : ∀ j, j < 10 → tw j < 6) (hwt : ∀ j, j < 10 → wt j < 100) (hrt : ∀ j, j < 6 → rt j < 10)  : CT E yX10_goAll cX10_goAll 2 (none) 3 [.ref m0] [(m0, .inr (10, (.int (nI (nt)) :: .ref mt :: .int (nI (nb)) :: .ref mk :: .ref mb :: .int (nI (lw)) :: .int (nI (sl)) :: .int (nI (tl)) :: .ref mx :: .int (po) :: .int (ta) :: .long (tk) :: .int (dg) :: .int (nu) :: .int (fa) :: .int (rm_) :: .int (rto) :: .int (rbo) :: .ref mr :: .ref mn :: .ref ma :: .ref mi :: .ref mj :: .int (nI (en)) :: .ref mg :: .int (nI (sn)) :: .ref ms :: .int (nI (dn)) :: .ref md :: .ref mc :: .ref me :: .int (ga) :: .ref mh :: .ref mo :: .ref mw :: []))), (mk, .inl (E.2.1.1, 10, .inl (nA (kd)))), (mn, .inl (E.2.1.1, 47, .inl (nowF tw wt sk gr ch yr))), (mt, .inl (E.2.1.1, 30, .inl (townF cr rt fd wn nx))), (mg, .inl (E.2.1.1, 10, .inl (oA (g))))] (xQ none [(m0, .inr (10, (.int (nI (nt)) :: .ref mt :: .int (nI (nb)) :: .ref mk :: .ref mb :: .int (nI (lw)) :: .int (nI (sl)) :: .int (nI (tl)) :: .ref mx :: .int (po) :: .int (ta) :: .long (tk) :: .int (dg) :: .int (nu) :: .int (fa) :: .int (rm_) :: .int (rto) :: .int (rbo) :: .ref mr :: .ref mn :: .ref ma :: .ref mi :: .ref mj :: .int (nI (0)) :: .ref mg :: .int (nI (sn)) :: .ref ms :: .int (nI (dn)) :: .ref md :: .ref mc :: .ref me :: .int (ga) :: .ref mh :: .ref mo :: .ref mw :: []))), (mk, .inl (E.2.1.1, 10, .inl (nA (kd)))), (mn, .inl (E.2.1.1, 47, .inl (nowF (mpN (twO g tw) tw nb) wt sk gr (chD ch (fun t => balM g kd tw wt rt t nb) nt) yr))), (mt, .inl (E.2.1.1, 30, .inl (townF cr rt fd wn nx))), (mg, .inl (E.2.1.1, 10, .inl (oA (fun _ => none))))]) := by
  refine ct_of (by decide +kernel) (Nat.le_of_ble_eq_true rfl) (lv := [(0, .ref m0)]) rfl (fun A => ?_)
  refine g_iconst (v := nI 0) (q := 1) dX10_goAll_0 rfl ki_0 ?_
  refine g_istore_n (lv' := [(0, _), (1, _)]) (q := 2) dX10_goAll_1 rfl rfl (Nat.le_of_ble_eq_true rfl) rfl ?_
  refine g_eq (ws' := [(m0, .inr (10, (.int (nI (nt)) :: .ref mt :: .int (nI (nb)) :: .ref mk :: .ref mb :: .int (nI (lw)) :: .int (nI (sl)) :: .int (nI (tl)) :: .ref mx :: .int (po) :: .int (ta) :: .long (tk) :: .int (dg) :: .int (nu) :: .int (fa) :: .int (rm_) :: .int (rto) :: .int (rbo) :: .ref mr :: .ref mn :: .ref ma :: .ref mi :: .ref mj :: .int (nI (en)) :: .ref mg :: .int (nI (sn)) :: .ref ms :: .int (nI (dn)) :: .ref md :: .ref mc :: .ref me :: .int (ga) :: .ref mh :: .ref mo :: .ref mw :: []))), (mk, .inl (E.2.1.1, 10, .inl (nA (kd)))), (mn, .inl (E.2.1.1, 47, .inl (nowF tw wt sk gr (chD ch (fun t => balM g kd tw wt rt t nb) 0) yr))), (mt, .inl (E.2.1.1, 30, .inl (townF cr rt fd wn nx))), (mg, .inl (E.2.1.1, 10, .inl (oA (g))))]) ?_ (by rw [chD_0]) rfl rfl
  refine g_loop (nt) (fun i => [(m0, .inr (10, (.int (nI (nt)) :: .ref mt :: .int (nI (nb)) :: .ref mk :: .ref mb :: .int (nI (lw)) :: .int (nI (sl)) :: .int (nI (tl)) :: .ref mx :: .int (po) :: .int (ta) :: .long (tk) :: .int (dg) :: .int (nu) :: .int (fa) :: .int (rm_) :: .int (rto) :: .int (rbo) :: .ref mr :: .ref mn :: .ref ma :: .ref mi :: .ref mj :: .int (nI (en)) :: .ref mg :: .int (nI (sn)) :: .ref ms :: .int (nI (dn)) :: .ref md :: .ref mc :: .ref me :: .int (ga) :: .ref mh :: .ref mo :: .ref mw :: []))), (mk, .inl (E.2.1.1, 10, .inl (nA (kd)))), (mn, .inl (E.2.1.1, 47, .inl (nowF tw wt sk gr (chD ch (fun t => balM g kd tw wt rt t nb) i) yr))), (mt, .inl (E.2.1.1, 30, .inl (townF cr rt fd wn nx))), (mg, .inl (E.2.1.1, 10, .inl (oA (g))))]) (fun i => [(0, .ref m0), (1, .int (nI (i)))]) ?_ ?_ 0 (Nat.zero_le _)
  · intro i hi2 ih2
    show G E _ [(m0, .inr (10, (.int (nI (nt)) :: .ref mt :: .int (nI (nb)) :: .ref mk :: .ref mb :: .int (nI (lw)) :: .int (nI (sl)) :: .int (nI (tl)) :: .ref mx :: .int (po) :: .int (ta) :: .long (tk) :: .int (dg) :: .int (nu) :: .int (fa) :: .int (rm_) :: .int (rto) :: .int (rbo) :: .ref mr :: .ref mn :: .ref ma :: .ref mi :: .ref mj :: .int (nI (en)) :: .ref mg :: .int (nI (sn)) :: .ref ms :: .int (nI (dn)) :: .ref md :: .ref mc :: .ref me :: .int (ga) :: .ref mh :: .ref mo :: .ref mw :: []))), (mk, .inl (E.2.1.1, 10, .inl (nA (kd)))), (mn, .inl (E.2.1.1, 47, .inl (nowF tw wt sk gr (chD ch (fun t => balM g kd tw wt rt t nb) i) yr))), (mt, .inl (E.2.1.1, 30, .inl (townF cr rt fd wn nx))), (mg, .inl (E.2.1.1, 10, .inl (oA (g))))] 2 [(0, .ref m0), (1, .int (nI (i)))] []
    refine g_iload_n (q := 3) dX10_goAll_2 rfl rfl rfl ?_
    refine g_aload_n (q := 4) dX10_goAll_3 rfl rfl rfl ?_
    refine gf_X10_7 rfl 0 rfl rfl (q := 7) dX10_goAll_4 rfl ?_
    refine g_icmp_geN (t := 33) (q := 10) dX10_goAll_7 (by decide) rfl (by omega) (by omega) (fun c7 => ?_) (fun c7 => ?_)
    · omega
    · skip
      refine g_aload_n (q := 11) dX10_goAll_10 rfl rfl rfl ?_
      refine gf_X10_29 rfl 0 rfl rfl (q := 14) dX10_goAll_11 rfl ?_
      refine g_bipush (v := nI 40) (q := 16) dX10_goAll_14 rfl kb_40 ?_
      refine g_iload_n (q := 17) dX10_goAll_16 rfl rfl rfl ?_
      refine g_iaddN (q := 18) dX10_goAll_17 rfl ?_
      refine g_dup2 (q := 19) dX10_goAll_18 rfl rfl rfl ?_
      refine g_iald (v := (chD ch (fun t => balM g kd tw wt rt t nb) i) i) 2 rfl (ixIn (j := 40 + i) rfl (by omega) (by decide)) ((ixV (j := 40 + i) rfl (by omega)).trans (nowF_c (by omega))) (q := 20) dX10_goAll_19 rfl ?_
      refine g_aload_n (q := 21) dX10_goAll_20 rfl rfl rfl ?_
      refine g_iload_n (q := 22) dX10_goAll_21 rfl rfl rfl ?_
      refine gc_X10_218 (c_mbalanceOf (by omega) hnb hg hkd htw hwt hrt) rfl (Nat.le_of_ble_eq_true rfl) rfl 0 rfl [0, 1, 2, 3, 4] rfl rfl (rest := [_, _, _]) rfl (Nat.le_of_ble_eq_true rfl) (q := 25) dX10_goAll_22 rfl (exK (ws' := [_, _, _, _, _]) (st' := [.int (balM g kd tw wt rt i nb), _, _, _]) rfl rfl ?_)
      refine g_isub (q := 26) dX10_goAll_25 rfl ?_
      refine g_iast (f' := (nowF tw wt sk gr (upd (chD ch (fun t => balM g kd tw wt rt t nb) i) i (((chD ch (fun t => balM g kd tw wt rt t nb) i) i) - (balM g kd tw wt rt i nb))) yr)) 2 rfl (ixIn (j := 40 + i) rfl (by omega) (by decide)) ((ixU (j := 40 + i) rfl (by omega)).trans (nowF_wc _ (by omega))) (ws' := [_, _, (_, .inl (_, _, .inl _)), _, _]) rfl (q := 27) dX10_goAll_26 rfl ?_
      refine g_iinc (lv' := [(0, _), (1, _)]) (v := nI (i + 1)) (q := 30) dX10_goAll_27 rfl rfl (nI_inc _) (Nat.le_of_ble_eq_true rfl) rfl ?_
      refine g_goto (q := 2) dX10_goAll_30 (by decide) ?_
      rw [chD_s] at ih2
      exact ih2
  · skip
    show G E _ [(m0, .inr (10, (.int (nI (nt)) :: .ref mt :: .int (nI (nb)) :: .ref mk :: .ref mb :: .int (nI (lw)) :: .int (nI (sl)) :: .int (nI (tl)) :: .ref mx :: .int (po) :: .int (ta) :: .long (tk) :: .int (dg) :: .int (nu) :: .int (fa) :: .int (rm_) :: .int (rto) :: .int (rbo) :: .ref mr :: .ref mn :: .ref ma :: .ref mi :: .ref mj :: .int (nI (en)) :: .ref mg :: .int (nI (sn)) :: .ref ms :: .int (nI (dn)) :: .ref md :: .ref mc :: .ref me :: .int (ga) :: .ref mh :: .ref mo :: .ref mw :: []))), (mk, .inl (E.2.1.1, 10, .inl (nA (kd)))), (mn, .inl (E.2.1.1, 47, .inl (nowF tw wt sk gr (chD ch (fun t => balM g kd tw wt rt t nb) nt) yr))), (mt, .inl (E.2.1.1, 30, .inl (townF cr rt fd wn nx))), (mg, .inl (E.2.1.1, 10, .inl (oA (g))))] 2 [(0, .ref m0), (1, .int (nI (nt)))] []
    refine g_iload_n (q := 3) dX10_goAll_2 rfl rfl rfl ?_
    refine g_aload_n (q := 4) dX10_goAll_3 rfl rfl rfl ?_
    refine gf_X10_7 rfl 0 rfl rfl (q := 7) dX10_goAll_4 rfl ?_
    refine g_icmp_geN (t := 33) (q := 10) dX10_goAll_7 (by decide) rfl (by omega) (by omega) (fun c7 => ?_) (fun c7 => ?_)
    · skip
      refine g_iconst (v := nI 0) (q := 34) dX10_goAll_33 rfl ki_0 ?_
      refine g_istore_n (lv' := [(0, _), (1, _)]) (q := 35) dX10_goAll_34 rfl rfl (Nat.le_of_ble_eq_true rfl) rfl ?_
      refine g_eq (ws' := [(m0, .inr (10, (.int (nI (nt)) :: .ref mt :: .int (nI (nb)) :: .ref mk :: .ref mb :: .int (nI (lw)) :: .int (nI (sl)) :: .int (nI (tl)) :: .ref mx :: .int (po) :: .int (ta) :: .long (tk) :: .int (dg) :: .int (nu) :: .int (fa) :: .int (rm_) :: .int (rto) :: .int (rbo) :: .ref mr :: .ref mn :: .ref ma :: .ref mi :: .ref mj :: .int (nI (en)) :: .ref mg :: .int (nI (sn)) :: .ref ms :: .int (nI (dn)) :: .ref md :: .ref mc :: .ref me :: .int (ga) :: .ref mh :: .ref mo :: .ref mw :: []))), (mk, .inl (E.2.1.1, 10, .inl (nA (kd)))), (mn, .inl (E.2.1.1, 47, .inl (nowF (mpN (twO g tw) tw 0) wt sk gr (chD ch (fun t => balM g kd tw wt rt t nb) nt) yr))), (mt, .inl (E.2.1.1, 30, .inl (townF cr rt fd wn nx))), (mg, .inl (E.2.1.1, 10, .inl (oA (g))))]) ?_ (by rw [mpN_0]) rfl rfl
      refine g_loop (nb) (fun i => [(m0, .inr (10, (.int (nI (nt)) :: .ref mt :: .int (nI (nb)) :: .ref mk :: .ref mb :: .int (nI (lw)) :: .int (nI (sl)) :: .int (nI (tl)) :: .ref mx :: .int (po) :: .int (ta) :: .long (tk) :: .int (dg) :: .int (nu) :: .int (fa) :: .int (rm_) :: .int (rto) :: .int (rbo) :: .ref mr :: .ref mn :: .ref ma :: .ref mi :: .ref mj :: .int (nI (en)) :: .ref mg :: .int (nI (sn)) :: .ref ms :: .int (nI (dn)) :: .ref md :: .ref mc :: .ref me :: .int (ga) :: .ref mh :: .ref mo :: .ref mw :: []))), (mk, .inl (E.2.1.1, 10, .inl (nA (kd)))), (mn, .inl (E.2.1.1, 47, .inl (nowF (mpN (twO g tw) tw i) wt sk gr (chD ch (fun t => balM g kd tw wt rt t nb) nt) yr))), (mt, .inl (E.2.1.1, 30, .inl (townF cr rt fd wn nx))), (mg, .inl (E.2.1.1, 10, .inl (oA (g))))]) (fun i => [(0, .ref m0), (1, .int (nI (i)))]) ?_ ?_ 0 (Nat.zero_le _)
      · intro i hi35 ih35
        show G E _ [(m0, .inr (10, (.int (nI (nt)) :: .ref mt :: .int (nI (nb)) :: .ref mk :: .ref mb :: .int (nI (lw)) :: .int (nI (sl)) :: .int (nI (tl)) :: .ref mx :: .int (po) :: .int (ta) :: .long (tk) :: .int (dg) :: .int (nu) :: .int (fa) :: .int (rm_) :: .int (rto) :: .int (rbo) :: .ref mr :: .ref mn :: .ref ma :: .ref mi :: .ref mj :: .int (nI (en)) :: .ref mg :: .int (nI (sn)) :: .ref ms :: .int (nI (dn)) :: .ref md :: .ref mc :: .ref me :: .int (ga) :: .ref mh :: .ref mo :: .ref mw :: []))), (mk, .inl (E.2.1.1, 10, .inl (nA (kd)))), (mn, .inl (E.2.1.1, 47, .inl (nowF (mpN (twO g tw) tw i) wt sk gr (chD ch (fun t => balM g kd tw wt rt t nb) nt) yr))), (mt, .inl (E.2.1.1, 30, .inl (townF cr rt fd wn nx))), (mg, .inl (E.2.1.1, 10, .inl (oA (g))))] 35 [(0, .ref m0), (1, .int (nI (i)))] []
        refine g_iload_n (q := 36) dX10_goAll_35 rfl rfl rfl ?_
        refine g_aload_n (q := 37) dX10_goAll_36 rfl rfl rfl ?_
        refine gf_X10_77 rfl 0 rfl rfl (q := 40) dX10_goAll_37 rfl ?_
        refine g_icmp_geN (t := 80) (q := 43) dX10_goAll_40 (by decide) rfl (by omega) (by omega) (fun c40 => ?_) (fun c40 => ?_)
        · omega
        · skip
          refine g_aload_n (q := 44) dX10_goAll_43 rfl rfl rfl ?_
          refine gf_X10_29 rfl 0 rfl rfl (q := 47) dX10_goAll_44 rfl ?_
          refine g_iload_n (q := 48) dX10_goAll_47 rfl rfl rfl ?_
          refine g_aload_n (q := 49) dX10_goAll_48 rfl rfl rfl ?_
          refine gf_X10_42 rfl 0 rfl rfl (q := 52) dX10_goAll_49 rfl ?_
          refine g_iload_n (q := 53) dX10_goAll_52 rfl rfl rfl ?_
          refine g_iald (v := oI (g i)) 4 rfl (ixIn (j := i) rfl (by omega) (by decide)) (ixV (j := i) rfl (by omega)) (q := 54) dX10_goAll_53 rfl ?_
          rcases hG : (g i) with _ | o
          · skip
            refine g_top (y := (-1)) (by first | rfl | (rw [hG]; rfl)) ?_
            refine g_iconst (v := (-1)) (q := 55) dX10_goAll_54 rfl ki_m1 ?_
            refine g_icmp_ne (t := 67) (q := 58) dX10_goAll_55 (by decide) rfl (fun c55 => ?_) (fun c55 => ?_)
            · exact absurd c55 (by decide)
            · skip
              refine g_aload_n (q := 59) dX10_goAll_58 rfl rfl rfl ?_
              refine gf_X10_29 rfl 0 rfl rfl (q := 62) dX10_goAll_59 rfl ?_
              refine g_iload_n (q := 63) dX10_goAll_62 rfl rfl rfl ?_
              refine g_iald (v := nI ((mpN (twO g tw) tw i) i)) 2 rfl (ixIn (j := i) rfl (by omega) (by decide)) ((ixV (j := i) rfl (by omega)).trans (nowF_t (by omega))) (q := 64) dX10_goAll_63 rfl ?_
              refine g_goto (q := 73) dX10_goAll_64 (by decide) ?_
              refine g_iast (f' := (nowF (updn (mpN (twO g tw) tw i) i ((mpN (twO g tw) tw i) i)) wt sk gr (chD ch (fun t => balM g kd tw wt rt t nb) nt) yr)) 2 rfl (ixIn (j := i) rfl (by omega) (by decide)) ((ixU (j := i) rfl (by omega)).trans (nowF_wt _ (by omega))) (ws' := [_, _, (_, .inl (_, _, .inl _)), _, _]) rfl (q := 74) dX10_goAll_73 rfl ?_
              refine g_iinc (lv' := [(0, _), (1, _)]) (v := nI (i + 1)) (q := 77) dX10_goAll_74 rfl rfl (nI_inc _) (Nat.le_of_ble_eq_true rfl) rfl ?_
              refine g_goto (q := 35) dX10_goAll_77 (by decide) ?_
              rw [mpN_s, show twO g tw i = tw i by simp [twO, hG]] at ih35
              rw [mpN_at]
              exact ih35
          · skip
            have hGb := hg _ _ hG
            refine g_top (y := nI o) (by first | rfl | (rw [hG]; rfl)) ?_
            refine g_iconst (v := (-1)) (q := 55) dX10_goAll_54 rfl ki_m1 ?_
            refine g_icmp_ne (t := 67) (q := 58) dX10_goAll_55 (by decide) rfl (fun c55 => ?_) (fun c55 => ?_)
            · skip
              refine g_aload_n (q := 68) dX10_goAll_67 rfl rfl rfl ?_
              refine gf_X10_42 rfl 0 rfl rfl (q := 71) dX10_goAll_68 rfl ?_
              refine g_iload_n (q := 72) dX10_goAll_71 rfl rfl rfl ?_
              refine g_iald (v := oI (g i)) 4 rfl (ixIn (j := i) rfl (by omega) (by decide)) (ixV (j := i) rfl (by omega)) (q := 73) dX10_goAll_72 rfl ?_
              refine g_top (y := nI o) (by first | rfl | (rw [hG]; rfl)) ?_
              refine g_iast (f' := (nowF (updn (mpN (twO g tw) tw i) i o) wt sk gr (chD ch (fun t => balM g kd tw wt rt t nb) nt) yr)) 2 rfl (ixIn (j := i) rfl (by omega) (by decide)) ((ixU (j := i) rfl (by omega)).trans (nowF_wt _ (by omega))) (ws' := [_, _, (_, .inl (_, _, .inl _)), _, _]) rfl (q := 74) dX10_goAll_73 rfl ?_
              refine g_iinc (lv' := [(0, _), (1, _)]) (v := nI (i + 1)) (q := 77) dX10_goAll_74 rfl rfl (nI_inc _) (Nat.le_of_ble_eq_true rfl) rfl ?_
              refine g_goto (q := 35) dX10_goAll_77 (by decide) ?_
              rw [mpN_s, show twO g tw i = o by simp [twO, hG]] at ih35
              exact ih35
            · exact absurd c55 (nI_m1 (by omega))
      · skip
        show G E _ [(m0, .inr (10, (.int (nI (nt)) :: .ref mt :: .int (nI (nb)) :: .ref mk :: .ref mb :: .int (nI (lw)) :: .int (nI (sl)) :: .int (nI (tl)) :: .ref mx :: .int (po) :: .int (ta) :: .long (tk) :: .int (dg) :: .int (nu) :: .int (fa) :: .int (rm_) :: .int (rto) :: .int (rbo) :: .ref mr :: .ref mn :: .ref ma :: .ref mi :: .ref mj :: .int (nI (en)) :: .ref mg :: .int (nI (sn)) :: .ref ms :: .int (nI (dn)) :: .ref md :: .ref mc :: .ref me :: .int (ga) :: .ref mh :: .ref mo :: .ref mw :: []))), (mk, .inl (E.2.1.1, 10, .inl (nA (kd)))), (mn, .inl (E.2.1.1, 47, .inl (nowF (mpN (twO g tw) tw nb) wt sk gr (chD ch (fun t => balM g kd tw wt rt t nb) nt) yr))), (mt, .inl (E.2.1.1, 30, .inl (townF cr rt fd wn nx))), (mg, .inl (E.2.1.1, 10, .inl (oA (g))))] 35 [(0, .ref m0), (1, .int (nI (nb)))] []
        refine g_iload_n (q := 36) dX10_goAll_35 rfl rfl rfl ?_
        refine g_aload_n (q := 37) dX10_goAll_36 rfl rfl rfl ?_
        refine gf_X10_77 rfl 0 rfl rfl (q := 40) dX10_goAll_37 rfl ?_
        refine g_icmp_geN (t := 80) (q := 43) dX10_goAll_40 (by decide) rfl (by omega) (by omega) (fun c40 => ?_) (fun c40 => ?_)
        · skip
          refine g_aload_n (q := 81) dX10_goAll_80 rfl rfl rfl ?_
          refine gc_X10_89 (c_goNowhere) rfl (Nat.le_of_ble_eq_true rfl) rfl 0 rfl [0, 4] rfl rfl (rest := []) rfl (Nat.le_of_ble_eq_true rfl) (q := 84) dX10_goAll_81 rfl (exK (ws' := [(_, .inr (_, (_ :: _ :: _ :: _ :: _ :: _ :: _ :: _ :: _ :: _ :: _ :: _ :: _ :: _ :: _ :: _ :: _ :: _ :: _ :: _ :: _ :: _ :: _ :: _ :: _ :: _ :: _ :: _ :: _ :: _ :: _ :: _ :: _ :: _ :: _ :: []))), _, _, _, (_, .inl (_, _, .inl _))]) (st' := []) rfl rfl ?_)
          refine g_vret (st := []) dX10_goAll_84 rfl rfl ?_
          exact xv
        · omega
    · omega
set_option maxHeartbeats 2000000 in
set_option maxRecDepth 20000 in
theorem c_mdeal {E : EN} {m0 mt mk mb mx mr mn ma mi mj mg ms md mc me mh mo mw nt nb lw sl tl en sn dn : Nat} {po ta dg nu fa rm_ rto rbo ga : Int32} {tk : Int64} {kd tw wt sk gr : Nat → Nat} {ch : Nat → Int32} {yr : Nat} {cr rt fd nx : Nat → Nat} {wn : Nat → Int32} {eb eg : Nat → Nat} (hsl : sl < 1000) (hnb : nb ≤ 10) (hnt : nt ≤ 6) (hE : okE nb nt en tw eb eg) (hwr : ∀ i, i < en → worN kd tw wt rt (eb i) < 1000) (hkd : ∀ j, j < 10 → kd j < 4) (htw : ∀ j, j < 10 → tw j < 6) (hwt : ∀ j, j < 10 → wt j < 100) (hrt : ∀ j, j < 6 → rt j < 10)  : CT E yX10_deal cX10_deal 2 (some .int) 4 [.ref m0] [(m0, .inr (10, (.int (nI (nt)) :: .ref mt :: .int (nI (nb)) :: .ref mk :: .ref mb :: .int (nI (lw)) :: .int (nI (sl)) :: .int (nI (tl)) :: .ref mx :: .int (po) :: .int (ta) :: .long (tk) :: .int (dg) :: .int (nu) :: .int (fa) :: .int (rm_) :: .int (rto) :: .int (rbo) :: .ref mr :: .ref mn :: .ref ma :: .ref mi :: .ref mj :: .int (nI (en)) :: .ref mg :: .int (nI (sn)) :: .ref ms :: .int (nI (dn)) :: .ref md :: .ref mc :: .ref me :: .int (ga) :: .ref mh :: .ref mo :: .ref mw :: []))), (mk, .inl (E.2.1.1, 10, .inl (nA (kd)))), (mn, .inl (E.2.1.1, 47, .inl (nowF tw wt sk gr ch yr))), (mt, .inl (E.2.1.1, 30, .inl (townF cr rt fd wn nx))), (mg, .inl (E.2.1.1, 10, .inl (oA (gsE eb eg en))))] (xQ (some (.int (opDeal nt sl en kd tw wt rt eb eg ch).1)) [(m0, .inr (10, (.int (nI (nt)) :: .ref mt :: .int (nI (nb)) :: .ref mk :: .ref mb :: .int (nI (lw)) :: .int (nI (sl)) :: .int (nI (tl)) :: .ref mx :: .int (po) :: .int (ta) :: .long (tk) :: .int (dg) :: .int (nu) :: .int (fa) :: .int (rm_) :: .int (rto) :: .int (rbo) :: .ref mr :: .ref mn :: .ref ma :: .ref mi :: .ref mj :: .int (nI ((opDeal nt sl en kd tw wt rt eb eg ch).2.1)) :: .ref mg :: .int (nI (sn)) :: .ref ms :: .int (nI (dn)) :: .ref md :: .ref mc :: .ref me :: .int (ga) :: .ref mh :: .ref mo :: .ref mw :: []))), (mk, .inl (E.2.1.1, 10, .inl (nA (kd)))), (mn, .inl (E.2.1.1, 47, .inl (nowF ((opDeal nt sl en kd tw wt rt eb eg ch).2.2.1) wt sk gr ((opDeal nt sl en kd tw wt rt eb eg ch).2.2.2) yr))), (mt, .inl (E.2.1.1, 30, .inl (townF cr rt fd wn nx))), (mg, .inl (E.2.1.1, 10, .inl (oA (gsE eb eg (opDeal nt sl en kd tw wt rt eb eg ch).2.1))))]) := by
  refine ct_of (by decide +kernel) (Nat.le_of_ble_eq_true rfl) (lv := [(0, .ref m0)]) rfl (fun A => ?_)
  refine g_aload_n (q := 1) dX10_deal_0 rfl rfl rfl ?_
  refine gc_X10_221 (c_mjudge hsl hnb hnt hE hwr hkd htw hwt hrt) rfl (Nat.le_of_ble_eq_true rfl) rfl 0 rfl [0, 1, 2, 3, 4] rfl rfl (rest := []) rfl (Nat.le_of_ble_eq_true rfl) (q := 4) dX10_deal_1 rfl (exK (ws' := [_, _, _, _, _]) (st' := [.int (opJudge nt sl en kd tw wt rt eb eg)]) rfl rfl ?_)
  rcases hJ : fstN (clo sl en kd tw wt rt eb eg) nt with _ | t
  · refine g_top (y := (-1)) (by rw [opJudge, hJ]; rfl) ?_
    refine g_iconst (v := (-1)) (q := 5) dX10_deal_4 rfl ki_m1 ?_
    refine g_icmp_eq (t := 11) (q := 8) dX10_deal_5 (by decide) rfl (fun c5 => ?_) (fun c5 => ?_)
    · skip
      refine g_aload_n (q := 12) dX10_deal_11 rfl rfl rfl ?_
      refine gf_X10_86 rfl 0 rfl rfl (q := 15) dX10_deal_12 rfl ?_
      refine g_istore_n (lv' := [(0, _), (1, _)]) (q := 16) dX10_deal_15 rfl rfl (Nat.le_of_ble_eq_true rfl) rfl ?_
      refine g_aload_n (q := 17) dX10_deal_16 rfl rfl rfl ?_
      refine gc_X10_225 (c_goAll hnb hnt (fun b o h => Nat.lt_of_lt_of_le (gsE_slt hE.2.2.1 h) hnt) hkd htw hwt hrt) rfl (Nat.le_of_ble_eq_true rfl) rfl 0 rfl [0, 1, 2, 3, 4] rfl rfl (rest := []) rfl (Nat.le_of_ble_eq_true rfl) (q := 20) dX10_deal_17 rfl (exK (ws' := [(_, .inr (_, (_ :: _ :: _ :: _ :: _ :: _ :: _ :: _ :: _ :: _ :: _ :: _ :: _ :: _ :: _ :: _ :: _ :: _ :: _ :: _ :: _ :: _ :: _ :: _ :: _ :: _ :: _ :: _ :: _ :: _ :: _ :: _ :: _ :: _ :: _ :: []))), (_, .inl (_, _, .inl _)), (_, .inl (_, _, .inl _)), (_, .inl (_, _, .inl _)), (_, .inl (_, _, .inl _))]) (st' := []) rfl rfl ?_)
      refine g_iload_n (q := 21) dX10_deal_20 rfl rfl rfl ?_
      refine g_iret (st := []) dX10_deal_21 rfl rfl rfl ?_
      simp only [opDeal, hJ]
      rw [mpN_twO (gsE_lt hE.2.1), twO_gsE, show (fun t => balM (gsE eb eg en) kd tw wt rt t nb) = fun t => balL kd tw wt rt eb eg t en from funext (fun t => balM_L hE t)]
      exact ⟨rfl, rfl⟩
    · exact absurd (by decide) c5
  · have hb9 := fstN_lt hJ
    refine g_top (y := nI t) (by rw [opJudge, hJ]; rfl) ?_
    refine g_iconst (v := (-1)) (q := 5) dX10_deal_4 rfl ki_m1 ?_
    refine g_icmp_eq (t := 11) (q := 8) dX10_deal_5 (by decide) rfl (fun c5 => ?_) (fun c5 => ?_)
    · exact absurd c5 (nI_m1 (by omega))
    · skip
      refine g_bipush (v := (-4)) (q := 10) dX10_deal_8 rfl kb_m4 ?_
      refine g_iret (st := []) dX10_deal_10 rfl rfl rfl ?_
      simp only [opDeal, hJ]
      exact ⟨rfl, rfl⟩
set_option maxHeartbeats 2000000 in
set_option maxRecDepth 20000 in
theorem c_sent {E : EN} {m0 mt mk mb mx mr mn ma mi mj mg ms md mc me mh mo mw nt nb lw sl tl en sn dn : Nat} {po ta dg nu fa rm_ rto rbo ga : Int32} {tk : Int64} {kd tw wt sk gr : Nat → Nat} {ch : Nat → Int32} {yr : Nat} {t : Nat} (ht : t < 1000) (hlw : lw < 4) (hnb : nb ≤ 10) (hkd : ∀ j, j < 10 → kd j < 4) (htw : ∀ j, j < 10 → tw j < 6) (hwt : ∀ j, j < 10 → wt j < 100) (hgr : ∀ j, j < 10 → gr j < 10)  : CT E yX10_sent cX10_sent 5 (some .int) 0 [.ref m0, .int (nI (t))] [(m0, .inr (10, (.int (nI (nt)) :: .ref mt :: .int (nI (nb)) :: .ref mk :: .ref mb :: .int (nI (lw)) :: .int (nI (sl)) :: .int (nI (tl)) :: .ref mx :: .int (po) :: .int (ta) :: .long (tk) :: .int (dg) :: .int (nu) :: .int (fa) :: .int (rm_) :: .int (rto) :: .int (rbo) :: .ref mr :: .ref mn :: .ref ma :: .ref mi :: .ref mj :: .int (nI (en)) :: .ref mg :: .int (nI (sn)) :: .ref ms :: .int (nI (dn)) :: .ref md :: .ref mc :: .ref me :: .int (ga) :: .ref mh :: .ref mo :: .ref mw :: []))), (mk, .inl (E.2.1.1, 10, .inl (nA (kd)))), (mn, .inl (E.2.1.1, 47, .inl (nowF tw wt sk gr ch yr)))] (xQ (some (.int (oI (snt lw kd tw wt gr nb t)))) [(m0, .inr (10, (.int (nI (nt)) :: .ref mt :: .int (nI (nb)) :: .ref mk :: .ref mb :: .int (nI (lw)) :: .int (nI (sl)) :: .int (nI (tl)) :: .ref mx :: .int (po) :: .int (ta) :: .long (tk) :: .int (dg) :: .int (nu) :: .int (fa) :: .int (rm_) :: .int (rto) :: .int (rbo) :: .ref mr :: .ref mn :: .ref ma :: .ref mi :: .ref mj :: .int (nI (en)) :: .ref mg :: .int (nI (sn)) :: .ref ms :: .int (nI (dn)) :: .ref md :: .ref mc :: .ref me :: .int (ga) :: .ref mh :: .ref mo :: .ref mw :: []))), (mk, .inl (E.2.1.1, 10, .inl (nA (kd)))), (mn, .inl (E.2.1.1, 47, .inl (nowF tw wt sk gr ch yr)))]) := by
  refine ct_of (by decide +kernel) (Nat.le_of_ble_eq_true rfl) (lv := [(0, .ref m0), (1, .int (nI (t)))]) rfl (fun A => ?_)
  by_cases hl3 : lw = 3
  · skip
    refine g_iconst (v := (-1)) (q := 1) dX10_sent_0 rfl ki_m1 ?_
    refine g_istore_n (lv' := [(0, _), (1, _), (2, _)]) (q := 2) dX10_sent_1 rfl rfl (Nat.le_of_ble_eq_true rfl) rfl ?_
    refine g_iconst (v := nI 0) (q := 3) dX10_sent_2 rfl ki_0 ?_
    refine g_istore_n (lv' := [(0, _), (1, _), (2, _), (3, _)]) (q := 4) dX10_sent_3 rfl rfl (Nat.le_of_ble_eq_true rfl) rfl ?_
    refine g_iload_n (q := 5) dX10_sent_4 rfl rfl rfl ?_
    refine g_aload_n (q := 6) dX10_sent_5 rfl rfl rfl ?_
    refine gf_X10_77 rfl 0 rfl rfl (q := 9) dX10_sent_6 rfl ?_
    refine g_icmp_geN (t := 146) (q := 12) dX10_sent_9 (by decide) rfl (by omega) (by omega) (fun c9 => ?_) (fun c9 => ?_)
    · skip
      refine g_iload_n (q := 147) dX10_sent_146 rfl rfl rfl ?_
      refine g_iret (st := []) dX10_sent_147 rfl rfl rfl ?_
      exact xr (by rw [snt, if_pos hl3]; rfl)
    · skip
      refine g_aload_n (q := 13) dX10_sent_12 rfl rfl rfl ?_
      refine gf_X10_80 rfl 0 rfl rfl (q := 16) dX10_sent_13 rfl ?_
      refine g_iconst (v := nI 3) (q := 17) dX10_sent_16 rfl ki_3 ?_
      refine g_icmp_geN (t := 146) (q := 20) dX10_sent_17 (by decide) rfl (by omega) (by omega) (fun c17 => ?_) (fun c17 => ?_)
      · skip
        refine g_iload_n (q := 147) dX10_sent_146 rfl rfl rfl ?_
        refine g_iret (st := []) dX10_sent_147 rfl rfl rfl ?_
        exact xr (by rw [snt, if_pos hl3]; rfl)
      · omega
  · skip
    refine g_iconst (v := (-1)) (q := 1) dX10_sent_0 rfl ki_m1 ?_
    refine g_istore_n (lv' := [(0, _), (1, _), (2, _)]) (q := 2) dX10_sent_1 rfl rfl (Nat.le_of_ble_eq_true rfl) rfl ?_
    refine g_iconst (v := nI 0) (q := 3) dX10_sent_2 rfl ki_0 ?_
    refine g_istore_n (lv' := [(0, _), (1, _), (2, _), (3, _)]) (q := 4) dX10_sent_3 rfl rfl (Nat.le_of_ble_eq_true rfl) rfl ?_
    refine g_loop (nb) (fun i => [(m0, .inr (10, (.int (nI (nt)) :: .ref mt :: .int (nI (nb)) :: .ref mk :: .ref mb :: .int (nI (lw)) :: .int (nI (sl)) :: .int (nI (tl)) :: .ref mx :: .int (po) :: .int (ta) :: .long (tk) :: .int (dg) :: .int (nu) :: .int (fa) :: .int (rm_) :: .int (rto) :: .int (rbo) :: .ref mr :: .ref mn :: .ref ma :: .ref mi :: .ref mj :: .int (nI (en)) :: .ref mg :: .int (nI (sn)) :: .ref ms :: .int (nI (dn)) :: .ref md :: .ref mc :: .ref me :: .int (ga) :: .ref mh :: .ref mo :: .ref mw :: []))), (mk, .inl (E.2.1.1, 10, .inl (nA (kd)))), (mn, .inl (E.2.1.1, 47, .inl (nowF tw wt sk gr ch yr)))]) (fun i => [(0, .ref m0), (1, .int (nI (t))), (2, .int (oI (bst lw kd tw wt gr t i))), (3, .int (nI (i)))]) ?_ ?_ 0 (Nat.zero_le _)
    · intro i hi4 ih4
      show G E _ [(m0, .inr (10, (.int (nI (nt)) :: .ref mt :: .int (nI (nb)) :: .ref mk :: .ref mb :: .int (nI (lw)) :: .int (nI (sl)) :: .int (nI (tl)) :: .ref mx :: .int (po) :: .int (ta) :: .long (tk) :: .int (dg) :: .int (nu) :: .int (fa) :: .int (rm_) :: .int (rto) :: .int (rbo) :: .ref mr :: .ref mn :: .ref ma :: .ref mi :: .ref mj :: .int (nI (en)) :: .ref mg :: .int (nI (sn)) :: .ref ms :: .int (nI (dn)) :: .ref md :: .ref mc :: .ref me :: .int (ga) :: .ref mh :: .ref mo :: .ref mw :: []))), (mk, .inl (E.2.1.1, 10, .inl (nA (kd)))), (mn, .inl (E.2.1.1, 47, .inl (nowF tw wt sk gr ch yr)))] 4 [(0, .ref m0), (1, .int (nI (t))), (2, .int (oI (bst lw kd tw wt gr t i))), (3, .int (nI (i)))] []
      refine g_iload_n (q := 5) dX10_sent_4 rfl rfl rfl ?_
      refine g_aload_n (q := 6) dX10_sent_5 rfl rfl rfl ?_
      refine gf_X10_77 rfl 0 rfl rfl (q := 9) dX10_sent_6 rfl ?_
      refine g_icmp_geN (t := 146) (q := 12) dX10_sent_9 (by decide) rfl (by omega) (by omega) (fun c9 => ?_) (fun c9 => ?_)
      · omega
      · skip
        refine g_aload_n (q := 13) dX10_sent_12 rfl rfl rfl ?_
        refine gf_X10_80 rfl 0 rfl rfl (q := 16) dX10_sent_13 rfl ?_
        refine g_iconst (v := nI 3) (q := 17) dX10_sent_16 rfl ki_3 ?_
        refine g_icmp_geN (t := 146) (q := 20) dX10_sent_17 (by decide) rfl (by omega) (by omega) (fun c17 => ?_) (fun c17 => ?_)
        · omega
        · skip
          rcases hS : bst lw kd tw wt gr t i with _ | mm
          · skip
            refine g_eq (lv' := [(0, _), (1, _), (2, .int ((-1))), (3, _)]) ?_ rfl rfl rfl
            refine g_aload_n (q := 21) dX10_sent_20 rfl rfl rfl ?_
            refine gf_X10_29 rfl 0 rfl rfl (q := 24) dX10_sent_21 rfl ?_
            refine g_iload_n (q := 25) dX10_sent_24 rfl rfl rfl ?_
            have hb1 := htw (i) (by omega)
            refine g_iald (v := nI (tw i)) 2 rfl (ixIn (j := i) rfl (by omega) (by decide)) ((ixV (j := i) rfl (by omega)).trans (nowF_t (by omega))) (q := 26) dX10_sent_25 rfl ?_
            refine g_iload_n (q := 27) dX10_sent_26 rfl rfl rfl ?_
            refine g_icmp_neN (t := 140) (q := 30) dX10_sent_27 (by decide) rfl (by omega) (by omega) (fun c27 => ?_) (fun c27 => ?_)
            · skip
              refine g_iinc (lv' := [(0, _), (1, _), (2, _), (3, _)]) (v := nI (i + 1)) (q := 143) dX10_sent_140 rfl rfl (nI_inc _) (Nat.le_of_ble_eq_true rfl) rfl ?_
              refine g_goto (q := 4) dX10_sent_143 (by decide) ?_
              rw [bst_sk (Or.inl c27)] at ih4
              rw [hS] at ih4
              exact ih4
            · skip
              refine g_aload_n (q := 31) dX10_sent_30 rfl rfl rfl ?_
              refine gf_X10_17 rfl 0 rfl rfl (q := 34) dX10_sent_31 rfl ?_
              refine g_iload_n (q := 35) dX10_sent_34 rfl rfl rfl ?_
              have hb2 := hkd (i) (by omega)
              refine g_iald (v := nI (kd i)) 1 rfl (ixIn (j := i) rfl (by omega) (by decide)) (ixV (j := i) rfl (by omega)) (q := 36) dX10_sent_35 rfl ?_
              refine g_iconst (v := nI 3) (q := 37) dX10_sent_36 rfl ki_3 ?_
              refine g_icmp_eqN (t := 140) (q := 40) dX10_sent_37 (by decide) rfl (by omega) (by omega) (fun c37 => ?_) (fun c37 => ?_)
              · skip
                refine g_iinc (lv' := [(0, _), (1, _), (2, _), (3, _)]) (v := nI (i + 1)) (q := 143) dX10_sent_140 rfl rfl (nI_inc _) (Nat.le_of_ble_eq_true rfl) rfl ?_
                refine g_goto (q := 4) dX10_sent_143 (by decide) ?_
                rw [bst_sk (Or.inr (Or.inl c37))] at ih4
                rw [hS] at ih4
                exact ih4
              · skip
                refine g_iload_n (q := 41) dX10_sent_40 rfl rfl rfl ?_
                refine g_iconst (v := (-1)) (q := 42) dX10_sent_41 rfl ki_m1 ?_
                refine g_icmp_ne (t := 49) (q := 45) dX10_sent_42 (by decide) rfl (fun c42 => ?_) (fun c42 => ?_)
                · exact absurd c42 (by decide)
                · skip
                  refine g_iconst (v := nI 1) (q := 46) dX10_sent_45 rfl ki_1 ?_
                  refine g_goto (q := 127) dX10_sent_46 (by decide) ?_
                  refine g_istore (lv' := [(0, _), (1, _), (2, _), (3, _), (4, _)]) (q := 129) dX10_sent_127 rfl (Nat.le_of_ble_eq_true rfl) rfl ?_
                  refine g_iload (q := 131) dX10_sent_129 rfl rfl ?_
                  refine g_if_le (t := 138) (q := 134) dX10_sent_131 (by decide) rfl (fun c131 => ?_) (fun c131 => ?_)
                  · exact absurd c131 (by decide)
                  · skip
                    refine g_iload_n (q := 135) dX10_sent_134 rfl rfl rfl ?_
                    refine g_goto (q := 139) dX10_sent_135 (by decide) ?_
                    refine g_istore_n (lv' := [(0, _), (1, _), (2, _), (3, _), (4, _)]) (q := 140) dX10_sent_139 rfl rfl (Nat.le_of_ble_eq_true rfl) rfl ?_
                    refine g_iinc (lv' := [(0, _), (1, _), (2, _), (3, _), (4, _)]) (v := nI (i + 1)) (q := 143) dX10_sent_140 rfl rfl (nI_inc _) (Nat.le_of_ble_eq_true rfl) rfl ?_
                    refine g_goto (q := 4) dX10_sent_143 (by decide) ?_
                    refine g_less (lv' := [(0, _), (1, _), (2, _), (3, _)]) 4 rfl ?_
                    rw [bst_tk c27 c37 (by rw [hS]; rfl)] at ih4
                    exact ih4
          · have hmm := bst_lt hS
            refine g_eq (lv' := [(0, _), (1, _), (2, .int (nI (mm))), (3, _)]) ?_ rfl rfl rfl
            refine g_aload_n (q := 21) dX10_sent_20 rfl rfl rfl ?_
            refine gf_X10_29 rfl 0 rfl rfl (q := 24) dX10_sent_21 rfl ?_
            refine g_iload_n (q := 25) dX10_sent_24 rfl rfl rfl ?_
            have hb3 := htw (i) (by omega)
            refine g_iald (v := nI (tw i)) 2 rfl (ixIn (j := i) rfl (by omega) (by decide)) ((ixV (j := i) rfl (by omega)).trans (nowF_t (by omega))) (q := 26) dX10_sent_25 rfl ?_
            refine g_iload_n (q := 27) dX10_sent_26 rfl rfl rfl ?_
            refine g_icmp_neN (t := 140) (q := 30) dX10_sent_27 (by decide) rfl (by omega) (by omega) (fun c27 => ?_) (fun c27 => ?_)
            · skip
              refine g_iinc (lv' := [(0, _), (1, _), (2, _), (3, _)]) (v := nI (i + 1)) (q := 143) dX10_sent_140 rfl rfl (nI_inc _) (Nat.le_of_ble_eq_true rfl) rfl ?_
              refine g_goto (q := 4) dX10_sent_143 (by decide) ?_
              rw [bst_sk (Or.inl c27)] at ih4
              rw [hS] at ih4
              exact ih4
            · skip
              refine g_aload_n (q := 31) dX10_sent_30 rfl rfl rfl ?_
              refine gf_X10_17 rfl 0 rfl rfl (q := 34) dX10_sent_31 rfl ?_
              refine g_iload_n (q := 35) dX10_sent_34 rfl rfl rfl ?_
              have hb4 := hkd (i) (by omega)
              refine g_iald (v := nI (kd i)) 1 rfl (ixIn (j := i) rfl (by omega) (by decide)) (ixV (j := i) rfl (by omega)) (q := 36) dX10_sent_35 rfl ?_
              refine g_iconst (v := nI 3) (q := 37) dX10_sent_36 rfl ki_3 ?_
              refine g_icmp_eqN (t := 140) (q := 40) dX10_sent_37 (by decide) rfl (by omega) (by omega) (fun c37 => ?_) (fun c37 => ?_)
              · skip
                refine g_iinc (lv' := [(0, _), (1, _), (2, _), (3, _)]) (v := nI (i + 1)) (q := 143) dX10_sent_140 rfl rfl (nI_inc _) (Nat.le_of_ble_eq_true rfl) rfl ?_
                refine g_goto (q := 4) dX10_sent_143 (by decide) ?_
                rw [bst_sk (Or.inr (Or.inl c37))] at ih4
                rw [hS] at ih4
                exact ih4
              · skip
                refine g_iload_n (q := 41) dX10_sent_40 rfl rfl rfl ?_
                refine g_iconst (v := (-1)) (q := 42) dX10_sent_41 rfl ki_m1 ?_
                refine g_icmp_ne (t := 49) (q := 45) dX10_sent_42 (by decide) rfl (fun c42 => ?_) (fun c42 => ?_)
                · skip
                  refine g_aload_n (q := 50) dX10_sent_49 rfl rfl rfl ?_
                  refine gf_X10_80 rfl 0 rfl rfl (q := 53) dX10_sent_50 rfl ?_
                  refine g_if_neN (t := 78) (q := 56) dX10_sent_53 (by decide) rfl (by omega) (fun c53 => ?_) (fun c53 => ?_)
                  · skip
                    refine g_aload_n (q := 79) dX10_sent_78 rfl rfl rfl ?_
                    refine gf_X10_80 rfl 0 rfl rfl (q := 82) dX10_sent_79 rfl ?_
                    refine g_iconst (v := nI 1) (q := 83) dX10_sent_82 rfl ki_1 ?_
                    refine g_icmp_neN (t := 108) (q := 86) dX10_sent_83 (by decide) rfl (by omega) (by omega) (fun c83 => ?_) (fun c83 => ?_)
                    · skip
                      refine g_aload_n (q := 109) dX10_sent_108 rfl rfl rfl ?_
                      refine gf_X10_29 rfl 0 rfl rfl (q := 112) dX10_sent_109 rfl ?_
                      refine g_bipush (v := nI 30) (q := 114) dX10_sent_112 rfl kb_30 ?_
                      refine g_iload_n (q := 115) dX10_sent_114 rfl rfl rfl ?_
                      refine g_iaddN (q := 116) dX10_sent_115 rfl ?_
                      have hb5 := hgr (mm) (by omega)
                      refine g_iald (v := nI (gr mm)) 2 rfl (ixIn (j := 30 + mm) rfl (by omega) (by decide)) ((ixV (j := 30 + mm) rfl (by omega)).trans (nowF_g (by omega))) (q := 117) dX10_sent_116 rfl ?_
                      refine g_aload_n (q := 118) dX10_sent_117 rfl rfl rfl ?_
                      refine gf_X10_29 rfl 0 rfl rfl (q := 121) dX10_sent_118 rfl ?_
                      refine g_bipush (v := nI 30) (q := 123) dX10_sent_121 rfl kb_30 ?_
                      refine g_iload_n (q := 124) dX10_sent_123 rfl rfl rfl ?_
                      refine g_iaddN (q := 125) dX10_sent_124 rfl ?_
                      have hb6 := hgr (i) (by omega)
                      refine g_iald (v := nI (gr i)) 2 rfl (ixIn (j := 30 + i) rfl (by omega) (by decide)) ((ixV (j := 30 + i) rfl (by omega)).trans (nowF_g (by omega))) (q := 126) dX10_sent_125 rfl ?_
                      refine g_isub (q := 127) dX10_sent_126 rfl ?_
                      refine g_istore (lv' := [(0, _), (1, _), (2, _), (3, _), (4, _)]) (q := 129) dX10_sent_127 rfl (Nat.le_of_ble_eq_true rfl) rfl ?_
                      refine g_iload (q := 131) dX10_sent_129 rfl rfl ?_
                      refine g_if_le (t := 138) (q := 134) dX10_sent_131 (by decide) rfl (fun c131 => ?_) (fun c131 => ?_)
                      · skip
                        refine g_iload_n (q := 139) dX10_sent_138 rfl rfl rfl ?_
                        refine g_istore_n (lv' := [(0, _), (1, _), (2, _), (3, _), (4, _)]) (q := 140) dX10_sent_139 rfl rfl (Nat.le_of_ble_eq_true rfl) rfl ?_
                        refine g_iinc (lv' := [(0, _), (1, _), (2, _), (3, _), (4, _)]) (v := nI (i + 1)) (q := 143) dX10_sent_140 rfl rfl (nI_inc _) (Nat.le_of_ble_eq_true rfl) rfl ?_
                        refine g_goto (q := 4) dX10_sent_143 (by decide) ?_
                        refine g_less (lv' := [(0, _), (1, _), (2, _), (3, _)]) 4 rfl ?_
                        rw [bst_sk (Or.inr (Or.inr (by rw [hS]; simp [ratO, rath, c53, c83]; exact (sub_le0 (by omega) (by omega)).mp c131)))] at ih4
                        rw [hS] at ih4
                        exact ih4
                      · skip
                        refine g_iload_n (q := 135) dX10_sent_134 rfl rfl rfl ?_
                        refine g_goto (q := 139) dX10_sent_135 (by decide) ?_
                        refine g_istore_n (lv' := [(0, _), (1, _), (2, _), (3, _), (4, _)]) (q := 140) dX10_sent_139 rfl rfl (Nat.le_of_ble_eq_true rfl) rfl ?_
                        refine g_iinc (lv' := [(0, _), (1, _), (2, _), (3, _), (4, _)]) (v := nI (i + 1)) (q := 143) dX10_sent_140 rfl rfl (nI_inc _) (Nat.le_of_ble_eq_true rfl) rfl ?_
                        refine g_goto (q := 4) dX10_sent_143 (by decide) ?_
                        refine g_less (lv' := [(0, _), (1, _), (2, _), (3, _)]) 4 rfl ?_
                        rw [bst_tk c27 c37 (by rw [hS]; simp [ratO, rath, c53, c83]; exact Nat.not_le.mp (fun z => c131 ((sub_le0 (by omega) (by omega)).mpr z)))] at ih4
                        exact ih4
                    · skip
                      refine g_aload_n (q := 87) dX10_sent_86 rfl rfl rfl ?_
                      refine gf_X10_29 rfl 0 rfl rfl (q := 90) dX10_sent_87 rfl ?_
                      refine g_bipush (v := nI 10) (q := 92) dX10_sent_90 rfl kb_10 ?_
                      refine g_iload_n (q := 93) dX10_sent_92 rfl rfl rfl ?_
                      refine g_iaddN (q := 94) dX10_sent_93 rfl ?_
                      have hb7 := hwt (mm) (by omega)
                      refine g_iald (v := nI (wt mm)) 2 rfl (ixIn (j := 10 + mm) rfl (by omega) (by decide)) ((ixV (j := 10 + mm) rfl (by omega)).trans (nowF_w (by omega))) (q := 95) dX10_sent_94 rfl ?_
                      refine g_aload_n (q := 96) dX10_sent_95 rfl rfl rfl ?_
                      refine gf_X10_29 rfl 0 rfl rfl (q := 99) dX10_sent_96 rfl ?_
                      refine g_bipush (v := nI 10) (q := 101) dX10_sent_99 rfl kb_10 ?_
                      refine g_iload_n (q := 102) dX10_sent_101 rfl rfl rfl ?_
                      refine g_iaddN (q := 103) dX10_sent_102 rfl ?_
                      have hb8 := hwt (i) (by omega)
                      refine g_iald (v := nI (wt i)) 2 rfl (ixIn (j := 10 + i) rfl (by omega) (by decide)) ((ixV (j := 10 + i) rfl (by omega)).trans (nowF_w (by omega))) (q := 104) dX10_sent_103 rfl ?_
                      refine g_isub (q := 105) dX10_sent_104 rfl ?_
                      refine g_goto (q := 127) dX10_sent_105 (by decide) ?_
                      refine g_istore (lv' := [(0, _), (1, _), (2, _), (3, _), (4, _)]) (q := 129) dX10_sent_127 rfl (Nat.le_of_ble_eq_true rfl) rfl ?_
                      refine g_iload (q := 131) dX10_sent_129 rfl rfl ?_
                      refine g_if_le (t := 138) (q := 134) dX10_sent_131 (by decide) rfl (fun c131 => ?_) (fun c131 => ?_)
                      · skip
                        refine g_iload_n (q := 139) dX10_sent_138 rfl rfl rfl ?_
                        refine g_istore_n (lv' := [(0, _), (1, _), (2, _), (3, _), (4, _)]) (q := 140) dX10_sent_139 rfl rfl (Nat.le_of_ble_eq_true rfl) rfl ?_
                        refine g_iinc (lv' := [(0, _), (1, _), (2, _), (3, _), (4, _)]) (v := nI (i + 1)) (q := 143) dX10_sent_140 rfl rfl (nI_inc _) (Nat.le_of_ble_eq_true rfl) rfl ?_
                        refine g_goto (q := 4) dX10_sent_143 (by decide) ?_
                        refine g_less (lv' := [(0, _), (1, _), (2, _), (3, _)]) 4 rfl ?_
                        rw [bst_sk (Or.inr (Or.inr (by rw [hS]; simp [ratO, rath, c53, c83]; exact (sub_le0 (by omega) (by omega)).mp c131)))] at ih4
                        rw [hS] at ih4
                        exact ih4
                      · skip
                        refine g_iload_n (q := 135) dX10_sent_134 rfl rfl rfl ?_
                        refine g_goto (q := 139) dX10_sent_135 (by decide) ?_
                        refine g_istore_n (lv' := [(0, _), (1, _), (2, _), (3, _), (4, _)]) (q := 140) dX10_sent_139 rfl rfl (Nat.le_of_ble_eq_true rfl) rfl ?_
                        refine g_iinc (lv' := [(0, _), (1, _), (2, _), (3, _), (4, _)]) (v := nI (i + 1)) (q := 143) dX10_sent_140 rfl rfl (nI_inc _) (Nat.le_of_ble_eq_true rfl) rfl ?_
                        refine g_goto (q := 4) dX10_sent_143 (by decide) ?_
                        refine g_less (lv' := [(0, _), (1, _), (2, _), (3, _)]) 4 rfl ?_
                        rw [bst_tk c27 c37 (by rw [hS]; simp [ratO, rath, c53, c83]; exact Nat.not_le.mp (fun z => c131 ((sub_le0 (by omega) (by omega)).mpr z)))] at ih4
                        exact ih4
                  · skip
                    refine g_aload_n (q := 57) dX10_sent_56 rfl rfl rfl ?_
                    refine gf_X10_29 rfl 0 rfl rfl (q := 60) dX10_sent_57 rfl ?_
                    refine g_bipush (v := nI 10) (q := 62) dX10_sent_60 rfl kb_10 ?_
                    refine g_iload_n (q := 63) dX10_sent_62 rfl rfl rfl ?_
                    refine g_iaddN (q := 64) dX10_sent_63 rfl ?_
                    have hb9 := hwt (i) (by omega)
                    refine g_iald (v := nI (wt i)) 2 rfl (ixIn (j := 10 + i) rfl (by omega) (by decide)) ((ixV (j := 10 + i) rfl (by omega)).trans (nowF_w (by omega))) (q := 65) dX10_sent_64 rfl ?_
                    refine g_aload_n (q := 66) dX10_sent_65 rfl rfl rfl ?_
                    refine gf_X10_29 rfl 0 rfl rfl (q := 69) dX10_sent_66 rfl ?_
                    refine g_bipush (v := nI 10) (q := 71) dX10_sent_69 rfl kb_10 ?_
                    refine g_iload_n (q := 72) dX10_sent_71 rfl rfl rfl ?_
                    refine g_iaddN (q := 73) dX10_sent_72 rfl ?_
                    have hb10 := hwt (mm) (by omega)
                    refine g_iald (v := nI (wt mm)) 2 rfl (ixIn (j := 10 + mm) rfl (by omega) (by decide)) ((ixV (j := 10 + mm) rfl (by omega)).trans (nowF_w (by omega))) (q := 74) dX10_sent_73 rfl ?_
                    refine g_isub (q := 75) dX10_sent_74 rfl ?_
                    refine g_goto (q := 127) dX10_sent_75 (by decide) ?_
                    refine g_istore (lv' := [(0, _), (1, _), (2, _), (3, _), (4, _)]) (q := 129) dX10_sent_127 rfl (Nat.le_of_ble_eq_true rfl) rfl ?_
                    refine g_iload (q := 131) dX10_sent_129 rfl rfl ?_
                    refine g_if_le (t := 138) (q := 134) dX10_sent_131 (by decide) rfl (fun c131 => ?_) (fun c131 => ?_)
                    · skip
                      refine g_iload_n (q := 139) dX10_sent_138 rfl rfl rfl ?_
                      refine g_istore_n (lv' := [(0, _), (1, _), (2, _), (3, _), (4, _)]) (q := 140) dX10_sent_139 rfl rfl (Nat.le_of_ble_eq_true rfl) rfl ?_
                      refine g_iinc (lv' := [(0, _), (1, _), (2, _), (3, _), (4, _)]) (v := nI (i + 1)) (q := 143) dX10_sent_140 rfl rfl (nI_inc _) (Nat.le_of_ble_eq_true rfl) rfl ?_
                      refine g_goto (q := 4) dX10_sent_143 (by decide) ?_
                      refine g_less (lv' := [(0, _), (1, _), (2, _), (3, _)]) 4 rfl ?_
                      rw [bst_sk (Or.inr (Or.inr (by rw [hS]; simp [ratO, rath, c53]; exact (sub_le0 (by omega) (by omega)).mp c131)))] at ih4
                      rw [hS] at ih4
                      exact ih4
                    · skip
                      refine g_iload_n (q := 135) dX10_sent_134 rfl rfl rfl ?_
                      refine g_goto (q := 139) dX10_sent_135 (by decide) ?_
                      refine g_istore_n (lv' := [(0, _), (1, _), (2, _), (3, _), (4, _)]) (q := 140) dX10_sent_139 rfl rfl (Nat.le_of_ble_eq_true rfl) rfl ?_
                      refine g_iinc (lv' := [(0, _), (1, _), (2, _), (3, _), (4, _)]) (v := nI (i + 1)) (q := 143) dX10_sent_140 rfl rfl (nI_inc _) (Nat.le_of_ble_eq_true rfl) rfl ?_
                      refine g_goto (q := 4) dX10_sent_143 (by decide) ?_
                      refine g_less (lv' := [(0, _), (1, _), (2, _), (3, _)]) 4 rfl ?_
                      rw [bst_tk c27 c37 (by rw [hS]; simp [ratO, rath, c53]; exact Nat.not_le.mp (fun z => c131 ((sub_le0 (by omega) (by omega)).mpr z)))] at ih4
                      exact ih4
                · exact absurd c42 (nI_m1 (by omega))
    · skip
      show G E _ [(m0, .inr (10, (.int (nI (nt)) :: .ref mt :: .int (nI (nb)) :: .ref mk :: .ref mb :: .int (nI (lw)) :: .int (nI (sl)) :: .int (nI (tl)) :: .ref mx :: .int (po) :: .int (ta) :: .long (tk) :: .int (dg) :: .int (nu) :: .int (fa) :: .int (rm_) :: .int (rto) :: .int (rbo) :: .ref mr :: .ref mn :: .ref ma :: .ref mi :: .ref mj :: .int (nI (en)) :: .ref mg :: .int (nI (sn)) :: .ref ms :: .int (nI (dn)) :: .ref md :: .ref mc :: .ref me :: .int (ga) :: .ref mh :: .ref mo :: .ref mw :: []))), (mk, .inl (E.2.1.1, 10, .inl (nA (kd)))), (mn, .inl (E.2.1.1, 47, .inl (nowF tw wt sk gr ch yr)))] 4 [(0, .ref m0), (1, .int (nI (t))), (2, .int (oI (bst lw kd tw wt gr t nb))), (3, .int (nI (nb)))] []
      refine g_iload_n (q := 5) dX10_sent_4 rfl rfl rfl ?_
      refine g_aload_n (q := 6) dX10_sent_5 rfl rfl rfl ?_
      refine gf_X10_77 rfl 0 rfl rfl (q := 9) dX10_sent_6 rfl ?_
      refine g_icmp_geN (t := 146) (q := 12) dX10_sent_9 (by decide) rfl (by omega) (by omega) (fun c9 => ?_) (fun c9 => ?_)
      · skip
        refine g_iload_n (q := 147) dX10_sent_146 rfl rfl rfl ?_
        refine g_iret (st := []) dX10_sent_147 rfl rfl rfl ?_
        exact xr (by rw [snt, if_neg hl3])
      · omega
