set_option maxHeartbeats 2000000 in
set_option maxRecDepth 20000 in
theorem c_formN {E : EN} {c : Nat} (hc : c < 256) : CT E yX4_formOf cX4_formOf 1 (some .int) 0 [.int (nI (c))] [] (xQ (some (.int (nI (fm c)))) []) := by
  refine ct_of (by decide +kernel) (Nat.le_of_ble_eq_true rfl) (lv := [(0, .int (nI (c)))]) rfl (fun A => ?_)
  refine g_iload_n (q := 1) dX4_formOf_0 rfl rfl rfl ?_
  refine g_iconst (v := (-1)) (q := 2) dX4_formOf_1 rfl ki_m1 ?_
  refine g_icmp_ne (t := 7) (q := 5) dX4_formOf_2 (by decide) rfl (fun c2 => ?_) (fun c2 => ?_)
  · skip
    refine g_iload_n (q := 8) dX4_formOf_7 rfl rfl rfl ?_
    refine g_bipush (v := nI 32) (q := 10) dX4_formOf_8 rfl kb_32 ?_
    refine g_icmp_neN (t := 15) (q := 13) dX4_formOf_10 (by decide) rfl (by omega) (by omega) (fun c10 => ?_) (fun c10 => ?_)
    · skip
      refine g_iload_n (q := 16) dX4_formOf_15 rfl rfl rfl ?_
      refine g_bipush (v := nI 97) (q := 18) dX4_formOf_16 rfl kb_97 ?_
      refine g_icmp_ltN (t := 29) (q := 21) dX4_formOf_18 (by decide) rfl (by omega) (by omega) (fun c18 => ?_) (fun c18 => ?_)
      · skip
        refine g_iload_n (q := 30) dX4_formOf_29 rfl rfl rfl ?_
        refine g_bipush (v := nI 48) (q := 32) dX4_formOf_30 rfl kb_48 ?_
        refine g_icmp_ltN (t := 45) (q := 35) dX4_formOf_32 (by decide) rfl (by omega) (by omega) (fun c32 => ?_) (fun c32 => ?_)
        · skip
          refine g_iconst (v := nI 4) (q := 46) dX4_formOf_45 rfl ki_4 ?_
          refine g_iret (st := []) dX4_formOf_46 rfl rfl rfl ?_
          exact xr (show nI 4 = nI (fm c) by rw [show fm c = 4 by unfold fm; (repeat' split) <;> omega])
        · skip
          refine g_iload_n (q := 36) dX4_formOf_35 rfl rfl rfl ?_
          refine g_bipush (v := nI 57) (q := 38) dX4_formOf_36 rfl kb_57 ?_
          refine g_icmp_gtN (t := 45) (q := 41) dX4_formOf_38 (by decide) rfl (by omega) (by omega) (fun c38 => ?_) (fun c38 => ?_)
          · skip
            refine g_iconst (v := nI 4) (q := 46) dX4_formOf_45 rfl ki_4 ?_
            refine g_iret (st := []) dX4_formOf_46 rfl rfl rfl ?_
            exact xr (show nI 4 = nI (fm c) by rw [show fm c = 4 by unfold fm; (repeat' split) <;> omega])
          · skip
            refine g_iconst (v := nI 3) (q := 42) dX4_formOf_41 rfl ki_3 ?_
            refine g_goto (q := 46) dX4_formOf_42 (by decide) ?_
            refine g_iret (st := []) dX4_formOf_46 rfl rfl rfl ?_
            exact xr (show nI 3 = nI (fm c) by rw [show fm c = 3 by unfold fm; (repeat' split) <;> omega])
      · skip
        refine g_iload_n (q := 22) dX4_formOf_21 rfl rfl rfl ?_
        refine g_bipush (v := nI 122) (q := 24) dX4_formOf_22 rfl kb_122 ?_
        refine g_icmp_gtN (t := 29) (q := 27) dX4_formOf_24 (by decide) rfl (by omega) (by omega) (fun c24 => ?_) (fun c24 => ?_)
        · skip
          refine g_iload_n (q := 30) dX4_formOf_29 rfl rfl rfl ?_
          refine g_bipush (v := nI 48) (q := 32) dX4_formOf_30 rfl kb_48 ?_
          refine g_icmp_ltN (t := 45) (q := 35) dX4_formOf_32 (by decide) rfl (by omega) (by omega) (fun c32 => ?_) (fun c32 => ?_)
          · skip
            refine g_iconst (v := nI 4) (q := 46) dX4_formOf_45 rfl ki_4 ?_
            refine g_iret (st := []) dX4_formOf_46 rfl rfl rfl ?_
            exact xr (show nI 4 = nI (fm c) by rw [show fm c = 4 by unfold fm; (repeat' split) <;> omega])
          · skip
            refine g_iload_n (q := 36) dX4_formOf_35 rfl rfl rfl ?_
            refine g_bipush (v := nI 57) (q := 38) dX4_formOf_36 rfl kb_57 ?_
            refine g_icmp_gtN (t := 45) (q := 41) dX4_formOf_38 (by decide) rfl (by omega) (by omega) (fun c38 => ?_) (fun c38 => ?_)
            · skip
              refine g_iconst (v := nI 4) (q := 46) dX4_formOf_45 rfl ki_4 ?_
              refine g_iret (st := []) dX4_formOf_46 rfl rfl rfl ?_
              exact xr (show nI 4 = nI (fm c) by rw [show fm c = 4 by unfold fm; (repeat' split) <;> omega])
            · skip
              refine g_iconst (v := nI 3) (q := 42) dX4_formOf_41 rfl ki_3 ?_
              refine g_goto (q := 46) dX4_formOf_42 (by decide) ?_
              refine g_iret (st := []) dX4_formOf_46 rfl rfl rfl ?_
              exact xr (show nI 3 = nI (fm c) by rw [show fm c = 3 by unfold fm; (repeat' split) <;> omega])
        · skip
          refine g_iconst (v := nI 2) (q := 28) dX4_formOf_27 rfl ki_2 ?_
          refine g_iret (st := []) dX4_formOf_28 rfl rfl rfl ?_
          exact xr (show nI 2 = nI (fm c) by rw [show fm c = 2 by unfold fm; (repeat' split) <;> omega])
    · skip
      refine g_iconst (v := nI 1) (q := 14) dX4_formOf_13 rfl ki_1 ?_
      refine g_iret (st := []) dX4_formOf_14 rfl rfl rfl ?_
      exact xr (show nI 1 = nI (fm c) by rw [show fm c = 1 by unfold fm; (repeat' split) <;> omega])
  · exact absurd c2 (nI_m1 (by omega))
set_option maxHeartbeats 2000000 in
set_option maxRecDepth 20000 in
theorem c_formM {E : EN}  : CT E yX4_formOf cX4_formOf 1 (some .int) 0 [.int ((-1))] [] (xQ (some (.int (nI 0))) []) := by
  refine ct_of (by decide +kernel) (Nat.le_of_ble_eq_true rfl) (lv := [(0, .int ((-1)))]) rfl (fun A => ?_)
  refine g_iload_n (q := 1) dX4_formOf_0 rfl rfl rfl ?_
  refine g_iconst (v := (-1)) (q := 2) dX4_formOf_1 rfl ki_m1 ?_
  refine g_icmp_ne (t := 7) (q := 5) dX4_formOf_2 (by decide) rfl (fun c2 => ?_) (fun c2 => ?_)
  · exact absurd c2 (by decide)
  · skip
    refine g_iconst (v := nI 0) (q := 6) dX4_formOf_5 rfl ki_0 ?_
    refine g_iret (st := []) dX4_formOf_6 rfl rfl rfl ?_
    exact (xr rfl)
theorem c_formOf {E : EN} {tx : Nat → Nat} {tl p : Nat} (htx : ∀ j, j < tl → tx j < 256) : CT E yX4_formOf cX4_formOf 1 (some .int) 0 [.int (sgn tx tl p)] [] (xQ (some (.int (nI (fmA tx tl p)))) []) := by
  by_cases h : p < tl
  · rw [show sgn tx tl p = nI (tx p) from if_pos h, fmA_lt h]
    exact c_formN (htx p h)
  · rw [show sgn tx tl p = -1 from if_neg h, fmA_ge h]
    exact c_formM
set_option maxHeartbeats 2000000 in
set_option maxRecDepth 20000 in
theorem c_takeToken {E : EN} {r0 e0 u0 na ub tl : Nat} {ln : Int32} {tx : Nat → Nat} {fo sa : Int32} {e : Nat} (he : e ≤ tl) (hl : tl ≤ 200) (htx : ∀ j, j < tl → tx j < 256)  : CT E yX4_takeToken cX4_takeToken 1 (none) 1 [.ref r0] [(r0, .inr (4, [.ref e0, .int (ln), .ref u0, .ref na, .int (fo), .int (sa), .int (nI (e))])), (u0, .inr (8, [.int (nI (tl)), .ref ub])), (ub, .inl (E.2.1.2.1, 200, .inl (bA (tx))))] (xQ none [(r0, .inr (4, [.ref e0, .int (ln), .ref u0, .ref na, .int (nI (fmA tx tl (tsk tx tl e))), .int (nI (tsk tx tl e)), .int (nI (ten tx tl (tsk tx tl e)))])), (u0, .inr (8, [.int (nI (tl)), .ref ub])), (ub, .inl (E.2.1.2.1, 200, .inl (bA (tx))))]) := by
  refine ct_of (by decide +kernel) (Nat.le_of_ble_eq_true rfl) (lv := [(0, .ref r0)]) rfl (fun A => ?_)
  refine g_aload_n (q := 1) dX4_takeToken_0 rfl rfl rfl ?_
  refine g_aload_n (q := 2) dX4_takeToken_1 rfl rfl rfl ?_
  refine gf_X4_30 rfl 0 rfl rfl (q := 5) dX4_takeToken_2 rfl ?_
  refine pf_X4_44 rfl 0 rfl (Nat.le_of_ble_eq_true rfl) (ws' := [(_, .inr (_, [_, _, _, _, _, _, _])), _, _]) rfl (q := 8) dX4_takeToken_5 rfl ?_
  refine g_cut (ws' := [(r0, .inr (4, [.ref e0, .int (ln), .ref u0, .ref na, .int (fo), .int (nI (tsk tx tl e)), .int (nI (e))])), (u0, .inr (8, [.int (nI (tl)), .ref ub])), (ub, .inl (E.2.1.2.1, 200, .inl (bA (tx))))]) (q := 53) (lv' := [(0, .ref r0)]) (st' := []) (fun hcut => ?_) ?_
  · refine g_eq (ws' := [(r0, .inr (4, [.ref e0, .int (ln), .ref u0, .ref na, .int (fo), .int (nI (e + 0)), .int (nI (e))])), (u0, .inr (8, [.int (nI (tl)), .ref ub])), (ub, .inl (E.2.1.2.1, 200, .inl (bA (tx))))]) ?_ rfl rfl rfl
    refine g_loopW (cnt tx tl 1 e) (fun i => [(r0, .inr (4, [.ref e0, .int (ln), .ref u0, .ref na, .int (fo), .int (nI (e + i)), .int (nI (e))])), (u0, .inr (8, [.int (nI (tl)), .ref ub])), (ub, .inl (E.2.1.2.1, 200, .inl (bA (tx))))]) (fun i => [(0, .ref r0)]) 0 ?_ ?_ (Nat.zero_le _)
    · intro i hl8 hi8 ih8
      obtain ⟨hA1, hA2⟩ := cnt_in (by decide) hi8
      have hA3 := cnt_lt hi8
      show G E _ [(r0, .inr (4, [.ref e0, .int (ln), .ref u0, .ref na, .int (fo), .int (nI (e + i)), .int (nI (e))])), (u0, .inr (8, [.int (nI (tl)), .ref ub])), (ub, .inl (E.2.1.2.1, 200, .inl (bA (tx))))] 8 [(0, .ref r0)] []
      refine g_aload_n (q := 9) dX4_takeToken_8 rfl rfl rfl ?_
      refine gf_X4_44 rfl 0 rfl rfl (q := 12) dX4_takeToken_9 rfl ?_
      refine g_aload_n (q := 13) dX4_takeToken_12 rfl rfl rfl ?_
      refine gf_X4_22 rfl 0 rfl rfl (q := 16) dX4_takeToken_13 rfl ?_
      refine gf_X4_56 rfl 1 rfl rfl (q := 19) dX4_takeToken_16 rfl ?_
      refine g_icmp_geN (t := 53) (q := 22) dX4_takeToken_19 (by decide) rfl (by omega) (by omega) (fun c19 => ?_) (fun c19 => ?_)
      · omega
      · skip
        refine g_aload_n (q := 23) dX4_takeToken_22 rfl rfl rfl ?_
        refine gf_X4_22 rfl 0 rfl rfl (q := 26) dX4_takeToken_23 rfl ?_
        refine g_aload_n (q := 27) dX4_takeToken_26 rfl rfl rfl ?_
        refine gf_X4_44 rfl 0 rfl rfl (q := 30) dX4_takeToken_27 rfl ?_
        refine gc_X4_50 (c_signAt hl (by omega) htx) rfl (Nat.le_of_ble_eq_true rfl) rfl 1 rfl [1, 2] rfl rfl (rest := []) rfl (Nat.le_of_ble_eq_true rfl) (q := 33) dX4_takeToken_30 rfl (exK (ws' := [_, _, _]) (st' := [.int (sgn tx tl (e + i))]) rfl rfl ?_)
        have hfl33 := fmA_le (tx := tx) (tl := tl) (e + i)
        refine gc_X4_59 (c_formOf htx) rfl (Nat.le_of_ble_eq_true rfl) rfl [] rfl rfl (rest := []) rfl (Nat.le_of_ble_eq_true rfl) (q := 36) dX4_takeToken_33 rfl (exK (ws' := [_, _, _]) (st' := [.int (nI (fmA tx tl (e + i)))]) rfl rfl ?_)
        refine g_iconst (v := nI 1) (q := 37) dX4_takeToken_36 rfl ki_1 ?_
        refine g_icmp_neN (t := 53) (q := 40) dX4_takeToken_37 (by decide) rfl (by omega) (by omega) (fun c37 => ?_) (fun c37 => ?_)
        · omega
        · skip
          refine g_aload_n (q := 41) dX4_takeToken_40 rfl rfl rfl ?_
          refine g_dup (q := 42) dX4_takeToken_41 rfl rfl ?_
          refine gf_X4_44 rfl 0 rfl rfl (q := 45) dX4_takeToken_42 rfl ?_
          refine g_iconst (v := nI 1) (q := 46) dX4_takeToken_45 rfl ki_1 ?_
          refine g_iaddN (q := 47) dX4_takeToken_46 rfl ?_
          refine pf_X4_44 rfl 0 rfl (Nat.le_of_ble_eq_true rfl) (ws' := [(_, .inr (_, [_, _, _, _, _, _, _])), _, _]) rfl (q := 50) dX4_takeToken_47 rfl ?_
          refine g_goto (q := 8) dX4_takeToken_50 (by decide) ?_
          exact ih8
    · skip
      show G E _ [(r0, .inr (4, [.ref e0, .int (ln), .ref u0, .ref na, .int (fo), .int (nI (e + (cnt tx tl 1 e))), .int (nI (e))])), (u0, .inr (8, [.int (nI (tl)), .ref ub])), (ub, .inl (E.2.1.2.1, 200, .inl (bA (tx))))] 8 [(0, .ref r0)] []
      have hcl := cnt_le (tx := tx) (k := 1) (by decide) he
      refine g_aload_n (q := 9) dX4_takeToken_8 rfl rfl rfl ?_
      refine gf_X4_44 rfl 0 rfl rfl (q := 12) dX4_takeToken_9 rfl ?_
      refine g_aload_n (q := 13) dX4_takeToken_12 rfl rfl rfl ?_
      refine gf_X4_22 rfl 0 rfl rfl (q := 16) dX4_takeToken_13 rfl ?_
      refine gf_X4_56 rfl 1 rfl rfl (q := 19) dX4_takeToken_16 rfl ?_
      refine g_icmp_geN (t := 53) (q := 22) dX4_takeToken_19 (by decide) rfl (by omega) (by omega) (fun c19 => ?_) (fun c19 => ?_)
      · skip
        exact hcut
      · skip
        refine g_aload_n (q := 23) dX4_takeToken_22 rfl rfl rfl ?_
        refine gf_X4_22 rfl 0 rfl rfl (q := 26) dX4_takeToken_23 rfl ?_
        refine g_aload_n (q := 27) dX4_takeToken_26 rfl rfl rfl ?_
        refine gf_X4_44 rfl 0 rfl rfl (q := 30) dX4_takeToken_27 rfl ?_
        refine gc_X4_50 (c_signAt hl (by omega) htx) rfl (Nat.le_of_ble_eq_true rfl) rfl 1 rfl [1, 2] rfl rfl (rest := []) rfl (Nat.le_of_ble_eq_true rfl) (q := 33) dX4_takeToken_30 rfl (exK (ws' := [_, _, _]) (st' := [.int (sgn tx tl (e + (cnt tx tl 1 e)))]) rfl rfl ?_)
        have hfl33 := fmA_le (tx := tx) (tl := tl) (e + (cnt tx tl 1 e))
        refine gc_X4_59 (c_formOf htx) rfl (Nat.le_of_ble_eq_true rfl) rfl [] rfl rfl (rest := []) rfl (Nat.le_of_ble_eq_true rfl) (q := 36) dX4_takeToken_33 rfl (exK (ws' := [_, _, _]) (st' := [.int (nI (fmA tx tl (e + (cnt tx tl 1 e))))]) rfl rfl ?_)
        refine g_iconst (v := nI 1) (q := 37) dX4_takeToken_36 rfl ki_1 ?_
        refine g_icmp_neN (t := 53) (q := 40) dX4_takeToken_37 (by decide) rfl (by omega) (by omega) (fun c37 => ?_) (fun c37 => ?_)
        · skip
          exact hcut
        · exact absurd (by omega) (cnt_ge (tx := tx) (tl := tl) (p := e) (k := 1) (by decide))
  · have hsl := tsk_le (tx := tx) he
    refine g_aload_n (q := 54) dX4_takeToken_53 rfl rfl rfl ?_
    refine g_aload_n (q := 55) dX4_takeToken_54 rfl rfl rfl ?_
    refine gf_X4_22 rfl 0 rfl rfl (q := 58) dX4_takeToken_55 rfl ?_
    refine g_aload_n (q := 59) dX4_takeToken_58 rfl rfl rfl ?_
    refine gf_X4_44 rfl 0 rfl rfl (q := 62) dX4_takeToken_59 rfl ?_
    refine gc_X4_50 (c_signAt hl (by omega) htx) rfl (Nat.le_of_ble_eq_true rfl) rfl 1 rfl [1, 2] rfl rfl (rest := [_]) rfl (Nat.le_of_ble_eq_true rfl) (q := 65) dX4_takeToken_62 rfl (exK (ws' := [_, _, _]) (st' := [.int (sgn tx tl (tsk tx tl e)), _]) rfl rfl ?_)
    have hfl65 := fmA_le (tx := tx) (tl := tl) (tsk tx tl e)
    refine gc_X4_59 (c_formOf htx) rfl (Nat.le_of_ble_eq_true rfl) rfl [] rfl rfl (rest := [_]) rfl (Nat.le_of_ble_eq_true rfl) (q := 68) dX4_takeToken_65 rfl (exK (ws' := [_, _, _]) (st' := [.int (nI (fmA tx tl (tsk tx tl e))), _]) rfl rfl ?_)
    refine pf_X4_47 rfl 0 rfl (Nat.le_of_ble_eq_true rfl) (ws' := [(_, .inr (_, [_, _, _, _, _, _, _])), _, _]) rfl (q := 71) dX4_takeToken_68 rfl ?_
    refine g_aload_n (q := 72) dX4_takeToken_71 rfl rfl rfl ?_
    refine g_aload_n (q := 73) dX4_takeToken_72 rfl rfl rfl ?_
    refine gf_X4_44 rfl 0 rfl rfl (q := 76) dX4_takeToken_73 rfl ?_
    refine g_iconst (v := nI 1) (q := 77) dX4_takeToken_76 rfl ki_1 ?_
    refine g_iaddN (q := 78) dX4_takeToken_77 rfl ?_
    refine g_aload_n (q := 79) dX4_takeToken_78 rfl rfl rfl ?_
    refine gf_X4_22 rfl 0 rfl rfl (q := 82) dX4_takeToken_79 rfl ?_
    refine gf_X4_56 rfl 1 rfl rfl (q := 85) dX4_takeToken_82 rfl ?_
    refine g_mminN rfl ml_X4_62 (Nat.le_of_ble_eq_true rfl) (Nat.le_of_ble_eq_true rfl) (by omega) (by omega) (q := 88) dX4_takeToken_85 rfl ?_
    refine pf_X4_30 rfl 0 rfl (Nat.le_of_ble_eq_true rfl) (ws' := [(_, .inr (_, [_, _, _, _, _, _, _])), _, _]) rfl (q := 91) dX4_takeToken_88 rfl ?_
    refine g_aload_n (q := 92) dX4_takeToken_91 rfl rfl rfl ?_
    refine gf_X4_47 rfl 0 rfl rfl (q := 95) dX4_takeToken_92 rfl ?_
    refine g_iconst (v := nI 2) (q := 96) dX4_takeToken_95 rfl ki_2 ?_
    refine g_icmp_eqN (t := 108) (q := 99) dX4_takeToken_96 (by decide) rfl (by omega) (by omega) (fun c96 => ?_) (fun c96 => ?_)
    · skip
      have hk1 := fmA_k (by decide) c96
      have hp1 := cnt_pos (by decide) c96
      refine g_eq (ws' := [(r0, .inr (4, [.ref e0, .int (ln), .ref u0, .ref na, .int (nI (fmA tx tl (tsk tx tl e))), .int (nI (tsk tx tl e)), .int (nI (tsk tx tl e + 1))])), (u0, .inr (8, [.int (nI (tl)), .ref ub])), (ub, .inl (E.2.1.2.1, 200, .inl (bA (tx))))]) ?_ (by rw [show min (tsk tx tl e + 1) tl = tsk tx tl e + 1 by omega]) rfl rfl
      refine g_loopW (cnt tx tl 2 (tsk tx tl e)) (fun i => [(r0, .inr (4, [.ref e0, .int (ln), .ref u0, .ref na, .int (nI (fmA tx tl (tsk tx tl e))), .int (nI (tsk tx tl e)), .int (nI (tsk tx tl e + i))])), (u0, .inr (8, [.int (nI (tl)), .ref ub])), (ub, .inl (E.2.1.2.1, 200, .inl (bA (tx))))]) (fun i => [(0, .ref r0)]) 1 ?_ ?_ (hp1)
      · intro i hl108 hi108 ih108
        obtain ⟨hA1, hA2⟩ := cnt_in (by decide) hi108
        have hA3 := cnt_lt hi108
        show G E _ [(r0, .inr (4, [.ref e0, .int (ln), .ref u0, .ref na, .int (nI (fmA tx tl (tsk tx tl e))), .int (nI (tsk tx tl e)), .int (nI (tsk tx tl e + i))])), (u0, .inr (8, [.int (nI (tl)), .ref ub])), (ub, .inl (E.2.1.2.1, 200, .inl (bA (tx))))] 108 [(0, .ref r0)] []
        refine g_aload_n (q := 109) dX4_takeToken_108 rfl rfl rfl ?_
        refine gf_X4_30 rfl 0 rfl rfl (q := 112) dX4_takeToken_109 rfl ?_
        refine g_aload_n (q := 113) dX4_takeToken_112 rfl rfl rfl ?_
        refine gf_X4_22 rfl 0 rfl rfl (q := 116) dX4_takeToken_113 rfl ?_
        refine gf_X4_56 rfl 1 rfl rfl (q := 119) dX4_takeToken_116 rfl ?_
        refine g_icmp_geN (t := 156) (q := 122) dX4_takeToken_119 (by decide) rfl (by omega) (by omega) (fun c119 => ?_) (fun c119 => ?_)
        · omega
        · skip
          refine g_aload_n (q := 123) dX4_takeToken_122 rfl rfl rfl ?_
          refine gf_X4_22 rfl 0 rfl rfl (q := 126) dX4_takeToken_123 rfl ?_
          refine g_aload_n (q := 127) dX4_takeToken_126 rfl rfl rfl ?_
          refine gf_X4_30 rfl 0 rfl rfl (q := 130) dX4_takeToken_127 rfl ?_
          refine gc_X4_50 (c_signAt hl (by omega) htx) rfl (Nat.le_of_ble_eq_true rfl) rfl 1 rfl [1, 2] rfl rfl (rest := []) rfl (Nat.le_of_ble_eq_true rfl) (q := 133) dX4_takeToken_130 rfl (exK (ws' := [_, _, _]) (st' := [.int (sgn tx tl (tsk tx tl e + i))]) rfl rfl ?_)
          have hfl133 := fmA_le (tx := tx) (tl := tl) (tsk tx tl e + i)
          refine gc_X4_59 (c_formOf htx) rfl (Nat.le_of_ble_eq_true rfl) rfl [] rfl rfl (rest := []) rfl (Nat.le_of_ble_eq_true rfl) (q := 136) dX4_takeToken_133 rfl (exK (ws' := [_, _, _]) (st' := [.int (nI (fmA tx tl (tsk tx tl e + i)))]) rfl rfl ?_)
          refine g_aload_n (q := 137) dX4_takeToken_136 rfl rfl rfl ?_
          refine gf_X4_47 rfl 0 rfl rfl (q := 140) dX4_takeToken_137 rfl ?_
          refine g_icmp_neN (t := 156) (q := 143) dX4_takeToken_140 (by decide) rfl (by omega) (by omega) (fun c140 => ?_) (fun c140 => ?_)
          · omega
          · skip
            refine g_aload_n (q := 144) dX4_takeToken_143 rfl rfl rfl ?_
            refine g_dup (q := 145) dX4_takeToken_144 rfl rfl ?_
            refine gf_X4_30 rfl 0 rfl rfl (q := 148) dX4_takeToken_145 rfl ?_
            refine g_iconst (v := nI 1) (q := 149) dX4_takeToken_148 rfl ki_1 ?_
            refine g_iaddN (q := 150) dX4_takeToken_149 rfl ?_
            refine pf_X4_30 rfl 0 rfl (Nat.le_of_ble_eq_true rfl) (ws' := [(_, .inr (_, [_, _, _, _, _, _, _])), _, _]) rfl (q := 153) dX4_takeToken_150 rfl ?_
            refine g_goto (q := 108) dX4_takeToken_153 (by decide) ?_
            exact ih108
      · skip
        show G E _ [(r0, .inr (4, [.ref e0, .int (ln), .ref u0, .ref na, .int (nI (fmA tx tl (tsk tx tl e))), .int (nI (tsk tx tl e)), .int (nI (tsk tx tl e + (cnt tx tl 2 (tsk tx tl e))))])), (u0, .inr (8, [.int (nI (tl)), .ref ub])), (ub, .inl (E.2.1.2.1, 200, .inl (bA (tx))))] 108 [(0, .ref r0)] []
        have hcl := cnt_le (tx := tx) (k := 2) (by decide) hsl
        refine g_aload_n (q := 109) dX4_takeToken_108 rfl rfl rfl ?_
        refine gf_X4_30 rfl 0 rfl rfl (q := 112) dX4_takeToken_109 rfl ?_
        refine g_aload_n (q := 113) dX4_takeToken_112 rfl rfl rfl ?_
        refine gf_X4_22 rfl 0 rfl rfl (q := 116) dX4_takeToken_113 rfl ?_
        refine gf_X4_56 rfl 1 rfl rfl (q := 119) dX4_takeToken_116 rfl ?_
        refine g_icmp_geN (t := 156) (q := 122) dX4_takeToken_119 (by decide) rfl (by omega) (by omega) (fun c119 => ?_) (fun c119 => ?_)
        · skip
          refine g_vret (st := []) dX4_takeToken_156 rfl rfl ?_
          exact xv (by rw [ten_2 c96])
        · skip
          refine g_aload_n (q := 123) dX4_takeToken_122 rfl rfl rfl ?_
          refine gf_X4_22 rfl 0 rfl rfl (q := 126) dX4_takeToken_123 rfl ?_
          refine g_aload_n (q := 127) dX4_takeToken_126 rfl rfl rfl ?_
          refine gf_X4_30 rfl 0 rfl rfl (q := 130) dX4_takeToken_127 rfl ?_
          refine gc_X4_50 (c_signAt hl (by omega) htx) rfl (Nat.le_of_ble_eq_true rfl) rfl 1 rfl [1, 2] rfl rfl (rest := []) rfl (Nat.le_of_ble_eq_true rfl) (q := 133) dX4_takeToken_130 rfl (exK (ws' := [_, _, _]) (st' := [.int (sgn tx tl (tsk tx tl e + (cnt tx tl 2 (tsk tx tl e))))]) rfl rfl ?_)
          have hfl133 := fmA_le (tx := tx) (tl := tl) (tsk tx tl e + (cnt tx tl 2 (tsk tx tl e)))
          refine gc_X4_59 (c_formOf htx) rfl (Nat.le_of_ble_eq_true rfl) rfl [] rfl rfl (rest := []) rfl (Nat.le_of_ble_eq_true rfl) (q := 136) dX4_takeToken_133 rfl (exK (ws' := [_, _, _]) (st' := [.int (nI (fmA tx tl (tsk tx tl e + (cnt tx tl 2 (tsk tx tl e)))))]) rfl rfl ?_)
          refine g_aload_n (q := 137) dX4_takeToken_136 rfl rfl rfl ?_
          refine gf_X4_47 rfl 0 rfl rfl (q := 140) dX4_takeToken_137 rfl ?_
          refine g_icmp_neN (t := 156) (q := 143) dX4_takeToken_140 (by decide) rfl (by omega) (by omega) (fun c140 => ?_) (fun c140 => ?_)
          · skip
            refine g_vret (st := []) dX4_takeToken_156 rfl rfl ?_
            exact xv (by rw [ten_2 c96])
          · exact absurd (by omega) (cnt_ge (tx := tx) (tl := tl) (p := tsk tx tl e) (k := 2) (by decide))
    · skip
      refine g_aload_n (q := 100) dX4_takeToken_99 rfl rfl rfl ?_
      refine gf_X4_47 rfl 0 rfl rfl (q := 103) dX4_takeToken_100 rfl ?_
      refine g_iconst (v := nI 3) (q := 104) dX4_takeToken_103 rfl ki_3 ?_
      refine g_icmp_eqN (t := 108) (q := 107) dX4_takeToken_104 (by decide) rfl (by omega) (by omega) (fun c104 => ?_) (fun c104 => ?_)
      · skip
        have hk1 := fmA_k (by decide) c104
        have hp1 := cnt_pos (by decide) c104
        refine g_eq (ws' := [(r0, .inr (4, [.ref e0, .int (ln), .ref u0, .ref na, .int (nI (fmA tx tl (tsk tx tl e))), .int (nI (tsk tx tl e)), .int (nI (tsk tx tl e + 1))])), (u0, .inr (8, [.int (nI (tl)), .ref ub])), (ub, .inl (E.2.1.2.1, 200, .inl (bA (tx))))]) ?_ (by rw [show min (tsk tx tl e + 1) tl = tsk tx tl e + 1 by omega]) rfl rfl
        refine g_loopW (cnt tx tl 3 (tsk tx tl e)) (fun i => [(r0, .inr (4, [.ref e0, .int (ln), .ref u0, .ref na, .int (nI (fmA tx tl (tsk tx tl e))), .int (nI (tsk tx tl e)), .int (nI (tsk tx tl e + i))])), (u0, .inr (8, [.int (nI (tl)), .ref ub])), (ub, .inl (E.2.1.2.1, 200, .inl (bA (tx))))]) (fun i => [(0, .ref r0)]) 1 ?_ ?_ (hp1)
        · intro i hl108 hi108 ih108
          obtain ⟨hA1, hA2⟩ := cnt_in (by decide) hi108
          have hA3 := cnt_lt hi108
          show G E _ [(r0, .inr (4, [.ref e0, .int (ln), .ref u0, .ref na, .int (nI (fmA tx tl (tsk tx tl e))), .int (nI (tsk tx tl e)), .int (nI (tsk tx tl e + i))])), (u0, .inr (8, [.int (nI (tl)), .ref ub])), (ub, .inl (E.2.1.2.1, 200, .inl (bA (tx))))] 108 [(0, .ref r0)] []
          refine g_aload_n (q := 109) dX4_takeToken_108 rfl rfl rfl ?_
          refine gf_X4_30 rfl 0 rfl rfl (q := 112) dX4_takeToken_109 rfl ?_
          refine g_aload_n (q := 113) dX4_takeToken_112 rfl rfl rfl ?_
          refine gf_X4_22 rfl 0 rfl rfl (q := 116) dX4_takeToken_113 rfl ?_
          refine gf_X4_56 rfl 1 rfl rfl (q := 119) dX4_takeToken_116 rfl ?_
          refine g_icmp_geN (t := 156) (q := 122) dX4_takeToken_119 (by decide) rfl (by omega) (by omega) (fun c119 => ?_) (fun c119 => ?_)
          · omega
          · skip
            refine g_aload_n (q := 123) dX4_takeToken_122 rfl rfl rfl ?_
            refine gf_X4_22 rfl 0 rfl rfl (q := 126) dX4_takeToken_123 rfl ?_
            refine g_aload_n (q := 127) dX4_takeToken_126 rfl rfl rfl ?_
            refine gf_X4_30 rfl 0 rfl rfl (q := 130) dX4_takeToken_127 rfl ?_
            refine gc_X4_50 (c_signAt hl (by omega) htx) rfl (Nat.le_of_ble_eq_true rfl) rfl 1 rfl [1, 2] rfl rfl (rest := []) rfl (Nat.le_of_ble_eq_true rfl) (q := 133) dX4_takeToken_130 rfl (exK (ws' := [_, _, _]) (st' := [.int (sgn tx tl (tsk tx tl e + i))]) rfl rfl ?_)
            have hfl133 := fmA_le (tx := tx) (tl := tl) (tsk tx tl e + i)
            refine gc_X4_59 (c_formOf htx) rfl (Nat.le_of_ble_eq_true rfl) rfl [] rfl rfl (rest := []) rfl (Nat.le_of_ble_eq_true rfl) (q := 136) dX4_takeToken_133 rfl (exK (ws' := [_, _, _]) (st' := [.int (nI (fmA tx tl (tsk tx tl e + i)))]) rfl rfl ?_)
            refine g_aload_n (q := 137) dX4_takeToken_136 rfl rfl rfl ?_
            refine gf_X4_47 rfl 0 rfl rfl (q := 140) dX4_takeToken_137 rfl ?_
            refine g_icmp_neN (t := 156) (q := 143) dX4_takeToken_140 (by decide) rfl (by omega) (by omega) (fun c140 => ?_) (fun c140 => ?_)
            · omega
            · skip
              refine g_aload_n (q := 144) dX4_takeToken_143 rfl rfl rfl ?_
              refine g_dup (q := 145) dX4_takeToken_144 rfl rfl ?_
              refine gf_X4_30 rfl 0 rfl rfl (q := 148) dX4_takeToken_145 rfl ?_
              refine g_iconst (v := nI 1) (q := 149) dX4_takeToken_148 rfl ki_1 ?_
              refine g_iaddN (q := 150) dX4_takeToken_149 rfl ?_
              refine pf_X4_30 rfl 0 rfl (Nat.le_of_ble_eq_true rfl) (ws' := [(_, .inr (_, [_, _, _, _, _, _, _])), _, _]) rfl (q := 153) dX4_takeToken_150 rfl ?_
              refine g_goto (q := 108) dX4_takeToken_153 (by decide) ?_
              exact ih108
        · skip
          show G E _ [(r0, .inr (4, [.ref e0, .int (ln), .ref u0, .ref na, .int (nI (fmA tx tl (tsk tx tl e))), .int (nI (tsk tx tl e)), .int (nI (tsk tx tl e + (cnt tx tl 3 (tsk tx tl e))))])), (u0, .inr (8, [.int (nI (tl)), .ref ub])), (ub, .inl (E.2.1.2.1, 200, .inl (bA (tx))))] 108 [(0, .ref r0)] []
          have hcl := cnt_le (tx := tx) (k := 3) (by decide) hsl
          refine g_aload_n (q := 109) dX4_takeToken_108 rfl rfl rfl ?_
          refine gf_X4_30 rfl 0 rfl rfl (q := 112) dX4_takeToken_109 rfl ?_
          refine g_aload_n (q := 113) dX4_takeToken_112 rfl rfl rfl ?_
          refine gf_X4_22 rfl 0 rfl rfl (q := 116) dX4_takeToken_113 rfl ?_
          refine gf_X4_56 rfl 1 rfl rfl (q := 119) dX4_takeToken_116 rfl ?_
          refine g_icmp_geN (t := 156) (q := 122) dX4_takeToken_119 (by decide) rfl (by omega) (by omega) (fun c119 => ?_) (fun c119 => ?_)
          · skip
            refine g_vret (st := []) dX4_takeToken_156 rfl rfl ?_
            exact xv (by rw [ten_3 c104])
          · skip
            refine g_aload_n (q := 123) dX4_takeToken_122 rfl rfl rfl ?_
            refine gf_X4_22 rfl 0 rfl rfl (q := 126) dX4_takeToken_123 rfl ?_
            refine g_aload_n (q := 127) dX4_takeToken_126 rfl rfl rfl ?_
            refine gf_X4_30 rfl 0 rfl rfl (q := 130) dX4_takeToken_127 rfl ?_
            refine gc_X4_50 (c_signAt hl (by omega) htx) rfl (Nat.le_of_ble_eq_true rfl) rfl 1 rfl [1, 2] rfl rfl (rest := []) rfl (Nat.le_of_ble_eq_true rfl) (q := 133) dX4_takeToken_130 rfl (exK (ws' := [_, _, _]) (st' := [.int (sgn tx tl (tsk tx tl e + (cnt tx tl 3 (tsk tx tl e))))]) rfl rfl ?_)
            have hfl133 := fmA_le (tx := tx) (tl := tl) (tsk tx tl e + (cnt tx tl 3 (tsk tx tl e)))
            refine gc_X4_59 (c_formOf htx) rfl (Nat.le_of_ble_eq_true rfl) rfl [] rfl rfl (rest := []) rfl (Nat.le_of_ble_eq_true rfl) (q := 136) dX4_takeToken_133 rfl (exK (ws' := [_, _, _]) (st' := [.int (nI (fmA tx tl (tsk tx tl e + (cnt tx tl 3 (tsk tx tl e)))))]) rfl rfl ?_)
            refine g_aload_n (q := 137) dX4_takeToken_136 rfl rfl rfl ?_
            refine gf_X4_47 rfl 0 rfl rfl (q := 140) dX4_takeToken_137 rfl ?_
            refine g_icmp_neN (t := 156) (q := 143) dX4_takeToken_140 (by decide) rfl (by omega) (by omega) (fun c140 => ?_) (fun c140 => ?_)
            · skip
              refine g_vret (st := []) dX4_takeToken_156 rfl rfl ?_
              exact xv (by rw [ten_3 c104])
            · exact absurd (by omega) (cnt_ge (tx := tx) (tl := tl) (p := tsk tx tl e) (k := 3) (by decide))
      · skip
        refine g_vret (st := []) dX4_takeToken_107 rfl rfl ?_
        exact xv (by rw [ten_4 c96 c104])
theorem allN_hit {c : Nat → Bool} {j : Nat} : ∀ {n : Nat}, j < n → c j = false → allN c n = false
  | 0, h, _ => absurd h (Nat.not_lt_zero j)
  | n + 1, h, e => by
    rw [allN]
    by_cases hj : j = n
    · subst hj; rw [e, Bool.and_false]
    · rw [allN_hit (n := n) (by omega) e, Bool.false_and]
set_option maxHeartbeats 2000000 in
set_option maxRecDepth 20000 in
theorem c_isInHand {E : EN} {r0 e0 u0 na ub tl : Nat} {ln : Int32} {tx : Nat → Nat} {fo : Int32} {s e i : Nat} (hi : i < 14) (hse : s ≤ e) (he : e ≤ tl) (hl : tl ≤ 200) (htx : ∀ j, j < tl → tx j < 256)  : CT E yX4_isInHand cX4_isInHand 3 (some .boolean) 4 [.ref r0, .ref (E.2.2.2.1 i)] [(r0, .inr (4, [.ref e0, .int (ln), .ref u0, .ref na, .int (fo), .int (nI (s)), .int (nI (e))])), (u0, .inr (8, [.int (nI (tl)), .ref ub])), (ub, .inl (E.2.1.2.1, 200, .inl (bA (tx))))] (xQ (some (.int (bI (inH tx tl s e i)))) [(r0, .inr (4, [.ref e0, .int (ln), .ref u0, .ref na, .int (fo), .int (nI (s)), .int (nI (e))])), (u0, .inr (8, [.int (nI (tl)), .ref ub])), (ub, .inl (E.2.1.2.1, 200, .inl (bA (tx))))]) := by
  refine ct_of (by decide +kernel) (Nat.le_of_ble_eq_true rfl) (lv := [(0, .ref r0), (1, .ref (E.2.2.2.1 i))]) rfl (fun A => ?_)
  have hL := (lenW_in i hi).2
  refine g_aload_n (q := 1) dX4_isInHand_0 rfl rfl rfl ?_
  refine gf_X4_30 rfl 0 rfl rfl (q := 4) dX4_isInHand_1 rfl ?_
  refine g_aload_n (q := 5) dX4_isInHand_4 rfl rfl rfl ?_
  refine gf_X4_44 rfl 0 rfl rfl (q := 8) dX4_isInHand_5 rfl ?_
  refine g_isubN (q := 9) dX4_isInHand_8 rfl (by omega) ?_
  refine g_aload_n (q := 10) dX4_isInHand_9 rfl rfl rfl ?_
  refine gj_X4_144 hi (c_slen hi) rfl (Nat.le_of_ble_eq_true rfl) rfl [] rfl rfl (rest := [_]) rfl (Nat.le_of_ble_eq_true rfl) (q := 13) dX4_isInHand_10 rfl (exK (ws' := [_, _, _]) (st' := [.int (nI (lenW i)), _]) rfl rfl ?_)
  refine g_icmp_eqN (t := 18) (q := 16) dX4_isInHand_13 (by decide) rfl (by omega) (by omega) (fun c13 => ?_) (fun c13 => ?_)
  · skip
    refine g_iconst (v := nI 0) (q := 19) dX4_isInHand_18 rfl ki_0 ?_
    refine g_istore_n (lv' := [(0, _), (1, _), (2, _)]) (q := 20) dX4_isInHand_19 rfl rfl (Nat.le_of_ble_eq_true rfl) rfl ?_
    refine g_loopI (lenW i) (fun j => allN (fun j => decide (sgn tx tl (s + j) = chI i j)) j = true) (fun j => [(r0, .inr (4, [.ref e0, .int (ln), .ref u0, .ref na, .int (fo), .int (nI (s)), .int (nI (e))])), (u0, .inr (8, [.int (nI (tl)), .ref ub])), (ub, .inl (E.2.1.2.1, 200, .inl (bA (tx))))]) (fun j => [(0, .ref r0), (1, .ref (E.2.2.2.1 i)), (2, .int (nI (j)))]) ?_ ?_ 0 (Nat.zero_le _) (rfl)
    · intro j hj20 hv20 ih20
      show G E _ [(r0, .inr (4, [.ref e0, .int (ln), .ref u0, .ref na, .int (fo), .int (nI (s)), .int (nI (e))])), (u0, .inr (8, [.int (nI (tl)), .ref ub])), (ub, .inl (E.2.1.2.1, 200, .inl (bA (tx))))] 20 [(0, .ref r0), (1, .ref (E.2.2.2.1 i)), (2, .int (nI (j)))] []
      refine g_iload_n (q := 21) dX4_isInHand_20 rfl rfl rfl ?_
      refine g_aload_n (q := 22) dX4_isInHand_21 rfl rfl rfl ?_
      refine gj_X4_144 hi (c_slen hi) rfl (Nat.le_of_ble_eq_true rfl) rfl [] rfl rfl (rest := [_]) rfl (Nat.le_of_ble_eq_true rfl) (q := 25) dX4_isInHand_22 rfl (exK (ws' := [_, _, _]) (st' := [.int (nI (lenW i)), _]) rfl rfl ?_)
      refine g_icmp_geN (t := 57) (q := 28) dX4_isInHand_25 (by decide) rfl (by omega) (by omega) (fun c25 => ?_) (fun c25 => ?_)
      · omega
      · skip
        refine g_aload_n (q := 29) dX4_isInHand_28 rfl rfl rfl ?_
        refine gf_X4_22 rfl 0 rfl rfl (q := 32) dX4_isInHand_29 rfl ?_
        refine g_aload_n (q := 33) dX4_isInHand_32 rfl rfl rfl ?_
        refine gf_X4_44 rfl 0 rfl rfl (q := 36) dX4_isInHand_33 rfl ?_
        refine g_iload_n (q := 37) dX4_isInHand_36 rfl rfl rfl ?_
        refine g_iaddN (q := 38) dX4_isInHand_37 rfl ?_
        refine gc_X4_50 (c_signAt hl (by omega) htx) rfl (Nat.le_of_ble_eq_true rfl) rfl 1 rfl [1, 2] rfl rfl (rest := []) rfl (Nat.le_of_ble_eq_true rfl) (q := 41) dX4_isInHand_38 rfl (exK (ws' := [_, _, _]) (st' := [.int (sgn tx tl (s + j))]) rfl rfl ?_)
        refine g_aload_n (q := 42) dX4_isInHand_41 rfl rfl rfl ?_
        refine g_iload_n (q := 43) dX4_isInHand_42 rfl rfl rfl ?_
        refine gj_X4_148 hi (c_schar hi hj20) rfl (Nat.le_of_ble_eq_true rfl) rfl [] rfl rfl (rest := [_]) rfl (Nat.le_of_ble_eq_true rfl) (q := 46) dX4_isInHand_43 rfl (exK (ws' := [_, _, _]) (st' := [.int (chI i j), _]) rfl rfl ?_)
        refine g_icmp_eq (t := 51) (q := 49) dX4_isInHand_46 (by decide) rfl (fun c46 => ?_) (fun c46 => ?_)
        · skip
          refine g_iinc (lv' := [(0, _), (1, _), (2, _)]) (v := nI (j + 1)) (q := 54) dX4_isInHand_51 rfl rfl (nI_inc _) (Nat.le_of_ble_eq_true rfl) rfl ?_
          refine g_goto (q := 20) dX4_isInHand_54 (by decide) ?_
          exact ih20 (by rw [allN, hv20, decide_eq_true c46]; rfl)
        · skip
          refine g_iconst (v := nI 0) (q := 50) dX4_isInHand_49 rfl ki_0 ?_
          refine g_iret (st := []) dX4_isInHand_50 rfl (narZ (by first | exact Or.inl rfl | exact Or.inr rfl)) rfl ?_
          exact xr (by unfold inH; rw [allN_hit hj20 (decide_eq_false c46), Bool.and_false]; rfl)
    · intro hv20
      show G E _ [(r0, .inr (4, [.ref e0, .int (ln), .ref u0, .ref na, .int (fo), .int (nI (s)), .int (nI (e))])), (u0, .inr (8, [.int (nI (tl)), .ref ub])), (ub, .inl (E.2.1.2.1, 200, .inl (bA (tx))))] 20 [(0, .ref r0), (1, .ref (E.2.2.2.1 i)), (2, .int (nI (lenW i)))] []
      refine g_iload_n (q := 21) dX4_isInHand_20 rfl rfl rfl ?_
      refine g_aload_n (q := 22) dX4_isInHand_21 rfl rfl rfl ?_
      refine gj_X4_144 hi (c_slen hi) rfl (Nat.le_of_ble_eq_true rfl) rfl [] rfl rfl (rest := [_]) rfl (Nat.le_of_ble_eq_true rfl) (q := 25) dX4_isInHand_22 rfl (exK (ws' := [_, _, _]) (st' := [.int (nI (lenW i)), _]) rfl rfl ?_)
      refine g_icmp_geN (t := 57) (q := 28) dX4_isInHand_25 (by decide) rfl (by omega) (by omega) (fun c25 => ?_) (fun c25 => ?_)
      · skip
        refine g_iconst (v := nI 1) (q := 58) dX4_isInHand_57 rfl ki_1 ?_
        refine g_iret (st := []) dX4_isInHand_58 rfl (narZ (by first | exact Or.inl rfl | exact Or.inr rfl)) rfl ?_
        exact xr (by unfold inH; rw [decide_eq_true c13, hv20]; rfl)
      · omega
  · skip
    refine g_iconst (v := nI 0) (q := 17) dX4_isInHand_16 rfl ki_0 ?_
    refine g_iret (st := []) dX4_isInHand_17 rfl (narZ (by first | exact Or.inl rfl | exact Or.inr rfl)) rfl ?_
    exact xr (by unfold inH; rw [decide_eq_false c13]; rfl)
set_option maxHeartbeats 2000000 in
set_option maxRecDepth 20000 in
theorem c_spelling {E : EN} {i : Nat} (hi : i < 14) : CT E yX4_spelling cX4_spelling 1 (some (.object "java/lang/String")) 0 [.int (nI (i))] [] (xQ (some (.ref (E.2.2.2.1 i))) []) := by
  refine ct_of (by decide +kernel) (Nat.le_of_ble_eq_true rfl) (lv := [(0, .int (nI (i)))]) rfl (fun A => ?_)
  refine g_iload_n (q := 1) dX4_spelling_0 rfl rfl rfl ?_
  rcases (show i = 0 ∨ i = 1 ∨ i = 2 ∨ i = 3 ∨ i = 4 ∨ i = 5 ∨ i = 6 ∨ i = 7 ∨ i = 8 ∨ i = 9 ∨ i = 10 ∨ i = 11 ∨ i = 12 ∨ i = 13 by omega) with rfl | rfl | rfl | rfl | rfl | rfl | rfl | rfl | rfl | rfl | rfl | rfl | rfl | rfl
  · refine g_tableIn (off := 67) (q := 68) dX4_spelling_1 (by decide) (by decide) (by decide) (by decide) ?_
    refine g_ldcS (i := 0) (by decide) rfl rfl (q := 70) dX4_spelling_68 rfl ?_
    exact g_aret (st := []) dX4_spelling_70 rfl (Or.inl ⟨_, rfl⟩) rfl ⟨rfl, rfl⟩
  · refine g_tableIn (off := 70) (q := 71) dX4_spelling_1 (by decide) (by decide) (by decide) (by decide) ?_
    refine g_ldcS (i := 1) (by decide) rfl rfl (q := 73) dX4_spelling_71 rfl ?_
    exact g_aret (st := []) dX4_spelling_73 rfl (Or.inl ⟨_, rfl⟩) rfl ⟨rfl, rfl⟩
  · refine g_tableIn (off := 73) (q := 74) dX4_spelling_1 (by decide) (by decide) (by decide) (by decide) ?_
    refine g_ldcS (i := 2) (by decide) rfl rfl (q := 76) dX4_spelling_74 rfl ?_
    exact g_aret (st := []) dX4_spelling_76 rfl (Or.inl ⟨_, rfl⟩) rfl ⟨rfl, rfl⟩
  · refine g_tableIn (off := 76) (q := 77) dX4_spelling_1 (by decide) (by decide) (by decide) (by decide) ?_
    refine g_ldcS (i := 3) (by decide) rfl rfl (q := 79) dX4_spelling_77 rfl ?_
    exact g_aret (st := []) dX4_spelling_79 rfl (Or.inl ⟨_, rfl⟩) rfl ⟨rfl, rfl⟩
  · refine g_tableIn (off := 79) (q := 80) dX4_spelling_1 (by decide) (by decide) (by decide) (by decide) ?_
    refine g_ldcS (i := 4) (by decide) rfl rfl (q := 82) dX4_spelling_80 rfl ?_
    exact g_aret (st := []) dX4_spelling_82 rfl (Or.inl ⟨_, rfl⟩) rfl ⟨rfl, rfl⟩
  · refine g_tableIn (off := 82) (q := 83) dX4_spelling_1 (by decide) (by decide) (by decide) (by decide) ?_
    refine g_ldcS (i := 5) (by decide) rfl rfl (q := 85) dX4_spelling_83 rfl ?_
    exact g_aret (st := []) dX4_spelling_85 rfl (Or.inl ⟨_, rfl⟩) rfl ⟨rfl, rfl⟩
  · refine g_tableIn (off := 85) (q := 86) dX4_spelling_1 (by decide) (by decide) (by decide) (by decide) ?_
    refine g_ldcS (i := 6) (by decide) rfl rfl (q := 88) dX4_spelling_86 rfl ?_
    exact g_aret (st := []) dX4_spelling_88 rfl (Or.inl ⟨_, rfl⟩) rfl ⟨rfl, rfl⟩
  · refine g_tableIn (off := 88) (q := 89) dX4_spelling_1 (by decide) (by decide) (by decide) (by decide) ?_
    refine g_ldcS (i := 7) (by decide) rfl rfl (q := 91) dX4_spelling_89 rfl ?_
    exact g_aret (st := []) dX4_spelling_91 rfl (Or.inl ⟨_, rfl⟩) rfl ⟨rfl, rfl⟩
  · refine g_tableIn (off := 91) (q := 92) dX4_spelling_1 (by decide) (by decide) (by decide) (by decide) ?_
    refine g_ldcS (i := 8) (by decide) rfl rfl (q := 94) dX4_spelling_92 rfl ?_
    exact g_aret (st := []) dX4_spelling_94 rfl (Or.inl ⟨_, rfl⟩) rfl ⟨rfl, rfl⟩
  · refine g_tableIn (off := 94) (q := 95) dX4_spelling_1 (by decide) (by decide) (by decide) (by decide) ?_
    refine g_ldcS (i := 9) (by decide) rfl rfl (q := 97) dX4_spelling_95 rfl ?_
    exact g_aret (st := []) dX4_spelling_97 rfl (Or.inl ⟨_, rfl⟩) rfl ⟨rfl, rfl⟩
  · refine g_tableIn (off := 97) (q := 98) dX4_spelling_1 (by decide) (by decide) (by decide) (by decide) ?_
    refine g_ldcS (i := 10) (by decide) rfl rfl (q := 100) dX4_spelling_98 rfl ?_
    exact g_aret (st := []) dX4_spelling_100 rfl (Or.inl ⟨_, rfl⟩) rfl ⟨rfl, rfl⟩
  · refine g_tableIn (off := 100) (q := 101) dX4_spelling_1 (by decide) (by decide) (by decide) (by decide) ?_
    refine g_ldcS (i := 11) (by decide) rfl rfl (q := 103) dX4_spelling_101 rfl ?_
    exact g_aret (st := []) dX4_spelling_103 rfl (Or.inl ⟨_, rfl⟩) rfl ⟨rfl, rfl⟩
  · refine g_tableIn (off := 103) (q := 104) dX4_spelling_1 (by decide) (by decide) (by decide) (by decide) ?_
    refine g_ldcS (i := 12) (by decide) rfl rfl (q := 106) dX4_spelling_104 rfl ?_
    exact g_aret (st := []) dX4_spelling_106 rfl (Or.inl ⟨_, rfl⟩) rfl ⟨rfl, rfl⟩
  · refine g_tableOut (q := 107) dX4_spelling_1 (by decide) (by decide) ?_
    refine g_ldcS (i := 13) (by decide) rfl rfl (q := 109) dX4_spelling_107 rfl ?_
    exact g_aret (st := []) dX4_spelling_109 rfl (Or.inl ⟨_, rfl⟩) rfl ⟨rfl, rfl⟩
set_option maxHeartbeats 2000000 in
set_option maxRecDepth 20000 in
theorem c_wordInHand {E : EN} {r0 e0 u0 na ub tl : Nat} {ln : Int32} {tx : Nat → Nat} {fo : Int32} {s e : Nat} (hse : s ≤ e) (he : e ≤ tl) (hl : tl ≤ 200) (htx : ∀ j, j < tl → tx j < 256)  : CT E yX4_wordInHand cX4_wordInHand 2 (some .int) 5 [.ref r0] [(r0, .inr (4, [.ref e0, .int (ln), .ref u0, .ref na, .int (fo), .int (nI (s)), .int (nI (e))])), (u0, .inr (8, [.int (nI (tl)), .ref ub])), (ub, .inl (E.2.1.2.1, 200, .inl (bA (tx))))] (xQ (some (.int (oI (wdC tx tl s e)))) [(r0, .inr (4, [.ref e0, .int (ln), .ref u0, .ref na, .int (fo), .int (nI (s)), .int (nI (e))])), (u0, .inr (8, [.int (nI (tl)), .ref ub])), (ub, .inl (E.2.1.2.1, 200, .inl (bA (tx))))]) := by
  refine ct_of (by decide +kernel) (Nat.le_of_ble_eq_true rfl) (lv := [(0, .ref r0)]) rfl (fun A => ?_)
  refine g_iconst (v := nI 0) (q := 1) dX4_wordInHand_0 rfl ki_0 ?_
  refine g_istore_n (lv' := [(0, _), (1, _)]) (q := 2) dX4_wordInHand_1 rfl rfl (Nat.le_of_ble_eq_true rfl) rfl ?_
  refine g_loopI (14) (fun i => fstN (fun w => !inH tx tl s e w) i = none) (fun i => [(r0, .inr (4, [.ref e0, .int (ln), .ref u0, .ref na, .int (fo), .int (nI (s)), .int (nI (e))])), (u0, .inr (8, [.int (nI (tl)), .ref ub])), (ub, .inl (E.2.1.2.1, 200, .inl (bA (tx))))]) (fun i => [(0, .ref r0), (1, .int (nI (i)))]) ?_ ?_ 0 (Nat.zero_le _) (rfl)
  · intro i hi2 hv2 ih2
    show G E _ [(r0, .inr (4, [.ref e0, .int (ln), .ref u0, .ref na, .int (fo), .int (nI (s)), .int (nI (e))])), (u0, .inr (8, [.int (nI (tl)), .ref ub])), (ub, .inl (E.2.1.2.1, 200, .inl (bA (tx))))] 2 [(0, .ref r0), (1, .int (nI (i)))] []
    refine g_iload_n (q := 3) dX4_wordInHand_2 rfl rfl rfl ?_
    refine g_bipush (v := nI 14) (q := 5) dX4_wordInHand_3 rfl kb_14 ?_
    refine g_icmp_geN (t := 27) (q := 8) dX4_wordInHand_5 (by decide) rfl (by omega) (by omega) (fun c5 => ?_) (fun c5 => ?_)
    · omega
    · skip
      refine g_aload_n (q := 9) dX4_wordInHand_8 rfl rfl rfl ?_
      refine g_iload_n (q := 10) dX4_wordInHand_9 rfl rfl rfl ?_
      refine gc_X4_136 (c_spelling (by omega)) rfl (Nat.le_of_ble_eq_true rfl) rfl [] rfl rfl (rest := [_]) rfl (Nat.le_of_ble_eq_true rfl) (q := 13) dX4_wordInHand_10 rfl (exK (ws' := [_, _, _]) (st' := [.ref (E.2.2.2.1 i), _]) rfl rfl ?_)
      refine gc_X4_140 (c_isInHand (by omega) hse he hl htx) rfl (Nat.le_of_ble_eq_true rfl) rfl 0 rfl [0, 1, 2] rfl rfl (rest := []) rfl (Nat.le_of_ble_eq_true rfl) (q := 16) dX4_wordInHand_13 rfl (exK (ws' := [_, _, _]) (st' := [.int (bI (inH tx tl s e i))]) rfl rfl ?_)
      refine g_if_eq (t := 21) (q := 19) dX4_wordInHand_16 (by decide) rfl (fun c16 => ?_) (fun c16 => ?_)
      · skip
        refine g_iinc (lv' := [(0, _), (1, _)]) (v := nI (i + 1)) (q := 24) dX4_wordInHand_21 rfl rfl (nI_inc _) (Nat.le_of_ble_eq_true rfl) rfl ?_
        refine g_goto (q := 2) dX4_wordInHand_24 (by decide) ?_
        exact ih2 (fstN_s hv2 (by rw [bI_eq0.mp c16]; rfl))
      · skip
        refine g_iload_n (q := 20) dX4_wordInHand_19 rfl rfl rfl ?_
        refine g_iret (st := []) dX4_wordInHand_20 rfl rfl rfl ?_
        exact xr (by unfold wdC; rw [fstN_hit hv2 (by rw [bI_ne0.mp c16]; rfl) (n := 14) (by omega)]; rfl)
  · intro hv2
    show G E _ [(r0, .inr (4, [.ref e0, .int (ln), .ref u0, .ref na, .int (fo), .int (nI (s)), .int (nI (e))])), (u0, .inr (8, [.int (nI (tl)), .ref ub])), (ub, .inl (E.2.1.2.1, 200, .inl (bA (tx))))] 2 [(0, .ref r0), (1, .int (nI (14)))] []
    refine g_iload_n (q := 3) dX4_wordInHand_2 rfl rfl rfl ?_
    refine g_bipush (v := nI 14) (q := 5) dX4_wordInHand_3 rfl kb_14 ?_
    refine g_icmp_geN (t := 27) (q := 8) dX4_wordInHand_5 (by decide) rfl (by omega) (by omega) (fun c5 => ?_) (fun c5 => ?_)
    · skip
      refine g_iconst (v := (-1)) (q := 28) dX4_wordInHand_27 rfl ki_m1 ?_
      refine g_iret (st := []) dX4_wordInHand_28 rfl rfl rfl ?_
      exact xr (by unfold wdC; rw [hv2]; rfl)
    · omega
set_option maxHeartbeats 2000000 in
set_option maxRecDepth 20000 in
theorem c_readNumber {E : EN} {r0 e0 u0 na ub tl : Nat} {ln : Int32} {tx : Nat → Nat} {fo sa : Int32} {e s lo hi : Nat} {nu : Nat → Nat} (he : e ≤ tl) (hs : s < 4) (hlo : lo < 1000) (hhi : hi < 1000) (hl : tl ≤ 200) (htx : ∀ j, j < tl → tx j < 256)  : CT E yX4_readNumber cX4_readNumber 6 (some .boolean) 2 [.ref r0, .int (nI (s)), .int (nI (lo)), .int (nI (hi))] [(r0, .inr (4, [.ref e0, .int (ln), .ref u0, .ref na, .int (fo), .int (sa), .int (nI (e))])), (u0, .inr (8, [.int (nI (tl)), .ref ub])), (ub, .inl (E.2.1.2.1, 200, .inl (bA (tx)))), (na, .inl (E.2.1.1, 4, .inl (nA (nu))))] (fun r w => (numB tx tl e lo hi = true ∧ xQ (some (.int (nI 1))) [(r0, .inr (4, [.ref e0, .int (ln), .ref u0, .ref na, .int (nI (fmA tx tl (tsk tx tl e))), .int (nI (tsk tx tl e)), .int (nI (ten tx tl (tsk tx tl e)))])), (u0, .inr (8, [.int (nI (tl)), .ref ub])), (ub, .inl (E.2.1.2.1, 200, .inl (bA (tx)))), (na, .inl (E.2.1.1, 4, .inl (nA (updn nu s (nvl tx tl (tsk tx tl e))))))] r w) ∨ ∃ (nu' : Nat → Nat), numB tx tl e lo hi = false ∧ xQ (some (.int (nI 0))) [(r0, .inr (4, [.ref e0, .int (ln), .ref u0, .ref na, .int (nI (fmA tx tl (tsk tx tl e))), .int (nI (tsk tx tl e)), .int (nI (ten tx tl (tsk tx tl e)))])), (u0, .inr (8, [.int (nI (tl)), .ref ub])), (ub, .inl (E.2.1.2.1, 200, .inl (bA (tx)))), (na, .inl (E.2.1.1, 4, .inl (nA (nu'))))] r w) := by
  refine ct_of (by decide +kernel) (Nat.le_of_ble_eq_true rfl) (lv := [(0, .ref r0), (1, .int (nI (s))), (2, .int (nI (lo))), (3, .int (nI (hi)))]) rfl (fun A => ?_)
  refine g_aload_n (q := 1) dX4_readNumber_0 rfl rfl rfl ?_
  have hsl := tsk_le (tx := tx) he
  have hfl := fmA_le (tx := tx) (tl := tl) (tsk tx tl e)
  refine gc_X4_37 (c_takeToken he hl htx) rfl (Nat.le_of_ble_eq_true rfl) rfl 0 rfl [0, 1, 2] rfl rfl (rest := []) rfl (Nat.le_of_ble_eq_true rfl) (q := 4) dX4_readNumber_1 rfl (exK (ws' := [(_, .inr (_, [_, _, _, _, _, _, _])), (_, .inr (_, [_, _])), (_, .inl (_, _, .inl _)), _]) (st' := []) rfl rfl ?_)
  refine g_aload_n (q := 5) dX4_readNumber_4 rfl rfl rfl ?_
  refine gf_X4_47 rfl 0 rfl rfl (q := 8) dX4_readNumber_5 rfl ?_
  refine g_iconst (v := nI 3) (q := 9) dX4_readNumber_8 rfl ki_3 ?_
  refine g_icmp_neN (t := 25) (q := 12) dX4_readNumber_9 (by decide) rfl (by omega) (by omega) (fun c9 => ?_) (fun c9 => ?_)
  · skip
    refine g_iconst (v := nI 0) (q := 26) dX4_readNumber_25 rfl ki_0 ?_
    refine g_iret (st := []) dX4_readNumber_26 rfl (narZ (by first | exact Or.inl rfl | exact Or.inr rfl)) rfl ?_
    exact Or.inr ⟨nu, decide_eq_false (fun z => c9 z.1), ⟨rfl, rfl⟩⟩
  · skip
    refine g_eq (ws' := [(r0, .inr (4, [.ref e0, .int (ln), .ref u0, .ref na, .int (nI (fmA tx tl (tsk tx tl e))), .int (nI (tsk tx tl e)), .int (nI (tsk tx tl e + cnt tx tl 3 (tsk tx tl e)))])), (u0, .inr (8, [.int (nI (tl)), .ref ub])), (ub, .inl (E.2.1.2.1, 200, .inl (bA (tx)))), (na, .inl (E.2.1.1, 4, .inl (nA (nu))))]) ?_ (by rw [ten_3 c9]) rfl rfl
    have hcl := cnt_le (tx := tx) (k := 3) (by decide) hsl
    refine g_aload_n (q := 13) dX4_readNumber_12 rfl rfl rfl ?_
    refine gf_X4_30 rfl 0 rfl rfl (q := 16) dX4_readNumber_13 rfl ?_
    refine g_aload_n (q := 17) dX4_readNumber_16 rfl rfl rfl ?_
    refine gf_X4_44 rfl 0 rfl rfl (q := 20) dX4_readNumber_17 rfl ?_
    refine g_isubN (q := 21) dX4_readNumber_20 rfl (by omega) ?_
    refine g_top (y := nI (cnt tx tl 3 (tsk tx tl e))) (congrArg nI (by omega)) ?_
    refine g_iconst (v := nI 3) (q := 22) dX4_readNumber_21 rfl ki_3 ?_
    refine g_icmp_leN (t := 27) (q := 25) dX4_readNumber_22 (by decide) rfl (by omega) (by omega) (fun c22 => ?_) (fun c22 => ?_)
    · skip
      refine g_iconst (v := nI 0) (q := 28) dX4_readNumber_27 rfl ki_0 ?_
      refine g_istore (lv' := [(0, _), (1, _), (2, _), (3, _), (4, _)]) (q := 30) dX4_readNumber_28 rfl (Nat.le_of_ble_eq_true rfl) rfl ?_
      refine g_aload_n (q := 31) dX4_readNumber_30 rfl rfl rfl ?_
      refine gf_X4_44 rfl 0 rfl rfl (q := 34) dX4_readNumber_31 rfl ?_
      refine g_istore (lv' := [(0, _), (1, _), (2, _), (3, _), (4, _), (5, _)]) (q := 36) dX4_readNumber_34 rfl (Nat.le_of_ble_eq_true rfl) rfl ?_
      refine g_eq (lv' := [(0, .ref r0), (1, .int (nI (s))), (2, .int (nI (lo))), (3, .int (nI (hi))), (4, .int (nI (dgN (sh tx (tsk tx tl e)) 0))), (5, .int (nI (tsk tx tl e + 0)))]) ?_ rfl rfl rfl
      refine g_loop (cnt tx tl 3 (tsk tx tl e)) (fun i => [(r0, .inr (4, [.ref e0, .int (ln), .ref u0, .ref na, .int (nI (fmA tx tl (tsk tx tl e))), .int (nI (tsk tx tl e)), .int (nI (tsk tx tl e + cnt tx tl 3 (tsk tx tl e)))])), (u0, .inr (8, [.int (nI (tl)), .ref ub])), (ub, .inl (E.2.1.2.1, 200, .inl (bA (tx)))), (na, .inl (E.2.1.1, 4, .inl (nA (nu))))]) (fun i => [(0, .ref r0), (1, .int (nI (s))), (2, .int (nI (lo))), (3, .int (nI (hi))), (4, .int (nI (dgN (sh tx (tsk tx tl e)) i))), (5, .int (nI (tsk tx tl e + i)))]) ?_ ?_ 0 (Nat.zero_le _)
      · intro i hi36 ih36
        have hdi := dig_in hi36
        show G E _ [(r0, .inr (4, [.ref e0, .int (ln), .ref u0, .ref na, .int (nI (fmA tx tl (tsk tx tl e))), .int (nI (tsk tx tl e)), .int (nI (tsk tx tl e + cnt tx tl 3 (tsk tx tl e)))])), (u0, .inr (8, [.int (nI (tl)), .ref ub])), (ub, .inl (E.2.1.2.1, 200, .inl (bA (tx)))), (na, .inl (E.2.1.1, 4, .inl (nA (nu))))] 36 [(0, .ref r0), (1, .int (nI (s))), (2, .int (nI (lo))), (3, .int (nI (hi))), (4, .int (nI (dgN (sh tx (tsk tx tl e)) i))), (5, .int (nI (tsk tx tl e + i)))] []
        refine g_iload (q := 38) dX4_readNumber_36 rfl rfl ?_
        refine g_aload_n (q := 39) dX4_readNumber_38 rfl rfl rfl ?_
        refine gf_X4_30 rfl 0 rfl rfl (q := 42) dX4_readNumber_39 rfl ?_
        refine g_icmp_geN (t := 71) (q := 45) dX4_readNumber_42 (by decide) rfl (by omega) (by omega) (fun c42 => ?_) (fun c42 => ?_)
        · omega
        · skip
          refine g_iload (q := 47) dX4_readNumber_45 rfl rfl ?_
          refine g_bipush (v := nI 10) (q := 49) dX4_readNumber_47 rfl kb_10 ?_
          refine g_imulN (q := 50) dX4_readNumber_49 rfl ?_
          refine g_aload_n (q := 51) dX4_readNumber_50 rfl rfl rfl ?_
          refine gf_X4_22 rfl 0 rfl rfl (q := 54) dX4_readNumber_51 rfl ?_
          refine g_iload (q := 56) dX4_readNumber_54 rfl rfl ?_
          refine gc_X4_50 (c_signAt hl (by omega) htx) rfl (Nat.le_of_ble_eq_true rfl) rfl 1 rfl [1, 2] rfl rfl (rest := [_]) rfl (Nat.le_of_ble_eq_true rfl) (q := 59) dX4_readNumber_56 rfl (exK (ws' := [_, _, _, _]) (st' := [.int (sgn tx tl (tsk tx tl e + i)), _]) rfl rfl ?_)
          refine g_top (y := nI (sh tx (tsk tx tl e) i)) (if_pos hdi.1) ?_
          refine g_iaddN (q := 60) dX4_readNumber_59 rfl ?_
          refine g_bipush (v := nI 48) (q := 62) dX4_readNumber_60 rfl kb_48 ?_
          refine g_isubN (q := 63) dX4_readNumber_62 rfl (by omega) ?_
          refine g_istore (lv' := [(0, _), (1, _), (2, _), (3, _), (4, _), (5, _)]) (q := 65) dX4_readNumber_63 rfl (Nat.le_of_ble_eq_true rfl) rfl ?_
          refine g_iinc (lv' := [(0, _), (1, _), (2, _), (3, _), (4, _), (5, _)]) (v := nI (tsk tx tl e + i + 1)) (q := 68) dX4_readNumber_65 rfl rfl (nI_inc _) (Nat.le_of_ble_eq_true rfl) rfl ?_
          refine g_goto (q := 36) dX4_readNumber_68 (by decide) ?_
          rw [dgN, show dgN (sh tx (tsk tx tl e)) i * 10 + (sh tx (tsk tx tl e) i - 48) = (dgN (sh tx (tsk tx tl e)) i * 10 + sh tx (tsk tx tl e) i) - 48 by omega] at ih36
          exact ih36
      · skip
        show G E _ [(r0, .inr (4, [.ref e0, .int (ln), .ref u0, .ref na, .int (nI (fmA tx tl (tsk tx tl e))), .int (nI (tsk tx tl e)), .int (nI (tsk tx tl e + cnt tx tl 3 (tsk tx tl e)))])), (u0, .inr (8, [.int (nI (tl)), .ref ub])), (ub, .inl (E.2.1.2.1, 200, .inl (bA (tx)))), (na, .inl (E.2.1.1, 4, .inl (nA (nu))))] 36 [(0, .ref r0), (1, .int (nI (s))), (2, .int (nI (lo))), (3, .int (nI (hi))), (4, .int (nI (dgN (sh tx (tsk tx tl e)) (cnt tx tl 3 (tsk tx tl e))))), (5, .int (nI (tsk tx tl e + (cnt tx tl 3 (tsk tx tl e)))))] []
        have hnv := nvl_lt c22
        refine g_iload (q := 38) dX4_readNumber_36 rfl rfl ?_
        refine g_aload_n (q := 39) dX4_readNumber_38 rfl rfl rfl ?_
        refine gf_X4_30 rfl 0 rfl rfl (q := 42) dX4_readNumber_39 rfl ?_
        refine g_icmp_geN (t := 71) (q := 45) dX4_readNumber_42 (by decide) rfl (by omega) (by omega) (fun c42 => ?_) (fun c42 => ?_)
        · skip
          refine g_eq (lv' := [(0, .ref r0), (1, .int (nI (s))), (2, .int (nI (lo))), (3, .int (nI (hi))), (4, .int (nI (nvl tx tl (tsk tx tl e)))), (5, .int (nI (tsk tx tl e + cnt tx tl 3 (tsk tx tl e))))]) ?_ rfl rfl rfl
          refine g_aload_n (q := 72) dX4_readNumber_71 rfl rfl rfl ?_
          refine gf_X4_18 rfl 0 rfl rfl (q := 75) dX4_readNumber_72 rfl ?_
          refine g_iload_n (q := 76) dX4_readNumber_75 rfl rfl rfl ?_
          refine g_iload (q := 78) dX4_readNumber_76 rfl rfl ?_
          refine g_iast (f' := (nA (updn nu s (nvl tx tl (tsk tx tl e))))) 3 rfl (ixIn (j := s) rfl (by omega) (by decide)) (ixUn (j := s) rfl (by omega)) (ws' := [_, _, _, (_, .inl (_, _, .inl _))]) rfl (q := 79) dX4_readNumber_78 rfl ?_
          refine g_iload (q := 81) dX4_readNumber_79 rfl rfl ?_
          refine g_iload_n (q := 82) dX4_readNumber_81 rfl rfl rfl ?_
          refine g_icmp_ltN (t := 95) (q := 85) dX4_readNumber_82 (by decide) rfl (by omega) (by omega) (fun c82 => ?_) (fun c82 => ?_)
          · skip
            refine g_iconst (v := nI 0) (q := 96) dX4_readNumber_95 rfl ki_0 ?_
            refine g_iret (st := []) dX4_readNumber_96 rfl (narZ (by first | exact Or.inl rfl | exact Or.inr rfl)) rfl ?_
            exact Or.inr ⟨_, decide_eq_false (fun z => absurd z.2.2.1 (by omega)), xr rfl (by rw [ten_3 c9])⟩
          · skip
            refine g_iload (q := 87) dX4_readNumber_85 rfl rfl ?_
            refine g_iload_n (q := 88) dX4_readNumber_87 rfl rfl rfl ?_
            refine g_icmp_gtN (t := 95) (q := 91) dX4_readNumber_88 (by decide) rfl (by omega) (by omega) (fun c88 => ?_) (fun c88 => ?_)
            · skip
              refine g_iconst (v := nI 0) (q := 96) dX4_readNumber_95 rfl ki_0 ?_
              refine g_iret (st := []) dX4_readNumber_96 rfl (narZ (by first | exact Or.inl rfl | exact Or.inr rfl)) rfl ?_
              exact Or.inr ⟨_, decide_eq_false (fun z => absurd z.2.2.2 (by omega)), xr rfl (by rw [ten_3 c9])⟩
            · skip
              refine g_iconst (v := nI 1) (q := 92) dX4_readNumber_91 rfl ki_1 ?_
              refine g_goto (q := 96) dX4_readNumber_92 (by decide) ?_
              refine g_iret (st := []) dX4_readNumber_96 rfl (narZ (by first | exact Or.inl rfl | exact Or.inr rfl)) rfl ?_
              exact Or.inl ⟨decide_eq_true ⟨c9, c22, by omega, by omega⟩, xr rfl (by rw [ten_3 c9])⟩
        · omega
    · skip
      refine g_iconst (v := nI 0) (q := 26) dX4_readNumber_25 rfl ki_0 ?_
      refine g_iret (st := []) dX4_readNumber_26 rfl (narZ (by first | exact Or.inl rfl | exact Or.inr rfl)) rfl ?_
      exact Or.inr ⟨nu, decide_eq_false (fun z => absurd z.2.1 (by omega)), xr rfl (by rw [ten_3 c9])⟩
