set_option maxHeartbeats 2000000 in
set_option maxRecDepth 20000 in
theorem c_bitCount {E : EN} {s : Nat} (hs : s < 1024)  : CT E yJ6_bitCount_0f7a4 cJ6_bitCount_0f7a4 1 (some .int) 0 [.int (nI (s))] [] (xQ (some (.int (nI (popc s)))) []) := by
  refine ct_of (by decide +kernel) (Nat.le_of_ble_eq_true rfl) (lv := [(0, .int (nI (s)))]) rfl (fun A => ?_)
  refine g_iload_n (q := 1) dJ6_bitCount_0f7a4_0 rfl rfl rfl ?_
  refine g_iload_n (q := 2) dJ6_bitCount_0f7a4_1 rfl rfl rfl ?_
  refine g_iconst (v := nI 1) (q := 3) dJ6_bitCount_0f7a4_2 rfl ki_1 ?_
  refine g_iushr (q := 4) dJ6_bitCount_0f7a4_3 rfl ?_
  refine g_ldcw (v := nI 1431655765) rfl mkJ6_265 (q := 7) dJ6_bitCount_0f7a4_4 rfl ?_
  refine g_iand (q := 8) dJ6_bitCount_0f7a4_7 rfl ?_
  refine g_isub (q := 9) dJ6_bitCount_0f7a4_8 rfl ?_
  refine g_istore_n (lv' := [(0, _)]) (q := 10) dJ6_bitCount_0f7a4_9 rfl rfl (Nat.le_of_ble_eq_true rfl) rfl ?_
  refine g_iload_n (q := 11) dJ6_bitCount_0f7a4_10 rfl rfl rfl ?_
  refine g_ldcw (v := nI 858993459) rfl mkJ6_266 (q := 14) dJ6_bitCount_0f7a4_11 rfl ?_
  refine g_iand (q := 15) dJ6_bitCount_0f7a4_14 rfl ?_
  refine g_iload_n (q := 16) dJ6_bitCount_0f7a4_15 rfl rfl rfl ?_
  refine g_iconst (v := nI 2) (q := 17) dJ6_bitCount_0f7a4_16 rfl ki_2 ?_
  refine g_iushr (q := 18) dJ6_bitCount_0f7a4_17 rfl ?_
  refine g_ldcw (v := nI 858993459) rfl mkJ6_266 (q := 21) dJ6_bitCount_0f7a4_18 rfl ?_
  refine g_iand (q := 22) dJ6_bitCount_0f7a4_21 rfl ?_
  refine g_iadd (q := 23) dJ6_bitCount_0f7a4_22 rfl ?_
  refine g_istore_n (lv' := [(0, _)]) (q := 24) dJ6_bitCount_0f7a4_23 rfl rfl (Nat.le_of_ble_eq_true rfl) rfl ?_
  refine g_iload_n (q := 25) dJ6_bitCount_0f7a4_24 rfl rfl rfl ?_
  refine g_iload_n (q := 26) dJ6_bitCount_0f7a4_25 rfl rfl rfl ?_
  refine g_iconst (v := nI 4) (q := 27) dJ6_bitCount_0f7a4_26 rfl ki_4 ?_
  refine g_iushr (q := 28) dJ6_bitCount_0f7a4_27 rfl ?_
  refine g_iadd (q := 29) dJ6_bitCount_0f7a4_28 rfl ?_
  refine g_ldcw (v := nI 252645135) rfl mkJ6_267 (q := 32) dJ6_bitCount_0f7a4_29 rfl ?_
  refine g_iand (q := 33) dJ6_bitCount_0f7a4_32 rfl ?_
  refine g_istore_n (lv' := [(0, _)]) (q := 34) dJ6_bitCount_0f7a4_33 rfl rfl (Nat.le_of_ble_eq_true rfl) rfl ?_
  refine g_iload_n (q := 35) dJ6_bitCount_0f7a4_34 rfl rfl rfl ?_
  refine g_iload_n (q := 36) dJ6_bitCount_0f7a4_35 rfl rfl rfl ?_
  refine g_bipush (v := nI 8) (q := 38) dJ6_bitCount_0f7a4_36 rfl kb_8 ?_
  refine g_iushr (q := 39) dJ6_bitCount_0f7a4_38 rfl ?_
  refine g_iadd (q := 40) dJ6_bitCount_0f7a4_39 rfl ?_
  refine g_istore_n (lv' := [(0, _)]) (q := 41) dJ6_bitCount_0f7a4_40 rfl rfl (Nat.le_of_ble_eq_true rfl) rfl ?_
  refine g_iload_n (q := 42) dJ6_bitCount_0f7a4_41 rfl rfl rfl ?_
  refine g_iload_n (q := 43) dJ6_bitCount_0f7a4_42 rfl rfl rfl ?_
  refine g_bipush (v := nI 16) (q := 45) dJ6_bitCount_0f7a4_43 rfl kb_16 ?_
  refine g_iushr (q := 46) dJ6_bitCount_0f7a4_45 rfl ?_
  refine g_iadd (q := 47) dJ6_bitCount_0f7a4_46 rfl ?_
  refine g_istore_n (lv' := [(0, _)]) (q := 48) dJ6_bitCount_0f7a4_47 rfl rfl (Nat.le_of_ble_eq_true rfl) rfl ?_
  refine g_iload_n (q := 49) dJ6_bitCount_0f7a4_48 rfl rfl rfl ?_
  refine g_bipush (v := nI 63) (q := 51) dJ6_bitCount_0f7a4_49 rfl kb_63 ?_
  refine g_iand (q := 52) dJ6_bitCount_0f7a4_51 rfl ?_
  refine g_iret (st := []) dJ6_bitCount_0f7a4_52 rfl rfl rfl ?_
  exact (xr (bcI s hs _ _ _ _ _ rfl rfl rfl rfl rfl))
set_option maxHeartbeats 2000000 in
set_option maxRecDepth 20000 in
theorem c_fittingBoys {E : EN} {d0 d1 d2 d3 d4 dn : Nat} {f0 fk ft fw fs fg fc nb : Nat} {yr : Int32} {sk wt dw dc : Nat → Nat} {i : Nat} (hi : i < 6) (hnb : nb ≤ 10) (hdw : ∀ j, j < 6 → dw j < 1000) (hdc : ∀ j, j < 6 → dc j < 1000) (hwt : ∀ j, j < 10 → wt j < 100) (hsk : ∀ j, j < 10 → sk j < 4)  : CT E yX6_fittingBoys cX6_fittingBoys 5 (some .int) 1 [.ref d0, .int (nI (i)), .ref f0] [(d0, .inr (6, [.int (nI (dn)), .ref d1, .ref d2, .ref d3, .ref d4])), (d1, .inl (E.2.1.1, 6, .inl (nA (dw)))), (d2, .inl (E.2.1.1, 6, .inl (nA (dc)))), (f0, .inr (2, [.int (nI (nb)), .int (yr), .ref fk, .ref ft, .ref fw, .ref fs, .ref fg, .ref fc])), (fw, .inl (E.2.1.1, 10, .inl (nA (wt)))), (fs, .inl (E.2.1.1, 10, .inl (nA (sk))))] (xQ (some (.int (bitsI (fitB sk wt dw dc i) nb))) [(d0, .inr (6, [.int (nI (dn)), .ref d1, .ref d2, .ref d3, .ref d4])), (d1, .inl (E.2.1.1, 6, .inl (nA (dw)))), (d2, .inl (E.2.1.1, 6, .inl (nA (dc)))), (f0, .inr (2, [.int (nI (nb)), .int (yr), .ref fk, .ref ft, .ref fw, .ref fs, .ref fg, .ref fc])), (fw, .inl (E.2.1.1, 10, .inl (nA (wt)))), (fs, .inl (E.2.1.1, 10, .inl (nA (sk))))]) := by
  refine ct_of (by decide +kernel) (Nat.le_of_ble_eq_true rfl) (lv := [(0, .ref d0), (1, .int (nI (i))), (2, .ref f0)]) rfl (fun A => ?_)
  refine g_iconst (v := nI 0) (q := 1) dX6_fittingBoys_0 rfl ki_0 ?_
  refine g_istore_n (lv' := [(0, _), (1, _), (2, _), (3, _)]) (q := 2) dX6_fittingBoys_1 rfl rfl (Nat.le_of_ble_eq_true rfl) rfl ?_
  refine g_iconst (v := nI 0) (q := 3) dX6_fittingBoys_2 rfl ki_0 ?_
  refine g_istore (lv' := [(0, _), (1, _), (2, _), (3, _), (4, _)]) (q := 5) dX6_fittingBoys_3 rfl (Nat.le_of_ble_eq_true rfl) rfl ?_
  refine g_loop (nb) (fun b => [(d0, .inr (6, [.int (nI (dn)), .ref d1, .ref d2, .ref d3, .ref d4])), (d1, .inl (E.2.1.1, 6, .inl (nA (dw)))), (d2, .inl (E.2.1.1, 6, .inl (nA (dc)))), (f0, .inr (2, [.int (nI (nb)), .int (yr), .ref fk, .ref ft, .ref fw, .ref fs, .ref fg, .ref fc])), (fw, .inl (E.2.1.1, 10, .inl (nA (wt)))), (fs, .inl (E.2.1.1, 10, .inl (nA (sk))))]) (fun b => [(0, .ref d0), (1, .int (nI (i))), (2, .ref f0), (3, .int (bitsI (fitB sk wt dw dc i) b)), (4, .int (nI (b)))]) ?_ ?_ 0 (Nat.zero_le _)
  · intro b hb5 ih5
    show G E _ [(d0, .inr (6, [.int (nI (dn)), .ref d1, .ref d2, .ref d3, .ref d4])), (d1, .inl (E.2.1.1, 6, .inl (nA (dw)))), (d2, .inl (E.2.1.1, 6, .inl (nA (dc)))), (f0, .inr (2, [.int (nI (nb)), .int (yr), .ref fk, .ref ft, .ref fw, .ref fs, .ref fg, .ref fc])), (fw, .inl (E.2.1.1, 10, .inl (nA (wt)))), (fs, .inl (E.2.1.1, 10, .inl (nA (sk))))] 5 [(0, .ref d0), (1, .int (nI (i))), (2, .ref f0), (3, .int (bitsI (fitB sk wt dw dc i) b)), (4, .int (nI (b)))] []
    refine g_iload (q := 7) dX6_fittingBoys_5 rfl rfl ?_
    refine g_aload_n (q := 8) dX6_fittingBoys_7 rfl rfl rfl ?_
    refine gf_X6_32 rfl 3 rfl rfl (q := 11) dX6_fittingBoys_8 rfl ?_
    refine g_icmp_geN (t := 64) (q := 14) dX6_fittingBoys_11 (by decide) rfl (by omega) (by omega) (fun c11 => ?_) (fun c11 => ?_)
    · omega
    · skip
      refine g_aload_n (q := 15) dX6_fittingBoys_14 rfl rfl rfl ?_
      refine gf_X6_51 rfl 3 rfl rfl (q := 18) dX6_fittingBoys_15 rfl ?_
      refine g_iload (q := 20) dX6_fittingBoys_18 rfl rfl ?_
      have hb1 := hsk (b) (by omega)
      refine g_iald (v := nI (sk b)) 5 rfl (ixIn (j := b) rfl (by omega) (by decide)) (ixV (j := b) rfl (by omega)) (q := 21) dX6_fittingBoys_20 rfl ?_
      refine g_aload_n (q := 22) dX6_fittingBoys_21 rfl rfl rfl ?_
      refine gf_X6_15 rfl 0 rfl rfl (q := 25) dX6_fittingBoys_22 rfl ?_
      refine g_iload_n (q := 26) dX6_fittingBoys_25 rfl rfl rfl ?_
      have hb2 := hdc (i) (by omega)
      refine g_iald (v := nI (dc i)) 2 rfl (ixIn (j := i) rfl (by omega) (by decide)) (ixV (j := i) rfl (by omega)) (q := 27) dX6_fittingBoys_26 rfl ?_
      refine g_icmp_neN (t := 58) (q := 30) dX6_fittingBoys_27 (by decide) rfl (by omega) (by omega) (fun c27 => ?_) (fun c27 => ?_)
      · skip
        refine g_iinc (lv' := [(0, _), (1, _), (2, _), (3, _), (4, _)]) (v := nI (b + 1)) (q := 61) dX6_fittingBoys_58 rfl rfl (nI_inc _) (Nat.le_of_ble_eq_true rfl) rfl ?_
        refine g_goto (q := 5) dX6_fittingBoys_61 (by decide) ?_
        rw [bits_f (c := (fitB sk wt dw dc i)) (decide_eq_false (fun z => c27 z.1))] at ih5
        exact ih5
      · skip
        refine g_aload_n (q := 31) dX6_fittingBoys_30 rfl rfl rfl ?_
        refine gf_X6_52 rfl 3 rfl rfl (q := 34) dX6_fittingBoys_31 rfl ?_
        refine g_iload (q := 36) dX6_fittingBoys_34 rfl rfl ?_
        have hb3 := hwt (b) (by omega)
        refine g_iald (v := nI (wt b)) 4 rfl (ixIn (j := b) rfl (by omega) (by decide)) (ixV (j := b) rfl (by omega)) (q := 37) dX6_fittingBoys_36 rfl ?_
        refine g_aload_n (q := 38) dX6_fittingBoys_37 rfl rfl rfl ?_
        refine gf_X6_9 rfl 0 rfl rfl (q := 41) dX6_fittingBoys_38 rfl ?_
        refine g_iload_n (q := 42) dX6_fittingBoys_41 rfl rfl rfl ?_
        have hb4 := hdw (i) (by omega)
        refine g_iald (v := nI (dw i)) 1 rfl (ixIn (j := i) rfl (by omega) (by decide)) (ixV (j := i) rfl (by omega)) (q := 43) dX6_fittingBoys_42 rfl ?_
        refine g_isub (q := 44) dX6_fittingBoys_43 rfl ?_
        refine g_mabs rfl ml_X6_53 mt_mabs mi_J9 mc_mabs (Nat.le_of_ble_eq_true rfl) (Nat.le_of_ble_eq_true rfl) (q := 47) dX6_fittingBoys_44 rfl ?_
        refine g_iconst (v := nI 1) (q := 48) dX6_fittingBoys_47 rfl ki_1 ?_
        refine g_icmp_gt (t := 58) (q := 51) dX6_fittingBoys_48 (by decide) rfl (fun c48 => ?_) (fun c48 => ?_)
        · skip
          refine g_iinc (lv' := [(0, _), (1, _), (2, _), (3, _), (4, _)]) (v := nI (b + 1)) (q := 61) dX6_fittingBoys_58 rfl rfl (nI_inc _) (Nat.le_of_ble_eq_true rfl) rfl ?_
          refine g_goto (q := 5) dX6_fittingBoys_61 (by decide) ?_
          rw [bits_f (c := (fitB sk wt dw dc i)) (decide_eq_false (fun z => Int32.not_le.mpr c48 ((abs1 (by omega) (by omega)).mpr z.2)))] at ih5
          exact ih5
        · skip
          refine g_iload_n (q := 52) dX6_fittingBoys_51 rfl rfl rfl ?_
          refine g_iconst (v := nI 1) (q := 53) dX6_fittingBoys_52 rfl ki_1 ?_
          refine g_iload (q := 55) dX6_fittingBoys_53 rfl rfl ?_
          refine g_ishl (q := 56) dX6_fittingBoys_55 rfl ?_
          refine g_ior (q := 57) dX6_fittingBoys_56 rfl ?_
          refine g_istore_n (lv' := [(0, _), (1, _), (2, _), (3, _), (4, _)]) (q := 58) dX6_fittingBoys_57 rfl rfl (Nat.le_of_ble_eq_true rfl) rfl ?_
          refine g_iinc (lv' := [(0, _), (1, _), (2, _), (3, _), (4, _)]) (v := nI (b + 1)) (q := 61) dX6_fittingBoys_58 rfl rfl (nI_inc _) (Nat.le_of_ble_eq_true rfl) rfl ?_
          refine g_goto (q := 5) dX6_fittingBoys_61 (by decide) ?_
          rw [bits_t (c := (fitB sk wt dw dc i)) (decide_eq_true ⟨c27, (abs1 (by omega) (by omega)).mp (Int32.not_lt.mp c48)⟩)] at ih5
          exact ih5
  · skip
    show G E _ [(d0, .inr (6, [.int (nI (dn)), .ref d1, .ref d2, .ref d3, .ref d4])), (d1, .inl (E.2.1.1, 6, .inl (nA (dw)))), (d2, .inl (E.2.1.1, 6, .inl (nA (dc)))), (f0, .inr (2, [.int (nI (nb)), .int (yr), .ref fk, .ref ft, .ref fw, .ref fs, .ref fg, .ref fc])), (fw, .inl (E.2.1.1, 10, .inl (nA (wt)))), (fs, .inl (E.2.1.1, 10, .inl (nA (sk))))] 5 [(0, .ref d0), (1, .int (nI (i))), (2, .ref f0), (3, .int (bitsI (fitB sk wt dw dc i) nb)), (4, .int (nI (nb)))] []
    refine g_iload (q := 7) dX6_fittingBoys_5 rfl rfl ?_
    refine g_aload_n (q := 8) dX6_fittingBoys_7 rfl rfl rfl ?_
    refine gf_X6_32 rfl 3 rfl rfl (q := 11) dX6_fittingBoys_8 rfl ?_
    refine g_icmp_geN (t := 64) (q := 14) dX6_fittingBoys_11 (by decide) rfl (by omega) (by omega) (fun c11 => ?_) (fun c11 => ?_)
    · skip
      refine g_iload_n (q := 65) dX6_fittingBoys_64 rfl rfl rfl ?_
      refine g_iret (st := []) dX6_fittingBoys_65 rfl rfl rfl ?_
      exact (xr rfl)
    · omega
set_option maxHeartbeats 2000000 in
set_option maxRecDepth 20000 in
theorem c_rowsOf {E : EN} {d0 d1 d2 d3 d4 dn : Nat} {fq : Nat → Int32} {T : Nat → Nat} {c : Nat → Bool} {s nb : Nat} (hs : s < 1024) (hnb : nb ≤ 10) (h1 : 1 ≤ popc s) (h6 : popc s ≤ 6) (hf : fq (popc s - 1) = bitsI c nb)  : CT E yX6_rowsOf cX6_rowsOf 6 (some .int) 1 [.ref d0, .int (nI (s)), .int (nI (nb))] [(d0, .inr (6, [.int (nI (dn)), .ref d1, .ref d2, .ref d3, .ref d4])), (d3, .inl (E.2.1.1, 6, .inl (fq))), (d4, .inl (E.2.1.1, 1024, .inl (nA (T))))] (xQ (some (.int (nI (rsum T c s nb)))) [(d0, .inr (6, [.int (nI (dn)), .ref d1, .ref d2, .ref d3, .ref d4])), (d3, .inl (E.2.1.1, 6, .inl (fq))), (d4, .inl (E.2.1.1, 1024, .inl (nA (T))))]) := by
  refine ct_of (by decide +kernel) (Nat.le_of_ble_eq_true rfl) (lv := [(0, .ref d0), (1, .int (nI (s))), (2, .int (nI (nb)))]) rfl (fun A => ?_)
  refine g_iload_n (q := 1) dX6_rowsOf_0 rfl rfl rfl ?_
  refine g_aload_n (q := 2) dX6_rowsOf_1 rfl rfl rfl ?_
  refine gf_X6_18 rfl 0 rfl rfl (q := 5) dX6_rowsOf_2 rfl ?_
  refine g_iload_n (q := 6) dX6_rowsOf_5 rfl rfl rfl ?_
  refine gc_X6_37 (c_bitCount (by omega)) rfl (Nat.le_of_ble_eq_true rfl) rfl [] rfl rfl (rest := [_, _]) rfl (Nat.le_of_ble_eq_true rfl) (q := 9) dX6_rowsOf_6 rfl (exK (ws' := [_, _, _]) (st' := [.int (nI (popc s)), _, _]) rfl rfl ?_)
  refine g_iconst (v := nI 1) (q := 10) dX6_rowsOf_9 rfl ki_1 ?_
  refine g_isubN (q := 11) dX6_rowsOf_10 rfl (by omega) ?_
  refine g_iald (v := fq ((popc s) - 1)) 1 rfl (ixIn (j := (popc s) - 1) rfl (by omega) (by decide)) (ixV (j := (popc s) - 1) rfl (by omega)) (q := 12) dX6_rowsOf_11 rfl ?_
  refine g_iand (q := 13) dX6_rowsOf_12 rfl ?_
  refine g_top (y := nI (s) &&& bitsI c nb) (by rw [hf]) ?_
  refine g_istore_n (lv' := [(0, _), (1, _), (2, _), (3, _)]) (q := 14) dX6_rowsOf_13 rfl rfl (Nat.le_of_ble_eq_true rfl) rfl ?_
  refine g_iconst (v := nI 0) (q := 15) dX6_rowsOf_14 rfl ki_0 ?_
  refine g_istore (lv' := [(0, _), (1, _), (2, _), (3, _), (4, _)]) (q := 17) dX6_rowsOf_15 rfl (Nat.le_of_ble_eq_true rfl) rfl ?_
  refine g_iconst (v := nI 0) (q := 18) dX6_rowsOf_17 rfl ki_0 ?_
  refine g_istore (lv' := [(0, _), (1, _), (2, _), (3, _), (4, _), (5, _)]) (q := 20) dX6_rowsOf_18 rfl (Nat.le_of_ble_eq_true rfl) rfl ?_
  refine g_loop (nb) (fun b => [(d0, .inr (6, [.int (nI (dn)), .ref d1, .ref d2, .ref d3, .ref d4])), (d3, .inl (E.2.1.1, 6, .inl (fq))), (d4, .inl (E.2.1.1, 1024, .inl (nA (T))))]) (fun b => [(0, .ref d0), (1, .int (nI (s))), (2, .int (nI (nb))), (3, .int (nI (s) &&& bitsI c nb)), (4, .int (nI (rsum T c s b))), (5, .int (nI (b)))]) ?_ ?_ 0 (Nat.zero_le _)
  · intro b hb20 ih20
    show G E _ [(d0, .inr (6, [.int (nI (dn)), .ref d1, .ref d2, .ref d3, .ref d4])), (d3, .inl (E.2.1.1, 6, .inl (fq))), (d4, .inl (E.2.1.1, 1024, .inl (nA (T))))] 20 [(0, .ref d0), (1, .int (nI (s))), (2, .int (nI (nb))), (3, .int (nI (s) &&& bitsI c nb)), (4, .int (nI (rsum T c s b))), (5, .int (nI (b)))] []
    refine g_iload (q := 22) dX6_rowsOf_20 rfl rfl ?_
    refine g_iload_n (q := 23) dX6_rowsOf_22 rfl rfl rfl ?_
    refine g_icmp_geN (t := 58) (q := 26) dX6_rowsOf_23 (by decide) rfl (by omega) (by omega) (fun c23 => ?_) (fun c23 => ?_)
    · omega
    · skip
      refine g_iload_n (q := 27) dX6_rowsOf_26 rfl rfl rfl ?_
      refine g_iload (q := 29) dX6_rowsOf_27 rfl rfl ?_
      refine g_ishr (q := 30) dX6_rowsOf_29 rfl ?_
      refine g_iconst (v := nI 1) (q := 31) dX6_rowsOf_30 rfl ki_1 ?_
      refine g_iand (q := 32) dX6_rowsOf_31 rfl ?_
      refine g_iconst (v := nI 1) (q := 33) dX6_rowsOf_32 rfl ki_1 ?_
      refine g_icmp_ne (t := 52) (q := 36) dX6_rowsOf_33 (by decide) rfl (fun c33 => ?_) (fun c33 => ?_)
      · skip
        refine g_iinc (lv' := [(0, _), (1, _), (2, _), (3, _), (4, _), (5, _)]) (v := nI (b + 1)) (q := 55) dX6_rowsOf_52 rfl rfl (nI_inc _) (Nat.le_of_ble_eq_true rfl) rfl ?_
        refine g_goto (q := 20) dX6_rowsOf_55 (by decide) ?_
        rw [rsum_f (fun z => c33 ((tst hs hnb hb20).mpr z))] at ih20
        exact ih20
      · skip
        refine g_iload (q := 38) dX6_rowsOf_36 rfl rfl ?_
        refine g_aload_n (q := 39) dX6_rowsOf_38 rfl rfl rfl ?_
        refine gf_X6_21 rfl 0 rfl rfl (q := 42) dX6_rowsOf_39 rfl ?_
        refine g_iload_n (q := 43) dX6_rowsOf_42 rfl rfl rfl ?_
        refine g_iconst (v := nI 1) (q := 44) dX6_rowsOf_43 rfl ki_1 ?_
        refine g_iload (q := 46) dX6_rowsOf_44 rfl rfl ?_
        refine g_ishl (q := 47) dX6_rowsOf_46 rfl ?_
        refine g_ixor (q := 48) dX6_rowsOf_47 rfl ?_
        have hx := xb_lt hs (show b < 10 by omega)
        refine g_top (y := nI (xb s b)) (xb_I hs (by omega)) ?_
        refine g_iald (v := nI (T (xb s b))) 2 rfl (ixIn (j := xb s b) rfl (by omega) (by decide)) (ixV (j := xb s b) rfl (by omega)) (q := 49) dX6_rowsOf_48 rfl ?_
        refine g_iaddN (q := 50) dX6_rowsOf_49 rfl ?_
        refine g_istore (lv' := [(0, _), (1, _), (2, _), (3, _), (4, _), (5, _)]) (q := 52) dX6_rowsOf_50 rfl (Nat.le_of_ble_eq_true rfl) rfl ?_
        refine g_iinc (lv' := [(0, _), (1, _), (2, _), (3, _), (4, _), (5, _)]) (v := nI (b + 1)) (q := 55) dX6_rowsOf_52 rfl rfl (nI_inc _) (Nat.le_of_ble_eq_true rfl) rfl ?_
        refine g_goto (q := 20) dX6_rowsOf_55 (by decide) ?_
        rw [rsum_t ((tst hs hnb hb20).mp c33)] at ih20
        exact ih20
  · skip
    show G E _ [(d0, .inr (6, [.int (nI (dn)), .ref d1, .ref d2, .ref d3, .ref d4])), (d3, .inl (E.2.1.1, 6, .inl (fq))), (d4, .inl (E.2.1.1, 1024, .inl (nA (T))))] 20 [(0, .ref d0), (1, .int (nI (s))), (2, .int (nI (nb))), (3, .int (nI (s) &&& bitsI c nb)), (4, .int (nI (rsum T c s nb))), (5, .int (nI (nb)))] []
    refine g_iload (q := 22) dX6_rowsOf_20 rfl rfl ?_
    refine g_iload_n (q := 23) dX6_rowsOf_22 rfl rfl rfl ?_
    refine g_icmp_geN (t := 58) (q := 26) dX6_rowsOf_23 (by decide) rfl (by omega) (by omega) (fun c23 => ?_) (fun c23 => ?_)
    · skip
      refine g_iload (q := 60) dX6_rowsOf_58 rfl rfl ?_
      refine g_iret (st := []) dX6_rowsOf_60 rfl rfl rfl ?_
      exact (xr rfl)
    · omega
set_option maxHeartbeats 2000000 in
set_option maxRecDepth 20000 in
theorem c_fillRows {E : EN} {d0 d1 d2 d3 d4 dn : Nat} {f0 fk ft fw fs fg fc nb : Nat} {yr : Int32} {sk wt dw dc : Nat → Nat} {fq : Nat → Int32} {T : Nat → Nat} {x : Int32} {la : Nat} (hx : 0 < dn → x = nI la) (hla : 0 < dn → la < dn) (hdn : dn ≤ 6) (hnb : nb ≤ 10) (hdw : ∀ j, j < 6 → dw j < 1000) (hdc : ∀ j, j < 6 → dc j < 1000) (hwt : ∀ j, j < 10 → wt j < 100) (hsk : ∀ j, j < 10 → sk j < 4)  : CT E yX6_fillRows cX6_fillRows 4 (none) 2 [.ref d0, .ref f0, .int (x)] [(d0, .inr (6, [.int (nI (dn)), .ref d1, .ref d2, .ref d3, .ref d4])), (d1, .inl (E.2.1.1, 6, .inl (nA (dw)))), (d2, .inl (E.2.1.1, 6, .inl (nA (dc)))), (d3, .inl (E.2.1.1, 6, .inl (fq))), (d4, .inl (E.2.1.1, 1024, .inl (nA (T)))), (f0, .inr (2, [.int (nI (nb)), .int (yr), .ref fk, .ref ft, .ref fw, .ref fs, .ref fg, .ref fc])), (fw, .inl (E.2.1.1, 10, .inl (nA (wt)))), (fs, .inl (E.2.1.1, 10, .inl (nA (sk))))] (xQ none [(d0, .inr (6, [.int (nI (dn)), .ref d1, .ref d2, .ref d3, .ref d4])), (d1, .inl (E.2.1.1, 6, .inl (nA (dw)))), (d2, .inl (E.2.1.1, 6, .inl (nA (dc)))), (d3, .inl (E.2.1.1, 6, .inl (mpR (fun k => bitsI (fitB sk wt dw dc (piS la dn k)) nb) fq dn))), (d4, .inl (E.2.1.1, 1024, .inl (nA (rowT (fun k => fitB sk wt dw dc (piS la dn k)) nb dn T (p2 nb))))), (f0, .inr (2, [.int (nI (nb)), .int (yr), .ref fk, .ref ft, .ref fw, .ref fs, .ref fg, .ref fc])), (fw, .inl (E.2.1.1, 10, .inl (nA (wt)))), (fs, .inl (E.2.1.1, 10, .inl (nA (sk))))]) := by
  refine ct_of (by decide +kernel) (Nat.le_of_ble_eq_true rfl) (lv := [(0, .ref d0), (1, .ref f0), (2, .int (x))]) rfl (fun A => ?_)
  refine g_iconst (v := nI 0) (q := 1) dX6_fillRows_0 rfl ki_0 ?_
  refine g_istore_n (lv' := [(0, _), (1, _), (2, _), (3, _)]) (q := 2) dX6_fillRows_1 rfl rfl (Nat.le_of_ble_eq_true rfl) rfl ?_
  refine g_eq (ws' := [(d0, .inr (6, [.int (nI (dn)), .ref d1, .ref d2, .ref d3, .ref d4])), (d1, .inl (E.2.1.1, 6, .inl (nA (dw)))), (d2, .inl (E.2.1.1, 6, .inl (nA (dc)))), (d3, .inl (E.2.1.1, 6, .inl (mpR (fun k => bitsI (fitB sk wt dw dc (piS la dn k)) nb) fq 0))), (d4, .inl (E.2.1.1, 1024, .inl (nA (T)))), (f0, .inr (2, [.int (nI (nb)), .int (yr), .ref fk, .ref ft, .ref fw, .ref fs, .ref fg, .ref fc])), (fw, .inl (E.2.1.1, 10, .inl (nA (wt)))), (fs, .inl (E.2.1.1, 10, .inl (nA (sk))))]) ?_ (by rw [mpR_0]) rfl rfl
  refine g_loop (dn) (fun i => [(d0, .inr (6, [.int (nI (dn)), .ref d1, .ref d2, .ref d3, .ref d4])), (d1, .inl (E.2.1.1, 6, .inl (nA (dw)))), (d2, .inl (E.2.1.1, 6, .inl (nA (dc)))), (d3, .inl (E.2.1.1, 6, .inl (mpR (fun k => bitsI (fitB sk wt dw dc (piS la dn k)) nb) fq i))), (d4, .inl (E.2.1.1, 1024, .inl (nA (T)))), (f0, .inr (2, [.int (nI (nb)), .int (yr), .ref fk, .ref ft, .ref fw, .ref fs, .ref fg, .ref fc])), (fw, .inl (E.2.1.1, 10, .inl (nA (wt)))), (fs, .inl (E.2.1.1, 10, .inl (nA (sk))))]) (fun i => [(0, .ref d0), (1, .ref f0), (2, .int (x)), (3, .int (nI (i)))]) ?_ ?_ 0 (Nat.zero_le _)
  · intro i hi2 ih2
    have hla1 := hla (by omega)
    show G E _ [(d0, .inr (6, [.int (nI (dn)), .ref d1, .ref d2, .ref d3, .ref d4])), (d1, .inl (E.2.1.1, 6, .inl (nA (dw)))), (d2, .inl (E.2.1.1, 6, .inl (nA (dc)))), (d3, .inl (E.2.1.1, 6, .inl (mpR (fun k => bitsI (fitB sk wt dw dc (piS la dn k)) nb) fq i))), (d4, .inl (E.2.1.1, 1024, .inl (nA (T)))), (f0, .inr (2, [.int (nI (nb)), .int (yr), .ref fk, .ref ft, .ref fw, .ref fs, .ref fg, .ref fc])), (fw, .inl (E.2.1.1, 10, .inl (nA (wt)))), (fs, .inl (E.2.1.1, 10, .inl (nA (sk))))] 2 [(0, .ref d0), (1, .ref f0), (2, .int (x)), (3, .int (nI (i)))] []
    refine g_iload_n (q := 3) dX6_fillRows_2 rfl rfl rfl ?_
    refine g_aload_n (q := 4) dX6_fillRows_3 rfl rfl rfl ?_
    refine gf_X6_24 rfl 0 rfl rfl (q := 7) dX6_fillRows_4 rfl ?_
    refine g_icmp_geN (t := 56) (q := 10) dX6_fillRows_7 (by decide) rfl (by omega) (by omega) (fun c7 => ?_) (fun c7 => ?_)
    · omega
    · skip
      refine g_aload_n (q := 11) dX6_fillRows_10 rfl rfl rfl ?_
      refine gf_X6_18 rfl 0 rfl rfl (q := 14) dX6_fillRows_11 rfl ?_
      refine g_iload_n (q := 15) dX6_fillRows_14 rfl rfl rfl ?_
      refine g_aload_n (q := 16) dX6_fillRows_15 rfl rfl rfl ?_
      refine g_iload_n (q := 17) dX6_fillRows_16 rfl rfl rfl ?_
      refine g_aload_n (q := 18) dX6_fillRows_17 rfl rfl rfl ?_
      refine gf_X6_24 rfl 0 rfl rfl (q := 21) dX6_fillRows_18 rfl ?_
      refine g_iconst (v := nI 1) (q := 22) dX6_fillRows_21 rfl ki_1 ?_
      refine g_isubN (q := 23) dX6_fillRows_22 rfl (by omega) ?_
      refine g_icmp_neN (t := 30) (q := 26) dX6_fillRows_23 (by decide) rfl (by omega) (by omega) (fun c23 => ?_) (fun c23 => ?_)
      · skip
        refine g_iload_n (q := 31) dX6_fillRows_30 rfl rfl rfl ?_
        refine g_iload_n (q := 32) dX6_fillRows_31 rfl rfl rfl ?_
        refine g_top (y := nI (la)) (hx (by omega)) ?_
        refine g_icmp_neN (t := 44) (q := 35) dX6_fillRows_32 (by decide) rfl (by omega) (by omega) (fun c32 => ?_) (fun c32 => ?_)
        · skip
          refine g_iload_n (q := 45) dX6_fillRows_44 rfl rfl rfl ?_
          refine g_aload_n (q := 46) dX6_fillRows_45 rfl rfl rfl ?_
          refine gc_X6_43 (c_fittingBoys (by omega) hnb hdw hdc hwt hsk) rfl (Nat.le_of_ble_eq_true rfl) rfl 0 rfl [0, 1, 2, 5, 6, 7] rfl rfl (rest := [_, _]) rfl (Nat.le_of_ble_eq_true rfl) (q := 49) dX6_fillRows_46 rfl (exKM (ws' := [_, _, _, _, _, _, _, _]) (st' := [.int (bitsI (fitB sk wt dw dc i) nb), _, _]) rfl rfl rfl ?_)
          refine g_iast (f' := (upd (mpR (fun k => bitsI (fitB sk wt dw dc (piS la dn k)) nb) fq i) i (bitsI (fitB sk wt dw dc i) nb))) 3 rfl (ixIn (j := i) rfl (by omega) (by decide)) (ixU (j := i) rfl (by omega)) (ws' := [_, _, _, (_, .inl (_, _, .inl _)), _, _, _, _]) rfl (q := 50) dX6_fillRows_49 rfl ?_
          refine g_iinc (lv' := [(0, _), (1, _), (2, _), (3, _)]) (v := nI (i + 1)) (q := 53) dX6_fillRows_50 rfl rfl (nI_inc _) (Nat.le_of_ble_eq_true rfl) rfl ?_
          refine g_goto (q := 2) dX6_fillRows_53 (by decide) ?_
          rw [mpR_s] at ih2
          simp only [show piS la dn i = i from (if_neg c23).trans (if_neg c32)] at ih2
          exact ih2
        · skip
          refine g_aload_n (q := 36) dX6_fillRows_35 rfl rfl rfl ?_
          refine gf_X6_24 rfl 0 rfl rfl (q := 39) dX6_fillRows_36 rfl ?_
          refine g_iconst (v := nI 1) (q := 40) dX6_fillRows_39 rfl ki_1 ?_
          refine g_isubN (q := 41) dX6_fillRows_40 rfl (by omega) ?_
          refine g_goto (q := 45) dX6_fillRows_41 (by decide) ?_
          refine g_aload_n (q := 46) dX6_fillRows_45 rfl rfl rfl ?_
          refine gc_X6_43 (c_fittingBoys (by omega) hnb hdw hdc hwt hsk) rfl (Nat.le_of_ble_eq_true rfl) rfl 0 rfl [0, 1, 2, 5, 6, 7] rfl rfl (rest := [_, _]) rfl (Nat.le_of_ble_eq_true rfl) (q := 49) dX6_fillRows_46 rfl (exKM (ws' := [_, _, _, _, _, _, _, _]) (st' := [.int (bitsI (fitB sk wt dw dc (dn - 1)) nb), _, _]) rfl rfl rfl ?_)
          refine g_iast (f' := (upd (mpR (fun k => bitsI (fitB sk wt dw dc (piS la dn k)) nb) fq i) i (bitsI (fitB sk wt dw dc (dn - 1)) nb))) 3 rfl (ixIn (j := i) rfl (by omega) (by decide)) (ixU (j := i) rfl (by omega)) (ws' := [_, _, _, (_, .inl (_, _, .inl _)), _, _, _, _]) rfl (q := 50) dX6_fillRows_49 rfl ?_
          refine g_iinc (lv' := [(0, _), (1, _), (2, _), (3, _)]) (v := nI (i + 1)) (q := 53) dX6_fillRows_50 rfl rfl (nI_inc _) (Nat.le_of_ble_eq_true rfl) rfl ?_
          refine g_goto (q := 2) dX6_fillRows_53 (by decide) ?_
          rw [mpR_s] at ih2
          simp only [show piS la dn i = dn - 1 from (if_neg c23).trans (if_pos c32)] at ih2
          exact ih2
      · skip
        refine g_iload_n (q := 27) dX6_fillRows_26 rfl rfl rfl ?_
        refine g_top (y := nI (la)) (hx (by omega)) ?_
        refine g_goto (q := 45) dX6_fillRows_27 (by decide) ?_
        refine g_aload_n (q := 46) dX6_fillRows_45 rfl rfl rfl ?_
        refine gc_X6_43 (c_fittingBoys (by omega) hnb hdw hdc hwt hsk) rfl (Nat.le_of_ble_eq_true rfl) rfl 0 rfl [0, 1, 2, 5, 6, 7] rfl rfl (rest := [_, _]) rfl (Nat.le_of_ble_eq_true rfl) (q := 49) dX6_fillRows_46 rfl (exKM (ws' := [_, _, _, _, _, _, _, _]) (st' := [.int (bitsI (fitB sk wt dw dc la) nb), _, _]) rfl rfl rfl ?_)
        refine g_iast (f' := (upd (mpR (fun k => bitsI (fitB sk wt dw dc (piS la dn k)) nb) fq i) i (bitsI (fitB sk wt dw dc la) nb))) 3 rfl (ixIn (j := i) rfl (by omega) (by decide)) (ixU (j := i) rfl (by omega)) (ws' := [_, _, _, (_, .inl (_, _, .inl _)), _, _, _, _]) rfl (q := 50) dX6_fillRows_49 rfl ?_
        refine g_iinc (lv' := [(0, _), (1, _), (2, _), (3, _)]) (v := nI (i + 1)) (q := 53) dX6_fillRows_50 rfl rfl (nI_inc _) (Nat.le_of_ble_eq_true rfl) rfl ?_
        refine g_goto (q := 2) dX6_fillRows_53 (by decide) ?_
        rw [mpR_s] at ih2
        simp only [show piS la dn i = la from if_pos c23] at ih2
        exact ih2
  · skip
    show G E _ [(d0, .inr (6, [.int (nI (dn)), .ref d1, .ref d2, .ref d3, .ref d4])), (d1, .inl (E.2.1.1, 6, .inl (nA (dw)))), (d2, .inl (E.2.1.1, 6, .inl (nA (dc)))), (d3, .inl (E.2.1.1, 6, .inl (mpR (fun k => bitsI (fitB sk wt dw dc (piS la dn k)) nb) fq dn))), (d4, .inl (E.2.1.1, 1024, .inl (nA (T)))), (f0, .inr (2, [.int (nI (nb)), .int (yr), .ref fk, .ref ft, .ref fw, .ref fs, .ref fg, .ref fc])), (fw, .inl (E.2.1.1, 10, .inl (nA (wt)))), (fs, .inl (E.2.1.1, 10, .inl (nA (sk))))] 2 [(0, .ref d0), (1, .ref f0), (2, .int (x)), (3, .int (nI (dn)))] []
    refine g_iload_n (q := 3) dX6_fillRows_2 rfl rfl rfl ?_
    refine g_aload_n (q := 4) dX6_fillRows_3 rfl rfl rfl ?_
    refine gf_X6_24 rfl 0 rfl rfl (q := 7) dX6_fillRows_4 rfl ?_
    refine g_icmp_geN (t := 56) (q := 10) dX6_fillRows_7 (by decide) rfl (by omega) (by omega) (fun c7 => ?_) (fun c7 => ?_)
    · skip
      refine g_aload_n (q := 57) dX6_fillRows_56 rfl rfl rfl ?_
      refine gf_X6_21 rfl 0 rfl rfl (q := 60) dX6_fillRows_57 rfl ?_
      refine g_iconst (v := nI 0) (q := 61) dX6_fillRows_60 rfl ki_0 ?_
      refine g_iconst (v := nI 1) (q := 62) dX6_fillRows_61 rfl ki_1 ?_
      refine g_iast (f' := (nA (updn T 0 1))) 4 rfl (ixIn (j := 0) rfl (by omega) (by decide)) (ixUn (j := 0) rfl (by omega)) (ws' := [_, _, _, _, (_, .inl (_, _, .inl _)), _, _, _]) rfl (q := 63) dX6_fillRows_62 rfl ?_
      refine g_iconst (v := nI 1) (q := 64) dX6_fillRows_63 rfl ki_1 ?_
      refine g_istore_n (lv' := [(0, _), (1, _), (2, _), (3, _)]) (q := 65) dX6_fillRows_64 rfl rfl (Nat.le_of_ble_eq_true rfl) rfl ?_
      refine g_eq (ws' := [(d0, .inr (6, [.int (nI (dn)), .ref d1, .ref d2, .ref d3, .ref d4])), (d1, .inl (E.2.1.1, 6, .inl (nA (dw)))), (d2, .inl (E.2.1.1, 6, .inl (nA (dc)))), (d3, .inl (E.2.1.1, 6, .inl (mpR (fun k => bitsI (fitB sk wt dw dc (piS la dn k)) nb) fq dn))), (d4, .inl (E.2.1.1, 1024, .inl (nA (rowT (fun k => fitB sk wt dw dc (piS la dn k)) nb dn T 1)))), (f0, .inr (2, [.int (nI (nb)), .int (yr), .ref fk, .ref ft, .ref fw, .ref fs, .ref fg, .ref fc])), (fw, .inl (E.2.1.1, 10, .inl (nA (wt)))), (fs, .inl (E.2.1.1, 10, .inl (nA (sk))))]) ?_ (rfl) rfl rfl
      have hp2 := p2_in hnb
      refine g_loopI (p2 nb) (fun s => 1 ≤ s) (fun s => [(d0, .inr (6, [.int (nI (dn)), .ref d1, .ref d2, .ref d3, .ref d4])), (d1, .inl (E.2.1.1, 6, .inl (nA (dw)))), (d2, .inl (E.2.1.1, 6, .inl (nA (dc)))), (d3, .inl (E.2.1.1, 6, .inl (mpR (fun k => bitsI (fitB sk wt dw dc (piS la dn k)) nb) fq dn))), (d4, .inl (E.2.1.1, 1024, .inl (nA (rowT (fun k => fitB sk wt dw dc (piS la dn k)) nb dn T s)))), (f0, .inr (2, [.int (nI (nb)), .int (yr), .ref fk, .ref ft, .ref fw, .ref fs, .ref fg, .ref fc])), (fw, .inl (E.2.1.1, 10, .inl (nA (wt)))), (fs, .inl (E.2.1.1, 10, .inl (nA (sk))))]) (fun s => [(0, .ref d0), (1, .ref f0), (2, .int (x)), (3, .int (nI (s)))]) ?_ ?_ 1 ((p2_in hnb).1) (Nat.le_refl 1)
      · intro s hs65 hv65 ih65
        have hpp := popc_pos s (by omega) (by omega)
        have hpl := popc_le s
        show G E _ [(d0, .inr (6, [.int (nI (dn)), .ref d1, .ref d2, .ref d3, .ref d4])), (d1, .inl (E.2.1.1, 6, .inl (nA (dw)))), (d2, .inl (E.2.1.1, 6, .inl (nA (dc)))), (d3, .inl (E.2.1.1, 6, .inl (mpR (fun k => bitsI (fitB sk wt dw dc (piS la dn k)) nb) fq dn))), (d4, .inl (E.2.1.1, 1024, .inl (nA (rowT (fun k => fitB sk wt dw dc (piS la dn k)) nb dn T s)))), (f0, .inr (2, [.int (nI (nb)), .int (yr), .ref fk, .ref ft, .ref fw, .ref fs, .ref fg, .ref fc])), (fw, .inl (E.2.1.1, 10, .inl (nA (wt)))), (fs, .inl (E.2.1.1, 10, .inl (nA (sk))))] 65 [(0, .ref d0), (1, .ref f0), (2, .int (x)), (3, .int (nI (s)))] []
        refine g_iload_n (q := 66) dX6_fillRows_65 rfl rfl rfl ?_
        refine g_iconst (v := nI 1) (q := 67) dX6_fillRows_66 rfl ki_1 ?_
        refine g_aload_n (q := 68) dX6_fillRows_67 rfl rfl rfl ?_
        refine gf_X6_32 rfl 5 rfl rfl (q := 71) dX6_fillRows_68 rfl ?_
        refine g_ishl (q := 72) dX6_fillRows_71 rfl ?_
        refine g_top (y := nI (p2 nb)) (shl_p nb (by omega)) ?_
        refine g_icmp_geN (t := 111) (q := 75) dX6_fillRows_72 (by decide) rfl (by omega) (by omega) (fun c72 => ?_) (fun c72 => ?_)
        · omega
        · skip
          refine g_aload_n (q := 76) dX6_fillRows_75 rfl rfl rfl ?_
          refine gf_X6_21 rfl 0 rfl rfl (q := 79) dX6_fillRows_76 rfl ?_
          refine g_iload_n (q := 80) dX6_fillRows_79 rfl rfl rfl ?_
          refine g_iload_n (q := 81) dX6_fillRows_80 rfl rfl rfl ?_
          refine gc_X6_37 (c_bitCount (by omega)) rfl (Nat.le_of_ble_eq_true rfl) rfl [] rfl rfl (rest := [_, _]) rfl (Nat.le_of_ble_eq_true rfl) (q := 84) dX6_fillRows_81 rfl (exK (ws' := [_, _, _, _, _, _, _, _]) (st' := [.int (nI (popc s)), _, _]) rfl rfl ?_)
          refine g_aload_n (q := 85) dX6_fillRows_84 rfl rfl rfl ?_
          refine gf_X6_24 rfl 0 rfl rfl (q := 88) dX6_fillRows_85 rfl ?_
          refine g_icmp_leN (t := 95) (q := 91) dX6_fillRows_88 (by decide) rfl (by omega) (by omega) (fun c88 => ?_) (fun c88 => ?_)
          · skip
            refine g_aload_n (q := 96) dX6_fillRows_95 rfl rfl rfl ?_
            refine g_iload_n (q := 97) dX6_fillRows_96 rfl rfl rfl ?_
            refine g_aload_n (q := 98) dX6_fillRows_97 rfl rfl rfl ?_
            refine gf_X6_32 rfl 5 rfl rfl (q := 101) dX6_fillRows_98 rfl ?_
            refine gc_X6_47 (c_rowsOf (c := (fun k => fitB sk wt dw dc (piS la dn k)) (popc s - 1)) (by omega) hnb hpp (by omega) (mpR_lt (by omega))) rfl (Nat.le_of_ble_eq_true rfl) rfl 0 rfl [0, 3, 4] rfl rfl (rest := [_, _]) rfl (Nat.le_of_ble_eq_true rfl) (q := 104) dX6_fillRows_101 rfl (exK (ws' := [_, _, _, _, _, _, _, _]) (st' := [.int (nI (rsum (rowT (fun k => fitB sk wt dw dc (piS la dn k)) nb dn T s) ((fun k => fitB sk wt dw dc (piS la dn k)) (popc s - 1)) s nb)), _, _]) rfl rfl ?_)
            refine g_iast (f' := (nA (updn (rowT (fun k => fitB sk wt dw dc (piS la dn k)) nb dn T s) s (rsum (rowT (fun k => fitB sk wt dw dc (piS la dn k)) nb dn T s) ((fun k => fitB sk wt dw dc (piS la dn k)) (popc s - 1)) s nb)))) 4 rfl (ixIn (j := s) rfl (by omega) (by decide)) (ixUn (j := s) rfl (by omega)) (ws' := [_, _, _, _, (_, .inl (_, _, .inl _)), _, _, _]) rfl (q := 105) dX6_fillRows_104 rfl ?_
            refine g_iinc (lv' := [(0, _), (1, _), (2, _), (3, _)]) (v := nI (s + 1)) (q := 108) dX6_fillRows_105 rfl rfl (nI_inc _) (Nat.le_of_ble_eq_true rfl) rfl ?_
            refine g_goto (q := 65) dX6_fillRows_108 (by decide) ?_
            have hv : rowV (fun k => fitB sk wt dw dc (piS la dn k)) nb dn (rowT (fun k => fitB sk wt dw dc (piS la dn k)) nb dn T s) s = rsum (rowT (fun k => fitB sk wt dw dc (piS la dn k)) nb dn T s) ((fun k => fitB sk wt dw dc (piS la dn k)) (popc s - 1)) s nb := by unfold rowV; rw [if_neg (show ¬ s = 0 by omega), if_neg (show ¬ dn < popc s by omega)]
            simp only [rowT] at ih65
            rw [hv] at ih65
            exact ih65 (by omega)
          · skip
            refine g_iconst (v := nI 0) (q := 92) dX6_fillRows_91 rfl ki_0 ?_
            refine g_goto (q := 104) dX6_fillRows_92 (by decide) ?_
            refine g_iast (f' := (nA (updn (rowT (fun k => fitB sk wt dw dc (piS la dn k)) nb dn T s) s 0))) 4 rfl (ixIn (j := s) rfl (by omega) (by decide)) (ixUn (j := s) rfl (by omega)) (ws' := [_, _, _, _, (_, .inl (_, _, .inl _)), _, _, _]) rfl (q := 105) dX6_fillRows_104 rfl ?_
            refine g_iinc (lv' := [(0, _), (1, _), (2, _), (3, _)]) (v := nI (s + 1)) (q := 108) dX6_fillRows_105 rfl rfl (nI_inc _) (Nat.le_of_ble_eq_true rfl) rfl ?_
            refine g_goto (q := 65) dX6_fillRows_108 (by decide) ?_
            have hv : rowV (fun k => fitB sk wt dw dc (piS la dn k)) nb dn (rowT (fun k => fitB sk wt dw dc (piS la dn k)) nb dn T s) s = 0 := by unfold rowV; rw [if_neg (show ¬ s = 0 by omega), if_pos (show dn < popc s by omega)]
            simp only [rowT] at ih65
            rw [hv] at ih65
            exact ih65 (by omega)
      · intro hv65
        show G E _ [(d0, .inr (6, [.int (nI (dn)), .ref d1, .ref d2, .ref d3, .ref d4])), (d1, .inl (E.2.1.1, 6, .inl (nA (dw)))), (d2, .inl (E.2.1.1, 6, .inl (nA (dc)))), (d3, .inl (E.2.1.1, 6, .inl (mpR (fun k => bitsI (fitB sk wt dw dc (piS la dn k)) nb) fq dn))), (d4, .inl (E.2.1.1, 1024, .inl (nA (rowT (fun k => fitB sk wt dw dc (piS la dn k)) nb dn T (p2 nb))))), (f0, .inr (2, [.int (nI (nb)), .int (yr), .ref fk, .ref ft, .ref fw, .ref fs, .ref fg, .ref fc])), (fw, .inl (E.2.1.1, 10, .inl (nA (wt)))), (fs, .inl (E.2.1.1, 10, .inl (nA (sk))))] 65 [(0, .ref d0), (1, .ref f0), (2, .int (x)), (3, .int (nI (p2 nb)))] []
        refine g_iload_n (q := 66) dX6_fillRows_65 rfl rfl rfl ?_
        refine g_iconst (v := nI 1) (q := 67) dX6_fillRows_66 rfl ki_1 ?_
        refine g_aload_n (q := 68) dX6_fillRows_67 rfl rfl rfl ?_
        refine gf_X6_32 rfl 5 rfl rfl (q := 71) dX6_fillRows_68 rfl ?_
        refine g_ishl (q := 72) dX6_fillRows_71 rfl ?_
        refine g_top (y := nI (p2 nb)) (shl_p nb (by omega)) ?_
        refine g_icmp_geN (t := 111) (q := 75) dX6_fillRows_72 (by decide) rfl (by omega) (by omega) (fun c72 => ?_) (fun c72 => ?_)
        · skip
          refine g_vret (st := []) dX6_fillRows_111 rfl rfl ?_
          exact xv
        · omega
    · omega
set_option maxHeartbeats 2000000 in
set_option maxRecDepth 20000 in
theorem c_countRows {E : EN} {d0 d1 d2 d3 d4 dn : Nat} {f0 fk ft fw fs fg fc nb : Nat} {yr : Int32} {sk wt dw dc : Nat → Nat} {fq : Nat → Int32} {T : Nat → Nat} (hdn : dn ≤ 6) (hnb : nb ≤ 10) (hdw : ∀ j, j < 6 → dw j < 1000) (hdc : ∀ j, j < 6 → dc j < 1000) (hwt : ∀ j, j < 10 → wt j < 100) (hsk : ∀ j, j < 10 → sk j < 4)  : CT E yX6_countRows cX6_countRows 4 (some .int) 3 [.ref d0, .ref f0] [(d0, .inr (6, [.int (nI (dn)), .ref d1, .ref d2, .ref d3, .ref d4])), (d1, .inl (E.2.1.1, 6, .inl (nA (dw)))), (d2, .inl (E.2.1.1, 6, .inl (nA (dc)))), (d3, .inl (E.2.1.1, 6, .inl (fq))), (d4, .inl (E.2.1.1, 1024, .inl (nA (T)))), (f0, .inr (2, [.int (nI (nb)), .int (yr), .ref fk, .ref ft, .ref fw, .ref fs, .ref fg, .ref fc])), (fw, .inl (E.2.1.1, 10, .inl (nA (wt)))), (fs, .inl (E.2.1.1, 10, .inl (nA (sk))))] (xQ (some (.int (nI (cS (rowT (fun k => fitB sk wt dw dc (piS (dn - 1) dn k)) nb dn T (p2 nb)) dn (p2 nb))))) [(d0, .inr (6, [.int (nI (dn)), .ref d1, .ref d2, .ref d3, .ref d4])), (d1, .inl (E.2.1.1, 6, .inl (nA (dw)))), (d2, .inl (E.2.1.1, 6, .inl (nA (dc)))), (d3, .inl (E.2.1.1, 6, .inl (mpR (fun k => bitsI (fitB sk wt dw dc (piS (dn - 1) dn k)) nb) fq dn))), (d4, .inl (E.2.1.1, 1024, .inl (nA (rowT (fun k => fitB sk wt dw dc (piS (dn - 1) dn k)) nb dn T (p2 nb))))), (f0, .inr (2, [.int (nI (nb)), .int (yr), .ref fk, .ref ft, .ref fw, .ref fs, .ref fg, .ref fc])), (fw, .inl (E.2.1.1, 10, .inl (nA (wt)))), (fs, .inl (E.2.1.1, 10, .inl (nA (sk))))]) := by
  refine ct_of (by decide +kernel) (Nat.le_of_ble_eq_true rfl) (lv := [(0, .ref d0), (1, .ref f0)]) rfl (fun A => ?_)
  refine g_aload_n (q := 1) dX6_countRows_0 rfl rfl rfl ?_
  refine g_aload_n (q := 2) dX6_countRows_1 rfl rfl rfl ?_
  refine g_aload_n (q := 3) dX6_countRows_2 rfl rfl rfl ?_
  refine gf_X6_24 rfl 0 rfl rfl (q := 6) dX6_countRows_3 rfl ?_
  refine g_iconst (v := nI 1) (q := 7) dX6_countRows_6 rfl ki_1 ?_
  refine g_isub (q := 8) dX6_countRows_7 rfl ?_
  refine gc_X6_28 (c_fillRows (la := (dn - 1)) (fun h => pk_sub h) (fun h => by omega) hdn hnb hdw hdc hwt hsk) rfl (Nat.le_of_ble_eq_true rfl) rfl 0 rfl [0, 1, 2, 3, 4, 5, 6, 7] rfl rfl (rest := []) rfl (Nat.le_of_ble_eq_true rfl) (q := 11) dX6_countRows_8 rfl (exKM (ws' := [(_, .inr (_, [_, _, _, _, _])), (_, .inl (_, _, .inl _)), (_, .inl (_, _, .inl _)), (_, .inl (_, _, .inl _)), (_, .inl (_, _, .inl _)), (_, .inr (_, [_, _, _, _, _, _, _, _])), (_, .inl (_, _, .inl _)), (_, .inl (_, _, .inl _))]) (st' := []) rfl rfl rfl ?_)
  refine g_iconst (v := nI 0) (q := 12) dX6_countRows_11 rfl ki_0 ?_
  refine g_istore_n (lv' := [(0, _), (1, _), (2, _)]) (q := 13) dX6_countRows_12 rfl rfl (Nat.le_of_ble_eq_true rfl) rfl ?_
  refine g_iconst (v := nI 0) (q := 14) dX6_countRows_13 rfl ki_0 ?_
  refine g_istore_n (lv' := [(0, _), (1, _), (2, _), (3, _)]) (q := 15) dX6_countRows_14 rfl rfl (Nat.le_of_ble_eq_true rfl) rfl ?_
  have hp2 := p2_in hnb
  refine g_loop (p2 nb) (fun s => [(d0, .inr (6, [.int (nI (dn)), .ref d1, .ref d2, .ref d3, .ref d4])), (d1, .inl (E.2.1.1, 6, .inl (nA (dw)))), (d2, .inl (E.2.1.1, 6, .inl (nA (dc)))), (d3, .inl (E.2.1.1, 6, .inl (mpR (fun k => bitsI (fitB sk wt dw dc (piS (dn - 1) dn k)) nb) fq dn))), (d4, .inl (E.2.1.1, 1024, .inl (nA (rowT (fun k => fitB sk wt dw dc (piS (dn - 1) dn k)) nb dn T (p2 nb))))), (f0, .inr (2, [.int (nI (nb)), .int (yr), .ref fk, .ref ft, .ref fw, .ref fs, .ref fg, .ref fc])), (fw, .inl (E.2.1.1, 10, .inl (nA (wt)))), (fs, .inl (E.2.1.1, 10, .inl (nA (sk))))]) (fun s => [(0, .ref d0), (1, .ref f0), (2, .int (nI (cS (rowT (fun k => fitB sk wt dw dc (piS (dn - 1) dn k)) nb dn T (p2 nb)) dn s))), (3, .int (nI (s)))]) ?_ ?_ 0 (Nat.zero_le _)
  · intro s hs15 ih15
    have hpl := popc_le s
    show G E _ [(d0, .inr (6, [.int (nI (dn)), .ref d1, .ref d2, .ref d3, .ref d4])), (d1, .inl (E.2.1.1, 6, .inl (nA (dw)))), (d2, .inl (E.2.1.1, 6, .inl (nA (dc)))), (d3, .inl (E.2.1.1, 6, .inl (mpR (fun k => bitsI (fitB sk wt dw dc (piS (dn - 1) dn k)) nb) fq dn))), (d4, .inl (E.2.1.1, 1024, .inl (nA (rowT (fun k => fitB sk wt dw dc (piS (dn - 1) dn k)) nb dn T (p2 nb))))), (f0, .inr (2, [.int (nI (nb)), .int (yr), .ref fk, .ref ft, .ref fw, .ref fs, .ref fg, .ref fc])), (fw, .inl (E.2.1.1, 10, .inl (nA (wt)))), (fs, .inl (E.2.1.1, 10, .inl (nA (sk))))] 15 [(0, .ref d0), (1, .ref f0), (2, .int (nI (cS (rowT (fun k => fitB sk wt dw dc (piS (dn - 1) dn k)) nb dn T (p2 nb)) dn s))), (3, .int (nI (s)))] []
    refine g_iload_n (q := 16) dX6_countRows_15 rfl rfl rfl ?_
    refine g_iconst (v := nI 1) (q := 17) dX6_countRows_16 rfl ki_1 ?_
    refine g_aload_n (q := 18) dX6_countRows_17 rfl rfl rfl ?_
    refine gf_X6_32 rfl 5 rfl rfl (q := 21) dX6_countRows_18 rfl ?_
    refine g_ishl (q := 22) dX6_countRows_21 rfl ?_
    refine g_top (y := nI (p2 nb)) (shl_p nb (by omega)) ?_
    refine g_icmp_geN (t := 51) (q := 25) dX6_countRows_22 (by decide) rfl (by omega) (by omega) (fun c22 => ?_) (fun c22 => ?_)
    · omega
    · skip
      refine g_iload_n (q := 26) dX6_countRows_25 rfl rfl rfl ?_
      refine gc_X6_37 (c_bitCount (by omega)) rfl (Nat.le_of_ble_eq_true rfl) rfl [] rfl rfl (rest := []) rfl (Nat.le_of_ble_eq_true rfl) (q := 29) dX6_countRows_26 rfl (exK (ws' := [_, _, _, _, _, _, _, _]) (st' := [.int (nI (popc s))]) rfl rfl ?_)
      refine g_aload_n (q := 30) dX6_countRows_29 rfl rfl rfl ?_
      refine gf_X6_24 rfl 0 rfl rfl (q := 33) dX6_countRows_30 rfl ?_
      refine g_icmp_neN (t := 45) (q := 36) dX6_countRows_33 (by decide) rfl (by omega) (by omega) (fun c33 => ?_) (fun c33 => ?_)
      · skip
        refine g_iinc (lv' := [(0, _), (1, _), (2, _), (3, _)]) (v := nI (s + 1)) (q := 48) dX6_countRows_45 rfl rfl (nI_inc _) (Nat.le_of_ble_eq_true rfl) rfl ?_
        refine g_goto (q := 15) dX6_countRows_48 (by decide) ?_
        rw [cS, if_neg c33] at ih15
        exact ih15
      · skip
        refine g_iload_n (q := 37) dX6_countRows_36 rfl rfl rfl ?_
        refine g_aload_n (q := 38) dX6_countRows_37 rfl rfl rfl ?_
        refine gf_X6_21 rfl 0 rfl rfl (q := 41) dX6_countRows_38 rfl ?_
        refine g_iload_n (q := 42) dX6_countRows_41 rfl rfl rfl ?_
        refine g_iald (v := nI ((rowT (fun k => fitB sk wt dw dc (piS (dn - 1) dn k)) nb dn T (p2 nb)) s)) 4 rfl (ixIn (j := s) rfl (by omega) (by decide)) (ixV (j := s) rfl (by omega)) (q := 43) dX6_countRows_42 rfl ?_
        refine g_iaddN (q := 44) dX6_countRows_43 rfl ?_
        refine g_istore_n (lv' := [(0, _), (1, _), (2, _), (3, _)]) (q := 45) dX6_countRows_44 rfl rfl (Nat.le_of_ble_eq_true rfl) rfl ?_
        refine g_iinc (lv' := [(0, _), (1, _), (2, _), (3, _)]) (v := nI (s + 1)) (q := 48) dX6_countRows_45 rfl rfl (nI_inc _) (Nat.le_of_ble_eq_true rfl) rfl ?_
        refine g_goto (q := 15) dX6_countRows_48 (by decide) ?_
        rw [cS, if_pos c33] at ih15
        exact ih15
  · skip
    show G E _ [(d0, .inr (6, [.int (nI (dn)), .ref d1, .ref d2, .ref d3, .ref d4])), (d1, .inl (E.2.1.1, 6, .inl (nA (dw)))), (d2, .inl (E.2.1.1, 6, .inl (nA (dc)))), (d3, .inl (E.2.1.1, 6, .inl (mpR (fun k => bitsI (fitB sk wt dw dc (piS (dn - 1) dn k)) nb) fq dn))), (d4, .inl (E.2.1.1, 1024, .inl (nA (rowT (fun k => fitB sk wt dw dc (piS (dn - 1) dn k)) nb dn T (p2 nb))))), (f0, .inr (2, [.int (nI (nb)), .int (yr), .ref fk, .ref ft, .ref fw, .ref fs, .ref fg, .ref fc])), (fw, .inl (E.2.1.1, 10, .inl (nA (wt)))), (fs, .inl (E.2.1.1, 10, .inl (nA (sk))))] 15 [(0, .ref d0), (1, .ref f0), (2, .int (nI (cS (rowT (fun k => fitB sk wt dw dc (piS (dn - 1) dn k)) nb dn T (p2 nb)) dn (p2 nb)))), (3, .int (nI (p2 nb)))] []
    refine g_iload_n (q := 16) dX6_countRows_15 rfl rfl rfl ?_
    refine g_iconst (v := nI 1) (q := 17) dX6_countRows_16 rfl ki_1 ?_
    refine g_aload_n (q := 18) dX6_countRows_17 rfl rfl rfl ?_
    refine gf_X6_32 rfl 5 rfl rfl (q := 21) dX6_countRows_18 rfl ?_
    refine g_ishl (q := 22) dX6_countRows_21 rfl ?_
    refine g_top (y := nI (p2 nb)) (shl_p nb (by omega)) ?_
    refine g_icmp_geN (t := 51) (q := 25) dX6_countRows_22 (by decide) rfl (by omega) (by omega) (fun c22 => ?_) (fun c22 => ?_)
    · skip
      refine g_iload_n (q := 52) dX6_countRows_51 rfl rfl rfl ?_
      refine g_iret (st := []) dX6_countRows_52 rfl rfl rfl ?_
      exact (xr rfl)
    · omega
set_option maxHeartbeats 2000000 in
set_option maxRecDepth 20000 in
theorem c_whoCanBe {E : EN} {d0 d1 d2 d3 d4 dn : Nat} {f0 fk ft fw fs fg fc nb : Nat} {yr : Int32} {sk wt dw dc : Nat → Nat} {fq : Nat → Int32} {T : Nat → Nat} {i : Nat} (hi : i < dn) (hdn : dn ≤ 6) (hnb : nb ≤ 10) (hdw : ∀ j, j < 6 → dw j < 1000) (hdc : ∀ j, j < 6 → dc j < 1000) (hwt : ∀ j, j < 10 → wt j < 100) (hsk : ∀ j, j < 10 → sk j < 4)  : CT E yX6_whoCanBe cX6_whoCanBe 5 (some .int) 3 [.ref d0, .int (nI (i)), .ref f0] [(d0, .inr (6, [.int (nI (dn)), .ref d1, .ref d2, .ref d3, .ref d4])), (d1, .inl (E.2.1.1, 6, .inl (nA (dw)))), (d2, .inl (E.2.1.1, 6, .inl (nA (dc)))), (d3, .inl (E.2.1.1, 6, .inl (fq))), (d4, .inl (E.2.1.1, 1024, .inl (nA (T)))), (f0, .inr (2, [.int (nI (nb)), .int (yr), .ref fk, .ref ft, .ref fw, .ref fs, .ref fg, .ref fc])), (fw, .inl (E.2.1.1, 10, .inl (nA (wt)))), (fs, .inl (E.2.1.1, 10, .inl (nA (sk))))] (xQ (some (.int (bitsI (wS (rowT (fun k => fitB sk wt dw dc (piS i dn k)) nb dn T (p2 nb)) (fitB sk wt dw dc i) dn (p2 nb)) nb))) [(d0, .inr (6, [.int (nI (dn)), .ref d1, .ref d2, .ref d3, .ref d4])), (d1, .inl (E.2.1.1, 6, .inl (nA (dw)))), (d2, .inl (E.2.1.1, 6, .inl (nA (dc)))), (d3, .inl (E.2.1.1, 6, .inl (mpR (fun k => bitsI (fitB sk wt dw dc (piS i dn k)) nb) fq dn))), (d4, .inl (E.2.1.1, 1024, .inl (nA (rowT (fun k => fitB sk wt dw dc (piS i dn k)) nb dn T (p2 nb))))), (f0, .inr (2, [.int (nI (nb)), .int (yr), .ref fk, .ref ft, .ref fw, .ref fs, .ref fg, .ref fc])), (fw, .inl (E.2.1.1, 10, .inl (nA (wt)))), (fs, .inl (E.2.1.1, 10, .inl (nA (sk))))]) := by
  refine ct_of (by decide +kernel) (Nat.le_of_ble_eq_true rfl) (lv := [(0, .ref d0), (1, .int (nI (i))), (2, .ref f0)]) rfl (fun A => ?_)
  refine g_aload_n (q := 1) dX6_whoCanBe_0 rfl rfl rfl ?_
  refine g_aload_n (q := 2) dX6_whoCanBe_1 rfl rfl rfl ?_
  refine g_iload_n (q := 3) dX6_whoCanBe_2 rfl rfl rfl ?_
  refine gc_X6_28 (c_fillRows (la := i) (fun _ => rfl) (fun _ => hi) hdn hnb hdw hdc hwt hsk) rfl (Nat.le_of_ble_eq_true rfl) rfl 0 rfl [0, 1, 2, 3, 4, 5, 6, 7] rfl rfl (rest := []) rfl (Nat.le_of_ble_eq_true rfl) (q := 6) dX6_whoCanBe_3 rfl (exKM (ws' := [(_, .inr (_, [_, _, _, _, _])), (_, .inl (_, _, .inl _)), (_, .inl (_, _, .inl _)), (_, .inl (_, _, .inl _)), (_, .inl (_, _, .inl _)), (_, .inr (_, [_, _, _, _, _, _, _, _])), (_, .inl (_, _, .inl _)), (_, .inl (_, _, .inl _))]) (st' := []) rfl rfl rfl ?_)
  refine g_iconst (v := nI 0) (q := 7) dX6_whoCanBe_6 rfl ki_0 ?_
  refine g_istore_n (lv' := [(0, _), (1, _), (2, _), (3, _)]) (q := 8) dX6_whoCanBe_7 rfl rfl (Nat.le_of_ble_eq_true rfl) rfl ?_
  refine g_iconst (v := nI 0) (q := 9) dX6_whoCanBe_8 rfl ki_0 ?_
  refine g_istore (lv' := [(0, _), (1, _), (2, _), (3, _), (4, _)]) (q := 11) dX6_whoCanBe_9 rfl (Nat.le_of_ble_eq_true rfl) rfl ?_
  have hp2 := p2_in hnb
  refine g_eq (lv' := [(0, .ref d0), (1, .int (nI i)), (2, .ref f0), (3, .int (bitsI (wS (rowT (fun k => fitB sk wt dw dc (piS i dn k)) nb dn T (p2 nb)) (fitB sk wt dw dc i) dn 0) nb)), (4, .int (nI 0))]) ?_ rfl (by rw [show bitsI (wS (rowT (fun k => fitB sk wt dw dc (piS i dn k)) nb dn T (p2 nb)) (fitB sk wt dw dc i) dn 0) nb = nI 0 from wS_0 _ _ _ hnb]) rfl
  refine g_loop (p2 nb) (fun s => [(d0, .inr (6, [.int (nI (dn)), .ref d1, .ref d2, .ref d3, .ref d4])), (d1, .inl (E.2.1.1, 6, .inl (nA (dw)))), (d2, .inl (E.2.1.1, 6, .inl (nA (dc)))), (d3, .inl (E.2.1.1, 6, .inl (mpR (fun k => bitsI (fitB sk wt dw dc (piS i dn k)) nb) fq dn))), (d4, .inl (E.2.1.1, 1024, .inl (nA (rowT (fun k => fitB sk wt dw dc (piS i dn k)) nb dn T (p2 nb))))), (f0, .inr (2, [.int (nI (nb)), .int (yr), .ref fk, .ref ft, .ref fw, .ref fs, .ref fg, .ref fc])), (fw, .inl (E.2.1.1, 10, .inl (nA (wt)))), (fs, .inl (E.2.1.1, 10, .inl (nA (sk))))]) (fun s => [(0, .ref d0), (1, .int (nI (i))), (2, .ref f0), (3, .int (bitsI (wS (rowT (fun k => fitB sk wt dw dc (piS i dn k)) nb dn T (p2 nb)) (fitB sk wt dw dc i) dn s) nb)), (4, .int (nI (s)))]) ?_ ?_ 0 (Nat.zero_le _)
  · intro s hs11 ih11
    have hpl := popc_le s
    show G E _ [(d0, .inr (6, [.int (nI (dn)), .ref d1, .ref d2, .ref d3, .ref d4])), (d1, .inl (E.2.1.1, 6, .inl (nA (dw)))), (d2, .inl (E.2.1.1, 6, .inl (nA (dc)))), (d3, .inl (E.2.1.1, 6, .inl (mpR (fun k => bitsI (fitB sk wt dw dc (piS i dn k)) nb) fq dn))), (d4, .inl (E.2.1.1, 1024, .inl (nA (rowT (fun k => fitB sk wt dw dc (piS i dn k)) nb dn T (p2 nb))))), (f0, .inr (2, [.int (nI (nb)), .int (yr), .ref fk, .ref ft, .ref fw, .ref fs, .ref fg, .ref fc])), (fw, .inl (E.2.1.1, 10, .inl (nA (wt)))), (fs, .inl (E.2.1.1, 10, .inl (nA (sk))))] 11 [(0, .ref d0), (1, .int (nI (i))), (2, .ref f0), (3, .int (bitsI (wS (rowT (fun k => fitB sk wt dw dc (piS i dn k)) nb dn T (p2 nb)) (fitB sk wt dw dc i) dn s) nb)), (4, .int (nI (s)))] []
    refine g_iload (q := 13) dX6_whoCanBe_11 rfl rfl ?_
    refine g_iconst (v := nI 1) (q := 14) dX6_whoCanBe_13 rfl ki_1 ?_
    refine g_aload_n (q := 15) dX6_whoCanBe_14 rfl rfl rfl ?_
    refine gf_X6_32 rfl 5 rfl rfl (q := 18) dX6_whoCanBe_15 rfl ?_
    refine g_ishl (q := 19) dX6_whoCanBe_18 rfl ?_
    refine g_top (y := nI (p2 nb)) (shl_p nb (by omega)) ?_
    refine g_icmp_geN (t := 71) (q := 22) dX6_whoCanBe_19 (by decide) rfl (by omega) (by omega) (fun c19 => ?_) (fun c19 => ?_)
    · omega
    · skip
      refine g_iload (q := 24) dX6_whoCanBe_22 rfl rfl ?_
      refine gc_X6_37 (c_bitCount (by omega)) rfl (Nat.le_of_ble_eq_true rfl) rfl [] rfl rfl (rest := []) rfl (Nat.le_of_ble_eq_true rfl) (q := 27) dX6_whoCanBe_24 rfl (exK (ws' := [_, _, _, _, _, _, _, _]) (st' := [.int (nI (popc s))]) rfl rfl ?_)
      refine g_aload_n (q := 28) dX6_whoCanBe_27 rfl rfl rfl ?_
      refine gf_X6_24 rfl 0 rfl rfl (q := 31) dX6_whoCanBe_28 rfl ?_
      refine g_iconst (v := nI 1) (q := 32) dX6_whoCanBe_31 rfl ki_1 ?_
      refine g_isubN (q := 33) dX6_whoCanBe_32 rfl (by omega) ?_
      refine g_icmp_neN (t := 65) (q := 36) dX6_whoCanBe_33 (by decide) rfl (by omega) (by omega) (fun c33 => ?_) (fun c33 => ?_)
      · skip
        refine g_iinc (lv' := [(0, _), (1, _), (2, _), (3, _), (4, _)]) (v := nI (s + 1)) (q := 68) dX6_whoCanBe_65 rfl rfl (nI_inc _) (Nat.le_of_ble_eq_true rfl) rfl ?_
        refine g_goto (q := 11) dX6_whoCanBe_68 (by decide) ?_
        rw [show wS (rowT (fun k => fitB sk wt dw dc (piS i dn k)) nb dn T (p2 nb)) (fitB sk wt dw dc i) dn (s + 1) = wS (rowT (fun k => fitB sk wt dw dc (piS i dn k)) nb dn T (p2 nb)) (fitB sk wt dw dc i) dn s from by funext b; simp [wS, anyN, show ¬ popc s + 1 = dn by omega]] at ih11
        exact ih11
      · skip
        refine g_aload_n (q := 37) dX6_whoCanBe_36 rfl rfl rfl ?_
        refine gf_X6_21 rfl 0 rfl rfl (q := 40) dX6_whoCanBe_37 rfl ?_
        refine g_iload (q := 42) dX6_whoCanBe_40 rfl rfl ?_
        refine g_iald (v := nI ((rowT (fun k => fitB sk wt dw dc (piS i dn k)) nb dn T (p2 nb)) s)) 4 rfl (ixIn (j := s) rfl (by omega) (by decide)) (ixV (j := s) rfl (by omega)) (q := 43) dX6_whoCanBe_42 rfl ?_
        refine g_if_le (t := 65) (q := 46) dX6_whoCanBe_43 (by decide) rfl (fun c43 => ?_) (fun c43 => ?_)
        · skip
          refine g_iinc (lv' := [(0, _), (1, _), (2, _), (3, _), (4, _)]) (v := nI (s + 1)) (q := 68) dX6_whoCanBe_65 rfl rfl (nI_inc _) (Nat.le_of_ble_eq_true rfl) rfl ?_
          refine g_goto (q := 11) dX6_whoCanBe_68 (by decide) ?_
          rw [show wS (rowT (fun k => fitB sk wt dw dc (piS i dn k)) nb dn T (p2 nb)) (fitB sk wt dw dc i) dn (s + 1) = wS (rowT (fun k => fitB sk wt dw dc (piS i dn k)) nb dn T (p2 nb)) (fitB sk wt dw dc i) dn s from by funext b; simp [wS, anyN, show ¬ 0 < (rowT (fun k => fitB sk wt dw dc (piS i dn k)) nb dn T (p2 nb)) s from fun z => by have hT := rowT_bd (c := (fun k => fitB sk wt dw dc (piS i dn k))) (T := T) hdn hnb hs11; have := (Int32.le_iff_toInt_le).mp c43; rw [nI_toInt (by omega)] at this; simp at this; omega]] at ih11
          exact ih11
        · skip
          refine g_iload_n (q := 47) dX6_whoCanBe_46 rfl rfl rfl ?_
          refine g_aload_n (q := 48) dX6_whoCanBe_47 rfl rfl rfl ?_
          refine gf_X6_18 rfl 0 rfl rfl (q := 51) dX6_whoCanBe_48 rfl ?_
          refine g_aload_n (q := 52) dX6_whoCanBe_51 rfl rfl rfl ?_
          refine gf_X6_24 rfl 0 rfl rfl (q := 55) dX6_whoCanBe_52 rfl ?_
          refine g_iconst (v := nI 1) (q := 56) dX6_whoCanBe_55 rfl ki_1 ?_
          refine g_isubN (q := 57) dX6_whoCanBe_56 rfl (by omega) ?_
          refine g_iald (v := (mpR (fun k => bitsI (fitB sk wt dw dc (piS i dn k)) nb) fq dn) (dn - 1)) 3 rfl (ixIn (j := dn - 1) rfl (by omega) (by decide)) (ixV (j := dn - 1) rfl (by omega)) (q := 58) dX6_whoCanBe_57 rfl ?_
          refine g_top (y := bitsI (fitB sk wt dw dc i) nb) ((mpR_lt (by omega)).trans (by rw [show piS i dn (dn - 1) = i from if_pos rfl])) ?_
          refine g_iload (q := 60) dX6_whoCanBe_58 rfl rfl ?_
          refine g_iconst (v := (-1)) (q := 61) dX6_whoCanBe_60 rfl ki_m1 ?_
          refine g_ixor (q := 62) dX6_whoCanBe_61 rfl ?_
          refine g_iand (q := 63) dX6_whoCanBe_62 rfl ?_
          refine g_ior (q := 64) dX6_whoCanBe_63 rfl ?_
          refine g_istore_n (lv' := [(0, _), (1, _), (2, _), (3, _), (4, _)]) (q := 65) dX6_whoCanBe_64 rfl rfl (Nat.le_of_ble_eq_true rfl) rfl ?_
          refine g_iinc (lv' := [(0, _), (1, _), (2, _), (3, _), (4, _)]) (v := nI (s + 1)) (q := 68) dX6_whoCanBe_65 rfl rfl (nI_inc _) (Nat.le_of_ble_eq_true rfl) rfl ?_
          refine g_goto (q := 11) dX6_whoCanBe_68 (by decide) ?_
          rw [show wS (rowT (fun k => fitB sk wt dw dc (piS i dn k)) nb dn T (p2 nb)) (fitB sk wt dw dc i) dn (s + 1) = (fun b => wS (rowT (fun k => fitB sk wt dw dc (piS i dn k)) nb dn T (p2 nb)) (fitB sk wt dw dc i) dn s b || ((fitB sk wt dw dc i) b && !s.testBit b)) from by funext b; simp [wS, anyN, show popc s + 1 = dn by omega, show 0 < (rowT (fun k => fitB sk wt dw dc (piS i dn k)) nb dn T (p2 nb)) s from Nat.pos_of_ne_zero (fun z => by rw [z] at c43; exact absurd c43 (by decide))]] at ih11
          rw [← orAnd (by omega) hnb] at ih11
          exact ih11
  · skip
    show G E _ [(d0, .inr (6, [.int (nI (dn)), .ref d1, .ref d2, .ref d3, .ref d4])), (d1, .inl (E.2.1.1, 6, .inl (nA (dw)))), (d2, .inl (E.2.1.1, 6, .inl (nA (dc)))), (d3, .inl (E.2.1.1, 6, .inl (mpR (fun k => bitsI (fitB sk wt dw dc (piS i dn k)) nb) fq dn))), (d4, .inl (E.2.1.1, 1024, .inl (nA (rowT (fun k => fitB sk wt dw dc (piS i dn k)) nb dn T (p2 nb))))), (f0, .inr (2, [.int (nI (nb)), .int (yr), .ref fk, .ref ft, .ref fw, .ref fs, .ref fg, .ref fc])), (fw, .inl (E.2.1.1, 10, .inl (nA (wt)))), (fs, .inl (E.2.1.1, 10, .inl (nA (sk))))] 11 [(0, .ref d0), (1, .int (nI (i))), (2, .ref f0), (3, .int (bitsI (wS (rowT (fun k => fitB sk wt dw dc (piS i dn k)) nb dn T (p2 nb)) (fitB sk wt dw dc i) dn (p2 nb)) nb)), (4, .int (nI (p2 nb)))] []
    refine g_iload (q := 13) dX6_whoCanBe_11 rfl rfl ?_
    refine g_iconst (v := nI 1) (q := 14) dX6_whoCanBe_13 rfl ki_1 ?_
    refine g_aload_n (q := 15) dX6_whoCanBe_14 rfl rfl rfl ?_
    refine gf_X6_32 rfl 5 rfl rfl (q := 18) dX6_whoCanBe_15 rfl ?_
    refine g_ishl (q := 19) dX6_whoCanBe_18 rfl ?_
    refine g_top (y := nI (p2 nb)) (shl_p nb (by omega)) ?_
    refine g_icmp_geN (t := 71) (q := 22) dX6_whoCanBe_19 (by decide) rfl (by omega) (by omega) (fun c19 => ?_) (fun c19 => ?_)
    · skip
      refine g_iload_n (q := 72) dX6_whoCanBe_71 rfl rfl rfl ?_
      refine g_iret (st := []) dX6_whoCanBe_72 rfl rfl rfl ?_
      exact (xr rfl)
    · omega
set_option maxHeartbeats 2000000 in
set_option maxRecDepth 20000 in
theorem c_who {E : EN} {p0 u0 l0 r0 f0 kp ik x0 s0 q0 g0 b0 ora c0 d0 : Nat} {d1 d2 d3 d4 dn : Nat} {fk ft fw fs fg fc nb yr : Nat} {sk wt dw dc : Nat → Nat} {fq : Nat → Int32} {T : Nat → Nat} {x : Int32} (hdn : dn ≤ 6) (hnb : nb ≤ 10) (hdw : ∀ j, j < 6 → dw j < 1000) (hdc : ∀ j, j < 6 → dc j < 1000) (hwt : ∀ j, j < 10 → wt j < 100) (hsk : ∀ j, j < 10 → sk j < 4)  : CT E yX9_who cX9_who 2 (some .int) 4 [.ref p0, .int (x)] [(p0, .inr (9, [.ref u0, .ref l0, .ref r0, .ref f0, .ref kp, .ref ik, .ref x0, .ref s0, .ref q0, .ref g0, .ref b0, .ref ora, .ref c0, .ref d0])), (f0, .inr (2, [.int (nI (nb)), .int (nI (yr)), .ref fk, .ref ft, .ref fw, .ref fs, .ref fg, .ref fc])), (fw, .inl (E.2.1.1, 10, .inl (nA (wt)))), (fs, .inl (E.2.1.1, 10, .inl (nA (sk)))), (d0, .inr (6, [.int (nI (dn)), .ref d1, .ref d2, .ref d3, .ref d4])), (d1, .inl (E.2.1.1, 6, .inl (nA (dw)))), (d2, .inl (E.2.1.1, 6, .inl (nA (dc)))), (d3, .inl (E.2.1.1, 6, .inl (fq))), (d4, .inl (E.2.1.1, 1024, .inl (nA (T))))] (fun r w => ∃ (fq' : Nat → Int32) (T' : Nat → Nat), xQ (some (.int (opWhoC nb dn sk wt dw dc T x))) [(p0, .inr (9, [.ref u0, .ref l0, .ref r0, .ref f0, .ref kp, .ref ik, .ref x0, .ref s0, .ref q0, .ref g0, .ref b0, .ref ora, .ref c0, .ref d0])), (f0, .inr (2, [.int (nI (nb)), .int (nI (yr)), .ref fk, .ref ft, .ref fw, .ref fs, .ref fg, .ref fc])), (fw, .inl (E.2.1.1, 10, .inl (nA (wt)))), (fs, .inl (E.2.1.1, 10, .inl (nA (sk)))), (d0, .inr (6, [.int (nI (dn)), .ref d1, .ref d2, .ref d3, .ref d4])), (d1, .inl (E.2.1.1, 6, .inl (nA (dw)))), (d2, .inl (E.2.1.1, 6, .inl (nA (dc)))), (d3, .inl (E.2.1.1, 6, .inl (fq'))), (d4, .inl (E.2.1.1, 1024, .inl (nA (T'))))] r w) := by
  refine ct_of (by decide +kernel) (Nat.le_of_ble_eq_true rfl) (lv := [(0, .ref p0), (1, .int (x))]) rfl (fun A => ?_)
  refine g_iload_n (q := 1) dX9_who_0 rfl rfl rfl ?_
  refine g_iconst (v := (-1)) (q := 2) dX9_who_1 rfl ki_m1 ?_
  refine g_aload_n (q := 3) dX9_who_2 rfl rfl rfl ?_
  refine gf_X9_90 rfl 0 rfl rfl (q := 6) dX9_who_3 rfl ?_
  refine gf_X9_134 rfl 4 rfl rfl (q := 9) dX9_who_6 rfl ?_
  refine g_iconst (v := nI 1) (q := 10) dX9_who_9 rfl ki_1 ?_
  refine g_isub (q := 11) dX9_who_10 rfl ?_
  refine gc_X9_187 (c_isNotIn) rfl (Nat.le_of_ble_eq_true rfl) rfl [] rfl rfl (rest := []) rfl (Nat.le_of_ble_eq_true rfl) (q := 14) dX9_who_11 rfl (exK (ws' := [_, _, _, _, _, _, _, _, _]) (st' := [.int (bI (ninB x (-1) (nI dn - nI 1)))]) rfl rfl ?_)
  refine g_top (y := bI (wq x dn).isNone) (by rw [wq_in hdn]) ?_
  refine g_if_eq (t := 20) (q := 17) dX9_who_14 (by decide) rfl (fun c14 => ?_) (fun c14 => ?_)
  · obtain ⟨o, ho⟩ := isNone_f (bI_eq0.mp c14)
    rcases wq_some ho with ⟨rfl, rfl⟩ | ⟨i, hi, rfl, rfl⟩
    · skip
      refine g_iload_n (q := 21) dX9_who_20 rfl rfl rfl ?_
      refine g_iconst (v := (-1)) (q := 22) dX9_who_21 rfl ki_m1 ?_
      refine g_icmp_ne (t := 37) (q := 25) dX9_who_22 (by decide) rfl (fun c22 => ?_) (fun c22 => ?_)
      · exact absurd c22 (by decide)
      · skip
        refine g_aload_n (q := 26) dX9_who_25 rfl rfl rfl ?_
        refine gf_X9_90 rfl 0 rfl rfl (q := 29) dX9_who_26 rfl ?_
        refine g_aload_n (q := 30) dX9_who_29 rfl rfl rfl ?_
        refine gf_X9_35 rfl 0 rfl rfl (q := 33) dX9_who_30 rfl ?_
        refine gc_X9_272 (c_countRows hdn hnb hdw hdc hwt hsk) rfl (Nat.le_of_ble_eq_true rfl) rfl 4 rfl [4, 5, 6, 7, 8, 1, 2, 3] rfl rfl (rest := []) rfl (Nat.le_of_ble_eq_true rfl) (q := 36) dX9_who_33 rfl (exK (ws' := [_, (_, .inr (_, [_, _, _, _, _, _, _, _])), (_, .inl (_, _, .inl _)), (_, .inl (_, _, .inl _)), (_, .inr (_, [_, _, _, _, _])), (_, .inl (_, _, .inl _)), (_, .inl (_, _, .inl _)), (_, .inl (_, _, .inl _)), (_, .inl (_, _, .inl _))]) (st' := [.int (nI (cS (rowT (fun k => fitB sk wt dw dc (piS (dn - 1) dn k)) nb dn T (p2 nb)) dn (p2 nb)))]) rfl rfl ?_)
        refine g_iret (st := []) dX9_who_36 rfl rfl rfl ?_
        exact ⟨(mpR (fun k => bitsI (fitB sk wt dw dc (piS (dn - 1) dn k)) nb) fq dn), (rowT (fun k => fitB sk wt dw dc (piS (dn - 1) dn k)) nb dn T (p2 nb)), xr (by simp only [opWhoC, ho])⟩
    · skip
      refine g_iload_n (q := 21) dX9_who_20 rfl rfl rfl ?_
      refine g_iconst (v := (-1)) (q := 22) dX9_who_21 rfl ki_m1 ?_
      refine g_icmp_ne (t := 37) (q := 25) dX9_who_22 (by decide) rfl (fun c22 => ?_) (fun c22 => ?_)
      · skip
        refine g_aload_n (q := 38) dX9_who_37 rfl rfl rfl ?_
        refine gf_X9_90 rfl 0 rfl rfl (q := 41) dX9_who_38 rfl ?_
        refine g_iload_n (q := 42) dX9_who_41 rfl rfl rfl ?_
        refine g_aload_n (q := 43) dX9_who_42 rfl rfl rfl ?_
        refine gf_X9_35 rfl 0 rfl rfl (q := 46) dX9_who_43 rfl ?_
        refine gc_X9_276 (c_whoCanBe hi hdn hnb hdw hdc hwt hsk) rfl (Nat.le_of_ble_eq_true rfl) rfl 4 rfl [4, 5, 6, 7, 8, 1, 2, 3] rfl rfl (rest := []) rfl (Nat.le_of_ble_eq_true rfl) (q := 49) dX9_who_46 rfl (exK (ws' := [_, (_, .inr (_, [_, _, _, _, _, _, _, _])), (_, .inl (_, _, .inl _)), (_, .inl (_, _, .inl _)), (_, .inr (_, [_, _, _, _, _])), (_, .inl (_, _, .inl _)), (_, .inl (_, _, .inl _)), (_, .inl (_, _, .inl _)), (_, .inl (_, _, .inl _))]) (st' := [.int (bitsI (wS (rowT (fun k => fitB sk wt dw dc (piS i dn k)) nb dn T (p2 nb)) (fitB sk wt dw dc i) dn (p2 nb)) nb)]) rfl rfl ?_)
        refine g_iret (st := []) dX9_who_49 rfl rfl rfl ?_
        exact ⟨(mpR (fun k => bitsI (fitB sk wt dw dc (piS i dn k)) nb) fq dn), (rowT (fun k => fitB sk wt dw dc (piS i dn k)) nb dn T (p2 nb)), xr (by simp only [opWhoC, ho])⟩
      · exact absurd c22 (nI_m1 (by omega))
  · have no := isNone_t (bI_ne0.mp c14)
    refine g_bipush (v := (-3)) (q := 19) dX9_who_17 rfl kb_m3 ?_
    refine g_iret (st := []) dX9_who_19 rfl rfl rfl ?_
    exact ⟨(fq), (T), xr (by simp only [opWhoC, no])⟩
