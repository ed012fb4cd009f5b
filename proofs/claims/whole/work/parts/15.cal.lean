set_option maxHeartbeats 2000000 in
set_option maxRecDepth 20000 in
theorem c_xhas {E : EN} {x0 xb xg en : Nat} {eb eg : Nat → Nat} {b : Nat} (hn : en ≤ 8) (hb : b < 1000) (heb : ∀ i, i < en → eb i < 10) : CT E yX1_has cX1_has 3 (some .boolean) 0 [.ref x0, .int (nI (b))] [(x0, .inr (1, [.int (nI (en)), .ref xb, .ref xg])), (xb, .inl (E.2.1.1, 8, .inl (nA (eb)))), (xg, .inl (E.2.1.1, 8, .inl (nA (eg))))] (xQ (some (.int (bI (hasE eb b en)))) [(x0, .inr (1, [.int (nI (en)), .ref xb, .ref xg])), (xb, .inl (E.2.1.1, 8, .inl (nA (eb)))), (xg, .inl (E.2.1.1, 8, .inl (nA (eg))))]) := by
  refine ct_of (by decide +kernel) (Nat.le_of_ble_eq_true rfl) (lv := [(0, .ref x0), (1, .int (nI (b)))]) rfl (fun A => ?_)
  refine g_iconst (v := nI 0) (q := 1) dX1_has_0 rfl ki_0 ?_
  refine g_istore_n (lv' := [(0, _), (1, _), (2, _)]) (q := 2) dX1_has_1 rfl rfl (Nat.le_of_ble_eq_true rfl) rfl ?_
  refine g_loopI (en) (fun i => hasE eb b i = false) (fun i => [(x0, .inr (1, [.int (nI (en)), .ref xb, .ref xg])), (xb, .inl (E.2.1.1, 8, .inl (nA (eb)))), (xg, .inl (E.2.1.1, 8, .inl (nA (eg))))]) (fun i => [(0, .ref x0), (1, .int (nI (b))), (2, .int (nI (i)))]) ?_ ?_ 0 (Nat.zero_le _) (rfl)
  · intro i hi2 hv2 ih2
    have he1 := heb i hi2
    show G E _ [(x0, .inr (1, [.int (nI (en)), .ref xb, .ref xg])), (xb, .inl (E.2.1.1, 8, .inl (nA (eb)))), (xg, .inl (E.2.1.1, 8, .inl (nA (eg))))] 2 [(0, .ref x0), (1, .int (nI (b))), (2, .int (nI (i)))] []
    refine g_iload_n (q := 3) dX1_has_2 rfl rfl rfl ?_
    refine g_aload_n (q := 4) dX1_has_3 rfl rfl rfl ?_
    refine gf_X1_18 rfl 0 rfl rfl (q := 7) dX1_has_4 rfl ?_
    refine g_icmp_geN (t := 28) (q := 10) dX1_has_7 (by decide) rfl (by omega) (by omega) (fun c7 => ?_) (fun c7 => ?_)
    · omega
    · skip
      refine g_aload_n (q := 11) dX1_has_10 rfl rfl rfl ?_
      refine gf_X1_9 rfl 0 rfl rfl (q := 14) dX1_has_11 rfl ?_
      refine g_iload_n (q := 15) dX1_has_14 rfl rfl rfl ?_
      refine g_iald (v := nI (eb i)) 1 rfl (ixIn (j := i) rfl (by omega) (by decide)) (ixV (j := i) rfl (by omega)) (q := 16) dX1_has_15 rfl ?_
      refine g_iload_n (q := 17) dX1_has_16 rfl rfl rfl ?_
      refine g_icmp_neN (t := 22) (q := 20) dX1_has_17 (by decide) rfl (by omega) (by omega) (fun c17 => ?_) (fun c17 => ?_)
      · skip
        refine g_iinc (lv' := [(0, _), (1, _), (2, _)]) (v := nI (i + 1)) (q := 25) dX1_has_22 rfl rfl (nI_inc _) (Nat.le_of_ble_eq_true rfl) rfl ?_
        refine g_goto (q := 2) dX1_has_25 (by decide) ?_
        exact ih2 (by unfold hasE; rw [hv2]; simp [c17])
      · skip
        refine g_iconst (v := nI 1) (q := 21) dX1_has_20 rfl ki_1 ?_
        refine g_iret (st := []) dX1_has_21 rfl (narZ (by first | exact Or.inl rfl | exact Or.inr rfl)) rfl ?_
        exact (xr (by rw [hasE_t hi2 c17]; rfl))
  · intro hv2
    show G E _ [(x0, .inr (1, [.int (nI (en)), .ref xb, .ref xg])), (xb, .inl (E.2.1.1, 8, .inl (nA (eb)))), (xg, .inl (E.2.1.1, 8, .inl (nA (eg))))] 2 [(0, .ref x0), (1, .int (nI (b))), (2, .int (nI (en)))] []
    refine g_iload_n (q := 3) dX1_has_2 rfl rfl rfl ?_
    refine g_aload_n (q := 4) dX1_has_3 rfl rfl rfl ?_
    refine gf_X1_18 rfl 0 rfl rfl (q := 7) dX1_has_4 rfl ?_
    refine g_icmp_geN (t := 28) (q := 10) dX1_has_7 (by decide) rfl (by omega) (by omega) (fun c7 => ?_) (fun c7 => ?_)
    · skip
      refine g_iconst (v := nI 0) (q := 29) dX1_has_28 rfl ki_0 ?_
      refine g_iret (st := []) dX1_has_29 rfl (narZ (by first | exact Or.inl rfl | exact Or.inr rfl)) rfl ?_
      exact (xr (by rw [hv2]; rfl))
    · omega
set_option maxHeartbeats 2000000 in
set_option maxRecDepth 20000 in
theorem c_train {E : EN} {f0 fk ft fw fs fg fc nb : Nat} {yr : Int32}{kd sk gr : Nat → Nat} {b c : Nat} (hb : b < 10) (hc : c < 4) (hkd : ∀ j, j < 10 → kd j < 4) (hsk : ∀ j, j < 10 → sk j < 4) (hgr : ∀ j, j < 10 → gr j < 10)  : CT E yX0_train cX0_train 4 (none) 1 [.int (nI (b)), .ref f0, .int (nI (c))] [(f0, .inr (2, [.int (nI (nb)), .int (yr), .ref fk, .ref ft, .ref fw, .ref fs, .ref fg, .ref fc])), (fk, .inl (E.2.1.1, 10, .inl (nA (kd)))), (fs, .inl (E.2.1.1, 10, .inl (nA (sk)))), (fg, .inl (E.2.1.1, 10, .inl (nA (gr))))] (xQ none [(f0, .inr (2, [.int (nI (nb)), .int (yr), .ref fk, .ref ft, .ref fw, .ref fs, .ref fg, .ref fc])), (fk, .inl (E.2.1.1, 10, .inl (nA (kd)))), (fs, .inl (E.2.1.1, 10, .inl (nA (updn sk b (trS (sk b) (gr b) c))))), (fg, .inl (E.2.1.1, 10, .inl (nA (updn gr b (trG (kd b) (sk b) (gr b) c)))))]) := by
  refine ct_of (by decide +kernel) (Nat.le_of_ble_eq_true rfl) (lv := [(0, .int (nI (b))), (1, .ref f0), (2, .int (nI (c)))]) rfl (fun A => ?_)
  refine g_aload_n (q := 1) dX0_train_0 rfl rfl rfl ?_
  refine gf_X0_50 rfl 0 rfl rfl (q := 4) dX0_train_1 rfl ?_
  refine g_iload_n (q := 5) dX0_train_4 rfl rfl rfl ?_
  have hb1 := hgr (b) (by omega)
  refine g_iald (v := nI (gr b)) 3 rfl (ixIn (j := b) rfl (by omega) (by decide)) (ixV (j := b) rfl (by omega)) (q := 6) dX0_train_5 rfl ?_
  refine g_istore_n (lv' := [(0, _), (1, _), (2, _), (3, _)]) (q := 7) dX0_train_6 rfl rfl (Nat.le_of_ble_eq_true rfl) rfl ?_
  refine g_aload_n (q := 8) dX0_train_7 rfl rfl rfl ?_
  refine gf_X0_53 rfl 0 rfl rfl (q := 11) dX0_train_8 rfl ?_
  refine g_iload_n (q := 12) dX0_train_11 rfl rfl rfl ?_
  have hb2 := hsk (b) (by omega)
  refine g_iald (v := nI (sk b)) 2 rfl (ixIn (j := b) rfl (by omega) (by decide)) (ixV (j := b) rfl (by omega)) (q := 13) dX0_train_12 rfl ?_
  refine g_iload_n (q := 14) dX0_train_13 rfl rfl rfl ?_
  refine g_icmp_neN (t := 41) (q := 17) dX0_train_14 (by decide) rfl (by omega) (by omega) (fun c14 => ?_) (fun c14 => ?_)
  · skip
    refine g_aload_n (q := 42) dX0_train_41 rfl rfl rfl ?_
    refine gf_X0_50 rfl 0 rfl rfl (q := 45) dX0_train_42 rfl ?_
    refine g_iload_n (q := 46) dX0_train_45 rfl rfl rfl ?_
    refine g_iconst (v := nI 0) (q := 47) dX0_train_46 rfl ki_0 ?_
    refine g_iload_n (q := 48) dX0_train_47 rfl rfl rfl ?_
    refine g_iconst (v := nI 1) (q := 49) dX0_train_48 rfl ki_1 ?_
    refine g_isub (q := 50) dX0_train_49 rfl ?_
    refine g_mmax rfl ml_X0_67 mt_mmax mi_J9 mc_mmax (Nat.le_of_ble_eq_true rfl) (Nat.le_of_ble_eq_true rfl) (q := 53) dX0_train_50 rfl ?_
    refine g_top (y := nI (gr b - 1)) (max0 (by omega)) ?_
    refine g_iast (f' := (nA (updn gr b (gr b - 1)))) 3 rfl (ixIn (j := b) rfl (by omega) (by decide)) (ixUn (j := b) rfl (by omega)) (ws' := [_, _, _, (_, .inl (_, _, .inl _))]) rfl (q := 54) dX0_train_53 rfl ?_
    refine g_aload_n (q := 55) dX0_train_54 rfl rfl rfl ?_
    refine gf_X0_50 rfl 0 rfl rfl (q := 58) dX0_train_55 rfl ?_
    refine g_iload_n (q := 59) dX0_train_58 rfl rfl rfl ?_
    refine g_iald (v := nI (gr b - 1)) 3 rfl (ixIn (j := b) rfl (by omega) (by decide)) (ixVs (by omega)) (q := 60) dX0_train_59 rfl ?_
    refine g_if_neN (t := 70) (q := 63) dX0_train_60 (by decide) rfl (by omega) (fun c60 => ?_) (fun c60 => ?_)
    · skip
      refine g_vret (st := []) dX0_train_70 rfl rfl ?_
      exact xv (by rw [trS, trG, if_neg c14, if_neg c14, if_neg c60, updn_id])
    · skip
      refine g_aload_n (q := 64) dX0_train_63 rfl rfl rfl ?_
      refine gf_X0_53 rfl 0 rfl rfl (q := 67) dX0_train_64 rfl ?_
      refine g_iload_n (q := 68) dX0_train_67 rfl rfl rfl ?_
      refine g_iload_n (q := 69) dX0_train_68 rfl rfl rfl ?_
      refine g_iast (f' := (nA (updn sk b c))) 2 rfl (ixIn (j := b) rfl (by omega) (by decide)) (ixUn (j := b) rfl (by omega)) (ws' := [_, _, (_, .inl (_, _, .inl _)), _]) rfl (q := 70) dX0_train_69 rfl ?_
      refine g_vret (st := []) dX0_train_70 rfl rfl ?_
      exact xv (by rw [trS, trG, if_neg c14, if_neg c14, if_pos c60])
  · skip
    refine g_aload_n (q := 18) dX0_train_17 rfl rfl rfl ?_
    refine gf_X0_50 rfl 0 rfl rfl (q := 21) dX0_train_18 rfl ?_
    refine g_iload_n (q := 22) dX0_train_21 rfl rfl rfl ?_
    refine g_bipush (v := nI 9) (q := 24) dX0_train_22 rfl kb_9 ?_
    refine g_iload_n (q := 25) dX0_train_24 rfl rfl rfl ?_
    refine g_gr rfl (q := 28) dX0_train_25 rfl ?_
    refine g_aload_n (q := 29) dX0_train_28 rfl rfl rfl ?_
    refine gf_X0_59 rfl 0 rfl rfl (q := 32) dX0_train_29 rfl ?_
    refine g_iload_n (q := 33) dX0_train_32 rfl rfl rfl ?_
    have hb3 := hkd (b) (by omega)
    refine g_iald (v := nI (kd b)) 1 rfl (ixIn (j := b) rfl (by omega) (by decide)) (ixV (j := b) rfl (by omega)) (q := 34) dX0_train_33 rfl ?_
    have hgw := grwN_le (kd b)
    refine g_grldC (j := kd b) (v := nI (grwN (kd b))) (by omega) (grF_nI (by omega)) (q := 35) dX0_train_34 rfl ?_
    refine g_iaddN (q := 36) dX0_train_35 rfl ?_
    refine g_mminN rfl ml_X0_62 (Nat.le_of_ble_eq_true rfl) (Nat.le_of_ble_eq_true rfl) (by omega) (by omega) (q := 39) dX0_train_36 rfl ?_
    refine g_iast (f' := (nA (updn gr b (min 9 ((gr b) + (grwN (kd b))))))) 3 rfl (ixIn (j := b) rfl (by omega) (by decide)) (ixUn (j := b) rfl (by omega)) (ws' := [_, _, _, (_, .inl (_, _, .inl _))]) rfl (q := 40) dX0_train_39 rfl ?_
    refine g_vret (st := []) dX0_train_40 rfl rfl ?_
    exact xv (by rw [trS, trG, if_pos c14, if_pos c14, updn_id])
set_option maxHeartbeats 2000000 in
set_option maxRecDepth 20000 in
theorem c_goesRather {E : EN} {f0 fk ft fw fs fg fc nb : Nat} {yr : Int32}{wt gr : Nat → Nat} {a b lw : Nat} (ha : a < 10) (hb : b < 10) (hlw : lw < 4) (hwt : ∀ j, j < 10 → wt j < 100) (hgr : ∀ j, j < 10 → gr j < 10)  : CT E yX0_goesRather cX0_goesRather 4 (some .boolean) 0 [.int (nI (a)), .int (nI (b)), .ref f0, .int (nI (lw))] [(f0, .inr (2, [.int (nI (nb)), .int (yr), .ref fk, .ref ft, .ref fw, .ref fs, .ref fg, .ref fc])), (fw, .inl (E.2.1.1, 10, .inl (nA (wt)))), (fg, .inl (E.2.1.1, 10, .inl (nA (gr))))] (xQ (some (.int (bI (rath lw wt gr a b)))) [(f0, .inr (2, [.int (nI (nb)), .int (yr), .ref fk, .ref ft, .ref fw, .ref fs, .ref fg, .ref fc])), (fw, .inl (E.2.1.1, 10, .inl (nA (wt)))), (fg, .inl (E.2.1.1, 10, .inl (nA (gr))))]) := by
  refine ct_of (by decide +kernel) (Nat.le_of_ble_eq_true rfl) (lv := [(0, .int (nI (a))), (1, .int (nI (b))), (2, .ref f0), (3, .int (nI (lw)))]) rfl (fun A => ?_)
  refine g_iload_n (q := 1) dX0_goesRather_0 rfl rfl rfl ?_
  rcases (show lw = 0 ∨ lw = 1 ∨ (lw ≠ 0 ∧ lw ≠ 1) by omega) with h0 | h1 | ⟨h0, h1⟩
  · subst h0
    refine g_lookup (off := 27) (q := 28) dX0_goesRather_1 (by decide) (by decide) (by decide) ?_
    refine g_aload_n (q := 29) dX0_goesRather_28 rfl rfl rfl ?_
    refine gf_X0_24 rfl 0 rfl rfl (q := 32) dX0_goesRather_29 rfl ?_
    refine g_iload_n (q := 33) dX0_goesRather_32 rfl rfl rfl ?_
    have hb1 := hwt (a) (by omega)
    refine g_iald (v := nI (wt a)) 1 rfl (ixIn (j := a) rfl (by omega) (by decide)) (ixV (j := a) rfl (by omega)) (q := 34) dX0_goesRather_33 rfl ?_
    refine g_aload_n (q := 35) dX0_goesRather_34 rfl rfl rfl ?_
    refine gf_X0_24 rfl 0 rfl rfl (q := 38) dX0_goesRather_35 rfl ?_
    refine g_iload_n (q := 39) dX0_goesRather_38 rfl rfl rfl ?_
    have hb2 := hwt (b) (by omega)
    refine g_iald (v := nI (wt b)) 1 rfl (ixIn (j := b) rfl (by omega) (by decide)) (ixV (j := b) rfl (by omega)) (q := 40) dX0_goesRather_39 rfl ?_
    refine g_icmp_leN (t := 47) (q := 43) dX0_goesRather_40 (by decide) rfl (by omega) (by omega) (fun c40 => ?_) (fun c40 => ?_)
    · skip
      refine g_iconst (v := nI 0) (q := 48) dX0_goesRather_47 rfl ki_0 ?_
      refine g_iret (st := []) dX0_goesRather_48 rfl (narZ (by first | exact Or.inl rfl | exact Or.inr rfl)) rfl ?_
      exact xr (by rw [show rath _ wt gr a b = false by simp [rath]; omega]; rfl)
    · skip
      refine g_iconst (v := nI 1) (q := 44) dX0_goesRather_43 rfl ki_1 ?_
      refine g_goto (q := 48) dX0_goesRather_44 (by decide) ?_
      refine g_iret (st := []) dX0_goesRather_48 rfl (narZ (by first | exact Or.inl rfl | exact Or.inr rfl)) rfl ?_
      exact xr (by rw [show rath _ wt gr a b = true by simp [rath]; omega]; rfl)
  · subst h1
    refine g_lookup (off := 48) (q := 49) dX0_goesRather_1 (by decide) (by decide) (by decide) ?_
    refine g_aload_n (q := 50) dX0_goesRather_49 rfl rfl rfl ?_
    refine gf_X0_24 rfl 0 rfl rfl (q := 53) dX0_goesRather_50 rfl ?_
    refine g_iload_n (q := 54) dX0_goesRather_53 rfl rfl rfl ?_
    have hb3 := hwt (a) (by omega)
    refine g_iald (v := nI (wt a)) 1 rfl (ixIn (j := a) rfl (by omega) (by decide)) (ixV (j := a) rfl (by omega)) (q := 55) dX0_goesRather_54 rfl ?_
    refine g_aload_n (q := 56) dX0_goesRather_55 rfl rfl rfl ?_
    refine gf_X0_24 rfl 0 rfl rfl (q := 59) dX0_goesRather_56 rfl ?_
    refine g_iload_n (q := 60) dX0_goesRather_59 rfl rfl rfl ?_
    have hb4 := hwt (b) (by omega)
    refine g_iald (v := nI (wt b)) 1 rfl (ixIn (j := b) rfl (by omega) (by decide)) (ixV (j := b) rfl (by omega)) (q := 61) dX0_goesRather_60 rfl ?_
    refine g_icmp_geN (t := 68) (q := 64) dX0_goesRather_61 (by decide) rfl (by omega) (by omega) (fun c61 => ?_) (fun c61 => ?_)
    · skip
      refine g_iconst (v := nI 0) (q := 69) dX0_goesRather_68 rfl ki_0 ?_
      refine g_iret (st := []) dX0_goesRather_69 rfl (narZ (by first | exact Or.inl rfl | exact Or.inr rfl)) rfl ?_
      exact xr (by rw [show rath _ wt gr a b = false by simp [rath]; omega]; rfl)
    · skip
      refine g_iconst (v := nI 1) (q := 65) dX0_goesRather_64 rfl ki_1 ?_
      refine g_goto (q := 69) dX0_goesRather_65 (by decide) ?_
      refine g_iret (st := []) dX0_goesRather_69 rfl (narZ (by first | exact Or.inl rfl | exact Or.inr rfl)) rfl ?_
      exact xr (by rw [show rath _ wt gr a b = true by simp [rath]; omega]; rfl)
  · skip
    refine g_lookup (off := 69) (q := 70) dX0_goesRather_1 (by decide) (by rcases (show lw = 2 ∨ lw = 3 by omega) with rfl | rfl <;> decide) (by decide) ?_
    refine g_aload_n (q := 71) dX0_goesRather_70 rfl rfl rfl ?_
    refine gf_X0_50 rfl 0 rfl rfl (q := 74) dX0_goesRather_71 rfl ?_
    refine g_iload_n (q := 75) dX0_goesRather_74 rfl rfl rfl ?_
    have hb5 := hgr (a) (by omega)
    refine g_iald (v := nI (gr a)) 2 rfl (ixIn (j := a) rfl (by omega) (by decide)) (ixV (j := a) rfl (by omega)) (q := 76) dX0_goesRather_75 rfl ?_
    refine g_aload_n (q := 77) dX0_goesRather_76 rfl rfl rfl ?_
    refine gf_X0_50 rfl 0 rfl rfl (q := 80) dX0_goesRather_77 rfl ?_
    refine g_iload_n (q := 81) dX0_goesRather_80 rfl rfl rfl ?_
    have hb6 := hgr (b) (by omega)
    refine g_iald (v := nI (gr b)) 2 rfl (ixIn (j := b) rfl (by omega) (by decide)) (ixV (j := b) rfl (by omega)) (q := 82) dX0_goesRather_81 rfl ?_
    refine g_icmp_geN (t := 89) (q := 85) dX0_goesRather_82 (by decide) rfl (by omega) (by omega) (fun c82 => ?_) (fun c82 => ?_)
    · skip
      refine g_iconst (v := nI 0) (q := 90) dX0_goesRather_89 rfl ki_0 ?_
      refine g_iret (st := []) dX0_goesRather_90 rfl (narZ (by first | exact Or.inl rfl | exact Or.inr rfl)) rfl ?_
      exact xr (by rw [show rath _ wt gr a b = false by simp [rath, h0, h1]; omega]; rfl)
    · skip
      refine g_iconst (v := nI 1) (q := 86) dX0_goesRather_85 rfl ki_1 ?_
      refine g_goto (q := 90) dX0_goesRather_86 (by decide) ?_
      refine g_iret (st := []) dX0_goesRather_90 rfl (narZ (by first | exact Or.inl rfl | exact Or.inr rfl)) rfl ?_
      exact xr (by rw [show rath _ wt gr a b = true by simp [rath, h0, h1]; omega]; rfl)
set_option maxHeartbeats 2000000 in
set_option maxRecDepth 20000 in
theorem c_chooseSent {E : EN} {s0 s1 : Nat} {f0 fk ft fw fs fg fc nb : Nat} {yr : Int32}{l0 lc lr lf lv ln t0 nt lw sl : Nat} {kd tw wt gr : Nat → Nat} {sn : Nat → Int32} (hn : nb ≤ 10) (hlw : lw < 4) (hkd : ∀ j, j < 10 → kd j < 4) (htw : ∀ j, j < 10 → tw j < 6) (hwt : ∀ j, j < 10 → wt j < 100) (hgr : ∀ j, j < 10 → gr j < 10)  : CT E yX0_chooseSent cX0_chooseSent 5 (none) 1 [.ref s0, .ref f0, .ref l0] [(s0, .inr (0, [.ref s1])), (s1, .inl (E.2.1.1, 6, .inl (sn))), (f0, .inr (2, [.int (nI (nb)), .int (yr), .ref fk, .ref ft, .ref fw, .ref fs, .ref fg, .ref fc])), (fk, .inl (E.2.1.1, 10, .inl (nA (kd)))), (ft, .inl (E.2.1.1, 10, .inl (nA (tw)))), (fw, .inl (E.2.1.1, 10, .inl (nA (wt)))), (fg, .inl (E.2.1.1, 10, .inl (nA (gr)))), (l0, .inr (3, [.int (nI (nt)), .int (nI (lw)), .int (nI (sl)), .ref lc, .ref lr, .ref lf, .ref lv, .ref ln, .ref t0]))] (xQ none [(s0, .inr (0, [.ref s1])), (s1, .inl (E.2.1.1, 6, .inl (oA (fun t => bst lw kd tw wt gr t nb)))), (f0, .inr (2, [.int (nI (nb)), .int (yr), .ref fk, .ref ft, .ref fw, .ref fs, .ref fg, .ref fc])), (fk, .inl (E.2.1.1, 10, .inl (nA (kd)))), (ft, .inl (E.2.1.1, 10, .inl (nA (tw)))), (fw, .inl (E.2.1.1, 10, .inl (nA (wt)))), (fg, .inl (E.2.1.1, 10, .inl (nA (gr)))), (l0, .inr (3, [.int (nI (nt)), .int (nI (lw)), .int (nI (sl)), .ref lc, .ref lr, .ref lf, .ref lv, .ref ln, .ref t0]))]) := by
  refine ct_of (by decide +kernel) (Nat.le_of_ble_eq_true rfl) (lv := [(0, .ref s0), (1, .ref f0), (2, .ref l0)]) rfl (fun A => ?_)
  refine g_iconst (v := nI 0) (q := 1) dX0_chooseSent_0 rfl ki_0 ?_
  refine g_istore_n (lv' := [(0, _), (1, _), (2, _), (3, _)]) (q := 2) dX0_chooseSent_1 rfl rfl (Nat.le_of_ble_eq_true rfl) rfl ?_
  refine g_eq (ws' := [(s0, .inr (0, [.ref s1])), (s1, .inl (E.2.1.1, 6, .inl (mpR (fun _ => -1) sn 0))), (f0, .inr (2, [.int (nI (nb)), .int (yr), .ref fk, .ref ft, .ref fw, .ref fs, .ref fg, .ref fc])), (fk, .inl (E.2.1.1, 10, .inl (nA (kd)))), (ft, .inl (E.2.1.1, 10, .inl (nA (tw)))), (fw, .inl (E.2.1.1, 10, .inl (nA (wt)))), (fg, .inl (E.2.1.1, 10, .inl (nA (gr)))), (l0, .inr (3, [.int (nI (nt)), .int (nI (lw)), .int (nI (sl)), .ref lc, .ref lr, .ref lf, .ref lv, .ref ln, .ref t0]))]) ?_ (by rw [mpR_0]) rfl rfl
  refine g_loop (6) (fun i => [(s0, .inr (0, [.ref s1])), (s1, .inl (E.2.1.1, 6, .inl (mpR (fun _ => -1) sn i))), (f0, .inr (2, [.int (nI (nb)), .int (yr), .ref fk, .ref ft, .ref fw, .ref fs, .ref fg, .ref fc])), (fk, .inl (E.2.1.1, 10, .inl (nA (kd)))), (ft, .inl (E.2.1.1, 10, .inl (nA (tw)))), (fw, .inl (E.2.1.1, 10, .inl (nA (wt)))), (fg, .inl (E.2.1.1, 10, .inl (nA (gr)))), (l0, .inr (3, [.int (nI (nt)), .int (nI (lw)), .int (nI (sl)), .ref lc, .ref lr, .ref lf, .ref lv, .ref ln, .ref t0]))]) (fun i => [(0, .ref s0), (1, .ref f0), (2, .ref l0), (3, .int (nI (i)))]) ?_ ?_ 0 (Nat.zero_le _)
  · intro i hi2 ih2
    show G E _ [(s0, .inr (0, [.ref s1])), (s1, .inl (E.2.1.1, 6, .inl (mpR (fun _ => -1) sn i))), (f0, .inr (2, [.int (nI (nb)), .int (yr), .ref fk, .ref ft, .ref fw, .ref fs, .ref fg, .ref fc])), (fk, .inl (E.2.1.1, 10, .inl (nA (kd)))), (ft, .inl (E.2.1.1, 10, .inl (nA (tw)))), (fw, .inl (E.2.1.1, 10, .inl (nA (wt)))), (fg, .inl (E.2.1.1, 10, .inl (nA (gr)))), (l0, .inr (3, [.int (nI (nt)), .int (nI (lw)), .int (nI (sl)), .ref lc, .ref lr, .ref lf, .ref lv, .ref ln, .ref t0]))] 2 [(0, .ref s0), (1, .ref f0), (2, .ref l0), (3, .int (nI (i)))] []
    refine g_iload_n (q := 3) dX0_chooseSent_2 rfl rfl rfl ?_
    refine g_bipush (v := nI 6) (q := 5) dX0_chooseSent_3 rfl kb_6 ?_
    refine g_icmp_geN (t := 21) (q := 8) dX0_chooseSent_5 (by decide) rfl (by omega) (by omega) (fun c5 => ?_) (fun c5 => ?_)
    · omega
    · skip
      refine g_aload_n (q := 9) dX0_chooseSent_8 rfl rfl rfl ?_
      refine gf_X0_9 rfl 0 rfl rfl (q := 12) dX0_chooseSent_9 rfl ?_
      refine g_iload_n (q := 13) dX0_chooseSent_12 rfl rfl rfl ?_
      refine g_iconst (v := (-1)) (q := 14) dX0_chooseSent_13 rfl ki_m1 ?_
      refine g_iast (f' := (upd (mpR (fun _ => -1) sn i) i (-1))) 1 rfl (ixIn (j := i) rfl (by omega) (by decide)) (ixU (j := i) rfl (by omega)) (ws' := [_, (_, .inl (_, _, .inl _)), _, _, _, _, _, _]) rfl (q := 15) dX0_chooseSent_14 rfl ?_
      refine g_iinc (lv' := [(0, _), (1, _), (2, _), (3, _)]) (v := nI (i + 1)) (q := 18) dX0_chooseSent_15 rfl rfl (nI_inc _) (Nat.le_of_ble_eq_true rfl) rfl ?_
      refine g_goto (q := 2) dX0_chooseSent_18 (by decide) ?_
      rw [mpR_s] at ih2
      exact ih2
  · skip
    show G E _ [(s0, .inr (0, [.ref s1])), (s1, .inl (E.2.1.1, 6, .inl (mpR (fun _ => -1) sn 6))), (f0, .inr (2, [.int (nI (nb)), .int (yr), .ref fk, .ref ft, .ref fw, .ref fs, .ref fg, .ref fc])), (fk, .inl (E.2.1.1, 10, .inl (nA (kd)))), (ft, .inl (E.2.1.1, 10, .inl (nA (tw)))), (fw, .inl (E.2.1.1, 10, .inl (nA (wt)))), (fg, .inl (E.2.1.1, 10, .inl (nA (gr)))), (l0, .inr (3, [.int (nI (nt)), .int (nI (lw)), .int (nI (sl)), .ref lc, .ref lr, .ref lf, .ref lv, .ref ln, .ref t0]))] 2 [(0, .ref s0), (1, .ref f0), (2, .ref l0), (3, .int (nI (6)))] []
    refine g_iload_n (q := 3) dX0_chooseSent_2 rfl rfl rfl ?_
    refine g_bipush (v := nI 6) (q := 5) dX0_chooseSent_3 rfl kb_6 ?_
    refine g_icmp_geN (t := 21) (q := 8) dX0_chooseSent_5 (by decide) rfl (by omega) (by omega) (fun c5 => ?_) (fun c5 => ?_)
    · skip
      refine g_cong (oA (fun t => bst lw kd tw wt gr t 0)) 1 rfl (fun j hj => by rw [mpR_lt hj]; rfl) (ws' := [(s0, .inr (0, [.ref s1])), (s1, .inl (E.2.1.1, 6, .inl (oA (fun t => bst lw kd tw wt gr t 0)))), (f0, .inr (2, [.int (nI (nb)), .int (yr), .ref fk, .ref ft, .ref fw, .ref fs, .ref fg, .ref fc])), (fk, .inl (E.2.1.1, 10, .inl (nA (kd)))), (ft, .inl (E.2.1.1, 10, .inl (nA (tw)))), (fw, .inl (E.2.1.1, 10, .inl (nA (wt)))), (fg, .inl (E.2.1.1, 10, .inl (nA (gr)))), (l0, .inr (3, [.int (nI (nt)), .int (nI (lw)), .int (nI (sl)), .ref lc, .ref lr, .ref lf, .ref lv, .ref ln, .ref t0]))]) rfl ?_
      refine g_iconst (v := nI 0) (q := 22) dX0_chooseSent_21 rfl ki_0 ?_
      refine g_istore_n (lv' := [(0, _), (1, _), (2, _), (3, _)]) (q := 23) dX0_chooseSent_22 rfl rfl (Nat.le_of_ble_eq_true rfl) rfl ?_
      refine g_loop (nb) (fun i => [(s0, .inr (0, [.ref s1])), (s1, .inl (E.2.1.1, 6, .inl (oA (fun t => bst lw kd tw wt gr t i)))), (f0, .inr (2, [.int (nI (nb)), .int (yr), .ref fk, .ref ft, .ref fw, .ref fs, .ref fg, .ref fc])), (fk, .inl (E.2.1.1, 10, .inl (nA (kd)))), (ft, .inl (E.2.1.1, 10, .inl (nA (tw)))), (fw, .inl (E.2.1.1, 10, .inl (nA (wt)))), (fg, .inl (E.2.1.1, 10, .inl (nA (gr)))), (l0, .inr (3, [.int (nI (nt)), .int (nI (lw)), .int (nI (sl)), .ref lc, .ref lr, .ref lf, .ref lv, .ref ln, .ref t0]))]) (fun i => [(0, .ref s0), (1, .ref f0), (2, .ref l0), (3, .int (nI (i)))]) ?_ ?_ 0 (Nat.zero_le _)
      · intro i hi23 ih23
        show G E _ [(s0, .inr (0, [.ref s1])), (s1, .inl (E.2.1.1, 6, .inl (oA (fun t => bst lw kd tw wt gr t i)))), (f0, .inr (2, [.int (nI (nb)), .int (yr), .ref fk, .ref ft, .ref fw, .ref fs, .ref fg, .ref fc])), (fk, .inl (E.2.1.1, 10, .inl (nA (kd)))), (ft, .inl (E.2.1.1, 10, .inl (nA (tw)))), (fw, .inl (E.2.1.1, 10, .inl (nA (wt)))), (fg, .inl (E.2.1.1, 10, .inl (nA (gr)))), (l0, .inr (3, [.int (nI (nt)), .int (nI (lw)), .int (nI (sl)), .ref lc, .ref lr, .ref lf, .ref lv, .ref ln, .ref t0]))] 23 [(0, .ref s0), (1, .ref f0), (2, .ref l0), (3, .int (nI (i)))] []
        refine g_iload_n (q := 24) dX0_chooseSent_23 rfl rfl rfl ?_
        refine g_aload_n (q := 25) dX0_chooseSent_24 rfl rfl rfl ?_
        refine gf_X0_15 rfl 2 rfl rfl (q := 28) dX0_chooseSent_25 rfl ?_
        refine g_icmp_geN (t := 96) (q := 31) dX0_chooseSent_28 (by decide) rfl (by omega) (by omega) (fun c28 => ?_) (fun c28 => ?_)
        · omega
        · skip
          refine g_aload_n (q := 32) dX0_chooseSent_31 rfl rfl rfl ?_
          refine gf_X0_21 rfl 2 rfl rfl (q := 35) dX0_chooseSent_32 rfl ?_
          refine g_iload_n (q := 36) dX0_chooseSent_35 rfl rfl rfl ?_
          have hb1 := htw (i) (by omega)
          refine g_iald (v := nI (tw i)) 4 rfl (ixIn (j := i) rfl (by omega) (by decide)) (ixV (j := i) rfl (by omega)) (q := 37) dX0_chooseSent_36 rfl ?_
          refine g_istore (lv' := [(0, _), (1, _), (2, _), (3, _), (4, _)]) (q := 39) dX0_chooseSent_37 rfl (Nat.le_of_ble_eq_true rfl) rfl ?_
          refine g_aload_n (q := 40) dX0_chooseSent_39 rfl rfl rfl ?_
          refine gf_X0_59 rfl 2 rfl rfl (q := 43) dX0_chooseSent_40 rfl ?_
          refine g_iload_n (q := 44) dX0_chooseSent_43 rfl rfl rfl ?_
          have hb2 := hkd (i) (by omega)
          refine g_iald (v := nI (kd i)) 3 rfl (ixIn (j := i) rfl (by omega) (by decide)) (ixV (j := i) rfl (by omega)) (q := 45) dX0_chooseSent_44 rfl ?_
          refine g_iconst (v := nI 3) (q := 46) dX0_chooseSent_45 rfl ki_3 ?_
          refine g_icmp_neN (t := 52) (q := 49) dX0_chooseSent_46 (by decide) rfl (by omega) (by omega) (fun c46 => ?_) (fun c46 => ?_)
          · skip
            refine g_aload_n (q := 53) dX0_chooseSent_52 rfl rfl rfl ?_
            refine gf_X0_9 rfl 0 rfl rfl (q := 56) dX0_chooseSent_53 rfl ?_
            refine g_iload (q := 58) dX0_chooseSent_56 rfl rfl ?_
            refine g_iald (v := (oA (fun t => bst lw kd tw wt gr t i)) (tw i)) 1 rfl (ixIn (j := tw i) rfl (by omega) (by decide)) (ixV (j := tw i) rfl (by omega)) (q := 59) dX0_chooseSent_58 rfl ?_
            rcases hS : bst lw kd tw wt gr (tw i) i with _ | m
            · refine g_top (y := (-1)) (by simp only [oA, hS]; rfl) ?_
              refine g_iconst (v := (-1)) (q := 60) dX0_chooseSent_59 rfl ki_m1 ?_
              refine g_icmp_eq (t := 82) (q := 63) dX0_chooseSent_60 (by decide) rfl (fun c60 => ?_) (fun c60 => ?_)
              · skip
                refine g_aload_n (q := 83) dX0_chooseSent_82 rfl rfl rfl ?_
                refine gf_X0_9 rfl 0 rfl rfl (q := 86) dX0_chooseSent_83 rfl ?_
                refine g_iload (q := 88) dX0_chooseSent_86 rfl rfl ?_
                refine g_iload_n (q := 89) dX0_chooseSent_88 rfl rfl rfl ?_
                refine g_iast (f' := (upd (oA (fun t => bst lw kd tw wt gr t i)) (tw i) (nI (i)))) 1 rfl (ixIn (j := tw i) rfl (by omega) (by decide)) (ixU (j := tw i) rfl (by omega)) (ws' := [_, (_, .inl (_, _, .inl _)), _, _, _, _, _, _]) rfl (q := 90) dX0_chooseSent_89 rfl ?_
                refine g_iinc (lv' := [(0, _), (1, _), (2, _), (3, _), (4, _)]) (v := nI (i + 1)) (q := 93) dX0_chooseSent_90 rfl rfl (nI_inc _) (Nat.le_of_ble_eq_true rfl) rfl ?_
                refine g_goto (q := 23) dX0_chooseSent_93 (by decide) ?_
                refine g_less (lv' := [(0, _), (1, _), (2, _), (3, _)]) 4 rfl ?_
                rw [bst_take c46 (Or.inl hS), ← upd_oA] at ih23
                exact ih23
              · exact absurd (by decide) c60
            · have hm := bst_lt hS
              refine g_top (y := nI m) (by simp only [oA, hS]; rfl) ?_
              refine g_iconst (v := (-1)) (q := 60) dX0_chooseSent_59 rfl ki_m1 ?_
              refine g_icmp_eq (t := 82) (q := 63) dX0_chooseSent_60 (by decide) rfl (fun c60 => ?_) (fun c60 => ?_)
              · exact absurd c60 (nI_m1 (by omega))
              · skip
                refine g_iload_n (q := 64) dX0_chooseSent_63 rfl rfl rfl ?_
                refine g_aload_n (q := 65) dX0_chooseSent_64 rfl rfl rfl ?_
                refine gf_X0_9 rfl 0 rfl rfl (q := 68) dX0_chooseSent_65 rfl ?_
                refine g_iload (q := 70) dX0_chooseSent_68 rfl rfl ?_
                refine g_iald (v := (oA (fun t => bst lw kd tw wt gr t i)) (tw i)) 1 rfl (ixIn (j := tw i) rfl (by omega) (by decide)) (ixV (j := tw i) rfl (by omega)) (q := 71) dX0_chooseSent_70 rfl ?_
                refine g_top (y := nI (m)) (by simp only [oA, hS]; rfl) ?_
                refine g_aload_n (q := 72) dX0_chooseSent_71 rfl rfl rfl ?_
                refine g_aload_n (q := 73) dX0_chooseSent_72 rfl rfl rfl ?_
                refine gf_X0_70 rfl 7 rfl rfl (q := 76) dX0_chooseSent_73 rfl ?_
                refine gc_X0_90 (c_goesRather (by omega) (by omega) hlw hwt hgr) rfl (Nat.le_of_ble_eq_true rfl) rfl [2, 5, 6] rfl rfl (rest := []) rfl (Nat.le_of_ble_eq_true rfl) (q := 79) dX0_chooseSent_76 rfl (exK (ws' := [_, _, _, _, _, _, _, _]) (st' := [.int (bI (rath lw wt gr i m))]) rfl rfl ?_)
                refine g_if_eq (t := 90) (q := 82) dX0_chooseSent_79 (by decide) rfl (fun c79 => ?_) (fun c79 => ?_)
                · skip
                  refine g_iinc (lv' := [(0, _), (1, _), (2, _), (3, _), (4, _)]) (v := nI (i + 1)) (q := 93) dX0_chooseSent_90 rfl rfl (nI_inc _) (Nat.le_of_ble_eq_true rfl) rfl ?_
                  refine g_goto (q := 23) dX0_chooseSent_93 (by decide) ?_
                  refine g_less (lv' := [(0, _), (1, _), (2, _), (3, _)]) 4 rfl ?_
                  rw [bst_skip (Or.inr ⟨m, hS, bI_eq0.mp c79⟩)] at ih23
                  exact ih23
                · skip
                  refine g_aload_n (q := 83) dX0_chooseSent_82 rfl rfl rfl ?_
                  refine gf_X0_9 rfl 0 rfl rfl (q := 86) dX0_chooseSent_83 rfl ?_
                  refine g_iload (q := 88) dX0_chooseSent_86 rfl rfl ?_
                  refine g_iload_n (q := 89) dX0_chooseSent_88 rfl rfl rfl ?_
                  refine g_iast (f' := (upd (oA (fun t => bst lw kd tw wt gr t i)) (tw i) (nI (i)))) 1 rfl (ixIn (j := tw i) rfl (by omega) (by decide)) (ixU (j := tw i) rfl (by omega)) (ws' := [_, (_, .inl (_, _, .inl _)), _, _, _, _, _, _]) rfl (q := 90) dX0_chooseSent_89 rfl ?_
                  refine g_iinc (lv' := [(0, _), (1, _), (2, _), (3, _), (4, _)]) (v := nI (i + 1)) (q := 93) dX0_chooseSent_90 rfl rfl (nI_inc _) (Nat.le_of_ble_eq_true rfl) rfl ?_
                  refine g_goto (q := 23) dX0_chooseSent_93 (by decide) ?_
                  refine g_less (lv' := [(0, _), (1, _), (2, _), (3, _)]) 4 rfl ?_
                  rw [bst_take c46 (Or.inr ⟨m, hS, bI_ne0.mp c79⟩), ← upd_oA] at ih23
                  exact ih23
          · skip
            refine g_goto (q := 90) dX0_chooseSent_49 (by decide) ?_
            refine g_iinc (lv' := [(0, _), (1, _), (2, _), (3, _), (4, _)]) (v := nI (i + 1)) (q := 93) dX0_chooseSent_90 rfl rfl (nI_inc _) (Nat.le_of_ble_eq_true rfl) rfl ?_
            refine g_goto (q := 23) dX0_chooseSent_93 (by decide) ?_
            refine g_less (lv' := [(0, _), (1, _), (2, _), (3, _)]) 4 rfl ?_
            rw [bst_skip (Or.inl c46)] at ih23
            exact ih23
      · skip
        show G E _ [(s0, .inr (0, [.ref s1])), (s1, .inl (E.2.1.1, 6, .inl (oA (fun t => bst lw kd tw wt gr t nb)))), (f0, .inr (2, [.int (nI (nb)), .int (yr), .ref fk, .ref ft, .ref fw, .ref fs, .ref fg, .ref fc])), (fk, .inl (E.2.1.1, 10, .inl (nA (kd)))), (ft, .inl (E.2.1.1, 10, .inl (nA (tw)))), (fw, .inl (E.2.1.1, 10, .inl (nA (wt)))), (fg, .inl (E.2.1.1, 10, .inl (nA (gr)))), (l0, .inr (3, [.int (nI (nt)), .int (nI (lw)), .int (nI (sl)), .ref lc, .ref lr, .ref lf, .ref lv, .ref ln, .ref t0]))] 23 [(0, .ref s0), (1, .ref f0), (2, .ref l0), (3, .int (nI (nb)))] []
        refine g_iload_n (q := 24) dX0_chooseSent_23 rfl rfl rfl ?_
        refine g_aload_n (q := 25) dX0_chooseSent_24 rfl rfl rfl ?_
        refine gf_X0_15 rfl 2 rfl rfl (q := 28) dX0_chooseSent_25 rfl ?_
        refine g_icmp_geN (t := 96) (q := 31) dX0_chooseSent_28 (by decide) rfl (by omega) (by omega) (fun c28 => ?_) (fun c28 => ?_)
        · skip
          refine g_vret (st := []) dX0_chooseSent_96 rfl rfl ?_
          exact xv
        · omega
    · omega
set_option maxHeartbeats 2000000 in
set_option maxRecDepth 20000 in
theorem c_keepLent {E : EN} {s0 s1 ra : Nat} {f0 fk ft fw fs fg fc nb : Nat} {yr : Int32}{l0 lc lr lf lv ln t0 nt lw sl : Nat} {kd tw wt gr rt nx : Nat → Nat} {sn ch : Nat → Int32} (hn : nb ≤ 10) (hnt : nt ≤ 6) (hlw : lw < 4) (hnx : ∀ j, j < nt → nx j < 6) (hkd : ∀ j, j < 10 → kd j < 4) (htw : ∀ j, j < 10 → tw j < 6) (hwt : ∀ j, j < 10 → wt j < 100) (hgr : ∀ j, j < 10 → gr j < 10) (hrt : ∀ j, j < 6 → rt j < 10)  : CT E yX0_keepLent cX0_keepLent 8 (none) 3 [.ref s0, .ref f0, .ref l0, .ref ra] [(s0, .inr (0, [.ref s1])), (s1, .inl (E.2.1.1, 6, .inl (sn))), (f0, .inr (2, [.int (nI (nb)), .int (yr), .ref fk, .ref ft, .ref fw, .ref fs, .ref fg, .ref fc])), (fk, .inl (E.2.1.1, 10, .inl (nA (kd)))), (ft, .inl (E.2.1.1, 10, .inl (nA (tw)))), (fw, .inl (E.2.1.1, 10, .inl (nA (wt)))), (fg, .inl (E.2.1.1, 10, .inl (nA (gr)))), (fc, .inl (E.2.1.1, 6, .inl (ch))), (l0, .inr (3, [.int (nI (nt)), .int (nI (lw)), .int (nI (sl)), .ref lc, .ref lr, .ref lf, .ref lv, .ref ln, .ref t0])), (ln, .inl (E.2.1.1, 6, .inl (nA (nx)))), (ra, .inl (E.2.1.1, 6, .inl (nA (rt))))] (xQ none [(s0, .inr (0, [.ref s1])), (s1, .inl (E.2.1.1, 6, .inl (if lw = 3 then sn else oA (fun t => bst lw kd tw wt gr t nb)))), (f0, .inr (2, [.int (nI (nb)), .int (yr), .ref fk, .ref ft, .ref fw, .ref fs, .ref fg, .ref fc])), (fk, .inl (E.2.1.1, 10, .inl (nA (kd)))), (ft, .inl (E.2.1.1, 10, .inl (nA (if lw = 3 then tw else lenT (fun t => bst lw kd tw wt gr t nb) nx tw nt)))), (fw, .inl (E.2.1.1, 10, .inl (nA (wt)))), (fg, .inl (E.2.1.1, 10, .inl (nA (gr)))), (fc, .inl (E.2.1.1, 6, .inl (if lw = 3 then ch else lenC (fun t => bst lw kd tw wt gr t nb) kd wt rt nx tw ch nt))), (l0, .inr (3, [.int (nI (nt)), .int (nI (lw)), .int (nI (sl)), .ref lc, .ref lr, .ref lf, .ref lv, .ref ln, .ref t0])), (ln, .inl (E.2.1.1, 6, .inl (nA (nx)))), (ra, .inl (E.2.1.1, 6, .inl (nA (rt))))]) := by
  refine ct_of (by decide +kernel) (Nat.le_of_ble_eq_true rfl) (lv := [(0, .ref s0), (1, .ref f0), (2, .ref l0), (3, .ref ra)]) rfl (fun A => ?_)
  refine g_aload_n (q := 1) dX0_keepLent_0 rfl rfl rfl ?_
  refine gf_X0_70 rfl 8 rfl rfl (q := 4) dX0_keepLent_1 rfl ?_
  refine g_iconst (v := nI 3) (q := 5) dX0_keepLent_4 rfl ki_3 ?_
  refine g_icmp_neN (t := 9) (q := 8) dX0_keepLent_5 (by decide) rfl (by omega) (by omega) (fun c5 => ?_) (fun c5 => ?_)
  · skip
    refine g_aload_n (q := 10) dX0_keepLent_9 rfl rfl rfl ?_
    refine g_aload_n (q := 11) dX0_keepLent_10 rfl rfl rfl ?_
    refine g_aload_n (q := 12) dX0_keepLent_11 rfl rfl rfl ?_
    refine gc_X0_73 (c_chooseSent hn hlw hkd htw hwt hgr) rfl (Nat.le_of_ble_eq_true rfl) rfl 0 rfl [0, 1, 2, 3, 4, 5, 6, 8] rfl rfl (rest := []) rfl (Nat.le_of_ble_eq_true rfl) (q := 15) dX0_keepLent_12 rfl (exK (ws' := [(_, .inr (_, [_])), (_, .inl (_, _, .inl _)), (_, .inr (_, [_, _, _, _, _, _, _, _])), (_, .inl (_, _, .inl _)), (_, .inl (_, _, .inl _)), (_, .inl (_, _, .inl _)), (_, .inl (_, _, .inl _)), _, (_, .inr (_, [_, _, _, _, _, _, _, _, _])), _, _]) (st' := []) rfl rfl ?_)
    refine g_iconst (v := nI 0) (q := 16) dX0_keepLent_15 rfl ki_0 ?_
    refine g_istore (lv' := [(0, _), (1, _), (2, _), (3, _), (4, _)]) (q := 18) dX0_keepLent_16 rfl (Nat.le_of_ble_eq_true rfl) rfl ?_
    refine g_loop (nt) (fun i => [(s0, .inr (0, [.ref s1])), (s1, .inl (E.2.1.1, 6, .inl (oA (fun t => bst lw kd tw wt gr t nb)))), (f0, .inr (2, [.int (nI (nb)), .int (yr), .ref fk, .ref ft, .ref fw, .ref fs, .ref fg, .ref fc])), (fk, .inl (E.2.1.1, 10, .inl (nA (kd)))), (ft, .inl (E.2.1.1, 10, .inl (nA (lenT (fun t => bst lw kd tw wt gr t nb) nx tw i)))), (fw, .inl (E.2.1.1, 10, .inl (nA (wt)))), (fg, .inl (E.2.1.1, 10, .inl (nA (gr)))), (fc, .inl (E.2.1.1, 6, .inl (lenC (fun t => bst lw kd tw wt gr t nb) kd wt rt nx tw ch i))), (l0, .inr (3, [.int (nI (nt)), .int (nI (lw)), .int (nI (sl)), .ref lc, .ref lr, .ref lf, .ref lv, .ref ln, .ref t0])), (ln, .inl (E.2.1.1, 6, .inl (nA (nx)))), (ra, .inl (E.2.1.1, 6, .inl (nA (rt))))]) (fun i => [(0, .ref s0), (1, .ref f0), (2, .ref l0), (3, .ref ra), (4, .int (nI (i)))]) ?_ ?_ 0 (Nat.zero_le _)
    · intro i hi18 ih18
      show G E _ [(s0, .inr (0, [.ref s1])), (s1, .inl (E.2.1.1, 6, .inl (oA (fun t => bst lw kd tw wt gr t nb)))), (f0, .inr (2, [.int (nI (nb)), .int (yr), .ref fk, .ref ft, .ref fw, .ref fs, .ref fg, .ref fc])), (fk, .inl (E.2.1.1, 10, .inl (nA (kd)))), (ft, .inl (E.2.1.1, 10, .inl (nA (lenT (fun t => bst lw kd tw wt gr t nb) nx tw i)))), (fw, .inl (E.2.1.1, 10, .inl (nA (wt)))), (fg, .inl (E.2.1.1, 10, .inl (nA (gr)))), (fc, .inl (E.2.1.1, 6, .inl (lenC (fun t => bst lw kd tw wt gr t nb) kd wt rt nx tw ch i))), (l0, .inr (3, [.int (nI (nt)), .int (nI (lw)), .int (nI (sl)), .ref lc, .ref lr, .ref lf, .ref lv, .ref ln, .ref t0])), (ln, .inl (E.2.1.1, 6, .inl (nA (nx)))), (ra, .inl (E.2.1.1, 6, .inl (nA (rt))))] 18 [(0, .ref s0), (1, .ref f0), (2, .ref l0), (3, .ref ra), (4, .int (nI (i)))] []
      refine g_iload (q := 20) dX0_keepLent_18 rfl rfl ?_
      refine g_aload_n (q := 21) dX0_keepLent_20 rfl rfl rfl ?_
      refine gf_X0_77 rfl 8 rfl rfl (q := 24) dX0_keepLent_21 rfl ?_
      refine g_icmp_geN (t := 99) (q := 27) dX0_keepLent_24 (by decide) rfl (by omega) (by omega) (fun c24 => ?_) (fun c24 => ?_)
      · omega
      · skip
        refine g_aload_n (q := 28) dX0_keepLent_27 rfl rfl rfl ?_
        refine gf_X0_9 rfl 0 rfl rfl (q := 31) dX0_keepLent_28 rfl ?_
        refine g_iload (q := 33) dX0_keepLent_31 rfl rfl ?_
        refine g_iald (v := (oA (fun t => bst lw kd tw wt gr t nb)) i) 1 rfl (ixIn (j := i) rfl (by omega) (by decide)) (ixV (j := i) rfl (by omega)) (q := 34) dX0_keepLent_33 rfl ?_
        rcases hS : bst lw kd tw wt gr i nb with _ | b
        · refine g_top (y := (-1)) (by simp only [oA, hS]; rfl) ?_
          refine g_istore (lv' := [(0, _), (1, _), (2, _), (3, _), (4, _), (5, _)]) (q := 36) dX0_keepLent_34 rfl (Nat.le_of_ble_eq_true rfl) rfl ?_
          refine g_iload (q := 38) dX0_keepLent_36 rfl rfl ?_
          refine g_iconst (v := (-1)) (q := 39) dX0_keepLent_38 rfl ki_m1 ?_
          refine g_icmp_eq (t := 93) (q := 42) dX0_keepLent_39 (by decide) rfl (fun c39 => ?_) (fun c39 => ?_)
          · skip
            refine g_iinc (lv' := [(0, _), (1, _), (2, _), (3, _), (4, _), (5, _)]) (v := nI (i + 1)) (q := 96) dX0_keepLent_93 rfl rfl (nI_inc _) (Nat.le_of_ble_eq_true rfl) rfl ?_
            refine g_goto (q := 18) dX0_keepLent_96 (by decide) ?_
            refine g_less (lv' := [(0, _), (1, _), (2, _), (3, _), (4, _)]) 5 rfl ?_
            simp only [lenT, lenC, hS] at ih18
            exact ih18
          · exact absurd (by decide) c39
        · have hm := bst_lt hS
          have hx1 := hnx i hi18
          refine g_top (y := nI b) (by simp only [oA, hS]; rfl) ?_
          refine g_istore (lv' := [(0, _), (1, _), (2, _), (3, _), (4, _), (5, _)]) (q := 36) dX0_keepLent_34 rfl (Nat.le_of_ble_eq_true rfl) rfl ?_
          refine g_iload (q := 38) dX0_keepLent_36 rfl rfl ?_
          refine g_iconst (v := (-1)) (q := 39) dX0_keepLent_38 rfl ki_m1 ?_
          refine g_icmp_eq (t := 93) (q := 42) dX0_keepLent_39 (by decide) rfl (fun c39 => ?_) (fun c39 => ?_)
          · exact absurd c39 (nI_m1 (by omega))
          · skip
            refine g_aload_n (q := 43) dX0_keepLent_42 rfl rfl rfl ?_
            refine g_iload (q := 45) dX0_keepLent_43 rfl rfl ?_
            refine g_aload_n (q := 46) dX0_keepLent_45 rfl rfl rfl ?_
            refine gc_X0_80 (c_worth (by omega) hkd (lenT_lt hnx htw i (by omega)) hwt hrt) rfl (Nat.le_of_ble_eq_true rfl) rfl 2 rfl [2, 3, 4, 5, 10] rfl rfl (rest := []) rfl (Nat.le_of_ble_eq_true rfl) (q := 49) dX0_keepLent_46 rfl (exK (ws' := [_, _, _, _, _, _, _, _, _, _, _]) (st' := [.int (nI (pnd (kd b) (wt b) * rt (lenT (fun t => bst lw kd tw wt gr t nb) nx tw i b)))]) rfl rfl ?_)
            refine g_istore (lv' := [(0, _), (1, _), (2, _), (3, _), (4, _), (5, _), (6, _)]) (q := 51) dX0_keepLent_49 rfl (Nat.le_of_ble_eq_true rfl) rfl ?_
            refine g_aload_n (q := 52) dX0_keepLent_51 rfl rfl rfl ?_
            refine gf_X0_84 rfl 8 rfl rfl (q := 55) dX0_keepLent_52 rfl ?_
            refine g_iload (q := 57) dX0_keepLent_55 rfl rfl ?_
            refine g_iald (v := nI (nx i)) 9 rfl (ixIn (j := i) rfl (by omega) (by decide)) (ixV (j := i) rfl (by omega)) (q := 58) dX0_keepLent_57 rfl ?_
            refine g_istore (lv' := [(0, _), (1, _), (2, _), (3, _), (4, _), (5, _), (6, _), (7, _)]) (q := 60) dX0_keepLent_58 rfl (Nat.le_of_ble_eq_true rfl) rfl ?_
            refine g_aload_n (q := 61) dX0_keepLent_60 rfl rfl rfl ?_
            refine gf_X0_87 rfl 2 rfl rfl (q := 64) dX0_keepLent_61 rfl ?_
            refine g_iload (q := 66) dX0_keepLent_64 rfl rfl ?_
            refine g_dup2 (q := 67) dX0_keepLent_66 rfl rfl rfl ?_
            refine g_iald (v := (lenC (fun t => bst lw kd tw wt gr t nb) kd wt rt nx tw ch i) i) 7 rfl (ixIn (j := i) rfl (by omega) (by decide)) (ixV (j := i) rfl (by omega)) (q := 68) dX0_keepLent_67 rfl ?_
            refine g_iload (q := 70) dX0_keepLent_68 rfl rfl ?_
            refine g_iadd (q := 71) dX0_keepLent_70 rfl ?_
            refine g_iast (f' := (upd (lenC (fun t => bst lw kd tw wt gr t nb) kd wt rt nx tw ch i) i (((lenC (fun t => bst lw kd tw wt gr t nb) kd wt rt nx tw ch i) i) + (nI (pnd (kd b) (wt b) * rt (lenT (fun t => bst lw kd tw wt gr t nb) nx tw i b)))))) 7 rfl (ixIn (j := i) rfl (by omega) (by decide)) (ixU (j := i) rfl (by omega)) (ws' := [_, _, _, _, _, _, _, (_, .inl (_, _, .inl _)), _, _, _]) rfl (q := 72) dX0_keepLent_71 rfl ?_
            refine g_aload_n (q := 73) dX0_keepLent_72 rfl rfl rfl ?_
            refine gf_X0_87 rfl 2 rfl rfl (q := 76) dX0_keepLent_73 rfl ?_
            refine g_iload (q := 78) dX0_keepLent_76 rfl rfl ?_
            refine g_dup2 (q := 79) dX0_keepLent_78 rfl rfl rfl ?_
            refine g_iald (v := (upd (lenC (fun t => bst lw kd tw wt gr t nb) kd wt rt nx tw ch i) i (((lenC (fun t => bst lw kd tw wt gr t nb) kd wt rt nx tw ch i) i) + (nI (pnd (kd b) (wt b) * rt (lenT (fun t => bst lw kd tw wt gr t nb) nx tw i b))))) (nx i)) 7 rfl (ixIn (j := nx i) rfl (by omega) (by decide)) (ixV (j := nx i) rfl (by omega)) (q := 80) dX0_keepLent_79 rfl ?_
            refine g_iload (q := 82) dX0_keepLent_80 rfl rfl ?_
            refine g_isub (q := 83) dX0_keepLent_82 rfl ?_
            refine g_iast (f' := (upd (upd (lenC (fun t => bst lw kd tw wt gr t nb) kd wt rt nx tw ch i) i (((lenC (fun t => bst lw kd tw wt gr t nb) kd wt rt nx tw ch i) i) + (nI (pnd (kd b) (wt b) * rt (lenT (fun t => bst lw kd tw wt gr t nb) nx tw i b))))) (nx i) (((upd (lenC (fun t => bst lw kd tw wt gr t nb) kd wt rt nx tw ch i) i (((lenC (fun t => bst lw kd tw wt gr t nb) kd wt rt nx tw ch i) i) + (nI (pnd (kd b) (wt b) * rt (lenT (fun t => bst lw kd tw wt gr t nb) nx tw i b))))) (nx i)) - (nI (pnd (kd b) (wt b) * rt (lenT (fun t => bst lw kd tw wt gr t nb) nx tw i b)))))) 7 rfl (ixIn (j := nx i) rfl (by omega) (by decide)) (ixU (j := nx i) rfl (by omega)) (ws' := [_, _, _, _, _, _, _, (_, .inl (_, _, .inl _)), _, _, _]) rfl (q := 84) dX0_keepLent_83 rfl ?_
            refine g_aload_n (q := 85) dX0_keepLent_84 rfl rfl rfl ?_
            refine gf_X0_21 rfl 2 rfl rfl (q := 88) dX0_keepLent_85 rfl ?_
            refine g_iload (q := 90) dX0_keepLent_88 rfl rfl ?_
            refine g_iload (q := 92) dX0_keepLent_90 rfl rfl ?_
            refine g_iast (f' := (nA (updn (lenT (fun t => bst lw kd tw wt gr t nb) nx tw i) b (nx i)))) 4 rfl (ixIn (j := b) rfl (by omega) (by decide)) (ixUn (j := b) rfl (by omega)) (ws' := [_, _, _, _, (_, .inl (_, _, .inl _)), _, _, _, _, _, _]) rfl (q := 93) dX0_keepLent_92 rfl ?_
            refine g_iinc (lv' := [(0, _), (1, _), (2, _), (3, _), (4, _), (5, _), (6, _), (7, _)]) (v := nI (i + 1)) (q := 96) dX0_keepLent_93 rfl rfl (nI_inc _) (Nat.le_of_ble_eq_true rfl) rfl ?_
            refine g_goto (q := 18) dX0_keepLent_96 (by decide) ?_
            refine g_less (lv' := [(0, _), (1, _), (2, _), (3, _), (4, _)]) 5 rfl ?_
            simp only [lenT, lenC, hS] at ih18
            exact ih18
    · skip
      show G E _ [(s0, .inr (0, [.ref s1])), (s1, .inl (E.2.1.1, 6, .inl (oA (fun t => bst lw kd tw wt gr t nb)))), (f0, .inr (2, [.int (nI (nb)), .int (yr), .ref fk, .ref ft, .ref fw, .ref fs, .ref fg, .ref fc])), (fk, .inl (E.2.1.1, 10, .inl (nA (kd)))), (ft, .inl (E.2.1.1, 10, .inl (nA (lenT (fun t => bst lw kd tw wt gr t nb) nx tw nt)))), (fw, .inl (E.2.1.1, 10, .inl (nA (wt)))), (fg, .inl (E.2.1.1, 10, .inl (nA (gr)))), (fc, .inl (E.2.1.1, 6, .inl (lenC (fun t => bst lw kd tw wt gr t nb) kd wt rt nx tw ch nt))), (l0, .inr (3, [.int (nI (nt)), .int (nI (lw)), .int (nI (sl)), .ref lc, .ref lr, .ref lf, .ref lv, .ref ln, .ref t0])), (ln, .inl (E.2.1.1, 6, .inl (nA (nx)))), (ra, .inl (E.2.1.1, 6, .inl (nA (rt))))] 18 [(0, .ref s0), (1, .ref f0), (2, .ref l0), (3, .ref ra), (4, .int (nI (nt)))] []
      refine g_iload (q := 20) dX0_keepLent_18 rfl rfl ?_
      refine g_aload_n (q := 21) dX0_keepLent_20 rfl rfl rfl ?_
      refine gf_X0_77 rfl 8 rfl rfl (q := 24) dX0_keepLent_21 rfl ?_
      refine g_icmp_geN (t := 99) (q := 27) dX0_keepLent_24 (by decide) rfl (by omega) (by omega) (fun c24 => ?_) (fun c24 => ?_)
      · skip
        refine g_vret (st := []) dX0_keepLent_99 rfl rfl ?_
        exact xv (by rw [if_neg c5, if_neg c5, if_neg c5])
      · omega
  · skip
    refine g_vret (st := []) dX0_keepLent_8 rfl rfl ?_
    exact xv (by rw [if_pos c5, if_pos c5, if_pos c5])
