set_option maxHeartbeats 2000000 in
set_option maxRecDepth 20000 in
theorem c_canBeWith {E : EN} {c0 c1 c2 c3 sn : Nat} {st_ sb sw : Nat → Nat} {x : Int32} (hsn : sn ≤ 12) (hsb : ∀ j, j < 12 → sb j < 100)  : CT E yX7_canBeWith cX7_canBeWith 6 (some .boolean) 0 [.ref c0, .int (x)] [(c0, .inr (7, [.int (nI (sn)), .ref c1, .ref c2, .ref c3])), (c1, .inl (E.2.1.1, 12, .inl (nA (st_)))), (c2, .inl (E.2.1.1, 12, .inl (nA (sb)))), (c3, .inl (E.2.1.1, 12, .inl (nA (sw))))] (xQ (some (.int (bI (cB st_ sb sw x sn)))) [(c0, .inr (7, [.int (nI (sn)), .ref c1, .ref c2, .ref c3])), (c1, .inl (E.2.1.1, 12, .inl (nA (st_)))), (c2, .inl (E.2.1.1, 12, .inl (nA (sb)))), (c3, .inl (E.2.1.1, 12, .inl (nA (sw))))]) := by
  refine ct_of (by decide +kernel) (Nat.le_of_ble_eq_true rfl) (lv := [(0, .ref c0), (1, .int (x))]) rfl (fun A => ?_)
  refine g_iconst (v := nI 0) (q := 1) dX7_canBeWith_0 rfl ki_0 ?_
  refine g_istore_n (lv' := [(0, _), (1, _), (2, _)]) (q := 2) dX7_canBeWith_1 rfl rfl (Nat.le_of_ble_eq_true rfl) rfl ?_
  refine g_iconst (v := nI 0) (q := 3) dX7_canBeWith_2 rfl ki_0 ?_
  refine g_istore_n (lv' := [(0, _), (1, _), (2, _), (3, _)]) (q := 4) dX7_canBeWith_3 rfl rfl (Nat.le_of_ble_eq_true rfl) rfl ?_
  refine g_loopI (sn) (fun i => fstN (rowB st_ sb sw x sn) i = none) (fun i => [(c0, .inr (7, [.int (nI (sn)), .ref c1, .ref c2, .ref c3])), (c1, .inl (E.2.1.1, 12, .inl (nA (st_)))), (c2, .inl (E.2.1.1, 12, .inl (nA (sb)))), (c3, .inl (E.2.1.1, 12, .inl (nA (sw))))]) (fun i => [(0, .ref c0), (1, .int (x)), (2, .int (erI st_ sb sw x sn i)), (3, .int (nI (i)))]) ?_ ?_ 0 (Nat.zero_le _) (rfl)
  · intro i hi4 hv4 ih4
    show G E _ [(c0, .inr (7, [.int (nI (sn)), .ref c1, .ref c2, .ref c3])), (c1, .inl (E.2.1.1, 12, .inl (nA (st_)))), (c2, .inl (E.2.1.1, 12, .inl (nA (sb)))), (c3, .inl (E.2.1.1, 12, .inl (nA (sw))))] 4 [(0, .ref c0), (1, .int (x)), (2, .int (erI st_ sb sw x sn i)), (3, .int (nI (i)))] []
    refine g_iload_n (q := 5) dX7_canBeWith_4 rfl rfl rfl ?_
    refine g_aload_n (q := 6) dX7_canBeWith_5 rfl rfl rfl ?_
    refine gf_X7_21 rfl 0 rfl rfl (q := 9) dX7_canBeWith_6 rfl ?_
    refine g_icmp_geN (t := 142) (q := 12) dX7_canBeWith_9 (by decide) rfl (by omega) (by omega) (fun c9 => ?_) (fun c9 => ?_)
    · omega
    · skip
      refine g_iconst (v := nI 0) (q := 13) dX7_canBeWith_12 rfl ki_0 ?_
      refine g_istore (lv' := [(0, _), (1, _), (2, _), (3, _), (4, _)]) (q := 15) dX7_canBeWith_13 rfl (Nat.le_of_ble_eq_true rfl) rfl ?_
      refine g_loopI (sn) (fun j => fstN (prow st_ sb sw x sn i) j = none) (fun j => [(c0, .inr (7, [.int (nI (sn)), .ref c1, .ref c2, .ref c3])), (c1, .inl (E.2.1.1, 12, .inl (nA (st_)))), (c2, .inl (E.2.1.1, 12, .inl (nA (sb)))), (c3, .inl (E.2.1.1, 12, .inl (nA (sw))))]) (fun j => [(0, .ref c0), (1, .int (x)), (2, .int (erJ st_ sb sw x i (erI st_ sb sw x sn i) j)), (3, .int (nI (i))), (4, .int (nI (j)))]) ?_ ?_ 0 (Nat.zero_le _) (rfl)
      · intro j hj15 hv15 ih15
        show G E _ [(c0, .inr (7, [.int (nI (sn)), .ref c1, .ref c2, .ref c3])), (c1, .inl (E.2.1.1, 12, .inl (nA (st_)))), (c2, .inl (E.2.1.1, 12, .inl (nA (sb)))), (c3, .inl (E.2.1.1, 12, .inl (nA (sw))))] 15 [(0, .ref c0), (1, .int (x)), (2, .int (erJ st_ sb sw x i (erI st_ sb sw x sn i) j)), (3, .int (nI (i))), (4, .int (nI (j)))] []
        refine g_iload (q := 17) dX7_canBeWith_15 rfl rfl ?_
        refine g_aload_n (q := 18) dX7_canBeWith_17 rfl rfl rfl ?_
        refine gf_X7_21 rfl 0 rfl rfl (q := 21) dX7_canBeWith_18 rfl ?_
        refine g_icmp_geN (t := 136) (q := 24) dX7_canBeWith_21 (by decide) rfl (by omega) (by omega) (fun c21 => ?_) (fun c21 => ?_)
        · omega
        · skip
          refine g_aload_n (q := 25) dX7_canBeWith_24 rfl rfl rfl ?_
          refine gf_X7_15 rfl 0 rfl rfl (q := 28) dX7_canBeWith_25 rfl ?_
          refine g_iload_n (q := 29) dX7_canBeWith_28 rfl rfl rfl ?_
          have e1 := hsb i (by omega)
          refine g_iald (v := nI (sb i)) 2 rfl (ixIn (j := i) rfl (by omega) (by decide)) (ixV (j := i) rfl (by omega)) (q := 30) dX7_canBeWith_29 rfl ?_
          have e2 := hsb j (by omega)
          refine g_aload_n (q := 31) dX7_canBeWith_30 rfl rfl rfl ?_
          refine gf_X7_15 rfl 0 rfl rfl (q := 34) dX7_canBeWith_31 rfl ?_
          refine g_iload (q := 36) dX7_canBeWith_34 rfl rfl ?_
          refine g_iald (v := nI (sb j)) 2 rfl (ixIn (j := j) rfl (by omega) (by decide)) (ixV (j := j) rfl (by omega)) (q := 37) dX7_canBeWith_36 rfl ?_
          refine g_icmp_eqN (t := 43) (q := 40) dX7_canBeWith_37 (by decide) rfl (by omega) (by omega) (fun c37 => ?_) (fun c37 => ?_)
          · skip
            refine g_aload_n (q := 44) dX7_canBeWith_43 rfl rfl rfl ?_
            refine gf_X7_18 rfl 0 rfl rfl (q := 47) dX7_canBeWith_44 rfl ?_
            refine g_iload_n (q := 48) dX7_canBeWith_47 rfl rfl rfl ?_
            refine g_iald (v := nI (sw i)) 3 rfl (ixIn (j := i) rfl (by omega) (by decide)) (ixV (j := i) rfl (by omega)) (q := 49) dX7_canBeWith_48 rfl ?_
            refine g_aload_n (q := 50) dX7_canBeWith_49 rfl rfl rfl ?_
            refine gf_X7_18 rfl 0 rfl rfl (q := 53) dX7_canBeWith_50 rfl ?_
            refine g_iload (q := 55) dX7_canBeWith_53 rfl rfl ?_
            refine g_iald (v := nI (sw j)) 3 rfl (ixIn (j := j) rfl (by omega) (by decide)) (ixV (j := j) rfl (by omega)) (q := 56) dX7_canBeWith_55 rfl ?_
            refine g_isub (q := 57) dX7_canBeWith_56 rfl ?_
            refine g_istore (lv' := [(0, _), (1, _), (2, _), (3, _), (4, _), (5, _)]) (q := 59) dX7_canBeWith_57 rfl (Nat.le_of_ble_eq_true rfl) rfl ?_
            refine g_aload_n (q := 60) dX7_canBeWith_59 rfl rfl rfl ?_
            refine gf_X7_9 rfl 0 rfl rfl (q := 63) dX7_canBeWith_60 rfl ?_
            refine g_iload_n (q := 64) dX7_canBeWith_63 rfl rfl rfl ?_
            refine g_iald (v := nI (st_ i)) 1 rfl (ixIn (j := i) rfl (by omega) (by decide)) (ixV (j := i) rfl (by omega)) (q := 65) dX7_canBeWith_64 rfl ?_
            refine g_iload_n (q := 66) dX7_canBeWith_65 rfl rfl rfl ?_
            refine g_icmp_ne (t := 73) (q := 69) dX7_canBeWith_66 (by decide) rfl (fun c66 => ?_) (fun c66 => ?_)
            · skip
              refine g_iconst (v := nI 0) (q := 74) dX7_canBeWith_73 rfl ki_0 ?_
              refine g_aload_n (q := 75) dX7_canBeWith_74 rfl rfl rfl ?_
              refine gf_X7_9 rfl 0 rfl rfl (q := 78) dX7_canBeWith_75 rfl ?_
              refine g_iload (q := 80) dX7_canBeWith_78 rfl rfl ?_
              refine g_iald (v := nI (st_ j)) 1 rfl (ixIn (j := j) rfl (by omega) (by decide)) (ixV (j := j) rfl (by omega)) (q := 81) dX7_canBeWith_80 rfl ?_
              refine g_iload_n (q := 82) dX7_canBeWith_81 rfl rfl rfl ?_
              refine g_icmp_ne (t := 89) (q := 85) dX7_canBeWith_82 (by decide) rfl (fun c82 => ?_) (fun c82 => ?_)
              · skip
                refine g_iconst (v := nI 0) (q := 90) dX7_canBeWith_89 rfl ki_0 ?_
                refine g_icmp_neN (t := 100) (q := 93) dX7_canBeWith_90 (by decide) rfl (by omega) (by omega) (fun c90 => ?_) (fun c90 => ?_)
                · omega
                · skip
                  refine g_iload (q := 95) dX7_canBeWith_93 rfl rfl ?_
                  refine g_if_eq (t := 130) (q := 98) dX7_canBeWith_95 (by decide) rfl (fun c95 => ?_) (fun c95 => ?_)
                  · skip
                    refine g_iinc (lv' := [(0, _), (1, _), (2, _), (3, _), (4, _), (5, _)]) (v := nI (j + 1)) (q := 133) dX7_canBeWith_130 rfl rfl (nI_inc _) (Nat.le_of_ble_eq_true rfl) rfl ?_
                    refine g_goto (q := 15) dX7_canBeWith_133 (by decide) ?_
                    refine g_less (lv' := [(0, _), (1, _), (2, _), (3, _), (4, _)]) 5 rfl ?_
                    rw [erJ_s (by simp [c37, xF_f c66, xF_f c82])] at ih15
                    exact ih15 (fstN_s hv15 (by simp [prow, pairOk, c37, xF_f c66, xF_f c82, c95]))
                  · skip
                    refine g_iconst (v := nI 0) (q := 99) dX7_canBeWith_98 rfl ki_0 ?_
                    refine g_iret (st := []) dX7_canBeWith_99 rfl (narZ (by first | exact Or.inl rfl | exact Or.inr rfl)) rfl ?_
                    exact xr (show nI 0 = bI (cB st_ sb sw x sn) by rw [cB_hit hv4 hi4 hv15 hj15 (by simp [prow, pairOk, c37, xF_f c66, xF_f c82, c95])]; rfl)
              · skip
                refine g_iconst (v := nI 1) (q := 86) dX7_canBeWith_85 rfl ki_1 ?_
                refine g_goto (q := 90) dX7_canBeWith_86 (by decide) ?_
                refine g_icmp_neN (t := 100) (q := 93) dX7_canBeWith_90 (by decide) rfl (by omega) (by omega) (fun c90 => ?_) (fun c90 => ?_)
                · skip
                  refine g_aload_n (q := 101) dX7_canBeWith_100 rfl rfl rfl ?_
                  refine gf_X7_9 rfl 0 rfl rfl (q := 104) dX7_canBeWith_101 rfl ?_
                  refine g_iload_n (q := 105) dX7_canBeWith_104 rfl rfl rfl ?_
                  refine g_iald (v := nI (st_ i)) 1 rfl (ixIn (j := i) rfl (by omega) (by decide)) (ixV (j := i) rfl (by omega)) (q := 106) dX7_canBeWith_105 rfl ?_
                  refine g_iload_n (q := 107) dX7_canBeWith_106 rfl rfl rfl ?_
                  refine g_icmp_ne (t := 130) (q := 110) dX7_canBeWith_107 (by decide) rfl (fun c107 => ?_) (fun c107 => ?_)
                  · skip
                    refine g_iinc (lv' := [(0, _), (1, _), (2, _), (3, _), (4, _), (5, _)]) (v := nI (j + 1)) (q := 133) dX7_canBeWith_130 rfl rfl (nI_inc _) (Nat.le_of_ble_eq_true rfl) rfl ?_
                    refine g_goto (q := 15) dX7_canBeWith_133 (by decide) ?_
                    refine g_less (lv' := [(0, _), (1, _), (2, _), (3, _), (4, _)]) 5 rfl ?_
                    rw [erJ_s (by simp [c37, xF_f c66, xF_t c82])] at ih15
                    exact ih15 (fstN_s hv15 (by simp [prow, pairOk, c37, xF_f c66, xF_t c82]))
                  · exact absurd c107 c66
                · omega
            · skip
              refine g_iconst (v := nI 1) (q := 70) dX7_canBeWith_69 rfl ki_1 ?_
              refine g_goto (q := 74) dX7_canBeWith_70 (by decide) ?_
              refine g_aload_n (q := 75) dX7_canBeWith_74 rfl rfl rfl ?_
              refine gf_X7_9 rfl 0 rfl rfl (q := 78) dX7_canBeWith_75 rfl ?_
              refine g_iload (q := 80) dX7_canBeWith_78 rfl rfl ?_
              refine g_iald (v := nI (st_ j)) 1 rfl (ixIn (j := j) rfl (by omega) (by decide)) (ixV (j := j) rfl (by omega)) (q := 81) dX7_canBeWith_80 rfl ?_
              refine g_iload_n (q := 82) dX7_canBeWith_81 rfl rfl rfl ?_
              refine g_icmp_ne (t := 89) (q := 85) dX7_canBeWith_82 (by decide) rfl (fun c82 => ?_) (fun c82 => ?_)
              · skip
                refine g_iconst (v := nI 0) (q := 90) dX7_canBeWith_89 rfl ki_0 ?_
                refine g_icmp_neN (t := 100) (q := 93) dX7_canBeWith_90 (by decide) rfl (by omega) (by omega) (fun c90 => ?_) (fun c90 => ?_)
                · skip
                  refine g_aload_n (q := 101) dX7_canBeWith_100 rfl rfl rfl ?_
                  refine gf_X7_9 rfl 0 rfl rfl (q := 104) dX7_canBeWith_101 rfl ?_
                  refine g_iload_n (q := 105) dX7_canBeWith_104 rfl rfl rfl ?_
                  refine g_iald (v := nI (st_ i)) 1 rfl (ixIn (j := i) rfl (by omega) (by decide)) (ixV (j := i) rfl (by omega)) (q := 106) dX7_canBeWith_105 rfl ?_
                  refine g_iload_n (q := 107) dX7_canBeWith_106 rfl rfl rfl ?_
                  refine g_icmp_ne (t := 130) (q := 110) dX7_canBeWith_107 (by decide) rfl (fun c107 => ?_) (fun c107 => ?_)
                  · exact absurd c66 c107
                  · skip
                    refine g_iload (q := 112) dX7_canBeWith_110 rfl rfl ?_
                    refine g_if_eq (t := 125) (q := 115) dX7_canBeWith_112 (by decide) rfl (fun c112 => ?_) (fun c112 => ?_)
                    · skip
                      refine g_iconst (v := nI 0) (q := 126) dX7_canBeWith_125 rfl ki_0 ?_
                      refine g_iret (st := []) dX7_canBeWith_126 rfl (narZ (by first | exact Or.inl rfl | exact Or.inr rfl)) rfl ?_
                      exact xr (show nI 0 = bI (cB st_ sb sw x sn) by rw [cB_hit hv4 hi4 hv15 hj15 (by simp [prow, pairOk, c37, xF_t c66, xF_f c82, c112])]; rfl)
                    · skip
                      refine g_iload_n (q := 116) dX7_canBeWith_115 rfl rfl rfl ?_
                      refine g_if_eq (t := 127) (q := 119) dX7_canBeWith_116 (by decide) rfl (fun c116 => ?_) (fun c116 => ?_)
                      · skip
                        refine g_iload (q := 129) dX7_canBeWith_127 rfl rfl ?_
                        refine g_istore_n (lv' := [(0, _), (1, _), (2, _), (3, _), (4, _), (5, _)]) (q := 130) dX7_canBeWith_129 rfl rfl (Nat.le_of_ble_eq_true rfl) rfl ?_
                        refine g_iinc (lv' := [(0, _), (1, _), (2, _), (3, _), (4, _), (5, _)]) (v := nI (j + 1)) (q := 133) dX7_canBeWith_130 rfl rfl (nI_inc _) (Nat.le_of_ble_eq_true rfl) rfl ?_
                        refine g_goto (q := 15) dX7_canBeWith_133 (by decide) ?_
                        refine g_less (lv' := [(0, _), (1, _), (2, _), (3, _), (4, _)]) 5 rfl ?_
                        rw [erJ_t (by simp [c37, xF_t c66, xF_f c82])] at ih15
                        exact ih15 (fstN_s hv15 (by simp [prow, pairOk, c37, xF_t c66, xF_f c82, c112, c116]))
                      · skip
                        refine g_iload (q := 121) dX7_canBeWith_119 rfl rfl ?_
                        refine g_iload_n (q := 122) dX7_canBeWith_121 rfl rfl rfl ?_
                        refine g_icmp_eq (t := 127) (q := 125) dX7_canBeWith_122 (by decide) rfl (fun c122 => ?_) (fun c122 => ?_)
                        · skip
                          refine g_iload (q := 129) dX7_canBeWith_127 rfl rfl ?_
                          refine g_istore_n (lv' := [(0, _), (1, _), (2, _), (3, _), (4, _), (5, _)]) (q := 130) dX7_canBeWith_129 rfl rfl (Nat.le_of_ble_eq_true rfl) rfl ?_
                          refine g_iinc (lv' := [(0, _), (1, _), (2, _), (3, _), (4, _), (5, _)]) (v := nI (j + 1)) (q := 133) dX7_canBeWith_130 rfl rfl (nI_inc _) (Nat.le_of_ble_eq_true rfl) rfl ?_
                          refine g_goto (q := 15) dX7_canBeWith_133 (by decide) ?_
                          refine g_less (lv' := [(0, _), (1, _), (2, _), (3, _), (4, _)]) 5 rfl ?_
                          rw [erJ_t (by simp [c37, xF_t c66, xF_f c82])] at ih15
                          exact ih15 (fstN_s hv15 (by simp [prow, pairOk, c37, xF_t c66, xF_f c82, c112, c116, c122]))
                        · skip
                          refine g_iconst (v := nI 0) (q := 126) dX7_canBeWith_125 rfl ki_0 ?_
                          refine g_iret (st := []) dX7_canBeWith_126 rfl (narZ (by first | exact Or.inl rfl | exact Or.inr rfl)) rfl ?_
                          exact xr (show nI 0 = bI (cB st_ sb sw x sn) by rw [cB_hit hv4 hi4 hv15 hj15 (by simp [prow, pairOk, c37, xF_t c66, xF_f c82, c112, c116, c122])]; rfl)
                · omega
              · skip
                refine g_iconst (v := nI 1) (q := 86) dX7_canBeWith_85 rfl ki_1 ?_
                refine g_goto (q := 90) dX7_canBeWith_86 (by decide) ?_
                refine g_icmp_neN (t := 100) (q := 93) dX7_canBeWith_90 (by decide) rfl (by omega) (by omega) (fun c90 => ?_) (fun c90 => ?_)
                · omega
                · skip
                  refine g_iload (q := 95) dX7_canBeWith_93 rfl rfl ?_
                  refine g_if_eq (t := 130) (q := 98) dX7_canBeWith_95 (by decide) rfl (fun c95 => ?_) (fun c95 => ?_)
                  · skip
                    refine g_iinc (lv' := [(0, _), (1, _), (2, _), (3, _), (4, _), (5, _)]) (v := nI (j + 1)) (q := 133) dX7_canBeWith_130 rfl rfl (nI_inc _) (Nat.le_of_ble_eq_true rfl) rfl ?_
                    refine g_goto (q := 15) dX7_canBeWith_133 (by decide) ?_
                    refine g_less (lv' := [(0, _), (1, _), (2, _), (3, _), (4, _)]) 5 rfl ?_
                    rw [erJ_s (by simp [c37, xF_t c66, xF_t c82])] at ih15
                    exact ih15 (fstN_s hv15 (by simp [prow, pairOk, c37, xF_t c66, xF_t c82, c95]))
                  · skip
                    refine g_iconst (v := nI 0) (q := 99) dX7_canBeWith_98 rfl ki_0 ?_
                    refine g_iret (st := []) dX7_canBeWith_99 rfl (narZ (by first | exact Or.inl rfl | exact Or.inr rfl)) rfl ?_
                    exact xr (show nI 0 = bI (cB st_ sb sw x sn) by rw [cB_hit hv4 hi4 hv15 hj15 (by simp [prow, pairOk, c37, xF_t c66, xF_t c82, c95])]; rfl)
          · skip
            refine g_goto (q := 130) dX7_canBeWith_40 (by decide) ?_
            refine g_iinc (lv' := [(0, _), (1, _), (2, _), (3, _), (4, _)]) (v := nI (j + 1)) (q := 133) dX7_canBeWith_130 rfl rfl (nI_inc _) (Nat.le_of_ble_eq_true rfl) rfl ?_
            refine g_goto (q := 15) dX7_canBeWith_133 (by decide) ?_
            rw [erJ_s (fun z => c37 z.1)] at ih15
            exact ih15 (fstN_s hv15 (by simp [prow, pairOk, c37]))
      · intro hv15
        show G E _ [(c0, .inr (7, [.int (nI (sn)), .ref c1, .ref c2, .ref c3])), (c1, .inl (E.2.1.1, 12, .inl (nA (st_)))), (c2, .inl (E.2.1.1, 12, .inl (nA (sb)))), (c3, .inl (E.2.1.1, 12, .inl (nA (sw))))] 15 [(0, .ref c0), (1, .int (x)), (2, .int (erJ st_ sb sw x i (erI st_ sb sw x sn i) sn)), (3, .int (nI (i))), (4, .int (nI (sn)))] []
        refine g_iload (q := 17) dX7_canBeWith_15 rfl rfl ?_
        refine g_aload_n (q := 18) dX7_canBeWith_17 rfl rfl rfl ?_
        refine gf_X7_21 rfl 0 rfl rfl (q := 21) dX7_canBeWith_18 rfl ?_
        refine g_icmp_geN (t := 136) (q := 24) dX7_canBeWith_21 (by decide) rfl (by omega) (by omega) (fun c21 => ?_) (fun c21 => ?_)
        · skip
          refine g_iinc (lv' := [(0, _), (1, _), (2, _), (3, _), (4, _)]) (v := nI (i + 1)) (q := 139) dX7_canBeWith_136 rfl rfl (nI_inc _) (Nat.le_of_ble_eq_true rfl) rfl ?_
          refine g_goto (q := 4) dX7_canBeWith_139 (by decide) ?_
          refine g_less (lv' := [(0, _), (1, _), (2, _), (3, _)]) 4 rfl ?_
          exact ih4 (fstN_s hv4 (by unfold rowB; rw [hv15]; rfl))
        · omega
  · intro hv4
    show G E _ [(c0, .inr (7, [.int (nI (sn)), .ref c1, .ref c2, .ref c3])), (c1, .inl (E.2.1.1, 12, .inl (nA (st_)))), (c2, .inl (E.2.1.1, 12, .inl (nA (sb)))), (c3, .inl (E.2.1.1, 12, .inl (nA (sw))))] 4 [(0, .ref c0), (1, .int (x)), (2, .int (erI st_ sb sw x sn sn)), (3, .int (nI (sn)))] []
    refine g_iload_n (q := 5) dX7_canBeWith_4 rfl rfl rfl ?_
    refine g_aload_n (q := 6) dX7_canBeWith_5 rfl rfl rfl ?_
    refine gf_X7_21 rfl 0 rfl rfl (q := 9) dX7_canBeWith_6 rfl ?_
    refine g_icmp_geN (t := 142) (q := 12) dX7_canBeWith_9 (by decide) rfl (by omega) (by omega) (fun c9 => ?_) (fun c9 => ?_)
    · skip
      refine g_iconst (v := nI 1) (q := 143) dX7_canBeWith_142 rfl ki_1 ?_
      refine g_iret (st := []) dX7_canBeWith_143 rfl (narZ (by first | exact Or.inl rfl | exact Or.inr rfl)) rfl ?_
      exact xr (show nI 1 = bI (cB st_ sb sw x sn) by unfold cB; rw [hv4]; rfl)
    · omega
set_option maxHeartbeats 2000000 in
set_option maxRecDepth 20000 in
theorem c_scales {E : EN} {p0 u0 l0 r0 f0 kp ik x0 s0 q0 g0 b0 ora c0 d0 : Nat} {lc lr lf lv ln t0 nt lw sl : Nat} {c1 c2 c3 sn : Nat} {st_ sb sw : Nat → Nat} {x : Int32} (hnt : nt ≤ 6) (hsn : sn ≤ 12) (hsb : ∀ j, j < 12 → sb j < 100)  : CT E yX9_scales cX9_scales 4 (some .int) 1 [.ref p0, .int (x)] [(p0, .inr (9, [.ref u0, .ref l0, .ref r0, .ref f0, .ref kp, .ref ik, .ref x0, .ref s0, .ref q0, .ref g0, .ref b0, .ref ora, .ref c0, .ref d0])), (l0, .inr (3, [.int (nI (nt)), .int (nI (lw)), .int (nI (sl)), .ref lc, .ref lr, .ref lf, .ref lv, .ref ln, .ref t0])), (c0, .inr (7, [.int (nI (sn)), .ref c1, .ref c2, .ref c3])), (c1, .inl (E.2.1.1, 12, .inl (nA (st_)))), (c2, .inl (E.2.1.1, 12, .inl (nA (sb)))), (c3, .inl (E.2.1.1, 12, .inl (nA (sw))))] (xQ (some (.int (opScalesC nt sn st_ sb sw x))) [(p0, .inr (9, [.ref u0, .ref l0, .ref r0, .ref f0, .ref kp, .ref ik, .ref x0, .ref s0, .ref q0, .ref g0, .ref b0, .ref ora, .ref c0, .ref d0])), (l0, .inr (3, [.int (nI (nt)), .int (nI (lw)), .int (nI (sl)), .ref lc, .ref lr, .ref lf, .ref lv, .ref ln, .ref t0])), (c0, .inr (7, [.int (nI (sn)), .ref c1, .ref c2, .ref c3])), (c1, .inl (E.2.1.1, 12, .inl (nA (st_)))), (c2, .inl (E.2.1.1, 12, .inl (nA (sb)))), (c3, .inl (E.2.1.1, 12, .inl (nA (sw))))]) := by
  refine ct_of (by decide +kernel) (Nat.le_of_ble_eq_true rfl) (lv := [(0, .ref p0), (1, .int (x))]) rfl (fun A => ?_)
  refine g_iload_n (q := 1) dX9_scales_0 rfl rfl rfl ?_
  refine g_iconst (v := nI 0) (q := 2) dX9_scales_1 rfl ki_0 ?_
  refine g_iconst (v := nI 1) (q := 3) dX9_scales_2 rfl ki_1 ?_
  refine gc_X9_187 (c_isNotIn) rfl (Nat.le_of_ble_eq_true rfl) rfl [] rfl rfl (rest := []) rfl (Nat.le_of_ble_eq_true rfl) (q := 6) dX9_scales_3 rfl (exK (ws' := [_, _, _, _, _, _]) (st' := [.int (bI (ninB x (nI 0) (nI 1)))]) rfl rfl ?_)
  refine g_top (y := bI (rn x 0 1).isNone) (by rw [ninB_rn (by decide) (by decide)]) ?_
  refine g_if_eq (t := 12) (q := 9) dX9_scales_6 (by decide) rfl (fun c6 => ?_) (fun c6 => ?_)
  · obtain ⟨k, hk⟩ := isNone_f (bI_eq0.mp c6)
    obtain ⟨hk1, hk2, rfl⟩ := rn_some hk
    refine g_iload_n (q := 13) dX9_scales_12 rfl rfl rfl ?_
    refine g_iconst (v := nI 1) (q := 14) dX9_scales_13 rfl ki_1 ?_
    refine g_icmp_neN (t := 34) (q := 17) dX9_scales_14 (by decide) rfl (by omega) (by omega) (fun c14 => ?_) (fun c14 => ?_)
    · skip
      refine g_iconst (v := nI 0) (q := 35) dX9_scales_34 rfl ki_0 ?_
      refine g_istore_n (lv' := [(0, _), (1, _), (2, _)]) (q := 36) dX9_scales_35 rfl rfl (Nat.le_of_ble_eq_true rfl) rfl ?_
      refine g_iconst (v := nI 0) (q := 37) dX9_scales_36 rfl ki_0 ?_
      refine g_istore_n (lv' := [(0, _), (1, _), (2, _), (3, _)]) (q := 38) dX9_scales_37 rfl rfl (Nat.le_of_ble_eq_true rfl) rfl ?_
      refine g_loop (nt) (fun t => [(p0, .inr (9, [.ref u0, .ref l0, .ref r0, .ref f0, .ref kp, .ref ik, .ref x0, .ref s0, .ref q0, .ref g0, .ref b0, .ref ora, .ref c0, .ref d0])), (l0, .inr (3, [.int (nI (nt)), .int (nI (lw)), .int (nI (sl)), .ref lc, .ref lr, .ref lf, .ref lv, .ref ln, .ref t0])), (c0, .inr (7, [.int (nI (sn)), .ref c1, .ref c2, .ref c3])), (c1, .inl (E.2.1.1, 12, .inl (nA (st_)))), (c2, .inl (E.2.1.1, 12, .inl (nA (sb)))), (c3, .inl (E.2.1.1, 12, .inl (nA (sw))))]) (fun t => [(0, .ref p0), (1, .int (nI (k))), (2, .int (bitsI (fun t => cB st_ sb sw (nI t) sn) t)), (3, .int (nI (t)))]) ?_ ?_ 0 (Nat.zero_le _)
      · intro t ht38 ih38
        show G E _ [(p0, .inr (9, [.ref u0, .ref l0, .ref r0, .ref f0, .ref kp, .ref ik, .ref x0, .ref s0, .ref q0, .ref g0, .ref b0, .ref ora, .ref c0, .ref d0])), (l0, .inr (3, [.int (nI (nt)), .int (nI (lw)), .int (nI (sl)), .ref lc, .ref lr, .ref lf, .ref lv, .ref ln, .ref t0])), (c0, .inr (7, [.int (nI (sn)), .ref c1, .ref c2, .ref c3])), (c1, .inl (E.2.1.1, 12, .inl (nA (st_)))), (c2, .inl (E.2.1.1, 12, .inl (nA (sb)))), (c3, .inl (E.2.1.1, 12, .inl (nA (sw))))] 38 [(0, .ref p0), (1, .int (nI (k))), (2, .int (bitsI (fun t => cB st_ sb sw (nI t) sn) t)), (3, .int (nI (t)))] []
        refine g_iload_n (q := 39) dX9_scales_38 rfl rfl rfl ?_
        refine g_aload_n (q := 40) dX9_scales_39 rfl rfl rfl ?_
        refine gf_X9_19 rfl 0 rfl rfl (q := 43) dX9_scales_40 rfl ?_
        refine gf_X9_209 rfl 1 rfl rfl (q := 46) dX9_scales_43 rfl ?_
        refine g_icmp_geN (t := 72) (q := 49) dX9_scales_46 (by decide) rfl (by omega) (by omega) (fun c46 => ?_) (fun c46 => ?_)
        · omega
        · skip
          refine g_aload_n (q := 50) dX9_scales_49 rfl rfl rfl ?_
          refine gf_X9_83 rfl 0 rfl rfl (q := 53) dX9_scales_50 rfl ?_
          refine g_iload_n (q := 54) dX9_scales_53 rfl rfl rfl ?_
          refine gc_X9_268 (c_canBeWith hsn hsb) rfl (Nat.le_of_ble_eq_true rfl) rfl 2 rfl [2, 3, 4, 5] rfl rfl (rest := []) rfl (Nat.le_of_ble_eq_true rfl) (q := 57) dX9_scales_54 rfl (exK (ws' := [_, _, _, _, _, _]) (st' := [.int (bI (cB st_ sb sw (nI (t)) sn))]) rfl rfl ?_)
          refine g_if_eq (t := 66) (q := 60) dX9_scales_57 (by decide) rfl (fun c57 => ?_) (fun c57 => ?_)
          · skip
            refine g_iinc (lv' := [(0, _), (1, _), (2, _), (3, _)]) (v := nI (t + 1)) (q := 69) dX9_scales_66 rfl rfl (nI_inc _) (Nat.le_of_ble_eq_true rfl) rfl ?_
            refine g_goto (q := 38) dX9_scales_69 (by decide) ?_
            rw [bits_f (c := (fun t => cB st_ sb sw (nI t) sn)) (bI_eq0.mp c57)] at ih38
            exact ih38
          · skip
            refine g_iload_n (q := 61) dX9_scales_60 rfl rfl rfl ?_
            refine g_iconst (v := nI 1) (q := 62) dX9_scales_61 rfl ki_1 ?_
            refine g_iload_n (q := 63) dX9_scales_62 rfl rfl rfl ?_
            refine g_ishl (q := 64) dX9_scales_63 rfl ?_
            refine g_ior (q := 65) dX9_scales_64 rfl ?_
            refine g_istore_n (lv' := [(0, _), (1, _), (2, _), (3, _)]) (q := 66) dX9_scales_65 rfl rfl (Nat.le_of_ble_eq_true rfl) rfl ?_
            refine g_iinc (lv' := [(0, _), (1, _), (2, _), (3, _)]) (v := nI (t + 1)) (q := 69) dX9_scales_66 rfl rfl (nI_inc _) (Nat.le_of_ble_eq_true rfl) rfl ?_
            refine g_goto (q := 38) dX9_scales_69 (by decide) ?_
            rw [bits_t (c := (fun t => cB st_ sb sw (nI t) sn)) (bI_ne0.mp c57)] at ih38
            exact ih38
      · skip
        show G E _ [(p0, .inr (9, [.ref u0, .ref l0, .ref r0, .ref f0, .ref kp, .ref ik, .ref x0, .ref s0, .ref q0, .ref g0, .ref b0, .ref ora, .ref c0, .ref d0])), (l0, .inr (3, [.int (nI (nt)), .int (nI (lw)), .int (nI (sl)), .ref lc, .ref lr, .ref lf, .ref lv, .ref ln, .ref t0])), (c0, .inr (7, [.int (nI (sn)), .ref c1, .ref c2, .ref c3])), (c1, .inl (E.2.1.1, 12, .inl (nA (st_)))), (c2, .inl (E.2.1.1, 12, .inl (nA (sb)))), (c3, .inl (E.2.1.1, 12, .inl (nA (sw))))] 38 [(0, .ref p0), (1, .int (nI (k))), (2, .int (bitsI (fun t => cB st_ sb sw (nI t) sn) nt)), (3, .int (nI (nt)))] []
        refine g_iload_n (q := 39) dX9_scales_38 rfl rfl rfl ?_
        refine g_aload_n (q := 40) dX9_scales_39 rfl rfl rfl ?_
        refine gf_X9_19 rfl 0 rfl rfl (q := 43) dX9_scales_40 rfl ?_
        refine gf_X9_209 rfl 1 rfl rfl (q := 46) dX9_scales_43 rfl ?_
        refine g_icmp_geN (t := 72) (q := 49) dX9_scales_46 (by decide) rfl (by omega) (by omega) (fun c46 => ?_) (fun c46 => ?_)
        · skip
          refine g_iload_n (q := 73) dX9_scales_72 rfl rfl rfl ?_
          refine g_iret (st := []) dX9_scales_73 rfl rfl rfl ?_
          exact xr (by simp only [opScalesC, hk]; rw [if_neg c14])
        · omega
    · skip
      refine g_aload_n (q := 18) dX9_scales_17 rfl rfl rfl ?_
      refine gf_X9_83 rfl 0 rfl rfl (q := 21) dX9_scales_18 rfl ?_
      refine g_iconst (v := (-1)) (q := 22) dX9_scales_21 rfl ki_m1 ?_
      refine gc_X9_268 (c_canBeWith hsn hsb) rfl (Nat.le_of_ble_eq_true rfl) rfl 2 rfl [2, 3, 4, 5] rfl rfl (rest := []) rfl (Nat.le_of_ble_eq_true rfl) (q := 25) dX9_scales_22 rfl (exK (ws' := [_, _, _, _, _, _]) (st' := [.int (bI (cB st_ sb sw (-1) sn))]) rfl rfl ?_)
      refine g_if_eq (t := 32) (q := 28) dX9_scales_25 (by decide) rfl (fun c25 => ?_) (fun c25 => ?_)
      · skip
        refine g_iconst (v := nI 0) (q := 33) dX9_scales_32 rfl ki_0 ?_
        refine g_iret (st := []) dX9_scales_33 rfl rfl rfl ?_
        exact xr (by simp only [opScalesC, hk]; rw [if_pos c14, bI_eq0.mp c25]; rfl)
      · skip
        refine g_iconst (v := nI 1) (q := 29) dX9_scales_28 rfl ki_1 ?_
        refine g_goto (q := 33) dX9_scales_29 (by decide) ?_
        refine g_iret (st := []) dX9_scales_33 rfl rfl rfl ?_
        exact xr (by simp only [opScalesC, hk]; rw [if_pos c14, bI_ne0.mp c25]; rfl)
  · have nk := isNone_t (bI_ne0.mp c6)
    refine g_bipush (v := (-3)) (q := 11) dX9_scales_9 rfl kb_m3 ?_
    refine g_iret (st := []) dX9_scales_11 rfl rfl rfl ?_
    exact xr (by simp only [opScalesC, nk])
set_option maxHeartbeats 2000000 in
set_option maxRecDepth 20000 in
theorem c_canShow {E : EN} {m0 mt mk mb mx mr mn ma mi mj mg ms md mc me mh mo mw nt nb lw sl tl en sn dn : Nat} {po ta dg nu fa rm_ rto rbo ga : Int32} {tk : Int64} {st_ sb sw : Nat → Nat} {x m : Int32} (hsn : sn ≤ 12) (hsb : ∀ j, j < 12 → sb j < 100)  : CT E yX10_canShow cX10_canShow 8 (some .boolean) 0 [.ref m0, .int (x), .int (m)] [(m0, .inr (10, (.int (nI (nt)) :: .ref mt :: .int (nI (nb)) :: .ref mk :: .ref mb :: .int (nI (lw)) :: .int (nI (sl)) :: .int (nI (tl)) :: .ref mx :: .int (po) :: .int (ta) :: .long (tk) :: .int (dg) :: .int (nu) :: .int (fa) :: .int (rm_) :: .int (rto) :: .int (rbo) :: .ref mr :: .ref mn :: .ref ma :: .ref mi :: .ref mj :: .int (nI (en)) :: .ref mg :: .int (nI (sn)) :: .ref ms :: .int (nI (dn)) :: .ref md :: .ref mc :: .ref me :: .int (ga) :: .ref mh :: .ref mo :: .ref mw :: []))), (ms, .inl (E.2.1.1, 36, .inl (scF st_ sb sw)))] (xQ (some (.int (bI (shS st_ sb sw x m sn)))) [(m0, .inr (10, (.int (nI (nt)) :: .ref mt :: .int (nI (nb)) :: .ref mk :: .ref mb :: .int (nI (lw)) :: .int (nI (sl)) :: .int (nI (tl)) :: .ref mx :: .int (po) :: .int (ta) :: .long (tk) :: .int (dg) :: .int (nu) :: .int (fa) :: .int (rm_) :: .int (rto) :: .int (rbo) :: .ref mr :: .ref mn :: .ref ma :: .ref mi :: .ref mj :: .int (nI (en)) :: .ref mg :: .int (nI (sn)) :: .ref ms :: .int (nI (dn)) :: .ref md :: .ref mc :: .ref me :: .int (ga) :: .ref mh :: .ref mo :: .ref mw :: []))), (ms, .inl (E.2.1.1, 36, .inl (scF st_ sb sw)))]) := by
  refine ct_of (by decide +kernel) (Nat.le_of_ble_eq_true rfl) (lv := [(0, .ref m0), (1, .int (x)), (2, .int (m))]) rfl (fun A => ?_)
  refine g_iconst (v := nI 1) (q := 1) dX10_canShow_0 rfl ki_1 ?_
  refine g_istore_n (lv' := [(0, _), (1, _), (2, _), (3, _)]) (q := 2) dX10_canShow_1 rfl rfl (Nat.le_of_ble_eq_true rfl) rfl ?_
  refine g_iconst (v := nI 0) (q := 3) dX10_canShow_2 rfl ki_0 ?_
  refine g_istore (lv' := [(0, _), (1, _), (2, _), (3, _), (4, _)]) (q := 5) dX10_canShow_3 rfl (Nat.le_of_ble_eq_true rfl) rfl ?_
  refine g_loop (sn) (fun i => [(m0, .inr (10, (.int (nI (nt)) :: .ref mt :: .int (nI (nb)) :: .ref mk :: .ref mb :: .int (nI (lw)) :: .int (nI (sl)) :: .int (nI (tl)) :: .ref mx :: .int (po) :: .int (ta) :: .long (tk) :: .int (dg) :: .int (nu) :: .int (fa) :: .int (rm_) :: .int (rto) :: .int (rbo) :: .ref mr :: .ref mn :: .ref ma :: .ref mi :: .ref mj :: .int (nI (en)) :: .ref mg :: .int (nI (sn)) :: .ref ms :: .int (nI (dn)) :: .ref md :: .ref mc :: .ref me :: .int (ga) :: .ref mh :: .ref mo :: .ref mw :: []))), (ms, .inl (E.2.1.1, 36, .inl (scF st_ sb sw)))]) (fun i => [(0, .ref m0), (1, .int (x)), (2, .int (m)), (3, .int (bI (shS st_ sb sw x m i))), (4, .int (nI (i)))]) ?_ ?_ 0 (Nat.zero_le _)
  · intro i hi5 ih5
    show G E _ [(m0, .inr (10, (.int (nI (nt)) :: .ref mt :: .int (nI (nb)) :: .ref mk :: .ref mb :: .int (nI (lw)) :: .int (nI (sl)) :: .int (nI (tl)) :: .ref mx :: .int (po) :: .int (ta) :: .long (tk) :: .int (dg) :: .int (nu) :: .int (fa) :: .int (rm_) :: .int (rto) :: .int (rbo) :: .ref mr :: .ref mn :: .ref ma :: .ref mi :: .ref mj :: .int (nI (en)) :: .ref mg :: .int (nI (sn)) :: .ref ms :: .int (nI (dn)) :: .ref md :: .ref mc :: .ref me :: .int (ga) :: .ref mh :: .ref mo :: .ref mw :: []))), (ms, .inl (E.2.1.1, 36, .inl (scF st_ sb sw)))] 5 [(0, .ref m0), (1, .int (x)), (2, .int (m)), (3, .int (bI (shS st_ sb sw x m i))), (4, .int (nI (i)))] []
    refine g_iload (q := 7) dX10_canShow_5 rfl rfl ?_
    refine g_aload_n (q := 8) dX10_canShow_7 rfl rfl rfl ?_
    refine gf_X10_197 rfl 0 rfl rfl (q := 11) dX10_canShow_8 rfl ?_
    refine g_icmp_geN (t := 142) (q := 14) dX10_canShow_11 (by decide) rfl (by omega) (by omega) (fun c11 => ?_) (fun c11 => ?_)
    · omega
    · skip
      refine g_iconst (v := nI 0) (q := 15) dX10_canShow_14 rfl ki_0 ?_
      refine g_istore (lv' := [(0, _), (1, _), (2, _), (3, _), (4, _), (5, _)]) (q := 17) dX10_canShow_15 rfl (Nat.le_of_ble_eq_true rfl) rfl ?_
      refine g_eq (lv' := [(0, .ref m0), (1, .int x), (2, .int m), (3, .int (bI (shS st_ sb sw x m i && allN (pOk st_ sb sw x m i) 0))), (4, .int (nI i)), (5, .int (nI 0))]) ?_ rfl (by rw [allN, Bool.and_true]) rfl
      refine g_loop (i) (fun j => [(m0, .inr (10, (.int (nI (nt)) :: .ref mt :: .int (nI (nb)) :: .ref mk :: .ref mb :: .int (nI (lw)) :: .int (nI (sl)) :: .int (nI (tl)) :: .ref mx :: .int (po) :: .int (ta) :: .long (tk) :: .int (dg) :: .int (nu) :: .int (fa) :: .int (rm_) :: .int (rto) :: .int (rbo) :: .ref mr :: .ref mn :: .ref ma :: .ref mi :: .ref mj :: .int (nI (en)) :: .ref mg :: .int (nI (sn)) :: .ref ms :: .int (nI (dn)) :: .ref md :: .ref mc :: .ref me :: .int (ga) :: .ref mh :: .ref mo :: .ref mw :: []))), (ms, .inl (E.2.1.1, 36, .inl (scF st_ sb sw)))]) (fun j => [(0, .ref m0), (1, .int (x)), (2, .int (m)), (3, .int (bI (shS st_ sb sw x m i && allN (pOk st_ sb sw x m i) j))), (4, .int (nI (i))), (5, .int (nI (j)))]) ?_ ?_ 0 (Nat.zero_le _)
      · intro j hj17 ih17
        show G E _ [(m0, .inr (10, (.int (nI (nt)) :: .ref mt :: .int (nI (nb)) :: .ref mk :: .ref mb :: .int (nI (lw)) :: .int (nI (sl)) :: .int (nI (tl)) :: .ref mx :: .int (po) :: .int (ta) :: .long (tk) :: .int (dg) :: .int (nu) :: .int (fa) :: .int (rm_) :: .int (rto) :: .int (rbo) :: .ref mr :: .ref mn :: .ref ma :: .ref mi :: .ref mj :: .int (nI (en)) :: .ref mg :: .int (nI (sn)) :: .ref ms :: .int (nI (dn)) :: .ref md :: .ref mc :: .ref me :: .int (ga) :: .ref mh :: .ref mo :: .ref mw :: []))), (ms, .inl (E.2.1.1, 36, .inl (scF st_ sb sw)))] 17 [(0, .ref m0), (1, .int (x)), (2, .int (m)), (3, .int (bI (shS st_ sb sw x m i && allN (pOk st_ sb sw x m i) j))), (4, .int (nI (i))), (5, .int (nI (j)))] []
        refine g_iload (q := 19) dX10_canShow_17 rfl rfl ?_
        refine g_iload (q := 21) dX10_canShow_19 rfl rfl ?_
        refine g_icmp_geN (t := 136) (q := 24) dX10_canShow_21 (by decide) rfl (by omega) (by omega) (fun c21 => ?_) (fun c21 => ?_)
        · omega
        · skip
          refine g_aload_n (q := 25) dX10_canShow_24 rfl rfl rfl ?_
          refine gf_X10_45 rfl 0 rfl rfl (q := 28) dX10_canShow_25 rfl ?_
          refine g_iconst (v := nI 3) (q := 29) dX10_canShow_28 rfl ki_3 ?_
          refine g_iload (q := 31) dX10_canShow_29 rfl rfl ?_
          refine g_imulN (q := 32) dX10_canShow_31 rfl ?_
          refine g_iconst (v := nI 2) (q := 33) dX10_canShow_32 rfl ki_2 ?_
          refine g_iaddN (q := 34) dX10_canShow_33 rfl ?_
          refine g_iald (v := nI (sw i)) 1 rfl (ixIn (j := 3 * i + 2) rfl (by omega) (by decide)) ((ixV (j := 3 * i + 2) rfl (by omega)).trans (scF_2 i)) (q := 35) dX10_canShow_34 rfl ?_
          refine g_aload_n (q := 36) dX10_canShow_35 rfl rfl rfl ?_
          refine gf_X10_45 rfl 0 rfl rfl (q := 39) dX10_canShow_36 rfl ?_
          refine g_iconst (v := nI 3) (q := 40) dX10_canShow_39 rfl ki_3 ?_
          refine g_iload (q := 42) dX10_canShow_40 rfl rfl ?_
          refine g_imulN (q := 43) dX10_canShow_42 rfl ?_
          refine g_iald (v := nI (st_ i)) 1 rfl (ixIn (j := 3 * i) rfl (by omega) (by decide)) ((ixV (j := 3 * i) rfl (by omega)).trans (scF_0 i)) (q := 44) dX10_canShow_43 rfl ?_
          refine g_iload_n (q := 45) dX10_canShow_44 rfl rfl rfl ?_
          refine g_icmp_ne (t := 52) (q := 48) dX10_canShow_45 (by decide) rfl (fun c45 => ?_) (fun c45 => ?_)
          · skip
            refine g_iconst (v := nI 0) (q := 53) dX10_canShow_52 rfl ki_0 ?_
            refine g_isub (q := 54) dX10_canShow_53 rfl ?_
            refine g_top (y := aV st_ sw x m i) (by rw [aV, xF_f c45]; rfl) ?_
            refine g_istore (lv' := [(0, _), (1, _), (2, _), (3, _), (4, _), (5, _), (6, _)]) (q := 56) dX10_canShow_54 rfl (Nat.le_of_ble_eq_true rfl) rfl ?_
            refine g_aload_n (q := 57) dX10_canShow_56 rfl rfl rfl ?_
            refine gf_X10_45 rfl 0 rfl rfl (q := 60) dX10_canShow_57 rfl ?_
            refine g_iconst (v := nI 3) (q := 61) dX10_canShow_60 rfl ki_3 ?_
            refine g_iload (q := 63) dX10_canShow_61 rfl rfl ?_
            refine g_imulN (q := 64) dX10_canShow_63 rfl ?_
            refine g_iconst (v := nI 2) (q := 65) dX10_canShow_64 rfl ki_2 ?_
            refine g_iaddN (q := 66) dX10_canShow_65 rfl ?_
            refine g_iald (v := nI (sw j)) 1 rfl (ixIn (j := 3 * j + 2) rfl (by omega) (by decide)) ((ixV (j := 3 * j + 2) rfl (by omega)).trans (scF_2 j)) (q := 67) dX10_canShow_66 rfl ?_
            refine g_aload_n (q := 68) dX10_canShow_67 rfl rfl rfl ?_
            refine gf_X10_45 rfl 0 rfl rfl (q := 71) dX10_canShow_68 rfl ?_
            refine g_iconst (v := nI 3) (q := 72) dX10_canShow_71 rfl ki_3 ?_
            refine g_iload (q := 74) dX10_canShow_72 rfl rfl ?_
            refine g_imulN (q := 75) dX10_canShow_74 rfl ?_
            refine g_iald (v := nI (st_ j)) 1 rfl (ixIn (j := 3 * j) rfl (by omega) (by decide)) ((ixV (j := 3 * j) rfl (by omega)).trans (scF_0 j)) (q := 76) dX10_canShow_75 rfl ?_
            refine g_iload_n (q := 77) dX10_canShow_76 rfl rfl rfl ?_
            refine g_icmp_ne (t := 84) (q := 80) dX10_canShow_77 (by decide) rfl (fun c77 => ?_) (fun c77 => ?_)
            · skip
              refine g_iconst (v := nI 0) (q := 85) dX10_canShow_84 rfl ki_0 ?_
              refine g_isub (q := 86) dX10_canShow_85 rfl ?_
              refine g_top (y := aV st_ sw x m j) (by rw [aV, xF_f c77]; rfl) ?_
              refine g_istore (lv' := [(0, _), (1, _), (2, _), (3, _), (4, _), (5, _), (6, _), (7, _)]) (q := 88) dX10_canShow_86 rfl (Nat.le_of_ble_eq_true rfl) rfl ?_
              refine g_iload_n (q := 89) dX10_canShow_88 rfl rfl rfl ?_
              refine g_if_eq (t := 128) (q := 92) dX10_canShow_89 (by decide) rfl (fun c89 => ?_) (fun c89 => ?_)
              · skip
                refine g_iconst (v := nI 0) (q := 129) dX10_canShow_128 rfl ki_0 ?_
                refine g_istore_n (lv' := [(0, _), (1, _), (2, _), (3, _), (4, _), (5, _), (6, _), (7, _)]) (q := 130) dX10_canShow_129 rfl rfl (Nat.le_of_ble_eq_true rfl) rfl ?_
                refine g_iinc (lv' := [(0, _), (1, _), (2, _), (3, _), (4, _), (5, _), (6, _), (7, _)]) (v := nI (j + 1)) (q := 133) dX10_canShow_130 rfl rfl (nI_inc _) (Nat.le_of_ble_eq_true rfl) rfl ?_
                refine g_goto (q := 17) dX10_canShow_133 (by decide) ?_
                refine g_less (lv' := [(0, _), (1, _), (2, _), (3, _), (4, _), (5, _)]) 6 rfl ?_
                have e : (shS st_ sb sw x m i && allN (pOk st_ sb sw x m i) (j + 1)) = false := by rw [show (shS st_ sb sw x m i && allN (pOk st_ sb sw x m i) (j + 1)) = ((shS st_ sb sw x m i && allN (pOk st_ sb sw x m i) j) && pOk st_ sb sw x m i j) by rw [allN, Bool.and_assoc]]; rw [bI_eq0.mp c89]; rfl
                rw [e] at ih17
                exact ih17
              · skip
                refine g_aload_n (q := 93) dX10_canShow_92 rfl rfl rfl ?_
                refine gf_X10_45 rfl 0 rfl rfl (q := 96) dX10_canShow_93 rfl ?_
                refine g_iconst (v := nI 3) (q := 97) dX10_canShow_96 rfl ki_3 ?_
                refine g_iload (q := 99) dX10_canShow_97 rfl rfl ?_
                refine g_imulN (q := 100) dX10_canShow_99 rfl ?_
                refine g_iconst (v := nI 1) (q := 101) dX10_canShow_100 rfl ki_1 ?_
                refine g_iaddN (q := 102) dX10_canShow_101 rfl ?_
                have hb1 := hsb (i) (by omega)
                refine g_iald (v := nI (sb i)) 1 rfl (ixIn (j := 3 * i + 1) rfl (by omega) (by decide)) ((ixV (j := 3 * i + 1) rfl (by omega)).trans (scF_1 i)) (q := 103) dX10_canShow_102 rfl ?_
                refine g_aload_n (q := 104) dX10_canShow_103 rfl rfl rfl ?_
                refine gf_X10_45 rfl 0 rfl rfl (q := 107) dX10_canShow_104 rfl ?_
                refine g_iconst (v := nI 3) (q := 108) dX10_canShow_107 rfl ki_3 ?_
                refine g_iload (q := 110) dX10_canShow_108 rfl rfl ?_
                refine g_imulN (q := 111) dX10_canShow_110 rfl ?_
                refine g_iconst (v := nI 1) (q := 112) dX10_canShow_111 rfl ki_1 ?_
                refine g_iaddN (q := 113) dX10_canShow_112 rfl ?_
                have hb2 := hsb (j) (by omega)
                refine g_iald (v := nI (sb j)) 1 rfl (ixIn (j := 3 * j + 1) rfl (by omega) (by decide)) ((ixV (j := 3 * j + 1) rfl (by omega)).trans (scF_1 j)) (q := 114) dX10_canShow_113 rfl ?_
                refine g_icmp_neN (t := 124) (q := 117) dX10_canShow_114 (by decide) rfl (by omega) (by omega) (fun c114 => ?_) (fun c114 => ?_)
                · skip
                  refine g_iconst (v := nI 1) (q := 125) dX10_canShow_124 rfl ki_1 ?_
                  refine g_goto (q := 129) dX10_canShow_125 (by decide) ?_
                  refine g_istore_n (lv' := [(0, _), (1, _), (2, _), (3, _), (4, _), (5, _), (6, _), (7, _)]) (q := 130) dX10_canShow_129 rfl rfl (Nat.le_of_ble_eq_true rfl) rfl ?_
                  refine g_iinc (lv' := [(0, _), (1, _), (2, _), (3, _), (4, _), (5, _), (6, _), (7, _)]) (v := nI (j + 1)) (q := 133) dX10_canShow_130 rfl rfl (nI_inc _) (Nat.le_of_ble_eq_true rfl) rfl ?_
                  refine g_goto (q := 17) dX10_canShow_133 (by decide) ?_
                  refine g_less (lv' := [(0, _), (1, _), (2, _), (3, _), (4, _), (5, _)]) 6 rfl ?_
                  have e : (shS st_ sb sw x m i && allN (pOk st_ sb sw x m i) (j + 1)) = true := by rw [show (shS st_ sb sw x m i && allN (pOk st_ sb sw x m i) (j + 1)) = ((shS st_ sb sw x m i && allN (pOk st_ sb sw x m i) j) && pOk st_ sb sw x m i j) by rw [allN, Bool.and_assoc]]; rw [bI_ne0.mp c89]; simp [pOk, c114]
                  rw [e] at ih17
                  exact ih17
                · skip
                  refine g_iload (q := 119) dX10_canShow_117 rfl rfl ?_
                  refine g_iload (q := 121) dX10_canShow_119 rfl rfl ?_
                  refine g_icmp_ne (t := 128) (q := 124) dX10_canShow_121 (by decide) rfl (fun c121 => ?_) (fun c121 => ?_)
                  · skip
                    refine g_iconst (v := nI 0) (q := 129) dX10_canShow_128 rfl ki_0 ?_
                    refine g_istore_n (lv' := [(0, _), (1, _), (2, _), (3, _), (4, _), (5, _), (6, _), (7, _)]) (q := 130) dX10_canShow_129 rfl rfl (Nat.le_of_ble_eq_true rfl) rfl ?_
                    refine g_iinc (lv' := [(0, _), (1, _), (2, _), (3, _), (4, _), (5, _), (6, _), (7, _)]) (v := nI (j + 1)) (q := 133) dX10_canShow_130 rfl rfl (nI_inc _) (Nat.le_of_ble_eq_true rfl) rfl ?_
                    refine g_goto (q := 17) dX10_canShow_133 (by decide) ?_
                    refine g_less (lv' := [(0, _), (1, _), (2, _), (3, _), (4, _), (5, _)]) 6 rfl ?_
                    have e : (shS st_ sb sw x m i && allN (pOk st_ sb sw x m i) (j + 1)) = false := by rw [show (shS st_ sb sw x m i && allN (pOk st_ sb sw x m i) (j + 1)) = ((shS st_ sb sw x m i && allN (pOk st_ sb sw x m i) j) && pOk st_ sb sw x m i j) by rw [allN, Bool.and_assoc]]; rw [bI_ne0.mp c89]; simp [pOk, c114, c121]
                    rw [e] at ih17
                    exact ih17
                  · skip
                    refine g_iconst (v := nI 1) (q := 125) dX10_canShow_124 rfl ki_1 ?_
                    refine g_goto (q := 129) dX10_canShow_125 (by decide) ?_
                    refine g_istore_n (lv' := [(0, _), (1, _), (2, _), (3, _), (4, _), (5, _), (6, _), (7, _)]) (q := 130) dX10_canShow_129 rfl rfl (Nat.le_of_ble_eq_true rfl) rfl ?_
                    refine g_iinc (lv' := [(0, _), (1, _), (2, _), (3, _), (4, _), (5, _), (6, _), (7, _)]) (v := nI (j + 1)) (q := 133) dX10_canShow_130 rfl rfl (nI_inc _) (Nat.le_of_ble_eq_true rfl) rfl ?_
                    refine g_goto (q := 17) dX10_canShow_133 (by decide) ?_
                    refine g_less (lv' := [(0, _), (1, _), (2, _), (3, _), (4, _), (5, _)]) 6 rfl ?_
                    have e : (shS st_ sb sw x m i && allN (pOk st_ sb sw x m i) (j + 1)) = true := by rw [show (shS st_ sb sw x m i && allN (pOk st_ sb sw x m i) (j + 1)) = ((shS st_ sb sw x m i && allN (pOk st_ sb sw x m i) j) && pOk st_ sb sw x m i j) by rw [allN, Bool.and_assoc]]; rw [bI_ne0.mp c89]; simp [pOk, c114, c121]
                    rw [e] at ih17
                    exact ih17
            · skip
              refine g_iload_n (q := 81) dX10_canShow_80 rfl rfl rfl ?_
              refine g_goto (q := 85) dX10_canShow_81 (by decide) ?_
              refine g_isub (q := 86) dX10_canShow_85 rfl ?_
              refine g_top (y := aV st_ sw x m j) (by rw [aV, xF_t c77]; rfl) ?_
              refine g_istore (lv' := [(0, _), (1, _), (2, _), (3, _), (4, _), (5, _), (6, _), (7, _)]) (q := 88) dX10_canShow_86 rfl (Nat.le_of_ble_eq_true rfl) rfl ?_
              refine g_iload_n (q := 89) dX10_canShow_88 rfl rfl rfl ?_
              refine g_if_eq (t := 128) (q := 92) dX10_canShow_89 (by decide) rfl (fun c89 => ?_) (fun c89 => ?_)
              · skip
                refine g_iconst (v := nI 0) (q := 129) dX10_canShow_128 rfl ki_0 ?_
                refine g_istore_n (lv' := [(0, _), (1, _), (2, _), (3, _), (4, _), (5, _), (6, _), (7, _)]) (q := 130) dX10_canShow_129 rfl rfl (Nat.le_of_ble_eq_true rfl) rfl ?_
                refine g_iinc (lv' := [(0, _), (1, _), (2, _), (3, _), (4, _), (5, _), (6, _), (7, _)]) (v := nI (j + 1)) (q := 133) dX10_canShow_130 rfl rfl (nI_inc _) (Nat.le_of_ble_eq_true rfl) rfl ?_
                refine g_goto (q := 17) dX10_canShow_133 (by decide) ?_
                refine g_less (lv' := [(0, _), (1, _), (2, _), (3, _), (4, _), (5, _)]) 6 rfl ?_
                have e : (shS st_ sb sw x m i && allN (pOk st_ sb sw x m i) (j + 1)) = false := by rw [show (shS st_ sb sw x m i && allN (pOk st_ sb sw x m i) (j + 1)) = ((shS st_ sb sw x m i && allN (pOk st_ sb sw x m i) j) && pOk st_ sb sw x m i j) by rw [allN, Bool.and_assoc]]; rw [bI_eq0.mp c89]; rfl
                rw [e] at ih17
                exact ih17
              · skip
                refine g_aload_n (q := 93) dX10_canShow_92 rfl rfl rfl ?_
                refine gf_X10_45 rfl 0 rfl rfl (q := 96) dX10_canShow_93 rfl ?_
                refine g_iconst (v := nI 3) (q := 97) dX10_canShow_96 rfl ki_3 ?_
                refine g_iload (q := 99) dX10_canShow_97 rfl rfl ?_
                refine g_imulN (q := 100) dX10_canShow_99 rfl ?_
                refine g_iconst (v := nI 1) (q := 101) dX10_canShow_100 rfl ki_1 ?_
                refine g_iaddN (q := 102) dX10_canShow_101 rfl ?_
                have hb3 := hsb (i) (by omega)
                refine g_iald (v := nI (sb i)) 1 rfl (ixIn (j := 3 * i + 1) rfl (by omega) (by decide)) ((ixV (j := 3 * i + 1) rfl (by omega)).trans (scF_1 i)) (q := 103) dX10_canShow_102 rfl ?_
                refine g_aload_n (q := 104) dX10_canShow_103 rfl rfl rfl ?_
                refine gf_X10_45 rfl 0 rfl rfl (q := 107) dX10_canShow_104 rfl ?_
                refine g_iconst (v := nI 3) (q := 108) dX10_canShow_107 rfl ki_3 ?_
                refine g_iload (q := 110) dX10_canShow_108 rfl rfl ?_
                refine g_imulN (q := 111) dX10_canShow_110 rfl ?_
                refine g_iconst (v := nI 1) (q := 112) dX10_canShow_111 rfl ki_1 ?_
                refine g_iaddN (q := 113) dX10_canShow_112 rfl ?_
                have hb4 := hsb (j) (by omega)
                refine g_iald (v := nI (sb j)) 1 rfl (ixIn (j := 3 * j + 1) rfl (by omega) (by decide)) ((ixV (j := 3 * j + 1) rfl (by omega)).trans (scF_1 j)) (q := 114) dX10_canShow_113 rfl ?_
                refine g_icmp_neN (t := 124) (q := 117) dX10_canShow_114 (by decide) rfl (by omega) (by omega) (fun c114 => ?_) (fun c114 => ?_)
                · skip
                  refine g_iconst (v := nI 1) (q := 125) dX10_canShow_124 rfl ki_1 ?_
                  refine g_goto (q := 129) dX10_canShow_125 (by decide) ?_
                  refine g_istore_n (lv' := [(0, _), (1, _), (2, _), (3, _), (4, _), (5, _), (6, _), (7, _)]) (q := 130) dX10_canShow_129 rfl rfl (Nat.le_of_ble_eq_true rfl) rfl ?_
                  refine g_iinc (lv' := [(0, _), (1, _), (2, _), (3, _), (4, _), (5, _), (6, _), (7, _)]) (v := nI (j + 1)) (q := 133) dX10_canShow_130 rfl rfl (nI_inc _) (Nat.le_of_ble_eq_true rfl) rfl ?_
                  refine g_goto (q := 17) dX10_canShow_133 (by decide) ?_
                  refine g_less (lv' := [(0, _), (1, _), (2, _), (3, _), (4, _), (5, _)]) 6 rfl ?_
                  have e : (shS st_ sb sw x m i && allN (pOk st_ sb sw x m i) (j + 1)) = true := by rw [show (shS st_ sb sw x m i && allN (pOk st_ sb sw x m i) (j + 1)) = ((shS st_ sb sw x m i && allN (pOk st_ sb sw x m i) j) && pOk st_ sb sw x m i j) by rw [allN, Bool.and_assoc]]; rw [bI_ne0.mp c89]; simp [pOk, c114]
                  rw [e] at ih17
                  exact ih17
                · skip
                  refine g_iload (q := 119) dX10_canShow_117 rfl rfl ?_
                  refine g_iload (q := 121) dX10_canShow_119 rfl rfl ?_
                  refine g_icmp_ne (t := 128) (q := 124) dX10_canShow_121 (by decide) rfl (fun c121 => ?_) (fun c121 => ?_)
                  · skip
                    refine g_iconst (v := nI 0) (q := 129) dX10_canShow_128 rfl ki_0 ?_
                    refine g_istore_n (lv' := [(0, _), (1, _), (2, _), (3, _), (4, _), (5, _), (6, _), (7, _)]) (q := 130) dX10_canShow_129 rfl rfl (Nat.le_of_ble_eq_true rfl) rfl ?_
                    refine g_iinc (lv' := [(0, _), (1, _), (2, _), (3, _), (4, _), (5, _), (6, _), (7, _)]) (v := nI (j + 1)) (q := 133) dX10_canShow_130 rfl rfl (nI_inc _) (Nat.le_of_ble_eq_true rfl) rfl ?_
                    refine g_goto (q := 17) dX10_canShow_133 (by decide) ?_
                    refine g_less (lv' := [(0, _), (1, _), (2, _), (3, _), (4, _), (5, _)]) 6 rfl ?_
                    have e : (shS st_ sb sw x m i && allN (pOk st_ sb sw x m i) (j + 1)) = false := by rw [show (shS st_ sb sw x m i && allN (pOk st_ sb sw x m i) (j + 1)) = ((shS st_ sb sw x m i && allN (pOk st_ sb sw x m i) j) && pOk st_ sb sw x m i j) by rw [allN, Bool.and_assoc]]; rw [bI_ne0.mp c89]; simp [pOk, c114, c121]
                    rw [e] at ih17
                    exact ih17
                  · skip
                    refine g_iconst (v := nI 1) (q := 125) dX10_canShow_124 rfl ki_1 ?_
                    refine g_goto (q := 129) dX10_canShow_125 (by decide) ?_
                    refine g_istore_n (lv' := [(0, _), (1, _), (2, _), (3, _), (4, _), (5, _), (6, _), (7, _)]) (q := 130) dX10_canShow_129 rfl rfl (Nat.le_of_ble_eq_true rfl) rfl ?_
                    refine g_iinc (lv' := [(0, _), (1, _), (2, _), (3, _), (4, _), (5, _), (6, _), (7, _)]) (v := nI (j + 1)) (q := 133) dX10_canShow_130 rfl rfl (nI_inc _) (Nat.le_of_ble_eq_true rfl) rfl ?_
                    refine g_goto (q := 17) dX10_canShow_133 (by decide) ?_
                    refine g_less (lv' := [(0, _), (1, _), (2, _), (3, _), (4, _), (5, _)]) 6 rfl ?_
                    have e : (shS st_ sb sw x m i && allN (pOk st_ sb sw x m i) (j + 1)) = true := by rw [show (shS st_ sb sw x m i && allN (pOk st_ sb sw x m i) (j + 1)) = ((shS st_ sb sw x m i && allN (pOk st_ sb sw x m i) j) && pOk st_ sb sw x m i j) by rw [allN, Bool.and_assoc]]; rw [bI_ne0.mp c89]; simp [pOk, c114, c121]
                    rw [e] at ih17
                    exact ih17
          · skip
            refine g_iload_n (q := 49) dX10_canShow_48 rfl rfl rfl ?_
            refine g_goto (q := 53) dX10_canShow_49 (by decide) ?_
            refine g_isub (q := 54) dX10_canShow_53 rfl ?_
            refine g_top (y := aV st_ sw x m i) (by rw [aV, xF_t c45]; rfl) ?_
            refine g_istore (lv' := [(0, _), (1, _), (2, _), (3, _), (4, _), (5, _), (6, _)]) (q := 56) dX10_canShow_54 rfl (Nat.le_of_ble_eq_true rfl) rfl ?_
            refine g_aload_n (q := 57) dX10_canShow_56 rfl rfl rfl ?_
            refine gf_X10_45 rfl 0 rfl rfl (q := 60) dX10_canShow_57 rfl ?_
            refine g_iconst (v := nI 3) (q := 61) dX10_canShow_60 rfl ki_3 ?_
            refine g_iload (q := 63) dX10_canShow_61 rfl rfl ?_
            refine g_imulN (q := 64) dX10_canShow_63 rfl ?_
            refine g_iconst (v := nI 2) (q := 65) dX10_canShow_64 rfl ki_2 ?_
            refine g_iaddN (q := 66) dX10_canShow_65 rfl ?_
            refine g_iald (v := nI (sw j)) 1 rfl (ixIn (j := 3 * j + 2) rfl (by omega) (by decide)) ((ixV (j := 3 * j + 2) rfl (by omega)).trans (scF_2 j)) (q := 67) dX10_canShow_66 rfl ?_
            refine g_aload_n (q := 68) dX10_canShow_67 rfl rfl rfl ?_
            refine gf_X10_45 rfl 0 rfl rfl (q := 71) dX10_canShow_68 rfl ?_
            refine g_iconst (v := nI 3) (q := 72) dX10_canShow_71 rfl ki_3 ?_
            refine g_iload (q := 74) dX10_canShow_72 rfl rfl ?_
            refine g_imulN (q := 75) dX10_canShow_74 rfl ?_
            refine g_iald (v := nI (st_ j)) 1 rfl (ixIn (j := 3 * j) rfl (by omega) (by decide)) ((ixV (j := 3 * j) rfl (by omega)).trans (scF_0 j)) (q := 76) dX10_canShow_75 rfl ?_
            refine g_iload_n (q := 77) dX10_canShow_76 rfl rfl rfl ?_
            refine g_icmp_ne (t := 84) (q := 80) dX10_canShow_77 (by decide) rfl (fun c77 => ?_) (fun c77 => ?_)
            · skip
              refine g_iconst (v := nI 0) (q := 85) dX10_canShow_84 rfl ki_0 ?_
              refine g_isub (q := 86) dX10_canShow_85 rfl ?_
              refine g_top (y := aV st_ sw x m j) (by rw [aV, xF_f c77]; rfl) ?_
              refine g_istore (lv' := [(0, _), (1, _), (2, _), (3, _), (4, _), (5, _), (6, _), (7, _)]) (q := 88) dX10_canShow_86 rfl (Nat.le_of_ble_eq_true rfl) rfl ?_
              refine g_iload_n (q := 89) dX10_canShow_88 rfl rfl rfl ?_
              refine g_if_eq (t := 128) (q := 92) dX10_canShow_89 (by decide) rfl (fun c89 => ?_) (fun c89 => ?_)
              · skip
                refine g_iconst (v := nI 0) (q := 129) dX10_canShow_128 rfl ki_0 ?_
                refine g_istore_n (lv' := [(0, _), (1, _), (2, _), (3, _), (4, _), (5, _), (6, _), (7, _)]) (q := 130) dX10_canShow_129 rfl rfl (Nat.le_of_ble_eq_true rfl) rfl ?_
                refine g_iinc (lv' := [(0, _), (1, _), (2, _), (3, _), (4, _), (5, _), (6, _), (7, _)]) (v := nI (j + 1)) (q := 133) dX10_canShow_130 rfl rfl (nI_inc _) (Nat.le_of_ble_eq_true rfl) rfl ?_
                refine g_goto (q := 17) dX10_canShow_133 (by decide) ?_
                refine g_less (lv' := [(0, _), (1, _), (2, _), (3, _), (4, _), (5, _)]) 6 rfl ?_
                have e : (shS st_ sb sw x m i && allN (pOk st_ sb sw x m i) (j + 1)) = false := by rw [show (shS st_ sb sw x m i && allN (pOk st_ sb sw x m i) (j + 1)) = ((shS st_ sb sw x m i && allN (pOk st_ sb sw x m i) j) && pOk st_ sb sw x m i j) by rw [allN, Bool.and_assoc]]; rw [bI_eq0.mp c89]; rfl
                rw [e] at ih17
                exact ih17
              · skip
                refine g_aload_n (q := 93) dX10_canShow_92 rfl rfl rfl ?_
                refine gf_X10_45 rfl 0 rfl rfl (q := 96) dX10_canShow_93 rfl ?_
                refine g_iconst (v := nI 3) (q := 97) dX10_canShow_96 rfl ki_3 ?_
                refine g_iload (q := 99) dX10_canShow_97 rfl rfl ?_
                refine g_imulN (q := 100) dX10_canShow_99 rfl ?_
                refine g_iconst (v := nI 1) (q := 101) dX10_canShow_100 rfl ki_1 ?_
                refine g_iaddN (q := 102) dX10_canShow_101 rfl ?_
                have hb5 := hsb (i) (by omega)
                refine g_iald (v := nI (sb i)) 1 rfl (ixIn (j := 3 * i + 1) rfl (by omega) (by decide)) ((ixV (j := 3 * i + 1) rfl (by omega)).trans (scF_1 i)) (q := 103) dX10_canShow_102 rfl ?_
                refine g_aload_n (q := 104) dX10_canShow_103 rfl rfl rfl ?_
                refine gf_X10_45 rfl 0 rfl rfl (q := 107) dX10_canShow_104 rfl ?_
                refine g_iconst (v := nI 3) (q := 108) dX10_canShow_107 rfl ki_3 ?_
                refine g_iload (q := 110) dX10_canShow_108 rfl rfl ?_
                refine g_imulN (q := 111) dX10_canShow_110 rfl ?_
                refine g_iconst (v := nI 1) (q := 112) dX10_canShow_111 rfl ki_1 ?_
                refine g_iaddN (q := 113) dX10_canShow_112 rfl ?_
                have hb6 := hsb (j) (by omega)
                refine g_iald (v := nI (sb j)) 1 rfl (ixIn (j := 3 * j + 1) rfl (by omega) (by decide)) ((ixV (j := 3 * j + 1) rfl (by omega)).trans (scF_1 j)) (q := 114) dX10_canShow_113 rfl ?_
                refine g_icmp_neN (t := 124) (q := 117) dX10_canShow_114 (by decide) rfl (by omega) (by omega) (fun c114 => ?_) (fun c114 => ?_)
                · skip
                  refine g_iconst (v := nI 1) (q := 125) dX10_canShow_124 rfl ki_1 ?_
                  refine g_goto (q := 129) dX10_canShow_125 (by decide) ?_
                  refine g_istore_n (lv' := [(0, _), (1, _), (2, _), (3, _), (4, _), (5, _), (6, _), (7, _)]) (q := 130) dX10_canShow_129 rfl rfl (Nat.le_of_ble_eq_true rfl) rfl ?_
                  refine g_iinc (lv' := [(0, _), (1, _), (2, _), (3, _), (4, _), (5, _), (6, _), (7, _)]) (v := nI (j + 1)) (q := 133) dX10_canShow_130 rfl rfl (nI_inc _) (Nat.le_of_ble_eq_true rfl) rfl ?_
                  refine g_goto (q := 17) dX10_canShow_133 (by decide) ?_
                  refine g_less (lv' := [(0, _), (1, _), (2, _), (3, _), (4, _), (5, _)]) 6 rfl ?_
                  have e : (shS st_ sb sw x m i && allN (pOk st_ sb sw x m i) (j + 1)) = true := by rw [show (shS st_ sb sw x m i && allN (pOk st_ sb sw x m i) (j + 1)) = ((shS st_ sb sw x m i && allN (pOk st_ sb sw x m i) j) && pOk st_ sb sw x m i j) by rw [allN, Bool.and_assoc]]; rw [bI_ne0.mp c89]; simp [pOk, c114]
                  rw [e] at ih17
                  exact ih17
                · skip
                  refine g_iload (q := 119) dX10_canShow_117 rfl rfl ?_
                  refine g_iload (q := 121) dX10_canShow_119 rfl rfl ?_
                  refine g_icmp_ne (t := 128) (q := 124) dX10_canShow_121 (by decide) rfl (fun c121 => ?_) (fun c121 => ?_)
                  · skip
                    refine g_iconst (v := nI 0) (q := 129) dX10_canShow_128 rfl ki_0 ?_
                    refine g_istore_n (lv' := [(0, _), (1, _), (2, _), (3, _), (4, _), (5, _), (6, _), (7, _)]) (q := 130) dX10_canShow_129 rfl rfl (Nat.le_of_ble_eq_true rfl) rfl ?_
                    refine g_iinc (lv' := [(0, _), (1, _), (2, _), (3, _), (4, _), (5, _), (6, _), (7, _)]) (v := nI (j + 1)) (q := 133) dX10_canShow_130 rfl rfl (nI_inc _) (Nat.le_of_ble_eq_true rfl) rfl ?_
                    refine g_goto (q := 17) dX10_canShow_133 (by decide) ?_
                    refine g_less (lv' := [(0, _), (1, _), (2, _), (3, _), (4, _), (5, _)]) 6 rfl ?_
                    have e : (shS st_ sb sw x m i && allN (pOk st_ sb sw x m i) (j + 1)) = false := by rw [show (shS st_ sb sw x m i && allN (pOk st_ sb sw x m i) (j + 1)) = ((shS st_ sb sw x m i && allN (pOk st_ sb sw x m i) j) && pOk st_ sb sw x m i j) by rw [allN, Bool.and_assoc]]; rw [bI_ne0.mp c89]; simp [pOk, c114, c121]
                    rw [e] at ih17
                    exact ih17
                  · skip
                    refine g_iconst (v := nI 1) (q := 125) dX10_canShow_124 rfl ki_1 ?_
                    refine g_goto (q := 129) dX10_canShow_125 (by decide) ?_
                    refine g_istore_n (lv' := [(0, _), (1, _), (2, _), (3, _), (4, _), (5, _), (6, _), (7, _)]) (q := 130) dX10_canShow_129 rfl rfl (Nat.le_of_ble_eq_true rfl) rfl ?_
                    refine g_iinc (lv' := [(0, _), (1, _), (2, _), (3, _), (4, _), (5, _), (6, _), (7, _)]) (v := nI (j + 1)) (q := 133) dX10_canShow_130 rfl rfl (nI_inc _) (Nat.le_of_ble_eq_true rfl) rfl ?_
                    refine g_goto (q := 17) dX10_canShow_133 (by decide) ?_
                    refine g_less (lv' := [(0, _), (1, _), (2, _), (3, _), (4, _), (5, _)]) 6 rfl ?_
                    have e : (shS st_ sb sw x m i && allN (pOk st_ sb sw x m i) (j + 1)) = true := by rw [show (shS st_ sb sw x m i && allN (pOk st_ sb sw x m i) (j + 1)) = ((shS st_ sb sw x m i && allN (pOk st_ sb sw x m i) j) && pOk st_ sb sw x m i j) by rw [allN, Bool.and_assoc]]; rw [bI_ne0.mp c89]; simp [pOk, c114, c121]
                    rw [e] at ih17
                    exact ih17
            · skip
              refine g_iload_n (q := 81) dX10_canShow_80 rfl rfl rfl ?_
              refine g_goto (q := 85) dX10_canShow_81 (by decide) ?_
              refine g_isub (q := 86) dX10_canShow_85 rfl ?_
              refine g_top (y := aV st_ sw x m j) (by rw [aV, xF_t c77]; rfl) ?_
              refine g_istore (lv' := [(0, _), (1, _), (2, _), (3, _), (4, _), (5, _), (6, _), (7, _)]) (q := 88) dX10_canShow_86 rfl (Nat.le_of_ble_eq_true rfl) rfl ?_
              refine g_iload_n (q := 89) dX10_canShow_88 rfl rfl rfl ?_
              refine g_if_eq (t := 128) (q := 92) dX10_canShow_89 (by decide) rfl (fun c89 => ?_) (fun c89 => ?_)
              · skip
                refine g_iconst (v := nI 0) (q := 129) dX10_canShow_128 rfl ki_0 ?_
                refine g_istore_n (lv' := [(0, _), (1, _), (2, _), (3, _), (4, _), (5, _), (6, _), (7, _)]) (q := 130) dX10_canShow_129 rfl rfl (Nat.le_of_ble_eq_true rfl) rfl ?_
                refine g_iinc (lv' := [(0, _), (1, _), (2, _), (3, _), (4, _), (5, _), (6, _), (7, _)]) (v := nI (j + 1)) (q := 133) dX10_canShow_130 rfl rfl (nI_inc _) (Nat.le_of_ble_eq_true rfl) rfl ?_
                refine g_goto (q := 17) dX10_canShow_133 (by decide) ?_
                refine g_less (lv' := [(0, _), (1, _), (2, _), (3, _), (4, _), (5, _)]) 6 rfl ?_
                have e : (shS st_ sb sw x m i && allN (pOk st_ sb sw x m i) (j + 1)) = false := by rw [show (shS st_ sb sw x m i && allN (pOk st_ sb sw x m i) (j + 1)) = ((shS st_ sb sw x m i && allN (pOk st_ sb sw x m i) j) && pOk st_ sb sw x m i j) by rw [allN, Bool.and_assoc]]; rw [bI_eq0.mp c89]; rfl
                rw [e] at ih17
                exact ih17
              · skip
                refine g_aload_n (q := 93) dX10_canShow_92 rfl rfl rfl ?_
                refine gf_X10_45 rfl 0 rfl rfl (q := 96) dX10_canShow_93 rfl ?_
                refine g_iconst (v := nI 3) (q := 97) dX10_canShow_96 rfl ki_3 ?_
                refine g_iload (q := 99) dX10_canShow_97 rfl rfl ?_
                refine g_imulN (q := 100) dX10_canShow_99 rfl ?_
                refine g_iconst (v := nI 1) (q := 101) dX10_canShow_100 rfl ki_1 ?_
                refine g_iaddN (q := 102) dX10_canShow_101 rfl ?_
                have hb7 := hsb (i) (by omega)
                refine g_iald (v := nI (sb i)) 1 rfl (ixIn (j := 3 * i + 1) rfl (by omega) (by decide)) ((ixV (j := 3 * i + 1) rfl (by omega)).trans (scF_1 i)) (q := 103) dX10_canShow_102 rfl ?_
                refine g_aload_n (q := 104) dX10_canShow_103 rfl rfl rfl ?_
                refine gf_X10_45 rfl 0 rfl rfl (q := 107) dX10_canShow_104 rfl ?_
                refine g_iconst (v := nI 3) (q := 108) dX10_canShow_107 rfl ki_3 ?_
                refine g_iload (q := 110) dX10_canShow_108 rfl rfl ?_
                refine g_imulN (q := 111) dX10_canShow_110 rfl ?_
                refine g_iconst (v := nI 1) (q := 112) dX10_canShow_111 rfl ki_1 ?_
                refine g_iaddN (q := 113) dX10_canShow_112 rfl ?_
                have hb8 := hsb (j) (by omega)
                refine g_iald (v := nI (sb j)) 1 rfl (ixIn (j := 3 * j + 1) rfl (by omega) (by decide)) ((ixV (j := 3 * j + 1) rfl (by omega)).trans (scF_1 j)) (q := 114) dX10_canShow_113 rfl ?_
                refine g_icmp_neN (t := 124) (q := 117) dX10_canShow_114 (by decide) rfl (by omega) (by omega) (fun c114 => ?_) (fun c114 => ?_)
                · skip
                  refine g_iconst (v := nI 1) (q := 125) dX10_canShow_124 rfl ki_1 ?_
                  refine g_goto (q := 129) dX10_canShow_125 (by decide) ?_
                  refine g_istore_n (lv' := [(0, _), (1, _), (2, _), (3, _), (4, _), (5, _), (6, _), (7, _)]) (q := 130) dX10_canShow_129 rfl rfl (Nat.le_of_ble_eq_true rfl) rfl ?_
                  refine g_iinc (lv' := [(0, _), (1, _), (2, _), (3, _), (4, _), (5, _), (6, _), (7, _)]) (v := nI (j + 1)) (q := 133) dX10_canShow_130 rfl rfl (nI_inc _) (Nat.le_of_ble_eq_true rfl) rfl ?_
                  refine g_goto (q := 17) dX10_canShow_133 (by decide) ?_
                  refine g_less (lv' := [(0, _), (1, _), (2, _), (3, _), (4, _), (5, _)]) 6 rfl ?_
                  have e : (shS st_ sb sw x m i && allN (pOk st_ sb sw x m i) (j + 1)) = true := by rw [show (shS st_ sb sw x m i && allN (pOk st_ sb sw x m i) (j + 1)) = ((shS st_ sb sw x m i && allN (pOk st_ sb sw x m i) j) && pOk st_ sb sw x m i j) by rw [allN, Bool.and_assoc]]; rw [bI_ne0.mp c89]; simp [pOk, c114]
                  rw [e] at ih17
                  exact ih17
                · skip
                  refine g_iload (q := 119) dX10_canShow_117 rfl rfl ?_
                  refine g_iload (q := 121) dX10_canShow_119 rfl rfl ?_
                  refine g_icmp_ne (t := 128) (q := 124) dX10_canShow_121 (by decide) rfl (fun c121 => ?_) (fun c121 => ?_)
                  · skip
                    refine g_iconst (v := nI 0) (q := 129) dX10_canShow_128 rfl ki_0 ?_
                    refine g_istore_n (lv' := [(0, _), (1, _), (2, _), (3, _), (4, _), (5, _), (6, _), (7, _)]) (q := 130) dX10_canShow_129 rfl rfl (Nat.le_of_ble_eq_true rfl) rfl ?_
                    refine g_iinc (lv' := [(0, _), (1, _), (2, _), (3, _), (4, _), (5, _), (6, _), (7, _)]) (v := nI (j + 1)) (q := 133) dX10_canShow_130 rfl rfl (nI_inc _) (Nat.le_of_ble_eq_true rfl) rfl ?_
                    refine g_goto (q := 17) dX10_canShow_133 (by decide) ?_
                    refine g_less (lv' := [(0, _), (1, _), (2, _), (3, _), (4, _), (5, _)]) 6 rfl ?_
                    have e : (shS st_ sb sw x m i && allN (pOk st_ sb sw x m i) (j + 1)) = false := by rw [show (shS st_ sb sw x m i && allN (pOk st_ sb sw x m i) (j + 1)) = ((shS st_ sb sw x m i && allN (pOk st_ sb sw x m i) j) && pOk st_ sb sw x m i j) by rw [allN, Bool.and_assoc]]; rw [bI_ne0.mp c89]; simp [pOk, c114, c121]
                    rw [e] at ih17
                    exact ih17
                  · skip
                    refine g_iconst (v := nI 1) (q := 125) dX10_canShow_124 rfl ki_1 ?_
                    refine g_goto (q := 129) dX10_canShow_125 (by decide) ?_
                    refine g_istore_n (lv' := [(0, _), (1, _), (2, _), (3, _), (4, _), (5, _), (6, _), (7, _)]) (q := 130) dX10_canShow_129 rfl rfl (Nat.le_of_ble_eq_true rfl) rfl ?_
                    refine g_iinc (lv' := [(0, _), (1, _), (2, _), (3, _), (4, _), (5, _), (6, _), (7, _)]) (v := nI (j + 1)) (q := 133) dX10_canShow_130 rfl rfl (nI_inc _) (Nat.le_of_ble_eq_true rfl) rfl ?_
                    refine g_goto (q := 17) dX10_canShow_133 (by decide) ?_
                    refine g_less (lv' := [(0, _), (1, _), (2, _), (3, _), (4, _), (5, _)]) 6 rfl ?_
                    have e : (shS st_ sb sw x m i && allN (pOk st_ sb sw x m i) (j + 1)) = true := by rw [show (shS st_ sb sw x m i && allN (pOk st_ sb sw x m i) (j + 1)) = ((shS st_ sb sw x m i && allN (pOk st_ sb sw x m i) j) && pOk st_ sb sw x m i j) by rw [allN, Bool.and_assoc]]; rw [bI_ne0.mp c89]; simp [pOk, c114, c121]
                    rw [e] at ih17
                    exact ih17
      · skip
        show G E _ [(m0, .inr (10, (.int (nI (nt)) :: .ref mt :: .int (nI (nb)) :: .ref mk :: .ref mb :: .int (nI (lw)) :: .int (nI (sl)) :: .int (nI (tl)) :: .ref mx :: .int (po) :: .int (ta) :: .long (tk) :: .int (dg) :: .int (nu) :: .int (fa) :: .int (rm_) :: .int (rto) :: .int (rbo) :: .ref mr :: .ref mn :: .ref ma :: .ref mi :: .ref mj :: .int (nI (en)) :: .ref mg :: .int (nI (sn)) :: .ref ms :: .int (nI (dn)) :: .ref md :: .ref mc :: .ref me :: .int (ga) :: .ref mh :: .ref mo :: .ref mw :: []))), (ms, .inl (E.2.1.1, 36, .inl (scF st_ sb sw)))] 17 [(0, .ref m0), (1, .int (x)), (2, .int (m)), (3, .int (bI (shS st_ sb sw x m i && allN (pOk st_ sb sw x m i) i))), (4, .int (nI (i))), (5, .int (nI (i)))] []
        refine g_iload (q := 19) dX10_canShow_17 rfl rfl ?_
        refine g_iload (q := 21) dX10_canShow_19 rfl rfl ?_
        refine g_icmp_geN (t := 136) (q := 24) dX10_canShow_21 (by decide) rfl (by omega) (by omega) (fun c21 => ?_) (fun c21 => ?_)
        · skip
          refine g_iinc (lv' := [(0, _), (1, _), (2, _), (3, _), (4, _), (5, _)]) (v := nI (i + 1)) (q := 139) dX10_canShow_136 rfl rfl (nI_inc _) (Nat.le_of_ble_eq_true rfl) rfl ?_
          refine g_goto (q := 5) dX10_canShow_139 (by decide) ?_
          refine g_less (lv' := [(0, _), (1, _), (2, _), (3, _), (4, _)]) 5 rfl ?_
          exact ih5
        · omega
  · skip
    show G E _ [(m0, .inr (10, (.int (nI (nt)) :: .ref mt :: .int (nI (nb)) :: .ref mk :: .ref mb :: .int (nI (lw)) :: .int (nI (sl)) :: .int (nI (tl)) :: .ref mx :: .int (po) :: .int (ta) :: .long (tk) :: .int (dg) :: .int (nu) :: .int (fa) :: .int (rm_) :: .int (rto) :: .int (rbo) :: .ref mr :: .ref mn :: .ref ma :: .ref mi :: .ref mj :: .int (nI (en)) :: .ref mg :: .int (nI (sn)) :: .ref ms :: .int (nI (dn)) :: .ref md :: .ref mc :: .ref me :: .int (ga) :: .ref mh :: .ref mo :: .ref mw :: []))), (ms, .inl (E.2.1.1, 36, .inl (scF st_ sb sw)))] 5 [(0, .ref m0), (1, .int (x)), (2, .int (m)), (3, .int (bI (shS st_ sb sw x m sn))), (4, .int (nI (sn)))] []
    refine g_iload (q := 7) dX10_canShow_5 rfl rfl ?_
    refine g_aload_n (q := 8) dX10_canShow_7 rfl rfl rfl ?_
    refine gf_X10_197 rfl 0 rfl rfl (q := 11) dX10_canShow_8 rfl ?_
    refine g_icmp_geN (t := 142) (q := 14) dX10_canShow_11 (by decide) rfl (by omega) (by omega) (fun c11 => ?_) (fun c11 => ?_)
    · skip
      refine g_iload_n (q := 143) dX10_canShow_142 rfl rfl rfl ?_
      refine g_iret (st := []) dX10_canShow_143 rfl (narZ (bI_01 _)) rfl ?_
      exact (xr rfl)
    · omega
set_option maxHeartbeats 2000000 in
set_option maxRecDepth 20000 in
theorem c_mscales {E : EN} {m0 mt mk mb mx mr mn ma mi mj mg ms md mc me mh mo mw nt nb lw sl tl en sn dn : Nat} {po ta dg nu fa rm_ rto rbo ga : Int32} {tk : Int64} {st_ sb sw : Nat → Nat} {x : Int32} (hnt : nt ≤ 6) (hsn : sn ≤ 12) (hsb : ∀ j, j < 12 → sb j < 100)  : CT E yX10_scales cX10_scales 6 (some .int) 1 [.ref m0, .int (x)] [(m0, .inr (10, (.int (nI (nt)) :: .ref mt :: .int (nI (nb)) :: .ref mk :: .ref mb :: .int (nI (lw)) :: .int (nI (sl)) :: .int (nI (tl)) :: .ref mx :: .int (po) :: .int (ta) :: .long (tk) :: .int (dg) :: .int (nu) :: .int (fa) :: .int (rm_) :: .int (rto) :: .int (rbo) :: .ref mr :: .ref mn :: .ref ma :: .ref mi :: .ref mj :: .int (nI (en)) :: .ref mg :: .int (nI (sn)) :: .ref ms :: .int (nI (dn)) :: .ref md :: .ref mc :: .ref me :: .int (ga) :: .ref mh :: .ref mo :: .ref mw :: []))), (ms, .inl (E.2.1.1, 36, .inl (scF st_ sb sw)))] (xQ (some (.int (opScalesM nt sn st_ sb sw x))) [(m0, .inr (10, (.int (nI (nt)) :: .ref mt :: .int (nI (nb)) :: .ref mk :: .ref mb :: .int (nI (lw)) :: .int (nI (sl)) :: .int (nI (tl)) :: .ref mx :: .int (po) :: .int (ta) :: .long (tk) :: .int (dg) :: .int (nu) :: .int (fa) :: .int (rm_) :: .int (rto) :: .int (rbo) :: .ref mr :: .ref mn :: .ref ma :: .ref mi :: .ref mj :: .int (nI (en)) :: .ref mg :: .int (nI (sn)) :: .ref ms :: .int (nI (dn)) :: .ref md :: .ref mc :: .ref me :: .int (ga) :: .ref mh :: .ref mo :: .ref mw :: []))), (ms, .inl (E.2.1.1, 36, .inl (scF st_ sb sw)))]) := by
  refine ct_of (by decide +kernel) (Nat.le_of_ble_eq_true rfl) (lv := [(0, .ref m0), (1, .int (x))]) rfl (fun A => ?_)
  refine g_iload_n (q := 1) dX10_scales_0 rfl rfl rfl ?_
  refine g_iconst (v := nI 0) (q := 2) dX10_scales_1 rfl ki_0 ?_
  refine g_iconst (v := nI 1) (q := 3) dX10_scales_2 rfl ki_1 ?_
  refine gc_X10_73 (c_in) rfl (Nat.le_of_ble_eq_true rfl) rfl [] rfl rfl (rest := []) rfl (Nat.le_of_ble_eq_true rfl) (q := 6) dX10_scales_3 rfl (exK (ws' := [_, _]) (st' := [.int (bI (!ninB x (nI 0) (nI 1)))]) rfl rfl ?_)
  refine g_top (y := bI (rn x 0 1).isSome) (by rw [ninB_rn (by decide) (by decide), not_isNone]) ?_
  refine g_if_ne (t := 12) (q := 9) dX10_scales_6 (by decide) rfl (fun c6 => ?_) (fun c6 => ?_)
  · obtain ⟨k0, hk0⟩ := isSome_t (bI_ne0.mp c6)
    obtain ⟨hk01, hk02, rfl⟩ := rn_some hk0
    refine g_iload_n (q := 13) dX10_scales_12 rfl rfl rfl ?_
    refine g_iconst (v := nI 1) (q := 14) dX10_scales_13 rfl ki_1 ?_
    refine g_icmp_neN (t := 32) (q := 17) dX10_scales_14 (by decide) rfl (by omega) (by omega) (fun c14 => ?_) (fun c14 => ?_)
    · skip
      refine g_iconst (v := nI 0) (q := 33) dX10_scales_32 rfl ki_0 ?_
      refine g_istore_n (lv' := [(0, _), (1, _), (2, _)]) (q := 34) dX10_scales_33 rfl rfl (Nat.le_of_ble_eq_true rfl) rfl ?_
      refine g_iconst (v := nI 0) (q := 35) dX10_scales_34 rfl ki_0 ?_
      refine g_istore_n (lv' := [(0, _), (1, _), (2, _), (3, _)]) (q := 36) dX10_scales_35 rfl rfl (Nat.le_of_ble_eq_true rfl) rfl ?_
      refine g_loop (nt) (fun t => [(m0, .inr (10, (.int (nI (nt)) :: .ref mt :: .int (nI (nb)) :: .ref mk :: .ref mb :: .int (nI (lw)) :: .int (nI (sl)) :: .int (nI (tl)) :: .ref mx :: .int (po) :: .int (ta) :: .long (tk) :: .int (dg) :: .int (nu) :: .int (fa) :: .int (rm_) :: .int (rto) :: .int (rbo) :: .ref mr :: .ref mn :: .ref ma :: .ref mi :: .ref mj :: .int (nI (en)) :: .ref mg :: .int (nI (sn)) :: .ref ms :: .int (nI (dn)) :: .ref md :: .ref mc :: .ref me :: .int (ga) :: .ref mh :: .ref mo :: .ref mw :: []))), (ms, .inl (E.2.1.1, 36, .inl (scF st_ sb sw)))]) (fun t => [(0, .ref m0), (1, .int (nI (k0))), (2, .int (bitsI (fun t => shA st_ sb sw sn t 401) t)), (3, .int (nI (t)))]) ?_ ?_ 0 (Nat.zero_le _)
      · intro t ht36 ih36
        show G E _ [(m0, .inr (10, (.int (nI (nt)) :: .ref mt :: .int (nI (nb)) :: .ref mk :: .ref mb :: .int (nI (lw)) :: .int (nI (sl)) :: .int (nI (tl)) :: .ref mx :: .int (po) :: .int (ta) :: .long (tk) :: .int (dg) :: .int (nu) :: .int (fa) :: .int (rm_) :: .int (rto) :: .int (rbo) :: .ref mr :: .ref mn :: .ref ma :: .ref mi :: .ref mj :: .int (nI (en)) :: .ref mg :: .int (nI (sn)) :: .ref ms :: .int (nI (dn)) :: .ref md :: .ref mc :: .ref me :: .int (ga) :: .ref mh :: .ref mo :: .ref mw :: []))), (ms, .inl (E.2.1.1, 36, .inl (scF st_ sb sw)))] 36 [(0, .ref m0), (1, .int (nI (k0))), (2, .int (bitsI (fun t => shA st_ sb sw sn t 401) t)), (3, .int (nI (t)))] []
        refine g_iload_n (q := 37) dX10_scales_36 rfl rfl rfl ?_
        refine g_aload_n (q := 38) dX10_scales_37 rfl rfl rfl ?_
        refine gf_X10_7 rfl 0 rfl rfl (q := 41) dX10_scales_38 rfl ?_
        refine g_icmp_geN (t := 114) (q := 44) dX10_scales_41 (by decide) rfl (by omega) (by omega) (fun c41 => ?_) (fun c41 => ?_)
        · omega
        · skip
          refine g_iconst (v := nI 0) (q := 45) dX10_scales_44 rfl ki_0 ?_
          refine g_istore (lv' := [(0, _), (1, _), (2, _), (3, _), (4, _)]) (q := 47) dX10_scales_45 rfl (Nat.le_of_ble_eq_true rfl) rfl ?_
          refine g_sipush (v := (-200)) (q := 50) dX10_scales_47 rfl ks_m200 ?_
          refine g_istore (lv' := [(0, _), (1, _), (2, _), (3, _), (4, _), (5, _)]) (q := 52) dX10_scales_50 rfl (Nat.le_of_ble_eq_true rfl) rfl ?_
          refine g_eq (lv' := [(0, .ref m0), (1, .int (nI k0)), (2, .int (bitsI (fun t => shA st_ sb sw sn t 401) t)), (3, .int (nI t)), (4, .int (bI (shA st_ sb sw sn t 0))), (5, .int (moI 0))]) ?_ rfl rfl rfl
          refine g_loop (401) (fun k => [(m0, .inr (10, (.int (nI (nt)) :: .ref mt :: .int (nI (nb)) :: .ref mk :: .ref mb :: .int (nI (lw)) :: .int (nI (sl)) :: .int (nI (tl)) :: .ref mx :: .int (po) :: .int (ta) :: .long (tk) :: .int (dg) :: .int (nu) :: .int (fa) :: .int (rm_) :: .int (rto) :: .int (rbo) :: .ref mr :: .ref mn :: .ref ma :: .ref mi :: .ref mj :: .int (nI (en)) :: .ref mg :: .int (nI (sn)) :: .ref ms :: .int (nI (dn)) :: .ref md :: .ref mc :: .ref me :: .int (ga) :: .ref mh :: .ref mo :: .ref mw :: []))), (ms, .inl (E.2.1.1, 36, .inl (scF st_ sb sw)))]) (fun k => [(0, .ref m0), (1, .int (nI (k0))), (2, .int (bitsI (fun t => shA st_ sb sw sn t 401) t)), (3, .int (nI (t))), (4, .int (bI (shA st_ sb sw sn t k))), (5, .int (moI k))]) ?_ ?_ 0 (Nat.zero_le _)
          · intro k hk52 ih52
            show G E _ [(m0, .inr (10, (.int (nI (nt)) :: .ref mt :: .int (nI (nb)) :: .ref mk :: .ref mb :: .int (nI (lw)) :: .int (nI (sl)) :: .int (nI (tl)) :: .ref mx :: .int (po) :: .int (ta) :: .long (tk) :: .int (dg) :: .int (nu) :: .int (fa) :: .int (rm_) :: .int (rto) :: .int (rbo) :: .ref mr :: .ref mn :: .ref ma :: .ref mi :: .ref mj :: .int (nI (en)) :: .ref mg :: .int (nI (sn)) :: .ref ms :: .int (nI (dn)) :: .ref md :: .ref mc :: .ref me :: .int (ga) :: .ref mh :: .ref mo :: .ref mw :: []))), (ms, .inl (E.2.1.1, 36, .inl (scF st_ sb sw)))] 52 [(0, .ref m0), (1, .int (nI (k0))), (2, .int (bitsI (fun t => shA st_ sb sw sn t 401) t)), (3, .int (nI (t))), (4, .int (bI (shA st_ sb sw sn t k))), (5, .int (moI k))] []
            refine g_iload (q := 54) dX10_scales_52 rfl rfl ?_
            refine g_sipush (v := nI 201) (q := 57) dX10_scales_54 rfl ks_201 ?_
            refine g_icmp_ge (t := 93) (q := 60) dX10_scales_57 (by decide) rfl (fun c57 => ?_) (fun c57 => ?_)
            · exact absurd (moI_lt k hk52) (Int32.not_lt.mpr c57)
            · skip
              refine g_iload (q := 62) dX10_scales_60 rfl rfl ?_
              refine g_if_ne (t := 80) (q := 65) dX10_scales_62 (by decide) rfl (fun c62 => ?_) (fun c62 => ?_)
              · skip
                refine g_iconst (v := nI 1) (q := 81) dX10_scales_80 rfl ki_1 ?_
                refine g_goto (q := 85) dX10_scales_81 (by decide) ?_
                refine g_istore (lv' := [(0, _), (1, _), (2, _), (3, _), (4, _), (5, _)]) (q := 87) dX10_scales_85 rfl (Nat.le_of_ble_eq_true rfl) rfl ?_
                refine g_iinc (lv' := [(0, _), (1, _), (2, _), (3, _), (4, _), (5, _)]) (v := moI k + (1)) (q := 90) dX10_scales_87 rfl rfl (nI_incI _) (Nat.le_of_ble_eq_true rfl) rfl ?_
                refine g_goto (q := 52) dX10_scales_90 (by decide) ?_
                have e : shA st_ sb sw sn t (k + 1) = true := by show (shA st_ sb sw sn t k || _) = true; rw [bI_ne0.mp c62]; rfl
                rw [e, moI_s] at ih52
                exact ih52
              · skip
                refine g_iload (q := 67) dX10_scales_65 rfl rfl ?_
                refine g_if_eq (t := 84) (q := 70) dX10_scales_67 (by decide) rfl (fun c67 => ?_) (fun c67 => ?_)
                · skip
                  refine g_iconst (v := nI 0) (q := 85) dX10_scales_84 rfl ki_0 ?_
                  refine g_istore (lv' := [(0, _), (1, _), (2, _), (3, _), (4, _), (5, _)]) (q := 87) dX10_scales_85 rfl (Nat.le_of_ble_eq_true rfl) rfl ?_
                  refine g_iinc (lv' := [(0, _), (1, _), (2, _), (3, _), (4, _), (5, _)]) (v := moI k + (1)) (q := 90) dX10_scales_87 rfl rfl (nI_incI _) (Nat.le_of_ble_eq_true rfl) rfl ?_
                  refine g_goto (q := 52) dX10_scales_90 (by decide) ?_
                  have e : shA st_ sb sw sn t (k + 1) = false := by show (shA st_ sb sw sn t k || (!decide (moI k = 0) && _)) = false; rw [bI_eq0.mp c62, decide_eq_true c67]; rfl
                  rw [e, moI_s] at ih52
                  exact ih52
                · skip
                  refine g_aload_n (q := 71) dX10_scales_70 rfl rfl rfl ?_
                  refine g_iload_n (q := 72) dX10_scales_71 rfl rfl rfl ?_
                  refine g_iload (q := 74) dX10_scales_72 rfl rfl ?_
                  refine gc_X10_273 (c_canShow hsn hsb) rfl (Nat.le_of_ble_eq_true rfl) rfl 0 rfl [0, 1] rfl rfl (rest := []) rfl (Nat.le_of_ble_eq_true rfl) (q := 77) dX10_scales_74 rfl (exK (ws' := [_, _]) (st' := [.int (bI (shS st_ sb sw (nI (t)) (moI k) sn))]) rfl rfl ?_)
                  refine g_if_eq (t := 84) (q := 80) dX10_scales_77 (by decide) rfl (fun c77 => ?_) (fun c77 => ?_)
                  · skip
                    refine g_iconst (v := nI 0) (q := 85) dX10_scales_84 rfl ki_0 ?_
                    refine g_istore (lv' := [(0, _), (1, _), (2, _), (3, _), (4, _), (5, _)]) (q := 87) dX10_scales_85 rfl (Nat.le_of_ble_eq_true rfl) rfl ?_
                    refine g_iinc (lv' := [(0, _), (1, _), (2, _), (3, _), (4, _), (5, _)]) (v := moI k + (1)) (q := 90) dX10_scales_87 rfl rfl (nI_incI _) (Nat.le_of_ble_eq_true rfl) rfl ?_
                    refine g_goto (q := 52) dX10_scales_90 (by decide) ?_
                    have e : shA st_ sb sw sn t (k + 1) = false := by show (shA st_ sb sw sn t k || (!decide (moI k = 0) && shS st_ sb sw (nI t) (moI k) sn)) = _; rw [bI_eq0.mp c62, decide_eq_false c67, bI_eq0.mp c77]; rfl
                    rw [e, moI_s] at ih52
                    exact ih52
                  · skip
                    refine g_iconst (v := nI 1) (q := 81) dX10_scales_80 rfl ki_1 ?_
                    refine g_goto (q := 85) dX10_scales_81 (by decide) ?_
                    refine g_istore (lv' := [(0, _), (1, _), (2, _), (3, _), (4, _), (5, _)]) (q := 87) dX10_scales_85 rfl (Nat.le_of_ble_eq_true rfl) rfl ?_
                    refine g_iinc (lv' := [(0, _), (1, _), (2, _), (3, _), (4, _), (5, _)]) (v := moI k + (1)) (q := 90) dX10_scales_87 rfl rfl (nI_incI _) (Nat.le_of_ble_eq_true rfl) rfl ?_
                    refine g_goto (q := 52) dX10_scales_90 (by decide) ?_
                    have e : shA st_ sb sw sn t (k + 1) = true := by show (shA st_ sb sw sn t k || (!decide (moI k = 0) && shS st_ sb sw (nI t) (moI k) sn)) = _; rw [bI_eq0.mp c62, decide_eq_false c67, bI_ne0.mp c77]; rfl
                    rw [e, moI_s] at ih52
                    exact ih52
          · skip
            show G E _ [(m0, .inr (10, (.int (nI (nt)) :: .ref mt :: .int (nI (nb)) :: .ref mk :: .ref mb :: .int (nI (lw)) :: .int (nI (sl)) :: .int (nI (tl)) :: .ref mx :: .int (po) :: .int (ta) :: .long (tk) :: .int (dg) :: .int (nu) :: .int (fa) :: .int (rm_) :: .int (rto) :: .int (rbo) :: .ref mr :: .ref mn :: .ref ma :: .ref mi :: .ref mj :: .int (nI (en)) :: .ref mg :: .int (nI (sn)) :: .ref ms :: .int (nI (dn)) :: .ref md :: .ref mc :: .ref me :: .int (ga) :: .ref mh :: .ref mo :: .ref mw :: []))), (ms, .inl (E.2.1.1, 36, .inl (scF st_ sb sw)))] 52 [(0, .ref m0), (1, .int (nI (k0))), (2, .int (bitsI (fun t => shA st_ sb sw sn t 401) t)), (3, .int (nI (t))), (4, .int (bI (shA st_ sb sw sn t 401))), (5, .int (moI 401))] []
            refine g_iload (q := 54) dX10_scales_52 rfl rfl ?_
            refine g_sipush (v := nI 201) (q := 57) dX10_scales_54 rfl ks_201 ?_
            refine g_icmp_ge (t := 93) (q := 60) dX10_scales_57 (by decide) rfl (fun c57 => ?_) (fun c57 => ?_)
            · skip
              refine g_iload_n (q := 94) dX10_scales_93 rfl rfl rfl ?_
              refine g_iload (q := 96) dX10_scales_94 rfl rfl ?_
              refine g_if_eq (t := 105) (q := 99) dX10_scales_96 (by decide) rfl (fun c96 => ?_) (fun c96 => ?_)
              · skip
                refine g_iconst (v := nI 0) (q := 106) dX10_scales_105 rfl ki_0 ?_
                refine g_ior (q := 107) dX10_scales_106 rfl ?_
                refine g_istore_n (lv' := [(0, _), (1, _), (2, _), (3, _), (4, _), (5, _)]) (q := 108) dX10_scales_107 rfl rfl (Nat.le_of_ble_eq_true rfl) rfl ?_
                refine g_iinc (lv' := [(0, _), (1, _), (2, _), (3, _), (4, _), (5, _)]) (v := nI (t + 1)) (q := 111) dX10_scales_108 rfl rfl (nI_inc _) (Nat.le_of_ble_eq_true rfl) rfl ?_
                refine g_goto (q := 36) dX10_scales_111 (by decide) ?_
                refine g_less (lv' := [(0, _), (1, _), (2, _), (3, _)]) 4 rfl ?_
                rw [bits_f (c := (fun t => shA st_ sb sw sn t 401)) (bI_eq0.mp c96)] at ih36
                rw [or_0]
                exact ih36
              · skip
                refine g_iconst (v := nI 1) (q := 100) dX10_scales_99 rfl ki_1 ?_
                refine g_iload_n (q := 101) dX10_scales_100 rfl rfl rfl ?_
                refine g_ishl (q := 102) dX10_scales_101 rfl ?_
                refine g_goto (q := 106) dX10_scales_102 (by decide) ?_
                refine g_ior (q := 107) dX10_scales_106 rfl ?_
                refine g_istore_n (lv' := [(0, _), (1, _), (2, _), (3, _), (4, _), (5, _)]) (q := 108) dX10_scales_107 rfl rfl (Nat.le_of_ble_eq_true rfl) rfl ?_
                refine g_iinc (lv' := [(0, _), (1, _), (2, _), (3, _), (4, _), (5, _)]) (v := nI (t + 1)) (q := 111) dX10_scales_108 rfl rfl (nI_inc _) (Nat.le_of_ble_eq_true rfl) rfl ?_
                refine g_goto (q := 36) dX10_scales_111 (by decide) ?_
                refine g_less (lv' := [(0, _), (1, _), (2, _), (3, _)]) 4 rfl ?_
                rw [bits_t (c := (fun t => shA st_ sb sw sn t 401)) (bI_ne0.mp c96)] at ih36
                exact ih36
            · exact absurd c57 (by decide)
      · skip
        show G E _ [(m0, .inr (10, (.int (nI (nt)) :: .ref mt :: .int (nI (nb)) :: .ref mk :: .ref mb :: .int (nI (lw)) :: .int (nI (sl)) :: .int (nI (tl)) :: .ref mx :: .int (po) :: .int (ta) :: .long (tk) :: .int (dg) :: .int (nu) :: .int (fa) :: .int (rm_) :: .int (rto) :: .int (rbo) :: .ref mr :: .ref mn :: .ref ma :: .ref mi :: .ref mj :: .int (nI (en)) :: .ref mg :: .int (nI (sn)) :: .ref ms :: .int (nI (dn)) :: .ref md :: .ref mc :: .ref me :: .int (ga) :: .ref mh :: .ref mo :: .ref mw :: []))), (ms, .inl (E.2.1.1, 36, .inl (scF st_ sb sw)))] 36 [(0, .ref m0), (1, .int (nI (k0))), (2, .int (bitsI (fun t => shA st_ sb sw sn t 401) nt)), (3, .int (nI (nt)))] []
        refine g_iload_n (q := 37) dX10_scales_36 rfl rfl rfl ?_
        refine g_aload_n (q := 38) dX10_scales_37 rfl rfl rfl ?_
        refine gf_X10_7 rfl 0 rfl rfl (q := 41) dX10_scales_38 rfl ?_
        refine g_icmp_geN (t := 114) (q := 44) dX10_scales_41 (by decide) rfl (by omega) (by omega) (fun c41 => ?_) (fun c41 => ?_)
        · skip
          refine g_iload_n (q := 115) dX10_scales_114 rfl rfl rfl ?_
          refine g_iret (st := []) dX10_scales_115 rfl rfl rfl ?_
          exact xr (by simp only [opScalesM, hk0]; rw [if_neg c14])
        · omega
    · skip
      refine g_aload_n (q := 18) dX10_scales_17 rfl rfl rfl ?_
      refine g_iconst (v := (-1)) (q := 19) dX10_scales_18 rfl ki_m1 ?_
      refine g_iconst (v := nI 0) (q := 20) dX10_scales_19 rfl ki_0 ?_
      refine gc_X10_273 (c_canShow hsn hsb) rfl (Nat.le_of_ble_eq_true rfl) rfl 0 rfl [0, 1] rfl rfl (rest := []) rfl (Nat.le_of_ble_eq_true rfl) (q := 23) dX10_scales_20 rfl (exK (ws' := [_, _]) (st' := [.int (bI (shS st_ sb sw (-1) (nI (0)) sn))]) rfl rfl ?_)
      refine g_if_eq (t := 30) (q := 26) dX10_scales_23 (by decide) rfl (fun c23 => ?_) (fun c23 => ?_)
      · skip
        refine g_iconst (v := nI 0) (q := 31) dX10_scales_30 rfl ki_0 ?_
        refine g_iret (st := []) dX10_scales_31 rfl rfl rfl ?_
        exact xr (by simp only [opScalesM, hk0]; rw [if_pos c14, bI_eq0.mp c23]; rfl)
      · skip
        refine g_iconst (v := nI 1) (q := 27) dX10_scales_26 rfl ki_1 ?_
        refine g_goto (q := 31) dX10_scales_27 (by decide) ?_
        refine g_iret (st := []) dX10_scales_31 rfl rfl rfl ?_
        exact xr (by simp only [opScalesM, hk0]; rw [if_pos c14, bI_ne0.mp c23]; rfl)
  · have nk0 := isSome_f (bI_eq0.mp c6)
    refine g_bipush (v := (-3)) (q := 11) dX10_scales_9 rfl kb_m3 ?_
    refine g_iret (st := []) dX10_scales_11 rfl rfl rfl ?_
    exact xr (by simp only [opScalesM, nk0])
