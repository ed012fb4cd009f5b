set_option maxHeartbeats 2000000 in
set_option maxRecDepth 20000 in
theorem c_mas {E : EN} {m0 mt mk mb mx mr mn ma mi mj mg ms md mc me mh mo mw nt nb lw sl tl en sn dn : Nat} {po ta dg nu fa rm_ rto rbo ga : Int32} {tk : Int64} {kd tw wt sk gr : Nat → Nat} {ch : Nat → Int32} {yr : Nat} {x y : Int32} (hnb : nb ≤ 10) (hkd : ∀ j, j < 10 → kd j < 4) (hwt : ∀ j, j < 10 → wt j < 100)  : CT E yX10_as cX10_as 4 (some .int) 2 [.ref m0, .int (x), .int (y)] [(m0, .inr (10, (.int (nI (nt)) :: .ref mt :: .int (nI (nb)) :: .ref mk :: .ref mb :: .int (nI (lw)) :: .int (nI (sl)) :: .int (nI (tl)) :: .ref mx :: .int (po) :: .int (ta) :: .long (tk) :: .int (dg) :: .int (nu) :: .int (fa) :: .int (rm_) :: .int (rto) :: .int (rbo) :: .ref mr :: .ref mn :: .ref ma :: .ref mi :: .ref mj :: .int (nI (en)) :: .ref mg :: .int (nI (sn)) :: .ref ms :: .int (nI (dn)) :: .ref md :: .ref mc :: .ref me :: .int (ga) :: .ref mh :: .ref mo :: .ref mw :: []))), (mk, .inl (E.2.1.1, 10, .inl (nA (kd)))), (mn, .inl (E.2.1.1, 47, .inl (nowF tw wt sk gr ch yr)))] (xQ (some (.int (opAs nb kd wt x y))) [(m0, .inr (10, (.int (nI (nt)) :: .ref mt :: .int (nI (nb)) :: .ref mk :: .ref mb :: .int (nI (lw)) :: .int (nI (sl)) :: .int (nI (tl)) :: .ref mx :: .int (po) :: .int (ta) :: .long (tk) :: .int (dg) :: .int (nu) :: .int (fa) :: .int (rm_) :: .int (rto) :: .int (rbo) :: .ref mr :: .ref mn :: .ref ma :: .ref mi :: .ref mj :: .int (nI (en)) :: .ref mg :: .int (nI (sn)) :: .ref ms :: .int (nI (dn)) :: .ref md :: .ref mc :: .ref me :: .int (ga) :: .ref mh :: .ref mo :: .ref mw :: []))), (mk, .inl (E.2.1.1, 10, .inl (nA (kd)))), (mn, .inl (E.2.1.1, 47, .inl (nowF tw wt sk gr ch yr)))]) := by
  refine ct_of (by decide +kernel) (Nat.le_of_ble_eq_true rfl) (lv := [(0, .ref m0), (1, .int (x)), (2, .int (y))]) rfl (fun A => ?_)
  refine g_aload_n (q := 1) dX10_as_0 rfl rfl rfl ?_
  refine g_iload_n (q := 2) dX10_as_1 rfl rfl rfl ?_
  refine gc_X10_211 (c_misBoy (by omega)) rfl (Nat.le_of_ble_eq_true rfl) rfl 0 rfl [0] rfl rfl (rest := []) rfl (Nat.le_of_ble_eq_true rfl) (q := 5) dX10_as_2 rfl (exK (ws' := [_, _, _]) (st' := [.int (bI (tn x nb).isSome)]) rfl rfl ?_)
  refine g_if_ne (t := 11) (q := 8) dX10_as_5 (by decide) rfl (fun c5 => ?_) (fun c5 => ?_)
  · obtain ⟨b, hb⟩ := isSome_t (bI_ne0.mp c5)
    obtain ⟨hb1, rfl⟩ := tn_some hb
    refine g_iload_n (q := 12) dX10_as_11 rfl rfl rfl ?_
    refine g_iconst (v := nI 0) (q := 13) dX10_as_12 rfl ki_0 ?_
    refine g_iconst (v := nI 4) (q := 14) dX10_as_13 rfl ki_4 ?_
    refine gc_X10_73 (c_in) rfl (Nat.le_of_ble_eq_true rfl) rfl [] rfl rfl (rest := []) rfl (Nat.le_of_ble_eq_true rfl) (q := 17) dX10_as_14 rfl (exK (ws' := [_, _, _]) (st' := [.int (bI (!ninB y (nI 0) (nI 4)))]) rfl rfl ?_)
    refine g_top (y := bI (rn y 0 4).isSome) (by rw [ninB_rn (by decide) (by decide), not_isNone]) ?_
    refine g_if_ne (t := 23) (q := 20) dX10_as_17 (by decide) rfl (fun c17 => ?_) (fun c17 => ?_)
    · obtain ⟨k, hk⟩ := isSome_t (bI_ne0.mp c17)
      obtain ⟨hk1, hk2, rfl⟩ := rn_some hk
      rcases (show k = 0 ∨ k = 1 ∨ k = 2 ∨ k = 3 ∨ k = 4 by omega) with rfl | rfl | rfl | rfl | rfl
      · skip
        refine g_iload_n (q := 24) dX10_as_23 rfl rfl rfl ?_
        refine g_if_eqN (t := 91) (q := 27) dX10_as_24 (by decide) rfl (by omega) (fun c24 => ?_) (fun c24 => ?_)
        · skip
          refine g_iconst (v := nI 1) (q := 92) dX10_as_91 rfl ki_1 ?_
          refine g_goto (q := 96) dX10_as_92 (by decide) ?_
          refine g_istore_n (lv' := [(0, _), (1, _), (2, _), (3, _)]) (q := 97) dX10_as_96 rfl rfl (Nat.le_of_ble_eq_true rfl) rfl ?_
          refine g_iload_n (q := 98) dX10_as_97 rfl rfl rfl ?_
          refine g_if_eqN (t := 118) (q := 101) dX10_as_98 (by decide) rfl (by omega) (fun c98 => ?_) (fun c98 => ?_)
          · omega
          · skip
            refine g_aload_n (q := 102) dX10_as_101 rfl rfl rfl ?_
            refine g_iload_n (q := 103) dX10_as_102 rfl rfl rfl ?_
            refine g_aload_n (q := 104) dX10_as_103 rfl rfl rfl ?_
            refine gf_X10_29 rfl 0 rfl rfl (q := 107) dX10_as_104 rfl ?_
            refine g_bipush (v := nI 10) (q := 109) dX10_as_107 rfl kb_10 ?_
            refine g_iload_n (q := 110) dX10_as_109 rfl rfl rfl ?_
            refine g_iaddN (q := 111) dX10_as_110 rfl ?_
            have hb1 := hwt (b) (by omega)
            refine g_iald (v := nI (wt b)) 2 rfl (ixIn (j := 10 + b) rfl (by omega) (by decide)) ((ixV (j := 10 + b) rfl (by omega)).trans (nowF_w (by omega))) (q := 112) dX10_as_111 rfl ?_
            refine gc_X10_207 (c_mpoundsOf (by omega) (by omega) hkd) rfl (Nat.le_of_ble_eq_true rfl) rfl 0 rfl [0, 1] rfl rfl (rest := []) rfl (Nat.le_of_ble_eq_true rfl) (q := 115) dX10_as_112 rfl (exK (ws' := [_, _, _]) (st' := [.int (nI (pnd (kd b) (wt b)))]) rfl rfl ?_)
            refine g_goto (q := 120) dX10_as_115 (by decide) ?_
            refine g_iret (st := []) dX10_as_120 rfl rfl rfl ?_
            exact xr (by simp only [opAs, hb, hk]; rw [show isK (kd b) 0 = true by (have hz := hkd b (by omega); unfold isK; apply decide_eq_true; omega)]; rfl)
        · omega
      · skip
        refine g_iload_n (q := 24) dX10_as_23 rfl rfl rfl ?_
        refine g_if_eqN (t := 91) (q := 27) dX10_as_24 (by decide) rfl (by omega) (fun c24 => ?_) (fun c24 => ?_)
        · omega
        · skip
          refine g_iload_n (q := 28) dX10_as_27 rfl rfl rfl ?_
          refine g_iconst (v := nI 1) (q := 29) dX10_as_28 rfl ki_1 ?_
          refine g_icmp_neN (t := 45) (q := 32) dX10_as_29 (by decide) rfl (by omega) (by omega) (fun c29 => ?_) (fun c29 => ?_)
          · omega
          · skip
            refine g_aload_n (q := 33) dX10_as_32 rfl rfl rfl ?_
            refine gf_X10_17 rfl 0 rfl rfl (q := 36) dX10_as_33 rfl ?_
            refine g_iload_n (q := 37) dX10_as_36 rfl rfl rfl ?_
            have hb2 := hkd (b) (by omega)
            refine g_iald (v := nI (kd b)) 1 rfl (ixIn (j := b) rfl (by omega) (by decide)) (ixV (j := b) rfl (by omega)) (q := 38) dX10_as_37 rfl ?_
            refine g_iconst (v := nI 3) (q := 39) dX10_as_38 rfl ki_3 ?_
            refine g_icmp_geN (t := 95) (q := 42) dX10_as_39 (by decide) rfl (by omega) (by omega) (fun c39 => ?_) (fun c39 => ?_)
            · skip
              refine g_iconst (v := nI 0) (q := 96) dX10_as_95 rfl ki_0 ?_
              refine g_istore_n (lv' := [(0, _), (1, _), (2, _), (3, _)]) (q := 97) dX10_as_96 rfl rfl (Nat.le_of_ble_eq_true rfl) rfl ?_
              refine g_iload_n (q := 98) dX10_as_97 rfl rfl rfl ?_
              refine g_if_eqN (t := 118) (q := 101) dX10_as_98 (by decide) rfl (by omega) (fun c98 => ?_) (fun c98 => ?_)
              · skip
                refine g_bipush (v := (-4)) (q := 120) dX10_as_118 rfl kb_m4 ?_
                refine g_iret (st := []) dX10_as_120 rfl rfl rfl ?_
                exact xr (by simp only [opAs, hb, hk]; rw [show isK (kd b) 1 = false by (have hz := hkd b (by omega); unfold isK; apply decide_eq_false; omega)]; rfl)
              · omega
            · skip
              refine g_goto (q := 91) dX10_as_42 (by decide) ?_
              refine g_iconst (v := nI 1) (q := 92) dX10_as_91 rfl ki_1 ?_
              refine g_goto (q := 96) dX10_as_92 (by decide) ?_
              refine g_istore_n (lv' := [(0, _), (1, _), (2, _), (3, _)]) (q := 97) dX10_as_96 rfl rfl (Nat.le_of_ble_eq_true rfl) rfl ?_
              refine g_iload_n (q := 98) dX10_as_97 rfl rfl rfl ?_
              refine g_if_eqN (t := 118) (q := 101) dX10_as_98 (by decide) rfl (by omega) (fun c98 => ?_) (fun c98 => ?_)
              · omega
              · skip
                refine g_aload_n (q := 102) dX10_as_101 rfl rfl rfl ?_
                refine g_iload_n (q := 103) dX10_as_102 rfl rfl rfl ?_
                refine g_aload_n (q := 104) dX10_as_103 rfl rfl rfl ?_
                refine gf_X10_29 rfl 0 rfl rfl (q := 107) dX10_as_104 rfl ?_
                refine g_bipush (v := nI 10) (q := 109) dX10_as_107 rfl kb_10 ?_
                refine g_iload_n (q := 110) dX10_as_109 rfl rfl rfl ?_
                refine g_iaddN (q := 111) dX10_as_110 rfl ?_
                have hb3 := hwt (b) (by omega)
                refine g_iald (v := nI (wt b)) 2 rfl (ixIn (j := 10 + b) rfl (by omega) (by decide)) ((ixV (j := 10 + b) rfl (by omega)).trans (nowF_w (by omega))) (q := 112) dX10_as_111 rfl ?_
                refine gc_X10_207 (c_mpoundsOf (by omega) (by omega) hkd) rfl (Nat.le_of_ble_eq_true rfl) rfl 0 rfl [0, 1] rfl rfl (rest := []) rfl (Nat.le_of_ble_eq_true rfl) (q := 115) dX10_as_112 rfl (exK (ws' := [_, _, _]) (st' := [.int (nI (pnd (kd b) (wt b)))]) rfl rfl ?_)
                refine g_goto (q := 120) dX10_as_115 (by decide) ?_
                refine g_iret (st := []) dX10_as_120 rfl rfl rfl ?_
                exact xr (by simp only [opAs, hb, hk]; rw [show isK (kd b) 1 = true by (have hz := hkd b (by omega); unfold isK; apply decide_eq_true; omega)]; rfl)
      · skip
        refine g_iload_n (q := 24) dX10_as_23 rfl rfl rfl ?_
        refine g_if_eqN (t := 91) (q := 27) dX10_as_24 (by decide) rfl (by omega) (fun c24 => ?_) (fun c24 => ?_)
        · omega
        · skip
          refine g_iload_n (q := 28) dX10_as_27 rfl rfl rfl ?_
          refine g_iconst (v := nI 1) (q := 29) dX10_as_28 rfl ki_1 ?_
          refine g_icmp_neN (t := 45) (q := 32) dX10_as_29 (by decide) rfl (by omega) (by omega) (fun c29 => ?_) (fun c29 => ?_)
          · skip
            refine g_iload_n (q := 46) dX10_as_45 rfl rfl rfl ?_
            refine g_iconst (v := nI 2) (q := 47) dX10_as_46 rfl ki_2 ?_
            refine g_icmp_neN (t := 63) (q := 50) dX10_as_47 (by decide) rfl (by omega) (by omega) (fun c47 => ?_) (fun c47 => ?_)
            · omega
            · skip
              refine g_aload_n (q := 51) dX10_as_50 rfl rfl rfl ?_
              refine gf_X10_17 rfl 0 rfl rfl (q := 54) dX10_as_51 rfl ?_
              refine g_iload_n (q := 55) dX10_as_54 rfl rfl rfl ?_
              have hb4 := hkd (b) (by omega)
              refine g_iald (v := nI (kd b)) 1 rfl (ixIn (j := b) rfl (by omega) (by decide)) (ixV (j := b) rfl (by omega)) (q := 56) dX10_as_55 rfl ?_
              refine g_iconst (v := nI 1) (q := 57) dX10_as_56 rfl ki_1 ?_
              refine g_icmp_neN (t := 95) (q := 60) dX10_as_57 (by decide) rfl (by omega) (by omega) (fun c57 => ?_) (fun c57 => ?_)
              · skip
                refine g_iconst (v := nI 0) (q := 96) dX10_as_95 rfl ki_0 ?_
                refine g_istore_n (lv' := [(0, _), (1, _), (2, _), (3, _)]) (q := 97) dX10_as_96 rfl rfl (Nat.le_of_ble_eq_true rfl) rfl ?_
                refine g_iload_n (q := 98) dX10_as_97 rfl rfl rfl ?_
                refine g_if_eqN (t := 118) (q := 101) dX10_as_98 (by decide) rfl (by omega) (fun c98 => ?_) (fun c98 => ?_)
                · skip
                  refine g_bipush (v := (-4)) (q := 120) dX10_as_118 rfl kb_m4 ?_
                  refine g_iret (st := []) dX10_as_120 rfl rfl rfl ?_
                  exact xr (by simp only [opAs, hb, hk]; rw [show isK (kd b) 2 = false by (have hz := hkd b (by omega); unfold isK; apply decide_eq_false; omega)]; rfl)
                · omega
              · skip
                refine g_goto (q := 91) dX10_as_60 (by decide) ?_
                refine g_iconst (v := nI 1) (q := 92) dX10_as_91 rfl ki_1 ?_
                refine g_goto (q := 96) dX10_as_92 (by decide) ?_
                refine g_istore_n (lv' := [(0, _), (1, _), (2, _), (3, _)]) (q := 97) dX10_as_96 rfl rfl (Nat.le_of_ble_eq_true rfl) rfl ?_
                refine g_iload_n (q := 98) dX10_as_97 rfl rfl rfl ?_
                refine g_if_eqN (t := 118) (q := 101) dX10_as_98 (by decide) rfl (by omega) (fun c98 => ?_) (fun c98 => ?_)
                · omega
                · skip
                  refine g_aload_n (q := 102) dX10_as_101 rfl rfl rfl ?_
                  refine g_iload_n (q := 103) dX10_as_102 rfl rfl rfl ?_
                  refine g_aload_n (q := 104) dX10_as_103 rfl rfl rfl ?_
                  refine gf_X10_29 rfl 0 rfl rfl (q := 107) dX10_as_104 rfl ?_
                  refine g_bipush (v := nI 10) (q := 109) dX10_as_107 rfl kb_10 ?_
                  refine g_iload_n (q := 110) dX10_as_109 rfl rfl rfl ?_
                  refine g_iaddN (q := 111) dX10_as_110 rfl ?_
                  have hb5 := hwt (b) (by omega)
                  refine g_iald (v := nI (wt b)) 2 rfl (ixIn (j := 10 + b) rfl (by omega) (by decide)) ((ixV (j := 10 + b) rfl (by omega)).trans (nowF_w (by omega))) (q := 112) dX10_as_111 rfl ?_
                  refine gc_X10_207 (c_mpoundsOf (by omega) (by omega) hkd) rfl (Nat.le_of_ble_eq_true rfl) rfl 0 rfl [0, 1] rfl rfl (rest := []) rfl (Nat.le_of_ble_eq_true rfl) (q := 115) dX10_as_112 rfl (exK (ws' := [_, _, _]) (st' := [.int (nI (pnd (kd b) (wt b)))]) rfl rfl ?_)
                  refine g_goto (q := 120) dX10_as_115 (by decide) ?_
                  refine g_iret (st := []) dX10_as_120 rfl rfl rfl ?_
                  exact xr (by simp only [opAs, hb, hk]; rw [show isK (kd b) 2 = true by (have hz := hkd b (by omega); unfold isK; apply decide_eq_true; omega)]; rfl)
          · omega
      · skip
        refine g_iload_n (q := 24) dX10_as_23 rfl rfl rfl ?_
        refine g_if_eqN (t := 91) (q := 27) dX10_as_24 (by decide) rfl (by omega) (fun c24 => ?_) (fun c24 => ?_)
        · omega
        · skip
          refine g_iload_n (q := 28) dX10_as_27 rfl rfl rfl ?_
          refine g_iconst (v := nI 1) (q := 29) dX10_as_28 rfl ki_1 ?_
          refine g_icmp_neN (t := 45) (q := 32) dX10_as_29 (by decide) rfl (by omega) (by omega) (fun c29 => ?_) (fun c29 => ?_)
          · skip
            refine g_iload_n (q := 46) dX10_as_45 rfl rfl rfl ?_
            refine g_iconst (v := nI 2) (q := 47) dX10_as_46 rfl ki_2 ?_
            refine g_icmp_neN (t := 63) (q := 50) dX10_as_47 (by decide) rfl (by omega) (by omega) (fun c47 => ?_) (fun c47 => ?_)
            · skip
              refine g_iload_n (q := 64) dX10_as_63 rfl rfl rfl ?_
              refine g_iconst (v := nI 3) (q := 65) dX10_as_64 rfl ki_3 ?_
              refine g_icmp_neN (t := 81) (q := 68) dX10_as_65 (by decide) rfl (by omega) (by omega) (fun c65 => ?_) (fun c65 => ?_)
              · omega
              · skip
                refine g_aload_n (q := 69) dX10_as_68 rfl rfl rfl ?_
                refine gf_X10_17 rfl 0 rfl rfl (q := 72) dX10_as_69 rfl ?_
                refine g_iload_n (q := 73) dX10_as_72 rfl rfl rfl ?_
                have hb6 := hkd (b) (by omega)
                refine g_iald (v := nI (kd b)) 1 rfl (ixIn (j := b) rfl (by omega) (by decide)) (ixV (j := b) rfl (by omega)) (q := 74) dX10_as_73 rfl ?_
                refine g_iconst (v := nI 2) (q := 75) dX10_as_74 rfl ki_2 ?_
                refine g_icmp_neN (t := 95) (q := 78) dX10_as_75 (by decide) rfl (by omega) (by omega) (fun c75 => ?_) (fun c75 => ?_)
                · skip
                  refine g_iconst (v := nI 0) (q := 96) dX10_as_95 rfl ki_0 ?_
                  refine g_istore_n (lv' := [(0, _), (1, _), (2, _), (3, _)]) (q := 97) dX10_as_96 rfl rfl (Nat.le_of_ble_eq_true rfl) rfl ?_
                  refine g_iload_n (q := 98) dX10_as_97 rfl rfl rfl ?_
                  refine g_if_eqN (t := 118) (q := 101) dX10_as_98 (by decide) rfl (by omega) (fun c98 => ?_) (fun c98 => ?_)
                  · skip
                    refine g_bipush (v := (-4)) (q := 120) dX10_as_118 rfl kb_m4 ?_
                    refine g_iret (st := []) dX10_as_120 rfl rfl rfl ?_
                    exact xr (by simp only [opAs, hb, hk]; rw [show isK (kd b) 3 = false by (have hz := hkd b (by omega); unfold isK; apply decide_eq_false; omega)]; rfl)
                  · omega
                · skip
                  refine g_goto (q := 91) dX10_as_78 (by decide) ?_
                  refine g_iconst (v := nI 1) (q := 92) dX10_as_91 rfl ki_1 ?_
                  refine g_goto (q := 96) dX10_as_92 (by decide) ?_
                  refine g_istore_n (lv' := [(0, _), (1, _), (2, _), (3, _)]) (q := 97) dX10_as_96 rfl rfl (Nat.le_of_ble_eq_true rfl) rfl ?_
                  refine g_iload_n (q := 98) dX10_as_97 rfl rfl rfl ?_
                  refine g_if_eqN (t := 118) (q := 101) dX10_as_98 (by decide) rfl (by omega) (fun c98 => ?_) (fun c98 => ?_)
                  · omega
                  · skip
                    refine g_aload_n (q := 102) dX10_as_101 rfl rfl rfl ?_
                    refine g_iload_n (q := 103) dX10_as_102 rfl rfl rfl ?_
                    refine g_aload_n (q := 104) dX10_as_103 rfl rfl rfl ?_
                    refine gf_X10_29 rfl 0 rfl rfl (q := 107) dX10_as_104 rfl ?_
                    refine g_bipush (v := nI 10) (q := 109) dX10_as_107 rfl kb_10 ?_
                    refine g_iload_n (q := 110) dX10_as_109 rfl rfl rfl ?_
                    refine g_iaddN (q := 111) dX10_as_110 rfl ?_
                    have hb7 := hwt (b) (by omega)
                    refine g_iald (v := nI (wt b)) 2 rfl (ixIn (j := 10 + b) rfl (by omega) (by decide)) ((ixV (j := 10 + b) rfl (by omega)).trans (nowF_w (by omega))) (q := 112) dX10_as_111 rfl ?_
                    refine gc_X10_207 (c_mpoundsOf (by omega) (by omega) hkd) rfl (Nat.le_of_ble_eq_true rfl) rfl 0 rfl [0, 1] rfl rfl (rest := []) rfl (Nat.le_of_ble_eq_true rfl) (q := 115) dX10_as_112 rfl (exK (ws' := [_, _, _]) (st' := [.int (nI (pnd (kd b) (wt b)))]) rfl rfl ?_)
                    refine g_goto (q := 120) dX10_as_115 (by decide) ?_
                    refine g_iret (st := []) dX10_as_120 rfl rfl rfl ?_
                    exact xr (by simp only [opAs, hb, hk]; rw [show isK (kd b) 3 = true by (have hz := hkd b (by omega); unfold isK; apply decide_eq_true; omega)]; rfl)
            · omega
          · omega
      · skip
        refine g_iload_n (q := 24) dX10_as_23 rfl rfl rfl ?_
        refine g_if_eqN (t := 91) (q := 27) dX10_as_24 (by decide) rfl (by omega) (fun c24 => ?_) (fun c24 => ?_)
        · omega
        · skip
          refine g_iload_n (q := 28) dX10_as_27 rfl rfl rfl ?_
          refine g_iconst (v := nI 1) (q := 29) dX10_as_28 rfl ki_1 ?_
          refine g_icmp_neN (t := 45) (q := 32) dX10_as_29 (by decide) rfl (by omega) (by omega) (fun c29 => ?_) (fun c29 => ?_)
          · skip
            refine g_iload_n (q := 46) dX10_as_45 rfl rfl rfl ?_
            refine g_iconst (v := nI 2) (q := 47) dX10_as_46 rfl ki_2 ?_
            refine g_icmp_neN (t := 63) (q := 50) dX10_as_47 (by decide) rfl (by omega) (by omega) (fun c47 => ?_) (fun c47 => ?_)
            · skip
              refine g_iload_n (q := 64) dX10_as_63 rfl rfl rfl ?_
              refine g_iconst (v := nI 3) (q := 65) dX10_as_64 rfl ki_3 ?_
              refine g_icmp_neN (t := 81) (q := 68) dX10_as_65 (by decide) rfl (by omega) (by omega) (fun c65 => ?_) (fun c65 => ?_)
              · skip
                refine g_aload_n (q := 82) dX10_as_81 rfl rfl rfl ?_
                refine gf_X10_17 rfl 0 rfl rfl (q := 85) dX10_as_82 rfl ?_
                refine g_iload_n (q := 86) dX10_as_85 rfl rfl rfl ?_
                have hb8 := hkd (b) (by omega)
                refine g_iald (v := nI (kd b)) 1 rfl (ixIn (j := b) rfl (by omega) (by decide)) (ixV (j := b) rfl (by omega)) (q := 87) dX10_as_86 rfl ?_
                refine g_iconst (v := nI 3) (q := 88) dX10_as_87 rfl ki_3 ?_
                refine g_icmp_neN (t := 95) (q := 91) dX10_as_88 (by decide) rfl (by omega) (by omega) (fun c88 => ?_) (fun c88 => ?_)
                · skip
                  refine g_iconst (v := nI 0) (q := 96) dX10_as_95 rfl ki_0 ?_
                  refine g_istore_n (lv' := [(0, _), (1, _), (2, _), (3, _)]) (q := 97) dX10_as_96 rfl rfl (Nat.le_of_ble_eq_true rfl) rfl ?_
                  refine g_iload_n (q := 98) dX10_as_97 rfl rfl rfl ?_
                  refine g_if_eqN (t := 118) (q := 101) dX10_as_98 (by decide) rfl (by omega) (fun c98 => ?_) (fun c98 => ?_)
                  · skip
                    refine g_bipush (v := (-4)) (q := 120) dX10_as_118 rfl kb_m4 ?_
                    refine g_iret (st := []) dX10_as_120 rfl rfl rfl ?_
                    exact xr (by simp only [opAs, hb, hk]; rw [show isK (kd b) 4 = false by (have hz := hkd b (by omega); unfold isK; apply decide_eq_false; omega)]; rfl)
                  · omega
                · skip
                  refine g_iconst (v := nI 1) (q := 92) dX10_as_91 rfl ki_1 ?_
                  refine g_goto (q := 96) dX10_as_92 (by decide) ?_
                  refine g_istore_n (lv' := [(0, _), (1, _), (2, _), (3, _)]) (q := 97) dX10_as_96 rfl rfl (Nat.le_of_ble_eq_true rfl) rfl ?_
                  refine g_iload_n (q := 98) dX10_as_97 rfl rfl rfl ?_
                  refine g_if_eqN (t := 118) (q := 101) dX10_as_98 (by decide) rfl (by omega) (fun c98 => ?_) (fun c98 => ?_)
                  · omega
                  · skip
                    refine g_aload_n (q := 102) dX10_as_101 rfl rfl rfl ?_
                    refine g_iload_n (q := 103) dX10_as_102 rfl rfl rfl ?_
                    refine g_aload_n (q := 104) dX10_as_103 rfl rfl rfl ?_
                    refine gf_X10_29 rfl 0 rfl rfl (q := 107) dX10_as_104 rfl ?_
                    refine g_bipush (v := nI 10) (q := 109) dX10_as_107 rfl kb_10 ?_
                    refine g_iload_n (q := 110) dX10_as_109 rfl rfl rfl ?_
                    refine g_iaddN (q := 111) dX10_as_110 rfl ?_
                    have hb9 := hwt (b) (by omega)
                    refine g_iald (v := nI (wt b)) 2 rfl (ixIn (j := 10 + b) rfl (by omega) (by decide)) ((ixV (j := 10 + b) rfl (by omega)).trans (nowF_w (by omega))) (q := 112) dX10_as_111 rfl ?_
                    refine gc_X10_207 (c_mpoundsOf (by omega) (by omega) hkd) rfl (Nat.le_of_ble_eq_true rfl) rfl 0 rfl [0, 1] rfl rfl (rest := []) rfl (Nat.le_of_ble_eq_true rfl) (q := 115) dX10_as_112 rfl (exK (ws' := [_, _, _]) (st' := [.int (nI (pnd (kd b) (wt b)))]) rfl rfl ?_)
                    refine g_goto (q := 120) dX10_as_115 (by decide) ?_
                    refine g_iret (st := []) dX10_as_120 rfl rfl rfl ?_
                    exact xr (by simp only [opAs, hb, hk]; rw [show isK (kd b) 4 = true by (have hz := hkd b (by omega); unfold isK; apply decide_eq_true; omega)]; rfl)
              · omega
            · omega
          · omega
    · have nk := isSome_f (bI_eq0.mp c17)
      refine g_bipush (v := (-3)) (q := 22) dX10_as_20 rfl kb_m3 ?_
      refine g_iret (st := []) dX10_as_22 rfl rfl rfl ?_
      exact xr (by simp [opAs, hb, nk])
  · have nb := isSome_f (bI_eq0.mp c5)
    refine g_bipush (v := (-2)) (q := 10) dX10_as_8 rfl kb_m2 ?_
    refine g_iret (st := []) dX10_as_10 rfl rfl rfl ?_
    exact xr (by simp [opAs, nb])
