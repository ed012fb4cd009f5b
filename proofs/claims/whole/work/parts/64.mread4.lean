theorem len1 {l : List Nat} (h : l.length = 1) : ∃ a, l = [a] := by
  match l, h with
  | [a], _ => exact ⟨a, rfl⟩
theorem len2 {l : List Nat} (h : l.length = 2) : ∃ a b, l = [a, b] := by
  match l, h with
  | [a, b], _ => exact ⟨a, b, rfl⟩
theorem len4 {l : List Nat} (h : l.length = 4) : ∃ a b c d, l = [a, b, c, d] := by
  match l, h with
  | [a, b, c, d], _ => exact ⟨a, b, c, d, rfl⟩
set_option maxHeartbeats 2000000 in
set_option maxRecDepth 20000 in
theorem c_doLine {E : EN} {m0 mt mk mb mx mr mn ma mi mj mg ms md mc me mh mo mw tl en sn dn : Nat} {po ta dg nu fa rm_ rto rbo ga : Int32} {tk : Int64} {rd : Nat → Int32} {w : Nat} {l : LN} {D : LSt} (hw : w + 4 < 50) (hL : LnAt rd w l) (hD : okD D) (hO : okLn D l)  : CT E yX10_doLine cX10_doLine 4 (none) 1 [.ref m0, .int (nI (w))] [(m0, .inr (10, (.int (nI (D.1.1)) :: .ref mt :: .int (nI (D.1.2.2.2)) :: .ref mk :: .ref mb :: .int (nI (D.1.2.1)) :: .int (nI (D.1.2.2.1)) :: .int (nI (tl)) :: .ref mx :: .int (po) :: .int (ta) :: .long (tk) :: .int (dg) :: .int (nu) :: .int (fa) :: .int (rm_) :: .int (rto) :: .int (rbo) :: .ref mr :: .ref mn :: .ref ma :: .ref mi :: .ref mj :: .int (nI (en)) :: .ref mg :: .int (nI (sn)) :: .ref ms :: .int (nI (dn)) :: .ref md :: .ref mc :: .ref me :: .int (ga) :: .ref mh :: .ref mo :: .ref mw :: []))), (mr, .inl (E.2.1.1, 50, .inl (rd))), (mk, .inl (E.2.1.1, 10, .inl (nA (D.2.2.1)))), (mb, .inl (E.2.1.1, 40, .inl (begF D.2.2.2.1 D.2.2.2.2.1 D.2.2.2.2.2.1 D.2.2.2.2.2.2))), (mt, .inl (E.2.1.1, 30, .inl (townF D.2.1.1 D.2.1.2.1 D.2.1.2.2.1 D.2.1.2.2.2.1 D.2.1.2.2.2.2)))] (xQ none [(m0, .inr (10, (.int (nI ((doL nxM l D).1.1)) :: .ref mt :: .int (nI ((doL nxM l D).1.2.2.2)) :: .ref mk :: .ref mb :: .int (nI ((doL nxM l D).1.2.1)) :: .int (nI ((doL nxM l D).1.2.2.1)) :: .int (nI (tl)) :: .ref mx :: .int (po) :: .int (ta) :: .long (tk) :: .int (dg) :: .int (nu) :: .int (fa) :: .int (rm_) :: .int (rto) :: .int (rbo) :: .ref mr :: .ref mn :: .ref ma :: .ref mi :: .ref mj :: .int (nI (en)) :: .ref mg :: .int (nI (sn)) :: .ref ms :: .int (nI (dn)) :: .ref md :: .ref mc :: .ref me :: .int (ga) :: .ref mh :: .ref mo :: .ref mw :: []))), (mr, .inl (E.2.1.1, 50, .inl (rd))), (mk, .inl (E.2.1.1, 10, .inl (nA ((doL nxM l D).2.2.1)))), (mb, .inl (E.2.1.1, 40, .inl (begF ((doL nxM l D).2.2.2.1) ((doL nxM l D).2.2.2.2.1) ((doL nxM l D).2.2.2.2.2.1) ((doL nxM l D).2.2.2.2.2.2)))), (mt, .inl (E.2.1.1, 30, .inl (townF ((doL nxM l D).2.1.1) ((doL nxM l D).2.1.2.1) ((doL nxM l D).2.1.2.2.1) ((doL nxM l D).2.1.2.2.2.1) ((doL nxM l D).2.1.2.2.2.2))))]) := by
  refine ct_of (by decide +kernel) (Nat.le_of_ble_eq_true rfl) (lv := [(0, .ref m0), (1, .int (nI (w)))]) rfl (fun A => ?_)
  obtain ⟨k, ns⟩ := l
  obtain ⟨hk, hk4, hlen, hbd⟩ := hO
  obtain ⟨hL0, hLi⟩ := hL
  simp only at hk hk4 hlen hbd hL0 hLi
  obtain ⟨⟨d1, d2, d3, d4, d5⟩, -⟩ := hD
  rcases (show k = 0 ∨ k = 1 ∨ k = 2 ∨ k = 3 ∨ k = 4 ∨ k = 5 ∨ k = 6 ∨ k = 7 ∨ k = 8 ∨ k = 9 ∨ k = 10 ∨ k = 11 ∨ k = 12 ∨ k = 13 by omega) with rfl | rfl | rfl | rfl | rfl | rfl | rfl | rfl | rfl | rfl | rfl | rfl | rfl | rfl
  · skip
    obtain ⟨a, b, c, d, rfl⟩ := len4 hlen
    have hv0 := hLi 0 (by simp)
    have hq0 := hbd 0 (by simp [bd])
    have hv1 := hLi 1 (by simp)
    have hq1 := hbd 1 (by simp [bd])
    have hv2 := hLi 2 (by simp)
    have hq2 := hbd 2 (by simp [bd])
    have hv3 := hLi 3 (by simp)
    have hq3 := hbd 3 (by simp [bd])
    simp only [bd, reduceIte, Nat.reduceLT, Nat.reduceEqDiff, List.getD_cons_zero, List.getD_cons_succ] at hv0 hq0 hv1 hq1 hv2 hq2 hv3 hq3
    have hk4 := hk4 (by decide)
    refine g_aload_n (q := 1) dX10_doLine_0 rfl rfl rfl ?_
    refine gf_X10_26 rfl 0 rfl rfl (q := 4) dX10_doLine_1 rfl ?_
    refine g_iload_n (q := 5) dX10_doLine_4 rfl rfl rfl ?_
    refine g_iconst (v := nI 1) (q := 6) dX10_doLine_5 rfl ki_1 ?_
    refine g_iaddN (q := 7) dX10_doLine_6 rfl ?_
    refine g_iald (v := rd (w + 1)) 1 rfl (ixIn (j := w + 1) rfl (by omega) (by decide)) (ixV (j := w + 1) rfl (by omega)) (q := 8) dX10_doLine_7 rfl ?_
    refine g_top (y := nI a) hv0 ?_
    refine g_istore_n (lv' := [(0, _), (1, _), (2, _)]) (q := 9) dX10_doLine_8 rfl rfl (Nat.le_of_ble_eq_true rfl) rfl ?_
    refine g_aload_n (q := 10) dX10_doLine_9 rfl rfl rfl ?_
    refine gf_X10_26 rfl 0 rfl rfl (q := 13) dX10_doLine_10 rfl ?_
    refine g_iload_n (q := 14) dX10_doLine_13 rfl rfl rfl ?_
    refine g_iald (v := rd w) 1 rfl (ixIn (j := w) rfl (by omega) (by decide)) (ixV (j := w) rfl (by omega)) (q := 15) dX10_doLine_14 rfl ?_
    refine g_top (y := nI 0) hL0 ?_
    refine g_tableIn (off := 69) (q := 84) dX10_doLine_15 (by decide) (by decide) (by decide) (by decide) ?_
    refine g_aload_n (q := 85) dX10_doLine_84 rfl rfl rfl ?_
    refine gf_X10_17 rfl 0 rfl rfl (q := 88) dX10_doLine_85 rfl ?_
    refine g_aload_n (q := 89) dX10_doLine_88 rfl rfl rfl ?_
    refine gf_X10_77 rfl 0 rfl rfl (q := 92) dX10_doLine_89 rfl ?_
    refine g_aload_n (q := 93) dX10_doLine_92 rfl rfl rfl ?_
    refine gf_X10_26 rfl 0 rfl rfl (q := 96) dX10_doLine_93 rfl ?_
    refine g_iload_n (q := 97) dX10_doLine_96 rfl rfl rfl ?_
    refine g_iald (v := rd w) 1 rfl (ixIn (j := w) rfl (by omega) (by decide)) (ixV (j := w) rfl (by omega)) (q := 98) dX10_doLine_97 rfl ?_
    refine g_top (y := nI 0) hL0 ?_
    refine g_iast (f' := (nA (updn D.2.2.1 D.1.2.2.2 0))) 2 rfl (ixIn (j := D.1.2.2.2) rfl (by omega) (by decide)) (ixUn (j := D.1.2.2.2) rfl (by omega)) (ws' := [_, _, (_, .inl (_, _, .inl _)), _, _]) rfl (q := 99) dX10_doLine_98 rfl ?_
    refine g_iconst (v := nI 0) (q := 100) dX10_doLine_99 rfl ki_0 ?_
    refine g_istore_n (lv' := [(0, _), (1, _), (2, _), (3, _)]) (q := 101) dX10_doLine_100 rfl rfl (Nat.le_of_ble_eq_true rfl) rfl ?_
    refine g_iload_n (q := 102) dX10_doLine_101 rfl rfl rfl ?_
    refine g_iconst (v := nI 4) (q := 103) dX10_doLine_102 rfl ki_4 ?_
    refine g_icmp_geN (t := 135) (q := 106) dX10_doLine_103 (by decide) rfl (by omega) (by omega) (fun c103 => ?_) (fun c103 => ?_)
    · omega
    · skip
      refine g_aload_n (q := 107) dX10_doLine_106 rfl rfl rfl ?_
      refine gf_X10_20 rfl 0 rfl rfl (q := 110) dX10_doLine_107 rfl ?_
      refine g_iconst (v := nI 4) (q := 111) dX10_doLine_110 rfl ki_4 ?_
      refine g_aload_n (q := 112) dX10_doLine_111 rfl rfl rfl ?_
      refine gf_X10_77 rfl 0 rfl rfl (q := 115) dX10_doLine_112 rfl ?_
      refine g_imulN (q := 116) dX10_doLine_115 rfl ?_
      refine g_iload_n (q := 117) dX10_doLine_116 rfl rfl rfl ?_
      refine g_iaddN (q := 118) dX10_doLine_117 rfl ?_
      refine g_top (y := nI (4 * D.1.2.2.2)) rfl ?_
      refine g_aload_n (q := 119) dX10_doLine_118 rfl rfl rfl ?_
      refine gf_X10_26 rfl 0 rfl rfl (q := 122) dX10_doLine_119 rfl ?_
      refine g_iload_n (q := 123) dX10_doLine_122 rfl rfl rfl ?_
      refine g_iconst (v := nI 1) (q := 124) dX10_doLine_123 rfl ki_1 ?_
      refine g_iaddN (q := 125) dX10_doLine_124 rfl ?_
      refine g_iload_n (q := 126) dX10_doLine_125 rfl rfl rfl ?_
      refine g_iaddN (q := 127) dX10_doLine_126 rfl ?_
      refine g_iald (v := rd (w + 1 + 0)) 1 rfl (ixIn (j := w + 1 + 0) rfl (by omega) (by decide)) (ixV (j := w + 1 + 0) rfl (by omega)) (q := 128) dX10_doLine_127 rfl ?_
      refine g_top (y := nI a) hv0 ?_
      refine g_iast (f' := (begF (updn D.2.2.2.1 D.1.2.2.2 a) D.2.2.2.2.1 D.2.2.2.2.2.1 D.2.2.2.2.2.2)) 3 rfl (ixIn (j := 4 * D.1.2.2.2) rfl (by omega) (by decide)) ((ixU (j := 4 * D.1.2.2.2) rfl (by omega)).trans (begF_w0 _ _)) (ws' := [_, _, _, (_, .inl (_, _, .inl _)), _]) rfl (q := 129) dX10_doLine_128 rfl ?_
      refine g_iinc (lv' := [(0, _), (1, _), (2, _), (3, _)]) (v := nI (1)) (q := 132) dX10_doLine_129 rfl rfl (nI_inc _) (Nat.le_of_ble_eq_true rfl) rfl ?_
      refine g_goto (q := 101) dX10_doLine_132 (by decide) ?_
      refine g_iload_n (q := 102) dX10_doLine_101 rfl rfl rfl ?_
      refine g_iconst (v := nI 4) (q := 103) dX10_doLine_102 rfl ki_4 ?_
      refine g_icmp_geN (t := 135) (q := 106) dX10_doLine_103 (by decide) rfl (by omega) (by omega) (fun c103 => ?_) (fun c103 => ?_)
      · omega
      · skip
        refine g_aload_n (q := 107) dX10_doLine_106 rfl rfl rfl ?_
        refine gf_X10_20 rfl 0 rfl rfl (q := 110) dX10_doLine_107 rfl ?_
        refine g_iconst (v := nI 4) (q := 111) dX10_doLine_110 rfl ki_4 ?_
        refine g_aload_n (q := 112) dX10_doLine_111 rfl rfl rfl ?_
        refine gf_X10_77 rfl 0 rfl rfl (q := 115) dX10_doLine_112 rfl ?_
        refine g_imulN (q := 116) dX10_doLine_115 rfl ?_
        refine g_iload_n (q := 117) dX10_doLine_116 rfl rfl rfl ?_
        refine g_iaddN (q := 118) dX10_doLine_117 rfl ?_
        refine g_aload_n (q := 119) dX10_doLine_118 rfl rfl rfl ?_
        refine gf_X10_26 rfl 0 rfl rfl (q := 122) dX10_doLine_119 rfl ?_
        refine g_iload_n (q := 123) dX10_doLine_122 rfl rfl rfl ?_
        refine g_iconst (v := nI 1) (q := 124) dX10_doLine_123 rfl ki_1 ?_
        refine g_iaddN (q := 125) dX10_doLine_124 rfl ?_
        refine g_iload_n (q := 126) dX10_doLine_125 rfl rfl rfl ?_
        refine g_iaddN (q := 127) dX10_doLine_126 rfl ?_
        refine g_iald (v := rd (w + 1 + 1)) 1 rfl (ixIn (j := w + 1 + 1) rfl (by omega) (by decide)) (ixV (j := w + 1 + 1) rfl (by omega)) (q := 128) dX10_doLine_127 rfl ?_
        refine g_top (y := nI b) hv1 ?_
        refine g_iast (f' := (begF (updn D.2.2.2.1 D.1.2.2.2 a) (updn D.2.2.2.2.1 D.1.2.2.2 b) D.2.2.2.2.2.1 D.2.2.2.2.2.2)) 3 rfl (ixIn (j := 4 * D.1.2.2.2 + 1) rfl (by omega) (by decide)) ((ixU (j := 4 * D.1.2.2.2 + 1) rfl (by omega)).trans (begF_w1 _ _)) (ws' := [_, _, _, (_, .inl (_, _, .inl _)), _]) rfl (q := 129) dX10_doLine_128 rfl ?_
        refine g_iinc (lv' := [(0, _), (1, _), (2, _), (3, _)]) (v := nI (2)) (q := 132) dX10_doLine_129 rfl rfl (nI_inc _) (Nat.le_of_ble_eq_true rfl) rfl ?_
        refine g_goto (q := 101) dX10_doLine_132 (by decide) ?_
        refine g_iload_n (q := 102) dX10_doLine_101 rfl rfl rfl ?_
        refine g_iconst (v := nI 4) (q := 103) dX10_doLine_102 rfl ki_4 ?_
        refine g_icmp_geN (t := 135) (q := 106) dX10_doLine_103 (by decide) rfl (by omega) (by omega) (fun c103 => ?_) (fun c103 => ?_)
        · omega
        · skip
          refine g_aload_n (q := 107) dX10_doLine_106 rfl rfl rfl ?_
          refine gf_X10_20 rfl 0 rfl rfl (q := 110) dX10_doLine_107 rfl ?_
          refine g_iconst (v := nI 4) (q := 111) dX10_doLine_110 rfl ki_4 ?_
          refine g_aload_n (q := 112) dX10_doLine_111 rfl rfl rfl ?_
          refine gf_X10_77 rfl 0 rfl rfl (q := 115) dX10_doLine_112 rfl ?_
          refine g_imulN (q := 116) dX10_doLine_115 rfl ?_
          refine g_iload_n (q := 117) dX10_doLine_116 rfl rfl rfl ?_
          refine g_iaddN (q := 118) dX10_doLine_117 rfl ?_
          refine g_aload_n (q := 119) dX10_doLine_118 rfl rfl rfl ?_
          refine gf_X10_26 rfl 0 rfl rfl (q := 122) dX10_doLine_119 rfl ?_
          refine g_iload_n (q := 123) dX10_doLine_122 rfl rfl rfl ?_
          refine g_iconst (v := nI 1) (q := 124) dX10_doLine_123 rfl ki_1 ?_
          refine g_iaddN (q := 125) dX10_doLine_124 rfl ?_
          refine g_iload_n (q := 126) dX10_doLine_125 rfl rfl rfl ?_
          refine g_iaddN (q := 127) dX10_doLine_126 rfl ?_
          refine g_iald (v := rd (w + 1 + 2)) 1 rfl (ixIn (j := w + 1 + 2) rfl (by omega) (by decide)) (ixV (j := w + 1 + 2) rfl (by omega)) (q := 128) dX10_doLine_127 rfl ?_
          refine g_top (y := nI c) hv2 ?_
          refine g_iast (f' := (begF (updn D.2.2.2.1 D.1.2.2.2 a) (updn D.2.2.2.2.1 D.1.2.2.2 b) (updn D.2.2.2.2.2.1 D.1.2.2.2 c) D.2.2.2.2.2.2)) 3 rfl (ixIn (j := 4 * D.1.2.2.2 + 2) rfl (by omega) (by decide)) ((ixU (j := 4 * D.1.2.2.2 + 2) rfl (by omega)).trans (begF_w2 _ _)) (ws' := [_, _, _, (_, .inl (_, _, .inl _)), _]) rfl (q := 129) dX10_doLine_128 rfl ?_
          refine g_iinc (lv' := [(0, _), (1, _), (2, _), (3, _)]) (v := nI (3)) (q := 132) dX10_doLine_129 rfl rfl (nI_inc _) (Nat.le_of_ble_eq_true rfl) rfl ?_
          refine g_goto (q := 101) dX10_doLine_132 (by decide) ?_
          refine g_iload_n (q := 102) dX10_doLine_101 rfl rfl rfl ?_
          refine g_iconst (v := nI 4) (q := 103) dX10_doLine_102 rfl ki_4 ?_
          refine g_icmp_geN (t := 135) (q := 106) dX10_doLine_103 (by decide) rfl (by omega) (by omega) (fun c103 => ?_) (fun c103 => ?_)
          · omega
          · skip
            refine g_aload_n (q := 107) dX10_doLine_106 rfl rfl rfl ?_
            refine gf_X10_20 rfl 0 rfl rfl (q := 110) dX10_doLine_107 rfl ?_
            refine g_iconst (v := nI 4) (q := 111) dX10_doLine_110 rfl ki_4 ?_
            refine g_aload_n (q := 112) dX10_doLine_111 rfl rfl rfl ?_
            refine gf_X10_77 rfl 0 rfl rfl (q := 115) dX10_doLine_112 rfl ?_
            refine g_imulN (q := 116) dX10_doLine_115 rfl ?_
            refine g_iload_n (q := 117) dX10_doLine_116 rfl rfl rfl ?_
            refine g_iaddN (q := 118) dX10_doLine_117 rfl ?_
            refine g_aload_n (q := 119) dX10_doLine_118 rfl rfl rfl ?_
            refine gf_X10_26 rfl 0 rfl rfl (q := 122) dX10_doLine_119 rfl ?_
            refine g_iload_n (q := 123) dX10_doLine_122 rfl rfl rfl ?_
            refine g_iconst (v := nI 1) (q := 124) dX10_doLine_123 rfl ki_1 ?_
            refine g_iaddN (q := 125) dX10_doLine_124 rfl ?_
            refine g_iload_n (q := 126) dX10_doLine_125 rfl rfl rfl ?_
            refine g_iaddN (q := 127) dX10_doLine_126 rfl ?_
            refine g_iald (v := rd (w + 1 + 3)) 1 rfl (ixIn (j := w + 1 + 3) rfl (by omega) (by decide)) (ixV (j := w + 1 + 3) rfl (by omega)) (q := 128) dX10_doLine_127 rfl ?_
            refine g_top (y := nI d) hv3 ?_
            refine g_iast (f' := (begF (updn D.2.2.2.1 D.1.2.2.2 a) (updn D.2.2.2.2.1 D.1.2.2.2 b) (updn D.2.2.2.2.2.1 D.1.2.2.2 c) (updn D.2.2.2.2.2.2 D.1.2.2.2 d))) 3 rfl (ixIn (j := 4 * D.1.2.2.2 + 3) rfl (by omega) (by decide)) ((ixU (j := 4 * D.1.2.2.2 + 3) rfl (by omega)).trans (begF_w3 _ _)) (ws' := [_, _, _, (_, .inl (_, _, .inl _)), _]) rfl (q := 129) dX10_doLine_128 rfl ?_
            refine g_iinc (lv' := [(0, _), (1, _), (2, _), (3, _)]) (v := nI (4)) (q := 132) dX10_doLine_129 rfl rfl (nI_inc _) (Nat.le_of_ble_eq_true rfl) rfl ?_
            refine g_goto (q := 101) dX10_doLine_132 (by decide) ?_
            refine g_iload_n (q := 102) dX10_doLine_101 rfl rfl rfl ?_
            refine g_iconst (v := nI 4) (q := 103) dX10_doLine_102 rfl ki_4 ?_
            refine g_icmp_geN (t := 135) (q := 106) dX10_doLine_103 (by decide) rfl (by omega) (by omega) (fun c103 => ?_) (fun c103 => ?_)
            · skip
              refine g_aload_n (q := 136) dX10_doLine_135 rfl rfl rfl ?_
              refine g_dup (q := 137) dX10_doLine_136 rfl rfl ?_
              refine gf_X10_77 rfl 0 rfl rfl (q := 140) dX10_doLine_137 rfl ?_
              refine g_iconst (v := nI 1) (q := 141) dX10_doLine_140 rfl ki_1 ?_
              refine g_iaddN (q := 142) dX10_doLine_141 rfl ?_
              refine pf_X10_77 rfl 0 rfl (Nat.le_of_ble_eq_true rfl) (ws' := [(_, .inr (_, (_ :: _ :: _ :: _ :: _ :: _ :: _ :: _ :: _ :: _ :: _ :: _ :: _ :: _ :: _ :: _ :: _ :: _ :: _ :: _ :: _ :: _ :: _ :: _ :: _ :: _ :: _ :: _ :: _ :: _ :: _ :: _ :: _ :: _ :: _ :: []))), _, _, _, _]) rfl (q := 145) dX10_doLine_142 rfl ?_
              refine g_goto (q := 262) dX10_doLine_145 (by decide) ?_
              refine g_vret (st := []) dX10_doLine_262 rfl rfl ?_
              exact xv
            · omega
  · skip
    obtain ⟨a, b, c, d, rfl⟩ := len4 hlen
    have hv0 := hLi 0 (by simp)
    have hq0 := hbd 0 (by simp [bd])
    have hv1 := hLi 1 (by simp)
    have hq1 := hbd 1 (by simp [bd])
    have hv2 := hLi 2 (by simp)
    have hq2 := hbd 2 (by simp [bd])
    have hv3 := hLi 3 (by simp)
    have hq3 := hbd 3 (by simp [bd])
    simp only [bd, reduceIte, Nat.reduceLT, Nat.reduceEqDiff, List.getD_cons_zero, List.getD_cons_succ] at hv0 hq0 hv1 hq1 hv2 hq2 hv3 hq3
    have hk4 := hk4 (by decide)
    refine g_aload_n (q := 1) dX10_doLine_0 rfl rfl rfl ?_
    refine gf_X10_26 rfl 0 rfl rfl (q := 4) dX10_doLine_1 rfl ?_
    refine g_iload_n (q := 5) dX10_doLine_4 rfl rfl rfl ?_
    refine g_iconst (v := nI 1) (q := 6) dX10_doLine_5 rfl ki_1 ?_
    refine g_iaddN (q := 7) dX10_doLine_6 rfl ?_
    refine g_iald (v := rd (w + 1)) 1 rfl (ixIn (j := w + 1) rfl (by omega) (by decide)) (ixV (j := w + 1) rfl (by omega)) (q := 8) dX10_doLine_7 rfl ?_
    refine g_top (y := nI a) hv0 ?_
    refine g_istore_n (lv' := [(0, _), (1, _), (2, _)]) (q := 9) dX10_doLine_8 rfl rfl (Nat.le_of_ble_eq_true rfl) rfl ?_
    refine g_aload_n (q := 10) dX10_doLine_9 rfl rfl rfl ?_
    refine gf_X10_26 rfl 0 rfl rfl (q := 13) dX10_doLine_10 rfl ?_
    refine g_iload_n (q := 14) dX10_doLine_13 rfl rfl rfl ?_
    refine g_iald (v := rd w) 1 rfl (ixIn (j := w) rfl (by omega) (by decide)) (ixV (j := w) rfl (by omega)) (q := 15) dX10_doLine_14 rfl ?_
    refine g_top (y := nI 1) hL0 ?_
    refine g_tableIn (off := 69) (q := 84) dX10_doLine_15 (by decide) (by decide) (by decide) (by decide) ?_
    refine g_aload_n (q := 85) dX10_doLine_84 rfl rfl rfl ?_
    refine gf_X10_17 rfl 0 rfl rfl (q := 88) dX10_doLine_85 rfl ?_
    refine g_aload_n (q := 89) dX10_doLine_88 rfl rfl rfl ?_
    refine gf_X10_77 rfl 0 rfl rfl (q := 92) dX10_doLine_89 rfl ?_
    refine g_aload_n (q := 93) dX10_doLine_92 rfl rfl rfl ?_
    refine gf_X10_26 rfl 0 rfl rfl (q := 96) dX10_doLine_93 rfl ?_
    refine g_iload_n (q := 97) dX10_doLine_96 rfl rfl rfl ?_
    refine g_iald (v := rd w) 1 rfl (ixIn (j := w) rfl (by omega) (by decide)) (ixV (j := w) rfl (by omega)) (q := 98) dX10_doLine_97 rfl ?_
    refine g_top (y := nI 1) hL0 ?_
    refine g_iast (f' := (nA (updn D.2.2.1 D.1.2.2.2 1))) 2 rfl (ixIn (j := D.1.2.2.2) rfl (by omega) (by decide)) (ixUn (j := D.1.2.2.2) rfl (by omega)) (ws' := [_, _, (_, .inl (_, _, .inl _)), _, _]) rfl (q := 99) dX10_doLine_98 rfl ?_
    refine g_iconst (v := nI 0) (q := 100) dX10_doLine_99 rfl ki_0 ?_
    refine g_istore_n (lv' := [(0, _), (1, _), (2, _), (3, _)]) (q := 101) dX10_doLine_100 rfl rfl (Nat.le_of_ble_eq_true rfl) rfl ?_
    refine g_iload_n (q := 102) dX10_doLine_101 rfl rfl rfl ?_
    refine g_iconst (v := nI 4) (q := 103) dX10_doLine_102 rfl ki_4 ?_
    refine g_icmp_geN (t := 135) (q := 106) dX10_doLine_103 (by decide) rfl (by omega) (by omega) (fun c103 => ?_) (fun c103 => ?_)
    · omega
    · skip
      refine g_aload_n (q := 107) dX10_doLine_106 rfl rfl rfl ?_
      refine gf_X10_20 rfl 0 rfl rfl (q := 110) dX10_doLine_107 rfl ?_
      refine g_iconst (v := nI 4) (q := 111) dX10_doLine_110 rfl ki_4 ?_
      refine g_aload_n (q := 112) dX10_doLine_111 rfl rfl rfl ?_
      refine gf_X10_77 rfl 0 rfl rfl (q := 115) dX10_doLine_112 rfl ?_
      refine g_imulN (q := 116) dX10_doLine_115 rfl ?_
      refine g_iload_n (q := 117) dX10_doLine_116 rfl rfl rfl ?_
      refine g_iaddN (q := 118) dX10_doLine_117 rfl ?_
      refine g_top (y := nI (4 * D.1.2.2.2)) rfl ?_
      refine g_aload_n (q := 119) dX10_doLine_118 rfl rfl rfl ?_
      refine gf_X10_26 rfl 0 rfl rfl (q := 122) dX10_doLine_119 rfl ?_
      refine g_iload_n (q := 123) dX10_doLine_122 rfl rfl rfl ?_
      refine g_iconst (v := nI 1) (q := 124) dX10_doLine_123 rfl ki_1 ?_
      refine g_iaddN (q := 125) dX10_doLine_124 rfl ?_
      refine g_iload_n (q := 126) dX10_doLine_125 rfl rfl rfl ?_
      refine g_iaddN (q := 127) dX10_doLine_126 rfl ?_
      refine g_iald (v := rd (w + 1 + 0)) 1 rfl (ixIn (j := w + 1 + 0) rfl (by omega) (by decide)) (ixV (j := w + 1 + 0) rfl (by omega)) (q := 128) dX10_doLine_127 rfl ?_
      refine g_top (y := nI a) hv0 ?_
      refine g_iast (f' := (begF (updn D.2.2.2.1 D.1.2.2.2 a) D.2.2.2.2.1 D.2.2.2.2.2.1 D.2.2.2.2.2.2)) 3 rfl (ixIn (j := 4 * D.1.2.2.2) rfl (by omega) (by decide)) ((ixU (j := 4 * D.1.2.2.2) rfl (by omega)).trans (begF_w0 _ _)) (ws' := [_, _, _, (_, .inl (_, _, .inl _)), _]) rfl (q := 129) dX10_doLine_128 rfl ?_
      refine g_iinc (lv' := [(0, _), (1, _), (2, _), (3, _)]) (v := nI (1)) (q := 132) dX10_doLine_129 rfl rfl (nI_inc _) (Nat.le_of_ble_eq_true rfl) rfl ?_
      refine g_goto (q := 101) dX10_doLine_132 (by decide) ?_
      refine g_iload_n (q := 102) dX10_doLine_101 rfl rfl rfl ?_
      refine g_iconst (v := nI 4) (q := 103) dX10_doLine_102 rfl ki_4 ?_
      refine g_icmp_geN (t := 135) (q := 106) dX10_doLine_103 (by decide) rfl (by omega) (by omega) (fun c103 => ?_) (fun c103 => ?_)
      · omega
      · skip
        refine g_aload_n (q := 107) dX10_doLine_106 rfl rfl rfl ?_
        refine gf_X10_20 rfl 0 rfl rfl (q := 110) dX10_doLine_107 rfl ?_
        refine g_iconst (v := nI 4) (q := 111) dX10_doLine_110 rfl ki_4 ?_
        refine g_aload_n (q := 112) dX10_doLine_111 rfl rfl rfl ?_
        refine gf_X10_77 rfl 0 rfl rfl (q := 115) dX10_doLine_112 rfl ?_
        refine g_imulN (q := 116) dX10_doLine_115 rfl ?_
        refine g_iload_n (q := 117) dX10_doLine_116 rfl rfl rfl ?_
        refine g_iaddN (q := 118) dX10_doLine_117 rfl ?_
        refine g_aload_n (q := 119) dX10_doLine_118 rfl rfl rfl ?_
        refine gf_X10_26 rfl 0 rfl rfl (q := 122) dX10_doLine_119 rfl ?_
        refine g_iload_n (q := 123) dX10_doLine_122 rfl rfl rfl ?_
        refine g_iconst (v := nI 1) (q := 124) dX10_doLine_123 rfl ki_1 ?_
        refine g_iaddN (q := 125) dX10_doLine_124 rfl ?_
        refine g_iload_n (q := 126) dX10_doLine_125 rfl rfl rfl ?_
        refine g_iaddN (q := 127) dX10_doLine_126 rfl ?_
        refine g_iald (v := rd (w + 1 + 1)) 1 rfl (ixIn (j := w + 1 + 1) rfl (by omega) (by decide)) (ixV (j := w + 1 + 1) rfl (by omega)) (q := 128) dX10_doLine_127 rfl ?_
        refine g_top (y := nI b) hv1 ?_
        refine g_iast (f' := (begF (updn D.2.2.2.1 D.1.2.2.2 a) (updn D.2.2.2.2.1 D.1.2.2.2 b) D.2.2.2.2.2.1 D.2.2.2.2.2.2)) 3 rfl (ixIn (j := 4 * D.1.2.2.2 + 1) rfl (by omega) (by decide)) ((ixU (j := 4 * D.1.2.2.2 + 1) rfl (by omega)).trans (begF_w1 _ _)) (ws' := [_, _, _, (_, .inl (_, _, .inl _)), _]) rfl (q := 129) dX10_doLine_128 rfl ?_
        refine g_iinc (lv' := [(0, _), (1, _), (2, _), (3, _)]) (v := nI (2)) (q := 132) dX10_doLine_129 rfl rfl (nI_inc _) (Nat.le_of_ble_eq_true rfl) rfl ?_
        refine g_goto (q := 101) dX10_doLine_132 (by decide) ?_
        refine g_iload_n (q := 102) dX10_doLine_101 rfl rfl rfl ?_
        refine g_iconst (v := nI 4) (q := 103) dX10_doLine_102 rfl ki_4 ?_
        refine g_icmp_geN (t := 135) (q := 106) dX10_doLine_103 (by decide) rfl (by omega) (by omega) (fun c103 => ?_) (fun c103 => ?_)
        · omega
        · skip
          refine g_aload_n (q := 107) dX10_doLine_106 rfl rfl rfl ?_
          refine gf_X10_20 rfl 0 rfl rfl (q := 110) dX10_doLine_107 rfl ?_
          refine g_iconst (v := nI 4) (q := 111) dX10_doLine_110 rfl ki_4 ?_
          refine g_aload_n (q := 112) dX10_doLine_111 rfl rfl rfl ?_
          refine gf_X10_77 rfl 0 rfl rfl (q := 115) dX10_doLine_112 rfl ?_
          refine g_imulN (q := 116) dX10_doLine_115 rfl ?_
          refine g_iload_n (q := 117) dX10_doLine_116 rfl rfl rfl ?_
          refine g_iaddN (q := 118) dX10_doLine_117 rfl ?_
          refine g_aload_n (q := 119) dX10_doLine_118 rfl rfl rfl ?_
          refine gf_X10_26 rfl 0 rfl rfl (q := 122) dX10_doLine_119 rfl ?_
          refine g_iload_n (q := 123) dX10_doLine_122 rfl rfl rfl ?_
          refine g_iconst (v := nI 1) (q := 124) dX10_doLine_123 rfl ki_1 ?_
          refine g_iaddN (q := 125) dX10_doLine_124 rfl ?_
          refine g_iload_n (q := 126) dX10_doLine_125 rfl rfl rfl ?_
          refine g_iaddN (q := 127) dX10_doLine_126 rfl ?_
          refine g_iald (v := rd (w + 1 + 2)) 1 rfl (ixIn (j := w + 1 + 2) rfl (by omega) (by decide)) (ixV (j := w + 1 + 2) rfl (by omega)) (q := 128) dX10_doLine_127 rfl ?_
          refine g_top (y := nI c) hv2 ?_
          refine g_iast (f' := (begF (updn D.2.2.2.1 D.1.2.2.2 a) (updn D.2.2.2.2.1 D.1.2.2.2 b) (updn D.2.2.2.2.2.1 D.1.2.2.2 c) D.2.2.2.2.2.2)) 3 rfl (ixIn (j := 4 * D.1.2.2.2 + 2) rfl (by omega) (by decide)) ((ixU (j := 4 * D.1.2.2.2 + 2) rfl (by omega)).trans (begF_w2 _ _)) (ws' := [_, _, _, (_, .inl (_, _, .inl _)), _]) rfl (q := 129) dX10_doLine_128 rfl ?_
          refine g_iinc (lv' := [(0, _), (1, _), (2, _), (3, _)]) (v := nI (3)) (q := 132) dX10_doLine_129 rfl rfl (nI_inc _) (Nat.le_of_ble_eq_true rfl) rfl ?_
          refine g_goto (q := 101) dX10_doLine_132 (by decide) ?_
          refine g_iload_n (q := 102) dX10_doLine_101 rfl rfl rfl ?_
          refine g_iconst (v := nI 4) (q := 103) dX10_doLine_102 rfl ki_4 ?_
          refine g_icmp_geN (t := 135) (q := 106) dX10_doLine_103 (by decide) rfl (by omega) (by omega) (fun c103 => ?_) (fun c103 => ?_)
          · omega
          · skip
            refine g_aload_n (q := 107) dX10_doLine_106 rfl rfl rfl ?_
            refine gf_X10_20 rfl 0 rfl rfl (q := 110) dX10_doLine_107 rfl ?_
            refine g_iconst (v := nI 4) (q := 111) dX10_doLine_110 rfl ki_4 ?_
            refine g_aload_n (q := 112) dX10_doLine_111 rfl rfl rfl ?_
            refine gf_X10_77 rfl 0 rfl rfl (q := 115) dX10_doLine_112 rfl ?_
            refine g_imulN (q := 116) dX10_doLine_115 rfl ?_
            refine g_iload_n (q := 117) dX10_doLine_116 rfl rfl rfl ?_
            refine g_iaddN (q := 118) dX10_doLine_117 rfl ?_
            refine g_aload_n (q := 119) dX10_doLine_118 rfl rfl rfl ?_
            refine gf_X10_26 rfl 0 rfl rfl (q := 122) dX10_doLine_119 rfl ?_
            refine g_iload_n (q := 123) dX10_doLine_122 rfl rfl rfl ?_
            refine g_iconst (v := nI 1) (q := 124) dX10_doLine_123 rfl ki_1 ?_
            refine g_iaddN (q := 125) dX10_doLine_124 rfl ?_
            refine g_iload_n (q := 126) dX10_doLine_125 rfl rfl rfl ?_
            refine g_iaddN (q := 127) dX10_doLine_126 rfl ?_
            refine g_iald (v := rd (w + 1 + 3)) 1 rfl (ixIn (j := w + 1 + 3) rfl (by omega) (by decide)) (ixV (j := w + 1 + 3) rfl (by omega)) (q := 128) dX10_doLine_127 rfl ?_
            refine g_top (y := nI d) hv3 ?_
            refine g_iast (f' := (begF (updn D.2.2.2.1 D.1.2.2.2 a) (updn D.2.2.2.2.1 D.1.2.2.2 b) (updn D.2.2.2.2.2.1 D.1.2.2.2 c) (updn D.2.2.2.2.2.2 D.1.2.2.2 d))) 3 rfl (ixIn (j := 4 * D.1.2.2.2 + 3) rfl (by omega) (by decide)) ((ixU (j := 4 * D.1.2.2.2 + 3) rfl (by omega)).trans (begF_w3 _ _)) (ws' := [_, _, _, (_, .inl (_, _, .inl _)), _]) rfl (q := 129) dX10_doLine_128 rfl ?_
            refine g_iinc (lv' := [(0, _), (1, _), (2, _), (3, _)]) (v := nI (4)) (q := 132) dX10_doLine_129 rfl rfl (nI_inc _) (Nat.le_of_ble_eq_true rfl) rfl ?_
            refine g_goto (q := 101) dX10_doLine_132 (by decide) ?_
            refine g_iload_n (q := 102) dX10_doLine_101 rfl rfl rfl ?_
            refine g_iconst (v := nI 4) (q := 103) dX10_doLine_102 rfl ki_4 ?_
            refine g_icmp_geN (t := 135) (q := 106) dX10_doLine_103 (by decide) rfl (by omega) (by omega) (fun c103 => ?_) (fun c103 => ?_)
            · skip
              refine g_aload_n (q := 136) dX10_doLine_135 rfl rfl rfl ?_
              refine g_dup (q := 137) dX10_doLine_136 rfl rfl ?_
              refine gf_X10_77 rfl 0 rfl rfl (q := 140) dX10_doLine_137 rfl ?_
              refine g_iconst (v := nI 1) (q := 141) dX10_doLine_140 rfl ki_1 ?_
              refine g_iaddN (q := 142) dX10_doLine_141 rfl ?_
              refine pf_X10_77 rfl 0 rfl (Nat.le_of_ble_eq_true rfl) (ws' := [(_, .inr (_, (_ :: _ :: _ :: _ :: _ :: _ :: _ :: _ :: _ :: _ :: _ :: _ :: _ :: _ :: _ :: _ :: _ :: _ :: _ :: _ :: _ :: _ :: _ :: _ :: _ :: _ :: _ :: _ :: _ :: _ :: _ :: _ :: _ :: _ :: _ :: []))), _, _, _, _]) rfl (q := 145) dX10_doLine_142 rfl ?_
              refine g_goto (q := 262) dX10_doLine_145 (by decide) ?_
              refine g_vret (st := []) dX10_doLine_262 rfl rfl ?_
              exact xv
            · omega
  · skip
    obtain ⟨a, b, c, d, rfl⟩ := len4 hlen
    have hv0 := hLi 0 (by simp)
    have hq0 := hbd 0 (by simp [bd])
    have hv1 := hLi 1 (by simp)
    have hq1 := hbd 1 (by simp [bd])
    have hv2 := hLi 2 (by simp)
    have hq2 := hbd 2 (by simp [bd])
    have hv3 := hLi 3 (by simp)
    have hq3 := hbd 3 (by simp [bd])
    simp only [bd, reduceIte, Nat.reduceLT, Nat.reduceEqDiff, List.getD_cons_zero, List.getD_cons_succ] at hv0 hq0 hv1 hq1 hv2 hq2 hv3 hq3
    have hk4 := hk4 (by decide)
    refine g_aload_n (q := 1) dX10_doLine_0 rfl rfl rfl ?_
    refine gf_X10_26 rfl 0 rfl rfl (q := 4) dX10_doLine_1 rfl ?_
    refine g_iload_n (q := 5) dX10_doLine_4 rfl rfl rfl ?_
    refine g_iconst (v := nI 1) (q := 6) dX10_doLine_5 rfl ki_1 ?_
    refine g_iaddN (q := 7) dX10_doLine_6 rfl ?_
    refine g_iald (v := rd (w + 1)) 1 rfl (ixIn (j := w + 1) rfl (by omega) (by decide)) (ixV (j := w + 1) rfl (by omega)) (q := 8) dX10_doLine_7 rfl ?_
    refine g_top (y := nI a) hv0 ?_
    refine g_istore_n (lv' := [(0, _), (1, _), (2, _)]) (q := 9) dX10_doLine_8 rfl rfl (Nat.le_of_ble_eq_true rfl) rfl ?_
    refine g_aload_n (q := 10) dX10_doLine_9 rfl rfl rfl ?_
    refine gf_X10_26 rfl 0 rfl rfl (q := 13) dX10_doLine_10 rfl ?_
    refine g_iload_n (q := 14) dX10_doLine_13 rfl rfl rfl ?_
    refine g_iald (v := rd w) 1 rfl (ixIn (j := w) rfl (by omega) (by decide)) (ixV (j := w) rfl (by omega)) (q := 15) dX10_doLine_14 rfl ?_
    refine g_top (y := nI 2) hL0 ?_
    refine g_tableIn (off := 69) (q := 84) dX10_doLine_15 (by decide) (by decide) (by decide) (by decide) ?_
    refine g_aload_n (q := 85) dX10_doLine_84 rfl rfl rfl ?_
    refine gf_X10_17 rfl 0 rfl rfl (q := 88) dX10_doLine_85 rfl ?_
    refine g_aload_n (q := 89) dX10_doLine_88 rfl rfl rfl ?_
    refine gf_X10_77 rfl 0 rfl rfl (q := 92) dX10_doLine_89 rfl ?_
    refine g_aload_n (q := 93) dX10_doLine_92 rfl rfl rfl ?_
    refine gf_X10_26 rfl 0 rfl rfl (q := 96) dX10_doLine_93 rfl ?_
    refine g_iload_n (q := 97) dX10_doLine_96 rfl rfl rfl ?_
    refine g_iald (v := rd w) 1 rfl (ixIn (j := w) rfl (by omega) (by decide)) (ixV (j := w) rfl (by omega)) (q := 98) dX10_doLine_97 rfl ?_
    refine g_top (y := nI 2) hL0 ?_
    refine g_iast (f' := (nA (updn D.2.2.1 D.1.2.2.2 2))) 2 rfl (ixIn (j := D.1.2.2.2) rfl (by omega) (by decide)) (ixUn (j := D.1.2.2.2) rfl (by omega)) (ws' := [_, _, (_, .inl (_, _, .inl _)), _, _]) rfl (q := 99) dX10_doLine_98 rfl ?_
    refine g_iconst (v := nI 0) (q := 100) dX10_doLine_99 rfl ki_0 ?_
    refine g_istore_n (lv' := [(0, _), (1, _), (2, _), (3, _)]) (q := 101) dX10_doLine_100 rfl rfl (Nat.le_of_ble_eq_true rfl) rfl ?_
    refine g_iload_n (q := 102) dX10_doLine_101 rfl rfl rfl ?_
    refine g_iconst (v := nI 4) (q := 103) dX10_doLine_102 rfl ki_4 ?_
    refine g_icmp_geN (t := 135) (q := 106) dX10_doLine_103 (by decide) rfl (by omega) (by omega) (fun c103 => ?_) (fun c103 => ?_)
    · omega
    · skip
      refine g_aload_n (q := 107) dX10_doLine_106 rfl rfl rfl ?_
      refine gf_X10_20 rfl 0 rfl rfl (q := 110) dX10_doLine_107 rfl ?_
      refine g_iconst (v := nI 4) (q := 111) dX10_doLine_110 rfl ki_4 ?_
      refine g_aload_n (q := 112) dX10_doLine_111 rfl rfl rfl ?_
      refine gf_X10_77 rfl 0 rfl rfl (q := 115) dX10_doLine_112 rfl ?_
      refine g_imulN (q := 116) dX10_doLine_115 rfl ?_
      refine g_iload_n (q := 117) dX10_doLine_116 rfl rfl rfl ?_
      refine g_iaddN (q := 118) dX10_doLine_117 rfl ?_
      refine g_top (y := nI (4 * D.1.2.2.2)) rfl ?_
      refine g_aload_n (q := 119) dX10_doLine_118 rfl rfl rfl ?_
      refine gf_X10_26 rfl 0 rfl rfl (q := 122) dX10_doLine_119 rfl ?_
      refine g_iload_n (q := 123) dX10_doLine_122 rfl rfl rfl ?_
      refine g_iconst (v := nI 1) (q := 124) dX10_doLine_123 rfl ki_1 ?_
      refine g_iaddN (q := 125) dX10_doLine_124 rfl ?_
      refine g_iload_n (q := 126) dX10_doLine_125 rfl rfl rfl ?_
      refine g_iaddN (q := 127) dX10_doLine_126 rfl ?_
      refine g_iald (v := rd (w + 1 + 0)) 1 rfl (ixIn (j := w + 1 + 0) rfl (by omega) (by decide)) (ixV (j := w + 1 + 0) rfl (by omega)) (q := 128) dX10_doLine_127 rfl ?_
      refine g_top (y := nI a) hv0 ?_
      refine g_iast (f' := (begF (updn D.2.2.2.1 D.1.2.2.2 a) D.2.2.2.2.1 D.2.2.2.2.2.1 D.2.2.2.2.2.2)) 3 rfl (ixIn (j := 4 * D.1.2.2.2) rfl (by omega) (by decide)) ((ixU (j := 4 * D.1.2.2.2) rfl (by omega)).trans (begF_w0 _ _)) (ws' := [_, _, _, (_, .inl (_, _, .inl _)), _]) rfl (q := 129) dX10_doLine_128 rfl ?_
      refine g_iinc (lv' := [(0, _), (1, _), (2, _), (3, _)]) (v := nI (1)) (q := 132) dX10_doLine_129 rfl rfl (nI_inc _) (Nat.le_of_ble_eq_true rfl) rfl ?_
      refine g_goto (q := 101) dX10_doLine_132 (by decide) ?_
      refine g_iload_n (q := 102) dX10_doLine_101 rfl rfl rfl ?_
      refine g_iconst (v := nI 4) (q := 103) dX10_doLine_102 rfl ki_4 ?_
      refine g_icmp_geN (t := 135) (q := 106) dX10_doLine_103 (by decide) rfl (by omega) (by omega) (fun c103 => ?_) (fun c103 => ?_)
      · omega
      · skip
        refine g_aload_n (q := 107) dX10_doLine_106 rfl rfl rfl ?_
        refine gf_X10_20 rfl 0 rfl rfl (q := 110) dX10_doLine_107 rfl ?_
        refine g_iconst (v := nI 4) (q := 111) dX10_doLine_110 rfl ki_4 ?_
        refine g_aload_n (q := 112) dX10_doLine_111 rfl rfl rfl ?_
        refine gf_X10_77 rfl 0 rfl rfl (q := 115) dX10_doLine_112 rfl ?_
        refine g_imulN (q := 116) dX10_doLine_115 rfl ?_
        refine g_iload_n (q := 117) dX10_doLine_116 rfl rfl rfl ?_
        refine g_iaddN (q := 118) dX10_doLine_117 rfl ?_
        refine g_aload_n (q := 119) dX10_doLine_118 rfl rfl rfl ?_
        refine gf_X10_26 rfl 0 rfl rfl (q := 122) dX10_doLine_119 rfl ?_
        refine g_iload_n (q := 123) dX10_doLine_122 rfl rfl rfl ?_
        refine g_iconst (v := nI 1) (q := 124) dX10_doLine_123 rfl ki_1 ?_
        refine g_iaddN (q := 125) dX10_doLine_124 rfl ?_
        refine g_iload_n (q := 126) dX10_doLine_125 rfl rfl rfl ?_
        refine g_iaddN (q := 127) dX10_doLine_126 rfl ?_
        refine g_iald (v := rd (w + 1 + 1)) 1 rfl (ixIn (j := w + 1 + 1) rfl (by omega) (by decide)) (ixV (j := w + 1 + 1) rfl (by omega)) (q := 128) dX10_doLine_127 rfl ?_
        refine g_top (y := nI b) hv1 ?_
        refine g_iast (f' := (begF (updn D.2.2.2.1 D.1.2.2.2 a) (updn D.2.2.2.2.1 D.1.2.2.2 b) D.2.2.2.2.2.1 D.2.2.2.2.2.2)) 3 rfl (ixIn (j := 4 * D.1.2.2.2 + 1) rfl (by omega) (by decide)) ((ixU (j := 4 * D.1.2.2.2 + 1) rfl (by omega)).trans (begF_w1 _ _)) (ws' := [_, _, _, (_, .inl (_, _, .inl _)), _]) rfl (q := 129) dX10_doLine_128 rfl ?_
        refine g_iinc (lv' := [(0, _), (1, _), (2, _), (3, _)]) (v := nI (2)) (q := 132) dX10_doLine_129 rfl rfl (nI_inc _) (Nat.le_of_ble_eq_true rfl) rfl ?_
        refine g_goto (q := 101) dX10_doLine_132 (by decide) ?_
        refine g_iload_n (q := 102) dX10_doLine_101 rfl rfl rfl ?_
        refine g_iconst (v := nI 4) (q := 103) dX10_doLine_102 rfl ki_4 ?_
        refine g_icmp_geN (t := 135) (q := 106) dX10_doLine_103 (by decide) rfl (by omega) (by omega) (fun c103 => ?_) (fun c103 => ?_)
        · omega
        · skip
          refine g_aload_n (q := 107) dX10_doLine_106 rfl rfl rfl ?_
          refine gf_X10_20 rfl 0 rfl rfl (q := 110) dX10_doLine_107 rfl ?_
          refine g_iconst (v := nI 4) (q := 111) dX10_doLine_110 rfl ki_4 ?_
          refine g_aload_n (q := 112) dX10_doLine_111 rfl rfl rfl ?_
          refine gf_X10_77 rfl 0 rfl rfl (q := 115) dX10_doLine_112 rfl ?_
          refine g_imulN (q := 116) dX10_doLine_115 rfl ?_
          refine g_iload_n (q := 117) dX10_doLine_116 rfl rfl rfl ?_
          refine g_iaddN (q := 118) dX10_doLine_117 rfl ?_
          refine g_aload_n (q := 119) dX10_doLine_118 rfl rfl rfl ?_
          refine gf_X10_26 rfl 0 rfl rfl (q := 122) dX10_doLine_119 rfl ?_
          refine g_iload_n (q := 123) dX10_doLine_122 rfl rfl rfl ?_
          refine g_iconst (v := nI 1) (q := 124) dX10_doLine_123 rfl ki_1 ?_
          refine g_iaddN (q := 125) dX10_doLine_124 rfl ?_
          refine g_iload_n (q := 126) dX10_doLine_125 rfl rfl rfl ?_
          refine g_iaddN (q := 127) dX10_doLine_126 rfl ?_
          refine g_iald (v := rd (w + 1 + 2)) 1 rfl (ixIn (j := w + 1 + 2) rfl (by omega) (by decide)) (ixV (j := w + 1 + 2) rfl (by omega)) (q := 128) dX10_doLine_127 rfl ?_
          refine g_top (y := nI c) hv2 ?_
          refine g_iast (f' := (begF (updn D.2.2.2.1 D.1.2.2.2 a) (updn D.2.2.2.2.1 D.1.2.2.2 b) (updn D.2.2.2.2.2.1 D.1.2.2.2 c) D.2.2.2.2.2.2)) 3 rfl (ixIn (j := 4 * D.1.2.2.2 + 2) rfl (by omega) (by decide)) ((ixU (j := 4 * D.1.2.2.2 + 2) rfl (by omega)).trans (begF_w2 _ _)) (ws' := [_, _, _, (_, .inl (_, _, .inl _)), _]) rfl (q := 129) dX10_doLine_128 rfl ?_
          refine g_iinc (lv' := [(0, _), (1, _), (2, _), (3, _)]) (v := nI (3)) (q := 132) dX10_doLine_129 rfl rfl (nI_inc _) (Nat.le_of_ble_eq_true rfl) rfl ?_
          refine g_goto (q := 101) dX10_doLine_132 (by decide) ?_
          refine g_iload_n (q := 102) dX10_doLine_101 rfl rfl rfl ?_
          refine g_iconst (v := nI 4) (q := 103) dX10_doLine_102 rfl ki_4 ?_
          refine g_icmp_geN (t := 135) (q := 106) dX10_doLine_103 (by decide) rfl (by omega) (by omega) (fun c103 => ?_) (fun c103 => ?_)
          · omega
          · skip
            refine g_aload_n (q := 107) dX10_doLine_106 rfl rfl rfl ?_
            refine gf_X10_20 rfl 0 rfl rfl (q := 110) dX10_doLine_107 rfl ?_
            refine g_iconst (v := nI 4) (q := 111) dX10_doLine_110 rfl ki_4 ?_
            refine g_aload_n (q := 112) dX10_doLine_111 rfl rfl rfl ?_
            refine gf_X10_77 rfl 0 rfl rfl (q := 115) dX10_doLine_112 rfl ?_
            refine g_imulN (q := 116) dX10_doLine_115 rfl ?_
            refine g_iload_n (q := 117) dX10_doLine_116 rfl rfl rfl ?_
            refine g_iaddN (q := 118) dX10_doLine_117 rfl ?_
            refine g_aload_n (q := 119) dX10_doLine_118 rfl rfl rfl ?_
            refine gf_X10_26 rfl 0 rfl rfl (q := 122) dX10_doLine_119 rfl ?_
            refine g_iload_n (q := 123) dX10_doLine_122 rfl rfl rfl ?_
            refine g_iconst (v := nI 1) (q := 124) dX10_doLine_123 rfl ki_1 ?_
            refine g_iaddN (q := 125) dX10_doLine_124 rfl ?_
            refine g_iload_n (q := 126) dX10_doLine_125 rfl rfl rfl ?_
            refine g_iaddN (q := 127) dX10_doLine_126 rfl ?_
            refine g_iald (v := rd (w + 1 + 3)) 1 rfl (ixIn (j := w + 1 + 3) rfl (by omega) (by decide)) (ixV (j := w + 1 + 3) rfl (by omega)) (q := 128) dX10_doLine_127 rfl ?_
            refine g_top (y := nI d) hv3 ?_
            refine g_iast (f' := (begF (updn D.2.2.2.1 D.1.2.2.2 a) (updn D.2.2.2.2.1 D.1.2.2.2 b) (updn D.2.2.2.2.2.1 D.1.2.2.2 c) (updn D.2.2.2.2.2.2 D.1.2.2.2 d))) 3 rfl (ixIn (j := 4 * D.1.2.2.2 + 3) rfl (by omega) (by decide)) ((ixU (j := 4 * D.1.2.2.2 + 3) rfl (by omega)).trans (begF_w3 _ _)) (ws' := [_, _, _, (_, .inl (_, _, .inl _)), _]) rfl (q := 129) dX10_doLine_128 rfl ?_
            refine g_iinc (lv' := [(0, _), (1, _), (2, _), (3, _)]) (v := nI (4)) (q := 132) dX10_doLine_129 rfl rfl (nI_inc _) (Nat.le_of_ble_eq_true rfl) rfl ?_
            refine g_goto (q := 101) dX10_doLine_132 (by decide) ?_
            refine g_iload_n (q := 102) dX10_doLine_101 rfl rfl rfl ?_
            refine g_iconst (v := nI 4) (q := 103) dX10_doLine_102 rfl ki_4 ?_
            refine g_icmp_geN (t := 135) (q := 106) dX10_doLine_103 (by decide) rfl (by omega) (by omega) (fun c103 => ?_) (fun c103 => ?_)
            · skip
              refine g_aload_n (q := 136) dX10_doLine_135 rfl rfl rfl ?_
              refine g_dup (q := 137) dX10_doLine_136 rfl rfl ?_
              refine gf_X10_77 rfl 0 rfl rfl (q := 140) dX10_doLine_137 rfl ?_
              refine g_iconst (v := nI 1) (q := 141) dX10_doLine_140 rfl ki_1 ?_
              refine g_iaddN (q := 142) dX10_doLine_141 rfl ?_
              refine pf_X10_77 rfl 0 rfl (Nat.le_of_ble_eq_true rfl) (ws' := [(_, .inr (_, (_ :: _ :: _ :: _ :: _ :: _ :: _ :: _ :: _ :: _ :: _ :: _ :: _ :: _ :: _ :: _ :: _ :: _ :: _ :: _ :: _ :: _ :: _ :: _ :: _ :: _ :: _ :: _ :: _ :: _ :: _ :: _ :: _ :: _ :: _ :: []))), _, _, _, _]) rfl (q := 145) dX10_doLine_142 rfl ?_
              refine g_goto (q := 262) dX10_doLine_145 (by decide) ?_
              refine g_vret (st := []) dX10_doLine_262 rfl rfl ?_
              exact xv
            · omega
  · skip
    obtain ⟨a, b, c, d, rfl⟩ := len4 hlen
    have hv0 := hLi 0 (by simp)
    have hq0 := hbd 0 (by simp [bd])
    have hv1 := hLi 1 (by simp)
    have hq1 := hbd 1 (by simp [bd])
    have hv2 := hLi 2 (by simp)
    have hq2 := hbd 2 (by simp [bd])
    have hv3 := hLi 3 (by simp)
    have hq3 := hbd 3 (by simp [bd])
    simp only [bd, reduceIte, Nat.reduceLT, Nat.reduceEqDiff, List.getD_cons_zero, List.getD_cons_succ] at hv0 hq0 hv1 hq1 hv2 hq2 hv3 hq3
    have hk4 := hk4 (by decide)
    refine g_aload_n (q := 1) dX10_doLine_0 rfl rfl rfl ?_
    refine gf_X10_26 rfl 0 rfl rfl (q := 4) dX10_doLine_1 rfl ?_
    refine g_iload_n (q := 5) dX10_doLine_4 rfl rfl rfl ?_
    refine g_iconst (v := nI 1) (q := 6) dX10_doLine_5 rfl ki_1 ?_
    refine g_iaddN (q := 7) dX10_doLine_6 rfl ?_
    refine g_iald (v := rd (w + 1)) 1 rfl (ixIn (j := w + 1) rfl (by omega) (by decide)) (ixV (j := w + 1) rfl (by omega)) (q := 8) dX10_doLine_7 rfl ?_
    refine g_top (y := nI a) hv0 ?_
    refine g_istore_n (lv' := [(0, _), (1, _), (2, _)]) (q := 9) dX10_doLine_8 rfl rfl (Nat.le_of_ble_eq_true rfl) rfl ?_
    refine g_aload_n (q := 10) dX10_doLine_9 rfl rfl rfl ?_
    refine gf_X10_26 rfl 0 rfl rfl (q := 13) dX10_doLine_10 rfl ?_
    refine g_iload_n (q := 14) dX10_doLine_13 rfl rfl rfl ?_
    refine g_iald (v := rd w) 1 rfl (ixIn (j := w) rfl (by omega) (by decide)) (ixV (j := w) rfl (by omega)) (q := 15) dX10_doLine_14 rfl ?_
    refine g_top (y := nI 3) hL0 ?_
    refine g_tableIn (off := 69) (q := 84) dX10_doLine_15 (by decide) (by decide) (by decide) (by decide) ?_
    refine g_aload_n (q := 85) dX10_doLine_84 rfl rfl rfl ?_
    refine gf_X10_17 rfl 0 rfl rfl (q := 88) dX10_doLine_85 rfl ?_
    refine g_aload_n (q := 89) dX10_doLine_88 rfl rfl rfl ?_
    refine gf_X10_77 rfl 0 rfl rfl (q := 92) dX10_doLine_89 rfl ?_
    refine g_aload_n (q := 93) dX10_doLine_92 rfl rfl rfl ?_
    refine gf_X10_26 rfl 0 rfl rfl (q := 96) dX10_doLine_93 rfl ?_
    refine g_iload_n (q := 97) dX10_doLine_96 rfl rfl rfl ?_
    refine g_iald (v := rd w) 1 rfl (ixIn (j := w) rfl (by omega) (by decide)) (ixV (j := w) rfl (by omega)) (q := 98) dX10_doLine_97 rfl ?_
    refine g_top (y := nI 3) hL0 ?_
    refine g_iast (f' := (nA (updn D.2.2.1 D.1.2.2.2 3))) 2 rfl (ixIn (j := D.1.2.2.2) rfl (by omega) (by decide)) (ixUn (j := D.1.2.2.2) rfl (by omega)) (ws' := [_, _, (_, .inl (_, _, .inl _)), _, _]) rfl (q := 99) dX10_doLine_98 rfl ?_
    refine g_iconst (v := nI 0) (q := 100) dX10_doLine_99 rfl ki_0 ?_
    refine g_istore_n (lv' := [(0, _), (1, _), (2, _), (3, _)]) (q := 101) dX10_doLine_100 rfl rfl (Nat.le_of_ble_eq_true rfl) rfl ?_
    refine g_iload_n (q := 102) dX10_doLine_101 rfl rfl rfl ?_
    refine g_iconst (v := nI 4) (q := 103) dX10_doLine_102 rfl ki_4 ?_
    refine g_icmp_geN (t := 135) (q := 106) dX10_doLine_103 (by decide) rfl (by omega) (by omega) (fun c103 => ?_) (fun c103 => ?_)
    · omega
    · skip
      refine g_aload_n (q := 107) dX10_doLine_106 rfl rfl rfl ?_
      refine gf_X10_20 rfl 0 rfl rfl (q := 110) dX10_doLine_107 rfl ?_
      refine g_iconst (v := nI 4) (q := 111) dX10_doLine_110 rfl ki_4 ?_
      refine g_aload_n (q := 112) dX10_doLine_111 rfl rfl rfl ?_
      refine gf_X10_77 rfl 0 rfl rfl (q := 115) dX10_doLine_112 rfl ?_
      refine g_imulN (q := 116) dX10_doLine_115 rfl ?_
      refine g_iload_n (q := 117) dX10_doLine_116 rfl rfl rfl ?_
      refine g_iaddN (q := 118) dX10_doLine_117 rfl ?_
      refine g_top (y := nI (4 * D.1.2.2.2)) rfl ?_
      refine g_aload_n (q := 119) dX10_doLine_118 rfl rfl rfl ?_
      refine gf_X10_26 rfl 0 rfl rfl (q := 122) dX10_doLine_119 rfl ?_
      refine g_iload_n (q := 123) dX10_doLine_122 rfl rfl rfl ?_
      refine g_iconst (v := nI 1) (q := 124) dX10_doLine_123 rfl ki_1 ?_
      refine g_iaddN (q := 125) dX10_doLine_124 rfl ?_
      refine g_iload_n (q := 126) dX10_doLine_125 rfl rfl rfl ?_
      refine g_iaddN (q := 127) dX10_doLine_126 rfl ?_
      refine g_iald (v := rd (w + 1 + 0)) 1 rfl (ixIn (j := w + 1 + 0) rfl (by omega) (by decide)) (ixV (j := w + 1 + 0) rfl (by omega)) (q := 128) dX10_doLine_127 rfl ?_
      refine g_top (y := nI a) hv0 ?_
      refine g_iast (f' := (begF (updn D.2.2.2.1 D.1.2.2.2 a) D.2.2.2.2.1 D.2.2.2.2.2.1 D.2.2.2.2.2.2)) 3 rfl (ixIn (j := 4 * D.1.2.2.2) rfl (by omega) (by decide)) ((ixU (j := 4 * D.1.2.2.2) rfl (by omega)).trans (begF_w0 _ _)) (ws' := [_, _, _, (_, .inl (_, _, .inl _)), _]) rfl (q := 129) dX10_doLine_128 rfl ?_
      refine g_iinc (lv' := [(0, _), (1, _), (2, _), (3, _)]) (v := nI (1)) (q := 132) dX10_doLine_129 rfl rfl (nI_inc _) (Nat.le_of_ble_eq_true rfl) rfl ?_
      refine g_goto (q := 101) dX10_doLine_132 (by decide) ?_
      refine g_iload_n (q := 102) dX10_doLine_101 rfl rfl rfl ?_
      refine g_iconst (v := nI 4) (q := 103) dX10_doLine_102 rfl ki_4 ?_
      refine g_icmp_geN (t := 135) (q := 106) dX10_doLine_103 (by decide) rfl (by omega) (by omega) (fun c103 => ?_) (fun c103 => ?_)
      · omega
      · skip
        refine g_aload_n (q := 107) dX10_doLine_106 rfl rfl rfl ?_
        refine gf_X10_20 rfl 0 rfl rfl (q := 110) dX10_doLine_107 rfl ?_
        refine g_iconst (v := nI 4) (q := 111) dX10_doLine_110 rfl ki_4 ?_
        refine g_aload_n (q := 112) dX10_doLine_111 rfl rfl rfl ?_
        refine gf_X10_77 rfl 0 rfl rfl (q := 115) dX10_doLine_112 rfl ?_
        refine g_imulN (q := 116) dX10_doLine_115 rfl ?_
        refine g_iload_n (q := 117) dX10_doLine_116 rfl rfl rfl ?_
        refine g_iaddN (q := 118) dX10_doLine_117 rfl ?_
        refine g_aload_n (q := 119) dX10_doLine_118 rfl rfl rfl ?_
        refine gf_X10_26 rfl 0 rfl rfl (q := 122) dX10_doLine_119 rfl ?_
        refine g_iload_n (q := 123) dX10_doLine_122 rfl rfl rfl ?_
        refine g_iconst (v := nI 1) (q := 124) dX10_doLine_123 rfl ki_1 ?_
        refine g_iaddN (q := 125) dX10_doLine_124 rfl ?_
        refine g_iload_n (q := 126) dX10_doLine_125 rfl rfl rfl ?_
        refine g_iaddN (q := 127) dX10_doLine_126 rfl ?_
        refine g_iald (v := rd (w + 1 + 1)) 1 rfl (ixIn (j := w + 1 + 1) rfl (by omega) (by decide)) (ixV (j := w + 1 + 1) rfl (by omega)) (q := 128) dX10_doLine_127 rfl ?_
        refine g_top (y := nI b) hv1 ?_
        refine g_iast (f' := (begF (updn D.2.2.2.1 D.1.2.2.2 a) (updn D.2.2.2.2.1 D.1.2.2.2 b) D.2.2.2.2.2.1 D.2.2.2.2.2.2)) 3 rfl (ixIn (j := 4 * D.1.2.2.2 + 1) rfl (by omega) (by decide)) ((ixU (j := 4 * D.1.2.2.2 + 1) rfl (by omega)).trans (begF_w1 _ _)) (ws' := [_, _, _, (_, .inl (_, _, .inl _)), _]) rfl (q := 129) dX10_doLine_128 rfl ?_
        refine g_iinc (lv' := [(0, _), (1, _), (2, _), (3, _)]) (v := nI (2)) (q := 132) dX10_doLine_129 rfl rfl (nI_inc _) (Nat.le_of_ble_eq_true rfl) rfl ?_
        refine g_goto (q := 101) dX10_doLine_132 (by decide) ?_
        refine g_iload_n (q := 102) dX10_doLine_101 rfl rfl rfl ?_
        refine g_iconst (v := nI 4) (q := 103) dX10_doLine_102 rfl ki_4 ?_
        refine g_icmp_geN (t := 135) (q := 106) dX10_doLine_103 (by decide) rfl (by omega) (by omega) (fun c103 => ?_) (fun c103 => ?_)
        · omega
        · skip
          refine g_aload_n (q := 107) dX10_doLine_106 rfl rfl rfl ?_
          refine gf_X10_20 rfl 0 rfl rfl (q := 110) dX10_doLine_107 rfl ?_
          refine g_iconst (v := nI 4) (q := 111) dX10_doLine_110 rfl ki_4 ?_
          refine g_aload_n (q := 112) dX10_doLine_111 rfl rfl rfl ?_
          refine gf_X10_77 rfl 0 rfl rfl (q := 115) dX10_doLine_112 rfl ?_
          refine g_imulN (q := 116) dX10_doLine_115 rfl ?_
          refine g_iload_n (q := 117) dX10_doLine_116 rfl rfl rfl ?_
          refine g_iaddN (q := 118) dX10_doLine_117 rfl ?_
          refine g_aload_n (q := 119) dX10_doLine_118 rfl rfl rfl ?_
          refine gf_X10_26 rfl 0 rfl rfl (q := 122) dX10_doLine_119 rfl ?_
          refine g_iload_n (q := 123) dX10_doLine_122 rfl rfl rfl ?_
          refine g_iconst (v := nI 1) (q := 124) dX10_doLine_123 rfl ki_1 ?_
          refine g_iaddN (q := 125) dX10_doLine_124 rfl ?_
          refine g_iload_n (q := 126) dX10_doLine_125 rfl rfl rfl ?_
          refine g_iaddN (q := 127) dX10_doLine_126 rfl ?_
          refine g_iald (v := rd (w + 1 + 2)) 1 rfl (ixIn (j := w + 1 + 2) rfl (by omega) (by decide)) (ixV (j := w + 1 + 2) rfl (by omega)) (q := 128) dX10_doLine_127 rfl ?_
          refine g_top (y := nI c) hv2 ?_
          refine g_iast (f' := (begF (updn D.2.2.2.1 D.1.2.2.2 a) (updn D.2.2.2.2.1 D.1.2.2.2 b) (updn D.2.2.2.2.2.1 D.1.2.2.2 c) D.2.2.2.2.2.2)) 3 rfl (ixIn (j := 4 * D.1.2.2.2 + 2) rfl (by omega) (by decide)) ((ixU (j := 4 * D.1.2.2.2 + 2) rfl (by omega)).trans (begF_w2 _ _)) (ws' := [_, _, _, (_, .inl (_, _, .inl _)), _]) rfl (q := 129) dX10_doLine_128 rfl ?_
          refine g_iinc (lv' := [(0, _), (1, _), (2, _), (3, _)]) (v := nI (3)) (q := 132) dX10_doLine_129 rfl rfl (nI_inc _) (Nat.le_of_ble_eq_true rfl) rfl ?_
          refine g_goto (q := 101) dX10_doLine_132 (by decide) ?_
          refine g_iload_n (q := 102) dX10_doLine_101 rfl rfl rfl ?_
          refine g_iconst (v := nI 4) (q := 103) dX10_doLine_102 rfl ki_4 ?_
          refine g_icmp_geN (t := 135) (q := 106) dX10_doLine_103 (by decide) rfl (by omega) (by omega) (fun c103 => ?_) (fun c103 => ?_)
          · omega
          · skip
            refine g_aload_n (q := 107) dX10_doLine_106 rfl rfl rfl ?_
            refine gf_X10_20 rfl 0 rfl rfl (q := 110) dX10_doLine_107 rfl ?_
            refine g_iconst (v := nI 4) (q := 111) dX10_doLine_110 rfl ki_4 ?_
            refine g_aload_n (q := 112) dX10_doLine_111 rfl rfl rfl ?_
            refine gf_X10_77 rfl 0 rfl rfl (q := 115) dX10_doLine_112 rfl ?_
            refine g_imulN (q := 116) dX10_doLine_115 rfl ?_
            refine g_iload_n (q := 117) dX10_doLine_116 rfl rfl rfl ?_
            refine g_iaddN (q := 118) dX10_doLine_117 rfl ?_
            refine g_aload_n (q := 119) dX10_doLine_118 rfl rfl rfl ?_
            refine gf_X10_26 rfl 0 rfl rfl (q := 122) dX10_doLine_119 rfl ?_
            refine g_iload_n (q := 123) dX10_doLine_122 rfl rfl rfl ?_
            refine g_iconst (v := nI 1) (q := 124) dX10_doLine_123 rfl ki_1 ?_
            refine g_iaddN (q := 125) dX10_doLine_124 rfl ?_
            refine g_iload_n (q := 126) dX10_doLine_125 rfl rfl rfl ?_
            refine g_iaddN (q := 127) dX10_doLine_126 rfl ?_
            refine g_iald (v := rd (w + 1 + 3)) 1 rfl (ixIn (j := w + 1 + 3) rfl (by omega) (by decide)) (ixV (j := w + 1 + 3) rfl (by omega)) (q := 128) dX10_doLine_127 rfl ?_
            refine g_top (y := nI d) hv3 ?_
            refine g_iast (f' := (begF (updn D.2.2.2.1 D.1.2.2.2 a) (updn D.2.2.2.2.1 D.1.2.2.2 b) (updn D.2.2.2.2.2.1 D.1.2.2.2 c) (updn D.2.2.2.2.2.2 D.1.2.2.2 d))) 3 rfl (ixIn (j := 4 * D.1.2.2.2 + 3) rfl (by omega) (by decide)) ((ixU (j := 4 * D.1.2.2.2 + 3) rfl (by omega)).trans (begF_w3 _ _)) (ws' := [_, _, _, (_, .inl (_, _, .inl _)), _]) rfl (q := 129) dX10_doLine_128 rfl ?_
            refine g_iinc (lv' := [(0, _), (1, _), (2, _), (3, _)]) (v := nI (4)) (q := 132) dX10_doLine_129 rfl rfl (nI_inc _) (Nat.le_of_ble_eq_true rfl) rfl ?_
            refine g_goto (q := 101) dX10_doLine_132 (by decide) ?_
            refine g_iload_n (q := 102) dX10_doLine_101 rfl rfl rfl ?_
            refine g_iconst (v := nI 4) (q := 103) dX10_doLine_102 rfl ki_4 ?_
            refine g_icmp_geN (t := 135) (q := 106) dX10_doLine_103 (by decide) rfl (by omega) (by omega) (fun c103 => ?_) (fun c103 => ?_)
            · skip
              refine g_aload_n (q := 136) dX10_doLine_135 rfl rfl rfl ?_
              refine g_dup (q := 137) dX10_doLine_136 rfl rfl ?_
              refine gf_X10_77 rfl 0 rfl rfl (q := 140) dX10_doLine_137 rfl ?_
              refine g_iconst (v := nI 1) (q := 141) dX10_doLine_140 rfl ki_1 ?_
              refine g_iaddN (q := 142) dX10_doLine_141 rfl ?_
              refine pf_X10_77 rfl 0 rfl (Nat.le_of_ble_eq_true rfl) (ws' := [(_, .inr (_, (_ :: _ :: _ :: _ :: _ :: _ :: _ :: _ :: _ :: _ :: _ :: _ :: _ :: _ :: _ :: _ :: _ :: _ :: _ :: _ :: _ :: _ :: _ :: _ :: _ :: _ :: _ :: _ :: _ :: _ :: _ :: _ :: _ :: _ :: _ :: []))), _, _, _, _]) rfl (q := 145) dX10_doLine_142 rfl ?_
              refine g_goto (q := 262) dX10_doLine_145 (by decide) ?_
              refine g_vret (st := []) dX10_doLine_262 rfl rfl ?_
              exact xv
            · omega
  · skip
    obtain rfl := List.length_eq_zero_iff.mp hlen
    refine g_aload_n (q := 1) dX10_doLine_0 rfl rfl rfl ?_
    refine gf_X10_26 rfl 0 rfl rfl (q := 4) dX10_doLine_1 rfl ?_
    refine g_iload_n (q := 5) dX10_doLine_4 rfl rfl rfl ?_
    refine g_iconst (v := nI 1) (q := 6) dX10_doLine_5 rfl ki_1 ?_
    refine g_iaddN (q := 7) dX10_doLine_6 rfl ?_
    refine g_iald (v := rd (w + 1)) 1 rfl (ixIn (j := w + 1) rfl (by omega) (by decide)) (ixV (j := w + 1) rfl (by omega)) (q := 8) dX10_doLine_7 rfl ?_
    refine g_istore_n (lv' := [(0, _), (1, _), (2, _)]) (q := 9) dX10_doLine_8 rfl rfl (Nat.le_of_ble_eq_true rfl) rfl ?_
    refine g_aload_n (q := 10) dX10_doLine_9 rfl rfl rfl ?_
    refine gf_X10_26 rfl 0 rfl rfl (q := 13) dX10_doLine_10 rfl ?_
    refine g_iload_n (q := 14) dX10_doLine_13 rfl rfl rfl ?_
    refine g_iald (v := rd w) 1 rfl (ixIn (j := w) rfl (by omega) (by decide)) (ixV (j := w) rfl (by omega)) (q := 15) dX10_doLine_14 rfl ?_
    refine g_top (y := nI 4) hL0 ?_
    refine g_tableIn (off := 235) (q := 250) dX10_doLine_15 (by decide) (by decide) (by decide) (by decide) ?_
    refine g_aload_n (q := 251) dX10_doLine_250 rfl rfl rfl ?_
    refine g_aload_n (q := 252) dX10_doLine_251 rfl rfl rfl ?_
    refine gf_X10_26 rfl 0 rfl rfl (q := 255) dX10_doLine_252 rfl ?_
    refine g_iload_n (q := 256) dX10_doLine_255 rfl rfl rfl ?_
    refine g_iald (v := rd w) 1 rfl (ixIn (j := w) rfl (by omega) (by decide)) (ixV (j := w) rfl (by omega)) (q := 257) dX10_doLine_256 rfl ?_
    refine g_top (y := nI 4) hL0 ?_
    refine g_iconst (v := nI 4) (q := 258) dX10_doLine_257 rfl ki_4 ?_
    refine g_isubN (q := 259) dX10_doLine_258 rfl (by omega) ?_
    refine pf_X10_80 rfl 0 rfl (Nat.le_of_ble_eq_true rfl) (ws' := [(_, .inr (_, (_ :: _ :: _ :: _ :: _ :: _ :: _ :: _ :: _ :: _ :: _ :: _ :: _ :: _ :: _ :: _ :: _ :: _ :: _ :: _ :: _ :: _ :: _ :: _ :: _ :: _ :: _ :: _ :: _ :: _ :: _ :: _ :: _ :: _ :: _ :: []))), _, _, _, _]) rfl (q := 262) dX10_doLine_259 rfl ?_
    refine g_vret (st := []) dX10_doLine_262 rfl rfl ?_
    exact xv
  · skip
    obtain rfl := List.length_eq_zero_iff.mp hlen
    refine g_aload_n (q := 1) dX10_doLine_0 rfl rfl rfl ?_
    refine gf_X10_26 rfl 0 rfl rfl (q := 4) dX10_doLine_1 rfl ?_
    refine g_iload_n (q := 5) dX10_doLine_4 rfl rfl rfl ?_
    refine g_iconst (v := nI 1) (q := 6) dX10_doLine_5 rfl ki_1 ?_
    refine g_iaddN (q := 7) dX10_doLine_6 rfl ?_
    refine g_iald (v := rd (w + 1)) 1 rfl (ixIn (j := w + 1) rfl (by omega) (by decide)) (ixV (j := w + 1) rfl (by omega)) (q := 8) dX10_doLine_7 rfl ?_
    refine g_istore_n (lv' := [(0, _), (1, _), (2, _)]) (q := 9) dX10_doLine_8 rfl rfl (Nat.le_of_ble_eq_true rfl) rfl ?_
    refine g_aload_n (q := 10) dX10_doLine_9 rfl rfl rfl ?_
    refine gf_X10_26 rfl 0 rfl rfl (q := 13) dX10_doLine_10 rfl ?_
    refine g_iload_n (q := 14) dX10_doLine_13 rfl rfl rfl ?_
    refine g_iald (v := rd w) 1 rfl (ixIn (j := w) rfl (by omega) (by decide)) (ixV (j := w) rfl (by omega)) (q := 15) dX10_doLine_14 rfl ?_
    refine g_top (y := nI 5) hL0 ?_
    refine g_tableIn (off := 235) (q := 250) dX10_doLine_15 (by decide) (by decide) (by decide) (by decide) ?_
    refine g_aload_n (q := 251) dX10_doLine_250 rfl rfl rfl ?_
    refine g_aload_n (q := 252) dX10_doLine_251 rfl rfl rfl ?_
    refine gf_X10_26 rfl 0 rfl rfl (q := 255) dX10_doLine_252 rfl ?_
    refine g_iload_n (q := 256) dX10_doLine_255 rfl rfl rfl ?_
    refine g_iald (v := rd w) 1 rfl (ixIn (j := w) rfl (by omega) (by decide)) (ixV (j := w) rfl (by omega)) (q := 257) dX10_doLine_256 rfl ?_
    refine g_top (y := nI 5) hL0 ?_
    refine g_iconst (v := nI 4) (q := 258) dX10_doLine_257 rfl ki_4 ?_
    refine g_isubN (q := 259) dX10_doLine_258 rfl (by omega) ?_
    refine pf_X10_80 rfl 0 rfl (Nat.le_of_ble_eq_true rfl) (ws' := [(_, .inr (_, (_ :: _ :: _ :: _ :: _ :: _ :: _ :: _ :: _ :: _ :: _ :: _ :: _ :: _ :: _ :: _ :: _ :: _ :: _ :: _ :: _ :: _ :: _ :: _ :: _ :: _ :: _ :: _ :: _ :: _ :: _ :: _ :: _ :: _ :: _ :: []))), _, _, _, _]) rfl (q := 262) dX10_doLine_259 rfl ?_
    refine g_vret (st := []) dX10_doLine_262 rfl rfl ?_
    exact xv
  · skip
    obtain rfl := List.length_eq_zero_iff.mp hlen
    refine g_aload_n (q := 1) dX10_doLine_0 rfl rfl rfl ?_
    refine gf_X10_26 rfl 0 rfl rfl (q := 4) dX10_doLine_1 rfl ?_
    refine g_iload_n (q := 5) dX10_doLine_4 rfl rfl rfl ?_
    refine g_iconst (v := nI 1) (q := 6) dX10_doLine_5 rfl ki_1 ?_
    refine g_iaddN (q := 7) dX10_doLine_6 rfl ?_
    refine g_iald (v := rd (w + 1)) 1 rfl (ixIn (j := w + 1) rfl (by omega) (by decide)) (ixV (j := w + 1) rfl (by omega)) (q := 8) dX10_doLine_7 rfl ?_
    refine g_istore_n (lv' := [(0, _), (1, _), (2, _)]) (q := 9) dX10_doLine_8 rfl rfl (Nat.le_of_ble_eq_true rfl) rfl ?_
    refine g_aload_n (q := 10) dX10_doLine_9 rfl rfl rfl ?_
    refine gf_X10_26 rfl 0 rfl rfl (q := 13) dX10_doLine_10 rfl ?_
    refine g_iload_n (q := 14) dX10_doLine_13 rfl rfl rfl ?_
    refine g_iald (v := rd w) 1 rfl (ixIn (j := w) rfl (by omega) (by decide)) (ixV (j := w) rfl (by omega)) (q := 15) dX10_doLine_14 rfl ?_
    refine g_top (y := nI 6) hL0 ?_
    refine g_tableIn (off := 235) (q := 250) dX10_doLine_15 (by decide) (by decide) (by decide) (by decide) ?_
    refine g_aload_n (q := 251) dX10_doLine_250 rfl rfl rfl ?_
    refine g_aload_n (q := 252) dX10_doLine_251 rfl rfl rfl ?_
    refine gf_X10_26 rfl 0 rfl rfl (q := 255) dX10_doLine_252 rfl ?_
    refine g_iload_n (q := 256) dX10_doLine_255 rfl rfl rfl ?_
    refine g_iald (v := rd w) 1 rfl (ixIn (j := w) rfl (by omega) (by decide)) (ixV (j := w) rfl (by omega)) (q := 257) dX10_doLine_256 rfl ?_
    refine g_top (y := nI 6) hL0 ?_
    refine g_iconst (v := nI 4) (q := 258) dX10_doLine_257 rfl ki_4 ?_
    refine g_isubN (q := 259) dX10_doLine_258 rfl (by omega) ?_
    refine pf_X10_80 rfl 0 rfl (Nat.le_of_ble_eq_true rfl) (ws' := [(_, .inr (_, (_ :: _ :: _ :: _ :: _ :: _ :: _ :: _ :: _ :: _ :: _ :: _ :: _ :: _ :: _ :: _ :: _ :: _ :: _ :: _ :: _ :: _ :: _ :: _ :: _ :: _ :: _ :: _ :: _ :: _ :: _ :: _ :: _ :: _ :: _ :: []))), _, _, _, _]) rfl (q := 262) dX10_doLine_259 rfl ?_
    refine g_vret (st := []) dX10_doLine_262 rfl rfl ?_
    exact xv
  · skip
    obtain rfl := List.length_eq_zero_iff.mp hlen
    refine g_aload_n (q := 1) dX10_doLine_0 rfl rfl rfl ?_
    refine gf_X10_26 rfl 0 rfl rfl (q := 4) dX10_doLine_1 rfl ?_
    refine g_iload_n (q := 5) dX10_doLine_4 rfl rfl rfl ?_
    refine g_iconst (v := nI 1) (q := 6) dX10_doLine_5 rfl ki_1 ?_
    refine g_iaddN (q := 7) dX10_doLine_6 rfl ?_
    refine g_iald (v := rd (w + 1)) 1 rfl (ixIn (j := w + 1) rfl (by omega) (by decide)) (ixV (j := w + 1) rfl (by omega)) (q := 8) dX10_doLine_7 rfl ?_
    refine g_istore_n (lv' := [(0, _), (1, _), (2, _)]) (q := 9) dX10_doLine_8 rfl rfl (Nat.le_of_ble_eq_true rfl) rfl ?_
    refine g_aload_n (q := 10) dX10_doLine_9 rfl rfl rfl ?_
    refine gf_X10_26 rfl 0 rfl rfl (q := 13) dX10_doLine_10 rfl ?_
    refine g_iload_n (q := 14) dX10_doLine_13 rfl rfl rfl ?_
    refine g_iald (v := rd w) 1 rfl (ixIn (j := w) rfl (by omega) (by decide)) (ixV (j := w) rfl (by omega)) (q := 15) dX10_doLine_14 rfl ?_
    refine g_top (y := nI 7) hL0 ?_
    refine g_tableIn (off := 235) (q := 250) dX10_doLine_15 (by decide) (by decide) (by decide) (by decide) ?_
    refine g_aload_n (q := 251) dX10_doLine_250 rfl rfl rfl ?_
    refine g_aload_n (q := 252) dX10_doLine_251 rfl rfl rfl ?_
    refine gf_X10_26 rfl 0 rfl rfl (q := 255) dX10_doLine_252 rfl ?_
    refine g_iload_n (q := 256) dX10_doLine_255 rfl rfl rfl ?_
    refine g_iald (v := rd w) 1 rfl (ixIn (j := w) rfl (by omega) (by decide)) (ixV (j := w) rfl (by omega)) (q := 257) dX10_doLine_256 rfl ?_
    refine g_top (y := nI 7) hL0 ?_
    refine g_iconst (v := nI 4) (q := 258) dX10_doLine_257 rfl ki_4 ?_
    refine g_isubN (q := 259) dX10_doLine_258 rfl (by omega) ?_
    refine pf_X10_80 rfl 0 rfl (Nat.le_of_ble_eq_true rfl) (ws' := [(_, .inr (_, (_ :: _ :: _ :: _ :: _ :: _ :: _ :: _ :: _ :: _ :: _ :: _ :: _ :: _ :: _ :: _ :: _ :: _ :: _ :: _ :: _ :: _ :: _ :: _ :: _ :: _ :: _ :: _ :: _ :: _ :: _ :: _ :: _ :: _ :: _ :: []))), _, _, _, _]) rfl (q := 262) dX10_doLine_259 rfl ?_
    refine g_vret (st := []) dX10_doLine_262 rfl rfl ?_
    exact xv
  · skip
    obtain ⟨a, rfl⟩ := len1 hlen
    have hv0 := hLi 0 (by simp)
    have hq0 := hbd 0 (by simp [bd])
    simp only [bd, reduceIte, Nat.reduceLT, Nat.reduceEqDiff, List.getD_cons_zero, List.getD_cons_succ] at hv0 hq0
    refine g_aload_n (q := 1) dX10_doLine_0 rfl rfl rfl ?_
    refine gf_X10_26 rfl 0 rfl rfl (q := 4) dX10_doLine_1 rfl ?_
    refine g_iload_n (q := 5) dX10_doLine_4 rfl rfl rfl ?_
    refine g_iconst (v := nI 1) (q := 6) dX10_doLine_5 rfl ki_1 ?_
    refine g_iaddN (q := 7) dX10_doLine_6 rfl ?_
    refine g_iald (v := rd (w + 1)) 1 rfl (ixIn (j := w + 1) rfl (by omega) (by decide)) (ixV (j := w + 1) rfl (by omega)) (q := 8) dX10_doLine_7 rfl ?_
    refine g_top (y := nI a) hv0 ?_
    refine g_istore_n (lv' := [(0, _), (1, _), (2, _)]) (q := 9) dX10_doLine_8 rfl rfl (Nat.le_of_ble_eq_true rfl) rfl ?_
    refine g_aload_n (q := 10) dX10_doLine_9 rfl rfl rfl ?_
    refine gf_X10_26 rfl 0 rfl rfl (q := 13) dX10_doLine_10 rfl ?_
    refine g_iload_n (q := 14) dX10_doLine_13 rfl rfl rfl ?_
    refine g_iald (v := rd w) 1 rfl (ixIn (j := w) rfl (by omega) (by decide)) (ixV (j := w) rfl (by omega)) (q := 15) dX10_doLine_14 rfl ?_
    refine g_top (y := nI 8) hL0 ?_
    refine g_tableIn (off := 133) (q := 148) dX10_doLine_15 (by decide) (by decide) (by decide) (by decide) ?_
    refine g_aload_n (q := 149) dX10_doLine_148 rfl rfl rfl ?_
    refine g_iload_n (q := 150) dX10_doLine_149 rfl rfl rfl ?_
    refine gc_X10_66 (c_plain (by omega) (by omega)) rfl (Nat.le_of_ble_eq_true rfl) rfl 0 rfl [0, 4] rfl rfl (rest := []) rfl (Nat.le_of_ble_eq_true rfl) (q := 153) dX10_doLine_150 rfl (exK (ws' := [(_, .inr (_, (_ :: _ :: _ :: _ :: _ :: _ :: _ :: _ :: _ :: _ :: _ :: _ :: _ :: _ :: _ :: _ :: _ :: _ :: _ :: _ :: _ :: _ :: _ :: _ :: _ :: _ :: _ :: _ :: _ :: _ :: _ :: _ :: _ :: _ :: _ :: []))), _, _, _, (_, .inl (_, _, .inl _))]) (st' := []) rfl rfl ?_)
    refine g_goto (q := 262) dX10_doLine_153 (by decide) ?_
    refine g_vret (st := []) dX10_doLine_262 rfl rfl ?_
    exact xv
  · skip
    obtain ⟨a, b, c, d, rfl⟩ := len4 hlen
    have hv0 := hLi 0 (by simp)
    have hq0 := hbd 0 (by simp [bd])
    have hv1 := hLi 1 (by simp)
    have hq1 := hbd 1 (by simp [bd])
    have hv2 := hLi 2 (by simp)
    have hq2 := hbd 2 (by simp [bd])
    have hv3 := hLi 3 (by simp)
    have hq3 := hbd 3 (by simp [bd])
    simp only [bd, reduceIte, Nat.reduceLT, Nat.reduceEqDiff, List.getD_cons_zero, List.getD_cons_succ] at hv0 hq0 hv1 hq1 hv2 hq2 hv3 hq3
    refine g_aload_n (q := 1) dX10_doLine_0 rfl rfl rfl ?_
    refine gf_X10_26 rfl 0 rfl rfl (q := 4) dX10_doLine_1 rfl ?_
    refine g_iload_n (q := 5) dX10_doLine_4 rfl rfl rfl ?_
    refine g_iconst (v := nI 1) (q := 6) dX10_doLine_5 rfl ki_1 ?_
    refine g_iaddN (q := 7) dX10_doLine_6 rfl ?_
    refine g_iald (v := rd (w + 1)) 1 rfl (ixIn (j := w + 1) rfl (by omega) (by decide)) (ixV (j := w + 1) rfl (by omega)) (q := 8) dX10_doLine_7 rfl ?_
    refine g_top (y := nI a) hv0 ?_
    refine g_istore_n (lv' := [(0, _), (1, _), (2, _)]) (q := 9) dX10_doLine_8 rfl rfl (Nat.le_of_ble_eq_true rfl) rfl ?_
    refine g_aload_n (q := 10) dX10_doLine_9 rfl rfl rfl ?_
    refine gf_X10_26 rfl 0 rfl rfl (q := 13) dX10_doLine_10 rfl ?_
    refine g_iload_n (q := 14) dX10_doLine_13 rfl rfl rfl ?_
    refine g_iald (v := rd w) 1 rfl (ixIn (j := w) rfl (by omega) (by decide)) (ixV (j := w) rfl (by omega)) (q := 15) dX10_doLine_14 rfl ?_
    refine g_top (y := nI 9) hL0 ?_
    refine g_tableIn (off := 141) (q := 156) dX10_doLine_15 (by decide) (by decide) (by decide) (by decide) ?_
    refine g_iconst (v := nI 0) (q := 157) dX10_doLine_156 rfl ki_0 ?_
    refine g_istore_n (lv' := [(0, _), (1, _), (2, _), (3, _)]) (q := 158) dX10_doLine_157 rfl rfl (Nat.le_of_ble_eq_true rfl) rfl ?_
    refine g_iload_n (q := 159) dX10_doLine_158 rfl rfl rfl ?_
    refine g_iconst (v := nI 3) (q := 160) dX10_doLine_159 rfl ki_3 ?_
    refine g_icmp_geN (t := 189) (q := 163) dX10_doLine_160 (by decide) rfl (by omega) (by omega) (fun c160 => ?_) (fun c160 => ?_)
    · omega
    · skip
      refine g_aload_n (q := 164) dX10_doLine_163 rfl rfl rfl ?_
      refine gf_X10_13 rfl 0 rfl rfl (q := 167) dX10_doLine_164 rfl ?_
      refine g_iconst (v := nI 5) (q := 168) dX10_doLine_167 rfl ki_5 ?_
      refine g_iload_n (q := 169) dX10_doLine_168 rfl rfl rfl ?_
      refine g_imulN (q := 170) dX10_doLine_169 rfl ?_
      refine g_iload_n (q := 171) dX10_doLine_170 rfl rfl rfl ?_
      refine g_iaddN (q := 172) dX10_doLine_171 rfl ?_
      refine g_top (y := nI (5 * a)) rfl ?_
      refine g_aload_n (q := 173) dX10_doLine_172 rfl rfl rfl ?_
      refine gf_X10_26 rfl 0 rfl rfl (q := 176) dX10_doLine_173 rfl ?_
      refine g_iload_n (q := 177) dX10_doLine_176 rfl rfl rfl ?_
      refine g_iconst (v := nI 2) (q := 178) dX10_doLine_177 rfl ki_2 ?_
      refine g_iaddN (q := 179) dX10_doLine_178 rfl ?_
      refine g_iload_n (q := 180) dX10_doLine_179 rfl rfl rfl ?_
      refine g_iaddN (q := 181) dX10_doLine_180 rfl ?_
      refine g_iald (v := rd (w + 2 + 0)) 1 rfl (ixIn (j := w + 2 + 0) rfl (by omega) (by decide)) (ixV (j := w + 2 + 0) rfl (by omega)) (q := 182) dX10_doLine_181 rfl ?_
      refine g_top (y := nI b) hv1 ?_
      refine g_iast (f' := (townF (updn D.2.1.1 a b) D.2.1.2.1 D.2.1.2.2.1 D.2.1.2.2.2.1 D.2.1.2.2.2.2)) 4 rfl (ixIn (j := 5 * a) rfl (by omega) (by decide)) ((ixU (j := 5 * a) rfl (by omega)).trans (townF_w0 _ _)) (ws' := [_, _, _, _, (_, .inl (_, _, .inl _))]) rfl (q := 183) dX10_doLine_182 rfl ?_
      refine g_iinc (lv' := [(0, _), (1, _), (2, _), (3, _)]) (v := nI (1)) (q := 186) dX10_doLine_183 rfl rfl (nI_inc _) (Nat.le_of_ble_eq_true rfl) rfl ?_
      refine g_goto (q := 158) dX10_doLine_186 (by decide) ?_
      refine g_iload_n (q := 159) dX10_doLine_158 rfl rfl rfl ?_
      refine g_iconst (v := nI 3) (q := 160) dX10_doLine_159 rfl ki_3 ?_
      refine g_icmp_geN (t := 189) (q := 163) dX10_doLine_160 (by decide) rfl (by omega) (by omega) (fun c160 => ?_) (fun c160 => ?_)
      · omega
      · skip
        refine g_aload_n (q := 164) dX10_doLine_163 rfl rfl rfl ?_
        refine gf_X10_13 rfl 0 rfl rfl (q := 167) dX10_doLine_164 rfl ?_
        refine g_iconst (v := nI 5) (q := 168) dX10_doLine_167 rfl ki_5 ?_
        refine g_iload_n (q := 169) dX10_doLine_168 rfl rfl rfl ?_
        refine g_imulN (q := 170) dX10_doLine_169 rfl ?_
        refine g_iload_n (q := 171) dX10_doLine_170 rfl rfl rfl ?_
        refine g_iaddN (q := 172) dX10_doLine_171 rfl ?_
        refine g_aload_n (q := 173) dX10_doLine_172 rfl rfl rfl ?_
        refine gf_X10_26 rfl 0 rfl rfl (q := 176) dX10_doLine_173 rfl ?_
        refine g_iload_n (q := 177) dX10_doLine_176 rfl rfl rfl ?_
        refine g_iconst (v := nI 2) (q := 178) dX10_doLine_177 rfl ki_2 ?_
        refine g_iaddN (q := 179) dX10_doLine_178 rfl ?_
        refine g_iload_n (q := 180) dX10_doLine_179 rfl rfl rfl ?_
        refine g_iaddN (q := 181) dX10_doLine_180 rfl ?_
        refine g_iald (v := rd (w + 2 + 1)) 1 rfl (ixIn (j := w + 2 + 1) rfl (by omega) (by decide)) (ixV (j := w + 2 + 1) rfl (by omega)) (q := 182) dX10_doLine_181 rfl ?_
        refine g_top (y := nI c) hv2 ?_
        refine g_iast (f' := (townF (updn D.2.1.1 a b) (updn D.2.1.2.1 a c) D.2.1.2.2.1 D.2.1.2.2.2.1 D.2.1.2.2.2.2)) 4 rfl (ixIn (j := 5 * a + 1) rfl (by omega) (by decide)) ((ixU (j := 5 * a + 1) rfl (by omega)).trans (townF_w1 _ _)) (ws' := [_, _, _, _, (_, .inl (_, _, .inl _))]) rfl (q := 183) dX10_doLine_182 rfl ?_
        refine g_iinc (lv' := [(0, _), (1, _), (2, _), (3, _)]) (v := nI (2)) (q := 186) dX10_doLine_183 rfl rfl (nI_inc _) (Nat.le_of_ble_eq_true rfl) rfl ?_
        refine g_goto (q := 158) dX10_doLine_186 (by decide) ?_
        refine g_iload_n (q := 159) dX10_doLine_158 rfl rfl rfl ?_
        refine g_iconst (v := nI 3) (q := 160) dX10_doLine_159 rfl ki_3 ?_
        refine g_icmp_geN (t := 189) (q := 163) dX10_doLine_160 (by decide) rfl (by omega) (by omega) (fun c160 => ?_) (fun c160 => ?_)
        · omega
        · skip
          refine g_aload_n (q := 164) dX10_doLine_163 rfl rfl rfl ?_
          refine gf_X10_13 rfl 0 rfl rfl (q := 167) dX10_doLine_164 rfl ?_
          refine g_iconst (v := nI 5) (q := 168) dX10_doLine_167 rfl ki_5 ?_
          refine g_iload_n (q := 169) dX10_doLine_168 rfl rfl rfl ?_
          refine g_imulN (q := 170) dX10_doLine_169 rfl ?_
          refine g_iload_n (q := 171) dX10_doLine_170 rfl rfl rfl ?_
          refine g_iaddN (q := 172) dX10_doLine_171 rfl ?_
          refine g_aload_n (q := 173) dX10_doLine_172 rfl rfl rfl ?_
          refine gf_X10_26 rfl 0 rfl rfl (q := 176) dX10_doLine_173 rfl ?_
          refine g_iload_n (q := 177) dX10_doLine_176 rfl rfl rfl ?_
          refine g_iconst (v := nI 2) (q := 178) dX10_doLine_177 rfl ki_2 ?_
          refine g_iaddN (q := 179) dX10_doLine_178 rfl ?_
          refine g_iload_n (q := 180) dX10_doLine_179 rfl rfl rfl ?_
          refine g_iaddN (q := 181) dX10_doLine_180 rfl ?_
          refine g_iald (v := rd (w + 2 + 2)) 1 rfl (ixIn (j := w + 2 + 2) rfl (by omega) (by decide)) (ixV (j := w + 2 + 2) rfl (by omega)) (q := 182) dX10_doLine_181 rfl ?_
          refine g_top (y := nI d) hv3 ?_
          refine g_iast (f' := (townF (updn D.2.1.1 a b) (updn D.2.1.2.1 a c) (updn D.2.1.2.2.1 a d) D.2.1.2.2.2.1 D.2.1.2.2.2.2)) 4 rfl (ixIn (j := 5 * a + 2) rfl (by omega) (by decide)) ((ixU (j := 5 * a + 2) rfl (by omega)).trans (townF_w2 _ _)) (ws' := [_, _, _, _, (_, .inl (_, _, .inl _))]) rfl (q := 183) dX10_doLine_182 rfl ?_
          refine g_iinc (lv' := [(0, _), (1, _), (2, _), (3, _)]) (v := nI (3)) (q := 186) dX10_doLine_183 rfl rfl (nI_inc _) (Nat.le_of_ble_eq_true rfl) rfl ?_
          refine g_goto (q := 158) dX10_doLine_186 (by decide) ?_
          refine g_iload_n (q := 159) dX10_doLine_158 rfl rfl rfl ?_
          refine g_iconst (v := nI 3) (q := 160) dX10_doLine_159 rfl ki_3 ?_
          refine g_icmp_geN (t := 189) (q := 163) dX10_doLine_160 (by decide) rfl (by omega) (by omega) (fun c160 => ?_) (fun c160 => ?_)
          · skip
            refine g_goto (q := 262) dX10_doLine_189 (by decide) ?_
            refine g_vret (st := []) dX10_doLine_262 rfl rfl ?_
            exact xv
          · omega
  · skip
    obtain ⟨a, b, rfl⟩ := len2 hlen
    have hv0 := hLi 0 (by simp)
    have hq0 := hbd 0 (by simp [bd])
    have hv1 := hLi 1 (by simp)
    have hq1 := hbd 1 (by simp [bd])
    simp only [bd, reduceIte, Nat.reduceLT, Nat.reduceEqDiff, List.getD_cons_zero, List.getD_cons_succ] at hv0 hq0 hv1 hq1
    refine g_aload_n (q := 1) dX10_doLine_0 rfl rfl rfl ?_
    refine gf_X10_26 rfl 0 rfl rfl (q := 4) dX10_doLine_1 rfl ?_
    refine g_iload_n (q := 5) dX10_doLine_4 rfl rfl rfl ?_
    refine g_iconst (v := nI 1) (q := 6) dX10_doLine_5 rfl ki_1 ?_
    refine g_iaddN (q := 7) dX10_doLine_6 rfl ?_
    refine g_iald (v := rd (w + 1)) 1 rfl (ixIn (j := w + 1) rfl (by omega) (by decide)) (ixV (j := w + 1) rfl (by omega)) (q := 8) dX10_doLine_7 rfl ?_
    refine g_top (y := nI a) hv0 ?_
    refine g_istore_n (lv' := [(0, _), (1, _), (2, _)]) (q := 9) dX10_doLine_8 rfl rfl (Nat.le_of_ble_eq_true rfl) rfl ?_
    refine g_aload_n (q := 10) dX10_doLine_9 rfl rfl rfl ?_
    refine gf_X10_26 rfl 0 rfl rfl (q := 13) dX10_doLine_10 rfl ?_
    refine g_iload_n (q := 14) dX10_doLine_13 rfl rfl rfl ?_
    refine g_iald (v := rd w) 1 rfl (ixIn (j := w) rfl (by omega) (by decide)) (ixV (j := w) rfl (by omega)) (q := 15) dX10_doLine_14 rfl ?_
    refine g_top (y := nI 10) hL0 ?_
    refine g_tableIn (off := 177) (q := 192) dX10_doLine_15 (by decide) (by decide) (by decide) (by decide) ?_
    refine g_aload_n (q := 193) dX10_doLine_192 rfl rfl rfl ?_
    refine gf_X10_13 rfl 0 rfl rfl (q := 196) dX10_doLine_193 rfl ?_
    refine g_iconst (v := nI 5) (q := 197) dX10_doLine_196 rfl ki_5 ?_
    refine g_iload_n (q := 198) dX10_doLine_197 rfl rfl rfl ?_
    refine g_imulN (q := 199) dX10_doLine_198 rfl ?_
    refine g_iconst (v := nI 3) (q := 200) dX10_doLine_199 rfl ki_3 ?_
    refine g_iaddN (q := 201) dX10_doLine_200 rfl ?_
    refine g_aload_n (q := 202) dX10_doLine_201 rfl rfl rfl ?_
    refine gf_X10_26 rfl 0 rfl rfl (q := 205) dX10_doLine_202 rfl ?_
    refine g_iload_n (q := 206) dX10_doLine_205 rfl rfl rfl ?_
    refine g_iconst (v := nI 2) (q := 207) dX10_doLine_206 rfl ki_2 ?_
    refine g_iaddN (q := 208) dX10_doLine_207 rfl ?_
    refine g_iald (v := rd (w + 2)) 1 rfl (ixIn (j := w + 2) rfl (by omega) (by decide)) (ixV (j := w + 2) rfl (by omega)) (q := 209) dX10_doLine_208 rfl ?_
    refine g_top (y := nI b) hv1 ?_
    refine g_iast (f' := (townF D.2.1.1 D.2.1.2.1 D.2.1.2.2.1 (upd D.2.1.2.2.2.1 a (nI (b))) D.2.1.2.2.2.2)) 4 rfl (ixIn (j := 5 * a + 3) rfl (by omega) (by decide)) ((ixU (j := 5 * a + 3) rfl (by omega)).trans (townF_w3 _ _)) (ws' := [_, _, _, _, (_, .inl (_, _, .inl _))]) rfl (q := 210) dX10_doLine_209 rfl ?_
    refine g_goto (q := 262) dX10_doLine_210 (by decide) ?_
    refine g_vret (st := []) dX10_doLine_262 rfl rfl ?_
    exact xv
  · skip
    obtain ⟨a, b, rfl⟩ := len2 hlen
    have hv0 := hLi 0 (by simp)
    have hq0 := hbd 0 (by simp [bd])
    have hv1 := hLi 1 (by simp)
    have hq1 := hbd 1 (by simp [bd])
    simp only [bd, reduceIte, Nat.reduceLT, Nat.reduceEqDiff, List.getD_cons_zero, List.getD_cons_succ] at hv0 hq0 hv1 hq1
    refine g_aload_n (q := 1) dX10_doLine_0 rfl rfl rfl ?_
    refine gf_X10_26 rfl 0 rfl rfl (q := 4) dX10_doLine_1 rfl ?_
    refine g_iload_n (q := 5) dX10_doLine_4 rfl rfl rfl ?_
    refine g_iconst (v := nI 1) (q := 6) dX10_doLine_5 rfl ki_1 ?_
    refine g_iaddN (q := 7) dX10_doLine_6 rfl ?_
    refine g_iald (v := rd (w + 1)) 1 rfl (ixIn (j := w + 1) rfl (by omega) (by decide)) (ixV (j := w + 1) rfl (by omega)) (q := 8) dX10_doLine_7 rfl ?_
    refine g_top (y := nI a) hv0 ?_
    refine g_istore_n (lv' := [(0, _), (1, _), (2, _)]) (q := 9) dX10_doLine_8 rfl rfl (Nat.le_of_ble_eq_true rfl) rfl ?_
    refine g_aload_n (q := 10) dX10_doLine_9 rfl rfl rfl ?_
    refine gf_X10_26 rfl 0 rfl rfl (q := 13) dX10_doLine_10 rfl ?_
    refine g_iload_n (q := 14) dX10_doLine_13 rfl rfl rfl ?_
    refine g_iald (v := rd w) 1 rfl (ixIn (j := w) rfl (by omega) (by decide)) (ixV (j := w) rfl (by omega)) (q := 15) dX10_doLine_14 rfl ?_
    refine g_top (y := nI 11) hL0 ?_
    refine g_tableIn (off := 198) (q := 213) dX10_doLine_15 (by decide) (by decide) (by decide) (by decide) ?_
    refine g_aload_n (q := 214) dX10_doLine_213 rfl rfl rfl ?_
    refine gf_X10_13 rfl 0 rfl rfl (q := 217) dX10_doLine_214 rfl ?_
    refine g_iconst (v := nI 5) (q := 218) dX10_doLine_217 rfl ki_5 ?_
    refine g_iload_n (q := 219) dX10_doLine_218 rfl rfl rfl ?_
    refine g_imulN (q := 220) dX10_doLine_219 rfl ?_
    refine g_iconst (v := nI 4) (q := 221) dX10_doLine_220 rfl ki_4 ?_
    refine g_iaddN (q := 222) dX10_doLine_221 rfl ?_
    refine g_aload_n (q := 223) dX10_doLine_222 rfl rfl rfl ?_
    refine gf_X10_26 rfl 0 rfl rfl (q := 226) dX10_doLine_223 rfl ?_
    refine g_iload_n (q := 227) dX10_doLine_226 rfl rfl rfl ?_
    refine g_iconst (v := nI 2) (q := 228) dX10_doLine_227 rfl ki_2 ?_
    refine g_iaddN (q := 229) dX10_doLine_228 rfl ?_
    refine g_iald (v := rd (w + 2)) 1 rfl (ixIn (j := w + 2) rfl (by omega) (by decide)) (ixV (j := w + 2) rfl (by omega)) (q := 230) dX10_doLine_229 rfl ?_
    refine g_top (y := nI b) hv1 ?_
    refine g_iast (f' := (townF D.2.1.1 D.2.1.2.1 D.2.1.2.2.1 D.2.1.2.2.2.1 (updn D.2.1.2.2.2.2 a b))) 4 rfl (ixIn (j := 5 * a + 4) rfl (by omega) (by decide)) ((ixU (j := 5 * a + 4) rfl (by omega)).trans (townF_w4 _ _)) (ws' := [_, _, _, _, (_, .inl (_, _, .inl _))]) rfl (q := 231) dX10_doLine_230 rfl ?_
    refine g_goto (q := 262) dX10_doLine_231 (by decide) ?_
    refine g_vret (st := []) dX10_doLine_262 rfl rfl ?_
    exact xv
  · skip
    obtain ⟨a, rfl⟩ := len1 hlen
    have hv0 := hLi 0 (by simp)
    have hq0 := hbd 0 (by simp [bd])
    simp only [bd, reduceIte, Nat.reduceLT, Nat.reduceEqDiff, List.getD_cons_zero, List.getD_cons_succ] at hv0 hq0
    refine g_aload_n (q := 1) dX10_doLine_0 rfl rfl rfl ?_
    refine gf_X10_26 rfl 0 rfl rfl (q := 4) dX10_doLine_1 rfl ?_
    refine g_iload_n (q := 5) dX10_doLine_4 rfl rfl rfl ?_
    refine g_iconst (v := nI 1) (q := 6) dX10_doLine_5 rfl ki_1 ?_
    refine g_iaddN (q := 7) dX10_doLine_6 rfl ?_
    refine g_iald (v := rd (w + 1)) 1 rfl (ixIn (j := w + 1) rfl (by omega) (by decide)) (ixV (j := w + 1) rfl (by omega)) (q := 8) dX10_doLine_7 rfl ?_
    refine g_top (y := nI a) hv0 ?_
    refine g_istore_n (lv' := [(0, _), (1, _), (2, _)]) (q := 9) dX10_doLine_8 rfl rfl (Nat.le_of_ble_eq_true rfl) rfl ?_
    refine g_aload_n (q := 10) dX10_doLine_9 rfl rfl rfl ?_
    refine gf_X10_26 rfl 0 rfl rfl (q := 13) dX10_doLine_10 rfl ?_
    refine g_iload_n (q := 14) dX10_doLine_13 rfl rfl rfl ?_
    refine g_iald (v := rd w) 1 rfl (ixIn (j := w) rfl (by omega) (by decide)) (ixV (j := w) rfl (by omega)) (q := 15) dX10_doLine_14 rfl ?_
    refine g_top (y := nI 12) hL0 ?_
    refine g_tableIn (off := 219) (q := 234) dX10_doLine_15 (by decide) (by decide) (by decide) (by decide) ?_
    refine g_aload_n (q := 235) dX10_doLine_234 rfl rfl rfl ?_
    refine g_iload_n (q := 236) dX10_doLine_235 rfl rfl rfl ?_
    refine pf_X10_83 rfl 0 rfl (Nat.le_of_ble_eq_true rfl) (ws' := [(_, .inr (_, (_ :: _ :: _ :: _ :: _ :: _ :: _ :: _ :: _ :: _ :: _ :: _ :: _ :: _ :: _ :: _ :: _ :: _ :: _ :: _ :: _ :: _ :: _ :: _ :: _ :: _ :: _ :: _ :: _ :: _ :: _ :: _ :: _ :: _ :: _ :: []))), _, _, _, _]) rfl (q := 239) dX10_doLine_236 rfl ?_
    refine g_goto (q := 262) dX10_doLine_239 (by decide) ?_
    refine g_vret (st := []) dX10_doLine_262 rfl rfl ?_
    exact xv
  · skip
    obtain rfl := List.length_eq_zero_iff.mp hlen
    refine g_aload_n (q := 1) dX10_doLine_0 rfl rfl rfl ?_
    refine gf_X10_26 rfl 0 rfl rfl (q := 4) dX10_doLine_1 rfl ?_
    refine g_iload_n (q := 5) dX10_doLine_4 rfl rfl rfl ?_
    refine g_iconst (v := nI 1) (q := 6) dX10_doLine_5 rfl ki_1 ?_
    refine g_iaddN (q := 7) dX10_doLine_6 rfl ?_
    refine g_iald (v := rd (w + 1)) 1 rfl (ixIn (j := w + 1) rfl (by omega) (by decide)) (ixV (j := w + 1) rfl (by omega)) (q := 8) dX10_doLine_7 rfl ?_
    refine g_istore_n (lv' := [(0, _), (1, _), (2, _)]) (q := 9) dX10_doLine_8 rfl rfl (Nat.le_of_ble_eq_true rfl) rfl ?_
    refine g_aload_n (q := 10) dX10_doLine_9 rfl rfl rfl ?_
    refine gf_X10_26 rfl 0 rfl rfl (q := 13) dX10_doLine_10 rfl ?_
    refine g_iload_n (q := 14) dX10_doLine_13 rfl rfl rfl ?_
    refine g_iald (v := rd w) 1 rfl (ixIn (j := w) rfl (by omega) (by decide)) (ixV (j := w) rfl (by omega)) (q := 15) dX10_doLine_14 rfl ?_
    refine g_top (y := nI 13) hL0 ?_
    refine g_tableIn (off := 227) (q := 242) dX10_doLine_15 (by decide) (by decide) (by decide) (by decide) ?_
    refine g_aload_n (q := 243) dX10_doLine_242 rfl rfl rfl ?_
    refine g_iconst (v := nI 0) (q := 244) dX10_doLine_243 rfl ki_0 ?_
    refine pf_X10_77 rfl 0 rfl (Nat.le_of_ble_eq_true rfl) (ws' := [(_, .inr (_, (_ :: _ :: _ :: _ :: _ :: _ :: _ :: _ :: _ :: _ :: _ :: _ :: _ :: _ :: _ :: _ :: _ :: _ :: _ :: _ :: _ :: _ :: _ :: _ :: _ :: _ :: _ :: _ :: _ :: _ :: _ :: _ :: _ :: _ :: _ :: []))), _, _, _, _]) rfl (q := 247) dX10_doLine_244 rfl ?_
    refine g_goto (q := 262) dX10_doLine_247 (by decide) ?_
    refine g_vret (st := []) dX10_doLine_262 rfl rfl ?_
    exact xv
set_option maxHeartbeats 2000000 in
set_option maxRecDepth 20000 in
theorem c_mleague {E : EN} {m0 mt mk mb mx mr mn ma mi mj mg ms md mc me mh mo mw tl en sn dn : Nat} {po ta dg nu fa rm_ rto rbo ga : Int32} {tk : Int64} {tx : Nat → Nat} {rd : Nat → Int32} {tw wt sk gr : Nat → Nat} {ch : Nat → Int32} {yr : Nat} {g : Nat → Option Nat} {i0 i1 : Bool} {B : LSt} (hB : okD B) (hl : tl ≤ 200) (htx : ∀ j, j < tl → tx j < 256)  : CT E yX10_league cX10_league 2 (some .int) 8 [.ref m0] [(m0, .inr (10, (.int (nI (B.1.1)) :: .ref mt :: .int (nI (B.1.2.2.2)) :: .ref mk :: .ref mb :: .int (nI (B.1.2.1)) :: .int (nI (B.1.2.2.1)) :: .int (nI (tl)) :: .ref mx :: .int (po) :: .int (ta) :: .long (tk) :: .int (dg) :: .int (nu) :: .int (fa) :: .int (rm_) :: .int (rto) :: .int (rbo) :: .ref mr :: .ref mn :: .ref ma :: .ref mi :: .ref mj :: .int (nI (en)) :: .ref mg :: .int (nI (sn)) :: .ref ms :: .int (nI (dn)) :: .ref md :: .ref mc :: .ref me :: .int (ga) :: .ref mh :: .ref mo :: .ref mw :: []))), (mx, .inl (E.2.1.1, 200, .inl (nA (tx)))), (mr, .inl (E.2.1.1, 50, .inl (rd))), (mk, .inl (E.2.1.1, 10, .inl (nA (B.2.2.1)))), (mb, .inl (E.2.1.1, 40, .inl (begF B.2.2.2.1 B.2.2.2.2.1 B.2.2.2.2.2.1 B.2.2.2.2.2.2))), (mt, .inl (E.2.1.1, 30, .inl (townF B.2.1.1 B.2.1.2.1 B.2.1.2.2.1 B.2.1.2.2.2.1 B.2.1.2.2.2.2))), (mn, .inl (E.2.1.1, 47, .inl (nowF tw wt sk gr ch yr))), (mj, .inl (E.2.1.2.2.1, 2, .inl (ikA (i0) (i1)))), (mg, .inl (E.2.1.1, 10, .inl (oA (g))))] (fun r w => (∃ (z : List LN × (Int32 × Int32 × Int64 × Int32 × Int32 × Int32 × Int32) × (Nat → Int32)), prs tx tl 10 0 B.1.1 B.1.2.2.2 = .inr z.1 ∧ xQ (some (.int (nI z.1.length))) [(m0, .inr (10, (.int (nI ((foldD nxM z.1 B).1.1)) :: .ref mt :: .int (nI ((foldD nxM z.1 B).1.2.2.2)) :: .ref mk :: .ref mb :: .int (nI ((foldD nxM z.1 B).1.2.1)) :: .int (nI ((foldD nxM z.1 B).1.2.2.1)) :: .int (nI (0)) :: .ref mx :: .int (z.2.1.1) :: .int (z.2.1.2.1) :: .long (z.2.1.2.2.1) :: .int (z.2.1.2.2.2.1) :: .int (z.2.1.2.2.2.2.1) :: .int (fa) :: .int (nI (z.1.length)) :: .int (z.2.1.2.2.2.2.2.1) :: .int (z.2.1.2.2.2.2.2.2) :: .ref mr :: .ref mn :: .ref ma :: .ref mi :: .ref mj :: .int (nI (0)) :: .ref mg :: .int (nI (0)) :: .ref ms :: .int (nI (0)) :: .ref md :: .ref mc :: .ref me :: .int (ga) :: .ref mh :: .ref mo :: .ref mw :: []))), (mx, .inl (E.2.1.1, 200, .inl (nA (tx)))), (mr, .inl (E.2.1.1, 50, .inl (z.2.2))), (mk, .inl (E.2.1.1, 10, .inl (nA ((foldD nxM z.1 B).2.2.1)))), (mb, .inl (E.2.1.1, 40, .inl (begF ((foldD nxM z.1 B).2.2.2.1) ((foldD nxM z.1 B).2.2.2.2.1) ((foldD nxM z.1 B).2.2.2.2.2.1) ((foldD nxM z.1 B).2.2.2.2.2.2)))), (mt, .inl (E.2.1.1, 30, .inl (townF ((foldD nxM z.1 B).2.1.1) ((foldD nxM z.1 B).2.1.2.1) ((foldD nxM z.1 B).2.1.2.2.1) ((foldD nxM z.1 B).2.1.2.2.2.1) ((foldD nxM z.1 B).2.1.2.2.2.2)))), (mn, .inl (E.2.1.1, 47, .inl (nowF ((foldD nxM z.1 B).2.2.2.1) ((foldD nxM z.1 B).2.2.2.2.1) ((foldD nxM z.1 B).2.2.2.2.2.1) ((foldD nxM z.1 B).2.2.2.2.2.2) (fun _ => nI 0) 0))), (mj, .inl (E.2.1.2.2.1, 2, .inl (ikA (false) (false)))), (mg, .inl (E.2.1.1, 10, .inl (oA (fun _ => none))))] r w) ∨ ∃ (z : Nat × (Int32 × Int32 × Int64 × Int32 × Int32 × Int32 × Int32 × Int32) × (Nat → Int32)), prs tx tl 10 0 B.1.1 B.1.2.2.2 = .inl z.1 ∧ xQ (some (.int (-4))) [(m0, .inr (10, (.int (nI (B.1.1)) :: .ref mt :: .int (nI (B.1.2.2.2)) :: .ref mk :: .ref mb :: .int (nI (B.1.2.1)) :: .int (nI (B.1.2.2.1)) :: .int (nI (tl)) :: .ref mx :: .int (z.2.1.1) :: .int (z.2.1.2.1) :: .long (z.2.1.2.2.1) :: .int (z.2.1.2.2.2.1) :: .int (z.2.1.2.2.2.2.1) :: .int (nI (z.1)) :: .int (z.2.1.2.2.2.2.2.2.2) :: .int (z.2.1.2.2.2.2.2.1) :: .int (z.2.1.2.2.2.2.2.2.1) :: .ref mr :: .ref mn :: .ref ma :: .ref mi :: .ref mj :: .int (nI (en)) :: .ref mg :: .int (nI (sn)) :: .ref ms :: .int (nI (dn)) :: .ref md :: .ref mc :: .ref me :: .int (ga) :: .ref mh :: .ref mo :: .ref mw :: []))), (mx, .inl (E.2.1.1, 200, .inl (nA (tx)))), (mr, .inl (E.2.1.1, 50, .inl (z.2.2))), (mk, .inl (E.2.1.1, 10, .inl (nA (B.2.2.1)))), (mb, .inl (E.2.1.1, 40, .inl (begF B.2.2.2.1 B.2.2.2.2.1 B.2.2.2.2.2.1 B.2.2.2.2.2.2))), (mt, .inl (E.2.1.1, 30, .inl (townF B.2.1.1 B.2.1.2.1 B.2.1.2.2.1 B.2.1.2.2.2.1 B.2.1.2.2.2.2))), (mn, .inl (E.2.1.1, 47, .inl (nowF tw wt sk gr ch yr))), (mj, .inl (E.2.1.2.2.1, 2, .inl (ikA (i0) (i1)))), (mg, .inl (E.2.1.1, 10, .inl (oA (g))))] r w) := by
  refine ct_of (by decide +kernel) (Nat.le_of_ble_eq_true rfl) (lv := [(0, .ref m0)]) rfl (fun A => ?_)
  refine g_aload_n (q := 1) dX10_league_0 rfl rfl rfl ?_
  refine gc_X10_191 (c_isRead hB.1.1 hB.1.2.1 hB.1.2.2.2.2 hl htx) rfl (Nat.le_of_ble_eq_true rfl) rfl 0 rfl [0, 1, 2] rfl rfl (rest := []) rfl (Nat.le_of_ble_eq_true rfl) (q := 4) dX10_league_1 rfl (exOrE rfl (fun y hy => ?_) (fun y hy => ?_))
  · skip
    refine g_eq (ws' := [(m0, .inr (10, (.int (nI (B.1.1)) :: .ref mt :: .int (nI (B.1.2.2.2)) :: .ref mk :: .ref mb :: .int (nI (B.1.2.1)) :: .int (nI (B.1.2.2.1)) :: .int (nI (tl)) :: .ref mx :: .int (y.2.1.1) :: .int (y.2.1.2.1) :: .long (y.2.1.2.2.1) :: .int (y.2.1.2.2.2.1) :: .int (y.2.1.2.2.2.2.1) :: .int (fa) :: .int (nI (y.1.length)) :: .int (y.2.1.2.2.2.2.2.1) :: .int (y.2.1.2.2.2.2.2.2) :: .ref mr :: .ref mn :: .ref ma :: .ref mi :: .ref mj :: .int (nI (en)) :: .ref mg :: .int (nI (sn)) :: .ref ms :: .int (nI (dn)) :: .ref md :: .ref mc :: .ref me :: .int (ga) :: .ref mh :: .ref mo :: .ref mw :: []))), (mx, .inl (E.2.1.1, 200, .inl (nA (tx)))), (mr, .inl (E.2.1.1, 50, .inl (y.2.2))), (mk, .inl (E.2.1.1, 10, .inl (nA (B.2.2.1)))), (mb, .inl (E.2.1.1, 40, .inl (begF B.2.2.2.1 B.2.2.2.2.1 B.2.2.2.2.2.1 B.2.2.2.2.2.2))), (mt, .inl (E.2.1.1, 30, .inl (townF B.2.1.1 B.2.1.2.1 B.2.1.2.2.1 B.2.1.2.2.2.1 B.2.1.2.2.2.2))), (mn, .inl (E.2.1.1, 47, .inl (nowF tw wt sk gr ch yr))), (mj, .inl (E.2.1.2.2.1, 2, .inl (ikA (i0) (i1)))), (mg, .inl (E.2.1.1, 10, .inl (oA (g))))]) (st' := [.int (nI (1))]) ?_ rfl rfl rfl
    refine g_if_neN (t := 10) (q := 7) dX10_league_4 (by decide) rfl (by omega) (fun c4 => ?_) (fun c4 => ?_)
    · skip
      have hls := prs_ok nxM hy.1 (Nat.zero_le _)
      have hl10 := prs_len hy.1
      refine g_iconst (v := nI 0) (q := 11) dX10_league_10 rfl ki_0 ?_
      refine g_istore_n (lv' := [(0, _), (1, _)]) (q := 12) dX10_league_11 rfl rfl (Nat.le_of_ble_eq_true rfl) rfl ?_
      refine g_loop (y.1.length) (fun i => [(m0, .inr (10, (.int (nI ((foldD nxM (y.1.take i) B).1.1)) :: .ref mt :: .int (nI ((foldD nxM (y.1.take i) B).1.2.2.2)) :: .ref mk :: .ref mb :: .int (nI ((foldD nxM (y.1.take i) B).1.2.1)) :: .int (nI ((foldD nxM (y.1.take i) B).1.2.2.1)) :: .int (nI (tl)) :: .ref mx :: .int (y.2.1.1) :: .int (y.2.1.2.1) :: .long (y.2.1.2.2.1) :: .int (y.2.1.2.2.2.1) :: .int (y.2.1.2.2.2.2.1) :: .int (fa) :: .int (nI (y.1.length)) :: .int (y.2.1.2.2.2.2.2.1) :: .int (y.2.1.2.2.2.2.2.2) :: .ref mr :: .ref mn :: .ref ma :: .ref mi :: .ref mj :: .int (nI (en)) :: .ref mg :: .int (nI (sn)) :: .ref ms :: .int (nI (dn)) :: .ref md :: .ref mc :: .ref me :: .int (ga) :: .ref mh :: .ref mo :: .ref mw :: []))), (mx, .inl (E.2.1.1, 200, .inl (nA (tx)))), (mr, .inl (E.2.1.1, 50, .inl (y.2.2))), (mk, .inl (E.2.1.1, 10, .inl (nA ((foldD nxM (y.1.take i) B).2.2.1)))), (mb, .inl (E.2.1.1, 40, .inl (begF ((foldD nxM (y.1.take i) B).2.2.2.1) ((foldD nxM (y.1.take i) B).2.2.2.2.1) ((foldD nxM (y.1.take i) B).2.2.2.2.2.1) ((foldD nxM (y.1.take i) B).2.2.2.2.2.2)))), (mt, .inl (E.2.1.1, 30, .inl (townF ((foldD nxM (y.1.take i) B).2.1.1) ((foldD nxM (y.1.take i) B).2.1.2.1) ((foldD nxM (y.1.take i) B).2.1.2.2.1) ((foldD nxM (y.1.take i) B).2.1.2.2.2.1) ((foldD nxM (y.1.take i) B).2.1.2.2.2.2)))), (mn, .inl (E.2.1.1, 47, .inl (nowF tw wt sk gr ch yr))), (mj, .inl (E.2.1.2.2.1, 2, .inl (ikA (i0) (i1)))), (mg, .inl (E.2.1.1, 10, .inl (oA (g))))]) (fun i => [(0, .ref m0), (1, .int (nI (i)))]) ?_ ?_ 0 (Nat.zero_le _)
      · intro i hi12 ih12
        obtain ⟨hDi, hLi⟩ := okLs_at nxM_lt hls hB i (Nat.le_of_lt hi12)
        show G E _ [(m0, .inr (10, (.int (nI ((foldD nxM (y.1.take i) B).1.1)) :: .ref mt :: .int (nI ((foldD nxM (y.1.take i) B).1.2.2.2)) :: .ref mk :: .ref mb :: .int (nI ((foldD nxM (y.1.take i) B).1.2.1)) :: .int (nI ((foldD nxM (y.1.take i) B).1.2.2.1)) :: .int (nI (tl)) :: .ref mx :: .int (y.2.1.1) :: .int (y.2.1.2.1) :: .long (y.2.1.2.2.1) :: .int (y.2.1.2.2.2.1) :: .int (y.2.1.2.2.2.2.1) :: .int (fa) :: .int (nI (y.1.length)) :: .int (y.2.1.2.2.2.2.2.1) :: .int (y.2.1.2.2.2.2.2.2) :: .ref mr :: .ref mn :: .ref ma :: .ref mi :: .ref mj :: .int (nI (en)) :: .ref mg :: .int (nI (sn)) :: .ref ms :: .int (nI (dn)) :: .ref md :: .ref mc :: .ref me :: .int (ga) :: .ref mh :: .ref mo :: .ref mw :: []))), (mx, .inl (E.2.1.1, 200, .inl (nA (tx)))), (mr, .inl (E.2.1.1, 50, .inl (y.2.2))), (mk, .inl (E.2.1.1, 10, .inl (nA ((foldD nxM (y.1.take i) B).2.2.1)))), (mb, .inl (E.2.1.1, 40, .inl (begF ((foldD nxM (y.1.take i) B).2.2.2.1) ((foldD nxM (y.1.take i) B).2.2.2.2.1) ((foldD nxM (y.1.take i) B).2.2.2.2.2.1) ((foldD nxM (y.1.take i) B).2.2.2.2.2.2)))), (mt, .inl (E.2.1.1, 30, .inl (townF ((foldD nxM (y.1.take i) B).2.1.1) ((foldD nxM (y.1.take i) B).2.1.2.1) ((foldD nxM (y.1.take i) B).2.1.2.2.1) ((foldD nxM (y.1.take i) B).2.1.2.2.2.1) ((foldD nxM (y.1.take i) B).2.1.2.2.2.2)))), (mn, .inl (E.2.1.1, 47, .inl (nowF tw wt sk gr ch yr))), (mj, .inl (E.2.1.2.2.1, 2, .inl (ikA (i0) (i1)))), (mg, .inl (E.2.1.1, 10, .inl (oA (g))))] 12 [(0, .ref m0), (1, .int (nI (i)))] []
        refine g_iload_n (q := 13) dX10_league_12 rfl rfl rfl ?_
        refine g_aload_n (q := 14) dX10_league_13 rfl rfl rfl ?_
        refine gf_X10_185 rfl 0 rfl rfl (q := 17) dX10_league_14 rfl ?_
        refine g_icmp_geN (t := 33) (q := 20) dX10_league_17 (by decide) rfl (by omega) (by omega) (fun c17 => ?_) (fun c17 => ?_)
        · omega
        · skip
          refine g_aload_n (q := 21) dX10_league_20 rfl rfl rfl ?_
          refine g_iconst (v := nI 5) (q := 22) dX10_league_21 rfl ki_5 ?_
          refine g_iload_n (q := 23) dX10_league_22 rfl rfl rfl ?_
          refine g_imulN (q := 24) dX10_league_23 rfl ?_
          refine gc_X10_194 (c_doLine (w := 5 * i) (l := y.1.getD i (0, [])) (by omega) (hy.2 i hi12) hDi (hLi hi12)) rfl (Nat.le_of_ble_eq_true rfl) rfl 0 rfl [0, 2, 3, 4, 5] rfl rfl (rest := []) rfl (Nat.le_of_ble_eq_true rfl) (q := 27) dX10_league_24 rfl (exK (ws' := [(_, .inr (_, (_ :: _ :: _ :: _ :: _ :: _ :: _ :: _ :: _ :: _ :: _ :: _ :: _ :: _ :: _ :: _ :: _ :: _ :: _ :: _ :: _ :: _ :: _ :: _ :: _ :: _ :: _ :: _ :: _ :: _ :: _ :: _ :: _ :: _ :: _ :: []))), _, (_, .inl (_, _, .inl _)), (_, .inl (_, _, .inl _)), (_, .inl (_, _, .inl _)), (_, .inl (_, _, .inl _)), _, _, _]) (st' := []) rfl rfl ?_)
          refine g_iinc (lv' := [(0, _), (1, _)]) (v := nI (i + 1)) (q := 30) dX10_league_27 rfl rfl (nI_inc _) (Nat.le_of_ble_eq_true rfl) rfl ?_
          refine g_goto (q := 12) dX10_league_30 (by decide) ?_
          rw [foldD_tk hi12] at ih12
          exact ih12
      · skip
        show G E _ [(m0, .inr (10, (.int (nI ((foldD nxM (y.1.take y.1.length) B).1.1)) :: .ref mt :: .int (nI ((foldD nxM (y.1.take y.1.length) B).1.2.2.2)) :: .ref mk :: .ref mb :: .int (nI ((foldD nxM (y.1.take y.1.length) B).1.2.1)) :: .int (nI ((foldD nxM (y.1.take y.1.length) B).1.2.2.1)) :: .int (nI (tl)) :: .ref mx :: .int (y.2.1.1) :: .int (y.2.1.2.1) :: .long (y.2.1.2.2.1) :: .int (y.2.1.2.2.2.1) :: .int (y.2.1.2.2.2.2.1) :: .int (fa) :: .int (nI (y.1.length)) :: .int (y.2.1.2.2.2.2.2.1) :: .int (y.2.1.2.2.2.2.2.2) :: .ref mr :: .ref mn :: .ref ma :: .ref mi :: .ref mj :: .int (nI (en)) :: .ref mg :: .int (nI (sn)) :: .ref ms :: .int (nI (dn)) :: .ref md :: .ref mc :: .ref me :: .int (ga) :: .ref mh :: .ref mo :: .ref mw :: []))), (mx, .inl (E.2.1.1, 200, .inl (nA (tx)))), (mr, .inl (E.2.1.1, 50, .inl (y.2.2))), (mk, .inl (E.2.1.1, 10, .inl (nA ((foldD nxM (y.1.take y.1.length) B).2.2.1)))), (mb, .inl (E.2.1.1, 40, .inl (begF ((foldD nxM (y.1.take y.1.length) B).2.2.2.1) ((foldD nxM (y.1.take y.1.length) B).2.2.2.2.1) ((foldD nxM (y.1.take y.1.length) B).2.2.2.2.2.1) ((foldD nxM (y.1.take y.1.length) B).2.2.2.2.2.2)))), (mt, .inl (E.2.1.1, 30, .inl (townF ((foldD nxM (y.1.take y.1.length) B).2.1.1) ((foldD nxM (y.1.take y.1.length) B).2.1.2.1) ((foldD nxM (y.1.take y.1.length) B).2.1.2.2.1) ((foldD nxM (y.1.take y.1.length) B).2.1.2.2.2.1) ((foldD nxM (y.1.take y.1.length) B).2.1.2.2.2.2)))), (mn, .inl (E.2.1.1, 47, .inl (nowF tw wt sk gr ch yr))), (mj, .inl (E.2.1.2.2.1, 2, .inl (ikA (i0) (i1)))), (mg, .inl (E.2.1.1, 10, .inl (oA (g))))] 12 [(0, .ref m0), (1, .int (nI (y.1.length)))] []
        refine g_iload_n (q := 13) dX10_league_12 rfl rfl rfl ?_
        refine g_aload_n (q := 14) dX10_league_13 rfl rfl rfl ?_
        refine gf_X10_185 rfl 0 rfl rfl (q := 17) dX10_league_14 rfl ?_
        refine g_icmp_geN (t := 33) (q := 20) dX10_league_17 (by decide) rfl (by omega) (by omega) (fun c17 => ?_) (fun c17 => ?_)
        · skip
          refine g_eq (ws' := [(m0, .inr (10, (.int (nI ((foldD nxM y.1 B).1.1)) :: .ref mt :: .int (nI ((foldD nxM y.1 B).1.2.2.2)) :: .ref mk :: .ref mb :: .int (nI ((foldD nxM y.1 B).1.2.1)) :: .int (nI ((foldD nxM y.1 B).1.2.2.1)) :: .int (nI (tl)) :: .ref mx :: .int (y.2.1.1) :: .int (y.2.1.2.1) :: .long (y.2.1.2.2.1) :: .int (y.2.1.2.2.2.1) :: .int (y.2.1.2.2.2.2.1) :: .int (fa) :: .int (nI (y.1.length)) :: .int (y.2.1.2.2.2.2.2.1) :: .int (y.2.1.2.2.2.2.2.2) :: .ref mr :: .ref mn :: .ref ma :: .ref mi :: .ref mj :: .int (nI (en)) :: .ref mg :: .int (nI (sn)) :: .ref ms :: .int (nI (dn)) :: .ref md :: .ref mc :: .ref me :: .int (ga) :: .ref mh :: .ref mo :: .ref mw :: []))), (mx, .inl (E.2.1.1, 200, .inl (nA (tx)))), (mr, .inl (E.2.1.1, 50, .inl (y.2.2))), (mk, .inl (E.2.1.1, 10, .inl (nA ((foldD nxM y.1 B).2.2.1)))), (mb, .inl (E.2.1.1, 40, .inl (begF ((foldD nxM y.1 B).2.2.2.1) ((foldD nxM y.1 B).2.2.2.2.1) ((foldD nxM y.1 B).2.2.2.2.2.1) ((foldD nxM y.1 B).2.2.2.2.2.2)))), (mt, .inl (E.2.1.1, 30, .inl (townF ((foldD nxM y.1 B).2.1.1) ((foldD nxM y.1 B).2.1.2.1) ((foldD nxM y.1 B).2.1.2.2.1) ((foldD nxM y.1 B).2.1.2.2.2.1) ((foldD nxM y.1 B).2.1.2.2.2.2)))), (mn, .inl (E.2.1.1, 47, .inl (nowF tw wt sk gr ch yr))), (mj, .inl (E.2.1.2.2.1, 2, .inl (ikA (i0) (i1)))), (mg, .inl (E.2.1.1, 10, .inl (oA (g))))]) ?_ (by rw [List.take_length]) rfl rfl
          refine g_aload_n (q := 34) dX10_league_33 rfl rfl rfl ?_
          refine g_iconst (v := nI 0) (q := 35) dX10_league_34 rfl ki_0 ?_
          refine pf_X10_92 rfl 0 rfl (Nat.le_of_ble_eq_true rfl) (ws' := [(_, .inr (_, (_ :: _ :: _ :: _ :: _ :: _ :: _ :: _ :: _ :: _ :: _ :: _ :: _ :: _ :: _ :: _ :: _ :: _ :: _ :: _ :: _ :: _ :: _ :: _ :: _ :: _ :: _ :: _ :: _ :: _ :: _ :: _ :: _ :: _ :: _ :: []))), _, _, _, _, _, _, _, _]) rfl (q := 38) dX10_league_35 rfl ?_
          refine g_aload_n (q := 39) dX10_league_38 rfl rfl rfl ?_
          refine gc_X10_70 (c_mbegin) rfl (Nat.le_of_ble_eq_true rfl) rfl 0 rfl [0, 4, 6, 8] rfl rfl (rest := []) rfl (Nat.le_of_ble_eq_true rfl) (q := 42) dX10_league_39 rfl (exK (ws' := [(_, .inr (_, (_ :: _ :: _ :: _ :: _ :: _ :: _ :: _ :: _ :: _ :: _ :: _ :: _ :: _ :: _ :: _ :: _ :: _ :: _ :: _ :: _ :: _ :: _ :: _ :: _ :: _ :: _ :: _ :: _ :: _ :: _ :: _ :: _ :: _ :: _ :: []))), _, _, _, (_, .inl (_, _, .inl _)), _, (_, .inl (_, _, .inl _)), _, (_, .inl (_, _, .inl _))]) (st' := []) rfl rfl ?_)
          refine g_aload_n (q := 43) dX10_league_42 rfl rfl rfl ?_
          refine g_iconst (v := nI 0) (q := 44) dX10_league_43 rfl ki_0 ?_
          refine pf_X10_197 rfl 0 rfl (Nat.le_of_ble_eq_true rfl) (ws' := [(_, .inr (_, (_ :: _ :: _ :: _ :: _ :: _ :: _ :: _ :: _ :: _ :: _ :: _ :: _ :: _ :: _ :: _ :: _ :: _ :: _ :: _ :: _ :: _ :: _ :: _ :: _ :: _ :: _ :: _ :: _ :: _ :: _ :: _ :: _ :: _ :: _ :: []))), _, _, _, _, _, _, _, _]) rfl (q := 47) dX10_league_44 rfl ?_
          refine g_aload_n (q := 48) dX10_league_47 rfl rfl rfl ?_
          refine g_iconst (v := nI 0) (q := 49) dX10_league_48 rfl ki_0 ?_
          refine pf_X10_200 rfl 0 rfl (Nat.le_of_ble_eq_true rfl) (ws' := [(_, .inr (_, (_ :: _ :: _ :: _ :: _ :: _ :: _ :: _ :: _ :: _ :: _ :: _ :: _ :: _ :: _ :: _ :: _ :: _ :: _ :: _ :: _ :: _ :: _ :: _ :: _ :: _ :: _ :: _ :: _ :: _ :: _ :: _ :: _ :: _ :: _ :: []))), _, _, _, _, _, _, _, _]) rfl (q := 52) dX10_league_49 rfl ?_
          refine g_aload_n (q := 53) dX10_league_52 rfl rfl rfl ?_
          refine gf_X10_38 rfl 0 rfl rfl (q := 56) dX10_league_53 rfl ?_
          refine g_iconst (v := nI 0) (q := 57) dX10_league_56 rfl ki_0 ?_
          refine g_iconst (v := nI 0) (q := 58) dX10_league_57 rfl ki_0 ?_
          refine g_zast (f' := (ikA (false) (i1))) 7 rfl (ixIn (j := 0) rfl (by omega) (by decide)) (ikA_w0 i0 i1 false) (ws' := [_, _, _, _, _, _, _, (_, .inl (_, _, .inl _)), _]) rfl (q := 59) dX10_league_58 rfl ?_
          refine g_aload_n (q := 60) dX10_league_59 rfl rfl rfl ?_
          refine gf_X10_38 rfl 0 rfl rfl (q := 63) dX10_league_60 rfl ?_
          refine g_iconst (v := nI 1) (q := 64) dX10_league_63 rfl ki_1 ?_
          refine g_iconst (v := nI 0) (q := 65) dX10_league_64 rfl ki_0 ?_
          refine g_zast (f' := (ikA (false) (false))) 7 rfl (ixIn (j := 1) rfl (by omega) (by decide)) (ikA_w1 false i1 false) (ws' := [_, _, _, _, _, _, _, (_, .inl (_, _, .inl _)), _]) rfl (q := 66) dX10_league_65 rfl ?_
          refine g_aload_n (q := 67) dX10_league_66 rfl rfl rfl ?_
          refine gf_X10_185 rfl 0 rfl rfl (q := 70) dX10_league_67 rfl ?_
          refine g_iret (st := []) dX10_league_70 rfl rfl rfl ?_
          exact Or.inl ⟨y, hy.1, ⟨rfl, rfl⟩⟩
        · omega
    · omega
  · skip
    refine g_eq (ws' := [(m0, .inr (10, (.int (nI (B.1.1)) :: .ref mt :: .int (nI (B.1.2.2.2)) :: .ref mk :: .ref mb :: .int (nI (B.1.2.1)) :: .int (nI (B.1.2.2.1)) :: .int (nI (tl)) :: .ref mx :: .int (y.2.1.1) :: .int (y.2.1.2.1) :: .long (y.2.1.2.2.1) :: .int (y.2.1.2.2.2.1) :: .int (y.2.1.2.2.2.2.1) :: .int (nI (y.1)) :: .int (y.2.1.2.2.2.2.2.2.2) :: .int (y.2.1.2.2.2.2.2.1) :: .int (y.2.1.2.2.2.2.2.2.1) :: .ref mr :: .ref mn :: .ref ma :: .ref mi :: .ref mj :: .int (nI (en)) :: .ref mg :: .int (nI (sn)) :: .ref ms :: .int (nI (dn)) :: .ref md :: .ref mc :: .ref me :: .int (ga) :: .ref mh :: .ref mo :: .ref mw :: []))), (mx, .inl (E.2.1.1, 200, .inl (nA (tx)))), (mr, .inl (E.2.1.1, 50, .inl (y.2.2))), (mk, .inl (E.2.1.1, 10, .inl (nA (B.2.2.1)))), (mb, .inl (E.2.1.1, 40, .inl (begF B.2.2.2.1 B.2.2.2.2.1 B.2.2.2.2.2.1 B.2.2.2.2.2.2))), (mt, .inl (E.2.1.1, 30, .inl (townF B.2.1.1 B.2.1.2.1 B.2.1.2.2.1 B.2.1.2.2.2.1 B.2.1.2.2.2.2))), (mn, .inl (E.2.1.1, 47, .inl (nowF tw wt sk gr ch yr))), (mj, .inl (E.2.1.2.2.1, 2, .inl (ikA (i0) (i1)))), (mg, .inl (E.2.1.1, 10, .inl (oA (g))))]) (st' := [.int (nI (0))]) ?_ rfl rfl rfl
    refine g_if_neN (t := 10) (q := 7) dX10_league_4 (by decide) rfl (by omega) (fun c4 => ?_) (fun c4 => ?_)
    · omega
    · skip
      refine g_bipush (v := (-4)) (q := 9) dX10_league_7 rfl kb_m4 ?_
      refine g_iret (st := []) dX10_league_9 rfl rfl rfl ?_
      exact Or.inr ⟨y, hy, ⟨rfl, rfl⟩⟩
