theorem g_if_leN {E : EN} {M : MF} {ws : va_W} {pc q : Nat} {lv : List (Nat × Value)} {st : List Value} {a : Nat} {off : Int} {t : Nat} (hdg : decode M.1.2.1 pc = .ok (.ifCond .le off, 3)) (ht : (pc : Int) + off = (t : Int)) (hq : pc + 3 = q) (ha : a < 2147483648) (kt : a = 0 → G E M ws t lv st) (kf : ¬ a = 0 → G E M ws q lv st) : G E M ws pc lv (.int (nI a) :: st) := g_if_le hdg ht hq (fun h => kt (by have := (nI_leI (b := 0) ha (by decide)).mp h; omega)) (fun h => kf (fun z => h (by rw [z]; decide)))
set_option maxHeartbeats 2000000 in
set_option maxRecDepth 20000 in
theorem c_growUp {E : EN} {m0 mt mk mb mx mr mn ma mi mj mg ms md mc me mh mo mw nt nb lw sl tl en sn dn : Nat} {po ta dg nu fa rm_ rto rbo ga : Int32} {tk : Int64} {kd tw wt sk gr : Nat → Nat} {ch : Nat → Int32} {yr : Nat} {cr rt fd nx : Nat → Nat} {wn : Nat → Int32} {b : Nat} (hb : b < 10) (hw1 : 1 ≤ wt b) (hcr : ∀ j, j < 6 → cr j < 4) (hfd : ∀ j, j < 6 → fd j < 4) (hkd : ∀ j, j < 10 → kd j < 4) (htw : ∀ j, j < 10 → tw j < 6) (hwt : ∀ j, j < 10 → wt j < 100) (hsk : ∀ j, j < 10 → sk j < 4) (hgr : ∀ j, j < 10 → gr j < 10)  : CT E yX10_growUp cX10_growUp 4 (none) 1 [.ref m0, .int (nI (b))] [(m0, .inr (10, (.int (nI (nt)) :: .ref mt :: .int (nI (nb)) :: .ref mk :: .ref mb :: .int (nI (lw)) :: .int (nI (sl)) :: .int (nI (tl)) :: .ref mx :: .int (po) :: .int (ta) :: .long (tk) :: .int (dg) :: .int (nu) :: .int (fa) :: .int (rm_) :: .int (rto) :: .int (rbo) :: .ref mr :: .ref mn :: .ref ma :: .ref mi :: .ref mj :: .int (nI (en)) :: .ref mg :: .int (nI (sn)) :: .ref ms :: .int (nI (dn)) :: .ref md :: .ref mc :: .ref me :: .int (ga) :: .ref mh :: .ref mo :: .ref mw :: []))), (mk, .inl (E.2.1.1, 10, .inl (nA (kd)))), (mn, .inl (E.2.1.1, 47, .inl (nowF tw wt sk gr ch yr))), (mt, .inl (E.2.1.1, 30, .inl (townF cr rt fd wn nx)))] (xQ none [(m0, .inr (10, (.int (nI (nt)) :: .ref mt :: .int (nI (nb)) :: .ref mk :: .ref mb :: .int (nI (lw)) :: .int (nI (sl)) :: .int (nI (tl)) :: .ref mx :: .int (po) :: .int (ta) :: .long (tk) :: .int (dg) :: .int (nu) :: .int (fa) :: .int (rm_) :: .int (rto) :: .int (rbo) :: .ref mr :: .ref mn :: .ref ma :: .ref mi :: .ref mj :: .int (nI (en)) :: .ref mg :: .int (nI (sn)) :: .ref ms :: .int (nI (dn)) :: .ref md :: .ref mc :: .ref me :: .int (ga) :: .ref mh :: .ref mo :: .ref mw :: []))), (mk, .inl (E.2.1.1, 10, .inl (nA (kd)))), (mn, .inl (E.2.1.1, 47, .inl (nowF tw (updn wt b (fed (wt b) (fd (tw b)))) (updn sk b (trS (sk b) (gr b) (cr (tw b)))) (updn gr b (trG (kd b) (sk b) (gr b) (cr (tw b)))) ch yr))), (mt, .inl (E.2.1.1, 30, .inl (townF cr rt fd wn nx)))]) := by
  refine ct_of (by decide +kernel) (Nat.le_of_ble_eq_true rfl) (lv := [(0, .ref m0), (1, .int (nI (b)))]) rfl (fun A => ?_)
  refine g_aload_n (q := 1) dX10_growUp_0 rfl rfl rfl ?_
  refine gf_X10_29 rfl 0 rfl rfl (q := 4) dX10_growUp_1 rfl ?_
  refine g_iload_n (q := 5) dX10_growUp_4 rfl rfl rfl ?_
  have hb1 := htw (b) (by omega)
  refine g_iald (v := nI (tw b)) 2 rfl (ixIn (j := b) rfl (by omega) (by decide)) ((ixV (j := b) rfl (by omega)).trans (nowF_t (by omega))) (q := 6) dX10_growUp_5 rfl ?_
  refine g_istore_n (lv' := [(0, _), (1, _), (2, _)]) (q := 7) dX10_growUp_6 rfl rfl (Nat.le_of_ble_eq_true rfl) rfl ?_
  refine g_aload_n (q := 8) dX10_growUp_7 rfl rfl rfl ?_
  refine gf_X10_29 rfl 0 rfl rfl (q := 11) dX10_growUp_8 rfl ?_
  refine g_bipush (v := nI 10) (q := 13) dX10_growUp_11 rfl kb_10 ?_
  refine g_iload_n (q := 14) dX10_growUp_13 rfl rfl rfl ?_
  refine g_iaddN (q := 15) dX10_growUp_14 rfl ?_
  refine g_aload_n (q := 16) dX10_growUp_15 rfl rfl rfl ?_
  refine gf_X10_29 rfl 0 rfl rfl (q := 19) dX10_growUp_16 rfl ?_
  refine g_bipush (v := nI 10) (q := 21) dX10_growUp_19 rfl kb_10 ?_
  refine g_iload_n (q := 22) dX10_growUp_21 rfl rfl rfl ?_
  refine g_iaddN (q := 23) dX10_growUp_22 rfl ?_
  have hb2 := hwt (b) (by omega)
  refine g_iald (v := nI (wt b)) 2 rfl (ixIn (j := 10 + b) rfl (by omega) (by decide)) ((ixV (j := 10 + b) rfl (by omega)).trans (nowF_w (by omega))) (q := 24) dX10_growUp_23 rfl ?_
  refine g_aload_n (q := 25) dX10_growUp_24 rfl rfl rfl ?_
  refine gf_X10_13 rfl 0 rfl rfl (q := 28) dX10_growUp_25 rfl ?_
  refine g_iconst (v := nI 5) (q := 29) dX10_growUp_28 rfl ki_5 ?_
  refine g_iload_n (q := 30) dX10_growUp_29 rfl rfl rfl ?_
  refine g_imulN (q := 31) dX10_growUp_30 rfl ?_
  refine g_iconst (v := nI 2) (q := 32) dX10_growUp_31 rfl ki_2 ?_
  refine g_iaddN (q := 33) dX10_growUp_32 rfl ?_
  have hb3 := hfd (tw b) (by omega)
  refine g_iald (v := nI (fd (tw b))) 3 rfl (ixIn (j := 5 * (tw b) + 2) rfl (by omega) (by decide)) ((ixV (j := 5 * (tw b) + 2) rfl (by omega)).trans (townF_2 (tw b))) (q := 34) dX10_growUp_33 rfl ?_
  refine gc_X10_241 (c_weightThen (by omega) (by omega) (by omega)) rfl (Nat.le_of_ble_eq_true rfl) rfl [] rfl rfl (rest := [_, _]) rfl (Nat.le_of_ble_eq_true rfl) (q := 37) dX10_growUp_34 rfl (exK (ws' := [_, _, _, _]) (st' := [.int (nI (fed (wt b) (fd (tw b)))), _, _]) rfl rfl ?_)
  refine g_iast (f' := (nowF tw (updn wt b (fed (wt b) (fd (tw b)))) sk gr ch yr)) 2 rfl (ixIn (j := 10 + b) rfl (by omega) (by decide)) ((ixU (j := 10 + b) rfl (by omega)).trans (nowF_ww _ (by omega))) (ws' := [_, _, (_, .inl (_, _, .inl _)), _]) rfl (q := 38) dX10_growUp_37 rfl ?_
  refine g_aload_n (q := 39) dX10_growUp_38 rfl rfl rfl ?_
  refine gf_X10_29 rfl 0 rfl rfl (q := 42) dX10_growUp_39 rfl ?_
  refine g_bipush (v := nI 20) (q := 44) dX10_growUp_42 rfl kb_20 ?_
  refine g_iload_n (q := 45) dX10_growUp_44 rfl rfl rfl ?_
  refine g_iaddN (q := 46) dX10_growUp_45 rfl ?_
  have hb4 := hsk (b) (by omega)
  refine g_iald (v := nI (sk b)) 2 rfl (ixIn (j := 20 + b) rfl (by omega) (by decide)) ((ixV (j := 20 + b) rfl (by omega)).trans (nowF_s (by omega))) (q := 47) dX10_growUp_46 rfl ?_
  refine g_aload_n (q := 48) dX10_growUp_47 rfl rfl rfl ?_
  refine gf_X10_13 rfl 0 rfl rfl (q := 51) dX10_growUp_48 rfl ?_
  refine g_iconst (v := nI 5) (q := 52) dX10_growUp_51 rfl ki_5 ?_
  refine g_iload_n (q := 53) dX10_growUp_52 rfl rfl rfl ?_
  refine g_imulN (q := 54) dX10_growUp_53 rfl ?_
  have hb5 := hcr (tw b) (by omega)
  refine g_iald (v := nI (cr (tw b))) 3 rfl (ixIn (j := 5 * (tw b)) rfl (by omega) (by decide)) ((ixV (j := 5 * (tw b)) rfl (by omega)).trans (townF_0 (tw b))) (q := 55) dX10_growUp_54 rfl ?_
  refine g_icmp_neN (t := 122) (q := 58) dX10_growUp_55 (by decide) rfl (by omega) (by omega) (fun c55 => ?_) (fun c55 => ?_)
  · skip
    refine g_aload_n (q := 123) dX10_growUp_122 rfl rfl rfl ?_
    refine gf_X10_29 rfl 0 rfl rfl (q := 126) dX10_growUp_123 rfl ?_
    refine g_bipush (v := nI 30) (q := 128) dX10_growUp_126 rfl kb_30 ?_
    refine g_iload_n (q := 129) dX10_growUp_128 rfl rfl rfl ?_
    refine g_iaddN (q := 130) dX10_growUp_129 rfl ?_
    refine g_dup2 (q := 131) dX10_growUp_130 rfl rfl rfl ?_
    have hb6 := hgr (b) (by omega)
    refine g_iald (v := nI (gr b)) 2 rfl (ixIn (j := 30 + b) rfl (by omega) (by decide)) ((ixV (j := 30 + b) rfl (by omega)).trans (nowF_g (by omega))) (q := 132) dX10_growUp_131 rfl ?_
    refine g_aload_n (q := 133) dX10_growUp_132 rfl rfl rfl ?_
    refine gf_X10_29 rfl 0 rfl rfl (q := 136) dX10_growUp_133 rfl ?_
    refine g_bipush (v := nI 30) (q := 138) dX10_growUp_136 rfl kb_30 ?_
    refine g_iload_n (q := 139) dX10_growUp_138 rfl rfl rfl ?_
    refine g_iaddN (q := 140) dX10_growUp_139 rfl ?_
    have hb7 := hgr (b) (by omega)
    refine g_iald (v := nI (gr b)) 2 rfl (ixIn (j := 30 + b) rfl (by omega) (by decide)) ((ixV (j := 30 + b) rfl (by omega)).trans (nowF_g (by omega))) (q := 141) dX10_growUp_140 rfl ?_
    refine g_if_leN (t := 148) (q := 144) dX10_growUp_141 (by decide) rfl (by omega) (fun c141 => ?_) (fun c141 => ?_)
    · skip
      refine g_iconst (v := nI 0) (q := 149) dX10_growUp_148 rfl ki_0 ?_
      refine g_isubN (q := 150) dX10_growUp_149 rfl (by omega) ?_
      refine g_iast (f' := (nowF tw (updn wt b (fed (wt b) (fd (tw b)))) sk (updn gr b ((gr b) - 0)) ch yr)) 2 rfl (ixIn (j := 30 + b) rfl (by omega) (by decide)) ((ixU (j := 30 + b) rfl (by omega)).trans (nowF_wg _ (by omega))) (ws' := [_, _, (_, .inl (_, _, .inl _)), _]) rfl (q := 151) dX10_growUp_150 rfl ?_
      refine g_aload_n (q := 152) dX10_growUp_151 rfl rfl rfl ?_
      refine gf_X10_29 rfl 0 rfl rfl (q := 155) dX10_growUp_152 rfl ?_
      refine g_bipush (v := nI 20) (q := 157) dX10_growUp_155 rfl kb_20 ?_
      refine g_iload_n (q := 158) dX10_growUp_157 rfl rfl rfl ?_
      refine g_iaddN (q := 159) dX10_growUp_158 rfl ?_
      refine g_aload_n (q := 160) dX10_growUp_159 rfl rfl rfl ?_
      refine gf_X10_29 rfl 0 rfl rfl (q := 163) dX10_growUp_160 rfl ?_
      refine g_bipush (v := nI 30) (q := 165) dX10_growUp_163 rfl kb_30 ?_
      refine g_iload_n (q := 166) dX10_growUp_165 rfl rfl rfl ?_
      refine g_iaddN (q := 167) dX10_growUp_166 rfl ?_
      have hb8 := hgr (b) (by omega)
      refine g_iald (v := nI ((gr b) - 0)) 2 rfl (ixIn (j := 30 + b) rfl (by omega) (by decide)) (((ixV (j := 30 + b) rfl (by omega)).trans (nowF_g (by omega))).trans (congrArg nI updn_s)) (q := 168) dX10_growUp_167 rfl ?_
      refine g_if_neN (t := 182) (q := 171) dX10_growUp_168 (by decide) rfl (by omega) (fun c168 => ?_) (fun c168 => ?_)
      · skip
        refine g_aload_n (q := 183) dX10_growUp_182 rfl rfl rfl ?_
        refine gf_X10_29 rfl 0 rfl rfl (q := 186) dX10_growUp_183 rfl ?_
        refine g_bipush (v := nI 20) (q := 188) dX10_growUp_186 rfl kb_20 ?_
        refine g_iload_n (q := 189) dX10_growUp_188 rfl rfl rfl ?_
        refine g_iaddN (q := 190) dX10_growUp_189 rfl ?_
        have hb9 := hsk (b) (by omega)
        refine g_iald (v := nI (sk b)) 2 rfl (ixIn (j := 20 + b) rfl (by omega) (by decide)) ((ixV (j := 20 + b) rfl (by omega)).trans (nowF_s (by omega))) (q := 191) dX10_growUp_190 rfl ?_
        refine g_iast (f' := (nowF tw (updn wt b (fed (wt b) (fd (tw b)))) (updn sk b (sk b)) (updn gr b ((gr b) - 0)) ch yr)) 2 rfl (ixIn (j := 20 + b) rfl (by omega) (by decide)) ((ixU (j := 20 + b) rfl (by omega)).trans (nowF_ws _ (by omega))) (ws' := [_, _, (_, .inl (_, _, .inl _)), _]) rfl (q := 192) dX10_growUp_191 rfl ?_
        refine g_vret (st := []) dX10_growUp_192 rfl rfl ?_
        omega
      · skip
        refine g_aload_n (q := 172) dX10_growUp_171 rfl rfl rfl ?_
        refine gf_X10_13 rfl 0 rfl rfl (q := 175) dX10_growUp_172 rfl ?_
        refine g_iconst (v := nI 5) (q := 176) dX10_growUp_175 rfl ki_5 ?_
        refine g_iload_n (q := 177) dX10_growUp_176 rfl rfl rfl ?_
        refine g_imulN (q := 178) dX10_growUp_177 rfl ?_
        have hb10 := hcr (tw b) (by omega)
        refine g_iald (v := nI (cr (tw b))) 3 rfl (ixIn (j := 5 * (tw b)) rfl (by omega) (by decide)) ((ixV (j := 5 * (tw b)) rfl (by omega)).trans (townF_0 (tw b))) (q := 179) dX10_growUp_178 rfl ?_
        refine g_goto (q := 191) dX10_growUp_179 (by decide) ?_
        refine g_iast (f' := (nowF tw (updn wt b (fed (wt b) (fd (tw b)))) (updn sk b (cr (tw b))) (updn gr b ((gr b) - 0)) ch yr)) 2 rfl (ixIn (j := 20 + b) rfl (by omega) (by decide)) ((ixU (j := 20 + b) rfl (by omega)).trans (nowF_ws _ (by omega))) (ws' := [_, _, (_, .inl (_, _, .inl _)), _]) rfl (q := 192) dX10_growUp_191 rfl ?_
        refine g_vret (st := []) dX10_growUp_192 rfl rfl ?_
        have e1 : trG (kd b) (sk b) (gr b) (cr (tw b)) = (gr b) - 0 := by
          unfold trG grwN
          rw [if_neg c55]
          try omega
        have e2 : updn sk b (trS (sk b) (gr b) (cr (tw b))) = updn sk b (cr (tw b)) := by rw [show trS (sk b) (gr b) (cr (tw b)) = (cr (tw b)) by unfold trS; rw [if_neg c55]; first | rw [if_pos (by omega)] | rw [if_neg (by omega)]]
        exact xv (by rw [e1, e2])
    · skip
      refine g_iconst (v := nI 1) (q := 145) dX10_growUp_144 rfl ki_1 ?_
      refine g_goto (q := 149) dX10_growUp_145 (by decide) ?_
      refine g_isubN (q := 150) dX10_growUp_149 rfl (by omega) ?_
      refine g_iast (f' := (nowF tw (updn wt b (fed (wt b) (fd (tw b)))) sk (updn gr b ((gr b) - 1)) ch yr)) 2 rfl (ixIn (j := 30 + b) rfl (by omega) (by decide)) ((ixU (j := 30 + b) rfl (by omega)).trans (nowF_wg _ (by omega))) (ws' := [_, _, (_, .inl (_, _, .inl _)), _]) rfl (q := 151) dX10_growUp_150 rfl ?_
      refine g_aload_n (q := 152) dX10_growUp_151 rfl rfl rfl ?_
      refine gf_X10_29 rfl 0 rfl rfl (q := 155) dX10_growUp_152 rfl ?_
      refine g_bipush (v := nI 20) (q := 157) dX10_growUp_155 rfl kb_20 ?_
      refine g_iload_n (q := 158) dX10_growUp_157 rfl rfl rfl ?_
      refine g_iaddN (q := 159) dX10_growUp_158 rfl ?_
      refine g_aload_n (q := 160) dX10_growUp_159 rfl rfl rfl ?_
      refine gf_X10_29 rfl 0 rfl rfl (q := 163) dX10_growUp_160 rfl ?_
      refine g_bipush (v := nI 30) (q := 165) dX10_growUp_163 rfl kb_30 ?_
      refine g_iload_n (q := 166) dX10_growUp_165 rfl rfl rfl ?_
      refine g_iaddN (q := 167) dX10_growUp_166 rfl ?_
      have hb11 := hgr (b) (by omega)
      refine g_iald (v := nI ((gr b) - 1)) 2 rfl (ixIn (j := 30 + b) rfl (by omega) (by decide)) (((ixV (j := 30 + b) rfl (by omega)).trans (nowF_g (by omega))).trans (congrArg nI updn_s)) (q := 168) dX10_growUp_167 rfl ?_
      refine g_if_neN (t := 182) (q := 171) dX10_growUp_168 (by decide) rfl (by omega) (fun c168 => ?_) (fun c168 => ?_)
      · skip
        refine g_aload_n (q := 183) dX10_growUp_182 rfl rfl rfl ?_
        refine gf_X10_29 rfl 0 rfl rfl (q := 186) dX10_growUp_183 rfl ?_
        refine g_bipush (v := nI 20) (q := 188) dX10_growUp_186 rfl kb_20 ?_
        refine g_iload_n (q := 189) dX10_growUp_188 rfl rfl rfl ?_
        refine g_iaddN (q := 190) dX10_growUp_189 rfl ?_
        have hb12 := hsk (b) (by omega)
        refine g_iald (v := nI (sk b)) 2 rfl (ixIn (j := 20 + b) rfl (by omega) (by decide)) ((ixV (j := 20 + b) rfl (by omega)).trans (nowF_s (by omega))) (q := 191) dX10_growUp_190 rfl ?_
        refine g_iast (f' := (nowF tw (updn wt b (fed (wt b) (fd (tw b)))) (updn sk b (sk b)) (updn gr b ((gr b) - 1)) ch yr)) 2 rfl (ixIn (j := 20 + b) rfl (by omega) (by decide)) ((ixU (j := 20 + b) rfl (by omega)).trans (nowF_ws _ (by omega))) (ws' := [_, _, (_, .inl (_, _, .inl _)), _]) rfl (q := 192) dX10_growUp_191 rfl ?_
        refine g_vret (st := []) dX10_growUp_192 rfl rfl ?_
        have e1 : trG (kd b) (sk b) (gr b) (cr (tw b)) = (gr b) - 1 := by
          unfold trG grwN
          rw [if_neg c55]
          try omega
        have e2 : updn sk b (trS (sk b) (gr b) (cr (tw b))) = updn sk b (sk b) := by rw [show trS (sk b) (gr b) (cr (tw b)) = (sk b) by unfold trS; rw [if_neg c55]; first | rw [if_pos (by omega)] | rw [if_neg (by omega)]]
        exact xv (by rw [e1, e2])
      · skip
        refine g_aload_n (q := 172) dX10_growUp_171 rfl rfl rfl ?_
        refine gf_X10_13 rfl 0 rfl rfl (q := 175) dX10_growUp_172 rfl ?_
        refine g_iconst (v := nI 5) (q := 176) dX10_growUp_175 rfl ki_5 ?_
        refine g_iload_n (q := 177) dX10_growUp_176 rfl rfl rfl ?_
        refine g_imulN (q := 178) dX10_growUp_177 rfl ?_
        have hb13 := hcr (tw b) (by omega)
        refine g_iald (v := nI (cr (tw b))) 3 rfl (ixIn (j := 5 * (tw b)) rfl (by omega) (by decide)) ((ixV (j := 5 * (tw b)) rfl (by omega)).trans (townF_0 (tw b))) (q := 179) dX10_growUp_178 rfl ?_
        refine g_goto (q := 191) dX10_growUp_179 (by decide) ?_
        refine g_iast (f' := (nowF tw (updn wt b (fed (wt b) (fd (tw b)))) (updn sk b (cr (tw b))) (updn gr b ((gr b) - 1)) ch yr)) 2 rfl (ixIn (j := 20 + b) rfl (by omega) (by decide)) ((ixU (j := 20 + b) rfl (by omega)).trans (nowF_ws _ (by omega))) (ws' := [_, _, (_, .inl (_, _, .inl _)), _]) rfl (q := 192) dX10_growUp_191 rfl ?_
        refine g_vret (st := []) dX10_growUp_192 rfl rfl ?_
        have e1 : trG (kd b) (sk b) (gr b) (cr (tw b)) = (gr b) - 1 := by
          unfold trG grwN
          rw [if_neg c55]
          try omega
        have e2 : updn sk b (trS (sk b) (gr b) (cr (tw b))) = updn sk b (cr (tw b)) := by rw [show trS (sk b) (gr b) (cr (tw b)) = (cr (tw b)) by unfold trS; rw [if_neg c55]; first | rw [if_pos (by omega)] | rw [if_neg (by omega)]]
        exact xv (by rw [e1, e2])
  · skip
    refine g_aload_n (q := 59) dX10_growUp_58 rfl rfl rfl ?_
    refine gf_X10_29 rfl 0 rfl rfl (q := 62) dX10_growUp_59 rfl ?_
    refine g_bipush (v := nI 30) (q := 64) dX10_growUp_62 rfl kb_30 ?_
    refine g_iload_n (q := 65) dX10_growUp_64 rfl rfl rfl ?_
    refine g_iaddN (q := 66) dX10_growUp_65 rfl ?_
    have hb14 := hgr (b) (by omega)
    refine g_iald (v := nI (gr b)) 2 rfl (ixIn (j := 30 + b) rfl (by omega) (by decide)) ((ixV (j := 30 + b) rfl (by omega)).trans (nowF_g (by omega))) (q := 67) dX10_growUp_66 rfl ?_
    refine g_aload_n (q := 68) dX10_growUp_67 rfl rfl rfl ?_
    refine gf_X10_17 rfl 0 rfl rfl (q := 71) dX10_growUp_68 rfl ?_
    refine g_iload_n (q := 72) dX10_growUp_71 rfl rfl rfl ?_
    have hb15 := hkd (b) (by omega)
    refine g_iald (v := nI (kd b)) 1 rfl (ixIn (j := b) rfl (by omega) (by decide)) (ixV (j := b) rfl (by omega)) (q := 73) dX10_growUp_72 rfl ?_
    refine g_iconst (v := nI 1) (q := 74) dX10_growUp_73 rfl ki_1 ?_
    refine g_icmp_neN (t := 81) (q := 77) dX10_growUp_74 (by decide) rfl (by omega) (by omega) (fun c74 => ?_) (fun c74 => ?_)
    · skip
      refine g_aload_n (q := 82) dX10_growUp_81 rfl rfl rfl ?_
      refine gf_X10_17 rfl 0 rfl rfl (q := 85) dX10_growUp_82 rfl ?_
      refine g_iload_n (q := 86) dX10_growUp_85 rfl rfl rfl ?_
      have hb16 := hkd (b) (by omega)
      refine g_iald (v := nI (kd b)) 1 rfl (ixIn (j := b) rfl (by omega) (by decide)) (ixV (j := b) rfl (by omega)) (q := 87) dX10_growUp_86 rfl ?_
      refine g_iconst (v := nI 3) (q := 88) dX10_growUp_87 rfl ki_3 ?_
      refine g_icmp_neN (t := 95) (q := 91) dX10_growUp_88 (by decide) rfl (by omega) (by omega) (fun c88 => ?_) (fun c88 => ?_)
      · skip
        refine g_iconst (v := nI 1) (q := 96) dX10_growUp_95 rfl ki_1 ?_
        refine g_iaddN (q := 97) dX10_growUp_96 rfl ?_
        refine g_istore_n (lv' := [(0, _), (1, _), (2, _), (3, _)]) (q := 98) dX10_growUp_97 rfl rfl (Nat.le_of_ble_eq_true rfl) rfl ?_
        refine g_aload_n (q := 99) dX10_growUp_98 rfl rfl rfl ?_
        refine gf_X10_29 rfl 0 rfl rfl (q := 102) dX10_growUp_99 rfl ?_
        refine g_bipush (v := nI 30) (q := 104) dX10_growUp_102 rfl kb_30 ?_
        refine g_iload_n (q := 105) dX10_growUp_104 rfl rfl rfl ?_
        refine g_iaddN (q := 106) dX10_growUp_105 rfl ?_
        refine g_iload_n (q := 107) dX10_growUp_106 rfl rfl rfl ?_
        refine g_bipush (v := nI 9) (q := 109) dX10_growUp_107 rfl kb_9 ?_
        refine g_icmp_leN (t := 117) (q := 112) dX10_growUp_109 (by decide) rfl (by omega) (by omega) (fun c109 => ?_) (fun c109 => ?_)
        · skip
          refine g_iload_n (q := 118) dX10_growUp_117 rfl rfl rfl ?_
          refine g_iast (f' := (nowF tw (updn wt b (fed (wt b) (fd (tw b)))) sk (updn gr b (gr b + 1)) ch yr)) 2 rfl (ixIn (j := 30 + b) rfl (by omega) (by decide)) ((ixU (j := 30 + b) rfl (by omega)).trans (nowF_wg _ (by omega))) (ws' := [_, _, (_, .inl (_, _, .inl _)), _]) rfl (q := 119) dX10_growUp_118 rfl ?_
          refine g_goto (q := 192) dX10_growUp_119 (by decide) ?_
          refine g_vret (st := []) dX10_growUp_192 rfl rfl ?_
          have e1 : trG (kd b) (sk b) (gr b) (cr (tw b)) = gr b + 1 := by
            unfold trG grwN
            rw [if_pos c55]
            (repeat' split) <;> omega
          have e2 : updn sk b (trS (sk b) (gr b) (cr (tw b))) = sk := by rw [show trS (sk b) (gr b) (cr (tw b)) = sk b by unfold trS; rw [if_pos c55], updn_id]
          exact xv (by rw [e1, e2])
        · skip
          refine g_bipush (v := nI 9) (q := 114) dX10_growUp_112 rfl kb_9 ?_
          refine g_goto (q := 118) dX10_growUp_114 (by decide) ?_
          refine g_iast (f' := (nowF tw (updn wt b (fed (wt b) (fd (tw b)))) sk (updn gr b 9) ch yr)) 2 rfl (ixIn (j := 30 + b) rfl (by omega) (by decide)) ((ixU (j := 30 + b) rfl (by omega)).trans (nowF_wg _ (by omega))) (ws' := [_, _, (_, .inl (_, _, .inl _)), _]) rfl (q := 119) dX10_growUp_118 rfl ?_
          refine g_goto (q := 192) dX10_growUp_119 (by decide) ?_
          refine g_vret (st := []) dX10_growUp_192 rfl rfl ?_
          have e1 : trG (kd b) (sk b) (gr b) (cr (tw b)) = 9 := by
            unfold trG grwN
            rw [if_pos c55]
            (repeat' split) <;> omega
          have e2 : updn sk b (trS (sk b) (gr b) (cr (tw b))) = sk := by rw [show trS (sk b) (gr b) (cr (tw b)) = sk b by unfold trS; rw [if_pos c55], updn_id]
          exact xv (by rw [e1, e2])
      · skip
        refine g_iconst (v := nI 2) (q := 92) dX10_growUp_91 rfl ki_2 ?_
        refine g_goto (q := 96) dX10_growUp_92 (by decide) ?_
        refine g_iaddN (q := 97) dX10_growUp_96 rfl ?_
        refine g_istore_n (lv' := [(0, _), (1, _), (2, _), (3, _)]) (q := 98) dX10_growUp_97 rfl rfl (Nat.le_of_ble_eq_true rfl) rfl ?_
        refine g_aload_n (q := 99) dX10_growUp_98 rfl rfl rfl ?_
        refine gf_X10_29 rfl 0 rfl rfl (q := 102) dX10_growUp_99 rfl ?_
        refine g_bipush (v := nI 30) (q := 104) dX10_growUp_102 rfl kb_30 ?_
        refine g_iload_n (q := 105) dX10_growUp_104 rfl rfl rfl ?_
        refine g_iaddN (q := 106) dX10_growUp_105 rfl ?_
        refine g_iload_n (q := 107) dX10_growUp_106 rfl rfl rfl ?_
        refine g_bipush (v := nI 9) (q := 109) dX10_growUp_107 rfl kb_9 ?_
        refine g_icmp_leN (t := 117) (q := 112) dX10_growUp_109 (by decide) rfl (by omega) (by omega) (fun c109 => ?_) (fun c109 => ?_)
        · skip
          refine g_iload_n (q := 118) dX10_growUp_117 rfl rfl rfl ?_
          refine g_iast (f' := (nowF tw (updn wt b (fed (wt b) (fd (tw b)))) sk (updn gr b (gr b + 2)) ch yr)) 2 rfl (ixIn (j := 30 + b) rfl (by omega) (by decide)) ((ixU (j := 30 + b) rfl (by omega)).trans (nowF_wg _ (by omega))) (ws' := [_, _, (_, .inl (_, _, .inl _)), _]) rfl (q := 119) dX10_growUp_118 rfl ?_
          refine g_goto (q := 192) dX10_growUp_119 (by decide) ?_
          refine g_vret (st := []) dX10_growUp_192 rfl rfl ?_
          have e1 : trG (kd b) (sk b) (gr b) (cr (tw b)) = gr b + 2 := by
            unfold trG grwN
            rw [if_pos c55]
            (repeat' split) <;> omega
          have e2 : updn sk b (trS (sk b) (gr b) (cr (tw b))) = sk := by rw [show trS (sk b) (gr b) (cr (tw b)) = sk b by unfold trS; rw [if_pos c55], updn_id]
          exact xv (by rw [e1, e2])
        · skip
          refine g_bipush (v := nI 9) (q := 114) dX10_growUp_112 rfl kb_9 ?_
          refine g_goto (q := 118) dX10_growUp_114 (by decide) ?_
          refine g_iast (f' := (nowF tw (updn wt b (fed (wt b) (fd (tw b)))) sk (updn gr b 9) ch yr)) 2 rfl (ixIn (j := 30 + b) rfl (by omega) (by decide)) ((ixU (j := 30 + b) rfl (by omega)).trans (nowF_wg _ (by omega))) (ws' := [_, _, (_, .inl (_, _, .inl _)), _]) rfl (q := 119) dX10_growUp_118 rfl ?_
          refine g_goto (q := 192) dX10_growUp_119 (by decide) ?_
          refine g_vret (st := []) dX10_growUp_192 rfl rfl ?_
          have e1 : trG (kd b) (sk b) (gr b) (cr (tw b)) = 9 := by
            unfold trG grwN
            rw [if_pos c55]
            (repeat' split) <;> omega
          have e2 : updn sk b (trS (sk b) (gr b) (cr (tw b))) = sk := by rw [show trS (sk b) (gr b) (cr (tw b)) = sk b by unfold trS; rw [if_pos c55], updn_id]
          exact xv (by rw [e1, e2])
    · skip
      refine g_iconst (v := nI 0) (q := 78) dX10_growUp_77 rfl ki_0 ?_
      refine g_goto (q := 96) dX10_growUp_78 (by decide) ?_
      refine g_iaddN (q := 97) dX10_growUp_96 rfl ?_
      refine g_istore_n (lv' := [(0, _), (1, _), (2, _), (3, _)]) (q := 98) dX10_growUp_97 rfl rfl (Nat.le_of_ble_eq_true rfl) rfl ?_
      refine g_aload_n (q := 99) dX10_growUp_98 rfl rfl rfl ?_
      refine gf_X10_29 rfl 0 rfl rfl (q := 102) dX10_growUp_99 rfl ?_
      refine g_bipush (v := nI 30) (q := 104) dX10_growUp_102 rfl kb_30 ?_
      refine g_iload_n (q := 105) dX10_growUp_104 rfl rfl rfl ?_
      refine g_iaddN (q := 106) dX10_growUp_105 rfl ?_
      refine g_iload_n (q := 107) dX10_growUp_106 rfl rfl rfl ?_
      refine g_bipush (v := nI 9) (q := 109) dX10_growUp_107 rfl kb_9 ?_
      refine g_icmp_leN (t := 117) (q := 112) dX10_growUp_109 (by decide) rfl (by omega) (by omega) (fun c109 => ?_) (fun c109 => ?_)
      · skip
        refine g_iload_n (q := 118) dX10_growUp_117 rfl rfl rfl ?_
        refine g_iast (f' := (nowF tw (updn wt b (fed (wt b) (fd (tw b)))) sk (updn gr b (gr b + 0)) ch yr)) 2 rfl (ixIn (j := 30 + b) rfl (by omega) (by decide)) ((ixU (j := 30 + b) rfl (by omega)).trans (nowF_wg _ (by omega))) (ws' := [_, _, (_, .inl (_, _, .inl _)), _]) rfl (q := 119) dX10_growUp_118 rfl ?_
        refine g_goto (q := 192) dX10_growUp_119 (by decide) ?_
        refine g_vret (st := []) dX10_growUp_192 rfl rfl ?_
        have e1 : trG (kd b) (sk b) (gr b) (cr (tw b)) = gr b + 0 := by
          unfold trG grwN
          rw [if_pos c55]
          (repeat' split) <;> omega
        have e2 : updn sk b (trS (sk b) (gr b) (cr (tw b))) = sk := by rw [show trS (sk b) (gr b) (cr (tw b)) = sk b by unfold trS; rw [if_pos c55], updn_id]
        exact xv (by rw [e1, e2])
      · skip
        refine g_bipush (v := nI 9) (q := 114) dX10_growUp_112 rfl kb_9 ?_
        refine g_goto (q := 118) dX10_growUp_114 (by decide) ?_
        refine g_iast (f' := (nowF tw (updn wt b (fed (wt b) (fd (tw b)))) sk (updn gr b 9) ch yr)) 2 rfl (ixIn (j := 30 + b) rfl (by omega) (by decide)) ((ixU (j := 30 + b) rfl (by omega)).trans (nowF_wg _ (by omega))) (ws' := [_, _, (_, .inl (_, _, .inl _)), _]) rfl (q := 119) dX10_growUp_118 rfl ?_
        refine g_goto (q := 192) dX10_growUp_119 (by decide) ?_
        refine g_vret (st := []) dX10_growUp_192 rfl rfl ?_
        have e1 : trG (kd b) (sk b) (gr b) (cr (tw b)) = 9 := by
          unfold trG grwN
          rw [if_pos c55]
          (repeat' split) <;> omega
        have e2 : updn sk b (trS (sk b) (gr b) (cr (tw b))) = sk := by rw [show trS (sk b) (gr b) (cr (tw b)) = sk b by unfold trS; rw [if_pos c55], updn_id]
        exact xv (by rw [e1, e2])
set_option maxHeartbeats 2000000 in
set_option maxRecDepth 20000 in
theorem c_goYear {E : EN} {m0 mt mk mb mx mr mn ma mi mj mg ms md mc me mh mo mw nt nb lw sl tl en sn dn : Nat} {po ta dg nu fa rm_ rto rbo ga : Int32} {tk : Int64} {kd tw wt sk gr : Nat → Nat} {ch : Nat → Int32} {yr : Nat} {cr rt fd nx : Nat → Nat} {wn : Nat → Int32} {g : Nat → Option Nat} (hP : okL ((nb, nt, lw), kd, cr, rt, fd, nx)) (hY : okY (tw, wt, sk, gr, ch)) (hB : okB nb nt (tw, wt, sk, gr, ch))  : CT E yX10_goYear cX10_goYear 3 (none) 4 [.ref m0] [(m0, .inr (10, (.int (nI (nt)) :: .ref mt :: .int (nI (nb)) :: .ref mk :: .ref mb :: .int (nI (lw)) :: .int (nI (sl)) :: .int (nI (tl)) :: .ref mx :: .int (po) :: .int (ta) :: .long (tk) :: .int (dg) :: .int (nu) :: .int (fa) :: .int (rm_) :: .int (rto) :: .int (rbo) :: .ref mr :: .ref mn :: .ref ma :: .ref mi :: .ref mj :: .int (nI (en)) :: .ref mg :: .int (nI (sn)) :: .ref ms :: .int (nI (dn)) :: .ref md :: .ref mc :: .ref me :: .int (ga) :: .ref mh :: .ref mo :: .ref mw :: []))), (mk, .inl (E.2.1.1, 10, .inl (nA (kd)))), (mn, .inl (E.2.1.1, 47, .inl (nowF tw wt sk gr ch yr))), (mt, .inl (E.2.1.1, 30, .inl (townF cr rt fd wn nx))), (mg, .inl (E.2.1.1, 10, .inl (oA (g))))] (xQ none [(m0, .inr (10, (.int (nI (nt)) :: .ref mt :: .int (nI (nb)) :: .ref mk :: .ref mb :: .int (nI (lw)) :: .int (nI (sl)) :: .int (nI (tl)) :: .ref mx :: .int (po) :: .int (ta) :: .long (tk) :: .int (dg) :: .int (nu) :: .int (fa) :: .int (rm_) :: .int (rto) :: .int (rbo) :: .ref mr :: .ref mn :: .ref ma :: .ref mi :: .ref mj :: .int (nI (0)) :: .ref mg :: .int (nI (sn)) :: .ref ms :: .int (nI (dn)) :: .ref md :: .ref mc :: .ref me :: .int (ga) :: .ref mh :: .ref mo :: .ref mw :: []))), (mk, .inl (E.2.1.1, 10, .inl (nA (kd)))), (mn, .inl (E.2.1.1, 47, .inl (nowF ((year1 ((nb, nt, lw), kd, cr, rt, fd, nx) (tw, wt, sk, gr, ch)).1) ((year1 ((nb, nt, lw), kd, cr, rt, fd, nx) (tw, wt, sk, gr, ch)).2.1) ((year1 ((nb, nt, lw), kd, cr, rt, fd, nx) (tw, wt, sk, gr, ch)).2.2.1) ((year1 ((nb, nt, lw), kd, cr, rt, fd, nx) (tw, wt, sk, gr, ch)).2.2.2.1) ((year1 ((nb, nt, lw), kd, cr, rt, fd, nx) (tw, wt, sk, gr, ch)).2.2.2.2) (yr + 1)))), (mt, .inl (E.2.1.1, 30, .inl (townF cr rt fd wn nx))), (mg, .inl (E.2.1.1, 10, .inl (oA (fun _ => none))))]) := by
  refine ct_of (by decide +kernel) (Nat.le_of_ble_eq_true rfl) (lv := [(0, .ref m0)]) rfl (fun A => ?_)
  have hP0 := hP
  obtain ⟨p1, p2, p3, p4, p5, p6, p7, p8⟩ := hP0
  dsimp only at p1 p2 p3 p4 p5 p6 p7 p8
  have hY0 := hY
  obtain ⟨y1, y2, y3, y4⟩ := hY0
  dsimp only at y1 y2 y3 y4
  have hB0 := hB
  obtain ⟨b1, b2⟩ := hB0
  dsimp only at b1 b2
  refine g_iconst (v := nI 0) (q := 1) dX10_goYear_0 rfl ki_0 ?_
  refine g_istore_n (lv' := [(0, _), (1, _)]) (q := 2) dX10_goYear_1 rfl rfl (Nat.le_of_ble_eq_true rfl) rfl ?_
  refine g_eq (ws' := [(m0, .inr (10, (.int (nI (nt)) :: .ref mt :: .int (nI (nb)) :: .ref mk :: .ref mb :: .int (nI (lw)) :: .int (nI (sl)) :: .int (nI (tl)) :: .ref mx :: .int (po) :: .int (ta) :: .long (tk) :: .int (dg) :: .int (nu) :: .int (fa) :: .int (rm_) :: .int (rto) :: .int (rbo) :: .ref mr :: .ref mn :: .ref ma :: .ref mi :: .ref mj :: .int (nI (en)) :: .ref mg :: .int (nI (sn)) :: .ref ms :: .int (nI (dn)) :: .ref md :: .ref mc :: .ref me :: .int (ga) :: .ref mh :: .ref mo :: .ref mw :: []))), (mk, .inl (E.2.1.1, 10, .inl (nA (kd)))), (mn, .inl (E.2.1.1, 47, .inl (nowF tw (mpN (fun b => fed (wt b) (fd (tw b))) wt 0) (mpN (fun b => trS (sk b) (gr b) (cr (tw b))) sk 0) (mpN (fun b => trG (kd b) (sk b) (gr b) (cr (tw b))) gr 0) ch yr))), (mt, .inl (E.2.1.1, 30, .inl (townF cr rt fd wn nx))), (mg, .inl (E.2.1.1, 10, .inl (oA (g))))]) ?_ (by simp only [mpN_0]) rfl rfl
  refine g_loop (nb) (fun b => [(m0, .inr (10, (.int (nI (nt)) :: .ref mt :: .int (nI (nb)) :: .ref mk :: .ref mb :: .int (nI (lw)) :: .int (nI (sl)) :: .int (nI (tl)) :: .ref mx :: .int (po) :: .int (ta) :: .long (tk) :: .int (dg) :: .int (nu) :: .int (fa) :: .int (rm_) :: .int (rto) :: .int (rbo) :: .ref mr :: .ref mn :: .ref ma :: .ref mi :: .ref mj :: .int (nI (en)) :: .ref mg :: .int (nI (sn)) :: .ref ms :: .int (nI (dn)) :: .ref md :: .ref mc :: .ref me :: .int (ga) :: .ref mh :: .ref mo :: .ref mw :: []))), (mk, .inl (E.2.1.1, 10, .inl (nA (kd)))), (mn, .inl (E.2.1.1, 47, .inl (nowF tw (mpN (fun b => fed (wt b) (fd (tw b))) wt b) (mpN (fun b => trS (sk b) (gr b) (cr (tw b))) sk b) (mpN (fun b => trG (kd b) (sk b) (gr b) (cr (tw b))) gr b) ch yr))), (mt, .inl (E.2.1.1, 30, .inl (townF cr rt fd wn nx))), (mg, .inl (E.2.1.1, 10, .inl (oA (g))))]) (fun b => [(0, .ref m0), (1, .int (nI (b)))]) ?_ ?_ 0 (Nat.zero_le _)
  · intro b hb2 ih2
    show G E _ [(m0, .inr (10, (.int (nI (nt)) :: .ref mt :: .int (nI (nb)) :: .ref mk :: .ref mb :: .int (nI (lw)) :: .int (nI (sl)) :: .int (nI (tl)) :: .ref mx :: .int (po) :: .int (ta) :: .long (tk) :: .int (dg) :: .int (nu) :: .int (fa) :: .int (rm_) :: .int (rto) :: .int (rbo) :: .ref mr :: .ref mn :: .ref ma :: .ref mi :: .ref mj :: .int (nI (en)) :: .ref mg :: .int (nI (sn)) :: .ref ms :: .int (nI (dn)) :: .ref md :: .ref mc :: .ref me :: .int (ga) :: .ref mh :: .ref mo :: .ref mw :: []))), (mk, .inl (E.2.1.1, 10, .inl (nA (kd)))), (mn, .inl (E.2.1.1, 47, .inl (nowF tw (mpN (fun b => fed (wt b) (fd (tw b))) wt b) (mpN (fun b => trS (sk b) (gr b) (cr (tw b))) sk b) (mpN (fun b => trG (kd b) (sk b) (gr b) (cr (tw b))) gr b) ch yr))), (mt, .inl (E.2.1.1, 30, .inl (townF cr rt fd wn nx))), (mg, .inl (E.2.1.1, 10, .inl (oA (g))))] 2 [(0, .ref m0), (1, .int (nI (b)))] []
    refine g_iload_n (q := 3) dX10_goYear_2 rfl rfl rfl ?_
    refine g_aload_n (q := 4) dX10_goYear_3 rfl rfl rfl ?_
    refine gf_X10_77 rfl 0 rfl rfl (q := 7) dX10_goYear_4 rfl ?_
    refine g_icmp_geN (t := 21) (q := 10) dX10_goYear_7 (by decide) rfl (by omega) (by omega) (fun c7 => ?_) (fun c7 => ?_)
    · omega
    · skip
      refine g_aload_n (q := 11) dX10_goYear_10 rfl rfl rfl ?_
      refine g_iload_n (q := 12) dX10_goYear_11 rfl rfl rfl ?_
      refine gc_X10_244 (c_growUp (by omega) (by rw [mpN_at]; exact b2 b hb2) p5 p7 p4 y1 (mpN_bd (fun j hj => Nat.lt_succ_of_le (fed_in _ _).2) y2) (mpN_bd (fun j hj => trS_lt (y3 j hj) (p5 _ (y1 j hj))) y3) (mpN_bd (fun j hj => trG_lt (y4 j hj)) y4)) rfl (Nat.le_of_ble_eq_true rfl) rfl 0 rfl [0, 1, 2, 3] rfl rfl (rest := []) rfl (Nat.le_of_ble_eq_true rfl) (q := 15) dX10_goYear_12 rfl (exK (ws' := [(_, .inr (_, (_ :: _ :: _ :: _ :: _ :: _ :: _ :: _ :: _ :: _ :: _ :: _ :: _ :: _ :: _ :: _ :: _ :: _ :: _ :: _ :: _ :: _ :: _ :: _ :: _ :: _ :: _ :: _ :: _ :: _ :: _ :: _ :: _ :: _ :: _ :: []))), (_, .inl (_, _, .inl _)), (_, .inl (_, _, .inl _)), (_, .inl (_, _, .inl _)), _]) (st' := []) rfl rfl ?_)
      refine g_iinc (lv' := [(0, _), (1, _)]) (v := nI (b + 1)) (q := 18) dX10_goYear_15 rfl rfl (nI_inc _) (Nat.le_of_ble_eq_true rfl) rfl ?_
      refine g_goto (q := 2) dX10_goYear_18 (by decide) ?_
      simp only [mpN_s] at ih2
      simp only [mpN_at]
      exact ih2
  · skip
    show G E _ [(m0, .inr (10, (.int (nI (nt)) :: .ref mt :: .int (nI (nb)) :: .ref mk :: .ref mb :: .int (nI (lw)) :: .int (nI (sl)) :: .int (nI (tl)) :: .ref mx :: .int (po) :: .int (ta) :: .long (tk) :: .int (dg) :: .int (nu) :: .int (fa) :: .int (rm_) :: .int (rto) :: .int (rbo) :: .ref mr :: .ref mn :: .ref ma :: .ref mi :: .ref mj :: .int (nI (en)) :: .ref mg :: .int (nI (sn)) :: .ref ms :: .int (nI (dn)) :: .ref md :: .ref mc :: .ref me :: .int (ga) :: .ref mh :: .ref mo :: .ref mw :: []))), (mk, .inl (E.2.1.1, 10, .inl (nA (kd)))), (mn, .inl (E.2.1.1, 47, .inl (nowF tw (mpN (fun b => fed (wt b) (fd (tw b))) wt nb) (mpN (fun b => trS (sk b) (gr b) (cr (tw b))) sk nb) (mpN (fun b => trG (kd b) (sk b) (gr b) (cr (tw b))) gr nb) ch yr))), (mt, .inl (E.2.1.1, 30, .inl (townF cr rt fd wn nx))), (mg, .inl (E.2.1.1, 10, .inl (oA (g))))] 2 [(0, .ref m0), (1, .int (nI (nb)))] []
    refine g_iload_n (q := 3) dX10_goYear_2 rfl rfl rfl ?_
    refine g_aload_n (q := 4) dX10_goYear_3 rfl rfl rfl ?_
    refine gf_X10_77 rfl 0 rfl rfl (q := 7) dX10_goYear_4 rfl ?_
    refine g_icmp_geN (t := 21) (q := 10) dX10_goYear_7 (by decide) rfl (by omega) (by omega) (fun c7 => ?_) (fun c7 => ?_)
    · skip
      refine g_aload_n (q := 22) dX10_goYear_21 rfl rfl rfl ?_
      refine gc_X10_89 (c_goNowhere) rfl (Nat.le_of_ble_eq_true rfl) rfl 0 rfl [0, 4] rfl rfl (rest := []) rfl (Nat.le_of_ble_eq_true rfl) (q := 25) dX10_goYear_22 rfl (exK (ws' := [(_, .inr (_, (_ :: _ :: _ :: _ :: _ :: _ :: _ :: _ :: _ :: _ :: _ :: _ :: _ :: _ :: _ :: _ :: _ :: _ :: _ :: _ :: _ :: _ :: _ :: _ :: _ :: _ :: _ :: _ :: _ :: _ :: _ :: _ :: _ :: _ :: _ :: []))), _, _, _, (_, .inl (_, _, .inl _))]) (st' := []) rfl rfl ?_)
      refine g_iconst (v := nI 0) (q := 26) dX10_goYear_25 rfl ki_0 ?_
      refine g_istore_n (lv' := [(0, _), (1, _)]) (q := 27) dX10_goYear_26 rfl rfl (Nat.le_of_ble_eq_true rfl) rfl ?_
      refine g_loop (nt) (fun i => [(m0, .inr (10, (.int (nI (nt)) :: .ref mt :: .int (nI (nb)) :: .ref mk :: .ref mb :: .int (nI (lw)) :: .int (nI (sl)) :: .int (nI (tl)) :: .ref mx :: .int (po) :: .int (ta) :: .long (tk) :: .int (dg) :: .int (nu) :: .int (fa) :: .int (rm_) :: .int (rto) :: .int (rbo) :: .ref mr :: .ref mn :: .ref ma :: .ref mi :: .ref mj :: .int (nI (0)) :: .ref mg :: .int (nI (sn)) :: .ref ms :: .int (nI (dn)) :: .ref md :: .ref mc :: .ref me :: .int (ga) :: .ref mh :: .ref mo :: .ref mw :: []))), (mk, .inl (E.2.1.1, 10, .inl (nA (kd)))), (mn, .inl (E.2.1.1, 47, .inl (nowF tw (mpN (fun b => fed (wt b) (fd (tw b))) wt nb) (mpN (fun b => trS (sk b) (gr b) (cr (tw b))) sk nb) (mpN (fun b => trG (kd b) (sk b) (gr b) (cr (tw b))) gr nb) ch yr))), (mt, .inl (E.2.1.1, 30, .inl (townF cr rt fd wn nx))), (mg, .inl (E.2.1.1, 10, .inl (oA (gsT (fun t => snt lw kd tw (mpN (fun b => fed (wt b) (fd (tw b))) wt nb) (mpN (fun b => trG (kd b) (sk b) (gr b) (cr (tw b))) gr nb) nb t) nx i))))]) (fun i => [(0, .ref m0), (1, .int (nI (i)))]) ?_ ?_ 0 (Nat.zero_le _)
      · intro i hi27 ih27
        show G E _ [(m0, .inr (10, (.int (nI (nt)) :: .ref mt :: .int (nI (nb)) :: .ref mk :: .ref mb :: .int (nI (lw)) :: .int (nI (sl)) :: .int (nI (tl)) :: .ref mx :: .int (po) :: .int (ta) :: .long (tk) :: .int (dg) :: .int (nu) :: .int (fa) :: .int (rm_) :: .int (rto) :: .int (rbo) :: .ref mr :: .ref mn :: .ref ma :: .ref mi :: .ref mj :: .int (nI (0)) :: .ref mg :: .int (nI (sn)) :: .ref ms :: .int (nI (dn)) :: .ref md :: .ref mc :: .ref me :: .int (ga) :: .ref mh :: .ref mo :: .ref mw :: []))), (mk, .inl (E.2.1.1, 10, .inl (nA (kd)))), (mn, .inl (E.2.1.1, 47, .inl (nowF tw (mpN (fun b => fed (wt b) (fd (tw b))) wt nb) (mpN (fun b => trS (sk b) (gr b) (cr (tw b))) sk nb) (mpN (fun b => trG (kd b) (sk b) (gr b) (cr (tw b))) gr nb) ch yr))), (mt, .inl (E.2.1.1, 30, .inl (townF cr rt fd wn nx))), (mg, .inl (E.2.1.1, 10, .inl (oA (gsT (fun t => snt lw kd tw (mpN (fun b => fed (wt b) (fd (tw b))) wt nb) (mpN (fun b => trG (kd b) (sk b) (gr b) (cr (tw b))) gr nb) nb t) nx i))))] 27 [(0, .ref m0), (1, .int (nI (i)))] []
        refine g_iload_n (q := 28) dX10_goYear_27 rfl rfl rfl ?_
        refine g_aload_n (q := 29) dX10_goYear_28 rfl rfl rfl ?_
        refine gf_X10_7 rfl 0 rfl rfl (q := 32) dX10_goYear_29 rfl ?_
        refine g_icmp_geN (t := 68) (q := 35) dX10_goYear_32 (by decide) rfl (by omega) (by omega) (fun c32 => ?_) (fun c32 => ?_)
        · omega
        · skip
          refine g_aload_n (q := 36) dX10_goYear_35 rfl rfl rfl ?_
          refine g_iload_n (q := 37) dX10_goYear_36 rfl rfl rfl ?_
          refine gc_X10_247 (c_sent (by omega) p3 p1 p4 y1 (mpN_bd (fun j hj => Nat.lt_succ_of_le (fed_in _ _).2) y2) (mpN_bd (fun j hj => trG_lt (y4 j hj)) y4)) rfl (Nat.le_of_ble_eq_true rfl) rfl 0 rfl [0, 1, 2] rfl rfl (rest := []) rfl (Nat.le_of_ble_eq_true rfl) (q := 40) dX10_goYear_37 rfl (exK (ws' := [_, _, _, _, _]) (st' := [.int (oI (snt lw kd tw (mpN (fun b => fed (wt b) (fd (tw b))) wt nb) (mpN (fun b => trG (kd b) (sk b) (gr b) (cr (tw b))) gr nb) nb i))]) rfl rfl ?_)
          rcases hS : snt lw kd tw (mpN (fun b => fed (wt b) (fd (tw b))) wt nb) (mpN (fun b => trG (kd b) (sk b) (gr b) (cr (tw b))) gr nb) nb i with _ | b
          · skip
            refine g_top (y := (-1)) rfl ?_
            refine g_istore_n (lv' := [(0, _), (1, _), (2, _)]) (q := 41) dX10_goYear_40 rfl rfl (Nat.le_of_ble_eq_true rfl) rfl ?_
            refine g_iload_n (q := 42) dX10_goYear_41 rfl rfl rfl ?_
            refine g_iconst (v := (-1)) (q := 43) dX10_goYear_42 rfl ki_m1 ?_
            refine g_icmp_eq (t := 62) (q := 46) dX10_goYear_43 (by decide) rfl (fun c43 => ?_) (fun c43 => ?_)
            · skip
              refine g_iinc (lv' := [(0, _), (1, _), (2, _)]) (v := nI (i + 1)) (q := 65) dX10_goYear_62 rfl rfl (nI_inc _) (Nat.le_of_ble_eq_true rfl) rfl ?_
              refine g_goto (q := 27) dX10_goYear_65 (by decide) ?_
              refine g_less (lv' := [(0, _), (1, _)]) 2 rfl ?_
              simp only [gsT, hS] at ih27
              exact ih27
            · exact absurd (by decide) c43
          · have hsb := snt_ok hS
            have hx1 := p8 i hi27
            refine g_top (y := nI (b)) rfl ?_
            refine g_istore_n (lv' := [(0, _), (1, _), (2, _)]) (q := 41) dX10_goYear_40 rfl rfl (Nat.le_of_ble_eq_true rfl) rfl ?_
            refine g_iload_n (q := 42) dX10_goYear_41 rfl rfl rfl ?_
            refine g_iconst (v := (-1)) (q := 43) dX10_goYear_42 rfl ki_m1 ?_
            refine g_icmp_eq (t := 62) (q := 46) dX10_goYear_43 (by decide) rfl (fun c43 => ?_) (fun c43 => ?_)
            · exact absurd c43 (nI_m1 (by omega))
            · skip
              refine g_aload_n (q := 47) dX10_goYear_46 rfl rfl rfl ?_
              refine gf_X10_42 rfl 0 rfl rfl (q := 50) dX10_goYear_47 rfl ?_
              refine g_iload_n (q := 51) dX10_goYear_50 rfl rfl rfl ?_
              refine g_aload_n (q := 52) dX10_goYear_51 rfl rfl rfl ?_
              refine gf_X10_13 rfl 0 rfl rfl (q := 55) dX10_goYear_52 rfl ?_
              refine g_iconst (v := nI 5) (q := 56) dX10_goYear_55 rfl ki_5 ?_
              refine g_iload_n (q := 57) dX10_goYear_56 rfl rfl rfl ?_
              refine g_imulN (q := 58) dX10_goYear_57 rfl ?_
              refine g_iconst (v := nI 4) (q := 59) dX10_goYear_58 rfl ki_4 ?_
              refine g_iaddN (q := 60) dX10_goYear_59 rfl ?_
              refine g_iald (v := nI (nx i)) 3 rfl (ixIn (j := 5 * i + 4) rfl (by omega) (by decide)) ((ixV (j := 5 * i + 4) rfl (by omega)).trans (townF_4 i)) (q := 61) dX10_goYear_60 rfl ?_
              refine g_iast (f' := (oA (updO (gsT (fun t => snt lw kd tw (mpN (fun b => fed (wt b) (fd (tw b))) wt nb) (mpN (fun b => trG (kd b) (sk b) (gr b) (cr (tw b))) gr nb) nb t) nx i) b (some (nx i))))) 4 rfl (ixIn (j := b) rfl (by omega) (by decide)) ((ixU (j := b) rfl (by omega)).trans (upd_oA _ _ _)) (ws' := [_, _, _, _, (_, .inl (_, _, .inl _))]) rfl (q := 62) dX10_goYear_61 rfl ?_
              refine g_iinc (lv' := [(0, _), (1, _), (2, _)]) (v := nI (i + 1)) (q := 65) dX10_goYear_62 rfl rfl (nI_inc _) (Nat.le_of_ble_eq_true rfl) rfl ?_
              refine g_goto (q := 27) dX10_goYear_65 (by decide) ?_
              refine g_less (lv' := [(0, _), (1, _)]) 2 rfl ?_
              simp only [gsT, hS] at ih27
              exact ih27
      · skip
        show G E _ [(m0, .inr (10, (.int (nI (nt)) :: .ref mt :: .int (nI (nb)) :: .ref mk :: .ref mb :: .int (nI (lw)) :: .int (nI (sl)) :: .int (nI (tl)) :: .ref mx :: .int (po) :: .int (ta) :: .long (tk) :: .int (dg) :: .int (nu) :: .int (fa) :: .int (rm_) :: .int (rto) :: .int (rbo) :: .ref mr :: .ref mn :: .ref ma :: .ref mi :: .ref mj :: .int (nI (0)) :: .ref mg :: .int (nI (sn)) :: .ref ms :: .int (nI (dn)) :: .ref md :: .ref mc :: .ref me :: .int (ga) :: .ref mh :: .ref mo :: .ref mw :: []))), (mk, .inl (E.2.1.1, 10, .inl (nA (kd)))), (mn, .inl (E.2.1.1, 47, .inl (nowF tw (mpN (fun b => fed (wt b) (fd (tw b))) wt nb) (mpN (fun b => trS (sk b) (gr b) (cr (tw b))) sk nb) (mpN (fun b => trG (kd b) (sk b) (gr b) (cr (tw b))) gr nb) ch yr))), (mt, .inl (E.2.1.1, 30, .inl (townF cr rt fd wn nx))), (mg, .inl (E.2.1.1, 10, .inl (oA (gsT (fun t => snt lw kd tw (mpN (fun b => fed (wt b) (fd (tw b))) wt nb) (mpN (fun b => trG (kd b) (sk b) (gr b) (cr (tw b))) gr nb) nb t) nx nt))))] 27 [(0, .ref m0), (1, .int (nI (nt)))] []
        refine g_iload_n (q := 28) dX10_goYear_27 rfl rfl rfl ?_
        refine g_aload_n (q := 29) dX10_goYear_28 rfl rfl rfl ?_
        refine gf_X10_7 rfl 0 rfl rfl (q := 32) dX10_goYear_29 rfl ?_
        refine g_icmp_geN (t := 68) (q := 35) dX10_goYear_32 (by decide) rfl (by omega) (by omega) (fun c32 => ?_) (fun c32 => ?_)
        · skip
          refine g_aload_n (q := 69) dX10_goYear_68 rfl rfl rfl ?_
          refine gc_X10_225 (c_goAll p1 p2 (fun b o h => gsT_lt (fun t ht => Nat.lt_of_lt_of_le (p8 t ht) p2) nt (Nat.le_refl _) b o h) p4 y1 (mpN_bd (fun j hj => Nat.lt_succ_of_le (fed_in _ _).2) y2) p6) rfl (Nat.le_of_ble_eq_true rfl) rfl 0 rfl [0, 1, 2, 3, 4] rfl rfl (rest := []) rfl (Nat.le_of_ble_eq_true rfl) (q := 72) dX10_goYear_69 rfl (exK (ws' := [(_, .inr (_, (_ :: _ :: _ :: _ :: _ :: _ :: _ :: _ :: _ :: _ :: _ :: _ :: _ :: _ :: _ :: _ :: _ :: _ :: _ :: _ :: _ :: _ :: _ :: _ :: _ :: _ :: _ :: _ :: _ :: _ :: _ :: _ :: _ :: _ :: _ :: []))), (_, .inl (_, _, .inl _)), (_, .inl (_, _, .inl _)), (_, .inl (_, _, .inl _)), (_, .inl (_, _, .inl _))]) (st' := []) rfl rfl ?_)
          refine g_aload_n (q := 73) dX10_goYear_72 rfl rfl rfl ?_
          refine gf_X10_29 rfl 0 rfl rfl (q := 76) dX10_goYear_73 rfl ?_
          refine g_bipush (v := nI 46) (q := 78) dX10_goYear_76 rfl kb_46 ?_
          refine g_dup2 (q := 79) dX10_goYear_78 rfl rfl rfl ?_
          refine g_iald (v := nI (yr)) 2 rfl (ixIn (j := 46) rfl (by omega) (by decide)) ((ixV (j := 46) rfl (by omega)).trans nowF_y) (q := 80) dX10_goYear_79 rfl ?_
          refine g_iconst (v := nI 1) (q := 81) dX10_goYear_80 rfl ki_1 ?_
          refine g_iaddN (q := 82) dX10_goYear_81 rfl ?_
          refine g_iast (f' := (nowF (mpN (twO (gsT (fun t => snt lw kd tw (mpN (fun b => fed (wt b) (fd (tw b))) wt nb) (mpN (fun b => trG (kd b) (sk b) (gr b) (cr (tw b))) gr nb) nb t) nx nt) tw) tw nb) (mpN (fun b => fed (wt b) (fd (tw b))) wt nb) (mpN (fun b => trS (sk b) (gr b) (cr (tw b))) sk nb) (mpN (fun b => trG (kd b) (sk b) (gr b) (cr (tw b))) gr nb) (chD ch (fun t => balM (gsT (fun t => snt lw kd tw (mpN (fun b => fed (wt b) (fd (tw b))) wt nb) (mpN (fun b => trG (kd b) (sk b) (gr b) (cr (tw b))) gr nb) nb t) nx nt) kd tw (mpN (fun b => fed (wt b) (fd (tw b))) wt nb) rt t nb) nt) (yr + 1))) 2 rfl (ixIn (j := 46) rfl (by omega) (by decide)) ((ixU (j := 46) rfl (by omega)).trans (nowF_wy _)) (ws' := [_, _, (_, .inl (_, _, .inl _)), _, _]) rfl (q := 83) dX10_goYear_82 rfl ?_
          refine g_vret (st := []) dX10_goYear_83 rfl rfl ?_
          have e1 := lent_yT (nb := nb) (nt := nt) (lw := lw) (kd := kd) (cr := cr) (rt := rt) (fd := fd) (nx := nx) (tw := tw) (wt := wt) (sk := sk) (gr := gr) (ch := ch)
          have e2 := lent_yC (nb := nb) (nt := nt) (lw := lw) (kd := kd) (cr := cr) (rt := rt) (fd := fd) (nx := nx) (tw := tw) (wt := wt) (sk := sk) (gr := gr) (ch := ch) p8
          simp only [yW, yG] at e1 e2
          simp only [year1, yW, yS, yG]
          rw [← e1, ← e2]
          exact xv
        · omega
    · omega
