theorem rdk_of {tx : Nat → Nat} {tl k nt nb e s w : Nat} {rd rd' : Nat → Int32} {x : LN × Nat} (h : lineK tx tl k nt nb e s = .inr x) (h2 : RdL (upd rd w (nI k)) rd' w x.1.2) : RdK rd rd' w x.1 := by
  have e : x.1.1 = k := by
    unfold lineK at h
    split at h
    · cases h
    · cases hr : nums tx tl (bd k nt) e s with
      | inl z => rw [hr] at h; cases h
      | inr y =>
        rw [hr] at h
        simp only at h
        split at h
        · cases h
        · cases h; rfl
  have h3 := rdk h2
  rw [← e] at h3
  exact h3
set_option maxHeartbeats 2000000 in
set_option maxRecDepth 20000 in
theorem c_isLine {E : EN} {m0 mt mk mb mx mr mn ma mi mj mg ms md mc me mh mo mw nt nb lw sl tl en sn dn : Nat} {ta dg nu fa rm_ ga : Int32} {tk : Int64} {tx : Nat → Nat} {e wi rtn rbn : Nat} {rd : Nat → Int32} (he : e ≤ tl) (hw : wi + 4 < 50) (hr1 : 2 ≤ rtn) (hr2 : rtn ≤ 6) (hrb : rbn ≤ 10) (hl : tl ≤ 200) (htx : ∀ j, j < tl → tx j < 256)  : CT E yX10_isLine cX10_isLine 4 (some .boolean) 6 [.ref m0, .int (nI (wi))] [(m0, .inr (10, (.int (nI (nt)) :: .ref mt :: .int (nI (nb)) :: .ref mk :: .ref mb :: .int (nI (lw)) :: .int (nI (sl)) :: .int (nI (tl)) :: .ref mx :: .int (nI (e)) :: .int (ta) :: .long (tk) :: .int (dg) :: .int (nu) :: .int (fa) :: .int (rm_) :: .int (nI (rtn)) :: .int (nI (rbn)) :: .ref mr :: .ref mn :: .ref ma :: .ref mi :: .ref mj :: .int (nI (en)) :: .ref mg :: .int (nI (sn)) :: .ref ms :: .int (nI (dn)) :: .ref md :: .ref mc :: .ref me :: .int (ga) :: .ref mh :: .ref mo :: .ref mw :: []))), (mx, .inl (E.2.1.1, 200, .inl (nA (tx)))), (mr, .inl (E.2.1.1, 50, .inl (rd)))] (fun r w => (∃ (z : (LN × Nat) × (Int32 × Int64 × Int32 × Int32) × (Nat → Int32)), (lineP tx tl rtn rbn e = .inr z.1 ∧ RdK rd z.2.2 wi z.1.1) ∧ xQ (some (.int (nI 1))) [(m0, .inr (10, (.int (nI (nt)) :: .ref mt :: .int (nI (nb)) :: .ref mk :: .ref mb :: .int (nI (lw)) :: .int (nI (sl)) :: .int (nI (tl)) :: .ref mx :: .int (nI (z.1.2)) :: .int (z.2.1.1) :: .long (z.2.1.2.1) :: .int (z.2.1.2.2.1) :: .int (z.2.1.2.2.2) :: .int (fa) :: .int (rm_) :: .int (nI (rT rtn z.1.1)) :: .int (nI (rB rbn z.1.1)) :: .ref mr :: .ref mn :: .ref ma :: .ref mi :: .ref mj :: .int (nI (en)) :: .ref mg :: .int (nI (sn)) :: .ref ms :: .int (nI (dn)) :: .ref md :: .ref mc :: .ref me :: .int (ga) :: .ref mh :: .ref mo :: .ref mw :: []))), (mx, .inl (E.2.1.1, 200, .inl (nA (tx)))), (mr, .inl (E.2.1.1, 50, .inl (z.2.2)))] r w) ∨ ∃ (z : Nat × (Int32 × Int32 × Int64 × Int32 × Int32 × Int32) × (Nat → Int32)), lineP tx tl rtn rbn e = .inl z.1 ∧ xQ (some (.int (nI 0))) [(m0, .inr (10, (.int (nI (nt)) :: .ref mt :: .int (nI (nb)) :: .ref mk :: .ref mb :: .int (nI (lw)) :: .int (nI (sl)) :: .int (nI (tl)) :: .ref mx :: .int (z.2.1.1) :: .int (z.2.1.2.1) :: .long (z.2.1.2.2.1) :: .int (z.2.1.2.2.2.1) :: .int (z.2.1.2.2.2.2.1) :: .int (nI (z.1)) :: .int (rm_) :: .int (nI (rtn)) :: .int (z.2.1.2.2.2.2.2) :: .ref mr :: .ref mn :: .ref ma :: .ref mi :: .ref mj :: .int (nI (en)) :: .ref mg :: .int (nI (sn)) :: .ref ms :: .int (nI (dn)) :: .ref md :: .ref mc :: .ref me :: .int (ga) :: .ref mh :: .ref mo :: .ref mw :: []))), (mx, .inl (E.2.1.1, 200, .inl (nA (tx)))), (mr, .inl (E.2.1.1, 50, .inl (z.2.2)))] r w) := by
  refine ct_of (by decide +kernel) (Nat.le_of_ble_eq_true rfl) (lv := [(0, .ref m0), (1, .int (nI (wi)))]) rfl (fun A => ?_)
  refine g_aload_n (q := 1) dX10_isLine_0 rfl rfl rfl ?_
  refine gc_X10_128 (c_nextToken he hl htx) rfl (Nat.le_of_ble_eq_true rfl) rfl 0 rfl [0, 1] rfl rfl (rest := []) rfl (Nat.le_of_ble_eq_true rfl) (q := 4) dX10_isLine_1 rfl (exK (ws' := [(_, .inr (_, (_ :: _ :: _ :: _ :: _ :: _ :: _ :: _ :: _ :: _ :: _ :: _ :: _ :: _ :: _ :: _ :: _ :: _ :: _ :: _ :: _ :: _ :: _ :: _ :: _ :: _ :: _ :: _ :: _ :: _ :: _ :: _ :: _ :: _ :: _ :: []))), (_, .inl (_, _, .inl _)), _]) (st' := []) rfl rfl ?_)
  have hsl := tsk_le (tx := tx) he
  have he0 := nt_le (tx := tx) he
  rcases wd_cases (tokV tx tl (tsk tx tl e)) with hv | hv | hv | hv | hv | hv | hv | hv | hv | hv | hv | hv | hv | hv | ⟨hk, a0, a1, a2, a3, a4, a5, a6, a7, a8, a9, a10, a11, a12, a13⟩
  · have hk : wdM (tokV tx tl (tsk tx tl e)) = some 0 := by rw [hv]; decide +kernel
    refine g_eq (ws' := [(m0, .inr (10, (.int (nI (nt)) :: .ref mt :: .int (nI (nb)) :: .ref mk :: .ref mb :: .int (nI (lw)) :: .int (nI (sl)) :: .int (nI (tl)) :: .ref mx :: .int (nI (ten tx tl (tsk tx tl e))) :: .int (nI (tsk tx tl e)) :: .long ((8740238 : Int64)) :: .int (nI (digV tx tl (tsk tx tl e))) :: .int (nI (numV tx tl (tsk tx tl e))) :: .int (fa) :: .int (rm_) :: .int (nI (rtn)) :: .int (nI (rbn)) :: .ref mr :: .ref mn :: .ref ma :: .ref mi :: .ref mj :: .int (nI (en)) :: .ref mg :: .int (nI (sn)) :: .ref ms :: .int (nI (dn)) :: .ref md :: .ref mc :: .ref me :: .int (ga) :: .ref mh :: .ref mo :: .ref mw :: []))), (mx, .inl (E.2.1.1, 200, .inl (nA (tx)))), (mr, .inl (E.2.1.1, 50, .inl (rd)))]) ?_ (by rw [hv]) rfl rfl
    refine g_aload_n (q := 5) dX10_isLine_4 rfl rfl rfl ?_
    refine gf_X10_111 rfl 0 rfl rfl (q := 8) dX10_isLine_5 rfl ?_
    refine g_ldc2 (v := 8740238) rfl mkX10_148 (q := 11) dX10_isLine_8 rfl ?_
    refine g_lcmp (q := 12) dX10_isLine_11 rfl ?_
    refine g_if_ne (t := 19) (q := 15) dX10_isLine_12 (by decide) rfl (fun c12 => absurd (by decide +kernel) c12) (fun c12 => ?_)
    refine g_iconst (v := nI 0) (q := 16) dX10_isLine_15 rfl ki_0 ?_
    refine g_goto (q := 111) dX10_isLine_16 (by decide) ?_
    refine g_istore_n (lv' := [(0, _), (1, _), (2, _)]) (q := 112) dX10_isLine_111 rfl rfl (Nat.le_of_ble_eq_true rfl) rfl ?_
    refine g_aload_n (q := 113) dX10_isLine_112 rfl rfl rfl ?_
    refine gf_X10_111 rfl 0 rfl rfl (q := 116) dX10_isLine_113 rfl ?_
    refine g_ldc2 (v := 286880) rfl mkX10_162 (q := 119) dX10_isLine_116 rfl ?_
    refine g_lcmp (q := 120) dX10_isLine_119 rfl ?_
    refine g_if_ne (t := 128) (q := 123) dX10_isLine_120 (by decide) rfl (fun c120 => ?_) (fun c120 => absurd c120 (by decide +kernel))
    refine g_aload_n (q := 129) dX10_isLine_128 rfl rfl rfl ?_
    refine gf_X10_111 rfl 0 rfl rfl (q := 132) dX10_isLine_129 rfl ?_
    refine g_ldc2 (v := 174869447) rfl mkX10_164 (q := 135) dX10_isLine_132 rfl ?_
    refine g_lcmp (q := 136) dX10_isLine_135 rfl ?_
    refine g_if_ne (t := 144) (q := 139) dX10_isLine_136 (by decide) rfl (fun c136 => ?_) (fun c136 => absurd c136 (by decide +kernel))
    refine g_aload_n (q := 145) dX10_isLine_144 rfl rfl rfl ?_
    refine gf_X10_111 rfl 0 rfl rfl (q := 148) dX10_isLine_145 rfl ?_
    refine g_ldc2 (v := 405230) rfl mkX10_166 (q := 151) dX10_isLine_148 rfl ?_
    refine g_lcmp (q := 152) dX10_isLine_151 rfl ?_
    refine g_if_ne (t := 160) (q := 155) dX10_isLine_152 (by decide) rfl (fun c152 => ?_) (fun c152 => absurd c152 (by decide +kernel))
    refine g_aload_n (q := 161) dX10_isLine_160 rfl rfl rfl ?_
    refine gf_X10_111 rfl 0 rfl rfl (q := 164) dX10_isLine_161 rfl ?_
    refine g_ldc2 (v := 453836) rfl mkX10_168 (q := 167) dX10_isLine_164 rfl ?_
    refine g_lcmp (q := 168) dX10_isLine_167 rfl ?_
    refine g_if_ne (t := 176) (q := 171) dX10_isLine_168 (by decide) rfl (fun c168 => ?_) (fun c168 => absurd c168 (by decide +kernel))
    refine g_aload_n (q := 177) dX10_isLine_176 rfl rfl rfl ?_
    refine gf_X10_111 rfl 0 rfl rfl (q := 180) dX10_isLine_177 rfl ?_
    refine g_ldc2 (v := 279875) rfl mkX10_170 (q := 183) dX10_isLine_180 rfl ?_
    refine g_lcmp (q := 184) dX10_isLine_183 rfl ?_
    refine g_if_ne (t := 192) (q := 187) dX10_isLine_184 (by decide) rfl (fun c184 => ?_) (fun c184 => absurd c184 (by decide +kernel))
    refine g_aload_n (q := 193) dX10_isLine_192 rfl rfl rfl ?_
    refine gf_X10_111 rfl 0 rfl rfl (q := 196) dX10_isLine_193 rfl ?_
    refine g_ldc2 (v := 10334396) rfl mkX10_172 (q := 199) dX10_isLine_196 rfl ?_
    refine g_lcmp (q := 200) dX10_isLine_199 rfl ?_
    refine g_if_ne (t := 208) (q := 203) dX10_isLine_200 (by decide) rfl (fun c200 => ?_) (fun c200 => absurd c200 (by decide +kernel))
    refine g_aload_n (q := 209) dX10_isLine_208 rfl rfl rfl ?_
    refine gf_X10_111 rfl 0 rfl rfl (q := 212) dX10_isLine_209 rfl ?_
    refine g_ldc2 (v := 131360) rfl mkX10_174 (q := 215) dX10_isLine_212 rfl ?_
    refine g_lcmp (q := 216) dX10_isLine_215 rfl ?_
    refine g_if_ne (t := 224) (q := 219) dX10_isLine_216 (by decide) rfl (fun c216 => ?_) (fun c216 => absurd c216 (by decide +kernel))
    refine g_iconst (v := (-1)) (q := 225) dX10_isLine_224 rfl ki_m1 ?_
    refine g_istore_n (lv' := [(0, _), (1, _), (2, _), (3, _)]) (q := 226) dX10_isLine_225 rfl rfl (Nat.le_of_ble_eq_true rfl) rfl ?_
    refine g_aload_n (q := 227) dX10_isLine_226 rfl rfl rfl ?_
    refine gf_X10_26 rfl 0 rfl rfl (q := 230) dX10_isLine_227 rfl ?_
    refine g_iload_n (q := 231) dX10_isLine_230 rfl rfl rfl ?_
    refine g_iload_n (q := 232) dX10_isLine_231 rfl rfl rfl ?_
    refine g_iconst (v := (-1)) (q := 233) dX10_isLine_232 rfl ki_m1 ?_
    refine g_icmp_ne (t := 240) (q := 236) dX10_isLine_233 (by decide) rfl (fun c233 => ?_) (fun c233 => ?_)
    · skip
      refine g_iload_n (q := 241) dX10_isLine_240 rfl rfl rfl ?_
      refine g_iast (f' := (upd rd wi (nI (0)))) 2 rfl (ixIn (j := wi) rfl (by omega) (by decide)) (ixU (j := wi) rfl (by omega)) (ws' := [_, _, (_, .inl (_, _, .inl _))]) rfl (q := 242) dX10_isLine_241 rfl ?_
      refine g_aload_n (q := 243) dX10_isLine_242 rfl rfl rfl ?_
      refine gf_X10_26 rfl 0 rfl rfl (q := 246) dX10_isLine_243 rfl ?_
      refine g_iload_n (q := 247) dX10_isLine_246 rfl rfl rfl ?_
      refine g_iald (v := nI (0)) 2 rfl (ixIn (j := wi) rfl (by omega) (by decide)) (ixVr (by omega)) (q := 248) dX10_isLine_247 rfl ?_
      refine g_tableIn (off := 72) (q := 320) dX10_isLine_248 (by decide) (by decide) (by decide) (by decide) ?_
      refine g_aload_n (q := 321) dX10_isLine_320 rfl rfl rfl ?_
      refine g_iload_n (q := 322) dX10_isLine_321 rfl rfl rfl ?_
      refine gc_X10_176 (c_isBoyLine (s := tsk tx tl e) (e := ten tx tl (tsk tx tl e)) (k := 0) (by decide) he0 hw hr1 hr2 hrb hl htx) rfl (Nat.le_of_ble_eq_true rfl) rfl 0 rfl [0, 1, 2] rfl rfl (rest := []) rfl (Nat.le_of_ble_eq_true rfl) (q := 325) dX10_isLine_322 rfl (exOrE rfl (fun z hz => ?_) (fun z hz => ?_))
      · skip
        refine g_eq (ws' := [(m0, .inr (10, (.int (nI (nt)) :: .ref mt :: .int (nI (nb)) :: .ref mk :: .ref mb :: .int (nI (lw)) :: .int (nI (sl)) :: .int (nI (tl)) :: .ref mx :: .int (nI (z.1.2)) :: .int (z.2.1.1) :: .long (z.2.1.2.1) :: .int (z.2.1.2.2.1) :: .int (z.2.1.2.2.2) :: .int (fa) :: .int (rm_) :: .int (nI (rT rtn z.1.1)) :: .int (nI (rB rbn z.1.1)) :: .ref mr :: .ref mn :: .ref ma :: .ref mi :: .ref mj :: .int (nI (en)) :: .ref mg :: .int (nI (sn)) :: .ref ms :: .int (nI (dn)) :: .ref md :: .ref mc :: .ref me :: .int (ga) :: .ref mh :: .ref mo :: .ref mw :: []))), (mx, .inl (E.2.1.1, 200, .inl (nA (tx)))), (mr, .inl (E.2.1.1, 50, .inl (z.2.2)))]) (st' := [.int (nI (1))]) ?_ rfl rfl rfl
        refine g_iret (st := []) dX10_isLine_325 rfl (narZ (by first | exact Or.inl rfl | exact Or.inr rfl)) rfl ?_
        exact Or.inl ⟨z, ⟨by simp only [lineP, hk]; exact hz.1, rdk_of hz.1 hz.2⟩, ⟨rfl, rfl⟩⟩
      · skip
        refine g_eq (ws' := [(m0, .inr (10, (.int (nI (nt)) :: .ref mt :: .int (nI (nb)) :: .ref mk :: .ref mb :: .int (nI (lw)) :: .int (nI (sl)) :: .int (nI (tl)) :: .ref mx :: .int (z.2.1.1) :: .int (z.2.1.2.1) :: .long (z.2.1.2.2.1) :: .int (z.2.1.2.2.2.1) :: .int (z.2.1.2.2.2.2.1) :: .int (nI (z.1)) :: .int (rm_) :: .int (nI (rtn)) :: .int (z.2.1.2.2.2.2.2) :: .ref mr :: .ref mn :: .ref ma :: .ref mi :: .ref mj :: .int (nI (en)) :: .ref mg :: .int (nI (sn)) :: .ref ms :: .int (nI (dn)) :: .ref md :: .ref mc :: .ref me :: .int (ga) :: .ref mh :: .ref mo :: .ref mw :: []))), (mx, .inl (E.2.1.1, 200, .inl (nA (tx)))), (mr, .inl (E.2.1.1, 50, .inl (z.2.2)))]) (st' := [.int (nI (0))]) ?_ rfl rfl rfl
        refine g_iret (st := []) dX10_isLine_325 rfl (narZ (by first | exact Or.inl rfl | exact Or.inr rfl)) rfl ?_
        exact Or.inr ⟨z, by simp only [lineP, hk]; exact hz, ⟨rfl, rfl⟩⟩
    · exact absurd c233 (by decide)
  · have hk : wdM (tokV tx tl (tsk tx tl e)) = some 1 := by rw [hv]; decide +kernel
    refine g_eq (ws' := [(m0, .inr (10, (.int (nI (nt)) :: .ref mt :: .int (nI (nb)) :: .ref mk :: .ref mb :: .int (nI (lw)) :: .int (nI (sl)) :: .int (nI (tl)) :: .ref mx :: .int (nI (ten tx tl (tsk tx tl e))) :: .int (nI (tsk tx tl e)) :: .long ((129450 : Int64)) :: .int (nI (digV tx tl (tsk tx tl e))) :: .int (nI (numV tx tl (tsk tx tl e))) :: .int (fa) :: .int (rm_) :: .int (nI (rtn)) :: .int (nI (rbn)) :: .ref mr :: .ref mn :: .ref ma :: .ref mi :: .ref mj :: .int (nI (en)) :: .ref mg :: .int (nI (sn)) :: .ref ms :: .int (nI (dn)) :: .ref md :: .ref mc :: .ref me :: .int (ga) :: .ref mh :: .ref mo :: .ref mw :: []))), (mx, .inl (E.2.1.1, 200, .inl (nA (tx)))), (mr, .inl (E.2.1.1, 50, .inl (rd)))]) ?_ (by rw [hv]) rfl rfl
    refine g_aload_n (q := 5) dX10_isLine_4 rfl rfl rfl ?_
    refine gf_X10_111 rfl 0 rfl rfl (q := 8) dX10_isLine_5 rfl ?_
    refine g_ldc2 (v := 8740238) rfl mkX10_148 (q := 11) dX10_isLine_8 rfl ?_
    refine g_lcmp (q := 12) dX10_isLine_11 rfl ?_
    refine g_if_ne (t := 19) (q := 15) dX10_isLine_12 (by decide) rfl (fun c12 => ?_) (fun c12 => absurd c12 (by decide +kernel))
    refine g_aload_n (q := 20) dX10_isLine_19 rfl rfl rfl ?_
    refine gf_X10_111 rfl 0 rfl rfl (q := 23) dX10_isLine_20 rfl ?_
    refine g_ldc2 (v := 129450) rfl mkX10_150 (q := 26) dX10_isLine_23 rfl ?_
    refine g_lcmp (q := 27) dX10_isLine_26 rfl ?_
    refine g_if_ne (t := 34) (q := 30) dX10_isLine_27 (by decide) rfl (fun c27 => absurd (by decide +kernel) c27) (fun c27 => ?_)
    refine g_iconst (v := nI 1) (q := 31) dX10_isLine_30 rfl ki_1 ?_
    refine g_goto (q := 111) dX10_isLine_31 (by decide) ?_
    refine g_istore_n (lv' := [(0, _), (1, _), (2, _)]) (q := 112) dX10_isLine_111 rfl rfl (Nat.le_of_ble_eq_true rfl) rfl ?_
    refine g_aload_n (q := 113) dX10_isLine_112 rfl rfl rfl ?_
    refine gf_X10_111 rfl 0 rfl rfl (q := 116) dX10_isLine_113 rfl ?_
    refine g_ldc2 (v := 286880) rfl mkX10_162 (q := 119) dX10_isLine_116 rfl ?_
    refine g_lcmp (q := 120) dX10_isLine_119 rfl ?_
    refine g_if_ne (t := 128) (q := 123) dX10_isLine_120 (by decide) rfl (fun c120 => ?_) (fun c120 => absurd c120 (by decide +kernel))
    refine g_aload_n (q := 129) dX10_isLine_128 rfl rfl rfl ?_
    refine gf_X10_111 rfl 0 rfl rfl (q := 132) dX10_isLine_129 rfl ?_
    refine g_ldc2 (v := 174869447) rfl mkX10_164 (q := 135) dX10_isLine_132 rfl ?_
    refine g_lcmp (q := 136) dX10_isLine_135 rfl ?_
    refine g_if_ne (t := 144) (q := 139) dX10_isLine_136 (by decide) rfl (fun c136 => ?_) (fun c136 => absurd c136 (by decide +kernel))
    refine g_aload_n (q := 145) dX10_isLine_144 rfl rfl rfl ?_
    refine gf_X10_111 rfl 0 rfl rfl (q := 148) dX10_isLine_145 rfl ?_
    refine g_ldc2 (v := 405230) rfl mkX10_166 (q := 151) dX10_isLine_148 rfl ?_
    refine g_lcmp (q := 152) dX10_isLine_151 rfl ?_
    refine g_if_ne (t := 160) (q := 155) dX10_isLine_152 (by decide) rfl (fun c152 => ?_) (fun c152 => absurd c152 (by decide +kernel))
    refine g_aload_n (q := 161) dX10_isLine_160 rfl rfl rfl ?_
    refine gf_X10_111 rfl 0 rfl rfl (q := 164) dX10_isLine_161 rfl ?_
    refine g_ldc2 (v := 453836) rfl mkX10_168 (q := 167) dX10_isLine_164 rfl ?_
    refine g_lcmp (q := 168) dX10_isLine_167 rfl ?_
    refine g_if_ne (t := 176) (q := 171) dX10_isLine_168 (by decide) rfl (fun c168 => ?_) (fun c168 => absurd c168 (by decide +kernel))
    refine g_aload_n (q := 177) dX10_isLine_176 rfl rfl rfl ?_
    refine gf_X10_111 rfl 0 rfl rfl (q := 180) dX10_isLine_177 rfl ?_
    refine g_ldc2 (v := 279875) rfl mkX10_170 (q := 183) dX10_isLine_180 rfl ?_
    refine g_lcmp (q := 184) dX10_isLine_183 rfl ?_
    refine g_if_ne (t := 192) (q := 187) dX10_isLine_184 (by decide) rfl (fun c184 => ?_) (fun c184 => absurd c184 (by decide +kernel))
    refine g_aload_n (q := 193) dX10_isLine_192 rfl rfl rfl ?_
    refine gf_X10_111 rfl 0 rfl rfl (q := 196) dX10_isLine_193 rfl ?_
    refine g_ldc2 (v := 10334396) rfl mkX10_172 (q := 199) dX10_isLine_196 rfl ?_
    refine g_lcmp (q := 200) dX10_isLine_199 rfl ?_
    refine g_if_ne (t := 208) (q := 203) dX10_isLine_200 (by decide) rfl (fun c200 => ?_) (fun c200 => absurd c200 (by decide +kernel))
    refine g_aload_n (q := 209) dX10_isLine_208 rfl rfl rfl ?_
    refine gf_X10_111 rfl 0 rfl rfl (q := 212) dX10_isLine_209 rfl ?_
    refine g_ldc2 (v := 131360) rfl mkX10_174 (q := 215) dX10_isLine_212 rfl ?_
    refine g_lcmp (q := 216) dX10_isLine_215 rfl ?_
    refine g_if_ne (t := 224) (q := 219) dX10_isLine_216 (by decide) rfl (fun c216 => ?_) (fun c216 => absurd c216 (by decide +kernel))
    refine g_iconst (v := (-1)) (q := 225) dX10_isLine_224 rfl ki_m1 ?_
    refine g_istore_n (lv' := [(0, _), (1, _), (2, _), (3, _)]) (q := 226) dX10_isLine_225 rfl rfl (Nat.le_of_ble_eq_true rfl) rfl ?_
    refine g_aload_n (q := 227) dX10_isLine_226 rfl rfl rfl ?_
    refine gf_X10_26 rfl 0 rfl rfl (q := 230) dX10_isLine_227 rfl ?_
    refine g_iload_n (q := 231) dX10_isLine_230 rfl rfl rfl ?_
    refine g_iload_n (q := 232) dX10_isLine_231 rfl rfl rfl ?_
    refine g_iconst (v := (-1)) (q := 233) dX10_isLine_232 rfl ki_m1 ?_
    refine g_icmp_ne (t := 240) (q := 236) dX10_isLine_233 (by decide) rfl (fun c233 => ?_) (fun c233 => ?_)
    · skip
      refine g_iload_n (q := 241) dX10_isLine_240 rfl rfl rfl ?_
      refine g_iast (f' := (upd rd wi (nI (1)))) 2 rfl (ixIn (j := wi) rfl (by omega) (by decide)) (ixU (j := wi) rfl (by omega)) (ws' := [_, _, (_, .inl (_, _, .inl _))]) rfl (q := 242) dX10_isLine_241 rfl ?_
      refine g_aload_n (q := 243) dX10_isLine_242 rfl rfl rfl ?_
      refine gf_X10_26 rfl 0 rfl rfl (q := 246) dX10_isLine_243 rfl ?_
      refine g_iload_n (q := 247) dX10_isLine_246 rfl rfl rfl ?_
      refine g_iald (v := nI (1)) 2 rfl (ixIn (j := wi) rfl (by omega) (by decide)) (ixVr (by omega)) (q := 248) dX10_isLine_247 rfl ?_
      refine g_tableIn (off := 72) (q := 320) dX10_isLine_248 (by decide) (by decide) (by decide) (by decide) ?_
      refine g_aload_n (q := 321) dX10_isLine_320 rfl rfl rfl ?_
      refine g_iload_n (q := 322) dX10_isLine_321 rfl rfl rfl ?_
      refine gc_X10_176 (c_isBoyLine (s := tsk tx tl e) (e := ten tx tl (tsk tx tl e)) (k := 1) (by decide) he0 hw hr1 hr2 hrb hl htx) rfl (Nat.le_of_ble_eq_true rfl) rfl 0 rfl [0, 1, 2] rfl rfl (rest := []) rfl (Nat.le_of_ble_eq_true rfl) (q := 325) dX10_isLine_322 rfl (exOrE rfl (fun z hz => ?_) (fun z hz => ?_))
      · skip
        refine g_eq (ws' := [(m0, .inr (10, (.int (nI (nt)) :: .ref mt :: .int (nI (nb)) :: .ref mk :: .ref mb :: .int (nI (lw)) :: .int (nI (sl)) :: .int (nI (tl)) :: .ref mx :: .int (nI (z.1.2)) :: .int (z.2.1.1) :: .long (z.2.1.2.1) :: .int (z.2.1.2.2.1) :: .int (z.2.1.2.2.2) :: .int (fa) :: .int (rm_) :: .int (nI (rT rtn z.1.1)) :: .int (nI (rB rbn z.1.1)) :: .ref mr :: .ref mn :: .ref ma :: .ref mi :: .ref mj :: .int (nI (en)) :: .ref mg :: .int (nI (sn)) :: .ref ms :: .int (nI (dn)) :: .ref md :: .ref mc :: .ref me :: .int (ga) :: .ref mh :: .ref mo :: .ref mw :: []))), (mx, .inl (E.2.1.1, 200, .inl (nA (tx)))), (mr, .inl (E.2.1.1, 50, .inl (z.2.2)))]) (st' := [.int (nI (1))]) ?_ rfl rfl rfl
        refine g_iret (st := []) dX10_isLine_325 rfl (narZ (by first | exact Or.inl rfl | exact Or.inr rfl)) rfl ?_
        exact Or.inl ⟨z, ⟨by simp only [lineP, hk]; exact hz.1, rdk_of hz.1 hz.2⟩, ⟨rfl, rfl⟩⟩
      · skip
        refine g_eq (ws' := [(m0, .inr (10, (.int (nI (nt)) :: .ref mt :: .int (nI (nb)) :: .ref mk :: .ref mb :: .int (nI (lw)) :: .int (nI (sl)) :: .int (nI (tl)) :: .ref mx :: .int (z.2.1.1) :: .int (z.2.1.2.1) :: .long (z.2.1.2.2.1) :: .int (z.2.1.2.2.2.1) :: .int (z.2.1.2.2.2.2.1) :: .int (nI (z.1)) :: .int (rm_) :: .int (nI (rtn)) :: .int (z.2.1.2.2.2.2.2) :: .ref mr :: .ref mn :: .ref ma :: .ref mi :: .ref mj :: .int (nI (en)) :: .ref mg :: .int (nI (sn)) :: .ref ms :: .int (nI (dn)) :: .ref md :: .ref mc :: .ref me :: .int (ga) :: .ref mh :: .ref mo :: .ref mw :: []))), (mx, .inl (E.2.1.1, 200, .inl (nA (tx)))), (mr, .inl (E.2.1.1, 50, .inl (z.2.2)))]) (st' := [.int (nI (0))]) ?_ rfl rfl rfl
        refine g_iret (st := []) dX10_isLine_325 rfl (narZ (by first | exact Or.inl rfl | exact Or.inr rfl)) rfl ?_
        exact Or.inr ⟨z, by simp only [lineP, hk]; exact hz, ⟨rfl, rfl⟩⟩
    · exact absurd c233 (by decide)
  · have hk : wdM (tokV tx tl (tsk tx tl e)) = some 2 := by rw [hv]; decide +kernel
    refine g_eq (ws' := [(m0, .inr (10, (.int (nI (nt)) :: .ref mt :: .int (nI (nb)) :: .ref mk :: .ref mb :: .int (nI (lw)) :: .int (nI (sl)) :: .int (nI (tl)) :: .ref mx :: .int (nI (ten tx tl (tsk tx tl e))) :: .int (nI (tsk tx tl e)) :: .long ((158523 : Int64)) :: .int (nI (digV tx tl (tsk tx tl e))) :: .int (nI (numV tx tl (tsk tx tl e))) :: .int (fa) :: .int (rm_) :: .int (nI (rtn)) :: .int (nI (rbn)) :: .ref mr :: .ref mn :: .ref ma :: .ref mi :: .ref mj :: .int (nI (en)) :: .ref mg :: .int (nI (sn)) :: .ref ms :: .int (nI (dn)) :: .ref md :: .ref mc :: .ref me :: .int (ga) :: .ref mh :: .ref mo :: .ref mw :: []))), (mx, .inl (E.2.1.1, 200, .inl (nA (tx)))), (mr, .inl (E.2.1.1, 50, .inl (rd)))]) ?_ (by rw [hv]) rfl rfl
    refine g_aload_n (q := 5) dX10_isLine_4 rfl rfl rfl ?_
    refine gf_X10_111 rfl 0 rfl rfl (q := 8) dX10_isLine_5 rfl ?_
    refine g_ldc2 (v := 8740238) rfl mkX10_148 (q := 11) dX10_isLine_8 rfl ?_
    refine g_lcmp (q := 12) dX10_isLine_11 rfl ?_
    refine g_if_ne (t := 19) (q := 15) dX10_isLine_12 (by decide) rfl (fun c12 => ?_) (fun c12 => absurd c12 (by decide +kernel))
    refine g_aload_n (q := 20) dX10_isLine_19 rfl rfl rfl ?_
    refine gf_X10_111 rfl 0 rfl rfl (q := 23) dX10_isLine_20 rfl ?_
    refine g_ldc2 (v := 129450) rfl mkX10_150 (q := 26) dX10_isLine_23 rfl ?_
    refine g_lcmp (q := 27) dX10_isLine_26 rfl ?_
    refine g_if_ne (t := 34) (q := 30) dX10_isLine_27 (by decide) rfl (fun c27 => ?_) (fun c27 => absurd c27 (by decide +kernel))
    refine g_aload_n (q := 35) dX10_isLine_34 rfl rfl rfl ?_
    refine gf_X10_111 rfl 0 rfl rfl (q := 38) dX10_isLine_35 rfl ?_
    refine g_ldc2 (v := 158523) rfl mkX10_152 (q := 41) dX10_isLine_38 rfl ?_
    refine g_lcmp (q := 42) dX10_isLine_41 rfl ?_
    refine g_if_ne (t := 49) (q := 45) dX10_isLine_42 (by decide) rfl (fun c42 => absurd (by decide +kernel) c42) (fun c42 => ?_)
    refine g_iconst (v := nI 2) (q := 46) dX10_isLine_45 rfl ki_2 ?_
    refine g_goto (q := 111) dX10_isLine_46 (by decide) ?_
    refine g_istore_n (lv' := [(0, _), (1, _), (2, _)]) (q := 112) dX10_isLine_111 rfl rfl (Nat.le_of_ble_eq_true rfl) rfl ?_
    refine g_aload_n (q := 113) dX10_isLine_112 rfl rfl rfl ?_
    refine gf_X10_111 rfl 0 rfl rfl (q := 116) dX10_isLine_113 rfl ?_
    refine g_ldc2 (v := 286880) rfl mkX10_162 (q := 119) dX10_isLine_116 rfl ?_
    refine g_lcmp (q := 120) dX10_isLine_119 rfl ?_
    refine g_if_ne (t := 128) (q := 123) dX10_isLine_120 (by decide) rfl (fun c120 => ?_) (fun c120 => absurd c120 (by decide +kernel))
    refine g_aload_n (q := 129) dX10_isLine_128 rfl rfl rfl ?_
    refine gf_X10_111 rfl 0 rfl rfl (q := 132) dX10_isLine_129 rfl ?_
    refine g_ldc2 (v := 174869447) rfl mkX10_164 (q := 135) dX10_isLine_132 rfl ?_
    refine g_lcmp (q := 136) dX10_isLine_135 rfl ?_
    refine g_if_ne (t := 144) (q := 139) dX10_isLine_136 (by decide) rfl (fun c136 => ?_) (fun c136 => absurd c136 (by decide +kernel))
    refine g_aload_n (q := 145) dX10_isLine_144 rfl rfl rfl ?_
    refine gf_X10_111 rfl 0 rfl rfl (q := 148) dX10_isLine_145 rfl ?_
    refine g_ldc2 (v := 405230) rfl mkX10_166 (q := 151) dX10_isLine_148 rfl ?_
    refine g_lcmp (q := 152) dX10_isLine_151 rfl ?_
    refine g_if_ne (t := 160) (q := 155) dX10_isLine_152 (by decide) rfl (fun c152 => ?_) (fun c152 => absurd c152 (by decide +kernel))
    refine g_aload_n (q := 161) dX10_isLine_160 rfl rfl rfl ?_
    refine gf_X10_111 rfl 0 rfl rfl (q := 164) dX10_isLine_161 rfl ?_
    refine g_ldc2 (v := 453836) rfl mkX10_168 (q := 167) dX10_isLine_164 rfl ?_
    refine g_lcmp (q := 168) dX10_isLine_167 rfl ?_
    refine g_if_ne (t := 176) (q := 171) dX10_isLine_168 (by decide) rfl (fun c168 => ?_) (fun c168 => absurd c168 (by decide +kernel))
    refine g_aload_n (q := 177) dX10_isLine_176 rfl rfl rfl ?_
    refine gf_X10_111 rfl 0 rfl rfl (q := 180) dX10_isLine_177 rfl ?_
    refine g_ldc2 (v := 279875) rfl mkX10_170 (q := 183) dX10_isLine_180 rfl ?_
    refine g_lcmp (q := 184) dX10_isLine_183 rfl ?_
    refine g_if_ne (t := 192) (q := 187) dX10_isLine_184 (by decide) rfl (fun c184 => ?_) (fun c184 => absurd c184 (by decide +kernel))
    refine g_aload_n (q := 193) dX10_isLine_192 rfl rfl rfl ?_
    refine gf_X10_111 rfl 0 rfl rfl (q := 196) dX10_isLine_193 rfl ?_
    refine g_ldc2 (v := 10334396) rfl mkX10_172 (q := 199) dX10_isLine_196 rfl ?_
    refine g_lcmp (q := 200) dX10_isLine_199 rfl ?_
    refine g_if_ne (t := 208) (q := 203) dX10_isLine_200 (by decide) rfl (fun c200 => ?_) (fun c200 => absurd c200 (by decide +kernel))
    refine g_aload_n (q := 209) dX10_isLine_208 rfl rfl rfl ?_
    refine gf_X10_111 rfl 0 rfl rfl (q := 212) dX10_isLine_209 rfl ?_
    refine g_ldc2 (v := 131360) rfl mkX10_174 (q := 215) dX10_isLine_212 rfl ?_
    refine g_lcmp (q := 216) dX10_isLine_215 rfl ?_
    refine g_if_ne (t := 224) (q := 219) dX10_isLine_216 (by decide) rfl (fun c216 => ?_) (fun c216 => absurd c216 (by decide +kernel))
    refine g_iconst (v := (-1)) (q := 225) dX10_isLine_224 rfl ki_m1 ?_
    refine g_istore_n (lv' := [(0, _), (1, _), (2, _), (3, _)]) (q := 226) dX10_isLine_225 rfl rfl (Nat.le_of_ble_eq_true rfl) rfl ?_
    refine g_aload_n (q := 227) dX10_isLine_226 rfl rfl rfl ?_
    refine gf_X10_26 rfl 0 rfl rfl (q := 230) dX10_isLine_227 rfl ?_
    refine g_iload_n (q := 231) dX10_isLine_230 rfl rfl rfl ?_
    refine g_iload_n (q := 232) dX10_isLine_231 rfl rfl rfl ?_
    refine g_iconst (v := (-1)) (q := 233) dX10_isLine_232 rfl ki_m1 ?_
    refine g_icmp_ne (t := 240) (q := 236) dX10_isLine_233 (by decide) rfl (fun c233 => ?_) (fun c233 => ?_)
    · skip
      refine g_iload_n (q := 241) dX10_isLine_240 rfl rfl rfl ?_
      refine g_iast (f' := (upd rd wi (nI (2)))) 2 rfl (ixIn (j := wi) rfl (by omega) (by decide)) (ixU (j := wi) rfl (by omega)) (ws' := [_, _, (_, .inl (_, _, .inl _))]) rfl (q := 242) dX10_isLine_241 rfl ?_
      refine g_aload_n (q := 243) dX10_isLine_242 rfl rfl rfl ?_
      refine gf_X10_26 rfl 0 rfl rfl (q := 246) dX10_isLine_243 rfl ?_
      refine g_iload_n (q := 247) dX10_isLine_246 rfl rfl rfl ?_
      refine g_iald (v := nI (2)) 2 rfl (ixIn (j := wi) rfl (by omega) (by decide)) (ixVr (by omega)) (q := 248) dX10_isLine_247 rfl ?_
      refine g_tableIn (off := 72) (q := 320) dX10_isLine_248 (by decide) (by decide) (by decide) (by decide) ?_
      refine g_aload_n (q := 321) dX10_isLine_320 rfl rfl rfl ?_
      refine g_iload_n (q := 322) dX10_isLine_321 rfl rfl rfl ?_
      refine gc_X10_176 (c_isBoyLine (s := tsk tx tl e) (e := ten tx tl (tsk tx tl e)) (k := 2) (by decide) he0 hw hr1 hr2 hrb hl htx) rfl (Nat.le_of_ble_eq_true rfl) rfl 0 rfl [0, 1, 2] rfl rfl (rest := []) rfl (Nat.le_of_ble_eq_true rfl) (q := 325) dX10_isLine_322 rfl (exOrE rfl (fun z hz => ?_) (fun z hz => ?_))
      · skip
        refine g_eq (ws' := [(m0, .inr (10, (.int (nI (nt)) :: .ref mt :: .int (nI (nb)) :: .ref mk :: .ref mb :: .int (nI (lw)) :: .int (nI (sl)) :: .int (nI (tl)) :: .ref mx :: .int (nI (z.1.2)) :: .int (z.2.1.1) :: .long (z.2.1.2.1) :: .int (z.2.1.2.2.1) :: .int (z.2.1.2.2.2) :: .int (fa) :: .int (rm_) :: .int (nI (rT rtn z.1.1)) :: .int (nI (rB rbn z.1.1)) :: .ref mr :: .ref mn :: .ref ma :: .ref mi :: .ref mj :: .int (nI (en)) :: .ref mg :: .int (nI (sn)) :: .ref ms :: .int (nI (dn)) :: .ref md :: .ref mc :: .ref me :: .int (ga) :: .ref mh :: .ref mo :: .ref mw :: []))), (mx, .inl (E.2.1.1, 200, .inl (nA (tx)))), (mr, .inl (E.2.1.1, 50, .inl (z.2.2)))]) (st' := [.int (nI (1))]) ?_ rfl rfl rfl
        refine g_iret (st := []) dX10_isLine_325 rfl (narZ (by first | exact Or.inl rfl | exact Or.inr rfl)) rfl ?_
        exact Or.inl ⟨z, ⟨by simp only [lineP, hk]; exact hz.1, rdk_of hz.1 hz.2⟩, ⟨rfl, rfl⟩⟩
      · skip
        refine g_eq (ws' := [(m0, .inr (10, (.int (nI (nt)) :: .ref mt :: .int (nI (nb)) :: .ref mk :: .ref mb :: .int (nI (lw)) :: .int (nI (sl)) :: .int (nI (tl)) :: .ref mx :: .int (z.2.1.1) :: .int (z.2.1.2.1) :: .long (z.2.1.2.2.1) :: .int (z.2.1.2.2.2.1) :: .int (z.2.1.2.2.2.2.1) :: .int (nI (z.1)) :: .int (rm_) :: .int (nI (rtn)) :: .int (z.2.1.2.2.2.2.2) :: .ref mr :: .ref mn :: .ref ma :: .ref mi :: .ref mj :: .int (nI (en)) :: .ref mg :: .int (nI (sn)) :: .ref ms :: .int (nI (dn)) :: .ref md :: .ref mc :: .ref me :: .int (ga) :: .ref mh :: .ref mo :: .ref mw :: []))), (mx, .inl (E.2.1.1, 200, .inl (nA (tx)))), (mr, .inl (E.2.1.1, 50, .inl (z.2.2)))]) (st' := [.int (nI (0))]) ?_ rfl rfl rfl
        refine g_iret (st := []) dX10_isLine_325 rfl (narZ (by first | exact Or.inl rfl | exact Or.inr rfl)) rfl ?_
        exact Or.inr ⟨z, by simp only [lineP, hk]; exact hz, ⟨rfl, rfl⟩⟩
    · exact absurd c233 (by decide)
  · have hk : wdM (tokV tx tl (tsk tx tl e)) = some 3 := by rw [hv]; decide +kernel
    refine g_eq (ws' := [(m0, .inr (10, (.int (nI (nt)) :: .ref mt :: .int (nI (nb)) :: .ref mk :: .ref mb :: .int (nI (lw)) :: .int (nI (sl)) :: .int (nI (tl)) :: .ref mx :: .int (nI (ten tx tl (tsk tx tl e))) :: .int (nI (tsk tx tl e)) :: .long ((6465065272 : Int64)) :: .int (nI (digV tx tl (tsk tx tl e))) :: .int (nI (numV tx tl (tsk tx tl e))) :: .int (fa) :: .int (rm_) :: .int (nI (rtn)) :: .int (nI (rbn)) :: .ref mr :: .ref mn :: .ref ma :: .ref mi :: .ref mj :: .int (nI (en)) :: .ref mg :: .int (nI (sn)) :: .ref ms :: .int (nI (dn)) :: .ref md :: .ref mc :: .ref me :: .int (ga) :: .ref mh :: .ref mo :: .ref mw :: []))), (mx, .inl (E.2.1.1, 200, .inl (nA (tx)))), (mr, .inl (E.2.1.1, 50, .inl (rd)))]) ?_ (by rw [hv]) rfl rfl
    refine g_aload_n (q := 5) dX10_isLine_4 rfl rfl rfl ?_
    refine gf_X10_111 rfl 0 rfl rfl (q := 8) dX10_isLine_5 rfl ?_
    refine g_ldc2 (v := 8740238) rfl mkX10_148 (q := 11) dX10_isLine_8 rfl ?_
    refine g_lcmp (q := 12) dX10_isLine_11 rfl ?_
    refine g_if_ne (t := 19) (q := 15) dX10_isLine_12 (by decide) rfl (fun c12 => ?_) (fun c12 => absurd c12 (by decide +kernel))
    refine g_aload_n (q := 20) dX10_isLine_19 rfl rfl rfl ?_
    refine gf_X10_111 rfl 0 rfl rfl (q := 23) dX10_isLine_20 rfl ?_
    refine g_ldc2 (v := 129450) rfl mkX10_150 (q := 26) dX10_isLine_23 rfl ?_
    refine g_lcmp (q := 27) dX10_isLine_26 rfl ?_
    refine g_if_ne (t := 34) (q := 30) dX10_isLine_27 (by decide) rfl (fun c27 => ?_) (fun c27 => absurd c27 (by decide +kernel))
    refine g_aload_n (q := 35) dX10_isLine_34 rfl rfl rfl ?_
    refine gf_X10_111 rfl 0 rfl rfl (q := 38) dX10_isLine_35 rfl ?_
    refine g_ldc2 (v := 158523) rfl mkX10_152 (q := 41) dX10_isLine_38 rfl ?_
    refine g_lcmp (q := 42) dX10_isLine_41 rfl ?_
    refine g_if_ne (t := 49) (q := 45) dX10_isLine_42 (by decide) rfl (fun c42 => ?_) (fun c42 => absurd c42 (by decide +kernel))
    refine g_aload_n (q := 50) dX10_isLine_49 rfl rfl rfl ?_
    refine gf_X10_111 rfl 0 rfl rfl (q := 53) dX10_isLine_50 rfl ?_
    refine g_ldc2 (v := 6465065272) rfl mkX10_154 (q := 56) dX10_isLine_53 rfl ?_
    refine g_lcmp (q := 57) dX10_isLine_56 rfl ?_
    refine g_if_ne (t := 64) (q := 60) dX10_isLine_57 (by decide) rfl (fun c57 => absurd (by decide +kernel) c57) (fun c57 => ?_)
    refine g_iconst (v := nI 3) (q := 61) dX10_isLine_60 rfl ki_3 ?_
    refine g_goto (q := 111) dX10_isLine_61 (by decide) ?_
    refine g_istore_n (lv' := [(0, _), (1, _), (2, _)]) (q := 112) dX10_isLine_111 rfl rfl (Nat.le_of_ble_eq_true rfl) rfl ?_
    refine g_aload_n (q := 113) dX10_isLine_112 rfl rfl rfl ?_
    refine gf_X10_111 rfl 0 rfl rfl (q := 116) dX10_isLine_113 rfl ?_
    refine g_ldc2 (v := 286880) rfl mkX10_162 (q := 119) dX10_isLine_116 rfl ?_
    refine g_lcmp (q := 120) dX10_isLine_119 rfl ?_
    refine g_if_ne (t := 128) (q := 123) dX10_isLine_120 (by decide) rfl (fun c120 => ?_) (fun c120 => absurd c120 (by decide +kernel))
    refine g_aload_n (q := 129) dX10_isLine_128 rfl rfl rfl ?_
    refine gf_X10_111 rfl 0 rfl rfl (q := 132) dX10_isLine_129 rfl ?_
    refine g_ldc2 (v := 174869447) rfl mkX10_164 (q := 135) dX10_isLine_132 rfl ?_
    refine g_lcmp (q := 136) dX10_isLine_135 rfl ?_
    refine g_if_ne (t := 144) (q := 139) dX10_isLine_136 (by decide) rfl (fun c136 => ?_) (fun c136 => absurd c136 (by decide +kernel))
    refine g_aload_n (q := 145) dX10_isLine_144 rfl rfl rfl ?_
    refine gf_X10_111 rfl 0 rfl rfl (q := 148) dX10_isLine_145 rfl ?_
    refine g_ldc2 (v := 405230) rfl mkX10_166 (q := 151) dX10_isLine_148 rfl ?_
    refine g_lcmp (q := 152) dX10_isLine_151 rfl ?_
    refine g_if_ne (t := 160) (q := 155) dX10_isLine_152 (by decide) rfl (fun c152 => ?_) (fun c152 => absurd c152 (by decide +kernel))
    refine g_aload_n (q := 161) dX10_isLine_160 rfl rfl rfl ?_
    refine gf_X10_111 rfl 0 rfl rfl (q := 164) dX10_isLine_161 rfl ?_
    refine g_ldc2 (v := 453836) rfl mkX10_168 (q := 167) dX10_isLine_164 rfl ?_
    refine g_lcmp (q := 168) dX10_isLine_167 rfl ?_
    refine g_if_ne (t := 176) (q := 171) dX10_isLine_168 (by decide) rfl (fun c168 => ?_) (fun c168 => absurd c168 (by decide +kernel))
    refine g_aload_n (q := 177) dX10_isLine_176 rfl rfl rfl ?_
    refine gf_X10_111 rfl 0 rfl rfl (q := 180) dX10_isLine_177 rfl ?_
    refine g_ldc2 (v := 279875) rfl mkX10_170 (q := 183) dX10_isLine_180 rfl ?_
    refine g_lcmp (q := 184) dX10_isLine_183 rfl ?_
    refine g_if_ne (t := 192) (q := 187) dX10_isLine_184 (by decide) rfl (fun c184 => ?_) (fun c184 => absurd c184 (by decide +kernel))
    refine g_aload_n (q := 193) dX10_isLine_192 rfl rfl rfl ?_
    refine gf_X10_111 rfl 0 rfl rfl (q := 196) dX10_isLine_193 rfl ?_
    refine g_ldc2 (v := 10334396) rfl mkX10_172 (q := 199) dX10_isLine_196 rfl ?_
    refine g_lcmp (q := 200) dX10_isLine_199 rfl ?_
    refine g_if_ne (t := 208) (q := 203) dX10_isLine_200 (by decide) rfl (fun c200 => ?_) (fun c200 => absurd c200 (by decide +kernel))
    refine g_aload_n (q := 209) dX10_isLine_208 rfl rfl rfl ?_
    refine gf_X10_111 rfl 0 rfl rfl (q := 212) dX10_isLine_209 rfl ?_
    refine g_ldc2 (v := 131360) rfl mkX10_174 (q := 215) dX10_isLine_212 rfl ?_
    refine g_lcmp (q := 216) dX10_isLine_215 rfl ?_
    refine g_if_ne (t := 224) (q := 219) dX10_isLine_216 (by decide) rfl (fun c216 => ?_) (fun c216 => absurd c216 (by decide +kernel))
    refine g_iconst (v := (-1)) (q := 225) dX10_isLine_224 rfl ki_m1 ?_
    refine g_istore_n (lv' := [(0, _), (1, _), (2, _), (3, _)]) (q := 226) dX10_isLine_225 rfl rfl (Nat.le_of_ble_eq_true rfl) rfl ?_
    refine g_aload_n (q := 227) dX10_isLine_226 rfl rfl rfl ?_
    refine gf_X10_26 rfl 0 rfl rfl (q := 230) dX10_isLine_227 rfl ?_
    refine g_iload_n (q := 231) dX10_isLine_230 rfl rfl rfl ?_
    refine g_iload_n (q := 232) dX10_isLine_231 rfl rfl rfl ?_
    refine g_iconst (v := (-1)) (q := 233) dX10_isLine_232 rfl ki_m1 ?_
    refine g_icmp_ne (t := 240) (q := 236) dX10_isLine_233 (by decide) rfl (fun c233 => ?_) (fun c233 => ?_)
    · skip
      refine g_iload_n (q := 241) dX10_isLine_240 rfl rfl rfl ?_
      refine g_iast (f' := (upd rd wi (nI (3)))) 2 rfl (ixIn (j := wi) rfl (by omega) (by decide)) (ixU (j := wi) rfl (by omega)) (ws' := [_, _, (_, .inl (_, _, .inl _))]) rfl (q := 242) dX10_isLine_241 rfl ?_
      refine g_aload_n (q := 243) dX10_isLine_242 rfl rfl rfl ?_
      refine gf_X10_26 rfl 0 rfl rfl (q := 246) dX10_isLine_243 rfl ?_
      refine g_iload_n (q := 247) dX10_isLine_246 rfl rfl rfl ?_
      refine g_iald (v := nI (3)) 2 rfl (ixIn (j := wi) rfl (by omega) (by decide)) (ixVr (by omega)) (q := 248) dX10_isLine_247 rfl ?_
      refine g_tableIn (off := 72) (q := 320) dX10_isLine_248 (by decide) (by decide) (by decide) (by decide) ?_
      refine g_aload_n (q := 321) dX10_isLine_320 rfl rfl rfl ?_
      refine g_iload_n (q := 322) dX10_isLine_321 rfl rfl rfl ?_
      refine gc_X10_176 (c_isBoyLine (s := tsk tx tl e) (e := ten tx tl (tsk tx tl e)) (k := 3) (by decide) he0 hw hr1 hr2 hrb hl htx) rfl (Nat.le_of_ble_eq_true rfl) rfl 0 rfl [0, 1, 2] rfl rfl (rest := []) rfl (Nat.le_of_ble_eq_true rfl) (q := 325) dX10_isLine_322 rfl (exOrE rfl (fun z hz => ?_) (fun z hz => ?_))
      · skip
        refine g_eq (ws' := [(m0, .inr (10, (.int (nI (nt)) :: .ref mt :: .int (nI (nb)) :: .ref mk :: .ref mb :: .int (nI (lw)) :: .int (nI (sl)) :: .int (nI (tl)) :: .ref mx :: .int (nI (z.1.2)) :: .int (z.2.1.1) :: .long (z.2.1.2.1) :: .int (z.2.1.2.2.1) :: .int (z.2.1.2.2.2) :: .int (fa) :: .int (rm_) :: .int (nI (rT rtn z.1.1)) :: .int (nI (rB rbn z.1.1)) :: .ref mr :: .ref mn :: .ref ma :: .ref mi :: .ref mj :: .int (nI (en)) :: .ref mg :: .int (nI (sn)) :: .ref ms :: .int (nI (dn)) :: .ref md :: .ref mc :: .ref me :: .int (ga) :: .ref mh :: .ref mo :: .ref mw :: []))), (mx, .inl (E.2.1.1, 200, .inl (nA (tx)))), (mr, .inl (E.2.1.1, 50, .inl (z.2.2)))]) (st' := [.int (nI (1))]) ?_ rfl rfl rfl
        refine g_iret (st := []) dX10_isLine_325 rfl (narZ (by first | exact Or.inl rfl | exact Or.inr rfl)) rfl ?_
        exact Or.inl ⟨z, ⟨by simp only [lineP, hk]; exact hz.1, rdk_of hz.1 hz.2⟩, ⟨rfl, rfl⟩⟩
      · skip
        refine g_eq (ws' := [(m0, .inr (10, (.int (nI (nt)) :: .ref mt :: .int (nI (nb)) :: .ref mk :: .ref mb :: .int (nI (lw)) :: .int (nI (sl)) :: .int (nI (tl)) :: .ref mx :: .int (z.2.1.1) :: .int (z.2.1.2.1) :: .long (z.2.1.2.2.1) :: .int (z.2.1.2.2.2.1) :: .int (z.2.1.2.2.2.2.1) :: .int (nI (z.1)) :: .int (rm_) :: .int (nI (rtn)) :: .int (z.2.1.2.2.2.2.2) :: .ref mr :: .ref mn :: .ref ma :: .ref mi :: .ref mj :: .int (nI (en)) :: .ref mg :: .int (nI (sn)) :: .ref ms :: .int (nI (dn)) :: .ref md :: .ref mc :: .ref me :: .int (ga) :: .ref mh :: .ref mo :: .ref mw :: []))), (mx, .inl (E.2.1.1, 200, .inl (nA (tx)))), (mr, .inl (E.2.1.1, 50, .inl (z.2.2)))]) (st' := [.int (nI (0))]) ?_ rfl rfl rfl
        refine g_iret (st := []) dX10_isLine_325 rfl (narZ (by first | exact Or.inl rfl | exact Or.inr rfl)) rfl ?_
        exact Or.inr ⟨z, by simp only [lineP, hk]; exact hz, ⟨rfl, rfl⟩⟩
    · exact absurd c233 (by decide)
  · have hk : wdM (tokV tx tl (tsk tx tl e)) = some 4 := by rw [hv]; decide +kernel
    refine g_eq (ws' := [(m0, .inr (10, (.int (nI (nt)) :: .ref mt :: .int (nI (nb)) :: .ref mk :: .ref mb :: .int (nI (lw)) :: .int (nI (sl)) :: .int (nI (tl)) :: .ref mx :: .int (nI (ten tx tl (tsk tx tl e))) :: .int (nI (tsk tx tl e)) :: .long ((4351291 : Int64)) :: .int (nI (digV tx tl (tsk tx tl e))) :: .int (nI (numV tx tl (tsk tx tl e))) :: .int (fa) :: .int (rm_) :: .int (nI (rtn)) :: .int (nI (rbn)) :: .ref mr :: .ref mn :: .ref ma :: .ref mi :: .ref mj :: .int (nI (en)) :: .ref mg :: .int (nI (sn)) :: .ref ms :: .int (nI (dn)) :: .ref md :: .ref mc :: .ref me :: .int (ga) :: .ref mh :: .ref mo :: .ref mw :: []))), (mx, .inl (E.2.1.1, 200, .inl (nA (tx)))), (mr, .inl (E.2.1.1, 50, .inl (rd)))]) ?_ (by rw [hv]) rfl rfl
    refine g_aload_n (q := 5) dX10_isLine_4 rfl rfl rfl ?_
    refine gf_X10_111 rfl 0 rfl rfl (q := 8) dX10_isLine_5 rfl ?_
    refine g_ldc2 (v := 8740238) rfl mkX10_148 (q := 11) dX10_isLine_8 rfl ?_
    refine g_lcmp (q := 12) dX10_isLine_11 rfl ?_
    refine g_if_ne (t := 19) (q := 15) dX10_isLine_12 (by decide) rfl (fun c12 => ?_) (fun c12 => absurd c12 (by decide +kernel))
    refine g_aload_n (q := 20) dX10_isLine_19 rfl rfl rfl ?_
    refine gf_X10_111 rfl 0 rfl rfl (q := 23) dX10_isLine_20 rfl ?_
    refine g_ldc2 (v := 129450) rfl mkX10_150 (q := 26) dX10_isLine_23 rfl ?_
    refine g_lcmp (q := 27) dX10_isLine_26 rfl ?_
    refine g_if_ne (t := 34) (q := 30) dX10_isLine_27 (by decide) rfl (fun c27 => ?_) (fun c27 => absurd c27 (by decide +kernel))
    refine g_aload_n (q := 35) dX10_isLine_34 rfl rfl rfl ?_
    refine gf_X10_111 rfl 0 rfl rfl (q := 38) dX10_isLine_35 rfl ?_
    refine g_ldc2 (v := 158523) rfl mkX10_152 (q := 41) dX10_isLine_38 rfl ?_
    refine g_lcmp (q := 42) dX10_isLine_41 rfl ?_
    refine g_if_ne (t := 49) (q := 45) dX10_isLine_42 (by decide) rfl (fun c42 => ?_) (fun c42 => absurd c42 (by decide +kernel))
    refine g_aload_n (q := 50) dX10_isLine_49 rfl rfl rfl ?_
    refine gf_X10_111 rfl 0 rfl rfl (q := 53) dX10_isLine_50 rfl ?_
    refine g_ldc2 (v := 6465065272) rfl mkX10_154 (q := 56) dX10_isLine_53 rfl ?_
    refine g_lcmp (q := 57) dX10_isLine_56 rfl ?_
    refine g_if_ne (t := 64) (q := 60) dX10_isLine_57 (by decide) rfl (fun c57 => ?_) (fun c57 => absurd c57 (by decide +kernel))
    refine g_aload_n (q := 65) dX10_isLine_64 rfl rfl rfl ?_
    refine gf_X10_111 rfl 0 rfl rfl (q := 68) dX10_isLine_65 rfl ?_
    refine g_ldc2 (v := 4351291) rfl mkX10_156 (q := 71) dX10_isLine_68 rfl ?_
    refine g_lcmp (q := 72) dX10_isLine_71 rfl ?_
    refine g_if_ne (t := 79) (q := 75) dX10_isLine_72 (by decide) rfl (fun c72 => absurd (by decide +kernel) c72) (fun c72 => ?_)
    refine g_iconst (v := nI 4) (q := 76) dX10_isLine_75 rfl ki_4 ?_
    refine g_goto (q := 111) dX10_isLine_76 (by decide) ?_
    refine g_istore_n (lv' := [(0, _), (1, _), (2, _)]) (q := 112) dX10_isLine_111 rfl rfl (Nat.le_of_ble_eq_true rfl) rfl ?_
    refine g_aload_n (q := 113) dX10_isLine_112 rfl rfl rfl ?_
    refine gf_X10_111 rfl 0 rfl rfl (q := 116) dX10_isLine_113 rfl ?_
    refine g_ldc2 (v := 286880) rfl mkX10_162 (q := 119) dX10_isLine_116 rfl ?_
    refine g_lcmp (q := 120) dX10_isLine_119 rfl ?_
    refine g_if_ne (t := 128) (q := 123) dX10_isLine_120 (by decide) rfl (fun c120 => ?_) (fun c120 => absurd c120 (by decide +kernel))
    refine g_aload_n (q := 129) dX10_isLine_128 rfl rfl rfl ?_
    refine gf_X10_111 rfl 0 rfl rfl (q := 132) dX10_isLine_129 rfl ?_
    refine g_ldc2 (v := 174869447) rfl mkX10_164 (q := 135) dX10_isLine_132 rfl ?_
    refine g_lcmp (q := 136) dX10_isLine_135 rfl ?_
    refine g_if_ne (t := 144) (q := 139) dX10_isLine_136 (by decide) rfl (fun c136 => ?_) (fun c136 => absurd c136 (by decide +kernel))
    refine g_aload_n (q := 145) dX10_isLine_144 rfl rfl rfl ?_
    refine gf_X10_111 rfl 0 rfl rfl (q := 148) dX10_isLine_145 rfl ?_
    refine g_ldc2 (v := 405230) rfl mkX10_166 (q := 151) dX10_isLine_148 rfl ?_
    refine g_lcmp (q := 152) dX10_isLine_151 rfl ?_
    refine g_if_ne (t := 160) (q := 155) dX10_isLine_152 (by decide) rfl (fun c152 => ?_) (fun c152 => absurd c152 (by decide +kernel))
    refine g_aload_n (q := 161) dX10_isLine_160 rfl rfl rfl ?_
    refine gf_X10_111 rfl 0 rfl rfl (q := 164) dX10_isLine_161 rfl ?_
    refine g_ldc2 (v := 453836) rfl mkX10_168 (q := 167) dX10_isLine_164 rfl ?_
    refine g_lcmp (q := 168) dX10_isLine_167 rfl ?_
    refine g_if_ne (t := 176) (q := 171) dX10_isLine_168 (by decide) rfl (fun c168 => ?_) (fun c168 => absurd c168 (by decide +kernel))
    refine g_aload_n (q := 177) dX10_isLine_176 rfl rfl rfl ?_
    refine gf_X10_111 rfl 0 rfl rfl (q := 180) dX10_isLine_177 rfl ?_
    refine g_ldc2 (v := 279875) rfl mkX10_170 (q := 183) dX10_isLine_180 rfl ?_
    refine g_lcmp (q := 184) dX10_isLine_183 rfl ?_
    refine g_if_ne (t := 192) (q := 187) dX10_isLine_184 (by decide) rfl (fun c184 => ?_) (fun c184 => absurd c184 (by decide +kernel))
    refine g_aload_n (q := 193) dX10_isLine_192 rfl rfl rfl ?_
    refine gf_X10_111 rfl 0 rfl rfl (q := 196) dX10_isLine_193 rfl ?_
    refine g_ldc2 (v := 10334396) rfl mkX10_172 (q := 199) dX10_isLine_196 rfl ?_
    refine g_lcmp (q := 200) dX10_isLine_199 rfl ?_
    refine g_if_ne (t := 208) (q := 203) dX10_isLine_200 (by decide) rfl (fun c200 => ?_) (fun c200 => absurd c200 (by decide +kernel))
    refine g_aload_n (q := 209) dX10_isLine_208 rfl rfl rfl ?_
    refine gf_X10_111 rfl 0 rfl rfl (q := 212) dX10_isLine_209 rfl ?_
    refine g_ldc2 (v := 131360) rfl mkX10_174 (q := 215) dX10_isLine_212 rfl ?_
    refine g_lcmp (q := 216) dX10_isLine_215 rfl ?_
    refine g_if_ne (t := 224) (q := 219) dX10_isLine_216 (by decide) rfl (fun c216 => ?_) (fun c216 => absurd c216 (by decide +kernel))
    refine g_iconst (v := (-1)) (q := 225) dX10_isLine_224 rfl ki_m1 ?_
    refine g_istore_n (lv' := [(0, _), (1, _), (2, _), (3, _)]) (q := 226) dX10_isLine_225 rfl rfl (Nat.le_of_ble_eq_true rfl) rfl ?_
    refine g_aload_n (q := 227) dX10_isLine_226 rfl rfl rfl ?_
    refine gf_X10_26 rfl 0 rfl rfl (q := 230) dX10_isLine_227 rfl ?_
    refine g_iload_n (q := 231) dX10_isLine_230 rfl rfl rfl ?_
    refine g_iload_n (q := 232) dX10_isLine_231 rfl rfl rfl ?_
    refine g_iconst (v := (-1)) (q := 233) dX10_isLine_232 rfl ki_m1 ?_
    refine g_icmp_ne (t := 240) (q := 236) dX10_isLine_233 (by decide) rfl (fun c233 => ?_) (fun c233 => ?_)
    · skip
      refine g_iload_n (q := 241) dX10_isLine_240 rfl rfl rfl ?_
      refine g_iast (f' := (upd rd wi (nI (4)))) 2 rfl (ixIn (j := wi) rfl (by omega) (by decide)) (ixU (j := wi) rfl (by omega)) (ws' := [_, _, (_, .inl (_, _, .inl _))]) rfl (q := 242) dX10_isLine_241 rfl ?_
      refine g_aload_n (q := 243) dX10_isLine_242 rfl rfl rfl ?_
      refine gf_X10_26 rfl 0 rfl rfl (q := 246) dX10_isLine_243 rfl ?_
      refine g_iload_n (q := 247) dX10_isLine_246 rfl rfl rfl ?_
      refine g_iald (v := nI (4)) 2 rfl (ixIn (j := wi) rfl (by omega) (by decide)) (ixVr (by omega)) (q := 248) dX10_isLine_247 rfl ?_
      refine g_tableIn (off := 78) (q := 326) dX10_isLine_248 (by decide) (by decide) (by decide) (by decide) ?_
      refine g_iconst (v := nI 1) (q := 327) dX10_isLine_326 rfl ki_1 ?_
      refine g_iret (st := []) dX10_isLine_327 rfl (narZ (by first | exact Or.inl rfl | exact Or.inr rfl)) rfl ?_
      exact Or.inl ⟨(((4, []), ten tx tl (tsk tx tl e)), (nI (tsk tx tl e), (4351291 : Int64), nI (digV tx tl (tsk tx tl e)), nI (numV tx tl (tsk tx tl e))), upd rd wi (nI (4))), ⟨by simp [lineP, hk, lineK, bd, nums], rdk rdl0⟩, ⟨rfl, rfl⟩⟩
    · exact absurd c233 (by decide)
  · have hk : wdM (tokV tx tl (tsk tx tl e)) = some 5 := by rw [hv]; decide +kernel
    refine g_eq (ws' := [(m0, .inr (10, (.int (nI (nt)) :: .ref mt :: .int (nI (nb)) :: .ref mk :: .ref mb :: .int (nI (lw)) :: .int (nI (sl)) :: .int (nI (tl)) :: .ref mx :: .int (nI (ten tx tl (tsk tx tl e))) :: .int (nI (tsk tx tl e)) :: .long ((6559778 : Int64)) :: .int (nI (digV tx tl (tsk tx tl e))) :: .int (nI (numV tx tl (tsk tx tl e))) :: .int (fa) :: .int (rm_) :: .int (nI (rtn)) :: .int (nI (rbn)) :: .ref mr :: .ref mn :: .ref ma :: .ref mi :: .ref mj :: .int (nI (en)) :: .ref mg :: .int (nI (sn)) :: .ref ms :: .int (nI (dn)) :: .ref md :: .ref mc :: .ref me :: .int (ga) :: .ref mh :: .ref mo :: .ref mw :: []))), (mx, .inl (E.2.1.1, 200, .inl (nA (tx)))), (mr, .inl (E.2.1.1, 50, .inl (rd)))]) ?_ (by rw [hv]) rfl rfl
    refine g_aload_n (q := 5) dX10_isLine_4 rfl rfl rfl ?_
    refine gf_X10_111 rfl 0 rfl rfl (q := 8) dX10_isLine_5 rfl ?_
    refine g_ldc2 (v := 8740238) rfl mkX10_148 (q := 11) dX10_isLine_8 rfl ?_
    refine g_lcmp (q := 12) dX10_isLine_11 rfl ?_
    refine g_if_ne (t := 19) (q := 15) dX10_isLine_12 (by decide) rfl (fun c12 => ?_) (fun c12 => absurd c12 (by decide +kernel))
    refine g_aload_n (q := 20) dX10_isLine_19 rfl rfl rfl ?_
    refine gf_X10_111 rfl 0 rfl rfl (q := 23) dX10_isLine_20 rfl ?_
    refine g_ldc2 (v := 129450) rfl mkX10_150 (q := 26) dX10_isLine_23 rfl ?_
    refine g_lcmp (q := 27) dX10_isLine_26 rfl ?_
    refine g_if_ne (t := 34) (q := 30) dX10_isLine_27 (by decide) rfl (fun c27 => ?_) (fun c27 => absurd c27 (by decide +kernel))
    refine g_aload_n (q := 35) dX10_isLine_34 rfl rfl rfl ?_
    refine gf_X10_111 rfl 0 rfl rfl (q := 38) dX10_isLine_35 rfl ?_
    refine g_ldc2 (v := 158523) rfl mkX10_152 (q := 41) dX10_isLine_38 rfl ?_
    refine g_lcmp (q := 42) dX10_isLine_41 rfl ?_
    refine g_if_ne (t := 49) (q := 45) dX10_isLine_42 (by decide) rfl (fun c42 => ?_) (fun c42 => absurd c42 (by decide +kernel))
    refine g_aload_n (q := 50) dX10_isLine_49 rfl rfl rfl ?_
    refine gf_X10_111 rfl 0 rfl rfl (q := 53) dX10_isLine_50 rfl ?_
    refine g_ldc2 (v := 6465065272) rfl mkX10_154 (q := 56) dX10_isLine_53 rfl ?_
    refine g_lcmp (q := 57) dX10_isLine_56 rfl ?_
    refine g_if_ne (t := 64) (q := 60) dX10_isLine_57 (by decide) rfl (fun c57 => ?_) (fun c57 => absurd c57 (by decide +kernel))
    refine g_aload_n (q := 65) dX10_isLine_64 rfl rfl rfl ?_
    refine gf_X10_111 rfl 0 rfl rfl (q := 68) dX10_isLine_65 rfl ?_
    refine g_ldc2 (v := 4351291) rfl mkX10_156 (q := 71) dX10_isLine_68 rfl ?_
    refine g_lcmp (q := 72) dX10_isLine_71 rfl ?_
    refine g_if_ne (t := 79) (q := 75) dX10_isLine_72 (by decide) rfl (fun c72 => ?_) (fun c72 => absurd c72 (by decide +kernel))
    refine g_aload_n (q := 80) dX10_isLine_79 rfl rfl rfl ?_
    refine gf_X10_111 rfl 0 rfl rfl (q := 83) dX10_isLine_80 rfl ?_
    refine g_ldc2 (v := 6559778) rfl mkX10_158 (q := 86) dX10_isLine_83 rfl ?_
    refine g_lcmp (q := 87) dX10_isLine_86 rfl ?_
    refine g_if_ne (t := 94) (q := 90) dX10_isLine_87 (by decide) rfl (fun c87 => absurd (by decide +kernel) c87) (fun c87 => ?_)
    refine g_iconst (v := nI 5) (q := 91) dX10_isLine_90 rfl ki_5 ?_
    refine g_goto (q := 111) dX10_isLine_91 (by decide) ?_
    refine g_istore_n (lv' := [(0, _), (1, _), (2, _)]) (q := 112) dX10_isLine_111 rfl rfl (Nat.le_of_ble_eq_true rfl) rfl ?_
    refine g_aload_n (q := 113) dX10_isLine_112 rfl rfl rfl ?_
    refine gf_X10_111 rfl 0 rfl rfl (q := 116) dX10_isLine_113 rfl ?_
    refine g_ldc2 (v := 286880) rfl mkX10_162 (q := 119) dX10_isLine_116 rfl ?_
    refine g_lcmp (q := 120) dX10_isLine_119 rfl ?_
    refine g_if_ne (t := 128) (q := 123) dX10_isLine_120 (by decide) rfl (fun c120 => ?_) (fun c120 => absurd c120 (by decide +kernel))
    refine g_aload_n (q := 129) dX10_isLine_128 rfl rfl rfl ?_
    refine gf_X10_111 rfl 0 rfl rfl (q := 132) dX10_isLine_129 rfl ?_
    refine g_ldc2 (v := 174869447) rfl mkX10_164 (q := 135) dX10_isLine_132 rfl ?_
    refine g_lcmp (q := 136) dX10_isLine_135 rfl ?_
    refine g_if_ne (t := 144) (q := 139) dX10_isLine_136 (by decide) rfl (fun c136 => ?_) (fun c136 => absurd c136 (by decide +kernel))
    refine g_aload_n (q := 145) dX10_isLine_144 rfl rfl rfl ?_
    refine gf_X10_111 rfl 0 rfl rfl (q := 148) dX10_isLine_145 rfl ?_
    refine g_ldc2 (v := 405230) rfl mkX10_166 (q := 151) dX10_isLine_148 rfl ?_
    refine g_lcmp (q := 152) dX10_isLine_151 rfl ?_
    refine g_if_ne (t := 160) (q := 155) dX10_isLine_152 (by decide) rfl (fun c152 => ?_) (fun c152 => absurd c152 (by decide +kernel))
    refine g_aload_n (q := 161) dX10_isLine_160 rfl rfl rfl ?_
    refine gf_X10_111 rfl 0 rfl rfl (q := 164) dX10_isLine_161 rfl ?_
    refine g_ldc2 (v := 453836) rfl mkX10_168 (q := 167) dX10_isLine_164 rfl ?_
    refine g_lcmp (q := 168) dX10_isLine_167 rfl ?_
    refine g_if_ne (t := 176) (q := 171) dX10_isLine_168 (by decide) rfl (fun c168 => ?_) (fun c168 => absurd c168 (by decide +kernel))
    refine g_aload_n (q := 177) dX10_isLine_176 rfl rfl rfl ?_
    refine gf_X10_111 rfl 0 rfl rfl (q := 180) dX10_isLine_177 rfl ?_
    refine g_ldc2 (v := 279875) rfl mkX10_170 (q := 183) dX10_isLine_180 rfl ?_
    refine g_lcmp (q := 184) dX10_isLine_183 rfl ?_
    refine g_if_ne (t := 192) (q := 187) dX10_isLine_184 (by decide) rfl (fun c184 => ?_) (fun c184 => absurd c184 (by decide +kernel))
    refine g_aload_n (q := 193) dX10_isLine_192 rfl rfl rfl ?_
    refine gf_X10_111 rfl 0 rfl rfl (q := 196) dX10_isLine_193 rfl ?_
    refine g_ldc2 (v := 10334396) rfl mkX10_172 (q := 199) dX10_isLine_196 rfl ?_
    refine g_lcmp (q := 200) dX10_isLine_199 rfl ?_
    refine g_if_ne (t := 208) (q := 203) dX10_isLine_200 (by decide) rfl (fun c200 => ?_) (fun c200 => absurd c200 (by decide +kernel))
    refine g_aload_n (q := 209) dX10_isLine_208 rfl rfl rfl ?_
    refine gf_X10_111 rfl 0 rfl rfl (q := 212) dX10_isLine_209 rfl ?_
    refine g_ldc2 (v := 131360) rfl mkX10_174 (q := 215) dX10_isLine_212 rfl ?_
    refine g_lcmp (q := 216) dX10_isLine_215 rfl ?_
    refine g_if_ne (t := 224) (q := 219) dX10_isLine_216 (by decide) rfl (fun c216 => ?_) (fun c216 => absurd c216 (by decide +kernel))
    refine g_iconst (v := (-1)) (q := 225) dX10_isLine_224 rfl ki_m1 ?_
    refine g_istore_n (lv' := [(0, _), (1, _), (2, _), (3, _)]) (q := 226) dX10_isLine_225 rfl rfl (Nat.le_of_ble_eq_true rfl) rfl ?_
    refine g_aload_n (q := 227) dX10_isLine_226 rfl rfl rfl ?_
    refine gf_X10_26 rfl 0 rfl rfl (q := 230) dX10_isLine_227 rfl ?_
    refine g_iload_n (q := 231) dX10_isLine_230 rfl rfl rfl ?_
    refine g_iload_n (q := 232) dX10_isLine_231 rfl rfl rfl ?_
    refine g_iconst (v := (-1)) (q := 233) dX10_isLine_232 rfl ki_m1 ?_
    refine g_icmp_ne (t := 240) (q := 236) dX10_isLine_233 (by decide) rfl (fun c233 => ?_) (fun c233 => ?_)
    · skip
      refine g_iload_n (q := 241) dX10_isLine_240 rfl rfl rfl ?_
      refine g_iast (f' := (upd rd wi (nI (5)))) 2 rfl (ixIn (j := wi) rfl (by omega) (by decide)) (ixU (j := wi) rfl (by omega)) (ws' := [_, _, (_, .inl (_, _, .inl _))]) rfl (q := 242) dX10_isLine_241 rfl ?_
      refine g_aload_n (q := 243) dX10_isLine_242 rfl rfl rfl ?_
      refine gf_X10_26 rfl 0 rfl rfl (q := 246) dX10_isLine_243 rfl ?_
      refine g_iload_n (q := 247) dX10_isLine_246 rfl rfl rfl ?_
      refine g_iald (v := nI (5)) 2 rfl (ixIn (j := wi) rfl (by omega) (by decide)) (ixVr (by omega)) (q := 248) dX10_isLine_247 rfl ?_
      refine g_tableIn (off := 78) (q := 326) dX10_isLine_248 (by decide) (by decide) (by decide) (by decide) ?_
      refine g_iconst (v := nI 1) (q := 327) dX10_isLine_326 rfl ki_1 ?_
      refine g_iret (st := []) dX10_isLine_327 rfl (narZ (by first | exact Or.inl rfl | exact Or.inr rfl)) rfl ?_
      exact Or.inl ⟨(((5, []), ten tx tl (tsk tx tl e)), (nI (tsk tx tl e), (6559778 : Int64), nI (digV tx tl (tsk tx tl e)), nI (numV tx tl (tsk tx tl e))), upd rd wi (nI (5))), ⟨by simp [lineP, hk, lineK, bd, nums], rdk rdl0⟩, ⟨rfl, rfl⟩⟩
    · exact absurd c233 (by decide)
  · have hk : wdM (tokV tx tl (tsk tx tl e)) = some 6 := by rw [hv]; decide +kernel
    refine g_eq (ws' := [(m0, .inr (10, (.int (nI (nt)) :: .ref mt :: .int (nI (nb)) :: .ref mk :: .ref mb :: .int (nI (lw)) :: .int (nI (sl)) :: .int (nI (tl)) :: .ref mx :: .int (nI (ten tx tl (tsk tx tl e))) :: .int (nI (tsk tx tl e)) :: .long ((6476969 : Int64)) :: .int (nI (digV tx tl (tsk tx tl e))) :: .int (nI (numV tx tl (tsk tx tl e))) :: .int (fa) :: .int (rm_) :: .int (nI (rtn)) :: .int (nI (rbn)) :: .ref mr :: .ref mn :: .ref ma :: .ref mi :: .ref mj :: .int (nI (en)) :: .ref mg :: .int (nI (sn)) :: .ref ms :: .int (nI (dn)) :: .ref md :: .ref mc :: .ref me :: .int (ga) :: .ref mh :: .ref mo :: .ref mw :: []))), (mx, .inl (E.2.1.1, 200, .inl (nA (tx)))), (mr, .inl (E.2.1.1, 50, .inl (rd)))]) ?_ (by rw [hv]) rfl rfl
    refine g_aload_n (q := 5) dX10_isLine_4 rfl rfl rfl ?_
    refine gf_X10_111 rfl 0 rfl rfl (q := 8) dX10_isLine_5 rfl ?_
    refine g_ldc2 (v := 8740238) rfl mkX10_148 (q := 11) dX10_isLine_8 rfl ?_
    refine g_lcmp (q := 12) dX10_isLine_11 rfl ?_
    refine g_if_ne (t := 19) (q := 15) dX10_isLine_12 (by decide) rfl (fun c12 => ?_) (fun c12 => absurd c12 (by decide +kernel))
    refine g_aload_n (q := 20) dX10_isLine_19 rfl rfl rfl ?_
    refine gf_X10_111 rfl 0 rfl rfl (q := 23) dX10_isLine_20 rfl ?_
    refine g_ldc2 (v := 129450) rfl mkX10_150 (q := 26) dX10_isLine_23 rfl ?_
    refine g_lcmp (q := 27) dX10_isLine_26 rfl ?_
    refine g_if_ne (t := 34) (q := 30) dX10_isLine_27 (by decide) rfl (fun c27 => ?_) (fun c27 => absurd c27 (by decide +kernel))
    refine g_aload_n (q := 35) dX10_isLine_34 rfl rfl rfl ?_
    refine gf_X10_111 rfl 0 rfl rfl (q := 38) dX10_isLine_35 rfl ?_
    refine g_ldc2 (v := 158523) rfl mkX10_152 (q := 41) dX10_isLine_38 rfl ?_
    refine g_lcmp (q := 42) dX10_isLine_41 rfl ?_
    refine g_if_ne (t := 49) (q := 45) dX10_isLine_42 (by decide) rfl (fun c42 => ?_) (fun c42 => absurd c42 (by decide +kernel))
    refine g_aload_n (q := 50) dX10_isLine_49 rfl rfl rfl ?_
    refine gf_X10_111 rfl 0 rfl rfl (q := 53) dX10_isLine_50 rfl ?_
    refine g_ldc2 (v := 6465065272) rfl mkX10_154 (q := 56) dX10_isLine_53 rfl ?_
    refine g_lcmp (q := 57) dX10_isLine_56 rfl ?_
    refine g_if_ne (t := 64) (q := 60) dX10_isLine_57 (by decide) rfl (fun c57 => ?_) (fun c57 => absurd c57 (by decide +kernel))
    refine g_aload_n (q := 65) dX10_isLine_64 rfl rfl rfl ?_
    refine gf_X10_111 rfl 0 rfl rfl (q := 68) dX10_isLine_65 rfl ?_
    refine g_ldc2 (v := 4351291) rfl mkX10_156 (q := 71) dX10_isLine_68 rfl ?_
    refine g_lcmp (q := 72) dX10_isLine_71 rfl ?_
    refine g_if_ne (t := 79) (q := 75) dX10_isLine_72 (by decide) rfl (fun c72 => ?_) (fun c72 => absurd c72 (by decide +kernel))
    refine g_aload_n (q := 80) dX10_isLine_79 rfl rfl rfl ?_
    refine gf_X10_111 rfl 0 rfl rfl (q := 83) dX10_isLine_80 rfl ?_
    refine g_ldc2 (v := 6559778) rfl mkX10_158 (q := 86) dX10_isLine_83 rfl ?_
    refine g_lcmp (q := 87) dX10_isLine_86 rfl ?_
    refine g_if_ne (t := 94) (q := 90) dX10_isLine_87 (by decide) rfl (fun c87 => ?_) (fun c87 => absurd c87 (by decide +kernel))
    refine g_aload_n (q := 95) dX10_isLine_94 rfl rfl rfl ?_
    refine gf_X10_111 rfl 0 rfl rfl (q := 98) dX10_isLine_95 rfl ?_
    refine g_ldc2 (v := 6476969) rfl mkX10_160 (q := 101) dX10_isLine_98 rfl ?_
    refine g_lcmp (q := 102) dX10_isLine_101 rfl ?_
    refine g_if_ne (t := 110) (q := 105) dX10_isLine_102 (by decide) rfl (fun c102 => absurd (by decide +kernel) c102) (fun c102 => ?_)
    refine g_bipush (v := nI 6) (q := 107) dX10_isLine_105 rfl kb_6 ?_
    refine g_goto (q := 111) dX10_isLine_107 (by decide) ?_
    refine g_istore_n (lv' := [(0, _), (1, _), (2, _)]) (q := 112) dX10_isLine_111 rfl rfl (Nat.le_of_ble_eq_true rfl) rfl ?_
    refine g_aload_n (q := 113) dX10_isLine_112 rfl rfl rfl ?_
    refine gf_X10_111 rfl 0 rfl rfl (q := 116) dX10_isLine_113 rfl ?_
    refine g_ldc2 (v := 286880) rfl mkX10_162 (q := 119) dX10_isLine_116 rfl ?_
    refine g_lcmp (q := 120) dX10_isLine_119 rfl ?_
    refine g_if_ne (t := 128) (q := 123) dX10_isLine_120 (by decide) rfl (fun c120 => ?_) (fun c120 => absurd c120 (by decide +kernel))
    refine g_aload_n (q := 129) dX10_isLine_128 rfl rfl rfl ?_
    refine gf_X10_111 rfl 0 rfl rfl (q := 132) dX10_isLine_129 rfl ?_
    refine g_ldc2 (v := 174869447) rfl mkX10_164 (q := 135) dX10_isLine_132 rfl ?_
    refine g_lcmp (q := 136) dX10_isLine_135 rfl ?_
    refine g_if_ne (t := 144) (q := 139) dX10_isLine_136 (by decide) rfl (fun c136 => ?_) (fun c136 => absurd c136 (by decide +kernel))
    refine g_aload_n (q := 145) dX10_isLine_144 rfl rfl rfl ?_
    refine gf_X10_111 rfl 0 rfl rfl (q := 148) dX10_isLine_145 rfl ?_
    refine g_ldc2 (v := 405230) rfl mkX10_166 (q := 151) dX10_isLine_148 rfl ?_
    refine g_lcmp (q := 152) dX10_isLine_151 rfl ?_
    refine g_if_ne (t := 160) (q := 155) dX10_isLine_152 (by decide) rfl (fun c152 => ?_) (fun c152 => absurd c152 (by decide +kernel))
    refine g_aload_n (q := 161) dX10_isLine_160 rfl rfl rfl ?_
    refine gf_X10_111 rfl 0 rfl rfl (q := 164) dX10_isLine_161 rfl ?_
    refine g_ldc2 (v := 453836) rfl mkX10_168 (q := 167) dX10_isLine_164 rfl ?_
    refine g_lcmp (q := 168) dX10_isLine_167 rfl ?_
    refine g_if_ne (t := 176) (q := 171) dX10_isLine_168 (by decide) rfl (fun c168 => ?_) (fun c168 => absurd c168 (by decide +kernel))
    refine g_aload_n (q := 177) dX10_isLine_176 rfl rfl rfl ?_
    refine gf_X10_111 rfl 0 rfl rfl (q := 180) dX10_isLine_177 rfl ?_
    refine g_ldc2 (v := 279875) rfl mkX10_170 (q := 183) dX10_isLine_180 rfl ?_
    refine g_lcmp (q := 184) dX10_isLine_183 rfl ?_
    refine g_if_ne (t := 192) (q := 187) dX10_isLine_184 (by decide) rfl (fun c184 => ?_) (fun c184 => absurd c184 (by decide +kernel))
    refine g_aload_n (q := 193) dX10_isLine_192 rfl rfl rfl ?_
    refine gf_X10_111 rfl 0 rfl rfl (q := 196) dX10_isLine_193 rfl ?_
    refine g_ldc2 (v := 10334396) rfl mkX10_172 (q := 199) dX10_isLine_196 rfl ?_
    refine g_lcmp (q := 200) dX10_isLine_199 rfl ?_
    refine g_if_ne (t := 208) (q := 203) dX10_isLine_200 (by decide) rfl (fun c200 => ?_) (fun c200 => absurd c200 (by decide +kernel))
    refine g_aload_n (q := 209) dX10_isLine_208 rfl rfl rfl ?_
    refine gf_X10_111 rfl 0 rfl rfl (q := 212) dX10_isLine_209 rfl ?_
    refine g_ldc2 (v := 131360) rfl mkX10_174 (q := 215) dX10_isLine_212 rfl ?_
    refine g_lcmp (q := 216) dX10_isLine_215 rfl ?_
    refine g_if_ne (t := 224) (q := 219) dX10_isLine_216 (by decide) rfl (fun c216 => ?_) (fun c216 => absurd c216 (by decide +kernel))
    refine g_iconst (v := (-1)) (q := 225) dX10_isLine_224 rfl ki_m1 ?_
    refine g_istore_n (lv' := [(0, _), (1, _), (2, _), (3, _)]) (q := 226) dX10_isLine_225 rfl rfl (Nat.le_of_ble_eq_true rfl) rfl ?_
    refine g_aload_n (q := 227) dX10_isLine_226 rfl rfl rfl ?_
    refine gf_X10_26 rfl 0 rfl rfl (q := 230) dX10_isLine_227 rfl ?_
    refine g_iload_n (q := 231) dX10_isLine_230 rfl rfl rfl ?_
    refine g_iload_n (q := 232) dX10_isLine_231 rfl rfl rfl ?_
    refine g_iconst (v := (-1)) (q := 233) dX10_isLine_232 rfl ki_m1 ?_
    refine g_icmp_ne (t := 240) (q := 236) dX10_isLine_233 (by decide) rfl (fun c233 => ?_) (fun c233 => ?_)
    · skip
      refine g_iload_n (q := 241) dX10_isLine_240 rfl rfl rfl ?_
      refine g_iast (f' := (upd rd wi (nI (6)))) 2 rfl (ixIn (j := wi) rfl (by omega) (by decide)) (ixU (j := wi) rfl (by omega)) (ws' := [_, _, (_, .inl (_, _, .inl _))]) rfl (q := 242) dX10_isLine_241 rfl ?_
      refine g_aload_n (q := 243) dX10_isLine_242 rfl rfl rfl ?_
      refine gf_X10_26 rfl 0 rfl rfl (q := 246) dX10_isLine_243 rfl ?_
      refine g_iload_n (q := 247) dX10_isLine_246 rfl rfl rfl ?_
      refine g_iald (v := nI (6)) 2 rfl (ixIn (j := wi) rfl (by omega) (by decide)) (ixVr (by omega)) (q := 248) dX10_isLine_247 rfl ?_
      refine g_tableIn (off := 78) (q := 326) dX10_isLine_248 (by decide) (by decide) (by decide) (by decide) ?_
      refine g_iconst (v := nI 1) (q := 327) dX10_isLine_326 rfl ki_1 ?_
      refine g_iret (st := []) dX10_isLine_327 rfl (narZ (by first | exact Or.inl rfl | exact Or.inr rfl)) rfl ?_
      exact Or.inl ⟨(((6, []), ten tx tl (tsk tx tl e)), (nI (tsk tx tl e), (6476969 : Int64), nI (digV tx tl (tsk tx tl e)), nI (numV tx tl (tsk tx tl e))), upd rd wi (nI (6))), ⟨by simp [lineP, hk, lineK, bd, nums], rdk rdl0⟩, ⟨rfl, rfl⟩⟩
    · exact absurd c233 (by decide)
  · have hk : wdM (tokV tx tl (tsk tx tl e)) = some 7 := by rw [hv]; decide +kernel
    refine g_eq (ws' := [(m0, .inr (10, (.int (nI (nt)) :: .ref mt :: .int (nI (nb)) :: .ref mk :: .ref mb :: .int (nI (lw)) :: .int (nI (sl)) :: .int (nI (tl)) :: .ref mx :: .int (nI (ten tx tl (tsk tx tl e))) :: .int (nI (tsk tx tl e)) :: .long ((286880 : Int64)) :: .int (nI (digV tx tl (tsk tx tl e))) :: .int (nI (numV tx tl (tsk tx tl e))) :: .int (fa) :: .int (rm_) :: .int (nI (rtn)) :: .int (nI (rbn)) :: .ref mr :: .ref mn :: .ref ma :: .ref mi :: .ref mj :: .int (nI (en)) :: .ref mg :: .int (nI (sn)) :: .ref ms :: .int (nI (dn)) :: .ref md :: .ref mc :: .ref me :: .int (ga) :: .ref mh :: .ref mo :: .ref mw :: []))), (mx, .inl (E.2.1.1, 200, .inl (nA (tx)))), (mr, .inl (E.2.1.1, 50, .inl (rd)))]) ?_ (by rw [hv]) rfl rfl
    refine g_aload_n (q := 5) dX10_isLine_4 rfl rfl rfl ?_
    refine gf_X10_111 rfl 0 rfl rfl (q := 8) dX10_isLine_5 rfl ?_
    refine g_ldc2 (v := 8740238) rfl mkX10_148 (q := 11) dX10_isLine_8 rfl ?_
    refine g_lcmp (q := 12) dX10_isLine_11 rfl ?_
    refine g_if_ne (t := 19) (q := 15) dX10_isLine_12 (by decide) rfl (fun c12 => ?_) (fun c12 => absurd c12 (by decide +kernel))
    refine g_aload_n (q := 20) dX10_isLine_19 rfl rfl rfl ?_
    refine gf_X10_111 rfl 0 rfl rfl (q := 23) dX10_isLine_20 rfl ?_
    refine g_ldc2 (v := 129450) rfl mkX10_150 (q := 26) dX10_isLine_23 rfl ?_
    refine g_lcmp (q := 27) dX10_isLine_26 rfl ?_
    refine g_if_ne (t := 34) (q := 30) dX10_isLine_27 (by decide) rfl (fun c27 => ?_) (fun c27 => absurd c27 (by decide +kernel))
    refine g_aload_n (q := 35) dX10_isLine_34 rfl rfl rfl ?_
    refine gf_X10_111 rfl 0 rfl rfl (q := 38) dX10_isLine_35 rfl ?_
    refine g_ldc2 (v := 158523) rfl mkX10_152 (q := 41) dX10_isLine_38 rfl ?_
    refine g_lcmp (q := 42) dX10_isLine_41 rfl ?_
    refine g_if_ne (t := 49) (q := 45) dX10_isLine_42 (by decide) rfl (fun c42 => ?_) (fun c42 => absurd c42 (by decide +kernel))
    refine g_aload_n (q := 50) dX10_isLine_49 rfl rfl rfl ?_
    refine gf_X10_111 rfl 0 rfl rfl (q := 53) dX10_isLine_50 rfl ?_
    refine g_ldc2 (v := 6465065272) rfl mkX10_154 (q := 56) dX10_isLine_53 rfl ?_
    refine g_lcmp (q := 57) dX10_isLine_56 rfl ?_
    refine g_if_ne (t := 64) (q := 60) dX10_isLine_57 (by decide) rfl (fun c57 => ?_) (fun c57 => absurd c57 (by decide +kernel))
    refine g_aload_n (q := 65) dX10_isLine_64 rfl rfl rfl ?_
    refine gf_X10_111 rfl 0 rfl rfl (q := 68) dX10_isLine_65 rfl ?_
    refine g_ldc2 (v := 4351291) rfl mkX10_156 (q := 71) dX10_isLine_68 rfl ?_
    refine g_lcmp (q := 72) dX10_isLine_71 rfl ?_
    refine g_if_ne (t := 79) (q := 75) dX10_isLine_72 (by decide) rfl (fun c72 => ?_) (fun c72 => absurd c72 (by decide +kernel))
    refine g_aload_n (q := 80) dX10_isLine_79 rfl rfl rfl ?_
    refine gf_X10_111 rfl 0 rfl rfl (q := 83) dX10_isLine_80 rfl ?_
    refine g_ldc2 (v := 6559778) rfl mkX10_158 (q := 86) dX10_isLine_83 rfl ?_
    refine g_lcmp (q := 87) dX10_isLine_86 rfl ?_
    refine g_if_ne (t := 94) (q := 90) dX10_isLine_87 (by decide) rfl (fun c87 => ?_) (fun c87 => absurd c87 (by decide +kernel))
    refine g_aload_n (q := 95) dX10_isLine_94 rfl rfl rfl ?_
    refine gf_X10_111 rfl 0 rfl rfl (q := 98) dX10_isLine_95 rfl ?_
    refine g_ldc2 (v := 6476969) rfl mkX10_160 (q := 101) dX10_isLine_98 rfl ?_
    refine g_lcmp (q := 102) dX10_isLine_101 rfl ?_
    refine g_if_ne (t := 110) (q := 105) dX10_isLine_102 (by decide) rfl (fun c102 => ?_) (fun c102 => absurd c102 (by decide +kernel))
    refine g_iconst (v := (-1)) (q := 111) dX10_isLine_110 rfl ki_m1 ?_
    refine g_istore_n (lv' := [(0, _), (1, _), (2, _)]) (q := 112) dX10_isLine_111 rfl rfl (Nat.le_of_ble_eq_true rfl) rfl ?_
    refine g_aload_n (q := 113) dX10_isLine_112 rfl rfl rfl ?_
    refine gf_X10_111 rfl 0 rfl rfl (q := 116) dX10_isLine_113 rfl ?_
    refine g_ldc2 (v := 286880) rfl mkX10_162 (q := 119) dX10_isLine_116 rfl ?_
    refine g_lcmp (q := 120) dX10_isLine_119 rfl ?_
    refine g_if_ne (t := 128) (q := 123) dX10_isLine_120 (by decide) rfl (fun c120 => absurd (by decide +kernel) c120) (fun c120 => ?_)
    refine g_bipush (v := nI 7) (q := 125) dX10_isLine_123 rfl kb_7 ?_
    refine g_goto (q := 225) dX10_isLine_125 (by decide) ?_
    refine g_istore_n (lv' := [(0, _), (1, _), (2, _), (3, _)]) (q := 226) dX10_isLine_225 rfl rfl (Nat.le_of_ble_eq_true rfl) rfl ?_
    refine g_aload_n (q := 227) dX10_isLine_226 rfl rfl rfl ?_
    refine gf_X10_26 rfl 0 rfl rfl (q := 230) dX10_isLine_227 rfl ?_
    refine g_iload_n (q := 231) dX10_isLine_230 rfl rfl rfl ?_
    refine g_iload_n (q := 232) dX10_isLine_231 rfl rfl rfl ?_
    refine g_iconst (v := (-1)) (q := 233) dX10_isLine_232 rfl ki_m1 ?_
    refine g_icmp_ne (t := 240) (q := 236) dX10_isLine_233 (by decide) rfl (fun c233 => ?_) (fun c233 => ?_)
    · exact absurd (by decide) c233
    · skip
      refine g_iload_n (q := 237) dX10_isLine_236 rfl rfl rfl ?_
      refine g_goto (q := 241) dX10_isLine_237 (by decide) ?_
      refine g_iast (f' := (upd rd wi (nI (7)))) 2 rfl (ixIn (j := wi) rfl (by omega) (by decide)) (ixU (j := wi) rfl (by omega)) (ws' := [_, _, (_, .inl (_, _, .inl _))]) rfl (q := 242) dX10_isLine_241 rfl ?_
      refine g_aload_n (q := 243) dX10_isLine_242 rfl rfl rfl ?_
      refine gf_X10_26 rfl 0 rfl rfl (q := 246) dX10_isLine_243 rfl ?_
      refine g_iload_n (q := 247) dX10_isLine_246 rfl rfl rfl ?_
      refine g_iald (v := nI (7)) 2 rfl (ixIn (j := wi) rfl (by omega) (by decide)) (ixVr (by omega)) (q := 248) dX10_isLine_247 rfl ?_
      refine g_tableIn (off := 78) (q := 326) dX10_isLine_248 (by decide) (by decide) (by decide) (by decide) ?_
      refine g_iconst (v := nI 1) (q := 327) dX10_isLine_326 rfl ki_1 ?_
      refine g_iret (st := []) dX10_isLine_327 rfl (narZ (by first | exact Or.inl rfl | exact Or.inr rfl)) rfl ?_
      exact Or.inl ⟨(((7, []), ten tx tl (tsk tx tl e)), (nI (tsk tx tl e), (286880 : Int64), nI (digV tx tl (tsk tx tl e)), nI (numV tx tl (tsk tx tl e))), upd rd wi (nI (7))), ⟨by simp [lineP, hk, lineK, bd, nums], rdk rdl0⟩, ⟨rfl, rfl⟩⟩
  · have hk : wdM (tokV tx tl (tsk tx tl e)) = some 8 := by rw [hv]; decide +kernel
    refine g_eq (ws' := [(m0, .inr (10, (.int (nI (nt)) :: .ref mt :: .int (nI (nb)) :: .ref mk :: .ref mb :: .int (nI (lw)) :: .int (nI (sl)) :: .int (nI (tl)) :: .ref mx :: .int (nI (ten tx tl (tsk tx tl e))) :: .int (nI (tsk tx tl e)) :: .long ((174869447 : Int64)) :: .int (nI (digV tx tl (tsk tx tl e))) :: .int (nI (numV tx tl (tsk tx tl e))) :: .int (fa) :: .int (rm_) :: .int (nI (rtn)) :: .int (nI (rbn)) :: .ref mr :: .ref mn :: .ref ma :: .ref mi :: .ref mj :: .int (nI (en)) :: .ref mg :: .int (nI (sn)) :: .ref ms :: .int (nI (dn)) :: .ref md :: .ref mc :: .ref me :: .int (ga) :: .ref mh :: .ref mo :: .ref mw :: []))), (mx, .inl (E.2.1.1, 200, .inl (nA (tx)))), (mr, .inl (E.2.1.1, 50, .inl (rd)))]) ?_ (by rw [hv]) rfl rfl
    refine g_aload_n (q := 5) dX10_isLine_4 rfl rfl rfl ?_
    refine gf_X10_111 rfl 0 rfl rfl (q := 8) dX10_isLine_5 rfl ?_
    refine g_ldc2 (v := 8740238) rfl mkX10_148 (q := 11) dX10_isLine_8 rfl ?_
    refine g_lcmp (q := 12) dX10_isLine_11 rfl ?_
    refine g_if_ne (t := 19) (q := 15) dX10_isLine_12 (by decide) rfl (fun c12 => ?_) (fun c12 => absurd c12 (by decide +kernel))
    refine g_aload_n (q := 20) dX10_isLine_19 rfl rfl rfl ?_
    refine gf_X10_111 rfl 0 rfl rfl (q := 23) dX10_isLine_20 rfl ?_
    refine g_ldc2 (v := 129450) rfl mkX10_150 (q := 26) dX10_isLine_23 rfl ?_
    refine g_lcmp (q := 27) dX10_isLine_26 rfl ?_
    refine g_if_ne (t := 34) (q := 30) dX10_isLine_27 (by decide) rfl (fun c27 => ?_) (fun c27 => absurd c27 (by decide +kernel))
    refine g_aload_n (q := 35) dX10_isLine_34 rfl rfl rfl ?_
    refine gf_X10_111 rfl 0 rfl rfl (q := 38) dX10_isLine_35 rfl ?_
    refine g_ldc2 (v := 158523) rfl mkX10_152 (q := 41) dX10_isLine_38 rfl ?_
    refine g_lcmp (q := 42) dX10_isLine_41 rfl ?_
    refine g_if_ne (t := 49) (q := 45) dX10_isLine_42 (by decide) rfl (fun c42 => ?_) (fun c42 => absurd c42 (by decide +kernel))
    refine g_aload_n (q := 50) dX10_isLine_49 rfl rfl rfl ?_
    refine gf_X10_111 rfl 0 rfl rfl (q := 53) dX10_isLine_50 rfl ?_
    refine g_ldc2 (v := 6465065272) rfl mkX10_154 (q := 56) dX10_isLine_53 rfl ?_
    refine g_lcmp (q := 57) dX10_isLine_56 rfl ?_
    refine g_if_ne (t := 64) (q := 60) dX10_isLine_57 (by decide) rfl (fun c57 => ?_) (fun c57 => absurd c57 (by decide +kernel))
    refine g_aload_n (q := 65) dX10_isLine_64 rfl rfl rfl ?_
    refine gf_X10_111 rfl 0 rfl rfl (q := 68) dX10_isLine_65 rfl ?_
    refine g_ldc2 (v := 4351291) rfl mkX10_156 (q := 71) dX10_isLine_68 rfl ?_
    refine g_lcmp (q := 72) dX10_isLine_71 rfl ?_
    refine g_if_ne (t := 79) (q := 75) dX10_isLine_72 (by decide) rfl (fun c72 => ?_) (fun c72 => absurd c72 (by decide +kernel))
    refine g_aload_n (q := 80) dX10_isLine_79 rfl rfl rfl ?_
    refine gf_X10_111 rfl 0 rfl rfl (q := 83) dX10_isLine_80 rfl ?_
    refine g_ldc2 (v := 6559778) rfl mkX10_158 (q := 86) dX10_isLine_83 rfl ?_
    refine g_lcmp (q := 87) dX10_isLine_86 rfl ?_
    refine g_if_ne (t := 94) (q := 90) dX10_isLine_87 (by decide) rfl (fun c87 => ?_) (fun c87 => absurd c87 (by decide +kernel))
    refine g_aload_n (q := 95) dX10_isLine_94 rfl rfl rfl ?_
    refine gf_X10_111 rfl 0 rfl rfl (q := 98) dX10_isLine_95 rfl ?_
    refine g_ldc2 (v := 6476969) rfl mkX10_160 (q := 101) dX10_isLine_98 rfl ?_
    refine g_lcmp (q := 102) dX10_isLine_101 rfl ?_
    refine g_if_ne (t := 110) (q := 105) dX10_isLine_102 (by decide) rfl (fun c102 => ?_) (fun c102 => absurd c102 (by decide +kernel))
    refine g_iconst (v := (-1)) (q := 111) dX10_isLine_110 rfl ki_m1 ?_
    refine g_istore_n (lv' := [(0, _), (1, _), (2, _)]) (q := 112) dX10_isLine_111 rfl rfl (Nat.le_of_ble_eq_true rfl) rfl ?_
    refine g_aload_n (q := 113) dX10_isLine_112 rfl rfl rfl ?_
    refine gf_X10_111 rfl 0 rfl rfl (q := 116) dX10_isLine_113 rfl ?_
    refine g_ldc2 (v := 286880) rfl mkX10_162 (q := 119) dX10_isLine_116 rfl ?_
    refine g_lcmp (q := 120) dX10_isLine_119 rfl ?_
    refine g_if_ne (t := 128) (q := 123) dX10_isLine_120 (by decide) rfl (fun c120 => ?_) (fun c120 => absurd c120 (by decide +kernel))
    refine g_aload_n (q := 129) dX10_isLine_128 rfl rfl rfl ?_
    refine gf_X10_111 rfl 0 rfl rfl (q := 132) dX10_isLine_129 rfl ?_
    refine g_ldc2 (v := 174869447) rfl mkX10_164 (q := 135) dX10_isLine_132 rfl ?_
    refine g_lcmp (q := 136) dX10_isLine_135 rfl ?_
    refine g_if_ne (t := 144) (q := 139) dX10_isLine_136 (by decide) rfl (fun c136 => absurd (by decide +kernel) c136) (fun c136 => ?_)
    refine g_bipush (v := nI 8) (q := 141) dX10_isLine_139 rfl kb_8 ?_
    refine g_goto (q := 225) dX10_isLine_141 (by decide) ?_
    refine g_istore_n (lv' := [(0, _), (1, _), (2, _), (3, _)]) (q := 226) dX10_isLine_225 rfl rfl (Nat.le_of_ble_eq_true rfl) rfl ?_
    refine g_aload_n (q := 227) dX10_isLine_226 rfl rfl rfl ?_
    refine gf_X10_26 rfl 0 rfl rfl (q := 230) dX10_isLine_227 rfl ?_
    refine g_iload_n (q := 231) dX10_isLine_230 rfl rfl rfl ?_
    refine g_iload_n (q := 232) dX10_isLine_231 rfl rfl rfl ?_
    refine g_iconst (v := (-1)) (q := 233) dX10_isLine_232 rfl ki_m1 ?_
    refine g_icmp_ne (t := 240) (q := 236) dX10_isLine_233 (by decide) rfl (fun c233 => ?_) (fun c233 => ?_)
    · exact absurd (by decide) c233
    · skip
      refine g_iload_n (q := 237) dX10_isLine_236 rfl rfl rfl ?_
      refine g_goto (q := 241) dX10_isLine_237 (by decide) ?_
      refine g_iast (f' := (upd rd wi (nI (8)))) 2 rfl (ixIn (j := wi) rfl (by omega) (by decide)) (ixU (j := wi) rfl (by omega)) (ws' := [_, _, (_, .inl (_, _, .inl _))]) rfl (q := 242) dX10_isLine_241 rfl ?_
      refine g_aload_n (q := 243) dX10_isLine_242 rfl rfl rfl ?_
      refine gf_X10_26 rfl 0 rfl rfl (q := 246) dX10_isLine_243 rfl ?_
      refine g_iload_n (q := 247) dX10_isLine_246 rfl rfl rfl ?_
      refine g_iald (v := nI (8)) 2 rfl (ixIn (j := wi) rfl (by omega) (by decide)) (ixVr (by omega)) (q := 248) dX10_isLine_247 rfl ?_
      refine g_tableIn (off := 80) (q := 328) dX10_isLine_248 (by decide) (by decide) (by decide) (by decide) ?_
      refine g_aload_n (q := 329) dX10_isLine_328 rfl rfl rfl ?_
      refine g_iload_n (q := 330) dX10_isLine_329 rfl rfl rfl ?_
      refine gc_X10_179 (c_isLeague (s := tsk tx tl e) (e := ten tx tl (tsk tx tl e)) he0 hw hr1 hr2 hrb hl htx) rfl (Nat.le_of_ble_eq_true rfl) rfl 0 rfl [0, 1, 2] rfl rfl (rest := []) rfl (Nat.le_of_ble_eq_true rfl) (q := 333) dX10_isLine_330 rfl (exOrE rfl (fun z hz => ?_) (fun z hz => ?_))
      · skip
        refine g_eq (ws' := [(m0, .inr (10, (.int (nI (nt)) :: .ref mt :: .int (nI (nb)) :: .ref mk :: .ref mb :: .int (nI (lw)) :: .int (nI (sl)) :: .int (nI (tl)) :: .ref mx :: .int (nI (z.1.2)) :: .int (z.2.1.1) :: .long (z.2.1.2.1) :: .int (z.2.1.2.2.1) :: .int (z.2.1.2.2.2) :: .int (fa) :: .int (rm_) :: .int (nI (rT rtn z.1.1)) :: .int (nI (rB rbn z.1.1)) :: .ref mr :: .ref mn :: .ref ma :: .ref mi :: .ref mj :: .int (nI (en)) :: .ref mg :: .int (nI (sn)) :: .ref ms :: .int (nI (dn)) :: .ref md :: .ref mc :: .ref me :: .int (ga) :: .ref mh :: .ref mo :: .ref mw :: []))), (mx, .inl (E.2.1.1, 200, .inl (nA (tx)))), (mr, .inl (E.2.1.1, 50, .inl (z.2.2)))]) (st' := [.int (nI (1))]) ?_ rfl rfl rfl
        refine g_iret (st := []) dX10_isLine_333 rfl (narZ (by first | exact Or.inl rfl | exact Or.inr rfl)) rfl ?_
        exact Or.inl ⟨z, ⟨by simp only [lineP, hk]; exact hz.1, rdk_of hz.1 hz.2⟩, ⟨rfl, rfl⟩⟩
      · skip
        refine g_eq (ws' := [(m0, .inr (10, (.int (nI (nt)) :: .ref mt :: .int (nI (nb)) :: .ref mk :: .ref mb :: .int (nI (lw)) :: .int (nI (sl)) :: .int (nI (tl)) :: .ref mx :: .int (z.2.1.1) :: .int (z.2.1.2.1) :: .long (z.2.1.2.2.1) :: .int (z.2.1.2.2.2.1) :: .int (z.2.1.2.2.2.2.1) :: .int (nI (z.1)) :: .int (rm_) :: .int (nI (rtn)) :: .int (z.2.1.2.2.2.2.2) :: .ref mr :: .ref mn :: .ref ma :: .ref mi :: .ref mj :: .int (nI (en)) :: .ref mg :: .int (nI (sn)) :: .ref ms :: .int (nI (dn)) :: .ref md :: .ref mc :: .ref me :: .int (ga) :: .ref mh :: .ref mo :: .ref mw :: []))), (mx, .inl (E.2.1.1, 200, .inl (nA (tx)))), (mr, .inl (E.2.1.1, 50, .inl (z.2.2)))]) (st' := [.int (nI (0))]) ?_ rfl rfl rfl
        refine g_iret (st := []) dX10_isLine_333 rfl (narZ (by first | exact Or.inl rfl | exact Or.inr rfl)) rfl ?_
        exact Or.inr ⟨z, by simp only [lineP, hk]; exact hz, ⟨rfl, rfl⟩⟩
  · have hk : wdM (tokV tx tl (tsk tx tl e)) = some 9 := by rw [hv]; decide +kernel
    refine g_eq (ws' := [(m0, .inr (10, (.int (nI (nt)) :: .ref mt :: .int (nI (nb)) :: .ref mk :: .ref mb :: .int (nI (lw)) :: .int (nI (sl)) :: .int (nI (tl)) :: .ref mx :: .int (nI (ten tx tl (tsk tx tl e))) :: .int (nI (tsk tx tl e)) :: .long ((405230 : Int64)) :: .int (nI (digV tx tl (tsk tx tl e))) :: .int (nI (numV tx tl (tsk tx tl e))) :: .int (fa) :: .int (rm_) :: .int (nI (rtn)) :: .int (nI (rbn)) :: .ref mr :: .ref mn :: .ref ma :: .ref mi :: .ref mj :: .int (nI (en)) :: .ref mg :: .int (nI (sn)) :: .ref ms :: .int (nI (dn)) :: .ref md :: .ref mc :: .ref me :: .int (ga) :: .ref mh :: .ref mo :: .ref mw :: []))), (mx, .inl (E.2.1.1, 200, .inl (nA (tx)))), (mr, .inl (E.2.1.1, 50, .inl (rd)))]) ?_ (by rw [hv]) rfl rfl
    refine g_aload_n (q := 5) dX10_isLine_4 rfl rfl rfl ?_
    refine gf_X10_111 rfl 0 rfl rfl (q := 8) dX10_isLine_5 rfl ?_
    refine g_ldc2 (v := 8740238) rfl mkX10_148 (q := 11) dX10_isLine_8 rfl ?_
    refine g_lcmp (q := 12) dX10_isLine_11 rfl ?_
    refine g_if_ne (t := 19) (q := 15) dX10_isLine_12 (by decide) rfl (fun c12 => ?_) (fun c12 => absurd c12 (by decide +kernel))
    refine g_aload_n (q := 20) dX10_isLine_19 rfl rfl rfl ?_
    refine gf_X10_111 rfl 0 rfl rfl (q := 23) dX10_isLine_20 rfl ?_
    refine g_ldc2 (v := 129450) rfl mkX10_150 (q := 26) dX10_isLine_23 rfl ?_
    refine g_lcmp (q := 27) dX10_isLine_26 rfl ?_
    refine g_if_ne (t := 34) (q := 30) dX10_isLine_27 (by decide) rfl (fun c27 => ?_) (fun c27 => absurd c27 (by decide +kernel))
    refine g_aload_n (q := 35) dX10_isLine_34 rfl rfl rfl ?_
    refine gf_X10_111 rfl 0 rfl rfl (q := 38) dX10_isLine_35 rfl ?_
    refine g_ldc2 (v := 158523) rfl mkX10_152 (q := 41) dX10_isLine_38 rfl ?_
    refine g_lcmp (q := 42) dX10_isLine_41 rfl ?_
    refine g_if_ne (t := 49) (q := 45) dX10_isLine_42 (by decide) rfl (fun c42 => ?_) (fun c42 => absurd c42 (by decide +kernel))
    refine g_aload_n (q := 50) dX10_isLine_49 rfl rfl rfl ?_
    refine gf_X10_111 rfl 0 rfl rfl (q := 53) dX10_isLine_50 rfl ?_
    refine g_ldc2 (v := 6465065272) rfl mkX10_154 (q := 56) dX10_isLine_53 rfl ?_
    refine g_lcmp (q := 57) dX10_isLine_56 rfl ?_
    refine g_if_ne (t := 64) (q := 60) dX10_isLine_57 (by decide) rfl (fun c57 => ?_) (fun c57 => absurd c57 (by decide +kernel))
    refine g_aload_n (q := 65) dX10_isLine_64 rfl rfl rfl ?_
    refine gf_X10_111 rfl 0 rfl rfl (q := 68) dX10_isLine_65 rfl ?_
    refine g_ldc2 (v := 4351291) rfl mkX10_156 (q := 71) dX10_isLine_68 rfl ?_
    refine g_lcmp (q := 72) dX10_isLine_71 rfl ?_
    refine g_if_ne (t := 79) (q := 75) dX10_isLine_72 (by decide) rfl (fun c72 => ?_) (fun c72 => absurd c72 (by decide +kernel))
    refine g_aload_n (q := 80) dX10_isLine_79 rfl rfl rfl ?_
    refine gf_X10_111 rfl 0 rfl rfl (q := 83) dX10_isLine_80 rfl ?_
    refine g_ldc2 (v := 6559778) rfl mkX10_158 (q := 86) dX10_isLine_83 rfl ?_
    refine g_lcmp (q := 87) dX10_isLine_86 rfl ?_
    refine g_if_ne (t := 94) (q := 90) dX10_isLine_87 (by decide) rfl (fun c87 => ?_) (fun c87 => absurd c87 (by decide +kernel))
    refine g_aload_n (q := 95) dX10_isLine_94 rfl rfl rfl ?_
    refine gf_X10_111 rfl 0 rfl rfl (q := 98) dX10_isLine_95 rfl ?_
    refine g_ldc2 (v := 6476969) rfl mkX10_160 (q := 101) dX10_isLine_98 rfl ?_
    refine g_lcmp (q := 102) dX10_isLine_101 rfl ?_
    refine g_if_ne (t := 110) (q := 105) dX10_isLine_102 (by decide) rfl (fun c102 => ?_) (fun c102 => absurd c102 (by decide +kernel))
    refine g_iconst (v := (-1)) (q := 111) dX10_isLine_110 rfl ki_m1 ?_
    refine g_istore_n (lv' := [(0, _), (1, _), (2, _)]) (q := 112) dX10_isLine_111 rfl rfl (Nat.le_of_ble_eq_true rfl) rfl ?_
    refine g_aload_n (q := 113) dX10_isLine_112 rfl rfl rfl ?_
    refine gf_X10_111 rfl 0 rfl rfl (q := 116) dX10_isLine_113 rfl ?_
    refine g_ldc2 (v := 286880) rfl mkX10_162 (q := 119) dX10_isLine_116 rfl ?_
    refine g_lcmp (q := 120) dX10_isLine_119 rfl ?_
    refine g_if_ne (t := 128) (q := 123) dX10_isLine_120 (by decide) rfl (fun c120 => ?_) (fun c120 => absurd c120 (by decide +kernel))
    refine g_aload_n (q := 129) dX10_isLine_128 rfl rfl rfl ?_
    refine gf_X10_111 rfl 0 rfl rfl (q := 132) dX10_isLine_129 rfl ?_
    refine g_ldc2 (v := 174869447) rfl mkX10_164 (q := 135) dX10_isLine_132 rfl ?_
    refine g_lcmp (q := 136) dX10_isLine_135 rfl ?_
    refine g_if_ne (t := 144) (q := 139) dX10_isLine_136 (by decide) rfl (fun c136 => ?_) (fun c136 => absurd c136 (by decide +kernel))
    refine g_aload_n (q := 145) dX10_isLine_144 rfl rfl rfl ?_
    refine gf_X10_111 rfl 0 rfl rfl (q := 148) dX10_isLine_145 rfl ?_
    refine g_ldc2 (v := 405230) rfl mkX10_166 (q := 151) dX10_isLine_148 rfl ?_
    refine g_lcmp (q := 152) dX10_isLine_151 rfl ?_
    refine g_if_ne (t := 160) (q := 155) dX10_isLine_152 (by decide) rfl (fun c152 => absurd (by decide +kernel) c152) (fun c152 => ?_)
    refine g_bipush (v := nI 9) (q := 157) dX10_isLine_155 rfl kb_9 ?_
    refine g_goto (q := 225) dX10_isLine_157 (by decide) ?_
    refine g_istore_n (lv' := [(0, _), (1, _), (2, _), (3, _)]) (q := 226) dX10_isLine_225 rfl rfl (Nat.le_of_ble_eq_true rfl) rfl ?_
    refine g_aload_n (q := 227) dX10_isLine_226 rfl rfl rfl ?_
    refine gf_X10_26 rfl 0 rfl rfl (q := 230) dX10_isLine_227 rfl ?_
    refine g_iload_n (q := 231) dX10_isLine_230 rfl rfl rfl ?_
    refine g_iload_n (q := 232) dX10_isLine_231 rfl rfl rfl ?_
    refine g_iconst (v := (-1)) (q := 233) dX10_isLine_232 rfl ki_m1 ?_
    refine g_icmp_ne (t := 240) (q := 236) dX10_isLine_233 (by decide) rfl (fun c233 => ?_) (fun c233 => ?_)
    · exact absurd (by decide) c233
    · skip
      refine g_iload_n (q := 237) dX10_isLine_236 rfl rfl rfl ?_
      refine g_goto (q := 241) dX10_isLine_237 (by decide) ?_
      refine g_iast (f' := (upd rd wi (nI (9)))) 2 rfl (ixIn (j := wi) rfl (by omega) (by decide)) (ixU (j := wi) rfl (by omega)) (ws' := [_, _, (_, .inl (_, _, .inl _))]) rfl (q := 242) dX10_isLine_241 rfl ?_
      refine g_aload_n (q := 243) dX10_isLine_242 rfl rfl rfl ?_
      refine gf_X10_26 rfl 0 rfl rfl (q := 246) dX10_isLine_243 rfl ?_
      refine g_iload_n (q := 247) dX10_isLine_246 rfl rfl rfl ?_
      refine g_iald (v := nI (9)) 2 rfl (ixIn (j := wi) rfl (by omega) (by decide)) (ixVr (by omega)) (q := 248) dX10_isLine_247 rfl ?_
      refine g_tableIn (off := 86) (q := 334) dX10_isLine_248 (by decide) (by decide) (by decide) (by decide) ?_
      refine g_aload_n (q := 335) dX10_isLine_334 rfl rfl rfl ?_
      refine g_iload_n (q := 336) dX10_isLine_335 rfl rfl rfl ?_
      refine g_iconst (v := nI 1) (q := 337) dX10_isLine_336 rfl ki_1 ?_
      refine g_iaddN (q := 338) dX10_isLine_337 rfl ?_
      refine gc_X10_144 (c_isPlace (e := ten tx tl (tsk tx tl e)) he0 (by omega) hr1 hr2 hl htx) rfl (Nat.le_of_ble_eq_true rfl) rfl 0 rfl [0, 1, 2] rfl rfl (rest := []) rfl (Nat.le_of_ble_eq_true rfl) (q := 341) dX10_isLine_338 rfl (exOrM rfl (fun hn0 => ?_) (fun hn0 => ?_))
      · skip
        refine g_eq (ws' := [(m0, .inr (10, (.int (nI (nt)) :: .ref mt :: .int (nI (nb)) :: .ref mk :: .ref mb :: .int (nI (lw)) :: .int (nI (sl)) :: .int (nI (tl)) :: .ref mx :: .int (nI (ten tx tl (tsk tx tl (ten tx tl (tsk tx tl e))))) :: .int (nI (tsk tx tl (ten tx tl (tsk tx tl e)))) :: .long (tokV tx tl (tsk tx tl (ten tx tl (tsk tx tl e)))) :: .int (nI (digV tx tl (tsk tx tl (ten tx tl (tsk tx tl e))))) :: .int (nI (numV tx tl (tsk tx tl (ten tx tl (tsk tx tl e))))) :: .int (fa) :: .int (rm_) :: .int (nI (rtn)) :: .int (nI (rbn)) :: .ref mr :: .ref mn :: .ref ma :: .ref mi :: .ref mj :: .int (nI (en)) :: .ref mg :: .int (nI (sn)) :: .ref ms :: .int (nI (dn)) :: .ref md :: .ref mc :: .ref me :: .int (ga) :: .ref mh :: .ref mo :: .ref mw :: []))), (mx, .inl (E.2.1.1, 200, .inl (nA (tx)))), (mr, .inl (E.2.1.1, 50, .inl (upd (upd rd wi (nI (9))) (wi + 1) (nI (nvl tx tl (tsk tx tl (ten tx tl (tsk tx tl e))))))))]) (st' := [.int (nI (1))]) ?_ rfl rfl rfl
        refine g_if_eqN (t := 385) (q := 344) dX10_isLine_341 (by decide) rfl (by omega) (fun c341 => ?_) (fun c341 => ?_)
        · omega
        · skip
          refine g_aload_n (q := 345) dX10_isLine_344 rfl rfl rfl ?_
          refine g_iload_n (q := 346) dX10_isLine_345 rfl rfl rfl ?_
          refine g_iconst (v := nI 2) (q := 347) dX10_isLine_346 rfl ki_2 ?_
          refine g_iaddN (q := 348) dX10_isLine_347 rfl ?_
          refine g_iconst (v := nI 0) (q := 349) dX10_isLine_348 rfl ki_0 ?_
          refine g_iconst (v := nI 3) (q := 350) dX10_isLine_349 rfl ki_3 ?_
          have he1 := nt_le (tx := tx) he0
          have hb0 := numB_t hn0
          refine gc_X10_138 (c_isNumber (e := ten tx tl (tsk tx tl (ten tx tl (tsk tx tl e)))) he1 (by omega) (by omega) (by omega) hl htx) rfl (Nat.le_of_ble_eq_true rfl) rfl 0 rfl [0, 1, 2] rfl rfl (rest := []) rfl (Nat.le_of_ble_eq_true rfl) (q := 353) dX10_isLine_350 rfl (exOrM rfl (fun hn1 => ?_) (fun hn1 => ?_))
          · skip
            refine g_eq (ws' := [(m0, .inr (10, (.int (nI (nt)) :: .ref mt :: .int (nI (nb)) :: .ref mk :: .ref mb :: .int (nI (lw)) :: .int (nI (sl)) :: .int (nI (tl)) :: .ref mx :: .int (nI (ten tx tl (tsk tx tl (ten tx tl (tsk tx tl (ten tx tl (tsk tx tl e))))))) :: .int (nI (tsk tx tl (ten tx tl (tsk tx tl (ten tx tl (tsk tx tl e)))))) :: .long (tokV tx tl (tsk tx tl (ten tx tl (tsk tx tl (ten tx tl (tsk tx tl e)))))) :: .int (nI (digV tx tl (tsk tx tl (ten tx tl (tsk tx tl (ten tx tl (tsk tx tl e))))))) :: .int (nI (numV tx tl (tsk tx tl (ten tx tl (tsk tx tl (ten tx tl (tsk tx tl e))))))) :: .int (fa) :: .int (rm_) :: .int (nI (rtn)) :: .int (nI (rbn)) :: .ref mr :: .ref mn :: .ref ma :: .ref mi :: .ref mj :: .int (nI (en)) :: .ref mg :: .int (nI (sn)) :: .ref ms :: .int (nI (dn)) :: .ref md :: .ref mc :: .ref me :: .int (ga) :: .ref mh :: .ref mo :: .ref mw :: []))), (mx, .inl (E.2.1.1, 200, .inl (nA (tx)))), (mr, .inl (E.2.1.1, 50, .inl (upd (upd (upd rd wi (nI (9))) (wi + 1) (nI (nvl tx tl (tsk tx tl (ten tx tl (tsk tx tl e)))))) (wi + 2) (nI (nvl tx tl (tsk tx tl (ten tx tl (tsk tx tl (ten tx tl (tsk tx tl e))))))))))]) (st' := [.int (nI (1))]) ?_ rfl rfl rfl
            refine g_if_eqN (t := 385) (q := 356) dX10_isLine_353 (by decide) rfl (by omega) (fun c353 => ?_) (fun c353 => ?_)
            · omega
            · skip
              refine g_aload_n (q := 357) dX10_isLine_356 rfl rfl rfl ?_
              refine g_iload_n (q := 358) dX10_isLine_357 rfl rfl rfl ?_
              refine g_iconst (v := nI 3) (q := 359) dX10_isLine_358 rfl ki_3 ?_
              refine g_iaddN (q := 360) dX10_isLine_359 rfl ?_
              refine g_iconst (v := nI 1) (q := 361) dX10_isLine_360 rfl ki_1 ?_
              refine g_bipush (v := nI 9) (q := 363) dX10_isLine_361 rfl kb_9 ?_
              have he2 := nt_le (tx := tx) he1
              have hb1 := numB_t hn1
              refine gc_X10_138 (c_isNumber (e := ten tx tl (tsk tx tl (ten tx tl (tsk tx tl (ten tx tl (tsk tx tl e)))))) he2 (by omega) (by omega) (by omega) hl htx) rfl (Nat.le_of_ble_eq_true rfl) rfl 0 rfl [0, 1, 2] rfl rfl (rest := []) rfl (Nat.le_of_ble_eq_true rfl) (q := 366) dX10_isLine_363 rfl (exOrM rfl (fun hn2 => ?_) (fun hn2 => ?_))
              · skip
                refine g_eq (ws' := [(m0, .inr (10, (.int (nI (nt)) :: .ref mt :: .int (nI (nb)) :: .ref mk :: .ref mb :: .int (nI (lw)) :: .int (nI (sl)) :: .int (nI (tl)) :: .ref mx :: .int (nI (ten tx tl (tsk tx tl (ten tx tl (tsk tx tl (ten tx tl (tsk tx tl (ten tx tl (tsk tx tl e))))))))) :: .int (nI (tsk tx tl (ten tx tl (tsk tx tl (ten tx tl (tsk tx tl (ten tx tl (tsk tx tl e)))))))) :: .long (tokV tx tl (tsk tx tl (ten tx tl (tsk tx tl (ten tx tl (tsk tx tl (ten tx tl (tsk tx tl e)))))))) :: .int (nI (digV tx tl (tsk tx tl (ten tx tl (tsk tx tl (ten tx tl (tsk tx tl (ten tx tl (tsk tx tl e))))))))) :: .int (nI (numV tx tl (tsk tx tl (ten tx tl (tsk tx tl (ten tx tl (tsk tx tl (ten tx tl (tsk tx tl e))))))))) :: .int (fa) :: .int (rm_) :: .int (nI (rtn)) :: .int (nI (rbn)) :: .ref mr :: .ref mn :: .ref ma :: .ref mi :: .ref mj :: .int (nI (en)) :: .ref mg :: .int (nI (sn)) :: .ref ms :: .int (nI (dn)) :: .ref md :: .ref mc :: .ref me :: .int (ga) :: .ref mh :: .ref mo :: .ref mw :: []))), (mx, .inl (E.2.1.1, 200, .inl (nA (tx)))), (mr, .inl (E.2.1.1, 50, .inl (upd (upd (upd (upd rd wi (nI (9))) (wi + 1) (nI (nvl tx tl (tsk tx tl (ten tx tl (tsk tx tl e)))))) (wi + 2) (nI (nvl tx tl (tsk tx tl (ten tx tl (tsk tx tl (ten tx tl (tsk tx tl e)))))))) (wi + 3) (nI (nvl tx tl (tsk tx tl (ten tx tl (tsk tx tl (ten tx tl (tsk tx tl (ten tx tl (tsk tx tl e))))))))))))]) (st' := [.int (nI (1))]) ?_ rfl rfl rfl
                refine g_if_eqN (t := 385) (q := 369) dX10_isLine_366 (by decide) rfl (by omega) (fun c366 => ?_) (fun c366 => ?_)
                · omega
                · skip
                  refine g_aload_n (q := 370) dX10_isLine_369 rfl rfl rfl ?_
                  refine g_iload_n (q := 371) dX10_isLine_370 rfl rfl rfl ?_
                  refine g_iconst (v := nI 4) (q := 372) dX10_isLine_371 rfl ki_4 ?_
                  refine g_iaddN (q := 373) dX10_isLine_372 rfl ?_
                  refine g_iconst (v := nI 0) (q := 374) dX10_isLine_373 rfl ki_0 ?_
                  refine g_iconst (v := nI 3) (q := 375) dX10_isLine_374 rfl ki_3 ?_
                  have he3 := nt_le (tx := tx) he2
                  have hb2 := numB_t hn2
                  refine gc_X10_138 (c_isNumber (e := ten tx tl (tsk tx tl (ten tx tl (tsk tx tl (ten tx tl (tsk tx tl (ten tx tl (tsk tx tl e)))))))) he3 (by omega) (by omega) (by omega) hl htx) rfl (Nat.le_of_ble_eq_true rfl) rfl 0 rfl [0, 1, 2] rfl rfl (rest := []) rfl (Nat.le_of_ble_eq_true rfl) (q := 378) dX10_isLine_375 rfl (exOrM rfl (fun hn3 => ?_) (fun hn3 => ?_))
                  · skip
                    refine g_eq (ws' := [(m0, .inr (10, (.int (nI (nt)) :: .ref mt :: .int (nI (nb)) :: .ref mk :: .ref mb :: .int (nI (lw)) :: .int (nI (sl)) :: .int (nI (tl)) :: .ref mx :: .int (nI (ten tx tl (tsk tx tl (ten tx tl (tsk tx tl (ten tx tl (tsk tx tl (ten tx tl (tsk tx tl (ten tx tl (tsk tx tl e))))))))))) :: .int (nI (tsk tx tl (ten tx tl (tsk tx tl (ten tx tl (tsk tx tl (ten tx tl (tsk tx tl (ten tx tl (tsk tx tl e)))))))))) :: .long (tokV tx tl (tsk tx tl (ten tx tl (tsk tx tl (ten tx tl (tsk tx tl (ten tx tl (tsk tx tl (ten tx tl (tsk tx tl e)))))))))) :: .int (nI (digV tx tl (tsk tx tl (ten tx tl (tsk tx tl (ten tx tl (tsk tx tl (ten tx tl (tsk tx tl (ten tx tl (tsk tx tl e))))))))))) :: .int (nI (numV tx tl (tsk tx tl (ten tx tl (tsk tx tl (ten tx tl (tsk tx tl (ten tx tl (tsk tx tl (ten tx tl (tsk tx tl e))))))))))) :: .int (fa) :: .int (rm_) :: .int (nI (rtn)) :: .int (nI (rbn)) :: .ref mr :: .ref mn :: .ref ma :: .ref mi :: .ref mj :: .int (nI (en)) :: .ref mg :: .int (nI (sn)) :: .ref ms :: .int (nI (dn)) :: .ref md :: .ref mc :: .ref me :: .int (ga) :: .ref mh :: .ref mo :: .ref mw :: []))), (mx, .inl (E.2.1.1, 200, .inl (nA (tx)))), (mr, .inl (E.2.1.1, 50, .inl (upd (upd (upd (upd (upd rd wi (nI (9))) (wi + 1) (nI (nvl tx tl (tsk tx tl (ten tx tl (tsk tx tl e)))))) (wi + 2) (nI (nvl tx tl (tsk tx tl (ten tx tl (tsk tx tl (ten tx tl (tsk tx tl e)))))))) (wi + 3) (nI (nvl tx tl (tsk tx tl (ten tx tl (tsk tx tl (ten tx tl (tsk tx tl (ten tx tl (tsk tx tl e)))))))))) (wi + 4) (nI (nvl tx tl (tsk tx tl (ten tx tl (tsk tx tl (ten tx tl (tsk tx tl (ten tx tl (tsk tx tl (ten tx tl (tsk tx tl e))))))))))))))]) (st' := [.int (nI (1))]) ?_ rfl rfl rfl
                    refine g_if_eqN (t := 385) (q := 381) dX10_isLine_378 (by decide) rfl (by omega) (fun c378 => ?_) (fun c378 => ?_)
                    · omega
                    · skip
                      refine g_iconst (v := nI 1) (q := 382) dX10_isLine_381 rfl ki_1 ?_
                      refine g_goto (q := 386) dX10_isLine_382 (by decide) ?_
                      refine g_iret (st := []) dX10_isLine_386 rfl (narZ (by first | exact Or.inl rfl | exact Or.inr rfl)) rfl ?_
                      exact Or.inl ⟨(((9, [nvl tx tl (tsk tx tl (ten tx tl (tsk tx tl e))), nvl tx tl (tsk tx tl (ten tx tl (tsk tx tl (ten tx tl (tsk tx tl e))))), nvl tx tl (tsk tx tl (ten tx tl (tsk tx tl (ten tx tl (tsk tx tl (ten tx tl (tsk tx tl e))))))), nvl tx tl (tsk tx tl (ten tx tl (tsk tx tl (ten tx tl (tsk tx tl (ten tx tl (tsk tx tl (ten tx tl (tsk tx tl e)))))))))]), ten tx tl (tsk tx tl (ten tx tl (tsk tx tl (ten tx tl (tsk tx tl (ten tx tl (tsk tx tl (ten tx tl (tsk tx tl e)))))))))), (nI (tsk tx tl (ten tx tl (tsk tx tl (ten tx tl (tsk tx tl (ten tx tl (tsk tx tl (ten tx tl (tsk tx tl e))))))))), tokV tx tl (tsk tx tl (ten tx tl (tsk tx tl (ten tx tl (tsk tx tl (ten tx tl (tsk tx tl (ten tx tl (tsk tx tl e))))))))), nI (digV tx tl (tsk tx tl (ten tx tl (tsk tx tl (ten tx tl (tsk tx tl (ten tx tl (tsk tx tl (ten tx tl (tsk tx tl e)))))))))), nI (numV tx tl (tsk tx tl (ten tx tl (tsk tx tl (ten tx tl (tsk tx tl (ten tx tl (tsk tx tl (ten tx tl (tsk tx tl e))))))))))), upd (upd (upd (upd (upd rd wi (nI (9))) (wi + 1) (nI (nvl tx tl (tsk tx tl (ten tx tl (tsk tx tl e)))))) (wi + 2) (nI (nvl tx tl (tsk tx tl (ten tx tl (tsk tx tl (ten tx tl (tsk tx tl e)))))))) (wi + 3) (nI (nvl tx tl (tsk tx tl (ten tx tl (tsk tx tl (ten tx tl (tsk tx tl (ten tx tl (tsk tx tl e)))))))))) (wi + 4) (nI (nvl tx tl (tsk tx tl (ten tx tl (tsk tx tl (ten tx tl (tsk tx tl (ten tx tl (tsk tx tl (ten tx tl (tsk tx tl e)))))))))))), ⟨by simp [lineP, hk, lineK, bd, nums, hn0, hn1, hn2, hn3], rdk rdl4⟩, ⟨rfl, rfl⟩⟩
                  · skip
                    refine g_eq (ws' := [(m0, .inr (10, (.int (nI (nt)) :: .ref mt :: .int (nI (nb)) :: .ref mk :: .ref mb :: .int (nI (lw)) :: .int (nI (sl)) :: .int (nI (tl)) :: .ref mx :: .int (nI (ten tx tl (tsk tx tl (ten tx tl (tsk tx tl (ten tx tl (tsk tx tl (ten tx tl (tsk tx tl (ten tx tl (tsk tx tl e))))))))))) :: .int (nI (tsk tx tl (ten tx tl (tsk tx tl (ten tx tl (tsk tx tl (ten tx tl (tsk tx tl (ten tx tl (tsk tx tl e)))))))))) :: .long (tokV tx tl (tsk tx tl (ten tx tl (tsk tx tl (ten tx tl (tsk tx tl (ten tx tl (tsk tx tl (ten tx tl (tsk tx tl e)))))))))) :: .int (nI (digV tx tl (tsk tx tl (ten tx tl (tsk tx tl (ten tx tl (tsk tx tl (ten tx tl (tsk tx tl (ten tx tl (tsk tx tl e))))))))))) :: .int (nI (numV tx tl (tsk tx tl (ten tx tl (tsk tx tl (ten tx tl (tsk tx tl (ten tx tl (tsk tx tl (ten tx tl (tsk tx tl e))))))))))) :: .int (nI (tsk tx tl (ten tx tl (tsk tx tl (ten tx tl (tsk tx tl (ten tx tl (tsk tx tl (ten tx tl (tsk tx tl e)))))))))) :: .int (rm_) :: .int (nI (rtn)) :: .int (nI (rbn)) :: .ref mr :: .ref mn :: .ref ma :: .ref mi :: .ref mj :: .int (nI (en)) :: .ref mg :: .int (nI (sn)) :: .ref ms :: .int (nI (dn)) :: .ref md :: .ref mc :: .ref me :: .int (ga) :: .ref mh :: .ref mo :: .ref mw :: []))), (mx, .inl (E.2.1.1, 200, .inl (nA (tx)))), (mr, .inl (E.2.1.1, 50, .inl (upd (upd (upd (upd rd wi (nI (9))) (wi + 1) (nI (nvl tx tl (tsk tx tl (ten tx tl (tsk tx tl e)))))) (wi + 2) (nI (nvl tx tl (tsk tx tl (ten tx tl (tsk tx tl (ten tx tl (tsk tx tl e)))))))) (wi + 3) (nI (nvl tx tl (tsk tx tl (ten tx tl (tsk tx tl (ten tx tl (tsk tx tl (ten tx tl (tsk tx tl e))))))))))))]) (st' := [.int (nI (0))]) ?_ rfl rfl rfl
                    refine g_if_eqN (t := 385) (q := 381) dX10_isLine_378 (by decide) rfl (by omega) (fun c378 => ?_) (fun c378 => ?_)
                    · skip
                      refine g_iconst (v := nI 0) (q := 386) dX10_isLine_385 rfl ki_0 ?_
                      refine g_iret (st := []) dX10_isLine_386 rfl (narZ (by first | exact Or.inl rfl | exact Or.inr rfl)) rfl ?_
                      exact Or.inr ⟨(tsk tx tl (ten tx tl (tsk tx tl (ten tx tl (tsk tx tl (ten tx tl (tsk tx tl (ten tx tl (tsk tx tl e)))))))), (nI (ten tx tl (tsk tx tl (ten tx tl (tsk tx tl (ten tx tl (tsk tx tl (ten tx tl (tsk tx tl (ten tx tl (tsk tx tl e)))))))))), nI (tsk tx tl (ten tx tl (tsk tx tl (ten tx tl (tsk tx tl (ten tx tl (tsk tx tl (ten tx tl (tsk tx tl e))))))))), tokV tx tl (tsk tx tl (ten tx tl (tsk tx tl (ten tx tl (tsk tx tl (ten tx tl (tsk tx tl (ten tx tl (tsk tx tl e))))))))), nI (digV tx tl (tsk tx tl (ten tx tl (tsk tx tl (ten tx tl (tsk tx tl (ten tx tl (tsk tx tl (ten tx tl (tsk tx tl e)))))))))), nI (numV tx tl (tsk tx tl (ten tx tl (tsk tx tl (ten tx tl (tsk tx tl (ten tx tl (tsk tx tl (ten tx tl (tsk tx tl e)))))))))), nI (rbn)), upd (upd (upd (upd rd wi (nI (9))) (wi + 1) (nI (nvl tx tl (tsk tx tl (ten tx tl (tsk tx tl e)))))) (wi + 2) (nI (nvl tx tl (tsk tx tl (ten tx tl (tsk tx tl (ten tx tl (tsk tx tl e)))))))) (wi + 3) (nI (nvl tx tl (tsk tx tl (ten tx tl (tsk tx tl (ten tx tl (tsk tx tl (ten tx tl (tsk tx tl e)))))))))), by simp [lineP, hk, lineK, bd, nums, hn0, hn1, hn2, hn3], ⟨rfl, rfl⟩⟩
                    · omega
              · skip
                refine g_eq (ws' := [(m0, .inr (10, (.int (nI (nt)) :: .ref mt :: .int (nI (nb)) :: .ref mk :: .ref mb :: .int (nI (lw)) :: .int (nI (sl)) :: .int (nI (tl)) :: .ref mx :: .int (nI (ten tx tl (tsk tx tl (ten tx tl (tsk tx tl (ten tx tl (tsk tx tl (ten tx tl (tsk tx tl e))))))))) :: .int (nI (tsk tx tl (ten tx tl (tsk tx tl (ten tx tl (tsk tx tl (ten tx tl (tsk tx tl e)))))))) :: .long (tokV tx tl (tsk tx tl (ten tx tl (tsk tx tl (ten tx tl (tsk tx tl (ten tx tl (tsk tx tl e)))))))) :: .int (nI (digV tx tl (tsk tx tl (ten tx tl (tsk tx tl (ten tx tl (tsk tx tl (ten tx tl (tsk tx tl e))))))))) :: .int (nI (numV tx tl (tsk tx tl (ten tx tl (tsk tx tl (ten tx tl (tsk tx tl (ten tx tl (tsk tx tl e))))))))) :: .int (nI (tsk tx tl (ten tx tl (tsk tx tl (ten tx tl (tsk tx tl (ten tx tl (tsk tx tl e)))))))) :: .int (rm_) :: .int (nI (rtn)) :: .int (nI (rbn)) :: .ref mr :: .ref mn :: .ref ma :: .ref mi :: .ref mj :: .int (nI (en)) :: .ref mg :: .int (nI (sn)) :: .ref ms :: .int (nI (dn)) :: .ref md :: .ref mc :: .ref me :: .int (ga) :: .ref mh :: .ref mo :: .ref mw :: []))), (mx, .inl (E.2.1.1, 200, .inl (nA (tx)))), (mr, .inl (E.2.1.1, 50, .inl (upd (upd (upd rd wi (nI (9))) (wi + 1) (nI (nvl tx tl (tsk tx tl (ten tx tl (tsk tx tl e)))))) (wi + 2) (nI (nvl tx tl (tsk tx tl (ten tx tl (tsk tx tl (ten tx tl (tsk tx tl e))))))))))]) (st' := [.int (nI (0))]) ?_ rfl rfl rfl
                refine g_if_eqN (t := 385) (q := 369) dX10_isLine_366 (by decide) rfl (by omega) (fun c366 => ?_) (fun c366 => ?_)
                · skip
                  refine g_iconst (v := nI 0) (q := 386) dX10_isLine_385 rfl ki_0 ?_
                  refine g_iret (st := []) dX10_isLine_386 rfl (narZ (by first | exact Or.inl rfl | exact Or.inr rfl)) rfl ?_
                  exact Or.inr ⟨(tsk tx tl (ten tx tl (tsk tx tl (ten tx tl (tsk tx tl (ten tx tl (tsk tx tl e)))))), (nI (ten tx tl (tsk tx tl (ten tx tl (tsk tx tl (ten tx tl (tsk tx tl (ten tx tl (tsk tx tl e)))))))), nI (tsk tx tl (ten tx tl (tsk tx tl (ten tx tl (tsk tx tl (ten tx tl (tsk tx tl e))))))), tokV tx tl (tsk tx tl (ten tx tl (tsk tx tl (ten tx tl (tsk tx tl (ten tx tl (tsk tx tl e))))))), nI (digV tx tl (tsk tx tl (ten tx tl (tsk tx tl (ten tx tl (tsk tx tl (ten tx tl (tsk tx tl e)))))))), nI (numV tx tl (tsk tx tl (ten tx tl (tsk tx tl (ten tx tl (tsk tx tl (ten tx tl (tsk tx tl e)))))))), nI (rbn)), upd (upd (upd rd wi (nI (9))) (wi + 1) (nI (nvl tx tl (tsk tx tl (ten tx tl (tsk tx tl e)))))) (wi + 2) (nI (nvl tx tl (tsk tx tl (ten tx tl (tsk tx tl (ten tx tl (tsk tx tl e)))))))), by simp [lineP, hk, lineK, bd, nums, hn0, hn1, hn2], ⟨rfl, rfl⟩⟩
                · omega
          · skip
            refine g_eq (ws' := [(m0, .inr (10, (.int (nI (nt)) :: .ref mt :: .int (nI (nb)) :: .ref mk :: .ref mb :: .int (nI (lw)) :: .int (nI (sl)) :: .int (nI (tl)) :: .ref mx :: .int (nI (ten tx tl (tsk tx tl (ten tx tl (tsk tx tl (ten tx tl (tsk tx tl e))))))) :: .int (nI (tsk tx tl (ten tx tl (tsk tx tl (ten tx tl (tsk tx tl e)))))) :: .long (tokV tx tl (tsk tx tl (ten tx tl (tsk tx tl (ten tx tl (tsk tx tl e)))))) :: .int (nI (digV tx tl (tsk tx tl (ten tx tl (tsk tx tl (ten tx tl (tsk tx tl e))))))) :: .int (nI (numV tx tl (tsk tx tl (ten tx tl (tsk tx tl (ten tx tl (tsk tx tl e))))))) :: .int (nI (tsk tx tl (ten tx tl (tsk tx tl (ten tx tl (tsk tx tl e)))))) :: .int (rm_) :: .int (nI (rtn)) :: .int (nI (rbn)) :: .ref mr :: .ref mn :: .ref ma :: .ref mi :: .ref mj :: .int (nI (en)) :: .ref mg :: .int (nI (sn)) :: .ref ms :: .int (nI (dn)) :: .ref md :: .ref mc :: .ref me :: .int (ga) :: .ref mh :: .ref mo :: .ref mw :: []))), (mx, .inl (E.2.1.1, 200, .inl (nA (tx)))), (mr, .inl (E.2.1.1, 50, .inl (upd (upd rd wi (nI (9))) (wi + 1) (nI (nvl tx tl (tsk tx tl (ten tx tl (tsk tx tl e))))))))]) (st' := [.int (nI (0))]) ?_ rfl rfl rfl
            refine g_if_eqN (t := 385) (q := 356) dX10_isLine_353 (by decide) rfl (by omega) (fun c353 => ?_) (fun c353 => ?_)
            · skip
              refine g_iconst (v := nI 0) (q := 386) dX10_isLine_385 rfl ki_0 ?_
              refine g_iret (st := []) dX10_isLine_386 rfl (narZ (by first | exact Or.inl rfl | exact Or.inr rfl)) rfl ?_
              exact Or.inr ⟨(tsk tx tl (ten tx tl (tsk tx tl (ten tx tl (tsk tx tl e)))), (nI (ten tx tl (tsk tx tl (ten tx tl (tsk tx tl (ten tx tl (tsk tx tl e)))))), nI (tsk tx tl (ten tx tl (tsk tx tl (ten tx tl (tsk tx tl e))))), tokV tx tl (tsk tx tl (ten tx tl (tsk tx tl (ten tx tl (tsk tx tl e))))), nI (digV tx tl (tsk tx tl (ten tx tl (tsk tx tl (ten tx tl (tsk tx tl e)))))), nI (numV tx tl (tsk tx tl (ten tx tl (tsk tx tl (ten tx tl (tsk tx tl e)))))), nI (rbn)), upd (upd rd wi (nI (9))) (wi + 1) (nI (nvl tx tl (tsk tx tl (ten tx tl (tsk tx tl e)))))), by simp [lineP, hk, lineK, bd, nums, hn0, hn1], ⟨rfl, rfl⟩⟩
            · omega
      · skip
        refine g_eq (ws' := [(m0, .inr (10, (.int (nI (nt)) :: .ref mt :: .int (nI (nb)) :: .ref mk :: .ref mb :: .int (nI (lw)) :: .int (nI (sl)) :: .int (nI (tl)) :: .ref mx :: .int (nI (ten tx tl (tsk tx tl (ten tx tl (tsk tx tl e))))) :: .int (nI (tsk tx tl (ten tx tl (tsk tx tl e)))) :: .long (tokV tx tl (tsk tx tl (ten tx tl (tsk tx tl e)))) :: .int (nI (digV tx tl (tsk tx tl (ten tx tl (tsk tx tl e))))) :: .int (nI (numV tx tl (tsk tx tl (ten tx tl (tsk tx tl e))))) :: .int (nI (tsk tx tl (ten tx tl (tsk tx tl e)))) :: .int (rm_) :: .int (nI (rtn)) :: .int (nI (rbn)) :: .ref mr :: .ref mn :: .ref ma :: .ref mi :: .ref mj :: .int (nI (en)) :: .ref mg :: .int (nI (sn)) :: .ref ms :: .int (nI (dn)) :: .ref md :: .ref mc :: .ref me :: .int (ga) :: .ref mh :: .ref mo :: .ref mw :: []))), (mx, .inl (E.2.1.1, 200, .inl (nA (tx)))), (mr, .inl (E.2.1.1, 50, .inl (upd rd wi (nI (9)))))]) (st' := [.int (nI (0))]) ?_ rfl rfl rfl
        refine g_if_eqN (t := 385) (q := 344) dX10_isLine_341 (by decide) rfl (by omega) (fun c341 => ?_) (fun c341 => ?_)
        · skip
          refine g_iconst (v := nI 0) (q := 386) dX10_isLine_385 rfl ki_0 ?_
          refine g_iret (st := []) dX10_isLine_386 rfl (narZ (by first | exact Or.inl rfl | exact Or.inr rfl)) rfl ?_
          exact Or.inr ⟨(tsk tx tl (ten tx tl (tsk tx tl e)), (nI (ten tx tl (tsk tx tl (ten tx tl (tsk tx tl e)))), nI (tsk tx tl (ten tx tl (tsk tx tl e))), tokV tx tl (tsk tx tl (ten tx tl (tsk tx tl e))), nI (digV tx tl (tsk tx tl (ten tx tl (tsk tx tl e)))), nI (numV tx tl (tsk tx tl (ten tx tl (tsk tx tl e)))), nI (rbn)), upd rd wi (nI (9))), by simp [lineP, hk, lineK, bd, nums, hn0], ⟨rfl, rfl⟩⟩
        · omega
  · have hk : wdM (tokV tx tl (tsk tx tl e)) = some 10 := by rw [hv]; decide +kernel
    refine g_eq (ws' := [(m0, .inr (10, (.int (nI (nt)) :: .ref mt :: .int (nI (nb)) :: .ref mk :: .ref mb :: .int (nI (lw)) :: .int (nI (sl)) :: .int (nI (tl)) :: .ref mx :: .int (nI (ten tx tl (tsk tx tl e))) :: .int (nI (tsk tx tl e)) :: .long ((453836 : Int64)) :: .int (nI (digV tx tl (tsk tx tl e))) :: .int (nI (numV tx tl (tsk tx tl e))) :: .int (fa) :: .int (rm_) :: .int (nI (rtn)) :: .int (nI (rbn)) :: .ref mr :: .ref mn :: .ref ma :: .ref mi :: .ref mj :: .int (nI (en)) :: .ref mg :: .int (nI (sn)) :: .ref ms :: .int (nI (dn)) :: .ref md :: .ref mc :: .ref me :: .int (ga) :: .ref mh :: .ref mo :: .ref mw :: []))), (mx, .inl (E.2.1.1, 200, .inl (nA (tx)))), (mr, .inl (E.2.1.1, 50, .inl (rd)))]) ?_ (by rw [hv]) rfl rfl
    refine g_aload_n (q := 5) dX10_isLine_4 rfl rfl rfl ?_
    refine gf_X10_111 rfl 0 rfl rfl (q := 8) dX10_isLine_5 rfl ?_
    refine g_ldc2 (v := 8740238) rfl mkX10_148 (q := 11) dX10_isLine_8 rfl ?_
    refine g_lcmp (q := 12) dX10_isLine_11 rfl ?_
    refine g_if_ne (t := 19) (q := 15) dX10_isLine_12 (by decide) rfl (fun c12 => ?_) (fun c12 => absurd c12 (by decide +kernel))
    refine g_aload_n (q := 20) dX10_isLine_19 rfl rfl rfl ?_
    refine gf_X10_111 rfl 0 rfl rfl (q := 23) dX10_isLine_20 rfl ?_
    refine g_ldc2 (v := 129450) rfl mkX10_150 (q := 26) dX10_isLine_23 rfl ?_
    refine g_lcmp (q := 27) dX10_isLine_26 rfl ?_
    refine g_if_ne (t := 34) (q := 30) dX10_isLine_27 (by decide) rfl (fun c27 => ?_) (fun c27 => absurd c27 (by decide +kernel))
    refine g_aload_n (q := 35) dX10_isLine_34 rfl rfl rfl ?_
    refine gf_X10_111 rfl 0 rfl rfl (q := 38) dX10_isLine_35 rfl ?_
    refine g_ldc2 (v := 158523) rfl mkX10_152 (q := 41) dX10_isLine_38 rfl ?_
    refine g_lcmp (q := 42) dX10_isLine_41 rfl ?_
    refine g_if_ne (t := 49) (q := 45) dX10_isLine_42 (by decide) rfl (fun c42 => ?_) (fun c42 => absurd c42 (by decide +kernel))
    refine g_aload_n (q := 50) dX10_isLine_49 rfl rfl rfl ?_
    refine gf_X10_111 rfl 0 rfl rfl (q := 53) dX10_isLine_50 rfl ?_
    refine g_ldc2 (v := 6465065272) rfl mkX10_154 (q := 56) dX10_isLine_53 rfl ?_
    refine g_lcmp (q := 57) dX10_isLine_56 rfl ?_
    refine g_if_ne (t := 64) (q := 60) dX10_isLine_57 (by decide) rfl (fun c57 => ?_) (fun c57 => absurd c57 (by decide +kernel))
    refine g_aload_n (q := 65) dX10_isLine_64 rfl rfl rfl ?_
    refine gf_X10_111 rfl 0 rfl rfl (q := 68) dX10_isLine_65 rfl ?_
    refine g_ldc2 (v := 4351291) rfl mkX10_156 (q := 71) dX10_isLine_68 rfl ?_
    refine g_lcmp (q := 72) dX10_isLine_71 rfl ?_
    refine g_if_ne (t := 79) (q := 75) dX10_isLine_72 (by decide) rfl (fun c72 => ?_) (fun c72 => absurd c72 (by decide +kernel))
    refine g_aload_n (q := 80) dX10_isLine_79 rfl rfl rfl ?_
    refine gf_X10_111 rfl 0 rfl rfl (q := 83) dX10_isLine_80 rfl ?_
    refine g_ldc2 (v := 6559778) rfl mkX10_158 (q := 86) dX10_isLine_83 rfl ?_
    refine g_lcmp (q := 87) dX10_isLine_86 rfl ?_
    refine g_if_ne (t := 94) (q := 90) dX10_isLine_87 (by decide) rfl (fun c87 => ?_) (fun c87 => absurd c87 (by decide +kernel))
    refine g_aload_n (q := 95) dX10_isLine_94 rfl rfl rfl ?_
    refine gf_X10_111 rfl 0 rfl rfl (q := 98) dX10_isLine_95 rfl ?_
    refine g_ldc2 (v := 6476969) rfl mkX10_160 (q := 101) dX10_isLine_98 rfl ?_
    refine g_lcmp (q := 102) dX10_isLine_101 rfl ?_
    refine g_if_ne (t := 110) (q := 105) dX10_isLine_102 (by decide) rfl (fun c102 => ?_) (fun c102 => absurd c102 (by decide +kernel))
    refine g_iconst (v := (-1)) (q := 111) dX10_isLine_110 rfl ki_m1 ?_
    refine g_istore_n (lv' := [(0, _), (1, _), (2, _)]) (q := 112) dX10_isLine_111 rfl rfl (Nat.le_of_ble_eq_true rfl) rfl ?_
    refine g_aload_n (q := 113) dX10_isLine_112 rfl rfl rfl ?_
    refine gf_X10_111 rfl 0 rfl rfl (q := 116) dX10_isLine_113 rfl ?_
    refine g_ldc2 (v := 286880) rfl mkX10_162 (q := 119) dX10_isLine_116 rfl ?_
    refine g_lcmp (q := 120) dX10_isLine_119 rfl ?_
    refine g_if_ne (t := 128) (q := 123) dX10_isLine_120 (by decide) rfl (fun c120 => ?_) (fun c120 => absurd c120 (by decide +kernel))
    refine g_aload_n (q := 129) dX10_isLine_128 rfl rfl rfl ?_
    refine gf_X10_111 rfl 0 rfl rfl (q := 132) dX10_isLine_129 rfl ?_
    refine g_ldc2 (v := 174869447) rfl mkX10_164 (q := 135) dX10_isLine_132 rfl ?_
    refine g_lcmp (q := 136) dX10_isLine_135 rfl ?_
    refine g_if_ne (t := 144) (q := 139) dX10_isLine_136 (by decide) rfl (fun c136 => ?_) (fun c136 => absurd c136 (by decide +kernel))
    refine g_aload_n (q := 145) dX10_isLine_144 rfl rfl rfl ?_
    refine gf_X10_111 rfl 0 rfl rfl (q := 148) dX10_isLine_145 rfl ?_
    refine g_ldc2 (v := 405230) rfl mkX10_166 (q := 151) dX10_isLine_148 rfl ?_
    refine g_lcmp (q := 152) dX10_isLine_151 rfl ?_
    refine g_if_ne (t := 160) (q := 155) dX10_isLine_152 (by decide) rfl (fun c152 => ?_) (fun c152 => absurd c152 (by decide +kernel))
    refine g_aload_n (q := 161) dX10_isLine_160 rfl rfl rfl ?_
    refine gf_X10_111 rfl 0 rfl rfl (q := 164) dX10_isLine_161 rfl ?_
    refine g_ldc2 (v := 453836) rfl mkX10_168 (q := 167) dX10_isLine_164 rfl ?_
    refine g_lcmp (q := 168) dX10_isLine_167 rfl ?_
    refine g_if_ne (t := 176) (q := 171) dX10_isLine_168 (by decide) rfl (fun c168 => absurd (by decide +kernel) c168) (fun c168 => ?_)
    refine g_bipush (v := nI 10) (q := 173) dX10_isLine_171 rfl kb_10 ?_
    refine g_goto (q := 225) dX10_isLine_173 (by decide) ?_
    refine g_istore_n (lv' := [(0, _), (1, _), (2, _), (3, _)]) (q := 226) dX10_isLine_225 rfl rfl (Nat.le_of_ble_eq_true rfl) rfl ?_
    refine g_aload_n (q := 227) dX10_isLine_226 rfl rfl rfl ?_
    refine gf_X10_26 rfl 0 rfl rfl (q := 230) dX10_isLine_227 rfl ?_
    refine g_iload_n (q := 231) dX10_isLine_230 rfl rfl rfl ?_
    refine g_iload_n (q := 232) dX10_isLine_231 rfl rfl rfl ?_
    refine g_iconst (v := (-1)) (q := 233) dX10_isLine_232 rfl ki_m1 ?_
    refine g_icmp_ne (t := 240) (q := 236) dX10_isLine_233 (by decide) rfl (fun c233 => ?_) (fun c233 => ?_)
    · exact absurd (by decide) c233
    · skip
      refine g_iload_n (q := 237) dX10_isLine_236 rfl rfl rfl ?_
      refine g_goto (q := 241) dX10_isLine_237 (by decide) ?_
      refine g_iast (f' := (upd rd wi (nI (10)))) 2 rfl (ixIn (j := wi) rfl (by omega) (by decide)) (ixU (j := wi) rfl (by omega)) (ws' := [_, _, (_, .inl (_, _, .inl _))]) rfl (q := 242) dX10_isLine_241 rfl ?_
      refine g_aload_n (q := 243) dX10_isLine_242 rfl rfl rfl ?_
      refine gf_X10_26 rfl 0 rfl rfl (q := 246) dX10_isLine_243 rfl ?_
      refine g_iload_n (q := 247) dX10_isLine_246 rfl rfl rfl ?_
      refine g_iald (v := nI (10)) 2 rfl (ixIn (j := wi) rfl (by omega) (by decide)) (ixVr (by omega)) (q := 248) dX10_isLine_247 rfl ?_
      refine g_tableIn (off := 139) (q := 387) dX10_isLine_248 (by decide) (by decide) (by decide) (by decide) ?_
      refine g_aload_n (q := 388) dX10_isLine_387 rfl rfl rfl ?_
      refine g_iload_n (q := 389) dX10_isLine_388 rfl rfl rfl ?_
      refine g_iconst (v := nI 1) (q := 390) dX10_isLine_389 rfl ki_1 ?_
      refine g_iaddN (q := 391) dX10_isLine_390 rfl ?_
      refine gc_X10_144 (c_isPlace (e := ten tx tl (tsk tx tl e)) he0 (by omega) hr1 hr2 hl htx) rfl (Nat.le_of_ble_eq_true rfl) rfl 0 rfl [0, 1, 2] rfl rfl (rest := []) rfl (Nat.le_of_ble_eq_true rfl) (q := 394) dX10_isLine_391 rfl (exOrM rfl (fun hn0 => ?_) (fun hn0 => ?_))
      · skip
        refine g_eq (ws' := [(m0, .inr (10, (.int (nI (nt)) :: .ref mt :: .int (nI (nb)) :: .ref mk :: .ref mb :: .int (nI (lw)) :: .int (nI (sl)) :: .int (nI (tl)) :: .ref mx :: .int (nI (ten tx tl (tsk tx tl (ten tx tl (tsk tx tl e))))) :: .int (nI (tsk tx tl (ten tx tl (tsk tx tl e)))) :: .long (tokV tx tl (tsk tx tl (ten tx tl (tsk tx tl e)))) :: .int (nI (digV tx tl (tsk tx tl (ten tx tl (tsk tx tl e))))) :: .int (nI (numV tx tl (tsk tx tl (ten tx tl (tsk tx tl e))))) :: .int (fa) :: .int (rm_) :: .int (nI (rtn)) :: .int (nI (rbn)) :: .ref mr :: .ref mn :: .ref ma :: .ref mi :: .ref mj :: .int (nI (en)) :: .ref mg :: .int (nI (sn)) :: .ref ms :: .int (nI (dn)) :: .ref md :: .ref mc :: .ref me :: .int (ga) :: .ref mh :: .ref mo :: .ref mw :: []))), (mx, .inl (E.2.1.1, 200, .inl (nA (tx)))), (mr, .inl (E.2.1.1, 50, .inl (upd (upd rd wi (nI (10))) (wi + 1) (nI (nvl tx tl (tsk tx tl (ten tx tl (tsk tx tl e))))))))]) (st' := [.int (nI (1))]) ?_ rfl rfl rfl
        refine g_if_eqN (t := 413) (q := 397) dX10_isLine_394 (by decide) rfl (by omega) (fun c394 => ?_) (fun c394 => ?_)
        · omega
        · skip
          refine g_aload_n (q := 398) dX10_isLine_397 rfl rfl rfl ?_
          refine g_iload_n (q := 399) dX10_isLine_398 rfl rfl rfl ?_
          refine g_iconst (v := nI 2) (q := 400) dX10_isLine_399 rfl ki_2 ?_
          refine g_iaddN (q := 401) dX10_isLine_400 rfl ?_
          refine g_iconst (v := nI 0) (q := 402) dX10_isLine_401 rfl ki_0 ?_
          refine g_iconst (v := nI 3) (q := 403) dX10_isLine_402 rfl ki_3 ?_
          have he1 := nt_le (tx := tx) he0
          have hb0 := numB_t hn0
          refine gc_X10_138 (c_isNumber (e := ten tx tl (tsk tx tl (ten tx tl (tsk tx tl e)))) he1 (by omega) (by omega) (by omega) hl htx) rfl (Nat.le_of_ble_eq_true rfl) rfl 0 rfl [0, 1, 2] rfl rfl (rest := []) rfl (Nat.le_of_ble_eq_true rfl) (q := 406) dX10_isLine_403 rfl (exOrM rfl (fun hn1 => ?_) (fun hn1 => ?_))
          · skip
            refine g_eq (ws' := [(m0, .inr (10, (.int (nI (nt)) :: .ref mt :: .int (nI (nb)) :: .ref mk :: .ref mb :: .int (nI (lw)) :: .int (nI (sl)) :: .int (nI (tl)) :: .ref mx :: .int (nI (ten tx tl (tsk tx tl (ten tx tl (tsk tx tl (ten tx tl (tsk tx tl e))))))) :: .int (nI (tsk tx tl (ten tx tl (tsk tx tl (ten tx tl (tsk tx tl e)))))) :: .long (tokV tx tl (tsk tx tl (ten tx tl (tsk tx tl (ten tx tl (tsk tx tl e)))))) :: .int (nI (digV tx tl (tsk tx tl (ten tx tl (tsk tx tl (ten tx tl (tsk tx tl e))))))) :: .int (nI (numV tx tl (tsk tx tl (ten tx tl (tsk tx tl (ten tx tl (tsk tx tl e))))))) :: .int (fa) :: .int (rm_) :: .int (nI (rtn)) :: .int (nI (rbn)) :: .ref mr :: .ref mn :: .ref ma :: .ref mi :: .ref mj :: .int (nI (en)) :: .ref mg :: .int (nI (sn)) :: .ref ms :: .int (nI (dn)) :: .ref md :: .ref mc :: .ref me :: .int (ga) :: .ref mh :: .ref mo :: .ref mw :: []))), (mx, .inl (E.2.1.1, 200, .inl (nA (tx)))), (mr, .inl (E.2.1.1, 50, .inl (upd (upd (upd rd wi (nI (10))) (wi + 1) (nI (nvl tx tl (tsk tx tl (ten tx tl (tsk tx tl e)))))) (wi + 2) (nI (nvl tx tl (tsk tx tl (ten tx tl (tsk tx tl (ten tx tl (tsk tx tl e))))))))))]) (st' := [.int (nI (1))]) ?_ rfl rfl rfl
            refine g_if_eqN (t := 413) (q := 409) dX10_isLine_406 (by decide) rfl (by omega) (fun c406 => ?_) (fun c406 => ?_)
            · omega
            · skip
              refine g_iconst (v := nI 1) (q := 410) dX10_isLine_409 rfl ki_1 ?_
              refine g_goto (q := 414) dX10_isLine_410 (by decide) ?_
              refine g_iret (st := []) dX10_isLine_414 rfl (narZ (by first | exact Or.inl rfl | exact Or.inr rfl)) rfl ?_
              exact Or.inl ⟨(((10, [nvl tx tl (tsk tx tl (ten tx tl (tsk tx tl e))), nvl tx tl (tsk tx tl (ten tx tl (tsk tx tl (ten tx tl (tsk tx tl e)))))]), ten tx tl (tsk tx tl (ten tx tl (tsk tx tl (ten tx tl (tsk tx tl e)))))), (nI (tsk tx tl (ten tx tl (tsk tx tl (ten tx tl (tsk tx tl e))))), tokV tx tl (tsk tx tl (ten tx tl (tsk tx tl (ten tx tl (tsk tx tl e))))), nI (digV tx tl (tsk tx tl (ten tx tl (tsk tx tl (ten tx tl (tsk tx tl e)))))), nI (numV tx tl (tsk tx tl (ten tx tl (tsk tx tl (ten tx tl (tsk tx tl e))))))), upd (upd (upd rd wi (nI (10))) (wi + 1) (nI (nvl tx tl (tsk tx tl (ten tx tl (tsk tx tl e)))))) (wi + 2) (nI (nvl tx tl (tsk tx tl (ten tx tl (tsk tx tl (ten tx tl (tsk tx tl e)))))))), ⟨by simp [lineP, hk, lineK, bd, nums, hn0, hn1], rdk rdl2⟩, ⟨rfl, rfl⟩⟩
          · skip
            refine g_eq (ws' := [(m0, .inr (10, (.int (nI (nt)) :: .ref mt :: .int (nI (nb)) :: .ref mk :: .ref mb :: .int (nI (lw)) :: .int (nI (sl)) :: .int (nI (tl)) :: .ref mx :: .int (nI (ten tx tl (tsk tx tl (ten tx tl (tsk tx tl (ten tx tl (tsk tx tl e))))))) :: .int (nI (tsk tx tl (ten tx tl (tsk tx tl (ten tx tl (tsk tx tl e)))))) :: .long (tokV tx tl (tsk tx tl (ten tx tl (tsk tx tl (ten tx tl (tsk tx tl e)))))) :: .int (nI (digV tx tl (tsk tx tl (ten tx tl (tsk tx tl (ten tx tl (tsk tx tl e))))))) :: .int (nI (numV tx tl (tsk tx tl (ten tx tl (tsk tx tl (ten tx tl (tsk tx tl e))))))) :: .int (nI (tsk tx tl (ten tx tl (tsk tx tl (ten tx tl (tsk tx tl e)))))) :: .int (rm_) :: .int (nI (rtn)) :: .int (nI (rbn)) :: .ref mr :: .ref mn :: .ref ma :: .ref mi :: .ref mj :: .int (nI (en)) :: .ref mg :: .int (nI (sn)) :: .ref ms :: .int (nI (dn)) :: .ref md :: .ref mc :: .ref me :: .int (ga) :: .ref mh :: .ref mo :: .ref mw :: []))), (mx, .inl (E.2.1.1, 200, .inl (nA (tx)))), (mr, .inl (E.2.1.1, 50, .inl (upd (upd rd wi (nI (10))) (wi + 1) (nI (nvl tx tl (tsk tx tl (ten tx tl (tsk tx tl e))))))))]) (st' := [.int (nI (0))]) ?_ rfl rfl rfl
            refine g_if_eqN (t := 413) (q := 409) dX10_isLine_406 (by decide) rfl (by omega) (fun c406 => ?_) (fun c406 => ?_)
            · skip
              refine g_iconst (v := nI 0) (q := 414) dX10_isLine_413 rfl ki_0 ?_
              refine g_iret (st := []) dX10_isLine_414 rfl (narZ (by first | exact Or.inl rfl | exact Or.inr rfl)) rfl ?_
              exact Or.inr ⟨(tsk tx tl (ten tx tl (tsk tx tl (ten tx tl (tsk tx tl e)))), (nI (ten tx tl (tsk tx tl (ten tx tl (tsk tx tl (ten tx tl (tsk tx tl e)))))), nI (tsk tx tl (ten tx tl (tsk tx tl (ten tx tl (tsk tx tl e))))), tokV tx tl (tsk tx tl (ten tx tl (tsk tx tl (ten tx tl (tsk tx tl e))))), nI (digV tx tl (tsk tx tl (ten tx tl (tsk tx tl (ten tx tl (tsk tx tl e)))))), nI (numV tx tl (tsk tx tl (ten tx tl (tsk tx tl (ten tx tl (tsk tx tl e)))))), nI (rbn)), upd (upd rd wi (nI (10))) (wi + 1) (nI (nvl tx tl (tsk tx tl (ten tx tl (tsk tx tl e)))))), by simp [lineP, hk, lineK, bd, nums, hn0, hn1], ⟨rfl, rfl⟩⟩
            · omega
      · skip
        refine g_eq (ws' := [(m0, .inr (10, (.int (nI (nt)) :: .ref mt :: .int (nI (nb)) :: .ref mk :: .ref mb :: .int (nI (lw)) :: .int (nI (sl)) :: .int (nI (tl)) :: .ref mx :: .int (nI (ten tx tl (tsk tx tl (ten tx tl (tsk tx tl e))))) :: .int (nI (tsk tx tl (ten tx tl (tsk tx tl e)))) :: .long (tokV tx tl (tsk tx tl (ten tx tl (tsk tx tl e)))) :: .int (nI (digV tx tl (tsk tx tl (ten tx tl (tsk tx tl e))))) :: .int (nI (numV tx tl (tsk tx tl (ten tx tl (tsk tx tl e))))) :: .int (nI (tsk tx tl (ten tx tl (tsk tx tl e)))) :: .int (rm_) :: .int (nI (rtn)) :: .int (nI (rbn)) :: .ref mr :: .ref mn :: .ref ma :: .ref mi :: .ref mj :: .int (nI (en)) :: .ref mg :: .int (nI (sn)) :: .ref ms :: .int (nI (dn)) :: .ref md :: .ref mc :: .ref me :: .int (ga) :: .ref mh :: .ref mo :: .ref mw :: []))), (mx, .inl (E.2.1.1, 200, .inl (nA (tx)))), (mr, .inl (E.2.1.1, 50, .inl (upd rd wi (nI (10)))))]) (st' := [.int (nI (0))]) ?_ rfl rfl rfl
        refine g_if_eqN (t := 413) (q := 397) dX10_isLine_394 (by decide) rfl (by omega) (fun c394 => ?_) (fun c394 => ?_)
        · skip
          refine g_iconst (v := nI 0) (q := 414) dX10_isLine_413 rfl ki_0 ?_
          refine g_iret (st := []) dX10_isLine_414 rfl (narZ (by first | exact Or.inl rfl | exact Or.inr rfl)) rfl ?_
          exact Or.inr ⟨(tsk tx tl (ten tx tl (tsk tx tl e)), (nI (ten tx tl (tsk tx tl (ten tx tl (tsk tx tl e)))), nI (tsk tx tl (ten tx tl (tsk tx tl e))), tokV tx tl (tsk tx tl (ten tx tl (tsk tx tl e))), nI (digV tx tl (tsk tx tl (ten tx tl (tsk tx tl e)))), nI (numV tx tl (tsk tx tl (ten tx tl (tsk tx tl e)))), nI (rbn)), upd rd wi (nI (10))), by simp [lineP, hk, lineK, bd, nums, hn0], ⟨rfl, rfl⟩⟩
        · omega
  · have hk : wdM (tokV tx tl (tsk tx tl e)) = some 11 := by rw [hv]; decide +kernel
    refine g_eq (ws' := [(m0, .inr (10, (.int (nI (nt)) :: .ref mt :: .int (nI (nb)) :: .ref mk :: .ref mb :: .int (nI (lw)) :: .int (nI (sl)) :: .int (nI (tl)) :: .ref mx :: .int (nI (ten tx tl (tsk tx tl e))) :: .int (nI (tsk tx tl e)) :: .long ((279875 : Int64)) :: .int (nI (digV tx tl (tsk tx tl e))) :: .int (nI (numV tx tl (tsk tx tl e))) :: .int (fa) :: .int (rm_) :: .int (nI (rtn)) :: .int (nI (rbn)) :: .ref mr :: .ref mn :: .ref ma :: .ref mi :: .ref mj :: .int (nI (en)) :: .ref mg :: .int (nI (sn)) :: .ref ms :: .int (nI (dn)) :: .ref md :: .ref mc :: .ref me :: .int (ga) :: .ref mh :: .ref mo :: .ref mw :: []))), (mx, .inl (E.2.1.1, 200, .inl (nA (tx)))), (mr, .inl (E.2.1.1, 50, .inl (rd)))]) ?_ (by rw [hv]) rfl rfl
    refine g_aload_n (q := 5) dX10_isLine_4 rfl rfl rfl ?_
    refine gf_X10_111 rfl 0 rfl rfl (q := 8) dX10_isLine_5 rfl ?_
    refine g_ldc2 (v := 8740238) rfl mkX10_148 (q := 11) dX10_isLine_8 rfl ?_
    refine g_lcmp (q := 12) dX10_isLine_11 rfl ?_
    refine g_if_ne (t := 19) (q := 15) dX10_isLine_12 (by decide) rfl (fun c12 => ?_) (fun c12 => absurd c12 (by decide +kernel))
    refine g_aload_n (q := 20) dX10_isLine_19 rfl rfl rfl ?_
    refine gf_X10_111 rfl 0 rfl rfl (q := 23) dX10_isLine_20 rfl ?_
    refine g_ldc2 (v := 129450) rfl mkX10_150 (q := 26) dX10_isLine_23 rfl ?_
    refine g_lcmp (q := 27) dX10_isLine_26 rfl ?_
    refine g_if_ne (t := 34) (q := 30) dX10_isLine_27 (by decide) rfl (fun c27 => ?_) (fun c27 => absurd c27 (by decide +kernel))
    refine g_aload_n (q := 35) dX10_isLine_34 rfl rfl rfl ?_
    refine gf_X10_111 rfl 0 rfl rfl (q := 38) dX10_isLine_35 rfl ?_
    refine g_ldc2 (v := 158523) rfl mkX10_152 (q := 41) dX10_isLine_38 rfl ?_
    refine g_lcmp (q := 42) dX10_isLine_41 rfl ?_
    refine g_if_ne (t := 49) (q := 45) dX10_isLine_42 (by decide) rfl (fun c42 => ?_) (fun c42 => absurd c42 (by decide +kernel))
    refine g_aload_n (q := 50) dX10_isLine_49 rfl rfl rfl ?_
    refine gf_X10_111 rfl 0 rfl rfl (q := 53) dX10_isLine_50 rfl ?_
    refine g_ldc2 (v := 6465065272) rfl mkX10_154 (q := 56) dX10_isLine_53 rfl ?_
    refine g_lcmp (q := 57) dX10_isLine_56 rfl ?_
    refine g_if_ne (t := 64) (q := 60) dX10_isLine_57 (by decide) rfl (fun c57 => ?_) (fun c57 => absurd c57 (by decide +kernel))
    refine g_aload_n (q := 65) dX10_isLine_64 rfl rfl rfl ?_
    refine gf_X10_111 rfl 0 rfl rfl (q := 68) dX10_isLine_65 rfl ?_
    refine g_ldc2 (v := 4351291) rfl mkX10_156 (q := 71) dX10_isLine_68 rfl ?_
    refine g_lcmp (q := 72) dX10_isLine_71 rfl ?_
    refine g_if_ne (t := 79) (q := 75) dX10_isLine_72 (by decide) rfl (fun c72 => ?_) (fun c72 => absurd c72 (by decide +kernel))
    refine g_aload_n (q := 80) dX10_isLine_79 rfl rfl rfl ?_
    refine gf_X10_111 rfl 0 rfl rfl (q := 83) dX10_isLine_80 rfl ?_
    refine g_ldc2 (v := 6559778) rfl mkX10_158 (q := 86) dX10_isLine_83 rfl ?_
    refine g_lcmp (q := 87) dX10_isLine_86 rfl ?_
    refine g_if_ne (t := 94) (q := 90) dX10_isLine_87 (by decide) rfl (fun c87 => ?_) (fun c87 => absurd c87 (by decide +kernel))
    refine g_aload_n (q := 95) dX10_isLine_94 rfl rfl rfl ?_
    refine gf_X10_111 rfl 0 rfl rfl (q := 98) dX10_isLine_95 rfl ?_
    refine g_ldc2 (v := 6476969) rfl mkX10_160 (q := 101) dX10_isLine_98 rfl ?_
    refine g_lcmp (q := 102) dX10_isLine_101 rfl ?_
    refine g_if_ne (t := 110) (q := 105) dX10_isLine_102 (by decide) rfl (fun c102 => ?_) (fun c102 => absurd c102 (by decide +kernel))
    refine g_iconst (v := (-1)) (q := 111) dX10_isLine_110 rfl ki_m1 ?_
    refine g_istore_n (lv' := [(0, _), (1, _), (2, _)]) (q := 112) dX10_isLine_111 rfl rfl (Nat.le_of_ble_eq_true rfl) rfl ?_
    refine g_aload_n (q := 113) dX10_isLine_112 rfl rfl rfl ?_
    refine gf_X10_111 rfl 0 rfl rfl (q := 116) dX10_isLine_113 rfl ?_
    refine g_ldc2 (v := 286880) rfl mkX10_162 (q := 119) dX10_isLine_116 rfl ?_
    refine g_lcmp (q := 120) dX10_isLine_119 rfl ?_
    refine g_if_ne (t := 128) (q := 123) dX10_isLine_120 (by decide) rfl (fun c120 => ?_) (fun c120 => absurd c120 (by decide +kernel))
    refine g_aload_n (q := 129) dX10_isLine_128 rfl rfl rfl ?_
    refine gf_X10_111 rfl 0 rfl rfl (q := 132) dX10_isLine_129 rfl ?_
    refine g_ldc2 (v := 174869447) rfl mkX10_164 (q := 135) dX10_isLine_132 rfl ?_
    refine g_lcmp (q := 136) dX10_isLine_135 rfl ?_
    refine g_if_ne (t := 144) (q := 139) dX10_isLine_136 (by decide) rfl (fun c136 => ?_) (fun c136 => absurd c136 (by decide +kernel))
    refine g_aload_n (q := 145) dX10_isLine_144 rfl rfl rfl ?_
    refine gf_X10_111 rfl 0 rfl rfl (q := 148) dX10_isLine_145 rfl ?_
    refine g_ldc2 (v := 405230) rfl mkX10_166 (q := 151) dX10_isLine_148 rfl ?_
    refine g_lcmp (q := 152) dX10_isLine_151 rfl ?_
    refine g_if_ne (t := 160) (q := 155) dX10_isLine_152 (by decide) rfl (fun c152 => ?_) (fun c152 => absurd c152 (by decide +kernel))
    refine g_aload_n (q := 161) dX10_isLine_160 rfl rfl rfl ?_
    refine gf_X10_111 rfl 0 rfl rfl (q := 164) dX10_isLine_161 rfl ?_
    refine g_ldc2 (v := 453836) rfl mkX10_168 (q := 167) dX10_isLine_164 rfl ?_
    refine g_lcmp (q := 168) dX10_isLine_167 rfl ?_
    refine g_if_ne (t := 176) (q := 171) dX10_isLine_168 (by decide) rfl (fun c168 => ?_) (fun c168 => absurd c168 (by decide +kernel))
    refine g_aload_n (q := 177) dX10_isLine_176 rfl rfl rfl ?_
    refine gf_X10_111 rfl 0 rfl rfl (q := 180) dX10_isLine_177 rfl ?_
    refine g_ldc2 (v := 279875) rfl mkX10_170 (q := 183) dX10_isLine_180 rfl ?_
    refine g_lcmp (q := 184) dX10_isLine_183 rfl ?_
    refine g_if_ne (t := 192) (q := 187) dX10_isLine_184 (by decide) rfl (fun c184 => absurd (by decide +kernel) c184) (fun c184 => ?_)
    refine g_bipush (v := nI 11) (q := 189) dX10_isLine_187 rfl kb_11 ?_
    refine g_goto (q := 225) dX10_isLine_189 (by decide) ?_
    refine g_istore_n (lv' := [(0, _), (1, _), (2, _), (3, _)]) (q := 226) dX10_isLine_225 rfl rfl (Nat.le_of_ble_eq_true rfl) rfl ?_
    refine g_aload_n (q := 227) dX10_isLine_226 rfl rfl rfl ?_
    refine gf_X10_26 rfl 0 rfl rfl (q := 230) dX10_isLine_227 rfl ?_
    refine g_iload_n (q := 231) dX10_isLine_230 rfl rfl rfl ?_
    refine g_iload_n (q := 232) dX10_isLine_231 rfl rfl rfl ?_
    refine g_iconst (v := (-1)) (q := 233) dX10_isLine_232 rfl ki_m1 ?_
    refine g_icmp_ne (t := 240) (q := 236) dX10_isLine_233 (by decide) rfl (fun c233 => ?_) (fun c233 => ?_)
    · exact absurd (by decide) c233
    · skip
      refine g_iload_n (q := 237) dX10_isLine_236 rfl rfl rfl ?_
      refine g_goto (q := 241) dX10_isLine_237 (by decide) ?_
      refine g_iast (f' := (upd rd wi (nI (11)))) 2 rfl (ixIn (j := wi) rfl (by omega) (by decide)) (ixU (j := wi) rfl (by omega)) (ws' := [_, _, (_, .inl (_, _, .inl _))]) rfl (q := 242) dX10_isLine_241 rfl ?_
      refine g_aload_n (q := 243) dX10_isLine_242 rfl rfl rfl ?_
      refine gf_X10_26 rfl 0 rfl rfl (q := 246) dX10_isLine_243 rfl ?_
      refine g_iload_n (q := 247) dX10_isLine_246 rfl rfl rfl ?_
      refine g_iald (v := nI (11)) 2 rfl (ixIn (j := wi) rfl (by omega) (by decide)) (ixVr (by omega)) (q := 248) dX10_isLine_247 rfl ?_
      refine g_tableIn (off := 167) (q := 415) dX10_isLine_248 (by decide) (by decide) (by decide) (by decide) ?_
      refine g_aload_n (q := 416) dX10_isLine_415 rfl rfl rfl ?_
      refine g_iload_n (q := 417) dX10_isLine_416 rfl rfl rfl ?_
      refine gc_X10_182 (c_isNext (s := tsk tx tl e) (e := ten tx tl (tsk tx tl e)) he0 hw hr1 hr2 hrb hl htx) rfl (Nat.le_of_ble_eq_true rfl) rfl 0 rfl [0, 1, 2] rfl rfl (rest := []) rfl (Nat.le_of_ble_eq_true rfl) (q := 420) dX10_isLine_417 rfl (exOrE rfl (fun z hz => ?_) (fun z hz => ?_))
      · skip
        refine g_eq (ws' := [(m0, .inr (10, (.int (nI (nt)) :: .ref mt :: .int (nI (nb)) :: .ref mk :: .ref mb :: .int (nI (lw)) :: .int (nI (sl)) :: .int (nI (tl)) :: .ref mx :: .int (nI (z.1.2)) :: .int (z.2.1.1) :: .long (z.2.1.2.1) :: .int (z.2.1.2.2.1) :: .int (z.2.1.2.2.2) :: .int (fa) :: .int (rm_) :: .int (nI (rT rtn z.1.1)) :: .int (nI (rB rbn z.1.1)) :: .ref mr :: .ref mn :: .ref ma :: .ref mi :: .ref mj :: .int (nI (en)) :: .ref mg :: .int (nI (sn)) :: .ref ms :: .int (nI (dn)) :: .ref md :: .ref mc :: .ref me :: .int (ga) :: .ref mh :: .ref mo :: .ref mw :: []))), (mx, .inl (E.2.1.1, 200, .inl (nA (tx)))), (mr, .inl (E.2.1.1, 50, .inl (z.2.2)))]) (st' := [.int (nI (1))]) ?_ rfl rfl rfl
        refine g_iret (st := []) dX10_isLine_420 rfl (narZ (by first | exact Or.inl rfl | exact Or.inr rfl)) rfl ?_
        exact Or.inl ⟨z, ⟨by simp only [lineP, hk]; exact hz.1, rdk_of hz.1 hz.2⟩, ⟨rfl, rfl⟩⟩
      · skip
        refine g_eq (ws' := [(m0, .inr (10, (.int (nI (nt)) :: .ref mt :: .int (nI (nb)) :: .ref mk :: .ref mb :: .int (nI (lw)) :: .int (nI (sl)) :: .int (nI (tl)) :: .ref mx :: .int (z.2.1.1) :: .int (z.2.1.2.1) :: .long (z.2.1.2.2.1) :: .int (z.2.1.2.2.2.1) :: .int (z.2.1.2.2.2.2.1) :: .int (nI (z.1)) :: .int (rm_) :: .int (nI (rtn)) :: .int (z.2.1.2.2.2.2.2) :: .ref mr :: .ref mn :: .ref ma :: .ref mi :: .ref mj :: .int (nI (en)) :: .ref mg :: .int (nI (sn)) :: .ref ms :: .int (nI (dn)) :: .ref md :: .ref mc :: .ref me :: .int (ga) :: .ref mh :: .ref mo :: .ref mw :: []))), (mx, .inl (E.2.1.1, 200, .inl (nA (tx)))), (mr, .inl (E.2.1.1, 50, .inl (z.2.2)))]) (st' := [.int (nI (0))]) ?_ rfl rfl rfl
        refine g_iret (st := []) dX10_isLine_420 rfl (narZ (by first | exact Or.inl rfl | exact Or.inr rfl)) rfl ?_
        exact Or.inr ⟨z, by simp only [lineP, hk]; exact hz, ⟨rfl, rfl⟩⟩
  · have hk : wdM (tokV tx tl (tsk tx tl e)) = some 12 := by rw [hv]; decide +kernel
    refine g_eq (ws' := [(m0, .inr (10, (.int (nI (nt)) :: .ref mt :: .int (nI (nb)) :: .ref mk :: .ref mb :: .int (nI (lw)) :: .int (nI (sl)) :: .int (nI (tl)) :: .ref mx :: .int (nI (ten tx tl (tsk tx tl e))) :: .int (nI (tsk tx tl e)) :: .long ((10334396 : Int64)) :: .int (nI (digV tx tl (tsk tx tl e))) :: .int (nI (numV tx tl (tsk tx tl e))) :: .int (fa) :: .int (rm_) :: .int (nI (rtn)) :: .int (nI (rbn)) :: .ref mr :: .ref mn :: .ref ma :: .ref mi :: .ref mj :: .int (nI (en)) :: .ref mg :: .int (nI (sn)) :: .ref ms :: .int (nI (dn)) :: .ref md :: .ref mc :: .ref me :: .int (ga) :: .ref mh :: .ref mo :: .ref mw :: []))), (mx, .inl (E.2.1.1, 200, .inl (nA (tx)))), (mr, .inl (E.2.1.1, 50, .inl (rd)))]) ?_ (by rw [hv]) rfl rfl
    refine g_aload_n (q := 5) dX10_isLine_4 rfl rfl rfl ?_
    refine gf_X10_111 rfl 0 rfl rfl (q := 8) dX10_isLine_5 rfl ?_
    refine g_ldc2 (v := 8740238) rfl mkX10_148 (q := 11) dX10_isLine_8 rfl ?_
    refine g_lcmp (q := 12) dX10_isLine_11 rfl ?_
    refine g_if_ne (t := 19) (q := 15) dX10_isLine_12 (by decide) rfl (fun c12 => ?_) (fun c12 => absurd c12 (by decide +kernel))
    refine g_aload_n (q := 20) dX10_isLine_19 rfl rfl rfl ?_
    refine gf_X10_111 rfl 0 rfl rfl (q := 23) dX10_isLine_20 rfl ?_
    refine g_ldc2 (v := 129450) rfl mkX10_150 (q := 26) dX10_isLine_23 rfl ?_
    refine g_lcmp (q := 27) dX10_isLine_26 rfl ?_
    refine g_if_ne (t := 34) (q := 30) dX10_isLine_27 (by decide) rfl (fun c27 => ?_) (fun c27 => absurd c27 (by decide +kernel))
    refine g_aload_n (q := 35) dX10_isLine_34 rfl rfl rfl ?_
    refine gf_X10_111 rfl 0 rfl rfl (q := 38) dX10_isLine_35 rfl ?_
    refine g_ldc2 (v := 158523) rfl mkX10_152 (q := 41) dX10_isLine_38 rfl ?_
    refine g_lcmp (q := 42) dX10_isLine_41 rfl ?_
    refine g_if_ne (t := 49) (q := 45) dX10_isLine_42 (by decide) rfl (fun c42 => ?_) (fun c42 => absurd c42 (by decide +kernel))
    refine g_aload_n (q := 50) dX10_isLine_49 rfl rfl rfl ?_
    refine gf_X10_111 rfl 0 rfl rfl (q := 53) dX10_isLine_50 rfl ?_
    refine g_ldc2 (v := 6465065272) rfl mkX10_154 (q := 56) dX10_isLine_53 rfl ?_
    refine g_lcmp (q := 57) dX10_isLine_56 rfl ?_
    refine g_if_ne (t := 64) (q := 60) dX10_isLine_57 (by decide) rfl (fun c57 => ?_) (fun c57 => absurd c57 (by decide +kernel))
    refine g_aload_n (q := 65) dX10_isLine_64 rfl rfl rfl ?_
    refine gf_X10_111 rfl 0 rfl rfl (q := 68) dX10_isLine_65 rfl ?_
    refine g_ldc2 (v := 4351291) rfl mkX10_156 (q := 71) dX10_isLine_68 rfl ?_
    refine g_lcmp (q := 72) dX10_isLine_71 rfl ?_
    refine g_if_ne (t := 79) (q := 75) dX10_isLine_72 (by decide) rfl (fun c72 => ?_) (fun c72 => absurd c72 (by decide +kernel))
    refine g_aload_n (q := 80) dX10_isLine_79 rfl rfl rfl ?_
    refine gf_X10_111 rfl 0 rfl rfl (q := 83) dX10_isLine_80 rfl ?_
    refine g_ldc2 (v := 6559778) rfl mkX10_158 (q := 86) dX10_isLine_83 rfl ?_
    refine g_lcmp (q := 87) dX10_isLine_86 rfl ?_
    refine g_if_ne (t := 94) (q := 90) dX10_isLine_87 (by decide) rfl (fun c87 => ?_) (fun c87 => absurd c87 (by decide +kernel))
    refine g_aload_n (q := 95) dX10_isLine_94 rfl rfl rfl ?_
    refine gf_X10_111 rfl 0 rfl rfl (q := 98) dX10_isLine_95 rfl ?_
    refine g_ldc2 (v := 6476969) rfl mkX10_160 (q := 101) dX10_isLine_98 rfl ?_
    refine g_lcmp (q := 102) dX10_isLine_101 rfl ?_
    refine g_if_ne (t := 110) (q := 105) dX10_isLine_102 (by decide) rfl (fun c102 => ?_) (fun c102 => absurd c102 (by decide +kernel))
    refine g_iconst (v := (-1)) (q := 111) dX10_isLine_110 rfl ki_m1 ?_
    refine g_istore_n (lv' := [(0, _), (1, _), (2, _)]) (q := 112) dX10_isLine_111 rfl rfl (Nat.le_of_ble_eq_true rfl) rfl ?_
    refine g_aload_n (q := 113) dX10_isLine_112 rfl rfl rfl ?_
    refine gf_X10_111 rfl 0 rfl rfl (q := 116) dX10_isLine_113 rfl ?_
    refine g_ldc2 (v := 286880) rfl mkX10_162 (q := 119) dX10_isLine_116 rfl ?_
    refine g_lcmp (q := 120) dX10_isLine_119 rfl ?_
    refine g_if_ne (t := 128) (q := 123) dX10_isLine_120 (by decide) rfl (fun c120 => ?_) (fun c120 => absurd c120 (by decide +kernel))
    refine g_aload_n (q := 129) dX10_isLine_128 rfl rfl rfl ?_
    refine gf_X10_111 rfl 0 rfl rfl (q := 132) dX10_isLine_129 rfl ?_
    refine g_ldc2 (v := 174869447) rfl mkX10_164 (q := 135) dX10_isLine_132 rfl ?_
    refine g_lcmp (q := 136) dX10_isLine_135 rfl ?_
    refine g_if_ne (t := 144) (q := 139) dX10_isLine_136 (by decide) rfl (fun c136 => ?_) (fun c136 => absurd c136 (by decide +kernel))
    refine g_aload_n (q := 145) dX10_isLine_144 rfl rfl rfl ?_
    refine gf_X10_111 rfl 0 rfl rfl (q := 148) dX10_isLine_145 rfl ?_
    refine g_ldc2 (v := 405230) rfl mkX10_166 (q := 151) dX10_isLine_148 rfl ?_
    refine g_lcmp (q := 152) dX10_isLine_151 rfl ?_
    refine g_if_ne (t := 160) (q := 155) dX10_isLine_152 (by decide) rfl (fun c152 => ?_) (fun c152 => absurd c152 (by decide +kernel))
    refine g_aload_n (q := 161) dX10_isLine_160 rfl rfl rfl ?_
    refine gf_X10_111 rfl 0 rfl rfl (q := 164) dX10_isLine_161 rfl ?_
    refine g_ldc2 (v := 453836) rfl mkX10_168 (q := 167) dX10_isLine_164 rfl ?_
    refine g_lcmp (q := 168) dX10_isLine_167 rfl ?_
    refine g_if_ne (t := 176) (q := 171) dX10_isLine_168 (by decide) rfl (fun c168 => ?_) (fun c168 => absurd c168 (by decide +kernel))
    refine g_aload_n (q := 177) dX10_isLine_176 rfl rfl rfl ?_
    refine gf_X10_111 rfl 0 rfl rfl (q := 180) dX10_isLine_177 rfl ?_
    refine g_ldc2 (v := 279875) rfl mkX10_170 (q := 183) dX10_isLine_180 rfl ?_
    refine g_lcmp (q := 184) dX10_isLine_183 rfl ?_
    refine g_if_ne (t := 192) (q := 187) dX10_isLine_184 (by decide) rfl (fun c184 => ?_) (fun c184 => absurd c184 (by decide +kernel))
    refine g_aload_n (q := 193) dX10_isLine_192 rfl rfl rfl ?_
    refine gf_X10_111 rfl 0 rfl rfl (q := 196) dX10_isLine_193 rfl ?_
    refine g_ldc2 (v := 10334396) rfl mkX10_172 (q := 199) dX10_isLine_196 rfl ?_
    refine g_lcmp (q := 200) dX10_isLine_199 rfl ?_
    refine g_if_ne (t := 208) (q := 203) dX10_isLine_200 (by decide) rfl (fun c200 => absurd (by decide +kernel) c200) (fun c200 => ?_)
    refine g_bipush (v := nI 12) (q := 205) dX10_isLine_203 rfl kb_12 ?_
    refine g_goto (q := 225) dX10_isLine_205 (by decide) ?_
    refine g_istore_n (lv' := [(0, _), (1, _), (2, _), (3, _)]) (q := 226) dX10_isLine_225 rfl rfl (Nat.le_of_ble_eq_true rfl) rfl ?_
    refine g_aload_n (q := 227) dX10_isLine_226 rfl rfl rfl ?_
    refine gf_X10_26 rfl 0 rfl rfl (q := 230) dX10_isLine_227 rfl ?_
    refine g_iload_n (q := 231) dX10_isLine_230 rfl rfl rfl ?_
    refine g_iload_n (q := 232) dX10_isLine_231 rfl rfl rfl ?_
    refine g_iconst (v := (-1)) (q := 233) dX10_isLine_232 rfl ki_m1 ?_
    refine g_icmp_ne (t := 240) (q := 236) dX10_isLine_233 (by decide) rfl (fun c233 => ?_) (fun c233 => ?_)
    · exact absurd (by decide) c233
    · skip
      refine g_iload_n (q := 237) dX10_isLine_236 rfl rfl rfl ?_
      refine g_goto (q := 241) dX10_isLine_237 (by decide) ?_
      refine g_iast (f' := (upd rd wi (nI (12)))) 2 rfl (ixIn (j := wi) rfl (by omega) (by decide)) (ixU (j := wi) rfl (by omega)) (ws' := [_, _, (_, .inl (_, _, .inl _))]) rfl (q := 242) dX10_isLine_241 rfl ?_
      refine g_aload_n (q := 243) dX10_isLine_242 rfl rfl rfl ?_
      refine gf_X10_26 rfl 0 rfl rfl (q := 246) dX10_isLine_243 rfl ?_
      refine g_iload_n (q := 247) dX10_isLine_246 rfl rfl rfl ?_
      refine g_iald (v := nI (12)) 2 rfl (ixIn (j := wi) rfl (by omega) (by decide)) (ixVr (by omega)) (q := 248) dX10_isLine_247 rfl ?_
      refine g_tableIn (off := 173) (q := 421) dX10_isLine_248 (by decide) (by decide) (by decide) (by decide) ?_
      refine g_aload_n (q := 422) dX10_isLine_421 rfl rfl rfl ?_
      refine g_iload_n (q := 423) dX10_isLine_422 rfl rfl rfl ?_
      refine g_iconst (v := nI 1) (q := 424) dX10_isLine_423 rfl ki_1 ?_
      refine g_iaddN (q := 425) dX10_isLine_424 rfl ?_
      refine g_iconst (v := nI 0) (q := 426) dX10_isLine_425 rfl ki_0 ?_
      refine g_sipush (v := nI 999) (q := 429) dX10_isLine_426 rfl ks_999 ?_
      refine gc_X10_138 (c_isNumber (e := ten tx tl (tsk tx tl e)) he0 (by omega) (by omega) (by omega) hl htx) rfl (Nat.le_of_ble_eq_true rfl) rfl 0 rfl [0, 1, 2] rfl rfl (rest := []) rfl (Nat.le_of_ble_eq_true rfl) (q := 432) dX10_isLine_429 rfl (exOrM rfl (fun hn0 => ?_) (fun hn0 => ?_))
      · skip
        refine g_eq (ws' := [(m0, .inr (10, (.int (nI (nt)) :: .ref mt :: .int (nI (nb)) :: .ref mk :: .ref mb :: .int (nI (lw)) :: .int (nI (sl)) :: .int (nI (tl)) :: .ref mx :: .int (nI (ten tx tl (tsk tx tl (ten tx tl (tsk tx tl e))))) :: .int (nI (tsk tx tl (ten tx tl (tsk tx tl e)))) :: .long (tokV tx tl (tsk tx tl (ten tx tl (tsk tx tl e)))) :: .int (nI (digV tx tl (tsk tx tl (ten tx tl (tsk tx tl e))))) :: .int (nI (numV tx tl (tsk tx tl (ten tx tl (tsk tx tl e))))) :: .int (fa) :: .int (rm_) :: .int (nI (rtn)) :: .int (nI (rbn)) :: .ref mr :: .ref mn :: .ref ma :: .ref mi :: .ref mj :: .int (nI (en)) :: .ref mg :: .int (nI (sn)) :: .ref ms :: .int (nI (dn)) :: .ref md :: .ref mc :: .ref me :: .int (ga) :: .ref mh :: .ref mo :: .ref mw :: []))), (mx, .inl (E.2.1.1, 200, .inl (nA (tx)))), (mr, .inl (E.2.1.1, 50, .inl (upd (upd rd wi (nI (12))) (wi + 1) (nI (nvl tx tl (tsk tx tl (ten tx tl (tsk tx tl e))))))))]) (st' := [.int (nI (1))]) ?_ rfl rfl rfl
        refine g_iret (st := []) dX10_isLine_432 rfl (narZ (by first | exact Or.inl rfl | exact Or.inr rfl)) rfl ?_
        exact Or.inl ⟨(((12, [nvl tx tl (tsk tx tl (ten tx tl (tsk tx tl e)))]), ten tx tl (tsk tx tl (ten tx tl (tsk tx tl e)))), (nI (tsk tx tl (ten tx tl (tsk tx tl e))), tokV tx tl (tsk tx tl (ten tx tl (tsk tx tl e))), nI (digV tx tl (tsk tx tl (ten tx tl (tsk tx tl e)))), nI (numV tx tl (tsk tx tl (ten tx tl (tsk tx tl e))))), upd (upd rd wi (nI (12))) (wi + 1) (nI (nvl tx tl (tsk tx tl (ten tx tl (tsk tx tl e)))))), ⟨by simp [lineP, hk, lineK, bd, nums, hn0], rdk rdl1⟩, ⟨rfl, rfl⟩⟩
      · skip
        refine g_eq (ws' := [(m0, .inr (10, (.int (nI (nt)) :: .ref mt :: .int (nI (nb)) :: .ref mk :: .ref mb :: .int (nI (lw)) :: .int (nI (sl)) :: .int (nI (tl)) :: .ref mx :: .int (nI (ten tx tl (tsk tx tl (ten tx tl (tsk tx tl e))))) :: .int (nI (tsk tx tl (ten tx tl (tsk tx tl e)))) :: .long (tokV tx tl (tsk tx tl (ten tx tl (tsk tx tl e)))) :: .int (nI (digV tx tl (tsk tx tl (ten tx tl (tsk tx tl e))))) :: .int (nI (numV tx tl (tsk tx tl (ten tx tl (tsk tx tl e))))) :: .int (nI (tsk tx tl (ten tx tl (tsk tx tl e)))) :: .int (rm_) :: .int (nI (rtn)) :: .int (nI (rbn)) :: .ref mr :: .ref mn :: .ref ma :: .ref mi :: .ref mj :: .int (nI (en)) :: .ref mg :: .int (nI (sn)) :: .ref ms :: .int (nI (dn)) :: .ref md :: .ref mc :: .ref me :: .int (ga) :: .ref mh :: .ref mo :: .ref mw :: []))), (mx, .inl (E.2.1.1, 200, .inl (nA (tx)))), (mr, .inl (E.2.1.1, 50, .inl (upd rd wi (nI (12)))))]) (st' := [.int (nI (0))]) ?_ rfl rfl rfl
        refine g_iret (st := []) dX10_isLine_432 rfl (narZ (by first | exact Or.inl rfl | exact Or.inr rfl)) rfl ?_
        exact Or.inr ⟨(tsk tx tl (ten tx tl (tsk tx tl e)), (nI (ten tx tl (tsk tx tl (ten tx tl (tsk tx tl e)))), nI (tsk tx tl (ten tx tl (tsk tx tl e))), tokV tx tl (tsk tx tl (ten tx tl (tsk tx tl e))), nI (digV tx tl (tsk tx tl (ten tx tl (tsk tx tl e)))), nI (numV tx tl (tsk tx tl (ten tx tl (tsk tx tl e)))), nI (rbn)), upd rd wi (nI (12))), by simp [lineP, hk, lineK, bd, nums, hn0], ⟨rfl, rfl⟩⟩
  · have hk : wdM (tokV tx tl (tsk tx tl e)) = some 13 := by rw [hv]; decide +kernel
    refine g_eq (ws' := [(m0, .inr (10, (.int (nI (nt)) :: .ref mt :: .int (nI (nb)) :: .ref mk :: .ref mb :: .int (nI (lw)) :: .int (nI (sl)) :: .int (nI (tl)) :: .ref mx :: .int (nI (ten tx tl (tsk tx tl e))) :: .int (nI (tsk tx tl e)) :: .long ((131360 : Int64)) :: .int (nI (digV tx tl (tsk tx tl e))) :: .int (nI (numV tx tl (tsk tx tl e))) :: .int (fa) :: .int (rm_) :: .int (nI (rtn)) :: .int (nI (rbn)) :: .ref mr :: .ref mn :: .ref ma :: .ref mi :: .ref mj :: .int (nI (en)) :: .ref mg :: .int (nI (sn)) :: .ref ms :: .int (nI (dn)) :: .ref md :: .ref mc :: .ref me :: .int (ga) :: .ref mh :: .ref mo :: .ref mw :: []))), (mx, .inl (E.2.1.1, 200, .inl (nA (tx)))), (mr, .inl (E.2.1.1, 50, .inl (rd)))]) ?_ (by rw [hv]) rfl rfl
    refine g_aload_n (q := 5) dX10_isLine_4 rfl rfl rfl ?_
    refine gf_X10_111 rfl 0 rfl rfl (q := 8) dX10_isLine_5 rfl ?_
    refine g_ldc2 (v := 8740238) rfl mkX10_148 (q := 11) dX10_isLine_8 rfl ?_
    refine g_lcmp (q := 12) dX10_isLine_11 rfl ?_
    refine g_if_ne (t := 19) (q := 15) dX10_isLine_12 (by decide) rfl (fun c12 => ?_) (fun c12 => absurd c12 (by decide +kernel))
    refine g_aload_n (q := 20) dX10_isLine_19 rfl rfl rfl ?_
    refine gf_X10_111 rfl 0 rfl rfl (q := 23) dX10_isLine_20 rfl ?_
    refine g_ldc2 (v := 129450) rfl mkX10_150 (q := 26) dX10_isLine_23 rfl ?_
    refine g_lcmp (q := 27) dX10_isLine_26 rfl ?_
    refine g_if_ne (t := 34) (q := 30) dX10_isLine_27 (by decide) rfl (fun c27 => ?_) (fun c27 => absurd c27 (by decide +kernel))
    refine g_aload_n (q := 35) dX10_isLine_34 rfl rfl rfl ?_
    refine gf_X10_111 rfl 0 rfl rfl (q := 38) dX10_isLine_35 rfl ?_
    refine g_ldc2 (v := 158523) rfl mkX10_152 (q := 41) dX10_isLine_38 rfl ?_
    refine g_lcmp (q := 42) dX10_isLine_41 rfl ?_
    refine g_if_ne (t := 49) (q := 45) dX10_isLine_42 (by decide) rfl (fun c42 => ?_) (fun c42 => absurd c42 (by decide +kernel))
    refine g_aload_n (q := 50) dX10_isLine_49 rfl rfl rfl ?_
    refine gf_X10_111 rfl 0 rfl rfl (q := 53) dX10_isLine_50 rfl ?_
    refine g_ldc2 (v := 6465065272) rfl mkX10_154 (q := 56) dX10_isLine_53 rfl ?_
    refine g_lcmp (q := 57) dX10_isLine_56 rfl ?_
    refine g_if_ne (t := 64) (q := 60) dX10_isLine_57 (by decide) rfl (fun c57 => ?_) (fun c57 => absurd c57 (by decide +kernel))
    refine g_aload_n (q := 65) dX10_isLine_64 rfl rfl rfl ?_
    refine gf_X10_111 rfl 0 rfl rfl (q := 68) dX10_isLine_65 rfl ?_
    refine g_ldc2 (v := 4351291) rfl mkX10_156 (q := 71) dX10_isLine_68 rfl ?_
    refine g_lcmp (q := 72) dX10_isLine_71 rfl ?_
    refine g_if_ne (t := 79) (q := 75) dX10_isLine_72 (by decide) rfl (fun c72 => ?_) (fun c72 => absurd c72 (by decide +kernel))
    refine g_aload_n (q := 80) dX10_isLine_79 rfl rfl rfl ?_
    refine gf_X10_111 rfl 0 rfl rfl (q := 83) dX10_isLine_80 rfl ?_
    refine g_ldc2 (v := 6559778) rfl mkX10_158 (q := 86) dX10_isLine_83 rfl ?_
    refine g_lcmp (q := 87) dX10_isLine_86 rfl ?_
    refine g_if_ne (t := 94) (q := 90) dX10_isLine_87 (by decide) rfl (fun c87 => ?_) (fun c87 => absurd c87 (by decide +kernel))
    refine g_aload_n (q := 95) dX10_isLine_94 rfl rfl rfl ?_
    refine gf_X10_111 rfl 0 rfl rfl (q := 98) dX10_isLine_95 rfl ?_
    refine g_ldc2 (v := 6476969) rfl mkX10_160 (q := 101) dX10_isLine_98 rfl ?_
    refine g_lcmp (q := 102) dX10_isLine_101 rfl ?_
    refine g_if_ne (t := 110) (q := 105) dX10_isLine_102 (by decide) rfl (fun c102 => ?_) (fun c102 => absurd c102 (by decide +kernel))
    refine g_iconst (v := (-1)) (q := 111) dX10_isLine_110 rfl ki_m1 ?_
    refine g_istore_n (lv' := [(0, _), (1, _), (2, _)]) (q := 112) dX10_isLine_111 rfl rfl (Nat.le_of_ble_eq_true rfl) rfl ?_
    refine g_aload_n (q := 113) dX10_isLine_112 rfl rfl rfl ?_
    refine gf_X10_111 rfl 0 rfl rfl (q := 116) dX10_isLine_113 rfl ?_
    refine g_ldc2 (v := 286880) rfl mkX10_162 (q := 119) dX10_isLine_116 rfl ?_
    refine g_lcmp (q := 120) dX10_isLine_119 rfl ?_
    refine g_if_ne (t := 128) (q := 123) dX10_isLine_120 (by decide) rfl (fun c120 => ?_) (fun c120 => absurd c120 (by decide +kernel))
    refine g_aload_n (q := 129) dX10_isLine_128 rfl rfl rfl ?_
    refine gf_X10_111 rfl 0 rfl rfl (q := 132) dX10_isLine_129 rfl ?_
    refine g_ldc2 (v := 174869447) rfl mkX10_164 (q := 135) dX10_isLine_132 rfl ?_
    refine g_lcmp (q := 136) dX10_isLine_135 rfl ?_
    refine g_if_ne (t := 144) (q := 139) dX10_isLine_136 (by decide) rfl (fun c136 => ?_) (fun c136 => absurd c136 (by decide +kernel))
    refine g_aload_n (q := 145) dX10_isLine_144 rfl rfl rfl ?_
    refine gf_X10_111 rfl 0 rfl rfl (q := 148) dX10_isLine_145 rfl ?_
    refine g_ldc2 (v := 405230) rfl mkX10_166 (q := 151) dX10_isLine_148 rfl ?_
    refine g_lcmp (q := 152) dX10_isLine_151 rfl ?_
    refine g_if_ne (t := 160) (q := 155) dX10_isLine_152 (by decide) rfl (fun c152 => ?_) (fun c152 => absurd c152 (by decide +kernel))
    refine g_aload_n (q := 161) dX10_isLine_160 rfl rfl rfl ?_
    refine gf_X10_111 rfl 0 rfl rfl (q := 164) dX10_isLine_161 rfl ?_
    refine g_ldc2 (v := 453836) rfl mkX10_168 (q := 167) dX10_isLine_164 rfl ?_
    refine g_lcmp (q := 168) dX10_isLine_167 rfl ?_
    refine g_if_ne (t := 176) (q := 171) dX10_isLine_168 (by decide) rfl (fun c168 => ?_) (fun c168 => absurd c168 (by decide +kernel))
    refine g_aload_n (q := 177) dX10_isLine_176 rfl rfl rfl ?_
    refine gf_X10_111 rfl 0 rfl rfl (q := 180) dX10_isLine_177 rfl ?_
    refine g_ldc2 (v := 279875) rfl mkX10_170 (q := 183) dX10_isLine_180 rfl ?_
    refine g_lcmp (q := 184) dX10_isLine_183 rfl ?_
    refine g_if_ne (t := 192) (q := 187) dX10_isLine_184 (by decide) rfl (fun c184 => ?_) (fun c184 => absurd c184 (by decide +kernel))
    refine g_aload_n (q := 193) dX10_isLine_192 rfl rfl rfl ?_
    refine gf_X10_111 rfl 0 rfl rfl (q := 196) dX10_isLine_193 rfl ?_
    refine g_ldc2 (v := 10334396) rfl mkX10_172 (q := 199) dX10_isLine_196 rfl ?_
    refine g_lcmp (q := 200) dX10_isLine_199 rfl ?_
    refine g_if_ne (t := 208) (q := 203) dX10_isLine_200 (by decide) rfl (fun c200 => ?_) (fun c200 => absurd c200 (by decide +kernel))
    refine g_aload_n (q := 209) dX10_isLine_208 rfl rfl rfl ?_
    refine gf_X10_111 rfl 0 rfl rfl (q := 212) dX10_isLine_209 rfl ?_
    refine g_ldc2 (v := 131360) rfl mkX10_174 (q := 215) dX10_isLine_212 rfl ?_
    refine g_lcmp (q := 216) dX10_isLine_215 rfl ?_
    refine g_if_ne (t := 224) (q := 219) dX10_isLine_216 (by decide) rfl (fun c216 => absurd (by decide +kernel) c216) (fun c216 => ?_)
    refine g_bipush (v := nI 13) (q := 221) dX10_isLine_219 rfl kb_13 ?_
    refine g_goto (q := 225) dX10_isLine_221 (by decide) ?_
    refine g_istore_n (lv' := [(0, _), (1, _), (2, _), (3, _)]) (q := 226) dX10_isLine_225 rfl rfl (Nat.le_of_ble_eq_true rfl) rfl ?_
    refine g_aload_n (q := 227) dX10_isLine_226 rfl rfl rfl ?_
    refine gf_X10_26 rfl 0 rfl rfl (q := 230) dX10_isLine_227 rfl ?_
    refine g_iload_n (q := 231) dX10_isLine_230 rfl rfl rfl ?_
    refine g_iload_n (q := 232) dX10_isLine_231 rfl rfl rfl ?_
    refine g_iconst (v := (-1)) (q := 233) dX10_isLine_232 rfl ki_m1 ?_
    refine g_icmp_ne (t := 240) (q := 236) dX10_isLine_233 (by decide) rfl (fun c233 => ?_) (fun c233 => ?_)
    · exact absurd (by decide) c233
    · skip
      refine g_iload_n (q := 237) dX10_isLine_236 rfl rfl rfl ?_
      refine g_goto (q := 241) dX10_isLine_237 (by decide) ?_
      refine g_iast (f' := (upd rd wi (nI (13)))) 2 rfl (ixIn (j := wi) rfl (by omega) (by decide)) (ixU (j := wi) rfl (by omega)) (ws' := [_, _, (_, .inl (_, _, .inl _))]) rfl (q := 242) dX10_isLine_241 rfl ?_
      refine g_aload_n (q := 243) dX10_isLine_242 rfl rfl rfl ?_
      refine gf_X10_26 rfl 0 rfl rfl (q := 246) dX10_isLine_243 rfl ?_
      refine g_iload_n (q := 247) dX10_isLine_246 rfl rfl rfl ?_
      refine g_iald (v := nI (13)) 2 rfl (ixIn (j := wi) rfl (by omega) (by decide)) (ixVr (by omega)) (q := 248) dX10_isLine_247 rfl ?_
      refine g_tableIn (off := 185) (q := 433) dX10_isLine_248 (by decide) (by decide) (by decide) (by decide) ?_
      refine g_aload_n (q := 434) dX10_isLine_433 rfl rfl rfl ?_
      refine g_iconst (v := nI 0) (q := 435) dX10_isLine_434 rfl ki_0 ?_
      refine pf_X10_141 rfl 0 rfl (Nat.le_of_ble_eq_true rfl) (ws' := [(_, .inr (_, (_ :: _ :: _ :: _ :: _ :: _ :: _ :: _ :: _ :: _ :: _ :: _ :: _ :: _ :: _ :: _ :: _ :: _ :: _ :: _ :: _ :: _ :: _ :: _ :: _ :: _ :: _ :: _ :: _ :: _ :: _ :: _ :: _ :: _ :: _ :: []))), _, _]) rfl (q := 438) dX10_isLine_435 rfl ?_
      refine g_iconst (v := nI 1) (q := 439) dX10_isLine_438 rfl ki_1 ?_
      refine g_iret (st := []) dX10_isLine_439 rfl (narZ (by first | exact Or.inl rfl | exact Or.inr rfl)) rfl ?_
      exact Or.inl ⟨(((13, []), ten tx tl (tsk tx tl e)), (nI (tsk tx tl e), (131360 : Int64), nI (digV tx tl (tsk tx tl e)), nI (numV tx tl (tsk tx tl e))), upd rd wi (nI (13))), ⟨by simp [lineP, hk, lineK, bd, nums], rdk rdl0⟩, ⟨rfl, rfl⟩⟩
  · skip
    refine g_aload_n (q := 5) dX10_isLine_4 rfl rfl rfl ?_
    refine gf_X10_111 rfl 0 rfl rfl (q := 8) dX10_isLine_5 rfl ?_
    refine g_ldc2 (v := 8740238) rfl mkX10_148 (q := 11) dX10_isLine_8 rfl ?_
    refine g_lcmp (q := 12) dX10_isLine_11 rfl ?_
    refine g_if_ne (t := 19) (q := 15) dX10_isLine_12 (by decide) rfl (fun c12 => ?_) (fun c12 => absurd ((lg_cmp_eq _ _).mp c12) a0)
    refine g_aload_n (q := 20) dX10_isLine_19 rfl rfl rfl ?_
    refine gf_X10_111 rfl 0 rfl rfl (q := 23) dX10_isLine_20 rfl ?_
    refine g_ldc2 (v := 129450) rfl mkX10_150 (q := 26) dX10_isLine_23 rfl ?_
    refine g_lcmp (q := 27) dX10_isLine_26 rfl ?_
    refine g_if_ne (t := 34) (q := 30) dX10_isLine_27 (by decide) rfl (fun c27 => ?_) (fun c27 => absurd ((lg_cmp_eq _ _).mp c27) a1)
    refine g_aload_n (q := 35) dX10_isLine_34 rfl rfl rfl ?_
    refine gf_X10_111 rfl 0 rfl rfl (q := 38) dX10_isLine_35 rfl ?_
    refine g_ldc2 (v := 158523) rfl mkX10_152 (q := 41) dX10_isLine_38 rfl ?_
    refine g_lcmp (q := 42) dX10_isLine_41 rfl ?_
    refine g_if_ne (t := 49) (q := 45) dX10_isLine_42 (by decide) rfl (fun c42 => ?_) (fun c42 => absurd ((lg_cmp_eq _ _).mp c42) a2)
    refine g_aload_n (q := 50) dX10_isLine_49 rfl rfl rfl ?_
    refine gf_X10_111 rfl 0 rfl rfl (q := 53) dX10_isLine_50 rfl ?_
    refine g_ldc2 (v := 6465065272) rfl mkX10_154 (q := 56) dX10_isLine_53 rfl ?_
    refine g_lcmp (q := 57) dX10_isLine_56 rfl ?_
    refine g_if_ne (t := 64) (q := 60) dX10_isLine_57 (by decide) rfl (fun c57 => ?_) (fun c57 => absurd ((lg_cmp_eq _ _).mp c57) a3)
    refine g_aload_n (q := 65) dX10_isLine_64 rfl rfl rfl ?_
    refine gf_X10_111 rfl 0 rfl rfl (q := 68) dX10_isLine_65 rfl ?_
    refine g_ldc2 (v := 4351291) rfl mkX10_156 (q := 71) dX10_isLine_68 rfl ?_
    refine g_lcmp (q := 72) dX10_isLine_71 rfl ?_
    refine g_if_ne (t := 79) (q := 75) dX10_isLine_72 (by decide) rfl (fun c72 => ?_) (fun c72 => absurd ((lg_cmp_eq _ _).mp c72) a4)
    refine g_aload_n (q := 80) dX10_isLine_79 rfl rfl rfl ?_
    refine gf_X10_111 rfl 0 rfl rfl (q := 83) dX10_isLine_80 rfl ?_
    refine g_ldc2 (v := 6559778) rfl mkX10_158 (q := 86) dX10_isLine_83 rfl ?_
    refine g_lcmp (q := 87) dX10_isLine_86 rfl ?_
    refine g_if_ne (t := 94) (q := 90) dX10_isLine_87 (by decide) rfl (fun c87 => ?_) (fun c87 => absurd ((lg_cmp_eq _ _).mp c87) a5)
    refine g_aload_n (q := 95) dX10_isLine_94 rfl rfl rfl ?_
    refine gf_X10_111 rfl 0 rfl rfl (q := 98) dX10_isLine_95 rfl ?_
    refine g_ldc2 (v := 6476969) rfl mkX10_160 (q := 101) dX10_isLine_98 rfl ?_
    refine g_lcmp (q := 102) dX10_isLine_101 rfl ?_
    refine g_if_ne (t := 110) (q := 105) dX10_isLine_102 (by decide) rfl (fun c102 => ?_) (fun c102 => absurd ((lg_cmp_eq _ _).mp c102) a6)
    refine g_iconst (v := (-1)) (q := 111) dX10_isLine_110 rfl ki_m1 ?_
    refine g_istore_n (lv' := [(0, _), (1, _), (2, _)]) (q := 112) dX10_isLine_111 rfl rfl (Nat.le_of_ble_eq_true rfl) rfl ?_
    refine g_aload_n (q := 113) dX10_isLine_112 rfl rfl rfl ?_
    refine gf_X10_111 rfl 0 rfl rfl (q := 116) dX10_isLine_113 rfl ?_
    refine g_ldc2 (v := 286880) rfl mkX10_162 (q := 119) dX10_isLine_116 rfl ?_
    refine g_lcmp (q := 120) dX10_isLine_119 rfl ?_
    refine g_if_ne (t := 128) (q := 123) dX10_isLine_120 (by decide) rfl (fun c120 => ?_) (fun c120 => absurd ((lg_cmp_eq _ _).mp c120) a7)
    refine g_aload_n (q := 129) dX10_isLine_128 rfl rfl rfl ?_
    refine gf_X10_111 rfl 0 rfl rfl (q := 132) dX10_isLine_129 rfl ?_
    refine g_ldc2 (v := 174869447) rfl mkX10_164 (q := 135) dX10_isLine_132 rfl ?_
    refine g_lcmp (q := 136) dX10_isLine_135 rfl ?_
    refine g_if_ne (t := 144) (q := 139) dX10_isLine_136 (by decide) rfl (fun c136 => ?_) (fun c136 => absurd ((lg_cmp_eq _ _).mp c136) a8)
    refine g_aload_n (q := 145) dX10_isLine_144 rfl rfl rfl ?_
    refine gf_X10_111 rfl 0 rfl rfl (q := 148) dX10_isLine_145 rfl ?_
    refine g_ldc2 (v := 405230) rfl mkX10_166 (q := 151) dX10_isLine_148 rfl ?_
    refine g_lcmp (q := 152) dX10_isLine_151 rfl ?_
    refine g_if_ne (t := 160) (q := 155) dX10_isLine_152 (by decide) rfl (fun c152 => ?_) (fun c152 => absurd ((lg_cmp_eq _ _).mp c152) a9)
    refine g_aload_n (q := 161) dX10_isLine_160 rfl rfl rfl ?_
    refine gf_X10_111 rfl 0 rfl rfl (q := 164) dX10_isLine_161 rfl ?_
    refine g_ldc2 (v := 453836) rfl mkX10_168 (q := 167) dX10_isLine_164 rfl ?_
    refine g_lcmp (q := 168) dX10_isLine_167 rfl ?_
    refine g_if_ne (t := 176) (q := 171) dX10_isLine_168 (by decide) rfl (fun c168 => ?_) (fun c168 => absurd ((lg_cmp_eq _ _).mp c168) a10)
    refine g_aload_n (q := 177) dX10_isLine_176 rfl rfl rfl ?_
    refine gf_X10_111 rfl 0 rfl rfl (q := 180) dX10_isLine_177 rfl ?_
    refine g_ldc2 (v := 279875) rfl mkX10_170 (q := 183) dX10_isLine_180 rfl ?_
    refine g_lcmp (q := 184) dX10_isLine_183 rfl ?_
    refine g_if_ne (t := 192) (q := 187) dX10_isLine_184 (by decide) rfl (fun c184 => ?_) (fun c184 => absurd ((lg_cmp_eq _ _).mp c184) a11)
    refine g_aload_n (q := 193) dX10_isLine_192 rfl rfl rfl ?_
    refine gf_X10_111 rfl 0 rfl rfl (q := 196) dX10_isLine_193 rfl ?_
    refine g_ldc2 (v := 10334396) rfl mkX10_172 (q := 199) dX10_isLine_196 rfl ?_
    refine g_lcmp (q := 200) dX10_isLine_199 rfl ?_
    refine g_if_ne (t := 208) (q := 203) dX10_isLine_200 (by decide) rfl (fun c200 => ?_) (fun c200 => absurd ((lg_cmp_eq _ _).mp c200) a12)
    refine g_aload_n (q := 209) dX10_isLine_208 rfl rfl rfl ?_
    refine gf_X10_111 rfl 0 rfl rfl (q := 212) dX10_isLine_209 rfl ?_
    refine g_ldc2 (v := 131360) rfl mkX10_174 (q := 215) dX10_isLine_212 rfl ?_
    refine g_lcmp (q := 216) dX10_isLine_215 rfl ?_
    refine g_if_ne (t := 224) (q := 219) dX10_isLine_216 (by decide) rfl (fun c216 => ?_) (fun c216 => absurd ((lg_cmp_eq _ _).mp c216) a13)
    refine g_iconst (v := (-1)) (q := 225) dX10_isLine_224 rfl ki_m1 ?_
    refine g_istore_n (lv' := [(0, _), (1, _), (2, _), (3, _)]) (q := 226) dX10_isLine_225 rfl rfl (Nat.le_of_ble_eq_true rfl) rfl ?_
    refine g_aload_n (q := 227) dX10_isLine_226 rfl rfl rfl ?_
    refine gf_X10_26 rfl 0 rfl rfl (q := 230) dX10_isLine_227 rfl ?_
    refine g_iload_n (q := 231) dX10_isLine_230 rfl rfl rfl ?_
    refine g_iload_n (q := 232) dX10_isLine_231 rfl rfl rfl ?_
    refine g_iconst (v := (-1)) (q := 233) dX10_isLine_232 rfl ki_m1 ?_
    refine g_icmp_ne (t := 240) (q := 236) dX10_isLine_233 (by decide) rfl (fun c233 => ?_) (fun c233 => ?_)
    · exact absurd (by decide) c233
    · skip
      refine g_iload_n (q := 237) dX10_isLine_236 rfl rfl rfl ?_
      refine g_goto (q := 241) dX10_isLine_237 (by decide) ?_
      refine g_iast (f' := (upd rd wi (-1))) 2 rfl (ixIn (j := wi) rfl (by omega) (by decide)) (ixU (j := wi) rfl (by omega)) (ws' := [_, _, (_, .inl (_, _, .inl _))]) rfl (q := 242) dX10_isLine_241 rfl ?_
      refine g_aload_n (q := 243) dX10_isLine_242 rfl rfl rfl ?_
      refine gf_X10_26 rfl 0 rfl rfl (q := 246) dX10_isLine_243 rfl ?_
      refine g_iload_n (q := 247) dX10_isLine_246 rfl rfl rfl ?_
      refine g_iald (v := -1) 2 rfl (ixIn (j := wi) rfl (by omega) (by decide)) (ixVr (by omega)) (q := 248) dX10_isLine_247 rfl ?_
      refine g_tableOut (q := 440) dX10_isLine_248 (by decide) (by decide) ?_
      refine g_aload_n (q := 441) dX10_isLine_440 rfl rfl rfl ?_
      refine gc_X10_131 (c_fails) rfl (Nat.le_of_ble_eq_true rfl) rfl 0 rfl [0] rfl rfl (rest := []) rfl (Nat.le_of_ble_eq_true rfl) (q := 444) dX10_isLine_441 rfl (exK (ws' := [(_, .inr (_, (_ :: _ :: _ :: _ :: _ :: _ :: _ :: _ :: _ :: _ :: _ :: _ :: _ :: _ :: _ :: _ :: _ :: _ :: _ :: _ :: _ :: _ :: _ :: _ :: _ :: _ :: _ :: _ :: _ :: _ :: _ :: _ :: _ :: _ :: _ :: []))), _, _]) (st' := [.int (nI (0))]) rfl rfl ?_)
      refine g_iret (st := []) dX10_isLine_444 rfl (narZ (by first | exact Or.inl rfl | exact Or.inr rfl)) rfl ?_
      exact Or.inr ⟨(tsk tx tl e, (nI (ten tx tl (tsk tx tl e)), nI (tsk tx tl e), tokV tx tl (tsk tx tl e), nI (digV tx tl (tsk tx tl e)), nI (numV tx tl (tsk tx tl e)), nI (rbn)), upd rd wi (-1)), by simp only [lineP, hk], ⟨rfl, rfl⟩⟩
