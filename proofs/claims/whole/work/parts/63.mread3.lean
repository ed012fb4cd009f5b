theorem rTB {rtn rbn : Nat} {x : LN} (h1 : 2 ≤ rtn) (h2 : rtn ≤ 6) (hb : rbn ≤ 10) (h3 : x.1 < 4 → rbn < 10) (h4 : ∀ i, i < (bd x.1 rtn).length → ((bd x.1 rtn).getD i (0, 0)).1 ≤ x.2.getD i 0 ∧ x.2.getD i 0 ≤ ((bd x.1 rtn).getD i (0, 0)).2) : (2 ≤ rT rtn x ∧ rT rtn x ≤ 6) ∧ rB rbn x ≤ 10 := by
  refine ⟨?_, ?_⟩
  · unfold rT
    split
    · rename_i h
      rw [h] at h4
      have := h4 0 (by simp [bd])
      simpa [bd] using this
    · exact ⟨h1, h2⟩
  · unfold rB
    repeat' split
    all_goals omega
theorem len_app {acc : List LN} {l : LN} (h : ∀ k, k < acc.length → (acc.getD k (0, [])).2.length ≤ 4) (h2 : l.2.length ≤ 4) : ∀ k, k < (acc ++ [l]).length → ((acc ++ [l]).getD k (0, [])).2.length ≤ 4 := by
  intro k hk
  rw [List.length_append, List.length_singleton] at hk
  by_cases he : k = acc.length
  · subst he
    rw [gdA]
    exact h2
  · rw [gdB (by omega)]
    exact h k (by omega)
theorem prs_len {tx : Nat → Nat} {tl : Nat} : ∀ {f e nt nb : Nat} {r : List LN}, prs tx tl f e nt nb = .inr r → r.length ≤ f
  | 0, e, nt, nb, r, h => by cases h
  | f + 1, e, nt, nb, r, h => by
    rw [prs] at h
    cases hr : lineP tx tl nt nb e with
    | inl z => rw [hr] at h; cases h
    | inr x =>
      rw [hr] at h
      simp only at h
      split at h
      · cases h; simp
      · split at h
        · cases hp : prs tx tl f (ten tx tl (tsk tx tl x.2)) (if x.1.1 = 8 then x.1.2.getD 0 0 else nt) (if x.1.1 < 4 then nb + 1 else if x.1.1 = 8 ∨ x.1.1 = 13 then 0 else nb) with
          | inl z => rw [hp] at h; cases h
          | inr l =>
            rw [hp] at h
            cases h
            have := prs_len hp
            simpa using this
        · cases h
set_option maxHeartbeats 2000000 in
set_option maxRecDepth 20000 in
theorem c_isRead {E : EN} {m0 mt mk mb mx mr mn ma mi mj mg ms md mc me mh mo mw nt nb lw sl tl en sn dn : Nat} {po ta dg nu fa rm_ rto rbo ga : Int32} {tk : Int64} {tx : Nat → Nat} {rd : Nat → Int32} (hnt1 : 2 ≤ nt) (hnt : nt ≤ 6) (hnb : nb ≤ 10) (hl : tl ≤ 200) (htx : ∀ j, j < tl → tx j < 256)  : CT E yX10_isRead cX10_isRead 2 (some .boolean) 7 [.ref m0] [(m0, .inr (10, (.int (nI (nt)) :: .ref mt :: .int (nI (nb)) :: .ref mk :: .ref mb :: .int (nI (lw)) :: .int (nI (sl)) :: .int (nI (tl)) :: .ref mx :: .int (po) :: .int (ta) :: .long (tk) :: .int (dg) :: .int (nu) :: .int (fa) :: .int (rm_) :: .int (rto) :: .int (rbo) :: .ref mr :: .ref mn :: .ref ma :: .ref mi :: .ref mj :: .int (nI (en)) :: .ref mg :: .int (nI (sn)) :: .ref ms :: .int (nI (dn)) :: .ref md :: .ref mc :: .ref me :: .int (ga) :: .ref mh :: .ref mo :: .ref mw :: []))), (mx, .inl (E.2.1.1, 200, .inl (nA (tx)))), (mr, .inl (E.2.1.1, 50, .inl (rd)))] (fun r w => (∃ (z : List LN × (Int32 × Int32 × Int64 × Int32 × Int32 × Int32 × Int32) × (Nat → Int32)), (prs tx tl 10 0 nt nb = .inr z.1 ∧ RdA z.2.2 z.1) ∧ xQ (some (.int (nI 1))) [(m0, .inr (10, (.int (nI (nt)) :: .ref mt :: .int (nI (nb)) :: .ref mk :: .ref mb :: .int (nI (lw)) :: .int (nI (sl)) :: .int (nI (tl)) :: .ref mx :: .int (z.2.1.1) :: .int (z.2.1.2.1) :: .long (z.2.1.2.2.1) :: .int (z.2.1.2.2.2.1) :: .int (z.2.1.2.2.2.2.1) :: .int (fa) :: .int (nI (z.1.length)) :: .int (z.2.1.2.2.2.2.2.1) :: .int (z.2.1.2.2.2.2.2.2) :: .ref mr :: .ref mn :: .ref ma :: .ref mi :: .ref mj :: .int (nI (en)) :: .ref mg :: .int (nI (sn)) :: .ref ms :: .int (nI (dn)) :: .ref md :: .ref mc :: .ref me :: .int (ga) :: .ref mh :: .ref mo :: .ref mw :: []))), (mx, .inl (E.2.1.1, 200, .inl (nA (tx)))), (mr, .inl (E.2.1.1, 50, .inl (z.2.2)))] r w) ∨ ∃ (z : Nat × (Int32 × Int32 × Int64 × Int32 × Int32 × Int32 × Int32 × Int32) × (Nat → Int32)), prs tx tl 10 0 nt nb = .inl z.1 ∧ xQ (some (.int (nI 0))) [(m0, .inr (10, (.int (nI (nt)) :: .ref mt :: .int (nI (nb)) :: .ref mk :: .ref mb :: .int (nI (lw)) :: .int (nI (sl)) :: .int (nI (tl)) :: .ref mx :: .int (z.2.1.1) :: .int (z.2.1.2.1) :: .long (z.2.1.2.2.1) :: .int (z.2.1.2.2.2.1) :: .int (z.2.1.2.2.2.2.1) :: .int (nI (z.1)) :: .int (z.2.1.2.2.2.2.2.2.2) :: .int (z.2.1.2.2.2.2.2.1) :: .int (z.2.1.2.2.2.2.2.2.1) :: .ref mr :: .ref mn :: .ref ma :: .ref mi :: .ref mj :: .int (nI (en)) :: .ref mg :: .int (nI (sn)) :: .ref ms :: .int (nI (dn)) :: .ref md :: .ref mc :: .ref me :: .int (ga) :: .ref mh :: .ref mo :: .ref mw :: []))), (mx, .inl (E.2.1.1, 200, .inl (nA (tx)))), (mr, .inl (E.2.1.1, 50, .inl (z.2.2)))] r w) := by
  refine ct_of (by decide +kernel) (Nat.le_of_ble_eq_true rfl) (lv := [(0, .ref m0)]) rfl (fun A => ?_)
  refine g_aload_n (q := 1) dX10_isRead_0 rfl rfl rfl ?_
  refine g_iconst (v := nI 0) (q := 2) dX10_isRead_1 rfl ki_0 ?_
  refine pf_X10_97 rfl 0 rfl (Nat.le_of_ble_eq_true rfl) (ws' := [(_, .inr (_, (_ :: _ :: _ :: _ :: _ :: _ :: _ :: _ :: _ :: _ :: _ :: _ :: _ :: _ :: _ :: _ :: _ :: _ :: _ :: _ :: _ :: _ :: _ :: _ :: _ :: _ :: _ :: _ :: _ :: _ :: _ :: _ :: _ :: _ :: _ :: []))), _, _]) rfl (q := 5) dX10_isRead_2 rfl ?_
  refine g_aload_n (q := 6) dX10_isRead_5 rfl rfl rfl ?_
  refine g_iconst (v := nI 0) (q := 7) dX10_isRead_6 rfl ki_0 ?_
  refine pf_X10_185 rfl 0 rfl (Nat.le_of_ble_eq_true rfl) (ws' := [(_, .inr (_, (_ :: _ :: _ :: _ :: _ :: _ :: _ :: _ :: _ :: _ :: _ :: _ :: _ :: _ :: _ :: _ :: _ :: _ :: _ :: _ :: _ :: _ :: _ :: _ :: _ :: _ :: _ :: _ :: _ :: _ :: _ :: _ :: _ :: _ :: _ :: []))), _, _]) rfl (q := 10) dX10_isRead_7 rfl ?_
  refine g_aload_n (q := 11) dX10_isRead_10 rfl rfl rfl ?_
  refine g_aload_n (q := 12) dX10_isRead_11 rfl rfl rfl ?_
  refine gf_X10_7 rfl 0 rfl rfl (q := 15) dX10_isRead_12 rfl ?_
  refine pf_X10_135 rfl 0 rfl (Nat.le_of_ble_eq_true rfl) (ws' := [(_, .inr (_, (_ :: _ :: _ :: _ :: _ :: _ :: _ :: _ :: _ :: _ :: _ :: _ :: _ :: _ :: _ :: _ :: _ :: _ :: _ :: _ :: _ :: _ :: _ :: _ :: _ :: _ :: _ :: _ :: _ :: _ :: _ :: _ :: _ :: _ :: _ :: []))), _, _]) rfl (q := 18) dX10_isRead_15 rfl ?_
  refine g_aload_n (q := 19) dX10_isRead_18 rfl rfl rfl ?_
  refine g_aload_n (q := 20) dX10_isRead_19 rfl rfl rfl ?_
  refine gf_X10_77 rfl 0 rfl rfl (q := 23) dX10_isRead_20 rfl ?_
  refine pf_X10_141 rfl 0 rfl (Nat.le_of_ble_eq_true rfl) (ws' := [(_, .inr (_, (_ :: _ :: _ :: _ :: _ :: _ :: _ :: _ :: _ :: _ :: _ :: _ :: _ :: _ :: _ :: _ :: _ :: _ :: _ :: _ :: _ :: _ :: _ :: _ :: _ :: _ :: _ :: _ :: _ :: _ :: _ :: _ :: _ :: _ :: _ :: []))), _, _]) rfl (q := 26) dX10_isRead_23 rfl ?_
  refine g_iconst (v := nI 1) (q := 27) dX10_isRead_26 rfl ki_1 ?_
  refine g_istore_n (lv' := [(0, _), (1, _)]) (q := 28) dX10_isRead_27 rfl rfl (Nat.le_of_ble_eq_true rfl) rfl ?_
  refine g_eq (ws' := [(m0, .inr (10, (.int (nI (nt)) :: .ref mt :: .int (nI (nb)) :: .ref mk :: .ref mb :: .int (nI (lw)) :: .int (nI (sl)) :: .int (nI (tl)) :: .ref mx :: .int (nI (0)) :: .int (ta) :: .long (tk) :: .int (dg) :: .int (nu) :: .int (fa) :: .int (nI (([] : List LN).length)) :: .int (nI (nt)) :: .int (nI (nb)) :: .ref mr :: .ref mn :: .ref ma :: .ref mi :: .ref mj :: .int (nI (en)) :: .ref mg :: .int (nI (sn)) :: .ref ms :: .int (nI (dn)) :: .ref md :: .ref mc :: .ref me :: .int (ga) :: .ref mh :: .ref mo :: .ref mw :: []))), (mx, .inl (E.2.1.1, 200, .inl (nA (tx)))), (mr, .inl (E.2.1.1, 50, .inl (rd)))]) ?_ rfl rfl rfl
  refine g_rec (σ := List LN × Nat × Nat × Nat × (Int32 × Int64 × Int32 × Int32) × (Nat → Int32)) (fun f z => (z.1.length + (f + 1) = 10 ∧ z.2.1 ≤ tl ∧ (2 ≤ z.2.2.1 ∧ z.2.2.1 ≤ 6) ∧ z.2.2.2.1 ≤ 10 ∧ prs tx tl 10 0 nt nb = prsA tx tl z.1 (f + 1) z.2.1 z.2.2.1 z.2.2.2.1 ∧ RdA z.2.2.2.2.2 z.1 ∧ ∀ k, k < z.1.length → (z.1.getD k (0, [])).2.length ≤ 4)) (fun f z => [(m0, .inr (10, (.int (nI (nt)) :: .ref mt :: .int (nI (nb)) :: .ref mk :: .ref mb :: .int (nI (lw)) :: .int (nI (sl)) :: .int (nI (tl)) :: .ref mx :: .int (nI (z.2.1)) :: .int (z.2.2.2.2.1.1) :: .long (z.2.2.2.2.1.2.1) :: .int (z.2.2.2.2.1.2.2.1) :: .int (z.2.2.2.2.1.2.2.2) :: .int (fa) :: .int (nI (z.1.length)) :: .int (nI (z.2.2.1)) :: .int (nI (z.2.2.2.1)) :: .ref mr :: .ref mn :: .ref ma :: .ref mi :: .ref mj :: .int (nI (en)) :: .ref mg :: .int (nI (sn)) :: .ref ms :: .int (nI (dn)) :: .ref md :: .ref mc :: .ref me :: .int (ga) :: .ref mh :: .ref mo :: .ref mw :: []))), (mx, .inl (E.2.1.1, 200, .inl (nA (tx)))), (mr, .inl (E.2.1.1, 50, .inl (z.2.2.2.2.2)))]) (fun f z => [(0, .ref m0), (1, .int (nI (1)))]) ?_ 9 ([], 0, nt, nb, (ta, tk, dg, nu), rd) ⟨rfl, Nat.zero_le _, ⟨hnt1, hnt⟩, hnb, prsA_nil tx tl 10 0 nt nb, fun k hk => absurd hk (Nat.not_lt_zero k), fun k hk => absurd hk (Nat.not_lt_zero k)⟩
  intro f z hz ih
  obtain ⟨acc, e, rtn, rbn, ⟨ta, tk, dg, nu⟩, rd⟩ := z
  obtain ⟨hlen, he, ⟨hr1, hr2⟩, hrb, hR, hA, hA4⟩ := hz
  simp only at hlen he hr1 hr2 hrb hR hA hA4
  have hsl := tsk_le (tx := tx) he
  show G E _ [(m0, .inr (10, (.int (nI (nt)) :: .ref mt :: .int (nI (nb)) :: .ref mk :: .ref mb :: .int (nI (lw)) :: .int (nI (sl)) :: .int (nI (tl)) :: .ref mx :: .int (nI (e)) :: .int (ta) :: .long (tk) :: .int (dg) :: .int (nu) :: .int (fa) :: .int (nI (acc.length)) :: .int (nI (rtn)) :: .int (nI (rbn)) :: .ref mr :: .ref mn :: .ref ma :: .ref mi :: .ref mj :: .int (nI (en)) :: .ref mg :: .int (nI (sn)) :: .ref ms :: .int (nI (dn)) :: .ref md :: .ref mc :: .ref me :: .int (ga) :: .ref mh :: .ref mo :: .ref mw :: []))), (mx, .inl (E.2.1.1, 200, .inl (nA (tx)))), (mr, .inl (E.2.1.1, 50, .inl (rd)))] 28 [(0, .ref m0), (1, .int (nI (1)))] []
  refine g_iload_n (q := 29) dX10_isRead_28 rfl rfl rfl ?_
  refine g_if_eqN (t := 90) (q := 32) dX10_isRead_29 (by decide) rfl (by omega) (fun c29 => ?_) (fun c29 => ?_)
  · omega
  · skip
    refine g_aload_n (q := 33) dX10_isRead_32 rfl rfl rfl ?_
    refine g_iconst (v := nI 5) (q := 34) dX10_isRead_33 rfl ki_5 ?_
    refine g_aload_n (q := 35) dX10_isRead_34 rfl rfl rfl ?_
    refine gf_X10_185 rfl 0 rfl rfl (q := 38) dX10_isRead_35 rfl ?_
    refine g_imulN (q := 39) dX10_isRead_38 rfl ?_
    refine gc_X10_188 (c_isLine (e := e) (wi := 5 * acc.length) he (by omega) hr1 hr2 hrb hl htx) rfl (Nat.le_of_ble_eq_true rfl) rfl 0 rfl [0, 1, 2] rfl rfl (rest := []) rfl (Nat.le_of_ble_eq_true rfl) (q := 42) dX10_isRead_39 rfl (exOrE rfl (fun y hy => ?_) (fun y hy => ?_))
    · skip
      refine g_eq (ws' := [(m0, .inr (10, (.int (nI (nt)) :: .ref mt :: .int (nI (nb)) :: .ref mk :: .ref mb :: .int (nI (lw)) :: .int (nI (sl)) :: .int (nI (tl)) :: .ref mx :: .int (nI (y.1.2)) :: .int (y.2.1.1) :: .long (y.2.1.2.1) :: .int (y.2.1.2.2.1) :: .int (y.2.1.2.2.2) :: .int (fa) :: .int (nI (acc.length)) :: .int (nI (rT rtn y.1.1)) :: .int (nI (rB rbn y.1.1)) :: .ref mr :: .ref mn :: .ref ma :: .ref mi :: .ref mj :: .int (nI (en)) :: .ref mg :: .int (nI (sn)) :: .ref ms :: .int (nI (dn)) :: .ref md :: .ref mc :: .ref me :: .int (ga) :: .ref mh :: .ref mo :: .ref mw :: []))), (mx, .inl (E.2.1.1, 200, .inl (nA (tx)))), (mr, .inl (E.2.1.1, 50, .inl (y.2.2)))]) (st' := [.int (nI (1))]) ?_ rfl rfl rfl
      refine g_if_neN (t := 47) (q := 45) dX10_isRead_42 (by decide) rfl (by omega) (fun c42 => ?_) (fun c42 => ?_)
      · skip
        obtain ⟨hy1, hy2, hy3, hy4⟩ := lineS_in (show lineS tx tl rtn rbn (tsk tx tl e) = .inr y.1 from hy.1) hsl
        have hsl2 := tsk_le (tx := tx) hy2
        refine g_aload_n (q := 48) dX10_isRead_47 rfl rfl rfl ?_
        refine g_dup (q := 49) dX10_isRead_48 rfl rfl ?_
        refine gf_X10_185 rfl 0 rfl rfl (q := 52) dX10_isRead_49 rfl ?_
        refine g_iconst (v := nI 1) (q := 53) dX10_isRead_52 rfl ki_1 ?_
        refine g_iaddN (q := 54) dX10_isRead_53 rfl ?_
        refine pf_X10_185 rfl 0 rfl (Nat.le_of_ble_eq_true rfl) (ws' := [(_, .inr (_, (_ :: _ :: _ :: _ :: _ :: _ :: _ :: _ :: _ :: _ :: _ :: _ :: _ :: _ :: _ :: _ :: _ :: _ :: _ :: _ :: _ :: _ :: _ :: _ :: _ :: _ :: _ :: _ :: _ :: _ :: _ :: _ :: _ :: _ :: _ :: []))), _, _]) rfl (q := 57) dX10_isRead_54 rfl ?_
        refine g_aload_n (q := 58) dX10_isRead_57 rfl rfl rfl ?_
        refine gc_X10_128 (c_nextToken hy2 hl htx) rfl (Nat.le_of_ble_eq_true rfl) rfl 0 rfl [0, 1] rfl rfl (rest := []) rfl (Nat.le_of_ble_eq_true rfl) (q := 61) dX10_isRead_58 rfl (exK (ws' := [(_, .inr (_, (_ :: _ :: _ :: _ :: _ :: _ :: _ :: _ :: _ :: _ :: _ :: _ :: _ :: _ :: _ :: _ :: _ :: _ :: _ :: _ :: _ :: _ :: _ :: _ :: _ :: _ :: _ :: _ :: _ :: _ :: _ :: _ :: _ :: _ :: _ :: []))), (_, .inl (_, _, .inl _)), _]) (st' := []) rfl rfl ?_)
        refine g_aload_n (q := 62) dX10_isRead_61 rfl rfl rfl ?_
        refine gf_X10_111 rfl 0 rfl rfl (q := 65) dX10_isRead_62 rfl ?_
        refine g_ldc2 (v := (-3)) rfl mkX10_123 (q := 68) dX10_isRead_65 rfl ?_
        refine g_lcmp (q := 69) dX10_isRead_68 rfl ?_
        refine g_if_ne (t := 85) (q := 72) dX10_isRead_69 (by decide) rfl (fun c69 => ?_) (fun c69 => ?_)
        · have c69e := fun z => c69 ((lg_cmp_eq _ _).mpr z)
          refine g_iconst (v := nI 0) (q := 86) dX10_isRead_85 rfl ki_0 ?_
          refine g_istore_n (lv' := [(0, _), (1, _)]) (q := 87) dX10_isRead_86 rfl rfl (Nat.le_of_ble_eq_true rfl) rfl ?_
          refine g_goto (q := 28) dX10_isRead_87 (by decide) ?_
          refine g_iload_n (q := 29) dX10_isRead_28 rfl rfl rfl ?_
          refine g_if_eqN (t := 90) (q := 32) dX10_isRead_29 (by decide) rfl (by omega) (fun c29 => ?_) (fun c29 => ?_)
          · skip
            refine g_aload_n (q := 91) dX10_isRead_90 rfl rfl rfl ?_
            refine gf_X10_111 rfl 0 rfl rfl (q := 94) dX10_isRead_91 rfl ?_
            refine g_ldc2 (v := (-2)) rfl mkX10_109 (q := 97) dX10_isRead_94 rfl ?_
            refine g_lcmp (q := 98) dX10_isRead_97 rfl ?_
            refine g_if_eq (t := 108) (q := 101) dX10_isRead_98 (by decide) rfl (fun c98 => ?_) (fun c98 => ?_)
            · have c98e := (lg_cmp_eq _ _).mp c98
              refine g_iconst (v := nI 1) (q := 109) dX10_isRead_108 rfl ki_1 ?_
              refine g_goto (q := 113) dX10_isRead_109 (by decide) ?_
              refine g_iret (st := []) dX10_isRead_113 rfl (narZ (by first | exact Or.inl rfl | exact Or.inr rfl)) rfl ?_
              exact Or.inl ⟨(acc ++ [y.1.1], (nI (ten tx tl (tsk tx tl y.1.2)), nI (tsk tx tl y.1.2), tokV tx tl (tsk tx tl y.1.2), nI (digV tx tl (tsk tx tl y.1.2)), nI (numV tx tl (tsk tx tl y.1.2)), nI (rT rtn y.1.1), nI (rB rbn y.1.1)), y.2.2), ⟨by rw [hR]; exact prsA_e hy.1 (tok_m2.mp c98e), RdA_app hA hA4 hy.2⟩, xr rfl (by rw [List.length_append]; rfl)⟩
            · have c98e := fun z => c98 ((lg_cmp_eq _ _).mpr z)
              refine g_aload_n (q := 102) dX10_isRead_101 rfl rfl rfl ?_
              refine gc_X10_131 (c_fails) rfl (Nat.le_of_ble_eq_true rfl) rfl 0 rfl [0] rfl rfl (rest := []) rfl (Nat.le_of_ble_eq_true rfl) (q := 105) dX10_isRead_102 rfl (exK (ws' := [(_, .inr (_, (_ :: _ :: _ :: _ :: _ :: _ :: _ :: _ :: _ :: _ :: _ :: _ :: _ :: _ :: _ :: _ :: _ :: _ :: _ :: _ :: _ :: _ :: _ :: _ :: _ :: _ :: _ :: _ :: _ :: _ :: _ :: _ :: _ :: _ :: _ :: []))), _, _]) (st' := [.int (nI (0))]) rfl rfl ?_)
              refine g_if_eqN (t := 112) (q := 108) dX10_isRead_105 (by decide) rfl (by omega) (fun c105 => ?_) (fun c105 => ?_)
              · skip
                refine g_iconst (v := nI 0) (q := 113) dX10_isRead_112 rfl ki_0 ?_
                refine g_iret (st := []) dX10_isRead_113 rfl (narZ (by first | exact Or.inl rfl | exact Or.inr rfl)) rfl ?_
                exact Or.inr ⟨(tsk tx tl y.1.2, (nI (ten tx tl (tsk tx tl y.1.2)), nI (tsk tx tl y.1.2), tokV tx tl (tsk tx tl y.1.2), nI (digV tx tl (tsk tx tl y.1.2)), nI (numV tx tl (tsk tx tl y.1.2)), nI (rT rtn y.1.1), nI (rB rbn y.1.1), nI (acc.length + 1)), y.2.2), by rw [hR]; exact prsA_x hy.1 (fun z => c98e (tok_m2.mpr z)) (fun z => c69e (tok_m3.mpr ⟨Classical.byContradiction (fun q => c98e (tok_m2.mpr (fmA_0.mpr q))), z.1⟩)), ⟨rfl, rfl⟩⟩
              · omega
          · omega
        · have c69e := (lg_cmp_eq _ _).mp c69
          have h59 := tok_m3.mp c69e
          refine g_aload_n (q := 73) dX10_isRead_72 rfl rfl rfl ?_
          refine gf_X10_185 rfl 0 rfl rfl (q := 76) dX10_isRead_73 rfl ?_
          refine g_bipush (v := nI 10) (q := 78) dX10_isRead_76 rfl kb_10 ?_
          refine g_icmp_geN (t := 85) (q := 81) dX10_isRead_78 (by decide) rfl (by omega) (by omega) (fun c78 => ?_) (fun c78 => ?_)
          · skip
            refine g_iconst (v := nI 0) (q := 86) dX10_isRead_85 rfl ki_0 ?_
            refine g_istore_n (lv' := [(0, _), (1, _)]) (q := 87) dX10_isRead_86 rfl rfl (Nat.le_of_ble_eq_true rfl) rfl ?_
            refine g_goto (q := 28) dX10_isRead_87 (by decide) ?_
            refine g_iload_n (q := 29) dX10_isRead_28 rfl rfl rfl ?_
            refine g_if_eqN (t := 90) (q := 32) dX10_isRead_29 (by decide) rfl (by omega) (fun c29 => ?_) (fun c29 => ?_)
            · skip
              refine g_aload_n (q := 91) dX10_isRead_90 rfl rfl rfl ?_
              refine gf_X10_111 rfl 0 rfl rfl (q := 94) dX10_isRead_91 rfl ?_
              refine g_ldc2 (v := (-2)) rfl mkX10_109 (q := 97) dX10_isRead_94 rfl ?_
              refine g_lcmp (q := 98) dX10_isRead_97 rfl ?_
              refine g_if_eq (t := 108) (q := 101) dX10_isRead_98 (by decide) rfl (fun c98 => ?_) (fun c98 => ?_)
              · have c98e := (lg_cmp_eq _ _).mp c98
                refine g_iconst (v := nI 1) (q := 109) dX10_isRead_108 rfl ki_1 ?_
                refine g_goto (q := 113) dX10_isRead_109 (by decide) ?_
                refine g_iret (st := []) dX10_isRead_113 rfl (narZ (by first | exact Or.inl rfl | exact Or.inr rfl)) rfl ?_
                exact Or.inl ⟨(acc ++ [y.1.1], (nI (ten tx tl (tsk tx tl y.1.2)), nI (tsk tx tl y.1.2), tokV tx tl (tsk tx tl y.1.2), nI (digV tx tl (tsk tx tl y.1.2)), nI (numV tx tl (tsk tx tl y.1.2)), nI (rT rtn y.1.1), nI (rB rbn y.1.1)), y.2.2), ⟨by rw [hR]; exact prsA_e hy.1 (tok_m2.mp c98e), RdA_app hA hA4 hy.2⟩, xr rfl (by rw [List.length_append]; rfl)⟩
              · have c98e := fun z => c98 ((lg_cmp_eq _ _).mpr z)
                refine g_aload_n (q := 102) dX10_isRead_101 rfl rfl rfl ?_
                refine gc_X10_131 (c_fails) rfl (Nat.le_of_ble_eq_true rfl) rfl 0 rfl [0] rfl rfl (rest := []) rfl (Nat.le_of_ble_eq_true rfl) (q := 105) dX10_isRead_102 rfl (exK (ws' := [(_, .inr (_, (_ :: _ :: _ :: _ :: _ :: _ :: _ :: _ :: _ :: _ :: _ :: _ :: _ :: _ :: _ :: _ :: _ :: _ :: _ :: _ :: _ :: _ :: _ :: _ :: _ :: _ :: _ :: _ :: _ :: _ :: _ :: _ :: _ :: _ :: _ :: []))), _, _]) (st' := [.int (nI (0))]) rfl rfl ?_)
                refine g_if_eqN (t := 112) (q := 108) dX10_isRead_105 (by decide) rfl (by omega) (fun c105 => ?_) (fun c105 => ?_)
                · skip
                  refine g_iconst (v := nI 0) (q := 113) dX10_isRead_112 rfl ki_0 ?_
                  refine g_iret (st := []) dX10_isRead_113 rfl (narZ (by first | exact Or.inl rfl | exact Or.inr rfl)) rfl ?_
                  exact Or.inr ⟨(tsk tx tl y.1.2, (nI (ten tx tl (tsk tx tl y.1.2)), nI (tsk tx tl y.1.2), tokV tx tl (tsk tx tl y.1.2), nI (digV tx tl (tsk tx tl y.1.2)), nI (numV tx tl (tsk tx tl y.1.2)), nI (rT rtn y.1.1), nI (rB rbn y.1.1), nI (acc.length + 1)), y.2.2), by rw [hR]; exact prsA_x hy.1 (fun z => c98e (tok_m2.mpr z)) (fun z => z.2 (by omega)), ⟨rfl, rfl⟩⟩
                · omega
            · omega
          · skip
            refine g_iconst (v := nI 1) (q := 82) dX10_isRead_81 rfl ki_1 ?_
            refine g_goto (q := 86) dX10_isRead_82 (by decide) ?_
            refine g_istore_n (lv' := [(0, _), (1, _)]) (q := 87) dX10_isRead_86 rfl rfl (Nat.le_of_ble_eq_true rfl) rfl ?_
            refine g_goto (q := 28) dX10_isRead_87 (by decide) ?_
            obtain ⟨f, rfl⟩ : ∃ g, f = g + 1 := ⟨f - 1, by omega⟩
            refine g_eq (ws' := [(m0, .inr (10, (.int (nI (nt)) :: .ref mt :: .int (nI (nb)) :: .ref mk :: .ref mb :: .int (nI (lw)) :: .int (nI (sl)) :: .int (nI (tl)) :: .ref mx :: .int (nI (ten tx tl (tsk tx tl y.1.2))) :: .int (nI (tsk tx tl y.1.2)) :: .long (tokV tx tl (tsk tx tl y.1.2)) :: .int (nI (digV tx tl (tsk tx tl y.1.2))) :: .int (nI (numV tx tl (tsk tx tl y.1.2))) :: .int (fa) :: .int (nI ((acc ++ [y.1.1]).length)) :: .int (nI (rT rtn y.1.1)) :: .int (nI (rB rbn y.1.1)) :: .ref mr :: .ref mn :: .ref ma :: .ref mi :: .ref mj :: .int (nI (en)) :: .ref mg :: .int (nI (sn)) :: .ref ms :: .int (nI (dn)) :: .ref md :: .ref mc :: .ref me :: .int (ga) :: .ref mh :: .ref mo :: .ref mw :: []))), (mx, .inl (E.2.1.1, 200, .inl (nA (tx)))), (mr, .inl (E.2.1.1, 50, .inl (y.2.2)))]) ?_ (by rw [List.length_append]; rfl) rfl rfl
            have hTB := rTB (x := y.1.1) hr1 hr2 hrb hy3 hy4
            exact ih f (acc ++ [y.1.1], ten tx tl (tsk tx tl y.1.2), rT rtn y.1.1, rB rbn y.1.1, (nI (tsk tx tl y.1.2), tokV tx tl (tsk tx tl y.1.2), nI (digV tx tl (tsk tx tl y.1.2)), nI (numV tx tl (tsk tx tl y.1.2))), y.2.2) rfl ⟨by simp; omega, nt_le hy2, hTB.1, hTB.2, by rw [hR]; exact prsA_t hy.1 (fun z => absurd h59.1 (fmA_0.mp z)) h59.2 (by omega), RdA_app hA hA4 hy.2, len_app hA4 (by rw [lineS_len (show lineS tx tl rtn rbn (tsk tx tl e) = .inr y.1 from hy.1)]; exact bd_len _ _)⟩
      · omega
    · skip
      refine g_eq (ws' := [(m0, .inr (10, (.int (nI (nt)) :: .ref mt :: .int (nI (nb)) :: .ref mk :: .ref mb :: .int (nI (lw)) :: .int (nI (sl)) :: .int (nI (tl)) :: .ref mx :: .int (y.2.1.1) :: .int (y.2.1.2.1) :: .long (y.2.1.2.2.1) :: .int (y.2.1.2.2.2.1) :: .int (y.2.1.2.2.2.2.1) :: .int (nI (y.1)) :: .int (nI (acc.length)) :: .int (nI (rtn)) :: .int (y.2.1.2.2.2.2.2) :: .ref mr :: .ref mn :: .ref ma :: .ref mi :: .ref mj :: .int (nI (en)) :: .ref mg :: .int (nI (sn)) :: .ref ms :: .int (nI (dn)) :: .ref md :: .ref mc :: .ref me :: .int (ga) :: .ref mh :: .ref mo :: .ref mw :: []))), (mx, .inl (E.2.1.1, 200, .inl (nA (tx)))), (mr, .inl (E.2.1.1, 50, .inl (y.2.2)))]) (st' := [.int (nI (0))]) ?_ rfl rfl rfl
      refine g_if_neN (t := 47) (q := 45) dX10_isRead_42 (by decide) rfl (by omega) (fun c42 => ?_) (fun c42 => ?_)
      · omega
      · skip
        refine g_iconst (v := nI 0) (q := 46) dX10_isRead_45 rfl ki_0 ?_
        refine g_iret (st := []) dX10_isRead_46 rfl (narZ (by first | exact Or.inl rfl | exact Or.inr rfl)) rfl ?_
        exact Or.inr ⟨(y.1, (y.2.1.1, y.2.1.2.1, y.2.1.2.2.1, y.2.1.2.2.2.1, y.2.1.2.2.2.2.1, nI (rtn), y.2.1.2.2.2.2.2, nI (acc.length)), y.2.2), by rw [hR]; exact prsA_f hy, ⟨rfl, rfl⟩⟩
set_option maxHeartbeats 2000000 in
set_option maxRecDepth 20000 in
theorem c_mfault {E : EN} {m0 mt mk mb mx mr mn ma mi mj mg ms md mc me mh mo mw nt nb lw sl tl en sn dn : Nat} {po ta dg nu fa rm_ rto rbo ga : Int32} {tk : Int64} {tx : Nat → Nat} {rd : Nat → Int32} (hnt1 : 2 ≤ nt) (hnt : nt ≤ 6) (hnb : nb ≤ 10) (hl : tl ≤ 200) (htx : ∀ j, j < tl → tx j < 256)  : CT E yX10_fault cX10_fault 1 (some .int) 8 [.ref m0] [(m0, .inr (10, (.int (nI (nt)) :: .ref mt :: .int (nI (nb)) :: .ref mk :: .ref mb :: .int (nI (lw)) :: .int (nI (sl)) :: .int (nI (tl)) :: .ref mx :: .int (po) :: .int (ta) :: .long (tk) :: .int (dg) :: .int (nu) :: .int (fa) :: .int (rm_) :: .int (rto) :: .int (rbo) :: .ref mr :: .ref mn :: .ref ma :: .ref mi :: .ref mj :: .int (nI (en)) :: .ref mg :: .int (nI (sn)) :: .ref ms :: .int (nI (dn)) :: .ref md :: .ref mc :: .ref me :: .int (ga) :: .ref mh :: .ref mo :: .ref mw :: []))), (mx, .inl (E.2.1.1, 200, .inl (nA (tx)))), (mr, .inl (E.2.1.1, 50, .inl (rd)))] (fun r w => ∃ (z : (Int32 × Int32 × Int64 × Int32 × Int32 × Int32 × Int32 × Int32 × Int32) × (Nat → Int32)), True ∧ xQ (some (.int (opFault (prs tx tl 10 0 nt nb)))) [(m0, .inr (10, (.int (nI (nt)) :: .ref mt :: .int (nI (nb)) :: .ref mk :: .ref mb :: .int (nI (lw)) :: .int (nI (sl)) :: .int (nI (tl)) :: .ref mx :: .int (z.1.1) :: .int (z.1.2.1) :: .long (z.1.2.2.1) :: .int (z.1.2.2.2.1) :: .int (z.1.2.2.2.2.1) :: .int (z.1.2.2.2.2.2.2.2.2) :: .int (z.1.2.2.2.2.2.2.2.1) :: .int (z.1.2.2.2.2.2.1) :: .int (z.1.2.2.2.2.2.2.1) :: .ref mr :: .ref mn :: .ref ma :: .ref mi :: .ref mj :: .int (nI (en)) :: .ref mg :: .int (nI (sn)) :: .ref ms :: .int (nI (dn)) :: .ref md :: .ref mc :: .ref me :: .int (ga) :: .ref mh :: .ref mo :: .ref mw :: []))), (mx, .inl (E.2.1.1, 200, .inl (nA (tx)))), (mr, .inl (E.2.1.1, 50, .inl (z.2)))] r w) := by
  refine ct_of (by decide +kernel) (Nat.le_of_ble_eq_true rfl) (lv := [(0, .ref m0)]) rfl (fun A => ?_)
  refine g_aload_n (q := 1) dX10_fault_0 rfl rfl rfl ?_
  refine gc_X10_191 (c_isRead hnt1 hnt hnb hl htx) rfl (Nat.le_of_ble_eq_true rfl) rfl 0 rfl [0, 1, 2] rfl rfl (rest := []) rfl (Nat.le_of_ble_eq_true rfl) (q := 4) dX10_fault_1 rfl (exOrE rfl (fun y hy => ?_) (fun y hy => ?_))
  · skip
    refine g_eq (ws' := [(m0, .inr (10, (.int (nI (nt)) :: .ref mt :: .int (nI (nb)) :: .ref mk :: .ref mb :: .int (nI (lw)) :: .int (nI (sl)) :: .int (nI (tl)) :: .ref mx :: .int (y.2.1.1) :: .int (y.2.1.2.1) :: .long (y.2.1.2.2.1) :: .int (y.2.1.2.2.2.1) :: .int (y.2.1.2.2.2.2.1) :: .int (fa) :: .int (nI (y.1.length)) :: .int (y.2.1.2.2.2.2.2.1) :: .int (y.2.1.2.2.2.2.2.2) :: .ref mr :: .ref mn :: .ref ma :: .ref mi :: .ref mj :: .int (nI (en)) :: .ref mg :: .int (nI (sn)) :: .ref ms :: .int (nI (dn)) :: .ref md :: .ref mc :: .ref me :: .int (ga) :: .ref mh :: .ref mo :: .ref mw :: []))), (mx, .inl (E.2.1.1, 200, .inl (nA (tx)))), (mr, .inl (E.2.1.1, 50, .inl (y.2.2)))]) (st' := [.int (nI (1))]) ?_ rfl rfl rfl
    refine g_if_eqN (t := 11) (q := 7) dX10_fault_4 (by decide) rfl (by omega) (fun c4 => ?_) (fun c4 => ?_)
    · omega
    · skip
      refine g_iconst (v := (-1)) (q := 8) dX10_fault_7 rfl ki_m1 ?_
      refine g_goto (q := 15) dX10_fault_8 (by decide) ?_
      refine g_iret (st := []) dX10_fault_15 rfl rfl rfl ?_
      exact ⟨((y.2.1.1, y.2.1.2.1, y.2.1.2.2.1, y.2.1.2.2.2.1, y.2.1.2.2.2.2.1, y.2.1.2.2.2.2.2.1, y.2.1.2.2.2.2.2.2, nI (y.1.length), fa), y.2.2), trivial, xr (by rw [hy.1]; rfl)⟩
  · skip
    refine g_eq (ws' := [(m0, .inr (10, (.int (nI (nt)) :: .ref mt :: .int (nI (nb)) :: .ref mk :: .ref mb :: .int (nI (lw)) :: .int (nI (sl)) :: .int (nI (tl)) :: .ref mx :: .int (y.2.1.1) :: .int (y.2.1.2.1) :: .long (y.2.1.2.2.1) :: .int (y.2.1.2.2.2.1) :: .int (y.2.1.2.2.2.2.1) :: .int (nI (y.1)) :: .int (y.2.1.2.2.2.2.2.2.2) :: .int (y.2.1.2.2.2.2.2.1) :: .int (y.2.1.2.2.2.2.2.2.1) :: .ref mr :: .ref mn :: .ref ma :: .ref mi :: .ref mj :: .int (nI (en)) :: .ref mg :: .int (nI (sn)) :: .ref ms :: .int (nI (dn)) :: .ref md :: .ref mc :: .ref me :: .int (ga) :: .ref mh :: .ref mo :: .ref mw :: []))), (mx, .inl (E.2.1.1, 200, .inl (nA (tx)))), (mr, .inl (E.2.1.1, 50, .inl (y.2.2)))]) (st' := [.int (nI (0))]) ?_ rfl rfl rfl
    refine g_if_eqN (t := 11) (q := 7) dX10_fault_4 (by decide) rfl (by omega) (fun c4 => ?_) (fun c4 => ?_)
    · skip
      refine g_aload_n (q := 12) dX10_fault_11 rfl rfl rfl ?_
      refine gf_X10_125 rfl 0 rfl rfl (q := 15) dX10_fault_12 rfl ?_
      refine g_iret (st := []) dX10_fault_15 rfl rfl rfl ?_
      exact ⟨((y.2.1.1, y.2.1.2.1, y.2.1.2.2.1, y.2.1.2.2.2.1, y.2.1.2.2.2.2.1, y.2.1.2.2.2.2.2.1, y.2.1.2.2.2.2.2.2.1, y.2.1.2.2.2.2.2.2.2, nI (y.1)), y.2.2), trivial, xr (by rw [hy]; rfl)⟩
    · omega
