theorem not_isNone {α : Type} (o : Option α) : (!o.isNone) = o.isSome := by cases o <;> rfl
theorem isSome_t {α : Type} {o : Option α} (h : o.isSome = true) : ∃ a, o = some a := by cases o with
  | none => cases h
  | some a => exact ⟨a, rfl⟩
theorem isSome_f {α : Type} {o : Option α} (h : o.isSome = false) : o = none := by cases o with
  | none => rfl
  | some a => cases h
theorem upd_oAn (f : Nat → Option Nat) (k : Nat) : upd (oA f) k (-1) = oA (updO f k none) := by
  funext j
  by_cases h : j = k
  · subst h; simp [upd, oA, updO, oI]
  · simp [upd, oA, updO, h]
theorem ninB_out {x : Int32} {n a b : Nat} (h : tn x n = none) (ha : a < 2147483648) (hb : b < n) (hn : n < 2147483648 := by decide) : ninB x (nI a) (nI b) = true := by
  rw [ninB_rn ha (by omega)]
  have h2 := tn_out (m := (n : Int) - 1) h (by omega)
  unfold rn
  rw [if_neg (by omega)]
  rfl
theorem tn_ne {x : Int32} {n k : Nat} (h : tn x n = none) (hk : k < n) (hn : n < 2147483648 := by decide) : ¬ x = nI k := by
  intro e
  rw [e, tn_nI hk hn] at h
  cases h
theorem fed_if {w f : Nat} : fed w f = if w - 1 + f < 1 then 1 else if 99 < w - 1 + f then 99 else w - 1 + f := by
  unfold fed
  split
  · omega
  · split <;> omega
set_option maxHeartbeats 2000000 in
set_option maxRecDepth 20000 in
theorem c_in {E : EN} {x a b : Int32} : CT E yX10_in cX10_in 3 (some .boolean) 0 [.int (x), .int (a), .int (b)] [] (xQ (some (.int (bI (!ninB x a b)))) []) := by
  refine ct_of (by decide +kernel) (Nat.le_of_ble_eq_true rfl) (lv := [(0, .int (x)), (1, .int (a)), (2, .int (b))]) rfl (fun A => ?_)
  refine g_iload_n (q := 1) dX10_in_0 rfl rfl rfl ?_
  refine g_iload_n (q := 2) dX10_in_1 rfl rfl rfl ?_
  refine g_icmp_lt (t := 14) (q := 5) dX10_in_2 (by decide) rfl (fun c2 => ?_) (fun c2 => ?_)
  · skip
    refine g_iconst (v := nI 0) (q := 15) dX10_in_14 rfl ki_0 ?_
    refine g_iret (st := []) dX10_in_15 rfl (narZ (by first | exact Or.inl rfl | exact Or.inr rfl)) rfl ?_
    exact xr (by unfold ninB; simp [bI, c2]; try rfl)
  · skip
    refine g_iload_n (q := 6) dX10_in_5 rfl rfl rfl ?_
    refine g_iload_n (q := 7) dX10_in_6 rfl rfl rfl ?_
    refine g_icmp_gt (t := 14) (q := 10) dX10_in_7 (by decide) rfl (fun c7 => ?_) (fun c7 => ?_)
    · skip
      refine g_iconst (v := nI 0) (q := 15) dX10_in_14 rfl ki_0 ?_
      refine g_iret (st := []) dX10_in_15 rfl (narZ (by first | exact Or.inl rfl | exact Or.inr rfl)) rfl ?_
      exact xr (by unfold ninB; simp [bI, c2, c7]; try rfl)
    · skip
      refine g_iconst (v := nI 1) (q := 11) dX10_in_10 rfl ki_1 ?_
      refine g_goto (q := 15) dX10_in_11 (by decide) ?_
      refine g_iret (st := []) dX10_in_15 rfl (narZ (by first | exact Or.inl rfl | exact Or.inr rfl)) rfl ?_
      exact xr (by unfold ninB; simp [bI, c2, c7]; try rfl)
set_option maxHeartbeats 2000000 in
set_option maxRecDepth 20000 in
theorem c_misTown {E : EN} {m0 mt mk mb mx mr mn ma mi mj mg ms md mc me mh mo mw nt nb lw sl tl en sn dn : Nat} {po ta dg nu fa rm_ rto rbo ga : Int32} {tk : Int64} {x : Int32} (h : nt < 1000) : CT E yX10_isTown cX10_isTown 2 (some .boolean) 1 [.ref m0, .int (x)] [(m0, .inr (10, (.int (nI (nt)) :: .ref mt :: .int (nI (nb)) :: .ref mk :: .ref mb :: .int (nI (lw)) :: .int (nI (sl)) :: .int (nI (tl)) :: .ref mx :: .int (po) :: .int (ta) :: .long (tk) :: .int (dg) :: .int (nu) :: .int (fa) :: .int (rm_) :: .int (rto) :: .int (rbo) :: .ref mr :: .ref mn :: .ref ma :: .ref mi :: .ref mj :: .int (nI (en)) :: .ref mg :: .int (nI (sn)) :: .ref ms :: .int (nI (dn)) :: .ref md :: .ref mc :: .ref me :: .int (ga) :: .ref mh :: .ref mo :: .ref mw :: [])))] (xQ (some (.int (bI (tn x nt).isSome))) [(m0, .inr (10, (.int (nI (nt)) :: .ref mt :: .int (nI (nb)) :: .ref mk :: .ref mb :: .int (nI (lw)) :: .int (nI (sl)) :: .int (nI (tl)) :: .ref mx :: .int (po) :: .int (ta) :: .long (tk) :: .int (dg) :: .int (nu) :: .int (fa) :: .int (rm_) :: .int (rto) :: .int (rbo) :: .ref mr :: .ref mn :: .ref ma :: .ref mi :: .ref mj :: .int (nI (en)) :: .ref mg :: .int (nI (sn)) :: .ref ms :: .int (nI (dn)) :: .ref md :: .ref mc :: .ref me :: .int (ga) :: .ref mh :: .ref mo :: .ref mw :: [])))]) := by
  refine ct_of (by decide +kernel) (Nat.le_of_ble_eq_true rfl) (lv := [(0, .ref m0), (1, .int (x))]) rfl (fun A => ?_)
  refine g_iload_n (q := 1) dX10_isTown_0 rfl rfl rfl ?_
  refine g_iconst (v := nI 0) (q := 2) dX10_isTown_1 rfl ki_0 ?_
  refine g_aload_n (q := 3) dX10_isTown_2 rfl rfl rfl ?_
  refine gf_X10_7 rfl 0 rfl rfl (q := 6) dX10_isTown_3 rfl ?_
  refine g_iconst (v := nI 1) (q := 7) dX10_isTown_6 rfl ki_1 ?_
  refine g_isub (q := 8) dX10_isTown_7 rfl ?_
  refine gc_X10_73 (c_in) rfl (Nat.le_of_ble_eq_true rfl) rfl [] rfl rfl (rest := []) rfl (Nat.le_of_ble_eq_true rfl) (q := 11) dX10_isTown_8 rfl (exK (ws' := [_]) (st' := [.int (bI (!ninB x (nI 0) (nI nt - nI 1)))]) rfl rfl ?_)
  refine g_top (y := bI (tn x nt).isSome) (by rw [ninB_tn' (by omega), not_isNone]) ?_
  refine g_iret (st := []) dX10_isTown_11 rfl (narZ (bI_01 _)) rfl ?_
  exact (xr rfl)
set_option maxHeartbeats 2000000 in
set_option maxRecDepth 20000 in
theorem c_misBoy {E : EN} {m0 mt mk mb mx mr mn ma mi mj mg ms md mc me mh mo mw nt nb lw sl tl en sn dn : Nat} {po ta dg nu fa rm_ rto rbo ga : Int32} {tk : Int64} {x : Int32} (h : nb < 1000) : CT E yX10_isBoy cX10_isBoy 2 (some .boolean) 1 [.ref m0, .int (x)] [(m0, .inr (10, (.int (nI (nt)) :: .ref mt :: .int (nI (nb)) :: .ref mk :: .ref mb :: .int (nI (lw)) :: .int (nI (sl)) :: .int (nI (tl)) :: .ref mx :: .int (po) :: .int (ta) :: .long (tk) :: .int (dg) :: .int (nu) :: .int (fa) :: .int (rm_) :: .int (rto) :: .int (rbo) :: .ref mr :: .ref mn :: .ref ma :: .ref mi :: .ref mj :: .int (nI (en)) :: .ref mg :: .int (nI (sn)) :: .ref ms :: .int (nI (dn)) :: .ref md :: .ref mc :: .ref me :: .int (ga) :: .ref mh :: .ref mo :: .ref mw :: [])))] (xQ (some (.int (bI (tn x nb).isSome))) [(m0, .inr (10, (.int (nI (nt)) :: .ref mt :: .int (nI (nb)) :: .ref mk :: .ref mb :: .int (nI (lw)) :: .int (nI (sl)) :: .int (nI (tl)) :: .ref mx :: .int (po) :: .int (ta) :: .long (tk) :: .int (dg) :: .int (nu) :: .int (fa) :: .int (rm_) :: .int (rto) :: .int (rbo) :: .ref mr :: .ref mn :: .ref ma :: .ref mi :: .ref mj :: .int (nI (en)) :: .ref mg :: .int (nI (sn)) :: .ref ms :: .int (nI (dn)) :: .ref md :: .ref mc :: .ref me :: .int (ga) :: .ref mh :: .ref mo :: .ref mw :: [])))]) := by
  refine ct_of (by decide +kernel) (Nat.le_of_ble_eq_true rfl) (lv := [(0, .ref m0), (1, .int (x))]) rfl (fun A => ?_)
  refine g_iload_n (q := 1) dX10_isBoy_0 rfl rfl rfl ?_
  refine g_iconst (v := nI 0) (q := 2) dX10_isBoy_1 rfl ki_0 ?_
  refine g_aload_n (q := 3) dX10_isBoy_2 rfl rfl rfl ?_
  refine gf_X10_77 rfl 0 rfl rfl (q := 6) dX10_isBoy_3 rfl ?_
  refine g_iconst (v := nI 1) (q := 7) dX10_isBoy_6 rfl ki_1 ?_
  refine g_isub (q := 8) dX10_isBoy_7 rfl ?_
  refine gc_X10_73 (c_in) rfl (Nat.le_of_ble_eq_true rfl) rfl [] rfl rfl (rest := []) rfl (Nat.le_of_ble_eq_true rfl) (q := 11) dX10_isBoy_8 rfl (exK (ws' := [_]) (st' := [.int (bI (!ninB x (nI 0) (nI nb - nI 1)))]) rfl rfl ?_)
  refine g_top (y := bI (tn x nb).isSome) (by rw [ninB_tn' (by omega), not_isNone]) ?_
  refine g_iret (st := []) dX10_isBoy_11 rfl (narZ (bI_01 _)) rfl ?_
  exact (xr rfl)
set_option maxHeartbeats 2000000 in
set_option maxRecDepth 20000 in
theorem c_isTime {E : EN} {x : Int32} : CT E yX10_isTime cX10_isTime 1 (some .boolean) 1 [.int (x)] [] (xQ (some (.int (bI (rn x 0 99).isSome))) []) := by
  refine ct_of (by decide +kernel) (Nat.le_of_ble_eq_true rfl) (lv := [(0, .int (x))]) rfl (fun A => ?_)
  refine g_iload_n (q := 1) dX10_isTime_0 rfl rfl rfl ?_
  refine g_iconst (v := nI 0) (q := 2) dX10_isTime_1 rfl ki_0 ?_
  refine g_bipush (v := nI 99) (q := 4) dX10_isTime_2 rfl kb_99 ?_
  refine gc_X10_73 (c_in) rfl (Nat.le_of_ble_eq_true rfl) rfl [] rfl rfl (rest := []) rfl (Nat.le_of_ble_eq_true rfl) (q := 7) dX10_isTime_4 rfl (exK (ws' := []) (st' := [.int (bI (!ninB x (nI 0) (nI 99)))]) rfl rfl ?_)
  refine g_top (y := bI (rn x 0 99).isSome) (by rw [ninB_rn (by decide) (by decide), not_isNone]) ?_
  refine g_iret (st := []) dX10_isTime_7 rfl (narZ (bI_01 _)) rfl ?_
  exact (xr rfl)
theorem upd_if (g : Nat → Option Nat) (i : Nat) : updO (fun b => if b < i then none else g b) i none = fun b => if b < i + 1 then none else g b := by
  funext b
  simp only [updO]
  repeat' split
  all_goals first | rfl | omega
set_option maxHeartbeats 2000000 in
set_option maxRecDepth 20000 in
theorem c_goNowhere {E : EN} {m0 mt mk mb mx mr mn ma mi mj mg ms md mc me mh mo mw nt nb lw sl tl en sn dn : Nat} {po ta dg nu fa rm_ rto rbo ga : Int32} {tk : Int64} {g : Nat → Option Nat}  : CT E yX10_goNowhere cX10_goNowhere 2 (none) 0 [.ref m0] [(m0, .inr (10, (.int (nI (nt)) :: .ref mt :: .int (nI (nb)) :: .ref mk :: .ref mb :: .int (nI (lw)) :: .int (nI (sl)) :: .int (nI (tl)) :: .ref mx :: .int (po) :: .int (ta) :: .long (tk) :: .int (dg) :: .int (nu) :: .int (fa) :: .int (rm_) :: .int (rto) :: .int (rbo) :: .ref mr :: .ref mn :: .ref ma :: .ref mi :: .ref mj :: .int (nI (en)) :: .ref mg :: .int (nI (sn)) :: .ref ms :: .int (nI (dn)) :: .ref md :: .ref mc :: .ref me :: .int (ga) :: .ref mh :: .ref mo :: .ref mw :: []))), (mg, .inl (E.2.1.1, 10, .inl (oA (g))))] (xQ none [(m0, .inr (10, (.int (nI (nt)) :: .ref mt :: .int (nI (nb)) :: .ref mk :: .ref mb :: .int (nI (lw)) :: .int (nI (sl)) :: .int (nI (tl)) :: .ref mx :: .int (po) :: .int (ta) :: .long (tk) :: .int (dg) :: .int (nu) :: .int (fa) :: .int (rm_) :: .int (rto) :: .int (rbo) :: .ref mr :: .ref mn :: .ref ma :: .ref mi :: .ref mj :: .int (nI (0)) :: .ref mg :: .int (nI (sn)) :: .ref ms :: .int (nI (dn)) :: .ref md :: .ref mc :: .ref me :: .int (ga) :: .ref mh :: .ref mo :: .ref mw :: []))), (mg, .inl (E.2.1.1, 10, .inl (oA (fun _ => none))))]) := by
  refine ct_of (by decide +kernel) (Nat.le_of_ble_eq_true rfl) (lv := [(0, .ref m0)]) rfl (fun A => ?_)
  refine g_aload_n (q := 1) dX10_goNowhere_0 rfl rfl rfl ?_
  refine g_iconst (v := nI 0) (q := 2) dX10_goNowhere_1 rfl ki_0 ?_
  refine pf_X10_86 rfl 0 rfl (Nat.le_of_ble_eq_true rfl) (ws' := [(_, .inr (_, (_ :: _ :: _ :: _ :: _ :: _ :: _ :: _ :: _ :: _ :: _ :: _ :: _ :: _ :: _ :: _ :: _ :: _ :: _ :: _ :: _ :: _ :: _ :: _ :: _ :: _ :: _ :: _ :: _ :: _ :: _ :: _ :: _ :: _ :: _ :: []))), _]) rfl (q := 5) dX10_goNowhere_2 rfl ?_
  refine g_iconst (v := nI 0) (q := 6) dX10_goNowhere_5 rfl ki_0 ?_
  refine g_istore_n (lv' := [(0, _), (1, _)]) (q := 7) dX10_goNowhere_6 rfl rfl (Nat.le_of_ble_eq_true rfl) rfl ?_
  refine g_eq (ws' := [(m0, .inr (10, (.int (nI (nt)) :: .ref mt :: .int (nI (nb)) :: .ref mk :: .ref mb :: .int (nI (lw)) :: .int (nI (sl)) :: .int (nI (tl)) :: .ref mx :: .int (po) :: .int (ta) :: .long (tk) :: .int (dg) :: .int (nu) :: .int (fa) :: .int (rm_) :: .int (rto) :: .int (rbo) :: .ref mr :: .ref mn :: .ref ma :: .ref mi :: .ref mj :: .int (nI (0)) :: .ref mg :: .int (nI (sn)) :: .ref ms :: .int (nI (dn)) :: .ref md :: .ref mc :: .ref me :: .int (ga) :: .ref mh :: .ref mo :: .ref mw :: []))), (mg, .inl (E.2.1.1, 10, .inl (oA (fun b => if b < 0 then none else g b))))]) ?_ (by simp) rfl rfl
  refine g_loop (10) (fun i => [(m0, .inr (10, (.int (nI (nt)) :: .ref mt :: .int (nI (nb)) :: .ref mk :: .ref mb :: .int (nI (lw)) :: .int (nI (sl)) :: .int (nI (tl)) :: .ref mx :: .int (po) :: .int (ta) :: .long (tk) :: .int (dg) :: .int (nu) :: .int (fa) :: .int (rm_) :: .int (rto) :: .int (rbo) :: .ref mr :: .ref mn :: .ref ma :: .ref mi :: .ref mj :: .int (nI (0)) :: .ref mg :: .int (nI (sn)) :: .ref ms :: .int (nI (dn)) :: .ref md :: .ref mc :: .ref me :: .int (ga) :: .ref mh :: .ref mo :: .ref mw :: []))), (mg, .inl (E.2.1.1, 10, .inl (oA (fun b => if b < i then none else g b))))]) (fun i => [(0, .ref m0), (1, .int (nI (i)))]) ?_ ?_ 0 (Nat.zero_le _)
  · intro i hi7 ih7
    show G E _ [(m0, .inr (10, (.int (nI (nt)) :: .ref mt :: .int (nI (nb)) :: .ref mk :: .ref mb :: .int (nI (lw)) :: .int (nI (sl)) :: .int (nI (tl)) :: .ref mx :: .int (po) :: .int (ta) :: .long (tk) :: .int (dg) :: .int (nu) :: .int (fa) :: .int (rm_) :: .int (rto) :: .int (rbo) :: .ref mr :: .ref mn :: .ref ma :: .ref mi :: .ref mj :: .int (nI (0)) :: .ref mg :: .int (nI (sn)) :: .ref ms :: .int (nI (dn)) :: .ref md :: .ref mc :: .ref me :: .int (ga) :: .ref mh :: .ref mo :: .ref mw :: []))), (mg, .inl (E.2.1.1, 10, .inl (oA (fun b => if b < i then none else g b))))] 7 [(0, .ref m0), (1, .int (nI (i)))] []
    refine g_iload_n (q := 8) dX10_goNowhere_7 rfl rfl rfl ?_
    refine g_bipush (v := nI 10) (q := 10) dX10_goNowhere_8 rfl kb_10 ?_
    refine g_icmp_geN (t := 26) (q := 13) dX10_goNowhere_10 (by decide) rfl (by omega) (by omega) (fun c10 => ?_) (fun c10 => ?_)
    · omega
    · skip
      refine g_aload_n (q := 14) dX10_goNowhere_13 rfl rfl rfl ?_
      refine gf_X10_42 rfl 0 rfl rfl (q := 17) dX10_goNowhere_14 rfl ?_
      refine g_iload_n (q := 18) dX10_goNowhere_17 rfl rfl rfl ?_
      refine g_iconst (v := (-1)) (q := 19) dX10_goNowhere_18 rfl ki_m1 ?_
      refine g_iast (f' := (oA (updO (fun b => if b < i then none else g b) i none))) 1 rfl (ixIn (j := i) rfl (by omega) (by decide)) ((ixU (j := i) rfl (by omega)).trans (upd_oAn _ _)) (ws' := [_, (_, .inl (_, _, .inl _))]) rfl (q := 20) dX10_goNowhere_19 rfl ?_
      refine g_iinc (lv' := [(0, _), (1, _)]) (v := nI (i + 1)) (q := 23) dX10_goNowhere_20 rfl rfl (nI_inc _) (Nat.le_of_ble_eq_true rfl) rfl ?_
      refine g_goto (q := 7) dX10_goNowhere_23 (by decide) ?_
      rw [← upd_if] at ih7
      exact ih7
  · skip
    show G E _ [(m0, .inr (10, (.int (nI (nt)) :: .ref mt :: .int (nI (nb)) :: .ref mk :: .ref mb :: .int (nI (lw)) :: .int (nI (sl)) :: .int (nI (tl)) :: .ref mx :: .int (po) :: .int (ta) :: .long (tk) :: .int (dg) :: .int (nu) :: .int (fa) :: .int (rm_) :: .int (rto) :: .int (rbo) :: .ref mr :: .ref mn :: .ref ma :: .ref mi :: .ref mj :: .int (nI (0)) :: .ref mg :: .int (nI (sn)) :: .ref ms :: .int (nI (dn)) :: .ref md :: .ref mc :: .ref me :: .int (ga) :: .ref mh :: .ref mo :: .ref mw :: []))), (mg, .inl (E.2.1.1, 10, .inl (oA (fun b => if b < 10 then none else g b))))] 7 [(0, .ref m0), (1, .int (nI (10)))] []
    refine g_iload_n (q := 8) dX10_goNowhere_7 rfl rfl rfl ?_
    refine g_bipush (v := nI 10) (q := 10) dX10_goNowhere_8 rfl kb_10 ?_
    refine g_icmp_geN (t := 26) (q := 13) dX10_goNowhere_10 (by decide) rfl (by omega) (by omega) (fun c10 => ?_) (fun c10 => ?_)
    · skip
      refine g_cong (oA (fun _ => none)) 1 rfl (fun j hj => by simp only [oA]; rw [if_pos hj]) (ws' := [_, (_, .inl (_, _, .inl _))]) rfl ?_
      refine g_vret (st := []) dX10_goNowhere_26 rfl rfl ?_
      exact xv
    · omega
set_option maxHeartbeats 2000000 in
set_option maxRecDepth 20000 in
theorem c_mwrite {E : EN} {m0 mt mk mb mx mr mn ma mi mj mg ms md mc me mh mo mw nt nb lw sl tl en sn dn : Nat} {po ta dg nu fa rm_ rto rbo ga : Int32} {tk : Int64} {tx : Nat → Nat} {x : Int64} {n : Int32} (hl : tl ≤ 200) : CT E yX10_write cX10_write 5 (some .int) 1 [.ref m0, .long (x), .int (n)] [(m0, .inr (10, (.int (nI (nt)) :: .ref mt :: .int (nI (nb)) :: .ref mk :: .ref mb :: .int (nI (lw)) :: .int (nI (sl)) :: .int (nI (tl)) :: .ref mx :: .int (po) :: .int (ta) :: .long (tk) :: .int (dg) :: .int (nu) :: .int (fa) :: .int (rm_) :: .int (rto) :: .int (rbo) :: .ref mr :: .ref mn :: .ref ma :: .ref mi :: .ref mj :: .int (nI (en)) :: .ref mg :: .int (nI (sn)) :: .ref ms :: .int (nI (dn)) :: .ref md :: .ref mc :: .ref me :: .int (ga) :: .ref mh :: .ref mo :: .ref mw :: []))), (mx, .inl (E.2.1.1, 200, .inl (nA (tx))))] (xQ (some (.int (opWrite tl tx x n).1)) [(m0, .inr (10, (.int (nI (nt)) :: .ref mt :: .int (nI (nb)) :: .ref mk :: .ref mb :: .int (nI (lw)) :: .int (nI (sl)) :: .int (nI ((opWrite tl tx x n).2.1)) :: .ref mx :: .int (po) :: .int (ta) :: .long (tk) :: .int (dg) :: .int (nu) :: .int (fa) :: .int (rm_) :: .int (rto) :: .int (rbo) :: .ref mr :: .ref mn :: .ref ma :: .ref mi :: .ref mj :: .int (nI (en)) :: .ref mg :: .int (nI (sn)) :: .ref ms :: .int (nI (dn)) :: .ref md :: .ref mc :: .ref me :: .int (ga) :: .ref mh :: .ref mo :: .ref mw :: []))), (mx, .inl (E.2.1.1, 200, .inl (nA ((opWrite tl tx x n).2.2))))]) := by
  refine ct_of (by decide +kernel) (Nat.le_of_ble_eq_true rfl) (lv := [(0, .ref m0), (1, .long (x)), (3, .int (n))]) rfl (fun A => ?_)
  refine g_iload_n (q := 1) dX10_write_0 rfl rfl rfl ?_
  refine g_iconst (v := nI 1) (q := 2) dX10_write_1 rfl ki_1 ?_
  refine g_bipush (v := nI 8) (q := 4) dX10_write_2 rfl kb_8 ?_
  refine gc_X10_73 (c_in) rfl (Nat.le_of_ble_eq_true rfl) rfl [] rfl rfl (rest := []) rfl (Nat.le_of_ble_eq_true rfl) (q := 7) dX10_write_4 rfl (exK (ws' := [_, _]) (st' := [.int (bI (!ninB n (nI 1) (nI 8)))]) rfl rfl ?_)
  refine g_top (y := bI (rn n 1 8).isSome) (by rw [ninB_rn (by decide) (by decide), not_isNone]) ?_
  refine g_if_ne (t := 13) (q := 10) dX10_write_7 (by decide) rfl (fun c7 => ?_) (fun c7 => ?_)
  · obtain ⟨k, hk⟩ := isSome_t (bI_ne0.mp c7)
    obtain ⟨hk1, hk2, rfl⟩ := rn_some hk
    refine g_aload_n (q := 14) dX10_write_13 rfl rfl rfl ?_
    refine gf_X10_92 rfl 0 rfl rfl (q := 17) dX10_write_14 rfl ?_
    refine g_iload_n (q := 18) dX10_write_17 rfl rfl rfl ?_
    refine g_iaddN (q := 19) dX10_write_18 rfl ?_
    refine g_sipush (v := nI 200) (q := 22) dX10_write_19 rfl ks_200 ?_
    refine g_icmp_leN (t := 28) (q := 25) dX10_write_22 (by decide) rfl (by omega) (by omega) (fun c22 => ?_) (fun c22 => ?_)
    · skip
      refine g_iconst (v := nI 0) (q := 29) dX10_write_28 rfl ki_0 ?_
      refine g_istore (lv' := [(0, _), (1, _), (3, _), (4, _)]) (q := 31) dX10_write_29 rfl (Nat.le_of_ble_eq_true rfl) rfl ?_
      refine g_loop (k) (fun i => [(m0, .inr (10, (.int (nI (nt)) :: .ref mt :: .int (nI (nb)) :: .ref mk :: .ref mb :: .int (nI (lw)) :: .int (nI (sl)) :: .int (nI (tl)) :: .ref mx :: .int (po) :: .int (ta) :: .long (tk) :: .int (dg) :: .int (nu) :: .int (fa) :: .int (rm_) :: .int (rto) :: .int (rbo) :: .ref mr :: .ref mn :: .ref ma :: .ref mi :: .ref mj :: .int (nI (en)) :: .ref mg :: .int (nI (sn)) :: .ref ms :: .int (nI (dn)) :: .ref md :: .ref mc :: .ref me :: .int (ga) :: .ref mh :: .ref mo :: .ref mw :: []))), (mx, .inl (E.2.1.1, 200, .inl (nA (wrT tx tl x i))))]) (fun i => [(0, .ref m0), (1, .long (x)), (3, .int (nI (k))), (4, .int (nI (i)))]) ?_ ?_ 0 (Nat.zero_le _)
      · intro i hi31 ih31
        show G E _ [(m0, .inr (10, (.int (nI (nt)) :: .ref mt :: .int (nI (nb)) :: .ref mk :: .ref mb :: .int (nI (lw)) :: .int (nI (sl)) :: .int (nI (tl)) :: .ref mx :: .int (po) :: .int (ta) :: .long (tk) :: .int (dg) :: .int (nu) :: .int (fa) :: .int (rm_) :: .int (rto) :: .int (rbo) :: .ref mr :: .ref mn :: .ref ma :: .ref mi :: .ref mj :: .int (nI (en)) :: .ref mg :: .int (nI (sn)) :: .ref ms :: .int (nI (dn)) :: .ref md :: .ref mc :: .ref me :: .int (ga) :: .ref mh :: .ref mo :: .ref mw :: []))), (mx, .inl (E.2.1.1, 200, .inl (nA (wrT tx tl x i))))] 31 [(0, .ref m0), (1, .long (x)), (3, .int (nI (k))), (4, .int (nI (i)))] []
        refine g_iload (q := 33) dX10_write_31 rfl rfl ?_
        refine g_iload_n (q := 34) dX10_write_33 rfl rfl rfl ?_
        refine g_icmp_geN (t := 67) (q := 37) dX10_write_34 (by decide) rfl (by omega) (by omega) (fun c34 => ?_) (fun c34 => ?_)
        · omega
        · skip
          refine g_aload_n (q := 38) dX10_write_37 rfl rfl rfl ?_
          refine gf_X10_23 rfl 0 rfl rfl (q := 41) dX10_write_38 rfl ?_
          refine g_aload_n (q := 42) dX10_write_41 rfl rfl rfl ?_
          refine gf_X10_92 rfl 0 rfl rfl (q := 45) dX10_write_42 rfl ?_
          refine g_iload (q := 47) dX10_write_45 rfl rfl ?_
          refine g_iaddN (q := 48) dX10_write_47 rfl ?_
          refine g_lload_n (q := 49) dX10_write_48 rfl rfl rfl ?_
          refine g_bipush (v := nI 8) (q := 51) dX10_write_49 rfl kb_8 ?_
          refine g_iload (q := 53) dX10_write_51 rfl rfl ?_
          refine g_imulN (q := 54) dX10_write_53 rfl ?_
          refine g_lshr (q := 55) dX10_write_54 rfl ?_
          refine g_ldc2 (v := 255) rfl mkX10_95 (q := 58) dX10_write_55 rfl ?_
          refine g_land (q := 59) dX10_write_58 rfl ?_
          refine g_l2i (q := 60) dX10_write_59 rfl ?_
          refine g_top (y := nI (byN x i)) (byN_val x i) ?_
          refine g_iast (f' := (nA (updn (wrT tx tl x i) (tl + i) (byN x i)))) 1 rfl (ixIn (j := tl + i) rfl (by omega) (by decide)) (ixUn (j := tl + i) rfl (by omega)) (ws' := [_, (_, .inl (_, _, .inl _))]) rfl (q := 61) dX10_write_60 rfl ?_
          refine g_iinc (lv' := [(0, _), (1, _), (3, _), (4, _)]) (v := nI (i + 1)) (q := 64) dX10_write_61 rfl rfl (nI_inc _) (Nat.le_of_ble_eq_true rfl) rfl ?_
          refine g_goto (q := 31) dX10_write_64 (by decide) ?_
          exact ih31
      · skip
        show G E _ [(m0, .inr (10, (.int (nI (nt)) :: .ref mt :: .int (nI (nb)) :: .ref mk :: .ref mb :: .int (nI (lw)) :: .int (nI (sl)) :: .int (nI (tl)) :: .ref mx :: .int (po) :: .int (ta) :: .long (tk) :: .int (dg) :: .int (nu) :: .int (fa) :: .int (rm_) :: .int (rto) :: .int (rbo) :: .ref mr :: .ref mn :: .ref ma :: .ref mi :: .ref mj :: .int (nI (en)) :: .ref mg :: .int (nI (sn)) :: .ref ms :: .int (nI (dn)) :: .ref md :: .ref mc :: .ref me :: .int (ga) :: .ref mh :: .ref mo :: .ref mw :: []))), (mx, .inl (E.2.1.1, 200, .inl (nA (wrT tx tl x k))))] 31 [(0, .ref m0), (1, .long (x)), (3, .int (nI (k))), (4, .int (nI (k)))] []
        refine g_iload (q := 33) dX10_write_31 rfl rfl ?_
        refine g_iload_n (q := 34) dX10_write_33 rfl rfl rfl ?_
        refine g_icmp_geN (t := 67) (q := 37) dX10_write_34 (by decide) rfl (by omega) (by omega) (fun c34 => ?_) (fun c34 => ?_)
        · skip
          refine g_aload_n (q := 68) dX10_write_67 rfl rfl rfl ?_
          refine g_dup (q := 69) dX10_write_68 rfl rfl ?_
          refine gf_X10_92 rfl 0 rfl rfl (q := 72) dX10_write_69 rfl ?_
          refine g_iload_n (q := 73) dX10_write_72 rfl rfl rfl ?_
          refine g_iaddN (q := 74) dX10_write_73 rfl ?_
          refine pf_X10_92 rfl 0 rfl (Nat.le_of_ble_eq_true rfl) (ws' := [(_, .inr (_, (_ :: _ :: _ :: _ :: _ :: _ :: _ :: _ :: _ :: _ :: _ :: _ :: _ :: _ :: _ :: _ :: _ :: _ :: _ :: _ :: _ :: _ :: _ :: _ :: _ :: _ :: _ :: _ :: _ :: _ :: _ :: _ :: _ :: _ :: _ :: []))), _]) rfl (q := 77) dX10_write_74 rfl ?_
          refine g_aload_n (q := 78) dX10_write_77 rfl rfl rfl ?_
          refine gf_X10_92 rfl 0 rfl rfl (q := 81) dX10_write_78 rfl ?_
          refine g_iret (st := []) dX10_write_81 rfl rfl rfl ?_
          simp only [opWrite, hk, if_neg (show ¬ 200 < tl + k by omega)]
          exact ⟨rfl, rfl⟩
        · omega
    · skip
      refine g_bipush (v := (-5)) (q := 27) dX10_write_25 rfl kb_m5 ?_
      refine g_iret (st := []) dX10_write_27 rfl rfl rfl ?_
      simp only [opWrite, hk, if_pos (show 200 < tl + k by omega)]
      exact ⟨rfl, rfl⟩
  · have nk := isSome_f (bI_eq0.mp c7)
    refine g_bipush (v := (-3)) (q := 12) dX10_write_10 rfl kb_m3 ?_
    refine g_iret (st := []) dX10_write_12 rfl rfl rfl ?_
    simp only [opWrite, nk]
    exact ⟨rfl, rfl⟩
set_option maxHeartbeats 2000000 in
set_option maxRecDepth 20000 in
theorem c_merase {E : EN} {m0 mt mk mb mx mr mn ma mi mj mg ms md mc me mh mo mw nt nb lw sl tl en sn dn : Nat} {po ta dg nu fa rm_ rto rbo ga : Int32} {tk : Int64}  : CT E yX10_erase cX10_erase 2 (some .int) 0 [.ref m0] [(m0, .inr (10, (.int (nI (nt)) :: .ref mt :: .int (nI (nb)) :: .ref mk :: .ref mb :: .int (nI (lw)) :: .int (nI (sl)) :: .int (nI (tl)) :: .ref mx :: .int (po) :: .int (ta) :: .long (tk) :: .int (dg) :: .int (nu) :: .int (fa) :: .int (rm_) :: .int (rto) :: .int (rbo) :: .ref mr :: .ref mn :: .ref ma :: .ref mi :: .ref mj :: .int (nI (en)) :: .ref mg :: .int (nI (sn)) :: .ref ms :: .int (nI (dn)) :: .ref md :: .ref mc :: .ref me :: .int (ga) :: .ref mh :: .ref mo :: .ref mw :: [])))] (xQ (some (.int (nI tl))) [(m0, .inr (10, (.int (nI (nt)) :: .ref mt :: .int (nI (nb)) :: .ref mk :: .ref mb :: .int (nI (lw)) :: .int (nI (sl)) :: .int (nI (0)) :: .ref mx :: .int (po) :: .int (ta) :: .long (tk) :: .int (dg) :: .int (nu) :: .int (fa) :: .int (rm_) :: .int (rto) :: .int (rbo) :: .ref mr :: .ref mn :: .ref ma :: .ref mi :: .ref mj :: .int (nI (en)) :: .ref mg :: .int (nI (sn)) :: .ref ms :: .int (nI (dn)) :: .ref md :: .ref mc :: .ref me :: .int (ga) :: .ref mh :: .ref mo :: .ref mw :: [])))]) := by
  refine ct_of (by decide +kernel) (Nat.le_of_ble_eq_true rfl) (lv := [(0, .ref m0)]) rfl (fun A => ?_)
  refine g_aload_n (q := 1) dX10_erase_0 rfl rfl rfl ?_
  refine gf_X10_92 rfl 0 rfl rfl (q := 4) dX10_erase_1 rfl ?_
  refine g_istore_n (lv' := [(0, _), (1, _)]) (q := 5) dX10_erase_4 rfl rfl (Nat.le_of_ble_eq_true rfl) rfl ?_
  refine g_aload_n (q := 6) dX10_erase_5 rfl rfl rfl ?_
  refine g_iconst (v := nI 0) (q := 7) dX10_erase_6 rfl ki_0 ?_
  refine pf_X10_92 rfl 0 rfl (Nat.le_of_ble_eq_true rfl) (ws' := [(_, .inr (_, (_ :: _ :: _ :: _ :: _ :: _ :: _ :: _ :: _ :: _ :: _ :: _ :: _ :: _ :: _ :: _ :: _ :: _ :: _ :: _ :: _ :: _ :: _ :: _ :: _ :: _ :: _ :: _ :: _ :: _ :: _ :: _ :: _ :: _ :: _ :: [])))]) rfl (q := 10) dX10_erase_7 rfl ?_
  refine g_iload_n (q := 11) dX10_erase_10 rfl rfl rfl ?_
  refine g_iret (st := []) dX10_erase_11 rfl rfl rfl ?_
  exact (xr rfl)
set_option maxHeartbeats 2000000 in
set_option maxRecDepth 20000 in
theorem c_mforget {E : EN} {m0 mt mk mb mx mr mn ma mi mj mg ms md mc me mh mo mw nt nb lw sl tl en sn dn : Nat} {po ta dg nu fa rm_ rto rbo ga : Int32} {tk : Int64}  : CT E yX10_forget cX10_forget 2 (some .int) 0 [.ref m0] [(m0, .inr (10, (.int (nI (nt)) :: .ref mt :: .int (nI (nb)) :: .ref mk :: .ref mb :: .int (nI (lw)) :: .int (nI (sl)) :: .int (nI (tl)) :: .ref mx :: .int (po) :: .int (ta) :: .long (tk) :: .int (dg) :: .int (nu) :: .int (fa) :: .int (rm_) :: .int (rto) :: .int (rbo) :: .ref mr :: .ref mn :: .ref ma :: .ref mi :: .ref mj :: .int (nI (en)) :: .ref mg :: .int (nI (sn)) :: .ref ms :: .int (nI (dn)) :: .ref md :: .ref mc :: .ref me :: .int (ga) :: .ref mh :: .ref mo :: .ref mw :: [])))] (xQ (some (.int (nI sn))) [(m0, .inr (10, (.int (nI (nt)) :: .ref mt :: .int (nI (nb)) :: .ref mk :: .ref mb :: .int (nI (lw)) :: .int (nI (sl)) :: .int (nI (tl)) :: .ref mx :: .int (po) :: .int (ta) :: .long (tk) :: .int (dg) :: .int (nu) :: .int (fa) :: .int (rm_) :: .int (rto) :: .int (rbo) :: .ref mr :: .ref mn :: .ref ma :: .ref mi :: .ref mj :: .int (nI (en)) :: .ref mg :: .int (nI (0)) :: .ref ms :: .int (nI (dn)) :: .ref md :: .ref mc :: .ref me :: .int (ga) :: .ref mh :: .ref mo :: .ref mw :: [])))]) := by
  refine ct_of (by decide +kernel) (Nat.le_of_ble_eq_true rfl) (lv := [(0, .ref m0)]) rfl (fun A => ?_)
  refine g_aload_n (q := 1) dX10_forget_0 rfl rfl rfl ?_
  refine gf_X10_197 rfl 0 rfl rfl (q := 4) dX10_forget_1 rfl ?_
  refine g_istore_n (lv' := [(0, _), (1, _)]) (q := 5) dX10_forget_4 rfl rfl (Nat.le_of_ble_eq_true rfl) rfl ?_
  refine g_aload_n (q := 6) dX10_forget_5 rfl rfl rfl ?_
  refine g_iconst (v := nI 0) (q := 7) dX10_forget_6 rfl ki_0 ?_
  refine pf_X10_197 rfl 0 rfl (Nat.le_of_ble_eq_true rfl) (ws' := [(_, .inr (_, (_ :: _ :: _ :: _ :: _ :: _ :: _ :: _ :: _ :: _ :: _ :: _ :: _ :: _ :: _ :: _ :: _ :: _ :: _ :: _ :: _ :: _ :: _ :: _ :: _ :: _ :: _ :: _ :: _ :: _ :: _ :: _ :: _ :: _ :: _ :: [])))]) rfl (q := 10) dX10_forget_7 rfl ?_
  refine g_iload_n (q := 11) dX10_forget_10 rfl rfl rfl ?_
  refine g_iret (st := []) dX10_forget_11 rfl rfl rfl ?_
  exact (xr rfl)
set_option maxHeartbeats 2000000 in
set_option maxRecDepth 20000 in
theorem c_marrive {E : EN} {m0 mt mk mb mx mr mn ma mi mj mg ms md mc me mh mo mw nt nb lw sl tl en sn dn : Nat} {po ta dg nu fa rm_ rto rbo ga : Int32} {tk : Int64}  : CT E yX10_arrive cX10_arrive 2 (some .int) 0 [.ref m0] [(m0, .inr (10, (.int (nI (nt)) :: .ref mt :: .int (nI (nb)) :: .ref mk :: .ref mb :: .int (nI (lw)) :: .int (nI (sl)) :: .int (nI (tl)) :: .ref mx :: .int (po) :: .int (ta) :: .long (tk) :: .int (dg) :: .int (nu) :: .int (fa) :: .int (rm_) :: .int (rto) :: .int (rbo) :: .ref mr :: .ref mn :: .ref ma :: .ref mi :: .ref mj :: .int (nI (en)) :: .ref mg :: .int (nI (sn)) :: .ref ms :: .int (nI (dn)) :: .ref md :: .ref mc :: .ref me :: .int (ga) :: .ref mh :: .ref mo :: .ref mw :: [])))] (xQ (some (.int (nI dn))) [(m0, .inr (10, (.int (nI (nt)) :: .ref mt :: .int (nI (nb)) :: .ref mk :: .ref mb :: .int (nI (lw)) :: .int (nI (sl)) :: .int (nI (tl)) :: .ref mx :: .int (po) :: .int (ta) :: .long (tk) :: .int (dg) :: .int (nu) :: .int (fa) :: .int (rm_) :: .int (rto) :: .int (rbo) :: .ref mr :: .ref mn :: .ref ma :: .ref mi :: .ref mj :: .int (nI (en)) :: .ref mg :: .int (nI (sn)) :: .ref ms :: .int (nI (0)) :: .ref md :: .ref mc :: .ref me :: .int (ga) :: .ref mh :: .ref mo :: .ref mw :: [])))]) := by
  refine ct_of (by decide +kernel) (Nat.le_of_ble_eq_true rfl) (lv := [(0, .ref m0)]) rfl (fun A => ?_)
  refine g_aload_n (q := 1) dX10_arrive_0 rfl rfl rfl ?_
  refine gf_X10_200 rfl 0 rfl rfl (q := 4) dX10_arrive_1 rfl ?_
  refine g_istore_n (lv' := [(0, _), (1, _)]) (q := 5) dX10_arrive_4 rfl rfl (Nat.le_of_ble_eq_true rfl) rfl ?_
  refine g_aload_n (q := 6) dX10_arrive_5 rfl rfl rfl ?_
  refine g_iconst (v := nI 0) (q := 7) dX10_arrive_6 rfl ki_0 ?_
  refine pf_X10_200 rfl 0 rfl (Nat.le_of_ble_eq_true rfl) (ws' := [(_, .inr (_, (_ :: _ :: _ :: _ :: _ :: _ :: _ :: _ :: _ :: _ :: _ :: _ :: _ :: _ :: _ :: _ :: _ :: _ :: _ :: _ :: _ :: _ :: _ :: _ :: _ :: _ :: _ :: _ :: _ :: _ :: _ :: _ :: _ :: _ :: _ :: [])))]) rfl (q := 10) dX10_arrive_7 rfl ?_
  refine g_iload_n (q := 11) dX10_arrive_10 rfl rfl rfl ?_
  refine g_iret (st := []) dX10_arrive_11 rfl rfl rfl ?_
  exact (xr rfl)
set_option maxHeartbeats 2000000 in
set_option maxRecDepth 20000 in
theorem c_mpoundsOf {E : EN} {m0 mt mk mb mx mr mn ma mi mj mg ms md mc me mh mo mw nt nb lw sl tl en sn dn : Nat} {po ta dg nu fa rm_ rto rbo ga : Int32} {tk : Int64} {kd : Nat → Nat} {b w : Nat} (hb : b < 10) (hw : w < 1000) (hkd : ∀ j, j < 10 → kd j < 4)  : CT E yX10_poundsOf cX10_poundsOf 3 (some .int) 0 [.ref m0, .int (nI (b)), .int (nI (w))] [(m0, .inr (10, (.int (nI (nt)) :: .ref mt :: .int (nI (nb)) :: .ref mk :: .ref mb :: .int (nI (lw)) :: .int (nI (sl)) :: .int (nI (tl)) :: .ref mx :: .int (po) :: .int (ta) :: .long (tk) :: .int (dg) :: .int (nu) :: .int (fa) :: .int (rm_) :: .int (rto) :: .int (rbo) :: .ref mr :: .ref mn :: .ref ma :: .ref mi :: .ref mj :: .int (nI (en)) :: .ref mg :: .int (nI (sn)) :: .ref ms :: .int (nI (dn)) :: .ref md :: .ref mc :: .ref me :: .int (ga) :: .ref mh :: .ref mo :: .ref mw :: []))), (mk, .inl (E.2.1.1, 10, .inl (nA (kd))))] (xQ (some (.int (nI (pnd (kd b) w)))) [(m0, .inr (10, (.int (nI (nt)) :: .ref mt :: .int (nI (nb)) :: .ref mk :: .ref mb :: .int (nI (lw)) :: .int (nI (sl)) :: .int (nI (tl)) :: .ref mx :: .int (po) :: .int (ta) :: .long (tk) :: .int (dg) :: .int (nu) :: .int (fa) :: .int (rm_) :: .int (rto) :: .int (rbo) :: .ref mr :: .ref mn :: .ref ma :: .ref mi :: .ref mj :: .int (nI (en)) :: .ref mg :: .int (nI (sn)) :: .ref ms :: .int (nI (dn)) :: .ref md :: .ref mc :: .ref me :: .int (ga) :: .ref mh :: .ref mo :: .ref mw :: []))), (mk, .inl (E.2.1.1, 10, .inl (nA (kd))))]) := by
  refine ct_of (by decide +kernel) (Nat.le_of_ble_eq_true rfl) (lv := [(0, .ref m0), (1, .int (nI (b))), (2, .int (nI (w)))]) rfl (fun A => ?_)
  refine g_aload_n (q := 1) dX10_poundsOf_0 rfl rfl rfl ?_
  refine gf_X10_17 rfl 0 rfl rfl (q := 4) dX10_poundsOf_1 rfl ?_
  refine g_iload_n (q := 5) dX10_poundsOf_4 rfl rfl rfl ?_
  have hb1 := hkd (b) (by omega)
  refine g_iald (v := nI (kd b)) 1 rfl (ixIn (j := b) rfl (by omega) (by decide)) (ixV (j := b) rfl (by omega)) (q := 6) dX10_poundsOf_5 rfl ?_
  refine g_iconst (v := nI 2) (q := 7) dX10_poundsOf_6 rfl ki_2 ?_
  refine g_icmp_neN (t := 16) (q := 10) dX10_poundsOf_7 (by decide) rfl (by omega) (by omega) (fun c7 => ?_) (fun c7 => ?_)
  · skip
    refine g_iload_n (q := 17) dX10_poundsOf_16 rfl rfl rfl ?_
    refine g_iret (st := []) dX10_poundsOf_17 rfl rfl rfl ?_
    exact (xr (by simp [pnd, *]))
  · skip
    refine g_iload_n (q := 11) dX10_poundsOf_10 rfl rfl rfl ?_
    refine g_iconst (v := nI 2) (q := 12) dX10_poundsOf_11 rfl ki_2 ?_
    refine g_idivN (q := 13) dX10_poundsOf_12 rfl (by omega) (by decide) (by decide) ?_
    refine g_goto (q := 17) dX10_poundsOf_13 (by decide) ?_
    refine g_iret (st := []) dX10_poundsOf_17 rfl rfl rfl ?_
    exact (xr (by simp [pnd, *]))
set_option maxHeartbeats 2000000 in
set_option maxRecDepth 20000 in
theorem c_worthOf {E : EN} {m0 mt mk mb mx mr mn ma mi mj mg ms md mc me mh mo mw nt nb lw sl tl en sn dn : Nat} {po ta dg nu fa rm_ rto rbo ga : Int32} {tk : Int64} {kd tw wt sk gr : Nat → Nat} {ch : Nat → Int32} {yr : Nat} {cr rt fd nx : Nat → Nat} {wn : Nat → Int32} {b : Nat} (hb : b < 10) (hkd : ∀ j, j < 10 → kd j < 4) (htw : ∀ j, j < 10 → tw j < 6) (hwt : ∀ j, j < 10 → wt j < 100) (hrt : ∀ j, j < 6 → rt j < 10)  : CT E yX10_worthOf cX10_worthOf 2 (some .int) 1 [.ref m0, .int (nI (b))] [(m0, .inr (10, (.int (nI (nt)) :: .ref mt :: .int (nI (nb)) :: .ref mk :: .ref mb :: .int (nI (lw)) :: .int (nI (sl)) :: .int (nI (tl)) :: .ref mx :: .int (po) :: .int (ta) :: .long (tk) :: .int (dg) :: .int (nu) :: .int (fa) :: .int (rm_) :: .int (rto) :: .int (rbo) :: .ref mr :: .ref mn :: .ref ma :: .ref mi :: .ref mj :: .int (nI (en)) :: .ref mg :: .int (nI (sn)) :: .ref ms :: .int (nI (dn)) :: .ref md :: .ref mc :: .ref me :: .int (ga) :: .ref mh :: .ref mo :: .ref mw :: []))), (mk, .inl (E.2.1.1, 10, .inl (nA (kd)))), (mn, .inl (E.2.1.1, 47, .inl (nowF tw wt sk gr ch yr))), (mt, .inl (E.2.1.1, 30, .inl (townF cr rt fd wn nx)))] (xQ (some (.int (nI (worN kd tw wt rt b)))) [(m0, .inr (10, (.int (nI (nt)) :: .ref mt :: .int (nI (nb)) :: .ref mk :: .ref mb :: .int (nI (lw)) :: .int (nI (sl)) :: .int (nI (tl)) :: .ref mx :: .int (po) :: .int (ta) :: .long (tk) :: .int (dg) :: .int (nu) :: .int (fa) :: .int (rm_) :: .int (rto) :: .int (rbo) :: .ref mr :: .ref mn :: .ref ma :: .ref mi :: .ref mj :: .int (nI (en)) :: .ref mg :: .int (nI (sn)) :: .ref ms :: .int (nI (dn)) :: .ref md :: .ref mc :: .ref me :: .int (ga) :: .ref mh :: .ref mo :: .ref mw :: []))), (mk, .inl (E.2.1.1, 10, .inl (nA (kd)))), (mn, .inl (E.2.1.1, 47, .inl (nowF tw wt sk gr ch yr))), (mt, .inl (E.2.1.1, 30, .inl (townF cr rt fd wn nx)))]) := by
  refine ct_of (by decide +kernel) (Nat.le_of_ble_eq_true rfl) (lv := [(0, .ref m0), (1, .int (nI (b)))]) rfl (fun A => ?_)
  refine g_aload_n (q := 1) dX10_worthOf_0 rfl rfl rfl ?_
  refine g_iload_n (q := 2) dX10_worthOf_1 rfl rfl rfl ?_
  refine g_aload_n (q := 3) dX10_worthOf_2 rfl rfl rfl ?_
  refine gf_X10_29 rfl 0 rfl rfl (q := 6) dX10_worthOf_3 rfl ?_
  refine g_bipush (v := nI 10) (q := 8) dX10_worthOf_6 rfl kb_10 ?_
  refine g_iload_n (q := 9) dX10_worthOf_8 rfl rfl rfl ?_
  refine g_iaddN (q := 10) dX10_worthOf_9 rfl ?_
  have hb1 := hwt (b) (by omega)
  refine g_iald (v := nI (wt b)) 2 rfl (ixIn (j := 10 + b) rfl (by omega) (by decide)) ((ixV (j := 10 + b) rfl (by omega)).trans (nowF_w (by omega))) (q := 11) dX10_worthOf_10 rfl ?_
  refine gc_X10_207 (c_mpoundsOf (by omega) (by omega) hkd) rfl (Nat.le_of_ble_eq_true rfl) rfl 0 rfl [0, 1] rfl rfl (rest := []) rfl (Nat.le_of_ble_eq_true rfl) (q := 14) dX10_worthOf_11 rfl (exK (ws' := [_, _, _, _]) (st' := [.int (nI (pnd (kd b) (wt b)))]) rfl rfl ?_)
  refine g_aload_n (q := 15) dX10_worthOf_14 rfl rfl rfl ?_
  refine gf_X10_13 rfl 0 rfl rfl (q := 18) dX10_worthOf_15 rfl ?_
  refine g_iconst (v := nI 5) (q := 19) dX10_worthOf_18 rfl ki_5 ?_
  refine g_aload_n (q := 20) dX10_worthOf_19 rfl rfl rfl ?_
  refine gf_X10_29 rfl 0 rfl rfl (q := 23) dX10_worthOf_20 rfl ?_
  refine g_iload_n (q := 24) dX10_worthOf_23 rfl rfl rfl ?_
  have hb2 := htw (b) (by omega)
  refine g_iald (v := nI (tw b)) 2 rfl (ixIn (j := b) rfl (by omega) (by decide)) ((ixV (j := b) rfl (by omega)).trans (nowF_t (by omega))) (q := 25) dX10_worthOf_24 rfl ?_
  refine g_imulN (q := 26) dX10_worthOf_25 rfl ?_
  refine g_iconst (v := nI 1) (q := 27) dX10_worthOf_26 rfl ki_1 ?_
  refine g_iaddN (q := 28) dX10_worthOf_27 rfl ?_
  have hb3 := hrt (tw b) (by omega)
  refine g_iald (v := nI (rt (tw b))) 3 rfl (ixIn (j := 5 * (tw b) + 1) rfl (by omega) (by decide)) ((ixV (j := 5 * (tw b) + 1) rfl (by omega)).trans (townF_1 (tw b))) (q := 29) dX10_worthOf_28 rfl ?_
  refine g_imulN (q := 30) dX10_worthOf_29 rfl ?_
  refine g_iret (st := []) dX10_worthOf_30 rfl rfl rfl ?_
  exact (xr rfl)
set_option maxHeartbeats 2000000 in
set_option maxRecDepth 20000 in
theorem c_weightThen {E : EN} {w f : Nat} (hw : 1 ≤ w) (hw2 : w < 1000) (hf : f < 1000) : CT E yX10_weightThen cX10_weightThen 3 (some .int) 0 [.int (nI (w)), .int (nI (f))] [] (xQ (some (.int (nI (fed w f)))) []) := by
  refine ct_of (by decide +kernel) (Nat.le_of_ble_eq_true rfl) (lv := [(0, .int (nI (w))), (1, .int (nI (f)))]) rfl (fun A => ?_)
  refine g_iload_n (q := 1) dX10_weightThen_0 rfl rfl rfl ?_
  refine g_iconst (v := nI 1) (q := 2) dX10_weightThen_1 rfl ki_1 ?_
  refine g_isubN (q := 3) dX10_weightThen_2 rfl (by omega) ?_
  refine g_iload_n (q := 4) dX10_weightThen_3 rfl rfl rfl ?_
  refine g_iaddN (q := 5) dX10_weightThen_4 rfl ?_
  refine g_istore_n (lv' := [(0, _), (1, _), (2, _)]) (q := 6) dX10_weightThen_5 rfl rfl (Nat.le_of_ble_eq_true rfl) rfl ?_
  refine g_iload_n (q := 7) dX10_weightThen_6 rfl rfl rfl ?_
  refine g_iconst (v := nI 1) (q := 8) dX10_weightThen_7 rfl ki_1 ?_
  refine g_icmp_geN (t := 15) (q := 11) dX10_weightThen_8 (by decide) rfl (by omega) (by omega) (fun c8 => ?_) (fun c8 => ?_)
  · skip
    refine g_iload_n (q := 16) dX10_weightThen_15 rfl rfl rfl ?_
    refine g_bipush (v := nI 99) (q := 18) dX10_weightThen_16 rfl kb_99 ?_
    refine g_icmp_leN (t := 26) (q := 21) dX10_weightThen_18 (by decide) rfl (by omega) (by omega) (fun c18 => ?_) (fun c18 => ?_)
    · skip
      refine g_iload_n (q := 27) dX10_weightThen_26 rfl rfl rfl ?_
      refine g_iret (st := []) dX10_weightThen_27 rfl rfl rfl ?_
      exact (xr (by rw [show fed w f = w - 1 + f by unfold fed; omega]))
    · skip
      refine g_bipush (v := nI 99) (q := 23) dX10_weightThen_21 rfl kb_99 ?_
      refine g_goto (q := 27) dX10_weightThen_23 (by decide) ?_
      refine g_iret (st := []) dX10_weightThen_27 rfl rfl rfl ?_
      exact (xr (by rw [show fed w f = 99 by unfold fed; omega]))
  · skip
    refine g_iconst (v := nI 1) (q := 12) dX10_weightThen_11 rfl ki_1 ?_
    refine g_goto (q := 27) dX10_weightThen_12 (by decide) ?_
    refine g_iret (st := []) dX10_weightThen_27 rfl rfl rfl ?_
    exact (xr (by rw [show fed w f = 1 by unfold fed; omega]))
set_option maxHeartbeats 2000000 in
set_option maxRecDepth 20000 in
theorem c_mtown {E : EN} {m0 mt mk mb mx mr mn ma mi mj mg ms md mc me mh mo mw nt nb lw sl tl en sn dn : Nat} {po ta dg nu fa rm_ rto rbo ga : Int32} {tk : Int64} {tw wt sk gr : Nat → Nat} {ch : Nat → Int32} {yr : Nat} {cr rt fd nx : Nat → Nat} {wn : Nat → Int32} {x y : Int32} (hnt : nt ≤ 6) (hnb : nb ≤ 10) (htw : ∀ j, j < 10 → tw j < 6)  : CT E yX10_town cX10_town 5 (some .int) 2 [.ref m0, .int (x), .int (y)] [(m0, .inr (10, (.int (nI (nt)) :: .ref mt :: .int (nI (nb)) :: .ref mk :: .ref mb :: .int (nI (lw)) :: .int (nI (sl)) :: .int (nI (tl)) :: .ref mx :: .int (po) :: .int (ta) :: .long (tk) :: .int (dg) :: .int (nu) :: .int (fa) :: .int (rm_) :: .int (rto) :: .int (rbo) :: .ref mr :: .ref mn :: .ref ma :: .ref mi :: .ref mj :: .int (nI (en)) :: .ref mg :: .int (nI (sn)) :: .ref ms :: .int (nI (dn)) :: .ref md :: .ref mc :: .ref me :: .int (ga) :: .ref mh :: .ref mo :: .ref mw :: []))), (mt, .inl (E.2.1.1, 30, .inl (townF cr rt fd wn nx))), (mn, .inl (E.2.1.1, 47, .inl (nowF tw wt sk gr ch yr)))] (xQ (some (.int (opTown nt nb cr rt fd nx tw wn ch x y))) [(m0, .inr (10, (.int (nI (nt)) :: .ref mt :: .int (nI (nb)) :: .ref mk :: .ref mb :: .int (nI (lw)) :: .int (nI (sl)) :: .int (nI (tl)) :: .ref mx :: .int (po) :: .int (ta) :: .long (tk) :: .int (dg) :: .int (nu) :: .int (fa) :: .int (rm_) :: .int (rto) :: .int (rbo) :: .ref mr :: .ref mn :: .ref ma :: .ref mi :: .ref mj :: .int (nI (en)) :: .ref mg :: .int (nI (sn)) :: .ref ms :: .int (nI (dn)) :: .ref md :: .ref mc :: .ref me :: .int (ga) :: .ref mh :: .ref mo :: .ref mw :: []))), (mt, .inl (E.2.1.1, 30, .inl (townF cr rt fd wn nx))), (mn, .inl (E.2.1.1, 47, .inl (nowF tw wt sk gr ch yr)))]) := by
  refine ct_of (by decide +kernel) (Nat.le_of_ble_eq_true rfl) (lv := [(0, .ref m0), (1, .int (x)), (2, .int (y))]) rfl (fun A => ?_)
  refine g_aload_n (q := 1) dX10_town_0 rfl rfl rfl ?_
  refine g_iload_n (q := 2) dX10_town_1 rfl rfl rfl ?_
  refine gc_X10_203 (c_misTown (by omega)) rfl (Nat.le_of_ble_eq_true rfl) rfl 0 rfl [0] rfl rfl (rest := []) rfl (Nat.le_of_ble_eq_true rfl) (q := 5) dX10_town_2 rfl (exK (ws' := [_, _, _]) (st' := [.int (bI (tn x nt).isSome)]) rfl rfl ?_)
  refine g_if_ne (t := 11) (q := 8) dX10_town_5 (by decide) rfl (fun c5 => ?_) (fun c5 => ?_)
  · obtain ⟨t, ht⟩ := isSome_t (bI_ne0.mp c5)
    obtain ⟨ht1, rfl⟩ := tn_some ht
    rcases hk : tn y 7 with _ | k
    · skip
      refine g_iload_n (q := 12) dX10_town_11 rfl rfl rfl ?_
      refine g_iconst (v := nI 0) (q := 13) dX10_town_12 rfl ki_0 ?_
      refine g_iconst (v := nI 4) (q := 14) dX10_town_13 rfl ki_4 ?_
      refine gc_X10_73 (c_in) rfl (Nat.le_of_ble_eq_true rfl) rfl [] rfl rfl (rest := []) rfl (Nat.le_of_ble_eq_true rfl) (q := 17) dX10_town_14 rfl (exK (ws' := [_, _, _]) (st' := [.int (bI (!ninB y (nI 0) (nI 4)))]) rfl rfl ?_)
      refine g_top (y := nI 0) (by rw [ninB_out (n := 7) hk (by decide) (by decide)]; rfl) ?_
      refine g_if_eqN (t := 31) (q := 20) dX10_town_17 (by decide) rfl (by omega) (fun c17 => ?_) (fun c17 => ?_)
      · skip
        refine g_iconst (v := nI 0) (q := 32) dX10_town_31 rfl ki_0 ?_
        refine g_istore_n (lv' := [(0, _), (1, _), (2, _), (3, _)]) (q := 33) dX10_town_32 rfl rfl (Nat.le_of_ble_eq_true rfl) rfl ?_
        refine g_iconst (v := nI 0) (q := 34) dX10_town_33 rfl ki_0 ?_
        refine g_istore (lv' := [(0, _), (1, _), (2, _), (3, _), (4, _)]) (q := 36) dX10_town_34 rfl (Nat.le_of_ble_eq_true rfl) rfl ?_
        refine g_loop (nb) (fun i => [(m0, .inr (10, (.int (nI (nt)) :: .ref mt :: .int (nI (nb)) :: .ref mk :: .ref mb :: .int (nI (lw)) :: .int (nI (sl)) :: .int (nI (tl)) :: .ref mx :: .int (po) :: .int (ta) :: .long (tk) :: .int (dg) :: .int (nu) :: .int (fa) :: .int (rm_) :: .int (rto) :: .int (rbo) :: .ref mr :: .ref mn :: .ref ma :: .ref mi :: .ref mj :: .int (nI (en)) :: .ref mg :: .int (nI (sn)) :: .ref ms :: .int (nI (dn)) :: .ref md :: .ref mc :: .ref me :: .int (ga) :: .ref mh :: .ref mo :: .ref mw :: []))), (mt, .inl (E.2.1.1, 30, .inl (townF cr rt fd wn nx))), (mn, .inl (E.2.1.1, 47, .inl (nowF tw wt sk gr ch yr)))]) (fun i => [(0, .ref m0), (1, .int (nI (t))), (2, .int (y)), (3, .int (nI (cntN (fun b => decide (tw b = t)) i))), (4, .int (nI (i)))]) ?_ ?_ 0 (Nat.zero_le _)
        · intro i hi36 ih36
          show G E _ [(m0, .inr (10, (.int (nI (nt)) :: .ref mt :: .int (nI (nb)) :: .ref mk :: .ref mb :: .int (nI (lw)) :: .int (nI (sl)) :: .int (nI (tl)) :: .ref mx :: .int (po) :: .int (ta) :: .long (tk) :: .int (dg) :: .int (nu) :: .int (fa) :: .int (rm_) :: .int (rto) :: .int (rbo) :: .ref mr :: .ref mn :: .ref ma :: .ref mi :: .ref mj :: .int (nI (en)) :: .ref mg :: .int (nI (sn)) :: .ref ms :: .int (nI (dn)) :: .ref md :: .ref mc :: .ref me :: .int (ga) :: .ref mh :: .ref mo :: .ref mw :: []))), (mt, .inl (E.2.1.1, 30, .inl (townF cr rt fd wn nx))), (mn, .inl (E.2.1.1, 47, .inl (nowF tw wt sk gr ch yr)))] 36 [(0, .ref m0), (1, .int (nI (t))), (2, .int (y)), (3, .int (nI (cntN (fun b => decide (tw b = t)) i))), (4, .int (nI (i)))] []
          refine g_iload (q := 38) dX10_town_36 rfl rfl ?_
          refine g_aload_n (q := 39) dX10_town_38 rfl rfl rfl ?_
          refine gf_X10_77 rfl 0 rfl rfl (q := 42) dX10_town_39 rfl ?_
          refine g_icmp_geN (t := 70) (q := 45) dX10_town_42 (by decide) rfl (by omega) (by omega) (fun c42 => ?_) (fun c42 => ?_)
          · omega
          · skip
            refine g_iload_n (q := 46) dX10_town_45 rfl rfl rfl ?_
            refine g_aload_n (q := 47) dX10_town_46 rfl rfl rfl ?_
            refine gf_X10_29 rfl 0 rfl rfl (q := 50) dX10_town_47 rfl ?_
            refine g_iload (q := 52) dX10_town_50 rfl rfl ?_
            have hb1 := htw (i) (by omega)
            refine g_iald (v := nI (tw i)) 2 rfl (ixIn (j := i) rfl (by omega) (by decide)) ((ixV (j := i) rfl (by omega)).trans (nowF_t (by omega))) (q := 53) dX10_town_52 rfl ?_
            refine g_iload_n (q := 54) dX10_town_53 rfl rfl rfl ?_
            refine g_icmp_neN (t := 61) (q := 57) dX10_town_54 (by decide) rfl (by omega) (by omega) (fun c54 => ?_) (fun c54 => ?_)
            · skip
              refine g_iconst (v := nI 0) (q := 62) dX10_town_61 rfl ki_0 ?_
              refine g_iaddN (q := 63) dX10_town_62 rfl ?_
              refine g_istore_n (lv' := [(0, _), (1, _), (2, _), (3, _), (4, _)]) (q := 64) dX10_town_63 rfl rfl (Nat.le_of_ble_eq_true rfl) rfl ?_
              refine g_iinc (lv' := [(0, _), (1, _), (2, _), (3, _), (4, _)]) (v := nI (i + 1)) (q := 67) dX10_town_64 rfl rfl (nI_inc _) (Nat.le_of_ble_eq_true rfl) rfl ?_
              refine g_goto (q := 36) dX10_town_67 (by decide) ?_
              simp only [cntN, c54, eq_self, decide_true, decide_false, if_true, Bool.false_eq_true, if_false] at ih36
              exact ih36
            · skip
              refine g_iconst (v := nI 1) (q := 58) dX10_town_57 rfl ki_1 ?_
              refine g_goto (q := 62) dX10_town_58 (by decide) ?_
              refine g_iaddN (q := 63) dX10_town_62 rfl ?_
              refine g_istore_n (lv' := [(0, _), (1, _), (2, _), (3, _), (4, _)]) (q := 64) dX10_town_63 rfl rfl (Nat.le_of_ble_eq_true rfl) rfl ?_
              refine g_iinc (lv' := [(0, _), (1, _), (2, _), (3, _), (4, _)]) (v := nI (i + 1)) (q := 67) dX10_town_64 rfl rfl (nI_inc _) (Nat.le_of_ble_eq_true rfl) rfl ?_
              refine g_goto (q := 36) dX10_town_67 (by decide) ?_
              simp only [cntN, c54, eq_self, decide_true, decide_false, if_true, Bool.false_eq_true, if_false] at ih36
              exact ih36
        · skip
          show G E _ [(m0, .inr (10, (.int (nI (nt)) :: .ref mt :: .int (nI (nb)) :: .ref mk :: .ref mb :: .int (nI (lw)) :: .int (nI (sl)) :: .int (nI (tl)) :: .ref mx :: .int (po) :: .int (ta) :: .long (tk) :: .int (dg) :: .int (nu) :: .int (fa) :: .int (rm_) :: .int (rto) :: .int (rbo) :: .ref mr :: .ref mn :: .ref ma :: .ref mi :: .ref mj :: .int (nI (en)) :: .ref mg :: .int (nI (sn)) :: .ref ms :: .int (nI (dn)) :: .ref md :: .ref mc :: .ref me :: .int (ga) :: .ref mh :: .ref mo :: .ref mw :: []))), (mt, .inl (E.2.1.1, 30, .inl (townF cr rt fd wn nx))), (mn, .inl (E.2.1.1, 47, .inl (nowF tw wt sk gr ch yr)))] 36 [(0, .ref m0), (1, .int (nI (t))), (2, .int (y)), (3, .int (nI (cntN (fun b => decide (tw b = t)) nb))), (4, .int (nI (nb)))] []
          refine g_iload (q := 38) dX10_town_36 rfl rfl ?_
          refine g_aload_n (q := 39) dX10_town_38 rfl rfl rfl ?_
          refine gf_X10_77 rfl 0 rfl rfl (q := 42) dX10_town_39 rfl ?_
          refine g_icmp_geN (t := 70) (q := 45) dX10_town_42 (by decide) rfl (by omega) (by omega) (fun c42 => ?_) (fun c42 => ?_)
          · skip
            refine g_iload_n (q := 71) dX10_town_70 rfl rfl rfl ?_
            refine g_iconst (v := nI 5) (q := 72) dX10_town_71 rfl ki_5 ?_
            refine g_icmp_ne (t := 90) (q := 75) dX10_town_72 (by decide) rfl (fun c72 => ?_) (fun c72 => ?_)
            · skip
              refine g_iload_n (q := 91) dX10_town_90 rfl rfl rfl ?_
              refine g_bipush (v := nI 6) (q := 93) dX10_town_91 rfl kb_6 ?_
              refine g_icmp_ne (t := 100) (q := 96) dX10_town_93 (by decide) rfl (fun c93 => ?_) (fun c93 => ?_)
              · skip
                refine g_bipush (v := (-3)) (q := 102) dX10_town_100 rfl kb_m3 ?_
                refine g_iret (st := []) dX10_town_102 rfl rfl rfl ?_
                exact xr (by simp [opTown, ht, hk, Int32.add_comm])
              · exact absurd c93 (tn_ne hk (k := 6) (by decide))
            · exact absurd c72 (tn_ne hk (k := 5) (by decide))
          · omega
      · omega
    · obtain ⟨hk1, rfl⟩ := tn_some hk
      rcases (show k = 0 ∨ k = 1 ∨ k = 2 ∨ k = 3 ∨ k = 4 ∨ k = 5 ∨ k = 6 by omega) with rfl | rfl | rfl | rfl | rfl | rfl | rfl
      · skip
        refine g_iload_n (q := 12) dX10_town_11 rfl rfl rfl ?_
        refine g_iconst (v := nI 0) (q := 13) dX10_town_12 rfl ki_0 ?_
        refine g_iconst (v := nI 4) (q := 14) dX10_town_13 rfl ki_4 ?_
        refine gc_X10_73 (c_in) rfl (Nat.le_of_ble_eq_true rfl) rfl [] rfl rfl (rest := []) rfl (Nat.le_of_ble_eq_true rfl) (q := 17) dX10_town_14 rfl (exK (ws' := [_, _, _]) (st' := [.int (bI (!ninB (nI (0)) (nI 0) (nI 4)))]) rfl rfl ?_)
        refine g_top (y := nI 1) (by decide) ?_
        refine g_if_eqN (t := 31) (q := 20) dX10_town_17 (by decide) rfl (by omega) (fun c17 => ?_) (fun c17 => ?_)
        · omega
        · skip
          refine g_aload_n (q := 21) dX10_town_20 rfl rfl rfl ?_
          refine gf_X10_13 rfl 0 rfl rfl (q := 24) dX10_town_21 rfl ?_
          refine g_iconst (v := nI 5) (q := 25) dX10_town_24 rfl ki_5 ?_
          refine g_iload_n (q := 26) dX10_town_25 rfl rfl rfl ?_
          refine g_imulN (q := 27) dX10_town_26 rfl ?_
          refine g_iload_n (q := 28) dX10_town_27 rfl rfl rfl ?_
          refine g_iaddN (q := 29) dX10_town_28 rfl ?_
          refine g_iald (v := nI (cr (t + 0))) 1 rfl (ixIn (j := 5 * t + 0) rfl (by omega) (by decide)) ((ixV (j := 5 * t + 0) rfl (by omega)).trans (townF_0 (t + 0))) (q := 30) dX10_town_29 rfl ?_
          refine g_iret (st := []) dX10_town_30 rfl rfl rfl ?_
          exact xr (by simp [opTown, ht, hk, Int32.add_comm])
      · skip
        refine g_iload_n (q := 12) dX10_town_11 rfl rfl rfl ?_
        refine g_iconst (v := nI 0) (q := 13) dX10_town_12 rfl ki_0 ?_
        refine g_iconst (v := nI 4) (q := 14) dX10_town_13 rfl ki_4 ?_
        refine gc_X10_73 (c_in) rfl (Nat.le_of_ble_eq_true rfl) rfl [] rfl rfl (rest := []) rfl (Nat.le_of_ble_eq_true rfl) (q := 17) dX10_town_14 rfl (exK (ws' := [_, _, _]) (st' := [.int (bI (!ninB (nI (1)) (nI 0) (nI 4)))]) rfl rfl ?_)
        refine g_top (y := nI 1) (by decide) ?_
        refine g_if_eqN (t := 31) (q := 20) dX10_town_17 (by decide) rfl (by omega) (fun c17 => ?_) (fun c17 => ?_)
        · omega
        · skip
          refine g_aload_n (q := 21) dX10_town_20 rfl rfl rfl ?_
          refine gf_X10_13 rfl 0 rfl rfl (q := 24) dX10_town_21 rfl ?_
          refine g_iconst (v := nI 5) (q := 25) dX10_town_24 rfl ki_5 ?_
          refine g_iload_n (q := 26) dX10_town_25 rfl rfl rfl ?_
          refine g_imulN (q := 27) dX10_town_26 rfl ?_
          refine g_iload_n (q := 28) dX10_town_27 rfl rfl rfl ?_
          refine g_iaddN (q := 29) dX10_town_28 rfl ?_
          refine g_iald (v := nI (rt t)) 1 rfl (ixIn (j := 5 * t + 1) rfl (by omega) (by decide)) ((ixV (j := 5 * t + 1) rfl (by omega)).trans (townF_1 t)) (q := 30) dX10_town_29 rfl ?_
          refine g_iret (st := []) dX10_town_30 rfl rfl rfl ?_
          exact xr (by simp [opTown, ht, hk, Int32.add_comm])
      · skip
        refine g_iload_n (q := 12) dX10_town_11 rfl rfl rfl ?_
        refine g_iconst (v := nI 0) (q := 13) dX10_town_12 rfl ki_0 ?_
        refine g_iconst (v := nI 4) (q := 14) dX10_town_13 rfl ki_4 ?_
        refine gc_X10_73 (c_in) rfl (Nat.le_of_ble_eq_true rfl) rfl [] rfl rfl (rest := []) rfl (Nat.le_of_ble_eq_true rfl) (q := 17) dX10_town_14 rfl (exK (ws' := [_, _, _]) (st' := [.int (bI (!ninB (nI (2)) (nI 0) (nI 4)))]) rfl rfl ?_)
        refine g_top (y := nI 1) (by decide) ?_
        refine g_if_eqN (t := 31) (q := 20) dX10_town_17 (by decide) rfl (by omega) (fun c17 => ?_) (fun c17 => ?_)
        · omega
        · skip
          refine g_aload_n (q := 21) dX10_town_20 rfl rfl rfl ?_
          refine gf_X10_13 rfl 0 rfl rfl (q := 24) dX10_town_21 rfl ?_
          refine g_iconst (v := nI 5) (q := 25) dX10_town_24 rfl ki_5 ?_
          refine g_iload_n (q := 26) dX10_town_25 rfl rfl rfl ?_
          refine g_imulN (q := 27) dX10_town_26 rfl ?_
          refine g_iload_n (q := 28) dX10_town_27 rfl rfl rfl ?_
          refine g_iaddN (q := 29) dX10_town_28 rfl ?_
          refine g_iald (v := nI (fd t)) 1 rfl (ixIn (j := 5 * t + 2) rfl (by omega) (by decide)) ((ixV (j := 5 * t + 2) rfl (by omega)).trans (townF_2 t)) (q := 30) dX10_town_29 rfl ?_
          refine g_iret (st := []) dX10_town_30 rfl rfl rfl ?_
          exact xr (by simp [opTown, ht, hk, Int32.add_comm])
      · skip
        refine g_iload_n (q := 12) dX10_town_11 rfl rfl rfl ?_
        refine g_iconst (v := nI 0) (q := 13) dX10_town_12 rfl ki_0 ?_
        refine g_iconst (v := nI 4) (q := 14) dX10_town_13 rfl ki_4 ?_
        refine gc_X10_73 (c_in) rfl (Nat.le_of_ble_eq_true rfl) rfl [] rfl rfl (rest := []) rfl (Nat.le_of_ble_eq_true rfl) (q := 17) dX10_town_14 rfl (exK (ws' := [_, _, _]) (st' := [.int (bI (!ninB (nI (3)) (nI 0) (nI 4)))]) rfl rfl ?_)
        refine g_top (y := nI 1) (by decide) ?_
        refine g_if_eqN (t := 31) (q := 20) dX10_town_17 (by decide) rfl (by omega) (fun c17 => ?_) (fun c17 => ?_)
        · omega
        · skip
          refine g_aload_n (q := 21) dX10_town_20 rfl rfl rfl ?_
          refine gf_X10_13 rfl 0 rfl rfl (q := 24) dX10_town_21 rfl ?_
          refine g_iconst (v := nI 5) (q := 25) dX10_town_24 rfl ki_5 ?_
          refine g_iload_n (q := 26) dX10_town_25 rfl rfl rfl ?_
          refine g_imulN (q := 27) dX10_town_26 rfl ?_
          refine g_iload_n (q := 28) dX10_town_27 rfl rfl rfl ?_
          refine g_iaddN (q := 29) dX10_town_28 rfl ?_
          refine g_iald (v := wn t) 1 rfl (ixIn (j := 5 * t + 3) rfl (by omega) (by decide)) ((ixV (j := 5 * t + 3) rfl (by omega)).trans (townF_3 t)) (q := 30) dX10_town_29 rfl ?_
          refine g_iret (st := []) dX10_town_30 rfl rfl rfl ?_
          exact xr (by simp [opTown, ht, hk, Int32.add_comm])
      · skip
        refine g_iload_n (q := 12) dX10_town_11 rfl rfl rfl ?_
        refine g_iconst (v := nI 0) (q := 13) dX10_town_12 rfl ki_0 ?_
        refine g_iconst (v := nI 4) (q := 14) dX10_town_13 rfl ki_4 ?_
        refine gc_X10_73 (c_in) rfl (Nat.le_of_ble_eq_true rfl) rfl [] rfl rfl (rest := []) rfl (Nat.le_of_ble_eq_true rfl) (q := 17) dX10_town_14 rfl (exK (ws' := [_, _, _]) (st' := [.int (bI (!ninB (nI (4)) (nI 0) (nI 4)))]) rfl rfl ?_)
        refine g_top (y := nI 1) (by decide) ?_
        refine g_if_eqN (t := 31) (q := 20) dX10_town_17 (by decide) rfl (by omega) (fun c17 => ?_) (fun c17 => ?_)
        · omega
        · skip
          refine g_aload_n (q := 21) dX10_town_20 rfl rfl rfl ?_
          refine gf_X10_13 rfl 0 rfl rfl (q := 24) dX10_town_21 rfl ?_
          refine g_iconst (v := nI 5) (q := 25) dX10_town_24 rfl ki_5 ?_
          refine g_iload_n (q := 26) dX10_town_25 rfl rfl rfl ?_
          refine g_imulN (q := 27) dX10_town_26 rfl ?_
          refine g_iload_n (q := 28) dX10_town_27 rfl rfl rfl ?_
          refine g_iaddN (q := 29) dX10_town_28 rfl ?_
          refine g_iald (v := nI (nx t)) 1 rfl (ixIn (j := 5 * t + 4) rfl (by omega) (by decide)) ((ixV (j := 5 * t + 4) rfl (by omega)).trans (townF_4 t)) (q := 30) dX10_town_29 rfl ?_
          refine g_iret (st := []) dX10_town_30 rfl rfl rfl ?_
          exact xr (by simp [opTown, ht, hk, Int32.add_comm])
      · skip
        refine g_iload_n (q := 12) dX10_town_11 rfl rfl rfl ?_
        refine g_iconst (v := nI 0) (q := 13) dX10_town_12 rfl ki_0 ?_
        refine g_iconst (v := nI 4) (q := 14) dX10_town_13 rfl ki_4 ?_
        refine gc_X10_73 (c_in) rfl (Nat.le_of_ble_eq_true rfl) rfl [] rfl rfl (rest := []) rfl (Nat.le_of_ble_eq_true rfl) (q := 17) dX10_town_14 rfl (exK (ws' := [_, _, _]) (st' := [.int (bI (!ninB (nI (5)) (nI 0) (nI 4)))]) rfl rfl ?_)
        refine g_top (y := nI 0) (by decide) ?_
        refine g_if_eqN (t := 31) (q := 20) dX10_town_17 (by decide) rfl (by omega) (fun c17 => ?_) (fun c17 => ?_)
        · skip
          refine g_iconst (v := nI 0) (q := 32) dX10_town_31 rfl ki_0 ?_
          refine g_istore_n (lv' := [(0, _), (1, _), (2, _), (3, _)]) (q := 33) dX10_town_32 rfl rfl (Nat.le_of_ble_eq_true rfl) rfl ?_
          refine g_iconst (v := nI 0) (q := 34) dX10_town_33 rfl ki_0 ?_
          refine g_istore (lv' := [(0, _), (1, _), (2, _), (3, _), (4, _)]) (q := 36) dX10_town_34 rfl (Nat.le_of_ble_eq_true rfl) rfl ?_
          refine g_loop (nb) (fun i => [(m0, .inr (10, (.int (nI (nt)) :: .ref mt :: .int (nI (nb)) :: .ref mk :: .ref mb :: .int (nI (lw)) :: .int (nI (sl)) :: .int (nI (tl)) :: .ref mx :: .int (po) :: .int (ta) :: .long (tk) :: .int (dg) :: .int (nu) :: .int (fa) :: .int (rm_) :: .int (rto) :: .int (rbo) :: .ref mr :: .ref mn :: .ref ma :: .ref mi :: .ref mj :: .int (nI (en)) :: .ref mg :: .int (nI (sn)) :: .ref ms :: .int (nI (dn)) :: .ref md :: .ref mc :: .ref me :: .int (ga) :: .ref mh :: .ref mo :: .ref mw :: []))), (mt, .inl (E.2.1.1, 30, .inl (townF cr rt fd wn nx))), (mn, .inl (E.2.1.1, 47, .inl (nowF tw wt sk gr ch yr)))]) (fun i => [(0, .ref m0), (1, .int (nI (t))), (2, .int (nI (5))), (3, .int (nI (cntN (fun b => decide (tw b = t)) i))), (4, .int (nI (i)))]) ?_ ?_ 0 (Nat.zero_le _)
          · intro i hi36 ih36
            show G E _ [(m0, .inr (10, (.int (nI (nt)) :: .ref mt :: .int (nI (nb)) :: .ref mk :: .ref mb :: .int (nI (lw)) :: .int (nI (sl)) :: .int (nI (tl)) :: .ref mx :: .int (po) :: .int (ta) :: .long (tk) :: .int (dg) :: .int (nu) :: .int (fa) :: .int (rm_) :: .int (rto) :: .int (rbo) :: .ref mr :: .ref mn :: .ref ma :: .ref mi :: .ref mj :: .int (nI (en)) :: .ref mg :: .int (nI (sn)) :: .ref ms :: .int (nI (dn)) :: .ref md :: .ref mc :: .ref me :: .int (ga) :: .ref mh :: .ref mo :: .ref mw :: []))), (mt, .inl (E.2.1.1, 30, .inl (townF cr rt fd wn nx))), (mn, .inl (E.2.1.1, 47, .inl (nowF tw wt sk gr ch yr)))] 36 [(0, .ref m0), (1, .int (nI (t))), (2, .int (nI (5))), (3, .int (nI (cntN (fun b => decide (tw b = t)) i))), (4, .int (nI (i)))] []
            refine g_iload (q := 38) dX10_town_36 rfl rfl ?_
            refine g_aload_n (q := 39) dX10_town_38 rfl rfl rfl ?_
            refine gf_X10_77 rfl 0 rfl rfl (q := 42) dX10_town_39 rfl ?_
            refine g_icmp_geN (t := 70) (q := 45) dX10_town_42 (by decide) rfl (by omega) (by omega) (fun c42 => ?_) (fun c42 => ?_)
            · omega
            · skip
              refine g_iload_n (q := 46) dX10_town_45 rfl rfl rfl ?_
              refine g_aload_n (q := 47) dX10_town_46 rfl rfl rfl ?_
              refine gf_X10_29 rfl 0 rfl rfl (q := 50) dX10_town_47 rfl ?_
              refine g_iload (q := 52) dX10_town_50 rfl rfl ?_
              have hb2 := htw (i) (by omega)
              refine g_iald (v := nI (tw i)) 2 rfl (ixIn (j := i) rfl (by omega) (by decide)) ((ixV (j := i) rfl (by omega)).trans (nowF_t (by omega))) (q := 53) dX10_town_52 rfl ?_
              refine g_iload_n (q := 54) dX10_town_53 rfl rfl rfl ?_
              refine g_icmp_neN (t := 61) (q := 57) dX10_town_54 (by decide) rfl (by omega) (by omega) (fun c54 => ?_) (fun c54 => ?_)
              · skip
                refine g_iconst (v := nI 0) (q := 62) dX10_town_61 rfl ki_0 ?_
                refine g_iaddN (q := 63) dX10_town_62 rfl ?_
                refine g_istore_n (lv' := [(0, _), (1, _), (2, _), (3, _), (4, _)]) (q := 64) dX10_town_63 rfl rfl (Nat.le_of_ble_eq_true rfl) rfl ?_
                refine g_iinc (lv' := [(0, _), (1, _), (2, _), (3, _), (4, _)]) (v := nI (i + 1)) (q := 67) dX10_town_64 rfl rfl (nI_inc _) (Nat.le_of_ble_eq_true rfl) rfl ?_
                refine g_goto (q := 36) dX10_town_67 (by decide) ?_
                simp only [cntN, c54, eq_self, decide_true, decide_false, if_true, Bool.false_eq_true, if_false] at ih36
                exact ih36
              · skip
                refine g_iconst (v := nI 1) (q := 58) dX10_town_57 rfl ki_1 ?_
                refine g_goto (q := 62) dX10_town_58 (by decide) ?_
                refine g_iaddN (q := 63) dX10_town_62 rfl ?_
                refine g_istore_n (lv' := [(0, _), (1, _), (2, _), (3, _), (4, _)]) (q := 64) dX10_town_63 rfl rfl (Nat.le_of_ble_eq_true rfl) rfl ?_
                refine g_iinc (lv' := [(0, _), (1, _), (2, _), (3, _), (4, _)]) (v := nI (i + 1)) (q := 67) dX10_town_64 rfl rfl (nI_inc _) (Nat.le_of_ble_eq_true rfl) rfl ?_
                refine g_goto (q := 36) dX10_town_67 (by decide) ?_
                simp only [cntN, c54, eq_self, decide_true, decide_false, if_true, Bool.false_eq_true, if_false] at ih36
                exact ih36
          · skip
            show G E _ [(m0, .inr (10, (.int (nI (nt)) :: .ref mt :: .int (nI (nb)) :: .ref mk :: .ref mb :: .int (nI (lw)) :: .int (nI (sl)) :: .int (nI (tl)) :: .ref mx :: .int (po) :: .int (ta) :: .long (tk) :: .int (dg) :: .int (nu) :: .int (fa) :: .int (rm_) :: .int (rto) :: .int (rbo) :: .ref mr :: .ref mn :: .ref ma :: .ref mi :: .ref mj :: .int (nI (en)) :: .ref mg :: .int (nI (sn)) :: .ref ms :: .int (nI (dn)) :: .ref md :: .ref mc :: .ref me :: .int (ga) :: .ref mh :: .ref mo :: .ref mw :: []))), (mt, .inl (E.2.1.1, 30, .inl (townF cr rt fd wn nx))), (mn, .inl (E.2.1.1, 47, .inl (nowF tw wt sk gr ch yr)))] 36 [(0, .ref m0), (1, .int (nI (t))), (2, .int (nI (5))), (3, .int (nI (cntN (fun b => decide (tw b = t)) nb))), (4, .int (nI (nb)))] []
            refine g_iload (q := 38) dX10_town_36 rfl rfl ?_
            refine g_aload_n (q := 39) dX10_town_38 rfl rfl rfl ?_
            refine gf_X10_77 rfl 0 rfl rfl (q := 42) dX10_town_39 rfl ?_
            refine g_icmp_geN (t := 70) (q := 45) dX10_town_42 (by decide) rfl (by omega) (by omega) (fun c42 => ?_) (fun c42 => ?_)
            · skip
              refine g_iload_n (q := 71) dX10_town_70 rfl rfl rfl ?_
              refine g_iconst (v := nI 5) (q := 72) dX10_town_71 rfl ki_5 ?_
              refine g_icmp_neN (t := 90) (q := 75) dX10_town_72 (by decide) rfl (by omega) (by omega) (fun c72 => ?_) (fun c72 => ?_)
              · omega
              · skip
                refine g_aload_n (q := 76) dX10_town_75 rfl rfl rfl ?_
                refine gf_X10_29 rfl 0 rfl rfl (q := 79) dX10_town_76 rfl ?_
                refine g_bipush (v := nI 40) (q := 81) dX10_town_79 rfl kb_40 ?_
                refine g_iload_n (q := 82) dX10_town_81 rfl rfl rfl ?_
                refine g_iaddN (q := 83) dX10_town_82 rfl ?_
                refine g_iald (v := ch t) 2 rfl (ixIn (j := 40 + t) rfl (by omega) (by decide)) ((ixV (j := 40 + t) rfl (by omega)).trans (nowF_c (by omega))) (q := 84) dX10_town_83 rfl ?_
                refine g_ldc (v := nI 10000000) rfl mkX10_206 (q := 86) dX10_town_84 rfl ?_
                refine g_iadd (q := 87) dX10_town_86 rfl ?_
                refine g_goto (q := 102) dX10_town_87 (by decide) ?_
                refine g_iret (st := []) dX10_town_102 rfl rfl rfl ?_
                exact xr (by simp [opTown, ht, hk, Int32.add_comm])
            · omega
        · omega
      · skip
        refine g_iload_n (q := 12) dX10_town_11 rfl rfl rfl ?_
        refine g_iconst (v := nI 0) (q := 13) dX10_town_12 rfl ki_0 ?_
        refine g_iconst (v := nI 4) (q := 14) dX10_town_13 rfl ki_4 ?_
        refine gc_X10_73 (c_in) rfl (Nat.le_of_ble_eq_true rfl) rfl [] rfl rfl (rest := []) rfl (Nat.le_of_ble_eq_true rfl) (q := 17) dX10_town_14 rfl (exK (ws' := [_, _, _]) (st' := [.int (bI (!ninB (nI (6)) (nI 0) (nI 4)))]) rfl rfl ?_)
        refine g_top (y := nI 0) (by decide) ?_
        refine g_if_eqN (t := 31) (q := 20) dX10_town_17 (by decide) rfl (by omega) (fun c17 => ?_) (fun c17 => ?_)
        · skip
          refine g_iconst (v := nI 0) (q := 32) dX10_town_31 rfl ki_0 ?_
          refine g_istore_n (lv' := [(0, _), (1, _), (2, _), (3, _)]) (q := 33) dX10_town_32 rfl rfl (Nat.le_of_ble_eq_true rfl) rfl ?_
          refine g_iconst (v := nI 0) (q := 34) dX10_town_33 rfl ki_0 ?_
          refine g_istore (lv' := [(0, _), (1, _), (2, _), (3, _), (4, _)]) (q := 36) dX10_town_34 rfl (Nat.le_of_ble_eq_true rfl) rfl ?_
          refine g_loop (nb) (fun i => [(m0, .inr (10, (.int (nI (nt)) :: .ref mt :: .int (nI (nb)) :: .ref mk :: .ref mb :: .int (nI (lw)) :: .int (nI (sl)) :: .int (nI (tl)) :: .ref mx :: .int (po) :: .int (ta) :: .long (tk) :: .int (dg) :: .int (nu) :: .int (fa) :: .int (rm_) :: .int (rto) :: .int (rbo) :: .ref mr :: .ref mn :: .ref ma :: .ref mi :: .ref mj :: .int (nI (en)) :: .ref mg :: .int (nI (sn)) :: .ref ms :: .int (nI (dn)) :: .ref md :: .ref mc :: .ref me :: .int (ga) :: .ref mh :: .ref mo :: .ref mw :: []))), (mt, .inl (E.2.1.1, 30, .inl (townF cr rt fd wn nx))), (mn, .inl (E.2.1.1, 47, .inl (nowF tw wt sk gr ch yr)))]) (fun i => [(0, .ref m0), (1, .int (nI (t))), (2, .int (nI (6))), (3, .int (nI (cntN (fun b => decide (tw b = t)) i))), (4, .int (nI (i)))]) ?_ ?_ 0 (Nat.zero_le _)
          · intro i hi36 ih36
            show G E _ [(m0, .inr (10, (.int (nI (nt)) :: .ref mt :: .int (nI (nb)) :: .ref mk :: .ref mb :: .int (nI (lw)) :: .int (nI (sl)) :: .int (nI (tl)) :: .ref mx :: .int (po) :: .int (ta) :: .long (tk) :: .int (dg) :: .int (nu) :: .int (fa) :: .int (rm_) :: .int (rto) :: .int (rbo) :: .ref mr :: .ref mn :: .ref ma :: .ref mi :: .ref mj :: .int (nI (en)) :: .ref mg :: .int (nI (sn)) :: .ref ms :: .int (nI (dn)) :: .ref md :: .ref mc :: .ref me :: .int (ga) :: .ref mh :: .ref mo :: .ref mw :: []))), (mt, .inl (E.2.1.1, 30, .inl (townF cr rt fd wn nx))), (mn, .inl (E.2.1.1, 47, .inl (nowF tw wt sk gr ch yr)))] 36 [(0, .ref m0), (1, .int (nI (t))), (2, .int (nI (6))), (3, .int (nI (cntN (fun b => decide (tw b = t)) i))), (4, .int (nI (i)))] []
            refine g_iload (q := 38) dX10_town_36 rfl rfl ?_
            refine g_aload_n (q := 39) dX10_town_38 rfl rfl rfl ?_
            refine gf_X10_77 rfl 0 rfl rfl (q := 42) dX10_town_39 rfl ?_
            refine g_icmp_geN (t := 70) (q := 45) dX10_town_42 (by decide) rfl (by omega) (by omega) (fun c42 => ?_) (fun c42 => ?_)
            · omega
            · skip
              refine g_iload_n (q := 46) dX10_town_45 rfl rfl rfl ?_
              refine g_aload_n (q := 47) dX10_town_46 rfl rfl rfl ?_
              refine gf_X10_29 rfl 0 rfl rfl (q := 50) dX10_town_47 rfl ?_
              refine g_iload (q := 52) dX10_town_50 rfl rfl ?_
              have hb3 := htw (i) (by omega)
              refine g_iald (v := nI (tw i)) 2 rfl (ixIn (j := i) rfl (by omega) (by decide)) ((ixV (j := i) rfl (by omega)).trans (nowF_t (by omega))) (q := 53) dX10_town_52 rfl ?_
              refine g_iload_n (q := 54) dX10_town_53 rfl rfl rfl ?_
              refine g_icmp_neN (t := 61) (q := 57) dX10_town_54 (by decide) rfl (by omega) (by omega) (fun c54 => ?_) (fun c54 => ?_)
              · skip
                refine g_iconst (v := nI 0) (q := 62) dX10_town_61 rfl ki_0 ?_
                refine g_iaddN (q := 63) dX10_town_62 rfl ?_
                refine g_istore_n (lv' := [(0, _), (1, _), (2, _), (3, _), (4, _)]) (q := 64) dX10_town_63 rfl rfl (Nat.le_of_ble_eq_true rfl) rfl ?_
                refine g_iinc (lv' := [(0, _), (1, _), (2, _), (3, _), (4, _)]) (v := nI (i + 1)) (q := 67) dX10_town_64 rfl rfl (nI_inc _) (Nat.le_of_ble_eq_true rfl) rfl ?_
                refine g_goto (q := 36) dX10_town_67 (by decide) ?_
                simp only [cntN, c54, eq_self, decide_true, decide_false, if_true, Bool.false_eq_true, if_false] at ih36
                exact ih36
              · skip
                refine g_iconst (v := nI 1) (q := 58) dX10_town_57 rfl ki_1 ?_
                refine g_goto (q := 62) dX10_town_58 (by decide) ?_
                refine g_iaddN (q := 63) dX10_town_62 rfl ?_
                refine g_istore_n (lv' := [(0, _), (1, _), (2, _), (3, _), (4, _)]) (q := 64) dX10_town_63 rfl rfl (Nat.le_of_ble_eq_true rfl) rfl ?_
                refine g_iinc (lv' := [(0, _), (1, _), (2, _), (3, _), (4, _)]) (v := nI (i + 1)) (q := 67) dX10_town_64 rfl rfl (nI_inc _) (Nat.le_of_ble_eq_true rfl) rfl ?_
                refine g_goto (q := 36) dX10_town_67 (by decide) ?_
                simp only [cntN, c54, eq_self, decide_true, decide_false, if_true, Bool.false_eq_true, if_false] at ih36
                exact ih36
          · skip
            show G E _ [(m0, .inr (10, (.int (nI (nt)) :: .ref mt :: .int (nI (nb)) :: .ref mk :: .ref mb :: .int (nI (lw)) :: .int (nI (sl)) :: .int (nI (tl)) :: .ref mx :: .int (po) :: .int (ta) :: .long (tk) :: .int (dg) :: .int (nu) :: .int (fa) :: .int (rm_) :: .int (rto) :: .int (rbo) :: .ref mr :: .ref mn :: .ref ma :: .ref mi :: .ref mj :: .int (nI (en)) :: .ref mg :: .int (nI (sn)) :: .ref ms :: .int (nI (dn)) :: .ref md :: .ref mc :: .ref me :: .int (ga) :: .ref mh :: .ref mo :: .ref mw :: []))), (mt, .inl (E.2.1.1, 30, .inl (townF cr rt fd wn nx))), (mn, .inl (E.2.1.1, 47, .inl (nowF tw wt sk gr ch yr)))] 36 [(0, .ref m0), (1, .int (nI (t))), (2, .int (nI (6))), (3, .int (nI (cntN (fun b => decide (tw b = t)) nb))), (4, .int (nI (nb)))] []
            refine g_iload (q := 38) dX10_town_36 rfl rfl ?_
            refine g_aload_n (q := 39) dX10_town_38 rfl rfl rfl ?_
            refine gf_X10_77 rfl 0 rfl rfl (q := 42) dX10_town_39 rfl ?_
            refine g_icmp_geN (t := 70) (q := 45) dX10_town_42 (by decide) rfl (by omega) (by omega) (fun c42 => ?_) (fun c42 => ?_)
            · skip
              refine g_iload_n (q := 71) dX10_town_70 rfl rfl rfl ?_
              refine g_iconst (v := nI 5) (q := 72) dX10_town_71 rfl ki_5 ?_
              refine g_icmp_neN (t := 90) (q := 75) dX10_town_72 (by decide) rfl (by omega) (by omega) (fun c72 => ?_) (fun c72 => ?_)
              · skip
                refine g_iload_n (q := 91) dX10_town_90 rfl rfl rfl ?_
                refine g_bipush (v := nI 6) (q := 93) dX10_town_91 rfl kb_6 ?_
                refine g_icmp_neN (t := 100) (q := 96) dX10_town_93 (by decide) rfl (by omega) (by omega) (fun c93 => ?_) (fun c93 => ?_)
                · omega
                · skip
                  refine g_iload_n (q := 97) dX10_town_96 rfl rfl rfl ?_
                  refine g_goto (q := 102) dX10_town_97 (by decide) ?_
                  refine g_iret (st := []) dX10_town_102 rfl rfl rfl ?_
                  exact xr (by simp [opTown, ht, hk, Int32.add_comm])
              · omega
            · omega
        · omega
  · have nt := isSome_f (bI_eq0.mp c5)
    refine g_bipush (v := (-2)) (q := 10) dX10_town_8 rfl kb_m2 ?_
    refine g_iret (st := []) dX10_town_10 rfl rfl rfl ?_
    exact xr (by simp [opTown, nt, Int32.add_comm])
set_option maxHeartbeats 2000000 in
set_option maxRecDepth 20000 in
theorem c_mboy {E : EN} {m0 mt mk mb mx mr mn ma mi mj mg ms md mc me mh mo mw nt nb lw sl tl en sn dn : Nat} {po ta dg nu fa rm_ rto rbo ga : Int32} {tk : Int64} {kd tw wt sk gr : Nat → Nat} {ch : Nat → Int32} {yr : Nat} {cr rt fd nx : Nat → Nat} {wn : Nat → Int32} {x y : Int32} (hnb : nb ≤ 10) (hkd : ∀ j, j < 10 → kd j < 4) (htw : ∀ j, j < 10 → tw j < 6) (hwt : ∀ j, j < 10 → wt j < 100) (hsk : ∀ j, j < 10 → sk j < 4) (hgr : ∀ j, j < 10 → gr j < 10) (hrt : ∀ j, j < 6 → rt j < 10)  : CT E yX10_boy cX10_boy 3 (some .int) 2 [.ref m0, .int (x), .int (y)] [(m0, .inr (10, (.int (nI (nt)) :: .ref mt :: .int (nI (nb)) :: .ref mk :: .ref mb :: .int (nI (lw)) :: .int (nI (sl)) :: .int (nI (tl)) :: .ref mx :: .int (po) :: .int (ta) :: .long (tk) :: .int (dg) :: .int (nu) :: .int (fa) :: .int (rm_) :: .int (rto) :: .int (rbo) :: .ref mr :: .ref mn :: .ref ma :: .ref mi :: .ref mj :: .int (nI (en)) :: .ref mg :: .int (nI (sn)) :: .ref ms :: .int (nI (dn)) :: .ref md :: .ref mc :: .ref me :: .int (ga) :: .ref mh :: .ref mo :: .ref mw :: []))), (mk, .inl (E.2.1.1, 10, .inl (nA (kd)))), (mn, .inl (E.2.1.1, 47, .inl (nowF tw wt sk gr ch yr))), (mt, .inl (E.2.1.1, 30, .inl (townF cr rt fd wn nx)))] (xQ (some (.int (opBoy nb kd tw wt sk gr rt x y))) [(m0, .inr (10, (.int (nI (nt)) :: .ref mt :: .int (nI (nb)) :: .ref mk :: .ref mb :: .int (nI (lw)) :: .int (nI (sl)) :: .int (nI (tl)) :: .ref mx :: .int (po) :: .int (ta) :: .long (tk) :: .int (dg) :: .int (nu) :: .int (fa) :: .int (rm_) :: .int (rto) :: .int (rbo) :: .ref mr :: .ref mn :: .ref ma :: .ref mi :: .ref mj :: .int (nI (en)) :: .ref mg :: .int (nI (sn)) :: .ref ms :: .int (nI (dn)) :: .ref md :: .ref mc :: .ref me :: .int (ga) :: .ref mh :: .ref mo :: .ref mw :: []))), (mk, .inl (E.2.1.1, 10, .inl (nA (kd)))), (mn, .inl (E.2.1.1, 47, .inl (nowF tw wt sk gr ch yr))), (mt, .inl (E.2.1.1, 30, .inl (townF cr rt fd wn nx)))]) := by
  refine ct_of (by decide +kernel) (Nat.le_of_ble_eq_true rfl) (lv := [(0, .ref m0), (1, .int (x)), (2, .int (y))]) rfl (fun A => ?_)
  refine g_aload_n (q := 1) dX10_boy_0 rfl rfl rfl ?_
  refine g_iload_n (q := 2) dX10_boy_1 rfl rfl rfl ?_
  refine gc_X10_211 (c_misBoy (by omega)) rfl (Nat.le_of_ble_eq_true rfl) rfl 0 rfl [0] rfl rfl (rest := []) rfl (Nat.le_of_ble_eq_true rfl) (q := 5) dX10_boy_2 rfl (exK (ws' := [_, _, _, _]) (st' := [.int (bI (tn x nb).isSome)]) rfl rfl ?_)
  refine g_if_ne (t := 11) (q := 8) dX10_boy_5 (by decide) rfl (fun c5 => ?_) (fun c5 => ?_)
  · obtain ⟨b, hb⟩ := isSome_t (bI_ne0.mp c5)
    obtain ⟨hb1, rfl⟩ := tn_some hb
    rcases hk : tn y 6 with _ | k
    · skip
      refine g_iload_n (q := 12) dX10_boy_11 rfl rfl rfl ?_
      refine g_if_ne (t := 24) (q := 15) dX10_boy_12 (by decide) rfl (fun c12 => ?_) (fun c12 => ?_)
      · skip
        refine g_iload_n (q := 25) dX10_boy_24 rfl rfl rfl ?_
        refine g_iconst (v := nI 1) (q := 26) dX10_boy_25 rfl ki_1 ?_
        refine g_iconst (v := nI 4) (q := 27) dX10_boy_26 rfl ki_4 ?_
        refine gc_X10_73 (c_in) rfl (Nat.le_of_ble_eq_true rfl) rfl [] rfl rfl (rest := []) rfl (Nat.le_of_ble_eq_true rfl) (q := 30) dX10_boy_27 rfl (exK (ws' := [_, _, _, _]) (st' := [.int (bI (!ninB y (nI 1) (nI 4)))]) rfl rfl ?_)
        refine g_top (y := nI 0) (by rw [ninB_out (n := 6) hk (by decide) (by decide)]; rfl) ?_
        refine g_if_eqN (t := 49) (q := 33) dX10_boy_30 (by decide) rfl (by omega) (fun c30 => ?_) (fun c30 => ?_)
        · skip
          refine g_iload_n (q := 50) dX10_boy_49 rfl rfl rfl ?_
          refine g_iconst (v := nI 5) (q := 51) dX10_boy_50 rfl ki_5 ?_
          refine g_icmp_ne (t := 62) (q := 54) dX10_boy_51 (by decide) rfl (fun c51 => ?_) (fun c51 => ?_)
          · skip
            refine g_bipush (v := (-3)) (q := 64) dX10_boy_62 rfl kb_m3 ?_
            refine g_iret (st := []) dX10_boy_64 rfl rfl rfl ?_
            exact xr (by simp [opBoy, hb, hk])
          · exact absurd c51 (tn_ne hk (k := 5) (by decide))
        · omega
      · exact absurd c12 (tn_ne hk (k := 0) (by decide))
    · obtain ⟨hk1, rfl⟩ := tn_some hk
      rcases (show k = 0 ∨ k = 1 ∨ k = 2 ∨ k = 3 ∨ k = 4 ∨ k = 5 by omega) with rfl | rfl | rfl | rfl | rfl | rfl
      · skip
        refine g_iload_n (q := 12) dX10_boy_11 rfl rfl rfl ?_
        refine g_if_neN (t := 24) (q := 15) dX10_boy_12 (by decide) rfl (by omega) (fun c12 => ?_) (fun c12 => ?_)
        · omega
        · skip
          refine g_aload_n (q := 16) dX10_boy_15 rfl rfl rfl ?_
          refine gf_X10_17 rfl 0 rfl rfl (q := 19) dX10_boy_16 rfl ?_
          refine g_iload_n (q := 20) dX10_boy_19 rfl rfl rfl ?_
          refine g_iald (v := nI (kd b)) 1 rfl (ixIn (j := b) rfl (by omega) (by decide)) (ixV (j := b) rfl (by omega)) (q := 21) dX10_boy_20 rfl ?_
          refine g_goto (q := 64) dX10_boy_21 (by decide) ?_
          refine g_iret (st := []) dX10_boy_64 rfl rfl rfl ?_
          exact xr (by simp [opBoy, hb, hk])
      · skip
        refine g_iload_n (q := 12) dX10_boy_11 rfl rfl rfl ?_
        refine g_if_neN (t := 24) (q := 15) dX10_boy_12 (by decide) rfl (by omega) (fun c12 => ?_) (fun c12 => ?_)
        · skip
          refine g_iload_n (q := 25) dX10_boy_24 rfl rfl rfl ?_
          refine g_iconst (v := nI 1) (q := 26) dX10_boy_25 rfl ki_1 ?_
          refine g_iconst (v := nI 4) (q := 27) dX10_boy_26 rfl ki_4 ?_
          refine gc_X10_73 (c_in) rfl (Nat.le_of_ble_eq_true rfl) rfl [] rfl rfl (rest := []) rfl (Nat.le_of_ble_eq_true rfl) (q := 30) dX10_boy_27 rfl (exK (ws' := [_, _, _, _]) (st' := [.int (bI (!ninB (nI (1)) (nI 1) (nI 4)))]) rfl rfl ?_)
          refine g_top (y := nI 1) (by decide) ?_
          refine g_if_eqN (t := 49) (q := 33) dX10_boy_30 (by decide) rfl (by omega) (fun c30 => ?_) (fun c30 => ?_)
          · omega
          · skip
            refine g_aload_n (q := 34) dX10_boy_33 rfl rfl rfl ?_
            refine gf_X10_29 rfl 0 rfl rfl (q := 37) dX10_boy_34 rfl ?_
            refine g_bipush (v := nI 10) (q := 39) dX10_boy_37 rfl kb_10 ?_
            refine g_iload_n (q := 40) dX10_boy_39 rfl rfl rfl ?_
            refine g_iconst (v := nI 1) (q := 41) dX10_boy_40 rfl ki_1 ?_
            refine g_isubN (q := 42) dX10_boy_41 rfl (by omega) ?_
            refine g_imulN (q := 43) dX10_boy_42 rfl ?_
            refine g_iload_n (q := 44) dX10_boy_43 rfl rfl rfl ?_
            refine g_iaddN (q := 45) dX10_boy_44 rfl ?_
            refine g_top (y := nI (b)) (by simp) ?_
            have hb1 := htw (b) (by omega)
            refine g_iald (v := nI (tw b)) 2 rfl (ixIn (j := b) rfl (by omega) (by decide)) ((ixV (j := b) rfl (by omega)).trans (nowF_t (by omega))) (q := 46) dX10_boy_45 rfl ?_
            refine g_goto (q := 64) dX10_boy_46 (by decide) ?_
            refine g_iret (st := []) dX10_boy_64 rfl rfl rfl ?_
            exact xr (by simp [opBoy, hb, hk])
        · omega
      · skip
        refine g_iload_n (q := 12) dX10_boy_11 rfl rfl rfl ?_
        refine g_if_neN (t := 24) (q := 15) dX10_boy_12 (by decide) rfl (by omega) (fun c12 => ?_) (fun c12 => ?_)
        · skip
          refine g_iload_n (q := 25) dX10_boy_24 rfl rfl rfl ?_
          refine g_iconst (v := nI 1) (q := 26) dX10_boy_25 rfl ki_1 ?_
          refine g_iconst (v := nI 4) (q := 27) dX10_boy_26 rfl ki_4 ?_
          refine gc_X10_73 (c_in) rfl (Nat.le_of_ble_eq_true rfl) rfl [] rfl rfl (rest := []) rfl (Nat.le_of_ble_eq_true rfl) (q := 30) dX10_boy_27 rfl (exK (ws' := [_, _, _, _]) (st' := [.int (bI (!ninB (nI (2)) (nI 1) (nI 4)))]) rfl rfl ?_)
          refine g_top (y := nI 1) (by decide) ?_
          refine g_if_eqN (t := 49) (q := 33) dX10_boy_30 (by decide) rfl (by omega) (fun c30 => ?_) (fun c30 => ?_)
          · omega
          · skip
            refine g_aload_n (q := 34) dX10_boy_33 rfl rfl rfl ?_
            refine gf_X10_29 rfl 0 rfl rfl (q := 37) dX10_boy_34 rfl ?_
            refine g_bipush (v := nI 10) (q := 39) dX10_boy_37 rfl kb_10 ?_
            refine g_iload_n (q := 40) dX10_boy_39 rfl rfl rfl ?_
            refine g_iconst (v := nI 1) (q := 41) dX10_boy_40 rfl ki_1 ?_
            refine g_isubN (q := 42) dX10_boy_41 rfl (by omega) ?_
            refine g_imulN (q := 43) dX10_boy_42 rfl ?_
            refine g_iload_n (q := 44) dX10_boy_43 rfl rfl rfl ?_
            refine g_iaddN (q := 45) dX10_boy_44 rfl ?_
            have hb2 := hwt (b) (by omega)
            refine g_iald (v := nI (wt b)) 2 rfl (ixIn (j := 10 + b) rfl (by omega) (by decide)) ((ixV (j := 10 + b) rfl (by omega)).trans (nowF_w (by omega))) (q := 46) dX10_boy_45 rfl ?_
            refine g_goto (q := 64) dX10_boy_46 (by decide) ?_
            refine g_iret (st := []) dX10_boy_64 rfl rfl rfl ?_
            exact xr (by simp [opBoy, hb, hk])
        · omega
      · skip
        refine g_iload_n (q := 12) dX10_boy_11 rfl rfl rfl ?_
        refine g_if_neN (t := 24) (q := 15) dX10_boy_12 (by decide) rfl (by omega) (fun c12 => ?_) (fun c12 => ?_)
        · skip
          refine g_iload_n (q := 25) dX10_boy_24 rfl rfl rfl ?_
          refine g_iconst (v := nI 1) (q := 26) dX10_boy_25 rfl ki_1 ?_
          refine g_iconst (v := nI 4) (q := 27) dX10_boy_26 rfl ki_4 ?_
          refine gc_X10_73 (c_in) rfl (Nat.le_of_ble_eq_true rfl) rfl [] rfl rfl (rest := []) rfl (Nat.le_of_ble_eq_true rfl) (q := 30) dX10_boy_27 rfl (exK (ws' := [_, _, _, _]) (st' := [.int (bI (!ninB (nI (3)) (nI 1) (nI 4)))]) rfl rfl ?_)
          refine g_top (y := nI 1) (by decide) ?_
          refine g_if_eqN (t := 49) (q := 33) dX10_boy_30 (by decide) rfl (by omega) (fun c30 => ?_) (fun c30 => ?_)
          · omega
          · skip
            refine g_aload_n (q := 34) dX10_boy_33 rfl rfl rfl ?_
            refine gf_X10_29 rfl 0 rfl rfl (q := 37) dX10_boy_34 rfl ?_
            refine g_bipush (v := nI 10) (q := 39) dX10_boy_37 rfl kb_10 ?_
            refine g_iload_n (q := 40) dX10_boy_39 rfl rfl rfl ?_
            refine g_iconst (v := nI 1) (q := 41) dX10_boy_40 rfl ki_1 ?_
            refine g_isubN (q := 42) dX10_boy_41 rfl (by omega) ?_
            refine g_imulN (q := 43) dX10_boy_42 rfl ?_
            refine g_iload_n (q := 44) dX10_boy_43 rfl rfl rfl ?_
            refine g_iaddN (q := 45) dX10_boy_44 rfl ?_
            have hb3 := hsk (b) (by omega)
            refine g_iald (v := nI (sk b)) 2 rfl (ixIn (j := 20 + b) rfl (by omega) (by decide)) ((ixV (j := 20 + b) rfl (by omega)).trans (nowF_s (by omega))) (q := 46) dX10_boy_45 rfl ?_
            refine g_goto (q := 64) dX10_boy_46 (by decide) ?_
            refine g_iret (st := []) dX10_boy_64 rfl rfl rfl ?_
            exact xr (by simp [opBoy, hb, hk])
        · omega
      · skip
        refine g_iload_n (q := 12) dX10_boy_11 rfl rfl rfl ?_
        refine g_if_neN (t := 24) (q := 15) dX10_boy_12 (by decide) rfl (by omega) (fun c12 => ?_) (fun c12 => ?_)
        · skip
          refine g_iload_n (q := 25) dX10_boy_24 rfl rfl rfl ?_
          refine g_iconst (v := nI 1) (q := 26) dX10_boy_25 rfl ki_1 ?_
          refine g_iconst (v := nI 4) (q := 27) dX10_boy_26 rfl ki_4 ?_
          refine gc_X10_73 (c_in) rfl (Nat.le_of_ble_eq_true rfl) rfl [] rfl rfl (rest := []) rfl (Nat.le_of_ble_eq_true rfl) (q := 30) dX10_boy_27 rfl (exK (ws' := [_, _, _, _]) (st' := [.int (bI (!ninB (nI (4)) (nI 1) (nI 4)))]) rfl rfl ?_)
          refine g_top (y := nI 1) (by decide) ?_
          refine g_if_eqN (t := 49) (q := 33) dX10_boy_30 (by decide) rfl (by omega) (fun c30 => ?_) (fun c30 => ?_)
          · omega
          · skip
            refine g_aload_n (q := 34) dX10_boy_33 rfl rfl rfl ?_
            refine gf_X10_29 rfl 0 rfl rfl (q := 37) dX10_boy_34 rfl ?_
            refine g_bipush (v := nI 10) (q := 39) dX10_boy_37 rfl kb_10 ?_
            refine g_iload_n (q := 40) dX10_boy_39 rfl rfl rfl ?_
            refine g_iconst (v := nI 1) (q := 41) dX10_boy_40 rfl ki_1 ?_
            refine g_isubN (q := 42) dX10_boy_41 rfl (by omega) ?_
            refine g_imulN (q := 43) dX10_boy_42 rfl ?_
            refine g_iload_n (q := 44) dX10_boy_43 rfl rfl rfl ?_
            refine g_iaddN (q := 45) dX10_boy_44 rfl ?_
            have hb4 := hgr (b) (by omega)
            refine g_iald (v := nI (gr b)) 2 rfl (ixIn (j := 30 + b) rfl (by omega) (by decide)) ((ixV (j := 30 + b) rfl (by omega)).trans (nowF_g (by omega))) (q := 46) dX10_boy_45 rfl ?_
            refine g_goto (q := 64) dX10_boy_46 (by decide) ?_
            refine g_iret (st := []) dX10_boy_64 rfl rfl rfl ?_
            exact xr (by simp [opBoy, hb, hk])
        · omega
      · skip
        refine g_iload_n (q := 12) dX10_boy_11 rfl rfl rfl ?_
        refine g_if_neN (t := 24) (q := 15) dX10_boy_12 (by decide) rfl (by omega) (fun c12 => ?_) (fun c12 => ?_)
        · skip
          refine g_iload_n (q := 25) dX10_boy_24 rfl rfl rfl ?_
          refine g_iconst (v := nI 1) (q := 26) dX10_boy_25 rfl ki_1 ?_
          refine g_iconst (v := nI 4) (q := 27) dX10_boy_26 rfl ki_4 ?_
          refine gc_X10_73 (c_in) rfl (Nat.le_of_ble_eq_true rfl) rfl [] rfl rfl (rest := []) rfl (Nat.le_of_ble_eq_true rfl) (q := 30) dX10_boy_27 rfl (exK (ws' := [_, _, _, _]) (st' := [.int (bI (!ninB (nI (5)) (nI 1) (nI 4)))]) rfl rfl ?_)
          refine g_top (y := nI 0) (by decide) ?_
          refine g_if_eqN (t := 49) (q := 33) dX10_boy_30 (by decide) rfl (by omega) (fun c30 => ?_) (fun c30 => ?_)
          · skip
            refine g_iload_n (q := 50) dX10_boy_49 rfl rfl rfl ?_
            refine g_iconst (v := nI 5) (q := 51) dX10_boy_50 rfl ki_5 ?_
            refine g_icmp_neN (t := 62) (q := 54) dX10_boy_51 (by decide) rfl (by omega) (by omega) (fun c51 => ?_) (fun c51 => ?_)
            · omega
            · skip
              refine g_aload_n (q := 55) dX10_boy_54 rfl rfl rfl ?_
              refine g_iload_n (q := 56) dX10_boy_55 rfl rfl rfl ?_
              refine gc_X10_214 (c_worthOf (by omega) hkd htw hwt hrt) rfl (Nat.le_of_ble_eq_true rfl) rfl 0 rfl [0, 1, 2, 3] rfl rfl (rest := []) rfl (Nat.le_of_ble_eq_true rfl) (q := 59) dX10_boy_56 rfl (exK (ws' := [_, _, _, _]) (st' := [.int (nI (worN kd tw wt rt b))]) rfl rfl ?_)
              refine g_goto (q := 64) dX10_boy_59 (by decide) ?_
              refine g_iret (st := []) dX10_boy_64 rfl rfl rfl ?_
              exact xr (by simp [opBoy, hb, hk])
          · omega
        · omega
  · have nb := isSome_f (bI_eq0.mp c5)
    refine g_bipush (v := (-2)) (q := 10) dX10_boy_8 rfl kb_m2 ?_
    refine g_iret (st := []) dX10_boy_10 rfl rfl rfl ?_
    exact xr (by simp [opBoy, nb])
