set_option maxHeartbeats 2000000 in
set_option maxRecDepth 20000 in
theorem c_copy_a {E : EN} {aa bb : Nat} {f g : Nat → Int32}  : CT E yX10_copy cX10_copy 5 (none) 0 [.ref aa, .int (nI (0)), .ref bb, .int (nI (0))] [(aa, .inl (E.2.1.1, 47, .inl (f))), (bb, .inl (E.2.1.1, 47, .inl (g)))] (xQ none [(aa, .inl (E.2.1.1, 47, .inl (f))), (bb, .inl (E.2.1.1, 47, .inl (va_cpy f g 0 0 47)))]) := by
  refine ct_of (by decide +kernel) (Nat.le_of_ble_eq_true rfl) (lv := [(0, .ref aa), (1, .int (nI (0))), (2, .ref bb), (3, .int (nI (0)))]) rfl (fun A => ?_)
  refine g_iconst (v := nI 0) (q := 1) dX10_copy_0 rfl ki_0 ?_
  refine g_istore (lv' := [(0, _), (1, _), (2, _), (3, _), (4, _)]) (q := 3) dX10_copy_1 rfl (Nat.le_of_ble_eq_true rfl) rfl ?_
  refine g_eq (ws' := [(aa, .inl (E.2.1.1, 47, .inl (f))), (bb, .inl (E.2.1.1, 47, .inl (va_cpy f g 0 0 0)))]) ?_ (by rw [cpy_0]) rfl rfl
  refine g_loop (47) (fun i => [(aa, .inl (E.2.1.1, 47, .inl (f))), (bb, .inl (E.2.1.1, 47, .inl (va_cpy f g 0 0 i)))]) (fun i => [(0, .ref aa), (1, .int (nI (0))), (2, .ref bb), (3, .int (nI (0))), (4, .int (nI (i)))]) ?_ ?_ 0 (Nat.zero_le _)
  · intro i hi3 ih3
    show G E _ [(aa, .inl (E.2.1.1, 47, .inl (f))), (bb, .inl (E.2.1.1, 47, .inl (va_cpy f g 0 0 i)))] 3 [(0, .ref aa), (1, .int (nI (0))), (2, .ref bb), (3, .int (nI (0))), (4, .int (nI (i)))] []
    refine g_iload (q := 5) dX10_copy_3 rfl rfl ?_
    refine g_bipush (v := nI 47) (q := 7) dX10_copy_5 rfl kb_47 ?_
    refine g_icmp_geN (t := 28) (q := 10) dX10_copy_7 (by decide) rfl (by omega) (by omega) (fun c7 => ?_) (fun c7 => ?_)
    · omega
    · skip
      refine g_aload_n (q := 11) dX10_copy_10 rfl rfl rfl ?_
      refine g_iload_n (q := 12) dX10_copy_11 rfl rfl rfl ?_
      refine g_iload (q := 14) dX10_copy_12 rfl rfl ?_
      refine g_iaddN (q := 15) dX10_copy_14 rfl ?_
      refine g_aload_n (q := 16) dX10_copy_15 rfl rfl rfl ?_
      refine g_iload_n (q := 17) dX10_copy_16 rfl rfl rfl ?_
      refine g_iload (q := 19) dX10_copy_17 rfl rfl ?_
      refine g_iaddN (q := 20) dX10_copy_19 rfl ?_
      refine g_iald (v := f (0 + i)) 0 rfl (ixIn (j := 0 + i) rfl (by omega) (by decide)) (ixV (j := 0 + i) rfl (by omega)) (q := 21) dX10_copy_20 rfl ?_
      refine g_iast (f' := (upd (va_cpy f g 0 0 i) (0 + i) (f (0 + i)))) 1 rfl (ixIn (j := 0 + i) rfl (by omega) (by decide)) (ixU (j := 0 + i) rfl (by omega)) (ws' := [_, (_, .inl (_, _, .inl _))]) rfl (q := 22) dX10_copy_21 rfl ?_
      refine g_iinc (lv' := [(0, _), (1, _), (2, _), (3, _), (4, _)]) (v := nI (i + 1)) (q := 25) dX10_copy_22 rfl rfl (nI_inc _) (Nat.le_of_ble_eq_true rfl) rfl ?_
      refine g_goto (q := 3) dX10_copy_25 (by decide) ?_
      rw [← cpy_s f g 0 0 i] at ih3
      exact ih3
  · skip
    show G E _ [(aa, .inl (E.2.1.1, 47, .inl (f))), (bb, .inl (E.2.1.1, 47, .inl (va_cpy f g 0 0 47)))] 3 [(0, .ref aa), (1, .int (nI (0))), (2, .ref bb), (3, .int (nI (0))), (4, .int (nI (47)))] []
    refine g_iload (q := 5) dX10_copy_3 rfl rfl ?_
    refine g_bipush (v := nI 47) (q := 7) dX10_copy_5 rfl kb_47 ?_
    refine g_icmp_geN (t := 28) (q := 10) dX10_copy_7 (by decide) rfl (by omega) (by omega) (fun c7 => ?_) (fun c7 => ?_)
    · skip
      refine g_vret (st := []) dX10_copy_28 rfl rfl ?_
      exact xv
    · omega
set_option maxHeartbeats 2000000 in
set_option maxRecDepth 20000 in
theorem c_copy_k0 {E : EN} {aa bb : Nat} {f g : Nat → Int32}  : CT E yX10_copy cX10_copy 5 (none) 0 [.ref aa, .int (nI (0)), .ref bb, .int (nI (0))] [(aa, .inl (E.2.1.1, 47, .inl (f))), (bb, .inl (E.2.1.1, 94, .inl (g)))] (xQ none [(aa, .inl (E.2.1.1, 47, .inl (f))), (bb, .inl (E.2.1.1, 94, .inl (va_cpy f g 0 0 47)))]) := by
  refine ct_of (by decide +kernel) (Nat.le_of_ble_eq_true rfl) (lv := [(0, .ref aa), (1, .int (nI (0))), (2, .ref bb), (3, .int (nI (0)))]) rfl (fun A => ?_)
  refine g_iconst (v := nI 0) (q := 1) dX10_copy_0 rfl ki_0 ?_
  refine g_istore (lv' := [(0, _), (1, _), (2, _), (3, _), (4, _)]) (q := 3) dX10_copy_1 rfl (Nat.le_of_ble_eq_true rfl) rfl ?_
  refine g_eq (ws' := [(aa, .inl (E.2.1.1, 47, .inl (f))), (bb, .inl (E.2.1.1, 94, .inl (va_cpy f g 0 0 0)))]) ?_ (by rw [cpy_0]) rfl rfl
  refine g_loop (47) (fun i => [(aa, .inl (E.2.1.1, 47, .inl (f))), (bb, .inl (E.2.1.1, 94, .inl (va_cpy f g 0 0 i)))]) (fun i => [(0, .ref aa), (1, .int (nI (0))), (2, .ref bb), (3, .int (nI (0))), (4, .int (nI (i)))]) ?_ ?_ 0 (Nat.zero_le _)
  · intro i hi3 ih3
    show G E _ [(aa, .inl (E.2.1.1, 47, .inl (f))), (bb, .inl (E.2.1.1, 94, .inl (va_cpy f g 0 0 i)))] 3 [(0, .ref aa), (1, .int (nI (0))), (2, .ref bb), (3, .int (nI (0))), (4, .int (nI (i)))] []
    refine g_iload (q := 5) dX10_copy_3 rfl rfl ?_
    refine g_bipush (v := nI 47) (q := 7) dX10_copy_5 rfl kb_47 ?_
    refine g_icmp_geN (t := 28) (q := 10) dX10_copy_7 (by decide) rfl (by omega) (by omega) (fun c7 => ?_) (fun c7 => ?_)
    · omega
    · skip
      refine g_aload_n (q := 11) dX10_copy_10 rfl rfl rfl ?_
      refine g_iload_n (q := 12) dX10_copy_11 rfl rfl rfl ?_
      refine g_iload (q := 14) dX10_copy_12 rfl rfl ?_
      refine g_iaddN (q := 15) dX10_copy_14 rfl ?_
      refine g_aload_n (q := 16) dX10_copy_15 rfl rfl rfl ?_
      refine g_iload_n (q := 17) dX10_copy_16 rfl rfl rfl ?_
      refine g_iload (q := 19) dX10_copy_17 rfl rfl ?_
      refine g_iaddN (q := 20) dX10_copy_19 rfl ?_
      refine g_iald (v := f (0 + i)) 0 rfl (ixIn (j := 0 + i) rfl (by omega) (by decide)) (ixV (j := 0 + i) rfl (by omega)) (q := 21) dX10_copy_20 rfl ?_
      refine g_iast (f' := (upd (va_cpy f g 0 0 i) (0 + i) (f (0 + i)))) 1 rfl (ixIn (j := 0 + i) rfl (by omega) (by decide)) (ixU (j := 0 + i) rfl (by omega)) (ws' := [_, (_, .inl (_, _, .inl _))]) rfl (q := 22) dX10_copy_21 rfl ?_
      refine g_iinc (lv' := [(0, _), (1, _), (2, _), (3, _), (4, _)]) (v := nI (i + 1)) (q := 25) dX10_copy_22 rfl rfl (nI_inc _) (Nat.le_of_ble_eq_true rfl) rfl ?_
      refine g_goto (q := 3) dX10_copy_25 (by decide) ?_
      rw [← cpy_s f g 0 0 i] at ih3
      exact ih3
  · skip
    show G E _ [(aa, .inl (E.2.1.1, 47, .inl (f))), (bb, .inl (E.2.1.1, 94, .inl (va_cpy f g 0 0 47)))] 3 [(0, .ref aa), (1, .int (nI (0))), (2, .ref bb), (3, .int (nI (0))), (4, .int (nI (47)))] []
    refine g_iload (q := 5) dX10_copy_3 rfl rfl ?_
    refine g_bipush (v := nI 47) (q := 7) dX10_copy_5 rfl kb_47 ?_
    refine g_icmp_geN (t := 28) (q := 10) dX10_copy_7 (by decide) rfl (by omega) (by omega) (fun c7 => ?_) (fun c7 => ?_)
    · skip
      refine g_vret (st := []) dX10_copy_28 rfl rfl ?_
      exact xv
    · omega
set_option maxHeartbeats 2000000 in
set_option maxRecDepth 20000 in
theorem c_copy_k1 {E : EN} {aa bb : Nat} {f g : Nat → Int32}  : CT E yX10_copy cX10_copy 5 (none) 0 [.ref aa, .int (nI (0)), .ref bb, .int (nI (47))] [(aa, .inl (E.2.1.1, 47, .inl (f))), (bb, .inl (E.2.1.1, 94, .inl (g)))] (xQ none [(aa, .inl (E.2.1.1, 47, .inl (f))), (bb, .inl (E.2.1.1, 94, .inl (va_cpy f g 0 47 47)))]) := by
  refine ct_of (by decide +kernel) (Nat.le_of_ble_eq_true rfl) (lv := [(0, .ref aa), (1, .int (nI (0))), (2, .ref bb), (3, .int (nI (47)))]) rfl (fun A => ?_)
  refine g_iconst (v := nI 0) (q := 1) dX10_copy_0 rfl ki_0 ?_
  refine g_istore (lv' := [(0, _), (1, _), (2, _), (3, _), (4, _)]) (q := 3) dX10_copy_1 rfl (Nat.le_of_ble_eq_true rfl) rfl ?_
  refine g_eq (ws' := [(aa, .inl (E.2.1.1, 47, .inl (f))), (bb, .inl (E.2.1.1, 94, .inl (va_cpy f g 0 47 0)))]) ?_ (by rw [cpy_0]) rfl rfl
  refine g_loop (47) (fun i => [(aa, .inl (E.2.1.1, 47, .inl (f))), (bb, .inl (E.2.1.1, 94, .inl (va_cpy f g 0 47 i)))]) (fun i => [(0, .ref aa), (1, .int (nI (0))), (2, .ref bb), (3, .int (nI (47))), (4, .int (nI (i)))]) ?_ ?_ 0 (Nat.zero_le _)
  · intro i hi3 ih3
    show G E _ [(aa, .inl (E.2.1.1, 47, .inl (f))), (bb, .inl (E.2.1.1, 94, .inl (va_cpy f g 0 47 i)))] 3 [(0, .ref aa), (1, .int (nI (0))), (2, .ref bb), (3, .int (nI (47))), (4, .int (nI (i)))] []
    refine g_iload (q := 5) dX10_copy_3 rfl rfl ?_
    refine g_bipush (v := nI 47) (q := 7) dX10_copy_5 rfl kb_47 ?_
    refine g_icmp_geN (t := 28) (q := 10) dX10_copy_7 (by decide) rfl (by omega) (by omega) (fun c7 => ?_) (fun c7 => ?_)
    · omega
    · skip
      refine g_aload_n (q := 11) dX10_copy_10 rfl rfl rfl ?_
      refine g_iload_n (q := 12) dX10_copy_11 rfl rfl rfl ?_
      refine g_iload (q := 14) dX10_copy_12 rfl rfl ?_
      refine g_iaddN (q := 15) dX10_copy_14 rfl ?_
      refine g_aload_n (q := 16) dX10_copy_15 rfl rfl rfl ?_
      refine g_iload_n (q := 17) dX10_copy_16 rfl rfl rfl ?_
      refine g_iload (q := 19) dX10_copy_17 rfl rfl ?_
      refine g_iaddN (q := 20) dX10_copy_19 rfl ?_
      refine g_iald (v := f (0 + i)) 0 rfl (ixIn (j := 0 + i) rfl (by omega) (by decide)) (ixV (j := 0 + i) rfl (by omega)) (q := 21) dX10_copy_20 rfl ?_
      refine g_iast (f' := (upd (va_cpy f g 0 47 i) (47 + i) (f (0 + i)))) 1 rfl (ixIn (j := 47 + i) rfl (by omega) (by decide)) (ixU (j := 47 + i) rfl (by omega)) (ws' := [_, (_, .inl (_, _, .inl _))]) rfl (q := 22) dX10_copy_21 rfl ?_
      refine g_iinc (lv' := [(0, _), (1, _), (2, _), (3, _), (4, _)]) (v := nI (i + 1)) (q := 25) dX10_copy_22 rfl rfl (nI_inc _) (Nat.le_of_ble_eq_true rfl) rfl ?_
      refine g_goto (q := 3) dX10_copy_25 (by decide) ?_
      rw [← cpy_s f g 0 47 i] at ih3
      exact ih3
  · skip
    show G E _ [(aa, .inl (E.2.1.1, 47, .inl (f))), (bb, .inl (E.2.1.1, 94, .inl (va_cpy f g 0 47 47)))] 3 [(0, .ref aa), (1, .int (nI (0))), (2, .ref bb), (3, .int (nI (47))), (4, .int (nI (47)))] []
    refine g_iload (q := 5) dX10_copy_3 rfl rfl ?_
    refine g_bipush (v := nI 47) (q := 7) dX10_copy_5 rfl kb_47 ?_
    refine g_icmp_geN (t := 28) (q := 10) dX10_copy_7 (by decide) rfl (by omega) (by omega) (fun c7 => ?_) (fun c7 => ?_)
    · skip
      refine g_vret (st := []) dX10_copy_28 rfl rfl ?_
      exact xv
    · omega
set_option maxHeartbeats 2000000 in
set_option maxRecDepth 20000 in
theorem c_copy_b0 {E : EN} {aa bb : Nat} {f g : Nat → Int32}  : CT E yX10_copy cX10_copy 5 (none) 0 [.ref aa, .int (nI (0)), .ref bb, .int (nI (0))] [(aa, .inl (E.2.1.1, 94, .inl (f))), (bb, .inl (E.2.1.1, 47, .inl (g)))] (xQ none [(aa, .inl (E.2.1.1, 94, .inl (f))), (bb, .inl (E.2.1.1, 47, .inl (va_cpy f g 0 0 47)))]) := by
  refine ct_of (by decide +kernel) (Nat.le_of_ble_eq_true rfl) (lv := [(0, .ref aa), (1, .int (nI (0))), (2, .ref bb), (3, .int (nI (0)))]) rfl (fun A => ?_)
  refine g_iconst (v := nI 0) (q := 1) dX10_copy_0 rfl ki_0 ?_
  refine g_istore (lv' := [(0, _), (1, _), (2, _), (3, _), (4, _)]) (q := 3) dX10_copy_1 rfl (Nat.le_of_ble_eq_true rfl) rfl ?_
  refine g_eq (ws' := [(aa, .inl (E.2.1.1, 94, .inl (f))), (bb, .inl (E.2.1.1, 47, .inl (va_cpy f g 0 0 0)))]) ?_ (by rw [cpy_0]) rfl rfl
  refine g_loop (47) (fun i => [(aa, .inl (E.2.1.1, 94, .inl (f))), (bb, .inl (E.2.1.1, 47, .inl (va_cpy f g 0 0 i)))]) (fun i => [(0, .ref aa), (1, .int (nI (0))), (2, .ref bb), (3, .int (nI (0))), (4, .int (nI (i)))]) ?_ ?_ 0 (Nat.zero_le _)
  · intro i hi3 ih3
    show G E _ [(aa, .inl (E.2.1.1, 94, .inl (f))), (bb, .inl (E.2.1.1, 47, .inl (va_cpy f g 0 0 i)))] 3 [(0, .ref aa), (1, .int (nI (0))), (2, .ref bb), (3, .int (nI (0))), (4, .int (nI (i)))] []
    refine g_iload (q := 5) dX10_copy_3 rfl rfl ?_
    refine g_bipush (v := nI 47) (q := 7) dX10_copy_5 rfl kb_47 ?_
    refine g_icmp_geN (t := 28) (q := 10) dX10_copy_7 (by decide) rfl (by omega) (by omega) (fun c7 => ?_) (fun c7 => ?_)
    · omega
    · skip
      refine g_aload_n (q := 11) dX10_copy_10 rfl rfl rfl ?_
      refine g_iload_n (q := 12) dX10_copy_11 rfl rfl rfl ?_
      refine g_iload (q := 14) dX10_copy_12 rfl rfl ?_
      refine g_iaddN (q := 15) dX10_copy_14 rfl ?_
      refine g_aload_n (q := 16) dX10_copy_15 rfl rfl rfl ?_
      refine g_iload_n (q := 17) dX10_copy_16 rfl rfl rfl ?_
      refine g_iload (q := 19) dX10_copy_17 rfl rfl ?_
      refine g_iaddN (q := 20) dX10_copy_19 rfl ?_
      refine g_iald (v := f (0 + i)) 0 rfl (ixIn (j := 0 + i) rfl (by omega) (by decide)) (ixV (j := 0 + i) rfl (by omega)) (q := 21) dX10_copy_20 rfl ?_
      refine g_iast (f' := (upd (va_cpy f g 0 0 i) (0 + i) (f (0 + i)))) 1 rfl (ixIn (j := 0 + i) rfl (by omega) (by decide)) (ixU (j := 0 + i) rfl (by omega)) (ws' := [_, (_, .inl (_, _, .inl _))]) rfl (q := 22) dX10_copy_21 rfl ?_
      refine g_iinc (lv' := [(0, _), (1, _), (2, _), (3, _), (4, _)]) (v := nI (i + 1)) (q := 25) dX10_copy_22 rfl rfl (nI_inc _) (Nat.le_of_ble_eq_true rfl) rfl ?_
      refine g_goto (q := 3) dX10_copy_25 (by decide) ?_
      rw [← cpy_s f g 0 0 i] at ih3
      exact ih3
  · skip
    show G E _ [(aa, .inl (E.2.1.1, 94, .inl (f))), (bb, .inl (E.2.1.1, 47, .inl (va_cpy f g 0 0 47)))] 3 [(0, .ref aa), (1, .int (nI (0))), (2, .ref bb), (3, .int (nI (0))), (4, .int (nI (47)))] []
    refine g_iload (q := 5) dX10_copy_3 rfl rfl ?_
    refine g_bipush (v := nI 47) (q := 7) dX10_copy_5 rfl kb_47 ?_
    refine g_icmp_geN (t := 28) (q := 10) dX10_copy_7 (by decide) rfl (by omega) (by omega) (fun c7 => ?_) (fun c7 => ?_)
    · skip
      refine g_vret (st := []) dX10_copy_28 rfl rfl ?_
      exact xv
    · omega
set_option maxHeartbeats 2000000 in
set_option maxRecDepth 20000 in
theorem c_copy_b1 {E : EN} {aa bb : Nat} {f g : Nat → Int32}  : CT E yX10_copy cX10_copy 5 (none) 0 [.ref aa, .int (nI (47)), .ref bb, .int (nI (0))] [(aa, .inl (E.2.1.1, 94, .inl (f))), (bb, .inl (E.2.1.1, 47, .inl (g)))] (xQ none [(aa, .inl (E.2.1.1, 94, .inl (f))), (bb, .inl (E.2.1.1, 47, .inl (va_cpy f g 47 0 47)))]) := by
  refine ct_of (by decide +kernel) (Nat.le_of_ble_eq_true rfl) (lv := [(0, .ref aa), (1, .int (nI (47))), (2, .ref bb), (3, .int (nI (0)))]) rfl (fun A => ?_)
  refine g_iconst (v := nI 0) (q := 1) dX10_copy_0 rfl ki_0 ?_
  refine g_istore (lv' := [(0, _), (1, _), (2, _), (3, _), (4, _)]) (q := 3) dX10_copy_1 rfl (Nat.le_of_ble_eq_true rfl) rfl ?_
  refine g_eq (ws' := [(aa, .inl (E.2.1.1, 94, .inl (f))), (bb, .inl (E.2.1.1, 47, .inl (va_cpy f g 47 0 0)))]) ?_ (by rw [cpy_0]) rfl rfl
  refine g_loop (47) (fun i => [(aa, .inl (E.2.1.1, 94, .inl (f))), (bb, .inl (E.2.1.1, 47, .inl (va_cpy f g 47 0 i)))]) (fun i => [(0, .ref aa), (1, .int (nI (47))), (2, .ref bb), (3, .int (nI (0))), (4, .int (nI (i)))]) ?_ ?_ 0 (Nat.zero_le _)
  · intro i hi3 ih3
    show G E _ [(aa, .inl (E.2.1.1, 94, .inl (f))), (bb, .inl (E.2.1.1, 47, .inl (va_cpy f g 47 0 i)))] 3 [(0, .ref aa), (1, .int (nI (47))), (2, .ref bb), (3, .int (nI (0))), (4, .int (nI (i)))] []
    refine g_iload (q := 5) dX10_copy_3 rfl rfl ?_
    refine g_bipush (v := nI 47) (q := 7) dX10_copy_5 rfl kb_47 ?_
    refine g_icmp_geN (t := 28) (q := 10) dX10_copy_7 (by decide) rfl (by omega) (by omega) (fun c7 => ?_) (fun c7 => ?_)
    · omega
    · skip
      refine g_aload_n (q := 11) dX10_copy_10 rfl rfl rfl ?_
      refine g_iload_n (q := 12) dX10_copy_11 rfl rfl rfl ?_
      refine g_iload (q := 14) dX10_copy_12 rfl rfl ?_
      refine g_iaddN (q := 15) dX10_copy_14 rfl ?_
      refine g_aload_n (q := 16) dX10_copy_15 rfl rfl rfl ?_
      refine g_iload_n (q := 17) dX10_copy_16 rfl rfl rfl ?_
      refine g_iload (q := 19) dX10_copy_17 rfl rfl ?_
      refine g_iaddN (q := 20) dX10_copy_19 rfl ?_
      refine g_iald (v := f (47 + i)) 0 rfl (ixIn (j := 47 + i) rfl (by omega) (by decide)) (ixV (j := 47 + i) rfl (by omega)) (q := 21) dX10_copy_20 rfl ?_
      refine g_iast (f' := (upd (va_cpy f g 47 0 i) (0 + i) (f (47 + i)))) 1 rfl (ixIn (j := 0 + i) rfl (by omega) (by decide)) (ixU (j := 0 + i) rfl (by omega)) (ws' := [_, (_, .inl (_, _, .inl _))]) rfl (q := 22) dX10_copy_21 rfl ?_
      refine g_iinc (lv' := [(0, _), (1, _), (2, _), (3, _), (4, _)]) (v := nI (i + 1)) (q := 25) dX10_copy_22 rfl rfl (nI_inc _) (Nat.le_of_ble_eq_true rfl) rfl ?_
      refine g_goto (q := 3) dX10_copy_25 (by decide) ?_
      rw [← cpy_s f g 47 0 i] at ih3
      exact ih3
  · skip
    show G E _ [(aa, .inl (E.2.1.1, 94, .inl (f))), (bb, .inl (E.2.1.1, 47, .inl (va_cpy f g 47 0 47)))] 3 [(0, .ref aa), (1, .int (nI (47))), (2, .ref bb), (3, .int (nI (0))), (4, .int (nI (47)))] []
    refine g_iload (q := 5) dX10_copy_3 rfl rfl ?_
    refine g_bipush (v := nI 47) (q := 7) dX10_copy_5 rfl kb_47 ?_
    refine g_icmp_geN (t := 28) (q := 10) dX10_copy_7 (by decide) rfl (by omega) (by omega) (fun c7 => ?_) (fun c7 => ?_)
    · skip
      refine g_vret (st := []) dX10_copy_28 rfl rfl ?_
      exact xv
    · omega
set_option maxHeartbeats 2000000 in
set_option maxRecDepth 20000 in
theorem c_mgo {E : EN} {m0 mt mk mb mx mr mn ma mi mj mg ms md mc me mh mo mw nt nb lw sl tl en sn dn : Nat} {po ta dg nu fa rm_ rto rbo ga : Int32} {tk : Int64} {kd tw wt sk gr : Nat → Nat} {ch : Nat → Int32} {yr : Nat} {cr rt fd nx : Nat → Nat} {wn : Nat → Int32} {eb eg : Nat → Nat} {x : Int32} (hyr : yr < 2000) (hP : okL ((nb, nt, lw), kd, cr, rt, fd, nx)) (hY : okY (tw, wt, sk, gr, ch)) (hB : okB nb nt (tw, wt, sk, gr, ch))  : CT E yX10_go cX10_go 3 (some .int) 5 [.ref m0, .int (x)] [(m0, .inr (10, (.int (nI (nt)) :: .ref mt :: .int (nI (nb)) :: .ref mk :: .ref mb :: .int (nI (lw)) :: .int (nI (sl)) :: .int (nI (tl)) :: .ref mx :: .int (po) :: .int (ta) :: .long (tk) :: .int (dg) :: .int (nu) :: .int (fa) :: .int (rm_) :: .int (rto) :: .int (rbo) :: .ref mr :: .ref mn :: .ref ma :: .ref mi :: .ref mj :: .int (nI (en)) :: .ref mg :: .int (nI (sn)) :: .ref ms :: .int (nI (dn)) :: .ref md :: .ref mc :: .ref me :: .int (ga) :: .ref mh :: .ref mo :: .ref mw :: []))), (mk, .inl (E.2.1.1, 10, .inl (nA (kd)))), (mn, .inl (E.2.1.1, 47, .inl (nowF tw wt sk gr ch yr))), (mt, .inl (E.2.1.1, 30, .inl (townF cr rt fd wn nx))), (mg, .inl (E.2.1.1, 10, .inl (oA (gsE eb eg en))))] (xQ (some (.int (opGo ((nb, nt, lw), kd, cr, rt, fd, nx) (tw, wt, sk, gr, ch) yr en x).1)) [(m0, .inr (10, (.int (nI (nt)) :: .ref mt :: .int (nI (nb)) :: .ref mk :: .ref mb :: .int (nI (lw)) :: .int (nI (sl)) :: .int (nI (tl)) :: .ref mx :: .int (po) :: .int (ta) :: .long (tk) :: .int (dg) :: .int (nu) :: .int (fa) :: .int (rm_) :: .int (rto) :: .int (rbo) :: .ref mr :: .ref mn :: .ref ma :: .ref mi :: .ref mj :: .int (nI ((opGo ((nb, nt, lw), kd, cr, rt, fd, nx) (tw, wt, sk, gr, ch) yr en x).2.2.2)) :: .ref mg :: .int (nI (sn)) :: .ref ms :: .int (nI (dn)) :: .ref md :: .ref mc :: .ref me :: .int (ga) :: .ref mh :: .ref mo :: .ref mw :: []))), (mk, .inl (E.2.1.1, 10, .inl (nA (kd)))), (mn, .inl (E.2.1.1, 47, .inl (nowF ((opGo ((nb, nt, lw), kd, cr, rt, fd, nx) (tw, wt, sk, gr, ch) yr en x).2.1.1) ((opGo ((nb, nt, lw), kd, cr, rt, fd, nx) (tw, wt, sk, gr, ch) yr en x).2.1.2.1) ((opGo ((nb, nt, lw), kd, cr, rt, fd, nx) (tw, wt, sk, gr, ch) yr en x).2.1.2.2.1) ((opGo ((nb, nt, lw), kd, cr, rt, fd, nx) (tw, wt, sk, gr, ch) yr en x).2.1.2.2.2.1) ((opGo ((nb, nt, lw), kd, cr, rt, fd, nx) (tw, wt, sk, gr, ch) yr en x).2.1.2.2.2.2) ((opGo ((nb, nt, lw), kd, cr, rt, fd, nx) (tw, wt, sk, gr, ch) yr en x).2.2.1)))), (mt, .inl (E.2.1.1, 30, .inl (townF cr rt fd wn nx))), (mg, .inl (E.2.1.1, 10, .inl (oA (gsE eb eg (opGo ((nb, nt, lw), kd, cr, rt, fd, nx) (tw, wt, sk, gr, ch) yr en x).2.2.2))))]) := by
  refine ct_of (by decide +kernel) (Nat.le_of_ble_eq_true rfl) (lv := [(0, .ref m0), (1, .int (x))]) rfl (fun A => ?_)
  refine g_iload_n (q := 1) dX10_go_0 rfl rfl rfl ?_
  refine g_iconst (v := nI 1) (q := 2) dX10_go_1 rfl ki_1 ?_
  refine g_bipush (v := nI 99) (q := 4) dX10_go_2 rfl kb_99 ?_
  refine gc_X10_73 (c_in) rfl (Nat.le_of_ble_eq_true rfl) rfl [] rfl rfl (rest := []) rfl (Nat.le_of_ble_eq_true rfl) (q := 7) dX10_go_4 rfl (exK (ws' := [_, _, _, _, _]) (st' := [.int (bI (!ninB x (nI 1) (nI 99)))]) rfl rfl ?_)
  refine g_top (y := bI (rn x 1 99).isSome) (by rw [ninB_rn (by decide) (by decide), not_isNone]) ?_
  refine g_if_ne (t := 13) (q := 10) dX10_go_7 (by decide) rfl (fun c7 => ?_) (fun c7 => ?_)
  · obtain ⟨n, hn⟩ := isSome_t (bI_ne0.mp c7)
    obtain ⟨hn1, hn2, rfl⟩ := rn_some hn
    refine g_aload_n (q := 14) dX10_go_13 rfl rfl rfl ?_
    refine gf_X10_29 rfl 0 rfl rfl (q := 17) dX10_go_14 rfl ?_
    refine g_bipush (v := nI 46) (q := 19) dX10_go_17 rfl kb_46 ?_
    refine g_iald (v := nI (yr)) 2 rfl (ixIn (j := 46) rfl (by omega) (by decide)) ((ixV (j := 46) rfl (by omega)).trans nowF_y) (q := 20) dX10_go_19 rfl ?_
    refine g_iload_n (q := 21) dX10_go_20 rfl rfl rfl ?_
    refine g_iaddN (q := 22) dX10_go_21 rfl ?_
    refine g_sipush (v := nI 999) (q := 25) dX10_go_22 rfl ks_999 ?_
    refine g_icmp_leN (t := 31) (q := 28) dX10_go_25 (by decide) rfl (by omega) (by omega) (fun c25 => ?_) (fun c25 => ?_)
    · skip
      refine g_iconst (v := nI 0) (q := 32) dX10_go_31 rfl ki_0 ?_
      refine g_istore_n (lv' := [(0, _), (1, _), (2, _)]) (q := 33) dX10_go_32 rfl rfl (Nat.le_of_ble_eq_true rfl) rfl ?_
      refine g_eq (ws' := [(m0, .inr (10, (.int (nI (nt)) :: .ref mt :: .int (nI (nb)) :: .ref mk :: .ref mb :: .int (nI (lw)) :: .int (nI (sl)) :: .int (nI (tl)) :: .ref mx :: .int (po) :: .int (ta) :: .long (tk) :: .int (dg) :: .int (nu) :: .int (fa) :: .int (rm_) :: .int (rto) :: .int (rbo) :: .ref mr :: .ref mn :: .ref ma :: .ref mi :: .ref mj :: .int (nI (if 0 = 0 then en else 0)) :: .ref mg :: .int (nI (sn)) :: .ref ms :: .int (nI (dn)) :: .ref md :: .ref mc :: .ref me :: .int (ga) :: .ref mh :: .ref mo :: .ref mw :: []))), (mk, .inl (E.2.1.1, 10, .inl (nA (kd)))), (mn, .inl (E.2.1.1, 47, .inl (nowF ((years ((nb, nt, lw), kd, cr, rt, fd, nx) 0 (tw, wt, sk, gr, ch)).1) ((years ((nb, nt, lw), kd, cr, rt, fd, nx) 0 (tw, wt, sk, gr, ch)).2.1) ((years ((nb, nt, lw), kd, cr, rt, fd, nx) 0 (tw, wt, sk, gr, ch)).2.2.1) ((years ((nb, nt, lw), kd, cr, rt, fd, nx) 0 (tw, wt, sk, gr, ch)).2.2.2.1) ((years ((nb, nt, lw), kd, cr, rt, fd, nx) 0 (tw, wt, sk, gr, ch)).2.2.2.2) (yr + 0)))), (mt, .inl (E.2.1.1, 30, .inl (townF cr rt fd wn nx))), (mg, .inl (E.2.1.1, 10, .inl (oA (if 0 = 0 then gsE eb eg en else fun _ => none))))]) ?_ (rfl) rfl rfl
      refine g_loop (n) (fun i => [(m0, .inr (10, (.int (nI (nt)) :: .ref mt :: .int (nI (nb)) :: .ref mk :: .ref mb :: .int (nI (lw)) :: .int (nI (sl)) :: .int (nI (tl)) :: .ref mx :: .int (po) :: .int (ta) :: .long (tk) :: .int (dg) :: .int (nu) :: .int (fa) :: .int (rm_) :: .int (rto) :: .int (rbo) :: .ref mr :: .ref mn :: .ref ma :: .ref mi :: .ref mj :: .int (nI (if i = 0 then en else 0)) :: .ref mg :: .int (nI (sn)) :: .ref ms :: .int (nI (dn)) :: .ref md :: .ref mc :: .ref me :: .int (ga) :: .ref mh :: .ref mo :: .ref mw :: []))), (mk, .inl (E.2.1.1, 10, .inl (nA (kd)))), (mn, .inl (E.2.1.1, 47, .inl (nowF ((years ((nb, nt, lw), kd, cr, rt, fd, nx) i (tw, wt, sk, gr, ch)).1) ((years ((nb, nt, lw), kd, cr, rt, fd, nx) i (tw, wt, sk, gr, ch)).2.1) ((years ((nb, nt, lw), kd, cr, rt, fd, nx) i (tw, wt, sk, gr, ch)).2.2.1) ((years ((nb, nt, lw), kd, cr, rt, fd, nx) i (tw, wt, sk, gr, ch)).2.2.2.1) ((years ((nb, nt, lw), kd, cr, rt, fd, nx) i (tw, wt, sk, gr, ch)).2.2.2.2) (yr + i)))), (mt, .inl (E.2.1.1, 30, .inl (townF cr rt fd wn nx))), (mg, .inl (E.2.1.1, 10, .inl (oA (if i = 0 then gsE eb eg en else fun _ => none))))]) (fun i => [(0, .ref m0), (1, .int (nI (n))), (2, .int (nI (i)))]) ?_ ?_ 0 (Nat.zero_le _)
      · intro i hi33 ih33
        have hI := years_ok hP hY hB i
        simp only [years, Nat.add_one_ne_zero, if_false] at ih33
        generalize years ((nb, nt, lw), kd, cr, rt, fd, nx) i (tw, wt, sk, gr, ch) = ys at hI ih33 ⊢
        generalize (if i = 0 then en else 0) = en1
        generalize (if i = 0 then gsE eb eg en else fun _ => none) = g1
        obtain ⟨tw1, wt1, sk1, gr1, ch1⟩ := ys
        obtain ⟨hY1, hB1⟩ := hI
        show G E _ [(m0, .inr (10, (.int (nI (nt)) :: .ref mt :: .int (nI (nb)) :: .ref mk :: .ref mb :: .int (nI (lw)) :: .int (nI (sl)) :: .int (nI (tl)) :: .ref mx :: .int (po) :: .int (ta) :: .long (tk) :: .int (dg) :: .int (nu) :: .int (fa) :: .int (rm_) :: .int (rto) :: .int (rbo) :: .ref mr :: .ref mn :: .ref ma :: .ref mi :: .ref mj :: .int (nI (en1)) :: .ref mg :: .int (nI (sn)) :: .ref ms :: .int (nI (dn)) :: .ref md :: .ref mc :: .ref me :: .int (ga) :: .ref mh :: .ref mo :: .ref mw :: []))), (mk, .inl (E.2.1.1, 10, .inl (nA (kd)))), (mn, .inl (E.2.1.1, 47, .inl (nowF tw1 wt1 sk1 gr1 ch1 (yr + i)))), (mt, .inl (E.2.1.1, 30, .inl (townF cr rt fd wn nx))), (mg, .inl (E.2.1.1, 10, .inl (oA (g1))))] 33 [(0, .ref m0), (1, .int (nI (n))), (2, .int (nI (i)))] []
        refine g_iload_n (q := 34) dX10_go_33 rfl rfl rfl ?_
        refine g_iload_n (q := 35) dX10_go_34 rfl rfl rfl ?_
        refine g_icmp_geN (t := 48) (q := 38) dX10_go_35 (by decide) rfl (by omega) (by omega) (fun c35 => ?_) (fun c35 => ?_)
        · omega
        · skip
          refine g_aload_n (q := 39) dX10_go_38 rfl rfl rfl ?_
          refine gc_X10_250 (c_goYear hP hY1 hB1) rfl (Nat.le_of_ble_eq_true rfl) rfl 0 rfl [0, 1, 2, 3, 4] rfl rfl (rest := []) rfl (Nat.le_of_ble_eq_true rfl) (q := 42) dX10_go_39 rfl (exK (ws' := [(_, .inr (_, (_ :: _ :: _ :: _ :: _ :: _ :: _ :: _ :: _ :: _ :: _ :: _ :: _ :: _ :: _ :: _ :: _ :: _ :: _ :: _ :: _ :: _ :: _ :: _ :: _ :: _ :: _ :: _ :: _ :: _ :: _ :: _ :: _ :: _ :: _ :: []))), (_, .inl (_, _, .inl _)), (_, .inl (_, _, .inl _)), (_, .inl (_, _, .inl _)), (_, .inl (_, _, .inl _))]) (st' := []) rfl rfl ?_)
          refine g_iinc (lv' := [(0, _), (1, _), (2, _)]) (v := nI (i + 1)) (q := 45) dX10_go_42 rfl rfl (nI_inc _) (Nat.le_of_ble_eq_true rfl) rfl ?_
          refine g_goto (q := 33) dX10_go_45 (by decide) ?_
          exact ih33
      · skip
        show G E _ [(m0, .inr (10, (.int (nI (nt)) :: .ref mt :: .int (nI (nb)) :: .ref mk :: .ref mb :: .int (nI (lw)) :: .int (nI (sl)) :: .int (nI (tl)) :: .ref mx :: .int (po) :: .int (ta) :: .long (tk) :: .int (dg) :: .int (nu) :: .int (fa) :: .int (rm_) :: .int (rto) :: .int (rbo) :: .ref mr :: .ref mn :: .ref ma :: .ref mi :: .ref mj :: .int (nI (if n = 0 then en else 0)) :: .ref mg :: .int (nI (sn)) :: .ref ms :: .int (nI (dn)) :: .ref md :: .ref mc :: .ref me :: .int (ga) :: .ref mh :: .ref mo :: .ref mw :: []))), (mk, .inl (E.2.1.1, 10, .inl (nA (kd)))), (mn, .inl (E.2.1.1, 47, .inl (nowF ((years ((nb, nt, lw), kd, cr, rt, fd, nx) n (tw, wt, sk, gr, ch)).1) ((years ((nb, nt, lw), kd, cr, rt, fd, nx) n (tw, wt, sk, gr, ch)).2.1) ((years ((nb, nt, lw), kd, cr, rt, fd, nx) n (tw, wt, sk, gr, ch)).2.2.1) ((years ((nb, nt, lw), kd, cr, rt, fd, nx) n (tw, wt, sk, gr, ch)).2.2.2.1) ((years ((nb, nt, lw), kd, cr, rt, fd, nx) n (tw, wt, sk, gr, ch)).2.2.2.2) (yr + n)))), (mt, .inl (E.2.1.1, 30, .inl (townF cr rt fd wn nx))), (mg, .inl (E.2.1.1, 10, .inl (oA (if n = 0 then gsE eb eg en else fun _ => none))))] 33 [(0, .ref m0), (1, .int (nI (n))), (2, .int (nI (n)))] []
        refine g_iload_n (q := 34) dX10_go_33 rfl rfl rfl ?_
        refine g_iload_n (q := 35) dX10_go_34 rfl rfl rfl ?_
        refine g_icmp_geN (t := 48) (q := 38) dX10_go_35 (by decide) rfl (by omega) (by omega) (fun c35 => ?_) (fun c35 => ?_)
        · skip
          refine g_aload_n (q := 49) dX10_go_48 rfl rfl rfl ?_
          refine gf_X10_29 rfl 0 rfl rfl (q := 52) dX10_go_49 rfl ?_
          refine g_bipush (v := nI 46) (q := 54) dX10_go_52 rfl kb_46 ?_
          refine g_iald (v := nI (yr + n)) 2 rfl (ixIn (j := 46) rfl (by omega) (by decide)) ((ixV (j := 46) rfl (by omega)).trans nowF_y) (q := 55) dX10_go_54 rfl ?_
          refine g_iret (st := []) dX10_go_55 rfl rfl rfl ?_
          simp only [opGo, hn, if_neg (show ¬ 999 < yr + n by omega)]
          rw [if_neg (show ¬ n = 0 by omega), if_neg (show ¬ n = 0 by omega)]
          exact ⟨rfl, rfl⟩
        · omega
    · skip
      refine g_bipush (v := (-5)) (q := 30) dX10_go_28 rfl kb_m5 ?_
      refine g_iret (st := []) dX10_go_30 rfl rfl rfl ?_
      simp only [opGo, hn, if_pos (show 999 < yr + n by omega)]
      exact ⟨rfl, rfl⟩
  · have nn := isSome_f (bI_eq0.mp c7)
    refine g_bipush (v := (-3)) (q := 12) dX10_go_10 rfl kb_m3 ?_
    refine g_iret (st := []) dX10_go_12 rfl rfl rfl ?_
    simp only [opGo, nn]
    exact ⟨rfl, rfl⟩
set_option maxHeartbeats 2000000 in
set_option maxRecDepth 20000 in
theorem c_goAside {E : EN} {m0 mt mk mb mx mr mn ma mi mj mg ms md mc me mh mo mw nt nb lw sl tl en sn dn : Nat} {po ta dg nu fa rm_ rto rbo ga : Int32} {tk : Int64} {kd tw wt sk gr : Nat → Nat} {ch : Nat → Int32} {yr : Nat} {cr rt fd nx : Nat → Nat} {wn : Nat → Int32} {g : Nat → Option Nat} {as_ gh : Nat → Int32} {n : Nat} (hn : n < 1000) (hP : okL ((nb, nt, lw), kd, cr, rt, fd, nx)) (hY : okY (tw, wt, sk, gr, ch)) (hB : okB nb nt (tw, wt, sk, gr, ch))  : CT E yX10_goAside cX10_goAside 3 (none) 5 [.ref m0, .int (nI (n))] [(m0, .inr (10, (.int (nI (nt)) :: .ref mt :: .int (nI (nb)) :: .ref mk :: .ref mb :: .int (nI (lw)) :: .int (nI (sl)) :: .int (nI (tl)) :: .ref mx :: .int (po) :: .int (ta) :: .long (tk) :: .int (dg) :: .int (nu) :: .int (fa) :: .int (rm_) :: .int (rto) :: .int (rbo) :: .ref mr :: .ref mn :: .ref ma :: .ref mi :: .ref mj :: .int (nI (en)) :: .ref mg :: .int (nI (sn)) :: .ref ms :: .int (nI (dn)) :: .ref md :: .ref mc :: .ref me :: .int (ga) :: .ref mh :: .ref mo :: .ref mw :: []))), (mk, .inl (E.2.1.1, 10, .inl (nA (kd)))), (mn, .inl (E.2.1.1, 47, .inl (nowF tw wt sk gr ch yr))), (ma, .inl (E.2.1.1, 47, .inl (as_))), (mt, .inl (E.2.1.1, 30, .inl (townF cr rt fd wn nx))), (mg, .inl (E.2.1.1, 10, .inl (oA (g)))), (mh, .inl (E.2.1.1, 10, .inl (gh)))] (xQ none [(m0, .inr (10, (.int (nI (nt)) :: .ref mt :: .int (nI (nb)) :: .ref mk :: .ref mb :: .int (nI (lw)) :: .int (nI (sl)) :: .int (nI (tl)) :: .ref mx :: .int (po) :: .int (ta) :: .long (tk) :: .int (dg) :: .int (nu) :: .int (fa) :: .int (rm_) :: .int (rto) :: .int (rbo) :: .ref mr :: .ref mn :: .ref ma :: .ref mi :: .ref mj :: .int (nI (if n = 0 then en else 0)) :: .ref mg :: .int (nI (sn)) :: .ref ms :: .int (nI (dn)) :: .ref md :: .ref mc :: .ref me :: .int (nI en) :: .ref mh :: .ref mo :: .ref mw :: []))), (mk, .inl (E.2.1.1, 10, .inl (nA (kd)))), (mn, .inl (E.2.1.1, 47, .inl (nowF ((years ((nb, nt, lw), kd, cr, rt, fd, nx) n (tw, wt, sk, gr, ch)).1) ((years ((nb, nt, lw), kd, cr, rt, fd, nx) n (tw, wt, sk, gr, ch)).2.1) ((years ((nb, nt, lw), kd, cr, rt, fd, nx) n (tw, wt, sk, gr, ch)).2.2.1) ((years ((nb, nt, lw), kd, cr, rt, fd, nx) n (tw, wt, sk, gr, ch)).2.2.2.1) ((years ((nb, nt, lw), kd, cr, rt, fd, nx) n (tw, wt, sk, gr, ch)).2.2.2.2) (yr + n)))), (ma, .inl (E.2.1.1, 47, .inl (nowF tw wt sk gr ch yr))), (mt, .inl (E.2.1.1, 30, .inl (townF cr rt fd wn nx))), (mg, .inl (E.2.1.1, 10, .inl (oA (if n = 0 then g else fun _ => none)))), (mh, .inl (E.2.1.1, 10, .inl (oA g)))]) := by
  refine ct_of (by decide +kernel) (Nat.le_of_ble_eq_true rfl) (lv := [(0, .ref m0), (1, .int (nI (n)))]) rfl (fun A => ?_)
  refine g_aload_n (q := 1) dX10_goAside_0 rfl rfl rfl ?_
  refine gf_X10_29 rfl 0 rfl rfl (q := 4) dX10_goAside_1 rfl ?_
  refine g_iconst (v := nI 0) (q := 5) dX10_goAside_4 rfl ki_0 ?_
  refine g_aload_n (q := 6) dX10_goAside_5 rfl rfl rfl ?_
  refine gf_X10_32 rfl 0 rfl rfl (q := 9) dX10_goAside_6 rfl ?_
  refine g_iconst (v := nI 0) (q := 10) dX10_goAside_9 rfl ki_0 ?_
  refine gc_X10_253 (c_copy_a) rfl (Nat.le_of_ble_eq_true rfl) rfl [2, 3] rfl rfl (rest := []) rfl (Nat.le_of_ble_eq_true rfl) (q := 13) dX10_goAside_10 rfl (exK (ws' := [_, _, (_, .inl (_, _, .inl _)), (_, .inl (_, _, .inl _)), _, _, _]) (st' := []) rfl rfl ?_)
  refine g_cong (nowF tw wt sk gr ch yr) 3 rfl (fun j hj => cp_all _ _ j hj) (ws' := [_, _, _, (_, .inl (_, _, .inl _)), _, _, _]) rfl ?_
  refine g_aload_n (q := 14) dX10_goAside_13 rfl rfl rfl ?_
  refine g_aload_n (q := 15) dX10_goAside_14 rfl rfl rfl ?_
  refine gf_X10_86 rfl 0 rfl rfl (q := 18) dX10_goAside_15 rfl ?_
  refine pf_X10_257 rfl 0 rfl (Nat.le_of_ble_eq_true rfl) (ws' := [(_, .inr (_, (_ :: _ :: _ :: _ :: _ :: _ :: _ :: _ :: _ :: _ :: _ :: _ :: _ :: _ :: _ :: _ :: _ :: _ :: _ :: _ :: _ :: _ :: _ :: _ :: _ :: _ :: _ :: _ :: _ :: _ :: _ :: _ :: _ :: _ :: _ :: []))), _, _, _, _, _, _]) rfl (q := 21) dX10_goAside_18 rfl ?_
  refine g_iconst (v := nI 0) (q := 22) dX10_goAside_21 rfl ki_0 ?_
  refine g_istore_n (lv' := [(0, _), (1, _), (2, _)]) (q := 23) dX10_goAside_22 rfl rfl (Nat.le_of_ble_eq_true rfl) rfl ?_
  refine g_eq (ws' := [(m0, .inr (10, (.int (nI (nt)) :: .ref mt :: .int (nI (nb)) :: .ref mk :: .ref mb :: .int (nI (lw)) :: .int (nI (sl)) :: .int (nI (tl)) :: .ref mx :: .int (po) :: .int (ta) :: .long (tk) :: .int (dg) :: .int (nu) :: .int (fa) :: .int (rm_) :: .int (rto) :: .int (rbo) :: .ref mr :: .ref mn :: .ref ma :: .ref mi :: .ref mj :: .int (nI (en)) :: .ref mg :: .int (nI (sn)) :: .ref ms :: .int (nI (dn)) :: .ref md :: .ref mc :: .ref me :: .int (nI en) :: .ref mh :: .ref mo :: .ref mw :: []))), (mk, .inl (E.2.1.1, 10, .inl (nA (kd)))), (mn, .inl (E.2.1.1, 47, .inl (nowF tw wt sk gr ch yr))), (ma, .inl (E.2.1.1, 47, .inl (nowF tw wt sk gr ch yr))), (mt, .inl (E.2.1.1, 30, .inl (townF cr rt fd wn nx))), (mg, .inl (E.2.1.1, 10, .inl (oA (g)))), (mh, .inl (E.2.1.1, 10, .inl (mpR (oA g) gh 0)))]) ?_ (by rw [mpR_0]) rfl rfl
  refine g_loop (10) (fun i => [(m0, .inr (10, (.int (nI (nt)) :: .ref mt :: .int (nI (nb)) :: .ref mk :: .ref mb :: .int (nI (lw)) :: .int (nI (sl)) :: .int (nI (tl)) :: .ref mx :: .int (po) :: .int (ta) :: .long (tk) :: .int (dg) :: .int (nu) :: .int (fa) :: .int (rm_) :: .int (rto) :: .int (rbo) :: .ref mr :: .ref mn :: .ref ma :: .ref mi :: .ref mj :: .int (nI (en)) :: .ref mg :: .int (nI (sn)) :: .ref ms :: .int (nI (dn)) :: .ref md :: .ref mc :: .ref me :: .int (nI en) :: .ref mh :: .ref mo :: .ref mw :: []))), (mk, .inl (E.2.1.1, 10, .inl (nA (kd)))), (mn, .inl (E.2.1.1, 47, .inl (nowF tw wt sk gr ch yr))), (ma, .inl (E.2.1.1, 47, .inl (nowF tw wt sk gr ch yr))), (mt, .inl (E.2.1.1, 30, .inl (townF cr rt fd wn nx))), (mg, .inl (E.2.1.1, 10, .inl (oA (g)))), (mh, .inl (E.2.1.1, 10, .inl (mpR (oA g) gh i)))]) (fun i => [(0, .ref m0), (1, .int (nI (n))), (2, .int (nI (i)))]) ?_ ?_ 0 (Nat.zero_le _)
  · intro i hi23 ih23
    show G E _ [(m0, .inr (10, (.int (nI (nt)) :: .ref mt :: .int (nI (nb)) :: .ref mk :: .ref mb :: .int (nI (lw)) :: .int (nI (sl)) :: .int (nI (tl)) :: .ref mx :: .int (po) :: .int (ta) :: .long (tk) :: .int (dg) :: .int (nu) :: .int (fa) :: .int (rm_) :: .int (rto) :: .int (rbo) :: .ref mr :: .ref mn :: .ref ma :: .ref mi :: .ref mj :: .int (nI (en)) :: .ref mg :: .int (nI (sn)) :: .ref ms :: .int (nI (dn)) :: .ref md :: .ref mc :: .ref me :: .int (nI en) :: .ref mh :: .ref mo :: .ref mw :: []))), (mk, .inl (E.2.1.1, 10, .inl (nA (kd)))), (mn, .inl (E.2.1.1, 47, .inl (nowF tw wt sk gr ch yr))), (ma, .inl (E.2.1.1, 47, .inl (nowF tw wt sk gr ch yr))), (mt, .inl (E.2.1.1, 30, .inl (townF cr rt fd wn nx))), (mg, .inl (E.2.1.1, 10, .inl (oA (g)))), (mh, .inl (E.2.1.1, 10, .inl (mpR (oA g) gh i)))] 23 [(0, .ref m0), (1, .int (nI (n))), (2, .int (nI (i)))] []
    refine g_iload_n (q := 24) dX10_goAside_23 rfl rfl rfl ?_
    refine g_bipush (v := nI 10) (q := 26) dX10_goAside_24 rfl kb_10 ?_
    refine g_icmp_geN (t := 47) (q := 29) dX10_goAside_26 (by decide) rfl (by omega) (by omega) (fun c26 => ?_) (fun c26 => ?_)
    · omega
    · skip
      refine g_aload_n (q := 30) dX10_goAside_29 rfl rfl rfl ?_
      refine gf_X10_57 rfl 0 rfl rfl (q := 33) dX10_goAside_30 rfl ?_
      refine g_iload_n (q := 34) dX10_goAside_33 rfl rfl rfl ?_
      refine g_aload_n (q := 35) dX10_goAside_34 rfl rfl rfl ?_
      refine gf_X10_42 rfl 0 rfl rfl (q := 38) dX10_goAside_35 rfl ?_
      refine g_iload_n (q := 39) dX10_goAside_38 rfl rfl rfl ?_
      refine g_iald (v := oI (g i)) 5 rfl (ixIn (j := i) rfl (by omega) (by decide)) (ixV (j := i) rfl (by omega)) (q := 40) dX10_goAside_39 rfl ?_
      refine g_iast (f' := (upd (mpR (oA g) gh i) i (oI (g i)))) 6 rfl (ixIn (j := i) rfl (by omega) (by decide)) (ixU (j := i) rfl (by omega)) (ws' := [_, _, _, _, _, _, (_, .inl (_, _, .inl _))]) rfl (q := 41) dX10_goAside_40 rfl ?_
      refine g_iinc (lv' := [(0, _), (1, _), (2, _)]) (v := nI (i + 1)) (q := 44) dX10_goAside_41 rfl rfl (nI_inc _) (Nat.le_of_ble_eq_true rfl) rfl ?_
      refine g_goto (q := 23) dX10_goAside_44 (by decide) ?_
      rw [mpR_s] at ih23
      exact ih23
  · skip
    show G E _ [(m0, .inr (10, (.int (nI (nt)) :: .ref mt :: .int (nI (nb)) :: .ref mk :: .ref mb :: .int (nI (lw)) :: .int (nI (sl)) :: .int (nI (tl)) :: .ref mx :: .int (po) :: .int (ta) :: .long (tk) :: .int (dg) :: .int (nu) :: .int (fa) :: .int (rm_) :: .int (rto) :: .int (rbo) :: .ref mr :: .ref mn :: .ref ma :: .ref mi :: .ref mj :: .int (nI (en)) :: .ref mg :: .int (nI (sn)) :: .ref ms :: .int (nI (dn)) :: .ref md :: .ref mc :: .ref me :: .int (nI en) :: .ref mh :: .ref mo :: .ref mw :: []))), (mk, .inl (E.2.1.1, 10, .inl (nA (kd)))), (mn, .inl (E.2.1.1, 47, .inl (nowF tw wt sk gr ch yr))), (ma, .inl (E.2.1.1, 47, .inl (nowF tw wt sk gr ch yr))), (mt, .inl (E.2.1.1, 30, .inl (townF cr rt fd wn nx))), (mg, .inl (E.2.1.1, 10, .inl (oA (g)))), (mh, .inl (E.2.1.1, 10, .inl (mpR (oA g) gh 10)))] 23 [(0, .ref m0), (1, .int (nI (n))), (2, .int (nI (10)))] []
    refine g_iload_n (q := 24) dX10_goAside_23 rfl rfl rfl ?_
    refine g_bipush (v := nI 10) (q := 26) dX10_goAside_24 rfl kb_10 ?_
    refine g_icmp_geN (t := 47) (q := 29) dX10_goAside_26 (by decide) rfl (by omega) (by omega) (fun c26 => ?_) (fun c26 => ?_)
    · skip
      refine g_cong (oA g) 6 rfl (fun j hj => mpR_lt hj) (ws' := [_, _, _, _, _, _, (_, .inl (_, _, .inl _))]) rfl ?_
      refine g_iconst (v := nI 0) (q := 48) dX10_goAside_47 rfl ki_0 ?_
      refine g_istore_n (lv' := [(0, _), (1, _), (2, _)]) (q := 49) dX10_goAside_48 rfl rfl (Nat.le_of_ble_eq_true rfl) rfl ?_
      refine g_eq (ws' := [(m0, .inr (10, (.int (nI (nt)) :: .ref mt :: .int (nI (nb)) :: .ref mk :: .ref mb :: .int (nI (lw)) :: .int (nI (sl)) :: .int (nI (tl)) :: .ref mx :: .int (po) :: .int (ta) :: .long (tk) :: .int (dg) :: .int (nu) :: .int (fa) :: .int (rm_) :: .int (rto) :: .int (rbo) :: .ref mr :: .ref mn :: .ref ma :: .ref mi :: .ref mj :: .int (nI (if 0 = 0 then en else 0)) :: .ref mg :: .int (nI (sn)) :: .ref ms :: .int (nI (dn)) :: .ref md :: .ref mc :: .ref me :: .int (nI en) :: .ref mh :: .ref mo :: .ref mw :: []))), (mk, .inl (E.2.1.1, 10, .inl (nA (kd)))), (mn, .inl (E.2.1.1, 47, .inl (nowF ((years ((nb, nt, lw), kd, cr, rt, fd, nx) 0 (tw, wt, sk, gr, ch)).1) ((years ((nb, nt, lw), kd, cr, rt, fd, nx) 0 (tw, wt, sk, gr, ch)).2.1) ((years ((nb, nt, lw), kd, cr, rt, fd, nx) 0 (tw, wt, sk, gr, ch)).2.2.1) ((years ((nb, nt, lw), kd, cr, rt, fd, nx) 0 (tw, wt, sk, gr, ch)).2.2.2.1) ((years ((nb, nt, lw), kd, cr, rt, fd, nx) 0 (tw, wt, sk, gr, ch)).2.2.2.2) (yr + 0)))), (ma, .inl (E.2.1.1, 47, .inl (nowF tw wt sk gr ch yr))), (mt, .inl (E.2.1.1, 30, .inl (townF cr rt fd wn nx))), (mg, .inl (E.2.1.1, 10, .inl (oA (if 0 = 0 then g else fun _ => none)))), (mh, .inl (E.2.1.1, 10, .inl (oA g)))]) ?_ (rfl) rfl rfl
      refine g_loop (n) (fun i => [(m0, .inr (10, (.int (nI (nt)) :: .ref mt :: .int (nI (nb)) :: .ref mk :: .ref mb :: .int (nI (lw)) :: .int (nI (sl)) :: .int (nI (tl)) :: .ref mx :: .int (po) :: .int (ta) :: .long (tk) :: .int (dg) :: .int (nu) :: .int (fa) :: .int (rm_) :: .int (rto) :: .int (rbo) :: .ref mr :: .ref mn :: .ref ma :: .ref mi :: .ref mj :: .int (nI (if i = 0 then en else 0)) :: .ref mg :: .int (nI (sn)) :: .ref ms :: .int (nI (dn)) :: .ref md :: .ref mc :: .ref me :: .int (nI en) :: .ref mh :: .ref mo :: .ref mw :: []))), (mk, .inl (E.2.1.1, 10, .inl (nA (kd)))), (mn, .inl (E.2.1.1, 47, .inl (nowF ((years ((nb, nt, lw), kd, cr, rt, fd, nx) i (tw, wt, sk, gr, ch)).1) ((years ((nb, nt, lw), kd, cr, rt, fd, nx) i (tw, wt, sk, gr, ch)).2.1) ((years ((nb, nt, lw), kd, cr, rt, fd, nx) i (tw, wt, sk, gr, ch)).2.2.1) ((years ((nb, nt, lw), kd, cr, rt, fd, nx) i (tw, wt, sk, gr, ch)).2.2.2.1) ((years ((nb, nt, lw), kd, cr, rt, fd, nx) i (tw, wt, sk, gr, ch)).2.2.2.2) (yr + i)))), (ma, .inl (E.2.1.1, 47, .inl (nowF tw wt sk gr ch yr))), (mt, .inl (E.2.1.1, 30, .inl (townF cr rt fd wn nx))), (mg, .inl (E.2.1.1, 10, .inl (oA (if i = 0 then g else fun _ => none)))), (mh, .inl (E.2.1.1, 10, .inl (oA g)))]) (fun i => [(0, .ref m0), (1, .int (nI (n))), (2, .int (nI (i)))]) ?_ ?_ 0 (Nat.zero_le _)
      · intro i hi49 ih49
        have hI := years_ok hP hY hB i
        simp only [years, Nat.add_one_ne_zero, if_false] at ih49
        generalize years ((nb, nt, lw), kd, cr, rt, fd, nx) i (tw, wt, sk, gr, ch) = ys at hI ih49 ⊢
        generalize (if i = 0 then en else 0) = en1
        generalize (if i = 0 then g else fun _ => none) = g1
        obtain ⟨tw1, wt1, sk1, gr1, ch1⟩ := ys
        obtain ⟨hY1, hB1⟩ := hI
        show G E _ [(m0, .inr (10, (.int (nI (nt)) :: .ref mt :: .int (nI (nb)) :: .ref mk :: .ref mb :: .int (nI (lw)) :: .int (nI (sl)) :: .int (nI (tl)) :: .ref mx :: .int (po) :: .int (ta) :: .long (tk) :: .int (dg) :: .int (nu) :: .int (fa) :: .int (rm_) :: .int (rto) :: .int (rbo) :: .ref mr :: .ref mn :: .ref ma :: .ref mi :: .ref mj :: .int (nI (en1)) :: .ref mg :: .int (nI (sn)) :: .ref ms :: .int (nI (dn)) :: .ref md :: .ref mc :: .ref me :: .int (nI en) :: .ref mh :: .ref mo :: .ref mw :: []))), (mk, .inl (E.2.1.1, 10, .inl (nA (kd)))), (mn, .inl (E.2.1.1, 47, .inl (nowF tw1 wt1 sk1 gr1 ch1 (yr + i)))), (ma, .inl (E.2.1.1, 47, .inl (nowF tw wt sk gr ch yr))), (mt, .inl (E.2.1.1, 30, .inl (townF cr rt fd wn nx))), (mg, .inl (E.2.1.1, 10, .inl (oA (g1)))), (mh, .inl (E.2.1.1, 10, .inl (oA g)))] 49 [(0, .ref m0), (1, .int (nI (n))), (2, .int (nI (i)))] []
        refine g_iload_n (q := 50) dX10_goAside_49 rfl rfl rfl ?_
        refine g_iload_n (q := 51) dX10_goAside_50 rfl rfl rfl ?_
        refine g_icmp_geN (t := 64) (q := 54) dX10_goAside_51 (by decide) rfl (by omega) (by omega) (fun c51 => ?_) (fun c51 => ?_)
        · omega
        · skip
          refine g_aload_n (q := 55) dX10_goAside_54 rfl rfl rfl ?_
          refine gc_X10_250 (c_goYear hP hY1 hB1) rfl (Nat.le_of_ble_eq_true rfl) rfl 0 rfl [0, 1, 2, 4, 5] rfl rfl (rest := []) rfl (Nat.le_of_ble_eq_true rfl) (q := 58) dX10_goAside_55 rfl (exK (ws' := [(_, .inr (_, (_ :: _ :: _ :: _ :: _ :: _ :: _ :: _ :: _ :: _ :: _ :: _ :: _ :: _ :: _ :: _ :: _ :: _ :: _ :: _ :: _ :: _ :: _ :: _ :: _ :: _ :: _ :: _ :: _ :: _ :: _ :: _ :: _ :: _ :: _ :: []))), (_, .inl (_, _, .inl _)), (_, .inl (_, _, .inl _)), _, (_, .inl (_, _, .inl _)), (_, .inl (_, _, .inl _)), _]) (st' := []) rfl rfl ?_)
          refine g_iinc (lv' := [(0, _), (1, _), (2, _)]) (v := nI (i + 1)) (q := 61) dX10_goAside_58 rfl rfl (nI_inc _) (Nat.le_of_ble_eq_true rfl) rfl ?_
          refine g_goto (q := 49) dX10_goAside_61 (by decide) ?_
          exact ih49
      · skip
        show G E _ [(m0, .inr (10, (.int (nI (nt)) :: .ref mt :: .int (nI (nb)) :: .ref mk :: .ref mb :: .int (nI (lw)) :: .int (nI (sl)) :: .int (nI (tl)) :: .ref mx :: .int (po) :: .int (ta) :: .long (tk) :: .int (dg) :: .int (nu) :: .int (fa) :: .int (rm_) :: .int (rto) :: .int (rbo) :: .ref mr :: .ref mn :: .ref ma :: .ref mi :: .ref mj :: .int (nI (if n = 0 then en else 0)) :: .ref mg :: .int (nI (sn)) :: .ref ms :: .int (nI (dn)) :: .ref md :: .ref mc :: .ref me :: .int (nI en) :: .ref mh :: .ref mo :: .ref mw :: []))), (mk, .inl (E.2.1.1, 10, .inl (nA (kd)))), (mn, .inl (E.2.1.1, 47, .inl (nowF ((years ((nb, nt, lw), kd, cr, rt, fd, nx) n (tw, wt, sk, gr, ch)).1) ((years ((nb, nt, lw), kd, cr, rt, fd, nx) n (tw, wt, sk, gr, ch)).2.1) ((years ((nb, nt, lw), kd, cr, rt, fd, nx) n (tw, wt, sk, gr, ch)).2.2.1) ((years ((nb, nt, lw), kd, cr, rt, fd, nx) n (tw, wt, sk, gr, ch)).2.2.2.1) ((years ((nb, nt, lw), kd, cr, rt, fd, nx) n (tw, wt, sk, gr, ch)).2.2.2.2) (yr + n)))), (ma, .inl (E.2.1.1, 47, .inl (nowF tw wt sk gr ch yr))), (mt, .inl (E.2.1.1, 30, .inl (townF cr rt fd wn nx))), (mg, .inl (E.2.1.1, 10, .inl (oA (if n = 0 then g else fun _ => none)))), (mh, .inl (E.2.1.1, 10, .inl (oA g)))] 49 [(0, .ref m0), (1, .int (nI (n))), (2, .int (nI (n)))] []
        refine g_iload_n (q := 50) dX10_goAside_49 rfl rfl rfl ?_
        refine g_iload_n (q := 51) dX10_goAside_50 rfl rfl rfl ?_
        refine g_icmp_geN (t := 64) (q := 54) dX10_goAside_51 (by decide) rfl (by omega) (by omega) (fun c51 => ?_) (fun c51 => ?_)
        · skip
          refine g_vret (st := []) dX10_goAside_64 rfl rfl ?_
          exact xv
        · omega
    · omega
set_option maxHeartbeats 2000000 in
set_option maxRecDepth 20000 in
theorem c_putBack {E : EN} {m0 mt mk mb mx mr mn ma mi mj mg ms md mc me mh mo mw nt nb lw sl tl sn dn : Nat} {en0 yr : Nat} {po en ta dg nu fa rm_ rto rbo : Int32} {tk : Int64} {tw wt sk gr : Nat → Nat} {ch nw gg : Nat → Int32} {g0 : Nat → Option Nat}  : CT E yX10_putBack cX10_putBack 2 (none) 1 [.ref m0] [(m0, .inr (10, (.int (nI (nt)) :: .ref mt :: .int (nI (nb)) :: .ref mk :: .ref mb :: .int (nI (lw)) :: .int (nI (sl)) :: .int (nI (tl)) :: .ref mx :: .int (po) :: .int (ta) :: .long (tk) :: .int (dg) :: .int (nu) :: .int (fa) :: .int (rm_) :: .int (rto) :: .int (rbo) :: .ref mr :: .ref mn :: .ref ma :: .ref mi :: .ref mj :: .int (en) :: .ref mg :: .int (nI (sn)) :: .ref ms :: .int (nI (dn)) :: .ref md :: .ref mc :: .ref me :: .int (nI en0) :: .ref mh :: .ref mo :: .ref mw :: []))), (mn, .inl (E.2.1.1, 47, .inl (nw))), (ma, .inl (E.2.1.1, 47, .inl (nowF tw wt sk gr ch yr))), (mg, .inl (E.2.1.1, 10, .inl (gg))), (mh, .inl (E.2.1.1, 10, .inl (oA g0)))] (xQ none [(m0, .inr (10, (.int (nI (nt)) :: .ref mt :: .int (nI (nb)) :: .ref mk :: .ref mb :: .int (nI (lw)) :: .int (nI (sl)) :: .int (nI (tl)) :: .ref mx :: .int (po) :: .int (ta) :: .long (tk) :: .int (dg) :: .int (nu) :: .int (fa) :: .int (rm_) :: .int (rto) :: .int (rbo) :: .ref mr :: .ref mn :: .ref ma :: .ref mi :: .ref mj :: .int (nI en0) :: .ref mg :: .int (nI (sn)) :: .ref ms :: .int (nI (dn)) :: .ref md :: .ref mc :: .ref me :: .int (nI en0) :: .ref mh :: .ref mo :: .ref mw :: []))), (mn, .inl (E.2.1.1, 47, .inl (nowF tw wt sk gr ch yr))), (ma, .inl (E.2.1.1, 47, .inl (nowF tw wt sk gr ch yr))), (mg, .inl (E.2.1.1, 10, .inl (oA g0))), (mh, .inl (E.2.1.1, 10, .inl (oA g0)))]) := by
  refine ct_of (by decide +kernel) (Nat.le_of_ble_eq_true rfl) (lv := [(0, .ref m0)]) rfl (fun A => ?_)
  refine g_aload_n (q := 1) dX10_putBack_0 rfl rfl rfl ?_
  refine gf_X10_32 rfl 0 rfl rfl (q := 4) dX10_putBack_1 rfl ?_
  refine g_iconst (v := nI 0) (q := 5) dX10_putBack_4 rfl ki_0 ?_
  refine g_aload_n (q := 6) dX10_putBack_5 rfl rfl rfl ?_
  refine gf_X10_29 rfl 0 rfl rfl (q := 9) dX10_putBack_6 rfl ?_
  refine g_iconst (v := nI 0) (q := 10) dX10_putBack_9 rfl ki_0 ?_
  refine gc_X10_253 (c_copy_a) rfl (Nat.le_of_ble_eq_true rfl) rfl [2, 1] rfl rfl (rest := []) rfl (Nat.le_of_ble_eq_true rfl) (q := 13) dX10_putBack_10 rfl (exK (ws' := [_, (_, .inl (_, _, .inl _)), (_, .inl (_, _, .inl _)), _, _]) (st' := []) rfl rfl ?_)
  refine g_cong (nowF tw wt sk gr ch yr) 1 rfl (fun j hj => cp_all _ _ j hj) (ws' := [_, (_, .inl (_, _, .inl _)), _, _, _]) rfl ?_
  refine g_aload_n (q := 14) dX10_putBack_13 rfl rfl rfl ?_
  refine g_aload_n (q := 15) dX10_putBack_14 rfl rfl rfl ?_
  refine gf_X10_257 rfl 0 rfl rfl (q := 18) dX10_putBack_15 rfl ?_
  refine pf_X10_86 rfl 0 rfl (Nat.le_of_ble_eq_true rfl) (ws' := [(_, .inr (_, (_ :: _ :: _ :: _ :: _ :: _ :: _ :: _ :: _ :: _ :: _ :: _ :: _ :: _ :: _ :: _ :: _ :: _ :: _ :: _ :: _ :: _ :: _ :: _ :: _ :: _ :: _ :: _ :: _ :: _ :: _ :: _ :: _ :: _ :: _ :: []))), _, _, _, _]) rfl (q := 21) dX10_putBack_18 rfl ?_
  refine g_iconst (v := nI 0) (q := 22) dX10_putBack_21 rfl ki_0 ?_
  refine g_istore_n (lv' := [(0, _), (1, _)]) (q := 23) dX10_putBack_22 rfl rfl (Nat.le_of_ble_eq_true rfl) rfl ?_
  refine g_eq (ws' := [(m0, .inr (10, (.int (nI (nt)) :: .ref mt :: .int (nI (nb)) :: .ref mk :: .ref mb :: .int (nI (lw)) :: .int (nI (sl)) :: .int (nI (tl)) :: .ref mx :: .int (po) :: .int (ta) :: .long (tk) :: .int (dg) :: .int (nu) :: .int (fa) :: .int (rm_) :: .int (rto) :: .int (rbo) :: .ref mr :: .ref mn :: .ref ma :: .ref mi :: .ref mj :: .int (nI en0) :: .ref mg :: .int (nI (sn)) :: .ref ms :: .int (nI (dn)) :: .ref md :: .ref mc :: .ref me :: .int (nI en0) :: .ref mh :: .ref mo :: .ref mw :: []))), (mn, .inl (E.2.1.1, 47, .inl (nowF tw wt sk gr ch yr))), (ma, .inl (E.2.1.1, 47, .inl (nowF tw wt sk gr ch yr))), (mg, .inl (E.2.1.1, 10, .inl (mpR (oA g0) gg 0))), (mh, .inl (E.2.1.1, 10, .inl (oA g0)))]) ?_ (by rw [mpR_0]) rfl rfl
  refine g_loop (10) (fun i => [(m0, .inr (10, (.int (nI (nt)) :: .ref mt :: .int (nI (nb)) :: .ref mk :: .ref mb :: .int (nI (lw)) :: .int (nI (sl)) :: .int (nI (tl)) :: .ref mx :: .int (po) :: .int (ta) :: .long (tk) :: .int (dg) :: .int (nu) :: .int (fa) :: .int (rm_) :: .int (rto) :: .int (rbo) :: .ref mr :: .ref mn :: .ref ma :: .ref mi :: .ref mj :: .int (nI en0) :: .ref mg :: .int (nI (sn)) :: .ref ms :: .int (nI (dn)) :: .ref md :: .ref mc :: .ref me :: .int (nI en0) :: .ref mh :: .ref mo :: .ref mw :: []))), (mn, .inl (E.2.1.1, 47, .inl (nowF tw wt sk gr ch yr))), (ma, .inl (E.2.1.1, 47, .inl (nowF tw wt sk gr ch yr))), (mg, .inl (E.2.1.1, 10, .inl (mpR (oA g0) gg i))), (mh, .inl (E.2.1.1, 10, .inl (oA g0)))]) (fun i => [(0, .ref m0), (1, .int (nI (i)))]) ?_ ?_ 0 (Nat.zero_le _)
  · intro i hi23 ih23
    show G E _ [(m0, .inr (10, (.int (nI (nt)) :: .ref mt :: .int (nI (nb)) :: .ref mk :: .ref mb :: .int (nI (lw)) :: .int (nI (sl)) :: .int (nI (tl)) :: .ref mx :: .int (po) :: .int (ta) :: .long (tk) :: .int (dg) :: .int (nu) :: .int (fa) :: .int (rm_) :: .int (rto) :: .int (rbo) :: .ref mr :: .ref mn :: .ref ma :: .ref mi :: .ref mj :: .int (nI en0) :: .ref mg :: .int (nI (sn)) :: .ref ms :: .int (nI (dn)) :: .ref md :: .ref mc :: .ref me :: .int (nI en0) :: .ref mh :: .ref mo :: .ref mw :: []))), (mn, .inl (E.2.1.1, 47, .inl (nowF tw wt sk gr ch yr))), (ma, .inl (E.2.1.1, 47, .inl (nowF tw wt sk gr ch yr))), (mg, .inl (E.2.1.1, 10, .inl (mpR (oA g0) gg i))), (mh, .inl (E.2.1.1, 10, .inl (oA g0)))] 23 [(0, .ref m0), (1, .int (nI (i)))] []
    refine g_iload_n (q := 24) dX10_putBack_23 rfl rfl rfl ?_
    refine g_bipush (v := nI 10) (q := 26) dX10_putBack_24 rfl kb_10 ?_
    refine g_icmp_geN (t := 47) (q := 29) dX10_putBack_26 (by decide) rfl (by omega) (by omega) (fun c26 => ?_) (fun c26 => ?_)
    · omega
    · skip
      refine g_aload_n (q := 30) dX10_putBack_29 rfl rfl rfl ?_
      refine gf_X10_42 rfl 0 rfl rfl (q := 33) dX10_putBack_30 rfl ?_
      refine g_iload_n (q := 34) dX10_putBack_33 rfl rfl rfl ?_
      refine g_aload_n (q := 35) dX10_putBack_34 rfl rfl rfl ?_
      refine gf_X10_57 rfl 0 rfl rfl (q := 38) dX10_putBack_35 rfl ?_
      refine g_iload_n (q := 39) dX10_putBack_38 rfl rfl rfl ?_
      refine g_iald (v := (oA g0) i) 4 rfl (ixIn (j := i) rfl (by omega) (by decide)) (ixV (j := i) rfl (by omega)) (q := 40) dX10_putBack_39 rfl ?_
      refine g_iast (f' := (upd (mpR (oA g0) gg i) i ((oA g0) i))) 3 rfl (ixIn (j := i) rfl (by omega) (by decide)) (ixU (j := i) rfl (by omega)) (ws' := [_, _, _, (_, .inl (_, _, .inl _)), _]) rfl (q := 41) dX10_putBack_40 rfl ?_
      refine g_iinc (lv' := [(0, _), (1, _)]) (v := nI (i + 1)) (q := 44) dX10_putBack_41 rfl rfl (nI_inc _) (Nat.le_of_ble_eq_true rfl) rfl ?_
      refine g_goto (q := 23) dX10_putBack_44 (by decide) ?_
      rw [mpR_s] at ih23
      exact ih23
  · skip
    show G E _ [(m0, .inr (10, (.int (nI (nt)) :: .ref mt :: .int (nI (nb)) :: .ref mk :: .ref mb :: .int (nI (lw)) :: .int (nI (sl)) :: .int (nI (tl)) :: .ref mx :: .int (po) :: .int (ta) :: .long (tk) :: .int (dg) :: .int (nu) :: .int (fa) :: .int (rm_) :: .int (rto) :: .int (rbo) :: .ref mr :: .ref mn :: .ref ma :: .ref mi :: .ref mj :: .int (nI en0) :: .ref mg :: .int (nI (sn)) :: .ref ms :: .int (nI (dn)) :: .ref md :: .ref mc :: .ref me :: .int (nI en0) :: .ref mh :: .ref mo :: .ref mw :: []))), (mn, .inl (E.2.1.1, 47, .inl (nowF tw wt sk gr ch yr))), (ma, .inl (E.2.1.1, 47, .inl (nowF tw wt sk gr ch yr))), (mg, .inl (E.2.1.1, 10, .inl (mpR (oA g0) gg 10))), (mh, .inl (E.2.1.1, 10, .inl (oA g0)))] 23 [(0, .ref m0), (1, .int (nI (10)))] []
    refine g_iload_n (q := 24) dX10_putBack_23 rfl rfl rfl ?_
    refine g_bipush (v := nI 10) (q := 26) dX10_putBack_24 rfl kb_10 ?_
    refine g_icmp_geN (t := 47) (q := 29) dX10_putBack_26 (by decide) rfl (by omega) (by omega) (fun c26 => ?_) (fun c26 => ?_)
    · skip
      refine g_cong (oA g0) 3 rfl (fun j hj => mpR_lt hj) (ws' := [_, _, _, (_, .inl (_, _, .inl _)), _]) rfl ?_
      refine g_vret (st := []) dX10_putBack_47 rfl rfl ?_
      exact xv
    · omega
