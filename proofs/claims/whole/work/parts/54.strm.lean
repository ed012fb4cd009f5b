theorem chI_and {i j : Nat} (hi : i < 14) (hj : j < lenW i) : chI i j &&& nI 255 = nI (sNat i j) := by
  have h := chI_eq i hi j hj
  have h2 : ∀ c, c < 128 → nI c &&& nI 255 = nI c := by decide
  have h3 := sNat_in i hi j hj
  rw [h, h2 _ (by omega)]
theorem chI_char {i j : Nat} (hi : i < 14) (hj : j < lenW i) : ((nI (sNat i j)).toUInt32 % 65536).toInt32 = chI i j := by
  have h2 : ∀ c, c < 128 → ((nI c).toUInt32 % 65536).toInt32 = nI c := by decide
  have h3 := sNat_in i hi j hj
  rw [h2 _ (by omega), chI_eq i hi j hj]
theorem nar_ch {i j : Nat} (hi : i < 14) (hj : j < lenW i) : narrow .char (.int (chI i j)) = .int (chI i j) := by
  have h2 : ∀ c, c < 128 → narrow .char (.int (nI c)) = .int (nI c) := by decide
  have h3 := sNat_in i hi j hj
  rw [chI_eq i hi j hj, h2 _ (by omega)]
theorem shr_0 (n : Nat) : nI n >>> (nI 0 &&& 31) = nI n := by
  have : nI 0 &&& 31 = (0 : Int32) := by decide
  rw [this]
  exact Int32.shiftRight_zero
set_option maxHeartbeats 2000000 in
set_option maxRecDepth 20000 in
theorem c_pre_r {E : EN} {t : Nat} {i n : Nat} (hi : i < n) (hn : n < 1000) : CT E yJ3_checkIndex_8e157 cJ3_checkIndex_8e157 3 (some .int) 0 [.int (nI (i)), .int (nI (n)), .ref t] [] (xQ (some (.int (nI i))) []) := by
  refine ct_of (by decide +kernel) (Nat.le_of_ble_eq_true rfl) (lv := [(0, .int (nI (i))), (1, .int (nI (n))), (2, .ref t)]) rfl (fun A => ?_)
  refine g_iload_n (q := 1) dJ3_checkIndex_8e157_0 rfl rfl rfl ?_
  refine g_if_lt (t := 9) (q := 4) dJ3_checkIndex_8e157_1 (by decide) rfl (fun c1 => ?_) (fun c1 => ?_)
  · exact absurd c1 (nI_pos (by omega))
  · skip
    refine g_iload_n (q := 5) dJ3_checkIndex_8e157_4 rfl rfl rfl ?_
    refine g_iload_n (q := 6) dJ3_checkIndex_8e157_5 rfl rfl rfl ?_
    refine g_icmp_ltN (t := 16) (q := 9) dJ3_checkIndex_8e157_6 (by decide) rfl (by omega) (by omega) (fun c6 => ?_) (fun c6 => ?_)
    · skip
      refine g_iload_n (q := 17) dJ3_checkIndex_8e157_16 rfl rfl rfl ?_
      refine g_iret (st := []) dJ3_checkIndex_8e157_17 rfl rfl rfl ?_
      exact (xr rfl)
    · omega
set_option maxHeartbeats 2000000 in
set_option maxRecDepth 20000 in
theorem c_pre_n {E : EN} {i n : Nat} (hi : i < n) (hn : n < 1000) : CT E yJ3_checkIndex_8e157 cJ3_checkIndex_8e157 3 (some .int) 0 [.int (nI (i)), .int (nI (n)), .null] [] (xQ (some (.int (nI i))) []) := by
  refine ct_of (by decide +kernel) (Nat.le_of_ble_eq_true rfl) (lv := [(0, .int (nI (i))), (1, .int (nI (n))), (2, .null)]) rfl (fun A => ?_)
  refine g_iload_n (q := 1) dJ3_checkIndex_8e157_0 rfl rfl rfl ?_
  refine g_if_lt (t := 9) (q := 4) dJ3_checkIndex_8e157_1 (by decide) rfl (fun c1 => ?_) (fun c1 => ?_)
  · exact absurd c1 (nI_pos (by omega))
  · skip
    refine g_iload_n (q := 5) dJ3_checkIndex_8e157_4 rfl rfl rfl ?_
    refine g_iload_n (q := 6) dJ3_checkIndex_8e157_5 rfl rfl rfl ?_
    refine g_icmp_ltN (t := 16) (q := 9) dJ3_checkIndex_8e157_6 (by decide) rfl (by omega) (by omega) (fun c6 => ?_) (fun c6 => ?_)
    · skip
      refine g_iload_n (q := 17) dJ3_checkIndex_8e157_16 rfl rfl rfl ?_
      refine g_iret (st := []) dJ3_checkIndex_8e157_17 rfl rfl rfl ?_
      exact (xr rfl)
    · omega
set_option maxHeartbeats 2000000 in
set_option maxRecDepth 20000 in
theorem c_sck {E : EN} {i n : Nat} (hi : i < n) (hn : n < 1000) : CT E yJ0_checkIndex_df160 cJ0_checkIndex_df160 2 (none) 1 [.int (nI (i)), .int (nI (n))] [] (xQ none []) := by
  refine ct_of (by decide +kernel) (Nat.le_of_ble_eq_true rfl) (lv := [(0, .int (nI (i))), (1, .int (nI (n)))]) rfl (fun A => ?_)
  refine g_iload_n (q := 1) dJ0_checkIndex_df160_0 rfl rfl rfl ?_
  refine g_iload_n (q := 2) dJ0_checkIndex_df160_1 rfl rfl rfl ?_
  refine g_siof rfl (q := 5) dJ0_checkIndex_df160_2 rfl ?_ (fun t => ?_)
  · skip
    refine gc_J0_1059 (c_pre_n hi hn) rfl (Nat.le_of_ble_eq_true rfl) rfl [] rfl rfl (rest := []) rfl (Nat.le_of_ble_eq_true rfl) (q := 8) dJ0_checkIndex_df160_5 rfl (exK (ws' := []) (st' := [.int (nI (i))]) rfl rfl ?_)
    refine g_pop (q := 9) dJ0_checkIndex_df160_8 rfl rfl ?_
    refine g_vret (st := []) dJ0_checkIndex_df160_9 rfl rfl ?_
    exact xv
  · skip
    refine gc_J0_1059 (c_pre_r hi hn) rfl (Nat.le_of_ble_eq_true rfl) rfl [] rfl rfl (rest := []) rfl (Nat.le_of_ble_eq_true rfl) (q := 8) dJ0_checkIndex_df160_5 rfl (exK (ws' := []) (st' := [.int (nI (i))]) rfl rfl ?_)
    refine g_pop (q := 9) dJ0_checkIndex_df160_8 rfl rfl ?_
    refine g_vret (st := []) dJ0_checkIndex_df160_9 rfl rfl ?_
    exact xv
set_option maxHeartbeats 2000000 in
set_option maxRecDepth 20000 in
theorem c_lat {E : EN} {i j : Nat} (hi : i < 14) (hj : j < lenW i) : CT E yJ1_charAt_3b067 cJ1_charAt_3b067 2 (some .char) 2 [.ref (E.2.2.2.2 i), .int (nI (j))] [] (xQ (some (.int (chI i j))) []) := by
  refine ct_of (by decide +kernel) (Nat.le_of_ble_eq_true rfl) (lv := [(0, .ref (E.2.2.2.2 i)), (1, .int (nI (j)))]) rfl (fun A => ?_)
  have hL := (lenW_in i hi).2
  have hg := sNat_in i hi j hj
  refine g_iload_n (q := 1) dJ1_charAt_3b067_0 rfl rfl rfl ?_
  refine g_aload_n (q := 2) dJ1_charAt_3b067_1 rfl rfl rfl ?_
  refine g_vlen hi (q := 3) dJ1_charAt_3b067_2 rfl ?_
  refine gc_J1_9 (c_sck (by omega) (by omega)) rfl (Nat.le_of_ble_eq_true rfl) rfl [] rfl rfl (rest := []) rfl (Nat.le_of_ble_eq_true rfl) (q := 6) dJ1_charAt_3b067_3 rfl (exK (ws' := []) (st' := []) rfl rfl ?_)
  refine g_aload_n (q := 7) dJ1_charAt_3b067_6 rfl rfl rfl ?_
  refine g_iload_n (q := 8) dJ1_charAt_3b067_7 rfl rfl rfl ?_
  refine g_vld hi hj (q := 9) dJ1_charAt_3b067_8 rfl ?_
  refine g_sipush (v := nI 255) (q := 12) dJ1_charAt_3b067_9 rfl ks_255 ?_
  refine g_iand (q := 13) dJ1_charAt_3b067_12 rfl ?_
  refine g_top (y := nI (sNat i j)) (chI_and hi hj) ?_
  refine g_i2c (q := 14) dJ1_charAt_3b067_13 rfl ?_
  refine g_top (y := chI i j) (chI_char hi hj) ?_
  refine g_iret (st := []) dJ1_charAt_3b067_14 rfl (nar_ch hi hj) rfl ?_
  exact (xr rfl)
set_option maxHeartbeats 2000000 in
set_option maxRecDepth 20000 in
theorem c_coder {E : EN} {i : Nat} (hi : i < 14) : CT E yJ0_coder_7d493 cJ0_coder_7d493 1 (some .byte) 0 [.ref (E.2.2.2.1 i)] [] (xQ (some (.int (nI 0))) []) := by
  refine ct_of (by decide +kernel) (Nat.le_of_ble_eq_true rfl) (lv := [(0, .ref (E.2.2.2.1 i))]) rfl (fun A => ?_)
  refine g_scmp rfl (q := 3) dJ0_coder_7d493_0 rfl ?_
  refine g_if_eqN (t := 13) (q := 6) dJ0_coder_7d493_3 (by decide) rfl (by omega) (fun c3 => ?_) (fun c3 => ?_)
  · omega
  · skip
    refine g_aload_n (q := 7) dJ0_coder_7d493_6 rfl rfl rfl ?_
    refine g_scod hi rfl (q := 10) dJ0_coder_7d493_7 rfl ?_
    refine g_goto (q := 14) dJ0_coder_7d493_10 (by decide) ?_
    refine g_iret (st := []) dJ0_coder_7d493_14 rfl (rfl) rfl ?_
    exact (xr rfl)
set_option maxHeartbeats 2000000 in
set_option maxRecDepth 20000 in
theorem c_isLatin1 {E : EN} {i : Nat} (hi : i < 14) : CT E yJ0_isLatin1_aae02 cJ0_isLatin1_aae02 1 (some .boolean) 0 [.ref (E.2.2.2.1 i)] [] (xQ (some (.int (nI 1))) []) := by
  refine ct_of (by decide +kernel) (Nat.le_of_ble_eq_true rfl) (lv := [(0, .ref (E.2.2.2.1 i))]) rfl (fun A => ?_)
  refine g_scmp rfl (q := 3) dJ0_isLatin1_aae02_0 rfl ?_
  refine g_if_eqN (t := 17) (q := 6) dJ0_isLatin1_aae02_3 (by decide) rfl (by omega) (fun c3 => ?_) (fun c3 => ?_)
  · omega
  · skip
    refine g_aload_n (q := 7) dJ0_isLatin1_aae02_6 rfl rfl rfl ?_
    refine g_scod hi rfl (q := 10) dJ0_isLatin1_aae02_7 rfl ?_
    refine g_if_neN (t := 17) (q := 13) dJ0_isLatin1_aae02_10 (by decide) rfl (by omega) (fun c10 => ?_) (fun c10 => ?_)
    · omega
    · skip
      refine g_iconst (v := nI 1) (q := 14) dJ0_isLatin1_aae02_13 rfl ki_1 ?_
      refine g_goto (q := 18) dJ0_isLatin1_aae02_14 (by decide) ?_
      refine g_iret (st := []) dJ0_isLatin1_aae02_18 rfl (narZ (by first | exact Or.inl rfl | exact Or.inr rfl)) rfl ?_
      exact (xr rfl)
set_option maxHeartbeats 2000000 in
set_option maxRecDepth 20000 in
theorem c_slen {E : EN} {i : Nat} (hi : i < 14) : CT E yJ0_length_8abf5 cJ0_length_8abf5 1 (some .int) 1 [.ref (E.2.2.2.1 i)] [] (xQ (some (.int (nI (lenW i)))) []) := by
  refine ct_of (by decide +kernel) (Nat.le_of_ble_eq_true rfl) (lv := [(0, .ref (E.2.2.2.1 i))]) rfl (fun A => ?_)
  refine g_aload_n (q := 1) dJ0_length_8abf5_0 rfl rfl rfl ?_
  refine g_sval hi rfl (q := 4) dJ0_length_8abf5_1 rfl ?_
  refine g_vlen hi (q := 5) dJ0_length_8abf5_4 rfl ?_
  refine g_aload_n (q := 6) dJ0_length_8abf5_5 rfl rfl rfl ?_
  refine gj_J0_335 hi (c_coder hi) rfl (Nat.le_of_ble_eq_true rfl) rfl [] rfl rfl (rest := [_]) rfl (Nat.le_of_ble_eq_true rfl) (q := 9) dJ0_length_8abf5_6 rfl (exK (ws' := []) (st' := [.int (nI (0)), _]) rfl rfl ?_)
  refine g_ishr (q := 10) dJ0_length_8abf5_9 rfl ?_
  refine g_top (y := nI (lenW i)) (shr_0 _) ?_
  refine g_iret (st := []) dJ0_length_8abf5_10 rfl rfl rfl ?_
  exact (xr rfl)
set_option maxHeartbeats 2000000 in
set_option maxRecDepth 20000 in
theorem c_schar {E : EN} {i j : Nat} (hi : i < 14) (hj : j < lenW i) : CT E yJ0_charAt_5068e cJ0_charAt_5068e 2 (some .char) 3 [.ref (E.2.2.2.1 i), .int (nI (j))] [] (xQ (some (.int (chI i j))) []) := by
  refine ct_of (by decide +kernel) (Nat.le_of_ble_eq_true rfl) (lv := [(0, .ref (E.2.2.2.1 i)), (1, .int (nI (j)))]) rfl (fun A => ?_)
  refine g_aload_n (q := 1) dJ0_charAt_5068e_0 rfl rfl rfl ?_
  refine gj_J0_492 hi (c_isLatin1 hi) rfl (Nat.le_of_ble_eq_true rfl) rfl [] rfl rfl (rest := []) rfl (Nat.le_of_ble_eq_true rfl) (q := 4) dJ0_charAt_5068e_1 rfl (exK (ws' := []) (st' := [.int (nI (1))]) rfl rfl ?_)
  refine g_if_eqN (t := 16) (q := 7) dJ0_charAt_5068e_4 (by decide) rfl (by omega) (fun c4 => ?_) (fun c4 => ?_)
  · omega
  · skip
    refine g_aload_n (q := 8) dJ0_charAt_5068e_7 rfl rfl rfl ?_
    refine g_sval hi rfl (q := 11) dJ0_charAt_5068e_8 rfl ?_
    refine g_iload_n (q := 12) dJ0_charAt_5068e_11 rfl rfl rfl ?_
    refine gc_J0_495 (c_lat hi hj) rfl (Nat.le_of_ble_eq_true rfl) rfl [] rfl rfl (rest := []) rfl (Nat.le_of_ble_eq_true rfl) (q := 15) dJ0_charAt_5068e_12 rfl (exK (ws' := []) (st' := [.int (chI i j)]) rfl rfl ?_)
    refine g_iret (st := []) dJ0_charAt_5068e_15 rfl (nar_ch hi hj) rfl ?_
    exact (xr rfl)
