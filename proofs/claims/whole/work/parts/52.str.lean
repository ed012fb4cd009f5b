/-! Strings in the ambient -/
theorem fl_J0_9 : Cond.fieldLink RJ0 9 RJ0 "value" "[B" ∈ TB := tb_in 1234 (by decide +kernel) rfl
theorem fl_J0_15 : Cond.fieldLink RJ0 15 RJ0 "coder" "B" ∈ TB := tb_in 1235 (by decide +kernel) rfl
theorem fl_J0_38 : Cond.fieldLink RJ0 38 RJ0 "COMPACT_STRINGS" "Z" ∈ TB := tb_in 495 (by decide +kernel) rfl
theorem fl_J0_1053 : Cond.fieldLink RJ0 1053 RJ3 "SIOOBE_FORMATTER" "Ljava/util/function/BiFunction;" ∈ TB := tb_in 511 (by decide +kernel) rfl
section GS
variable {E : EN} {M : MF} {ws : va_W} {pc q : Nat} {lv : List (Nat × Value)} {st : List Value}
theorem g_cut {ws' : va_W} {lv' : List (Nat × Value)} {st' : List Value} (k : G E M ws' q lv' st' → G E M ws pc lv st) (h : G E M ws' q lv' st') : G E M ws pc lv st := k h
theorem g_ldcS {i index : Nat} (hi : i < 14) (hown : M.1.1 = RX4) (hix : sIdx.getD i 0 = index) (hdg : decode M.1.2.1 pc = .ok (.ldc index, 2)) (hq : pc + 2 = q) (k : G E M ws q lv (.ref (E.2.2.2.1 i) :: st)) : G E M ws pc lv st := by
  subst hq
  subst hix
  intro p e s m args below meth c C H locs ls hP hD hS hl
  exact va_ldcS (own := RX4) C.1 C.2.1 (hown ▸ C.2.2.2.2.1) (C.2.2.2.2.2.2.2.1.2.2.2.1.2 i hi) hdg (k p e s m args below meth c C H locs ls hP hD hS hl)
theorem g_sval {i : Nat} (hi : i < 14) (hown : M.1.1 = RJ0) (hdg : decode M.1.2.1 pc = .ok (.getfield 9, 3)) (hq : pc + 3 = q) (k : G E M ws q lv (.ref (E.2.2.2.2 i) :: st)) : G E M ws pc lv (.ref (E.2.2.2.1 i) :: st) := by
  subst hq
  intro p e s m args below meth c C H locs ls hP hD hS hl
  exact vk_getf (ref := RJ0) C.1 C.2.1 (C.2.2.2.2.2.2.2.1.2.2.2.1.1.1 i hi).2.2.1 hS (hown ▸ C.2.2.2.2.1) (C.2.2.2.2.2.1 _ fl_J0_9) (fun _ h => h) hdg (k p e s m args below meth c C H locs ls hP hD hS hl)
theorem g_scod {i : Nat} (hi : i < 14) (hown : M.1.1 = RJ0) (hdg : decode M.1.2.1 pc = .ok (.getfield 15, 3)) (hq : pc + 3 = q) (k : G E M ws q lv (.int (nI 0) :: st)) : G E M ws pc lv (.ref (E.2.2.2.1 i) :: st) := by
  subst hq
  intro p e s m args below meth c C H locs ls hP hD hS hl
  exact vk_getf (ref := RJ0) C.1 C.2.1 (C.2.2.2.2.2.2.2.1.2.2.2.1.1.1 i hi).2.1 hS (hown ▸ C.2.2.2.2.1) (C.2.2.2.2.2.1 _ fl_J0_15) (fun _ h => h) hdg (k p e s m args below meth c C H locs ls hP hD hS hl)
theorem g_scmp (hown : M.1.1 = RJ0) (hdg : decode M.1.2.1 pc = .ok (.getstatic 38, 3)) (hq : pc + 3 = q) (k : G E M ws q lv (.int (nI 1) :: st)) : G E M ws pc lv st := by
  subst hq
  intro p e s m args below meth c C H locs ls hP hD hS hl
  exact va_gets (ref := RJ0) C.1 C.2.1 C.2.2.2.2.2.2.2.1.2.2.1.1 hS (hown ▸ C.2.2.2.2.1) (C.2.2.2.2.2.1 _ fl_J0_38) (fun _ h => h) hdg (k p e s m args below meth c C H locs ls hP hD hS hl)
theorem g_siof (hown : M.1.1 = RJ0) (hdg : decode M.1.2.1 pc = .ok (.getstatic 1053, 3)) (hq : pc + 3 = q) (k1 : G E M ws q lv (.null :: st)) (k2 : ∀ t : Nat, G E M ws q lv (.ref t :: st)) : G E M ws pc lv st := by
  subst hq
  intro p e s m args below meth c C H locs ls hP hD hS hl
  rcases C.2.2.2.2.2.2.2.1.2.2.1.2 with h | ⟨t, h⟩
  · exact va_gets (ref := RJ3) C.1 C.2.1 h hS (hown ▸ C.2.2.2.2.1) (C.2.2.2.2.2.1 _ fl_J0_1053) (fun _ h => h) hdg (k1 p e s m args below meth c C H locs ls hP hD hS hl)
  · exact va_gets (ref := RJ3) C.1 C.2.1 h hS (hown ▸ C.2.2.2.2.1) (C.2.2.2.2.2.1 _ fl_J0_1053) (fun _ h => h) hdg (k2 t p e s m args below meth c C H locs ls hP hD hS hl)
theorem g_vlen {i : Nat} (hi : i < 14) (hdg : decode M.1.2.1 pc = .ok (.arraylength, 1)) (hq : pc + 1 = q) (k : G E M ws q lv (.int (nI (lenW i)) :: st)) : G E M ws pc lv (.ref (E.2.2.2.2 i) :: st) := by
  subst hq
  intro p e s m args below meth c C H locs ls hP hD hS hl
  exact va_tlen C.1 C.2.1 (C.2.2.2.2.2.2.2.1.2.2.2.1.1.1 i hi).2.2.2 hS rfl hdg (k p e s m args below meth c C H locs ls hP hD hS hl)
theorem g_vld {i j : Nat} (hi : i < 14) (hj : j < lenW i) (hdg : decode M.1.2.1 pc = .ok (.baload, 1)) (hq : pc + 1 = q) (k : G E M ws q lv (.int (chI i j) :: st)) : G E M ws pc lv (.int (nI j) :: .ref (E.2.2.2.2 i) :: st) := by
  subst hq
  intro p e s m args below meth c C H locs ls hP hD hS hl
  have hL := (lenW_in i hi).2
  exact va_tb C.1 C.2.1 (C.2.2.2.2.2.2.2.1.2.2.2.1.1.1 i hi).2.2.2 hS (vp_in_nI hj (by show lenW i < 2147483648; omega)) (by rw [nI_clamp (by omega)]; rfl) hdg (k p e s m args below meth c C H locs ls hP hD hS hl)
end GS
theorem gj_X4_144 {E : EN} {M : MF} {ws : va_W} {pc : Nat} {lv : List (Nat × Value)} {st0 : List Value} {d' q i : Nat} {As rest : List Value} {wc : va_W} {Qr : Option Value → va_W → Prop} (hi : i < 14) (hM : CT E yJ0_length_8abf5 cJ0_length_8abf5 1 (some .int) d' (.ref (E.2.2.2.1 i) :: As) wc Qr) (hown : M.1.1 = RX4) (hdd : d' + 1 ≤ M.2.1.2) (hlen : As.length = 0) (is : List Nat) (hnd : va_nd is = true) (hC : is.map (fun i => ws[i]?) = wc.map some) (hst : st0 = As.reverse ++ .ref (E.2.2.2.1 i) :: rest) (hroom : (rest.map fun v => v.category).sum ≤ 8) (hdg : decode M.1.2.1 pc = .ok (.invokevirtual 144, 3)) (hq : pc + 3 = q) (kk : ∀ (r : Option Value) (w' : va_W), Qr r w' → G E M (putAt ws is w') q lv (r.toList ++ rest)) : G E M ws pc lv st0 := g_callR hown ml_X4_144 mn_J0_length_8abf5 ms_J0_length_8abf5 mi_J0 mc_J0_length_8abf5 pd_J0_length_8abf5 (by decide) (fun s H locs _ ha _ hS => vk_recv ha.2.2.2.1.1 hi hS) hM hdd hlen is hnd hC hst hroom hdg hq kk
theorem gj_J0_335 {E : EN} {M : MF} {ws : va_W} {pc : Nat} {lv : List (Nat × Value)} {st0 : List Value} {d' q i : Nat} {As rest : List Value} {wc : va_W} {Qr : Option Value → va_W → Prop} (hi : i < 14) (hM : CT E yJ0_coder_7d493 cJ0_coder_7d493 1 (some .byte) d' (.ref (E.2.2.2.1 i) :: As) wc Qr) (hown : M.1.1 = RJ0) (hdd : d' + 1 ≤ M.2.1.2) (hlen : As.length = 0) (is : List Nat) (hnd : va_nd is = true) (hC : is.map (fun i => ws[i]?) = wc.map some) (hst : st0 = As.reverse ++ .ref (E.2.2.2.1 i) :: rest) (hroom : (rest.map fun v => v.category).sum ≤ 8) (hdg : decode M.1.2.1 pc = .ok (.invokevirtual 335, 3)) (hq : pc + 3 = q) (kk : ∀ (r : Option Value) (w' : va_W), Qr r w' → G E M (putAt ws is w') q lv (r.toList ++ rest)) : G E M ws pc lv st0 := g_callR hown ml_J0_335 mn_J0_coder_7d493 ms_J0_coder_7d493 mi_J0 mc_J0_coder_7d493 pd_J0_coder_7d493 (by decide) (fun s H locs _ ha _ hS => vk_recv ha.2.2.2.1.1 hi hS) hM hdd hlen is hnd hC hst hroom hdg hq kk
theorem gj_X4_148 {E : EN} {M : MF} {ws : va_W} {pc : Nat} {lv : List (Nat × Value)} {st0 : List Value} {d' q i : Nat} {As rest : List Value} {wc : va_W} {Qr : Option Value → va_W → Prop} (hi : i < 14) (hM : CT E yJ0_charAt_5068e cJ0_charAt_5068e 2 (some .char) d' (.ref (E.2.2.2.1 i) :: As) wc Qr) (hown : M.1.1 = RX4) (hdd : d' + 1 ≤ M.2.1.2) (hlen : As.length = 1) (is : List Nat) (hnd : va_nd is = true) (hC : is.map (fun i => ws[i]?) = wc.map some) (hst : st0 = As.reverse ++ .ref (E.2.2.2.1 i) :: rest) (hroom : (rest.map fun v => v.category).sum ≤ 8) (hdg : decode M.1.2.1 pc = .ok (.invokevirtual 148, 3)) (hq : pc + 3 = q) (kk : ∀ (r : Option Value) (w' : va_W), Qr r w' → G E M (putAt ws is w') q lv (r.toList ++ rest)) : G E M ws pc lv st0 := g_callR hown ml_X4_148 mn_J0_charAt_5068e ms_J0_charAt_5068e mi_J0 mc_J0_charAt_5068e pd_J0_charAt_5068e (by decide) (fun s H locs _ ha _ hS => vk_recv ha.2.2.2.1.1 hi hS) hM hdd hlen is hnd hC hst hroom hdg hq kk
theorem gj_J0_492 {E : EN} {M : MF} {ws : va_W} {pc : Nat} {lv : List (Nat × Value)} {st0 : List Value} {d' q i : Nat} {As rest : List Value} {wc : va_W} {Qr : Option Value → va_W → Prop} (hi : i < 14) (hM : CT E yJ0_isLatin1_aae02 cJ0_isLatin1_aae02 1 (some .boolean) d' (.ref (E.2.2.2.1 i) :: As) wc Qr) (hown : M.1.1 = RJ0) (hdd : d' + 1 ≤ M.2.1.2) (hlen : As.length = 0) (is : List Nat) (hnd : va_nd is = true) (hC : is.map (fun i => ws[i]?) = wc.map some) (hst : st0 = As.reverse ++ .ref (E.2.2.2.1 i) :: rest) (hroom : (rest.map fun v => v.category).sum ≤ 8) (hdg : decode M.1.2.1 pc = .ok (.invokevirtual 492, 3)) (hq : pc + 3 = q) (kk : ∀ (r : Option Value) (w' : va_W), Qr r w' → G E M (putAt ws is w') q lv (r.toList ++ rest)) : G E M ws pc lv st0 := g_callR hown ml_J0_492 mn_J0_isLatin1_aae02 ms_J0_isLatin1_aae02 mi_J0 mc_J0_isLatin1_aae02 pd_J0_isLatin1_aae02 (by decide) (fun s H locs _ ha _ hS => vk_recv ha.2.2.2.1.1 hi hS) hM hdd hlen is hnd hC hst hroom hdg hq kk
