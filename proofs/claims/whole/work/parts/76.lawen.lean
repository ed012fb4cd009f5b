theorem hA0 {s : State} : ∀ a : Nat, a < s.heap.size → ¬ (fun q : Nat => s.heap.size ≤ q) a := fun a h => Nat.not_le.mpr h
def FLT : List Cond := flatC (Jvm.Cond.and given_1 narrow_1)
def tmR (i : Nat) : Term := .string "PoundBoys$Reader" (sIdx.getD i 0)
theorem fl_ex : ∀ i, i < 14 → Cond.exactly (tmR i) "java/lang/String" ∈ FLT := by decide +kernel
theorem fl_co : ∀ i, i < 14 → Cond.eq (.field (tmR i) "java/lang/String" "coder" "B") (.int 0) ∈ FLT := by decide +kernel
theorem fl_ar : ∀ i, i < 14 → Cond.arrayOf (.field (tmR i) "java/lang/String" "value" "[B") .byte ∈ FLT := by decide +kernel
theorem fl_le : ∀ i, i < 14 → Cond.eq (.length (.field (tmR i) "java/lang/String" "value" "[B")) (.int (Int32.ofNat (sLen.getD i 0))) ∈ FLT := by decide +kernel
theorem fl_el : ∀ i, i < 14 → ∀ j, j < sLen.getD i 0 → Cond.eq (.elem (.field (tmR i) "java/lang/String" "value" "[B") (.int (Int32.ofNat j))) (.int ((sByt.getD i []).getD j 0)) ∈ FLT := by decide +kernel
theorem fl_n_0_1 : Cond.not (Cond.eq (tmR 0) (tmR 1)) ∈ FLT := List.mem_of_getElem? (i := 42) (by decide +kernel)
theorem fl_n_0_2 : Cond.not (Cond.eq (tmR 0) (tmR 2)) ∈ FLT := List.mem_of_getElem? (i := 51) (by decide +kernel)
theorem fl_n_0_3 : Cond.not (Cond.eq (tmR 0) (tmR 3)) ∈ FLT := List.mem_of_getElem? (i := 61) (by decide +kernel)
theorem fl_n_0_4 : Cond.not (Cond.eq (tmR 0) (tmR 4)) ∈ FLT := List.mem_of_getElem? (i := 73) (by decide +kernel)
theorem fl_n_0_5 : Cond.not (Cond.eq (tmR 0) (tmR 5)) ∈ FLT := List.mem_of_getElem? (i := 85) (by decide +kernel)
theorem fl_n_0_6 : Cond.not (Cond.eq (tmR 0) (tmR 6)) ∈ FLT := List.mem_of_getElem? (i := 98) (by decide +kernel)
theorem fl_n_0_7 : Cond.not (Cond.eq (tmR 0) (tmR 7)) ∈ FLT := List.mem_of_getElem? (i := 115) (by decide +kernel)
theorem fl_n_0_8 : Cond.not (Cond.eq (tmR 0) (tmR 8)) ∈ FLT := List.mem_of_getElem? (i := 131) (by decide +kernel)
theorem fl_n_0_9 : Cond.not (Cond.eq (tmR 0) (tmR 9)) ∈ FLT := List.mem_of_getElem? (i := 148) (by decide +kernel)
theorem fl_n_0_10 : Cond.not (Cond.eq (tmR 0) (tmR 10)) ∈ FLT := List.mem_of_getElem? (i := 166) (by decide +kernel)
theorem fl_n_0_11 : Cond.not (Cond.eq (tmR 0) (tmR 11)) ∈ FLT := List.mem_of_getElem? (i := 184) (by decide +kernel)
theorem fl_n_0_12 : Cond.not (Cond.eq (tmR 0) (tmR 12)) ∈ FLT := List.mem_of_getElem? (i := 204) (by decide +kernel)
theorem fl_n_0_13 : Cond.not (Cond.eq (tmR 0) (tmR 13)) ∈ FLT := List.mem_of_getElem? (i := 224) (by decide +kernel)
theorem fl_n_1_2 : Cond.not (Cond.eq (tmR 1) (tmR 2)) ∈ FLT := List.mem_of_getElem? (i := 52) (by decide +kernel)
theorem fl_n_1_3 : Cond.not (Cond.eq (tmR 1) (tmR 3)) ∈ FLT := List.mem_of_getElem? (i := 62) (by decide +kernel)
theorem fl_n_1_4 : Cond.not (Cond.eq (tmR 1) (tmR 4)) ∈ FLT := List.mem_of_getElem? (i := 74) (by decide +kernel)
theorem fl_n_1_5 : Cond.not (Cond.eq (tmR 1) (tmR 5)) ∈ FLT := List.mem_of_getElem? (i := 86) (by decide +kernel)
theorem fl_n_1_6 : Cond.not (Cond.eq (tmR 1) (tmR 6)) ∈ FLT := List.mem_of_getElem? (i := 99) (by decide +kernel)
theorem fl_n_1_7 : Cond.not (Cond.eq (tmR 1) (tmR 7)) ∈ FLT := List.mem_of_getElem? (i := 116) (by decide +kernel)
theorem fl_n_1_8 : Cond.not (Cond.eq (tmR 1) (tmR 8)) ∈ FLT := List.mem_of_getElem? (i := 132) (by decide +kernel)
theorem fl_n_1_9 : Cond.not (Cond.eq (tmR 1) (tmR 9)) ∈ FLT := List.mem_of_getElem? (i := 149) (by decide +kernel)
theorem fl_n_1_10 : Cond.not (Cond.eq (tmR 1) (tmR 10)) ∈ FLT := List.mem_of_getElem? (i := 167) (by decide +kernel)
theorem fl_n_1_11 : Cond.not (Cond.eq (tmR 1) (tmR 11)) ∈ FLT := List.mem_of_getElem? (i := 185) (by decide +kernel)
theorem fl_n_1_12 : Cond.not (Cond.eq (tmR 1) (tmR 12)) ∈ FLT := List.mem_of_getElem? (i := 205) (by decide +kernel)
theorem fl_n_1_13 : Cond.not (Cond.eq (tmR 1) (tmR 13)) ∈ FLT := List.mem_of_getElem? (i := 225) (by decide +kernel)
theorem fl_n_2_3 : Cond.not (Cond.eq (tmR 2) (tmR 3)) ∈ FLT := List.mem_of_getElem? (i := 63) (by decide +kernel)
theorem fl_n_2_4 : Cond.not (Cond.eq (tmR 2) (tmR 4)) ∈ FLT := List.mem_of_getElem? (i := 75) (by decide +kernel)
theorem fl_n_2_5 : Cond.not (Cond.eq (tmR 2) (tmR 5)) ∈ FLT := List.mem_of_getElem? (i := 87) (by decide +kernel)
theorem fl_n_2_6 : Cond.not (Cond.eq (tmR 2) (tmR 6)) ∈ FLT := List.mem_of_getElem? (i := 100) (by decide +kernel)
theorem fl_n_2_7 : Cond.not (Cond.eq (tmR 2) (tmR 7)) ∈ FLT := List.mem_of_getElem? (i := 117) (by decide +kernel)
theorem fl_n_2_8 : Cond.not (Cond.eq (tmR 2) (tmR 8)) ∈ FLT := List.mem_of_getElem? (i := 133) (by decide +kernel)
theorem fl_n_2_9 : Cond.not (Cond.eq (tmR 2) (tmR 9)) ∈ FLT := List.mem_of_getElem? (i := 150) (by decide +kernel)
theorem fl_n_2_10 : Cond.not (Cond.eq (tmR 2) (tmR 10)) ∈ FLT := List.mem_of_getElem? (i := 168) (by decide +kernel)
theorem fl_n_2_11 : Cond.not (Cond.eq (tmR 2) (tmR 11)) ∈ FLT := List.mem_of_getElem? (i := 186) (by decide +kernel)
theorem fl_n_2_12 : Cond.not (Cond.eq (tmR 2) (tmR 12)) ∈ FLT := List.mem_of_getElem? (i := 206) (by decide +kernel)
theorem fl_n_2_13 : Cond.not (Cond.eq (tmR 2) (tmR 13)) ∈ FLT := List.mem_of_getElem? (i := 226) (by decide +kernel)
theorem fl_n_3_4 : Cond.not (Cond.eq (tmR 3) (tmR 4)) ∈ FLT := List.mem_of_getElem? (i := 76) (by decide +kernel)
theorem fl_n_3_5 : Cond.not (Cond.eq (tmR 3) (tmR 5)) ∈ FLT := List.mem_of_getElem? (i := 88) (by decide +kernel)
theorem fl_n_3_6 : Cond.not (Cond.eq (tmR 3) (tmR 6)) ∈ FLT := List.mem_of_getElem? (i := 101) (by decide +kernel)
theorem fl_n_3_7 : Cond.not (Cond.eq (tmR 3) (tmR 7)) ∈ FLT := List.mem_of_getElem? (i := 118) (by decide +kernel)
theorem fl_n_3_8 : Cond.not (Cond.eq (tmR 3) (tmR 8)) ∈ FLT := List.mem_of_getElem? (i := 134) (by decide +kernel)
theorem fl_n_3_9 : Cond.not (Cond.eq (tmR 3) (tmR 9)) ∈ FLT := List.mem_of_getElem? (i := 151) (by decide +kernel)
theorem fl_n_3_10 : Cond.not (Cond.eq (tmR 3) (tmR 10)) ∈ FLT := List.mem_of_getElem? (i := 169) (by decide +kernel)
theorem fl_n_3_11 : Cond.not (Cond.eq (tmR 3) (tmR 11)) ∈ FLT := List.mem_of_getElem? (i := 187) (by decide +kernel)
theorem fl_n_3_12 : Cond.not (Cond.eq (tmR 3) (tmR 12)) ∈ FLT := List.mem_of_getElem? (i := 207) (by decide +kernel)
theorem fl_n_3_13 : Cond.not (Cond.eq (tmR 3) (tmR 13)) ∈ FLT := List.mem_of_getElem? (i := 227) (by decide +kernel)
theorem fl_n_4_5 : Cond.not (Cond.eq (tmR 4) (tmR 5)) ∈ FLT := List.mem_of_getElem? (i := 89) (by decide +kernel)
theorem fl_n_4_6 : Cond.not (Cond.eq (tmR 4) (tmR 6)) ∈ FLT := List.mem_of_getElem? (i := 102) (by decide +kernel)
theorem fl_n_4_7 : Cond.not (Cond.eq (tmR 4) (tmR 7)) ∈ FLT := List.mem_of_getElem? (i := 119) (by decide +kernel)
theorem fl_n_4_8 : Cond.not (Cond.eq (tmR 4) (tmR 8)) ∈ FLT := List.mem_of_getElem? (i := 135) (by decide +kernel)
theorem fl_n_4_9 : Cond.not (Cond.eq (tmR 4) (tmR 9)) ∈ FLT := List.mem_of_getElem? (i := 152) (by decide +kernel)
theorem fl_n_4_10 : Cond.not (Cond.eq (tmR 4) (tmR 10)) ∈ FLT := List.mem_of_getElem? (i := 170) (by decide +kernel)
theorem fl_n_4_11 : Cond.not (Cond.eq (tmR 4) (tmR 11)) ∈ FLT := List.mem_of_getElem? (i := 188) (by decide +kernel)
theorem fl_n_4_12 : Cond.not (Cond.eq (tmR 4) (tmR 12)) ∈ FLT := List.mem_of_getElem? (i := 208) (by decide +kernel)
theorem fl_n_4_13 : Cond.not (Cond.eq (tmR 4) (tmR 13)) ∈ FLT := List.mem_of_getElem? (i := 228) (by decide +kernel)
theorem fl_n_5_6 : Cond.not (Cond.eq (tmR 5) (tmR 6)) ∈ FLT := List.mem_of_getElem? (i := 103) (by decide +kernel)
theorem fl_n_5_7 : Cond.not (Cond.eq (tmR 5) (tmR 7)) ∈ FLT := List.mem_of_getElem? (i := 120) (by decide +kernel)
theorem fl_n_5_8 : Cond.not (Cond.eq (tmR 5) (tmR 8)) ∈ FLT := List.mem_of_getElem? (i := 136) (by decide +kernel)
theorem fl_n_5_9 : Cond.not (Cond.eq (tmR 5) (tmR 9)) ∈ FLT := List.mem_of_getElem? (i := 153) (by decide +kernel)
theorem fl_n_5_10 : Cond.not (Cond.eq (tmR 5) (tmR 10)) ∈ FLT := List.mem_of_getElem? (i := 171) (by decide +kernel)
theorem fl_n_5_11 : Cond.not (Cond.eq (tmR 5) (tmR 11)) ∈ FLT := List.mem_of_getElem? (i := 189) (by decide +kernel)
theorem fl_n_5_12 : Cond.not (Cond.eq (tmR 5) (tmR 12)) ∈ FLT := List.mem_of_getElem? (i := 209) (by decide +kernel)
theorem fl_n_5_13 : Cond.not (Cond.eq (tmR 5) (tmR 13)) ∈ FLT := List.mem_of_getElem? (i := 229) (by decide +kernel)
theorem fl_n_6_7 : Cond.not (Cond.eq (tmR 6) (tmR 7)) ∈ FLT := List.mem_of_getElem? (i := 121) (by decide +kernel)
theorem fl_n_6_8 : Cond.not (Cond.eq (tmR 6) (tmR 8)) ∈ FLT := List.mem_of_getElem? (i := 137) (by decide +kernel)
theorem fl_n_6_9 : Cond.not (Cond.eq (tmR 6) (tmR 9)) ∈ FLT := List.mem_of_getElem? (i := 154) (by decide +kernel)
theorem fl_n_6_10 : Cond.not (Cond.eq (tmR 6) (tmR 10)) ∈ FLT := List.mem_of_getElem? (i := 172) (by decide +kernel)
theorem fl_n_6_11 : Cond.not (Cond.eq (tmR 6) (tmR 11)) ∈ FLT := List.mem_of_getElem? (i := 190) (by decide +kernel)
theorem fl_n_6_12 : Cond.not (Cond.eq (tmR 6) (tmR 12)) ∈ FLT := List.mem_of_getElem? (i := 210) (by decide +kernel)
theorem fl_n_6_13 : Cond.not (Cond.eq (tmR 6) (tmR 13)) ∈ FLT := List.mem_of_getElem? (i := 230) (by decide +kernel)
theorem fl_n_7_8 : Cond.not (Cond.eq (tmR 7) (tmR 8)) ∈ FLT := List.mem_of_getElem? (i := 138) (by decide +kernel)
theorem fl_n_7_9 : Cond.not (Cond.eq (tmR 7) (tmR 9)) ∈ FLT := List.mem_of_getElem? (i := 155) (by decide +kernel)
theorem fl_n_7_10 : Cond.not (Cond.eq (tmR 7) (tmR 10)) ∈ FLT := List.mem_of_getElem? (i := 173) (by decide +kernel)
theorem fl_n_7_11 : Cond.not (Cond.eq (tmR 7) (tmR 11)) ∈ FLT := List.mem_of_getElem? (i := 191) (by decide +kernel)
theorem fl_n_7_12 : Cond.not (Cond.eq (tmR 7) (tmR 12)) ∈ FLT := List.mem_of_getElem? (i := 211) (by decide +kernel)
theorem fl_n_7_13 : Cond.not (Cond.eq (tmR 7) (tmR 13)) ∈ FLT := List.mem_of_getElem? (i := 231) (by decide +kernel)
theorem fl_n_8_9 : Cond.not (Cond.eq (tmR 8) (tmR 9)) ∈ FLT := List.mem_of_getElem? (i := 156) (by decide +kernel)
theorem fl_n_8_10 : Cond.not (Cond.eq (tmR 8) (tmR 10)) ∈ FLT := List.mem_of_getElem? (i := 174) (by decide +kernel)
theorem fl_n_8_11 : Cond.not (Cond.eq (tmR 8) (tmR 11)) ∈ FLT := List.mem_of_getElem? (i := 192) (by decide +kernel)
theorem fl_n_8_12 : Cond.not (Cond.eq (tmR 8) (tmR 12)) ∈ FLT := List.mem_of_getElem? (i := 212) (by decide +kernel)
theorem fl_n_8_13 : Cond.not (Cond.eq (tmR 8) (tmR 13)) ∈ FLT := List.mem_of_getElem? (i := 232) (by decide +kernel)
theorem fl_n_9_10 : Cond.not (Cond.eq (tmR 9) (tmR 10)) ∈ FLT := List.mem_of_getElem? (i := 175) (by decide +kernel)
theorem fl_n_9_11 : Cond.not (Cond.eq (tmR 9) (tmR 11)) ∈ FLT := List.mem_of_getElem? (i := 193) (by decide +kernel)
theorem fl_n_9_12 : Cond.not (Cond.eq (tmR 9) (tmR 12)) ∈ FLT := List.mem_of_getElem? (i := 213) (by decide +kernel)
theorem fl_n_9_13 : Cond.not (Cond.eq (tmR 9) (tmR 13)) ∈ FLT := List.mem_of_getElem? (i := 233) (by decide +kernel)
theorem fl_n_10_11 : Cond.not (Cond.eq (tmR 10) (tmR 11)) ∈ FLT := List.mem_of_getElem? (i := 194) (by decide +kernel)
theorem fl_n_10_12 : Cond.not (Cond.eq (tmR 10) (tmR 12)) ∈ FLT := List.mem_of_getElem? (i := 214) (by decide +kernel)
theorem fl_n_10_13 : Cond.not (Cond.eq (tmR 10) (tmR 13)) ∈ FLT := List.mem_of_getElem? (i := 234) (by decide +kernel)
theorem fl_n_11_12 : Cond.not (Cond.eq (tmR 11) (tmR 12)) ∈ FLT := List.mem_of_getElem? (i := 215) (by decide +kernel)
theorem fl_n_11_13 : Cond.not (Cond.eq (tmR 11) (tmR 13)) ∈ FLT := List.mem_of_getElem? (i := 235) (by decide +kernel)
theorem fl_n_12_13 : Cond.not (Cond.eq (tmR 12) (tmR 13)) ∈ FLT := List.mem_of_getElem? (i := 236) (by decide +kernel)
theorem fl_lt : ∀ i, i < 14 → ∀ j, j < 14 → i < j → Cond.not (Cond.eq (tmR i) (tmR j)) ∈ FLT := by
  intro i hi j hj h
  rcases (show i = 0 ∨ i = 1 ∨ i = 2 ∨ i = 3 ∨ i = 4 ∨ i = 5 ∨ i = 6 ∨ i = 7 ∨ i = 8 ∨ i = 9 ∨ i = 10 ∨ i = 11 ∨ i = 12 ∨ i = 13 by omega) with rfl | rfl | rfl | rfl | rfl | rfl | rfl | rfl | rfl | rfl | rfl | rfl | rfl | rfl
  · rcases (show j = 0 ∨ j = 1 ∨ j = 2 ∨ j = 3 ∨ j = 4 ∨ j = 5 ∨ j = 6 ∨ j = 7 ∨ j = 8 ∨ j = 9 ∨ j = 10 ∨ j = 11 ∨ j = 12 ∨ j = 13 by omega) with rfl | rfl | rfl | rfl | rfl | rfl | rfl | rfl | rfl | rfl | rfl | rfl | rfl | rfl
    · exact absurd h (by decide)
    · exact fl_n_0_1
    · exact fl_n_0_2
    · exact fl_n_0_3
    · exact fl_n_0_4
    · exact fl_n_0_5
    · exact fl_n_0_6
    · exact fl_n_0_7
    · exact fl_n_0_8
    · exact fl_n_0_9
    · exact fl_n_0_10
    · exact fl_n_0_11
    · exact fl_n_0_12
    · exact fl_n_0_13
  · rcases (show j = 0 ∨ j = 1 ∨ j = 2 ∨ j = 3 ∨ j = 4 ∨ j = 5 ∨ j = 6 ∨ j = 7 ∨ j = 8 ∨ j = 9 ∨ j = 10 ∨ j = 11 ∨ j = 12 ∨ j = 13 by omega) with rfl | rfl | rfl | rfl | rfl | rfl | rfl | rfl | rfl | rfl | rfl | rfl | rfl | rfl
    · exact absurd h (by decide)
    · exact absurd h (by decide)
    · exact fl_n_1_2
    · exact fl_n_1_3
    · exact fl_n_1_4
    · exact fl_n_1_5
    · exact fl_n_1_6
    · exact fl_n_1_7
    · exact fl_n_1_8
    · exact fl_n_1_9
    · exact fl_n_1_10
    · exact fl_n_1_11
    · exact fl_n_1_12
    · exact fl_n_1_13
  · rcases (show j = 0 ∨ j = 1 ∨ j = 2 ∨ j = 3 ∨ j = 4 ∨ j = 5 ∨ j = 6 ∨ j = 7 ∨ j = 8 ∨ j = 9 ∨ j = 10 ∨ j = 11 ∨ j = 12 ∨ j = 13 by omega) with rfl | rfl | rfl | rfl | rfl | rfl | rfl | rfl | rfl | rfl | rfl | rfl | rfl | rfl
    · exact absurd h (by decide)
    · exact absurd h (by decide)
    · exact absurd h (by decide)
    · exact fl_n_2_3
    · exact fl_n_2_4
    · exact fl_n_2_5
    · exact fl_n_2_6
    · exact fl_n_2_7
    · exact fl_n_2_8
    · exact fl_n_2_9
    · exact fl_n_2_10
    · exact fl_n_2_11
    · exact fl_n_2_12
    · exact fl_n_2_13
  · rcases (show j = 0 ∨ j = 1 ∨ j = 2 ∨ j = 3 ∨ j = 4 ∨ j = 5 ∨ j = 6 ∨ j = 7 ∨ j = 8 ∨ j = 9 ∨ j = 10 ∨ j = 11 ∨ j = 12 ∨ j = 13 by omega) with rfl | rfl | rfl | rfl | rfl | rfl | rfl | rfl | rfl | rfl | rfl | rfl | rfl | rfl
    · exact absurd h (by decide)
    · exact absurd h (by decide)
    · exact absurd h (by decide)
    · exact absurd h (by decide)
    · exact fl_n_3_4
    · exact fl_n_3_5
    · exact fl_n_3_6
    · exact fl_n_3_7
    · exact fl_n_3_8
    · exact fl_n_3_9
    · exact fl_n_3_10
    · exact fl_n_3_11
    · exact fl_n_3_12
    · exact fl_n_3_13
  · rcases (show j = 0 ∨ j = 1 ∨ j = 2 ∨ j = 3 ∨ j = 4 ∨ j = 5 ∨ j = 6 ∨ j = 7 ∨ j = 8 ∨ j = 9 ∨ j = 10 ∨ j = 11 ∨ j = 12 ∨ j = 13 by omega) with rfl | rfl | rfl | rfl | rfl | rfl | rfl | rfl | rfl | rfl | rfl | rfl | rfl | rfl
    · exact absurd h (by decide)
    · exact absurd h (by decide)
    · exact absurd h (by decide)
    · exact absurd h (by decide)
    · exact absurd h (by decide)
    · exact fl_n_4_5
    · exact fl_n_4_6
    · exact fl_n_4_7
    · exact fl_n_4_8
    · exact fl_n_4_9
    · exact fl_n_4_10
    · exact fl_n_4_11
    · exact fl_n_4_12
    · exact fl_n_4_13
  · rcases (show j = 0 ∨ j = 1 ∨ j = 2 ∨ j = 3 ∨ j = 4 ∨ j = 5 ∨ j = 6 ∨ j = 7 ∨ j = 8 ∨ j = 9 ∨ j = 10 ∨ j = 11 ∨ j = 12 ∨ j = 13 by omega) with rfl | rfl | rfl | rfl | rfl | rfl | rfl | rfl | rfl | rfl | rfl | rfl | rfl | rfl
    · exact absurd h (by decide)
    · exact absurd h (by decide)
    · exact absurd h (by decide)
    · exact absurd h (by decide)
    · exact absurd h (by decide)
    · exact absurd h (by decide)
    · exact fl_n_5_6
    · exact fl_n_5_7
    · exact fl_n_5_8
    · exact fl_n_5_9
    · exact fl_n_5_10
    · exact fl_n_5_11
    · exact fl_n_5_12
    · exact fl_n_5_13
  · rcases (show j = 0 ∨ j = 1 ∨ j = 2 ∨ j = 3 ∨ j = 4 ∨ j = 5 ∨ j = 6 ∨ j = 7 ∨ j = 8 ∨ j = 9 ∨ j = 10 ∨ j = 11 ∨ j = 12 ∨ j = 13 by omega) with rfl | rfl | rfl | rfl | rfl | rfl | rfl | rfl | rfl | rfl | rfl | rfl | rfl | rfl
    · exact absurd h (by decide)
    · exact absurd h (by decide)
    · exact absurd h (by decide)
    · exact absurd h (by decide)
    · exact absurd h (by decide)
    · exact absurd h (by decide)
    · exact absurd h (by decide)
    · exact fl_n_6_7
    · exact fl_n_6_8
    · exact fl_n_6_9
    · exact fl_n_6_10
    · exact fl_n_6_11
    · exact fl_n_6_12
    · exact fl_n_6_13
  · rcases (show j = 0 ∨ j = 1 ∨ j = 2 ∨ j = 3 ∨ j = 4 ∨ j = 5 ∨ j = 6 ∨ j = 7 ∨ j = 8 ∨ j = 9 ∨ j = 10 ∨ j = 11 ∨ j = 12 ∨ j = 13 by omega) with rfl | rfl | rfl | rfl | rfl | rfl | rfl | rfl | rfl | rfl | rfl | rfl | rfl | rfl
    · exact absurd h (by decide)
    · exact absurd h (by decide)
    · exact absurd h (by decide)
    · exact absurd h (by decide)
    · exact absurd h (by decide)
    · exact absurd h (by decide)
    · exact absurd h (by decide)
    · exact absurd h (by decide)
    · exact fl_n_7_8
    · exact fl_n_7_9
    · exact fl_n_7_10
    · exact fl_n_7_11
    · exact fl_n_7_12
    · exact fl_n_7_13
  · rcases (show j = 0 ∨ j = 1 ∨ j = 2 ∨ j = 3 ∨ j = 4 ∨ j = 5 ∨ j = 6 ∨ j = 7 ∨ j = 8 ∨ j = 9 ∨ j = 10 ∨ j = 11 ∨ j = 12 ∨ j = 13 by omega) with rfl | rfl | rfl | rfl | rfl | rfl | rfl | rfl | rfl | rfl | rfl | rfl | rfl | rfl
    · exact absurd h (by decide)
    · exact absurd h (by decide)
    · exact absurd h (by decide)
    · exact absurd h (by decide)
    · exact absurd h (by decide)
    · exact absurd h (by decide)
    · exact absurd h (by decide)
    · exact absurd h (by decide)
    · exact absurd h (by decide)
    · exact fl_n_8_9
    · exact fl_n_8_10
    · exact fl_n_8_11
    · exact fl_n_8_12
    · exact fl_n_8_13
  · rcases (show j = 0 ∨ j = 1 ∨ j = 2 ∨ j = 3 ∨ j = 4 ∨ j = 5 ∨ j = 6 ∨ j = 7 ∨ j = 8 ∨ j = 9 ∨ j = 10 ∨ j = 11 ∨ j = 12 ∨ j = 13 by omega) with rfl | rfl | rfl | rfl | rfl | rfl | rfl | rfl | rfl | rfl | rfl | rfl | rfl | rfl
    · exact absurd h (by decide)
    · exact absurd h (by decide)
    · exact absurd h (by decide)
    · exact absurd h (by decide)
    · exact absurd h (by decide)
    · exact absurd h (by decide)
    · exact absurd h (by decide)
    · exact absurd h (by decide)
    · exact absurd h (by decide)
    · exact absurd h (by decide)
    · exact fl_n_9_10
    · exact fl_n_9_11
    · exact fl_n_9_12
    · exact fl_n_9_13
  · rcases (show j = 0 ∨ j = 1 ∨ j = 2 ∨ j = 3 ∨ j = 4 ∨ j = 5 ∨ j = 6 ∨ j = 7 ∨ j = 8 ∨ j = 9 ∨ j = 10 ∨ j = 11 ∨ j = 12 ∨ j = 13 by omega) with rfl | rfl | rfl | rfl | rfl | rfl | rfl | rfl | rfl | rfl | rfl | rfl | rfl | rfl
    · exact absurd h (by decide)
    · exact absurd h (by decide)
    · exact absurd h (by decide)
    · exact absurd h (by decide)
    · exact absurd h (by decide)
    · exact absurd h (by decide)
    · exact absurd h (by decide)
    · exact absurd h (by decide)
    · exact absurd h (by decide)
    · exact absurd h (by decide)
    · exact absurd h (by decide)
    · exact fl_n_10_11
    · exact fl_n_10_12
    · exact fl_n_10_13
  · rcases (show j = 0 ∨ j = 1 ∨ j = 2 ∨ j = 3 ∨ j = 4 ∨ j = 5 ∨ j = 6 ∨ j = 7 ∨ j = 8 ∨ j = 9 ∨ j = 10 ∨ j = 11 ∨ j = 12 ∨ j = 13 by omega) with rfl | rfl | rfl | rfl | rfl | rfl | rfl | rfl | rfl | rfl | rfl | rfl | rfl | rfl
    · exact absurd h (by decide)
    · exact absurd h (by decide)
    · exact absurd h (by decide)
    · exact absurd h (by decide)
    · exact absurd h (by decide)
    · exact absurd h (by decide)
    · exact absurd h (by decide)
    · exact absurd h (by decide)
    · exact absurd h (by decide)
    · exact absurd h (by decide)
    · exact absurd h (by decide)
    · exact absurd h (by decide)
    · exact fl_n_11_12
    · exact fl_n_11_13
  · rcases (show j = 0 ∨ j = 1 ∨ j = 2 ∨ j = 3 ∨ j = 4 ∨ j = 5 ∨ j = 6 ∨ j = 7 ∨ j = 8 ∨ j = 9 ∨ j = 10 ∨ j = 11 ∨ j = 12 ∨ j = 13 by omega) with rfl | rfl | rfl | rfl | rfl | rfl | rfl | rfl | rfl | rfl | rfl | rfl | rfl | rfl
    · exact absurd h (by decide)
    · exact absurd h (by decide)
    · exact absurd h (by decide)
    · exact absurd h (by decide)
    · exact absurd h (by decide)
    · exact absurd h (by decide)
    · exact absurd h (by decide)
    · exact absurd h (by decide)
    · exact absurd h (by decide)
    · exact absurd h (by decide)
    · exact absurd h (by decide)
    · exact absurd h (by decide)
    · exact absurd h (by decide)
    · exact fl_n_12_13
  · rcases (show j = 0 ∨ j = 1 ∨ j = 2 ∨ j = 3 ∨ j = 4 ∨ j = 5 ∨ j = 6 ∨ j = 7 ∨ j = 8 ∨ j = 9 ∨ j = 10 ∨ j = 11 ∨ j = 12 ∨ j = 13 by omega) with rfl | rfl | rfl | rfl | rfl | rfl | rfl | rfl | rfl | rfl | rfl | rfl | rfl | rfl
    · exact absurd h (by decide)
    · exact absurd h (by decide)
    · exact absurd h (by decide)
    · exact absurd h (by decide)
    · exact absurd h (by decide)
    · exact absurd h (by decide)
    · exact absurd h (by decide)
    · exact absurd h (by decide)
    · exact absurd h (by decide)
    · exact absurd h (by decide)
    · exact absurd h (by decide)
    · exact absurd h (by decide)
    · exact absurd h (by decide)
    · exact absurd h (by decide)
theorem fl_ne : ∀ i, i < 14 → ∀ j, j < 14 → i ≠ j → (Cond.not (Cond.eq (tmR i) (tmR j)) ∈ FLT ∨ Cond.not (Cond.eq (tmR j) (tmR i)) ∈ FLT) := by
  intro i hi j hj h
  rcases Nat.lt_or_gt_of_ne h with q | q
  · exact Or.inl (fl_lt i hi j hj q)
  · exact Or.inr (fl_lt j hj i hi q)
theorem fl_ge : ∀ j, j < 4 → Cond.eq (.elem (.static "PoundBoys" "GROWTH" "[I") (.int (Int32.ofNat j))) (.int (grF j)) ∈ FLT := by decide +kernel
theorem fl_ke : ∀ j, j < 5 → Cond.eq (.elem (.static "PoundBoys" "KIND_OVER" "[I") (.int (Int32.ofNat j))) (.int (koF j)) ∈ FLT := by decide +kernel
theorem fl_g1 : Cond.arrayOf (.static "PoundBoys" "GROWTH" "[I") .int ∈ FLT := by decide +kernel
theorem fl_g2 : Cond.eq (.length (.static "PoundBoys" "GROWTH" "[I")) (.int (Int32.ofNat 4)) ∈ FLT := by decide +kernel
theorem fl_k1 : Cond.arrayOf (.static "PoundBoys" "KIND_OVER" "[I") .int ∈ FLT := by decide +kernel
theorem fl_k2 : Cond.eq (.length (.static "PoundBoys" "KIND_OVER" "[I")) (.int (Int32.ofNat 5)) ∈ FLT := by decide +kernel
theorem fl_c : Cond.eq (.static "java/lang/String" "COMPACT_STRINGS" "Z") (.int 1) ∈ FLT := by decide +kernel
theorem fl_f : Cond.isRef (.static "jdk/internal/util/Preconditions" "SIOOBE_FORMATTER" "Ljava/util/function/BiFunction;") ∈ FLT := by decide +kernel
theorem lt_ls : ∀ w ∈ ([.laysStatic "PoundBoys" "GROWTH" "[I", .laysStatic "PoundBoys" "KIND_OVER" "[I", .laysStatic "java/lang/String" "COMPACT_STRINGS" "Z", .laysStatic "jdk/internal/util/Preconditions" "SIOOBE_FORMATTER" "Ljava/util/function/BiFunction;", .initialized "PoundBoys", .initialized "java/lang/String", .initialized "jdk/internal/util/Preconditions", .methodLinkNest "PoundBoys$Folk" 43 yX9_poundsOf "PoundBoys", .methodLinkNest "PoundBoys$Calendar" 32 yX9_fedWeight "PoundBoys", .fieldLinkNest "PoundBoys$Folk" 51 "PoundBoys" "KIND_OVER" "[I" "PoundBoys", .fieldLinkNest "PoundBoys$Calendar" 56 "PoundBoys" "GROWTH" "[I" "PoundBoys", .arrayOver (.object "PoundBoys$Folk"), .arrayClass .int, .arrayClass .byte, .arrayClass .boolean] : List Cond), w ∈ lw_tbl := by decide +kernel
theorem lt_st : ∀ i, i < 14 → Cond.stringRef "PoundBoys$Reader" (sIdx.getD i 0) (sTxt.getD i "") ∈ lw_tbl := by decide +kernel
theorem lt_nw : ∀ q ∈ nwL, Cond.methodLinkNest q.1 q.2.1 q.2.2 "PoundBoys" ∈ lw_tbl := by decide +kernel
set_option maxHeartbeats 4000000 in
set_option maxRecDepth 100000 in
theorem law_ent {s : State} {b : Nat} (l : Launch) (hts : ∀ w ∈ lw_tbl, w.before #[Value.ref b] s = true) (hgv : (Jvm.Cond.and given_1 narrow_1).before #[Value.ref b] s = true) : ∃ E : EN, E.1.2 = l ∧ va_K E.1.1 vwCl (tyE E) s ∧ amb E (fun q : Nat => s.heap.size ≤ q) s s.heap ∧ nwOK s := by
  have hf := flat_of_before _ hgv
  have hls : ∀ w : Cond, w ∈ lw_tbl → w.before #[Value.ref b] s = true := hts
  have htb : ∀ w ∈ TB, w.before #[Value.ref b] s = true := fun w hw => hts w (List.mem_filter.mp hw).1
  have hq : ∀ (i : Nat) (w : Cond), ([.laysStatic "PoundBoys" "GROWTH" "[I", .laysStatic "PoundBoys" "KIND_OVER" "[I", .laysStatic "java/lang/String" "COMPACT_STRINGS" "Z", .laysStatic "jdk/internal/util/Preconditions" "SIOOBE_FORMATTER" "Ljava/util/function/BiFunction;", .initialized "PoundBoys", .initialized "java/lang/String", .initialized "jdk/internal/util/Preconditions", .methodLinkNest "PoundBoys$Folk" 43 yX9_poundsOf "PoundBoys", .methodLinkNest "PoundBoys$Calendar" 32 yX9_fedWeight "PoundBoys", .fieldLinkNest "PoundBoys$Folk" 51 "PoundBoys" "KIND_OVER" "[I" "PoundBoys", .fieldLinkNest "PoundBoys$Calendar" 56 "PoundBoys" "GROWTH" "[I" "PoundBoys", .arrayOver (.object "PoundBoys$Folk"), .arrayClass .int, .arrayClass .byte, .arrayClass .boolean] : List Cond)[i]? = some w → w.before #[Value.ref b] s = true := fun i w h => hts w (lt_ls w (List.mem_of_getElem? h))
  obtain ⟨c0, i0, hk0⟩ := u_known (C := RX0) (T := TX0) (N := 1) (n := 1) htb inX0 (htb _ it_X0)
  obtain ⟨c1, i1, hk1⟩ := u_known (C := RX1) (T := TX1) (N := 3) (n := 3) htb inX1 (htb _ it_X1)
  obtain ⟨c2, i2, hk2⟩ := u_known (C := RX2) (T := TX2) (N := 8) (n := 8) htb inX2 (htb _ it_X2)
  obtain ⟨c3, i3, hk3⟩ := u_known (C := RX3) (T := TX3) (N := 9) (n := 9) htb inX3 (htb _ it_X3)
  obtain ⟨c4, i4, hk4⟩ := u_known (C := RX4) (T := TX4) (N := 7) (n := 7) htb inX4 (htb _ it_X4)
  obtain ⟨c5, i5, hk5⟩ := u_known (C := RX5) (T := TX5) (N := 7) (n := 7) htb inX5 (htb _ it_X5)
  obtain ⟨c6, i6, hk6⟩ := u_known (C := RX6) (T := TX6) (N := 5) (n := 5) htb inX6 (htb _ it_X6)
  obtain ⟨c7, i7, hk7⟩ := u_known (C := RX7) (T := TX7) (N := 4) (n := 4) htb inX7 (htb _ it_X7)
  obtain ⟨c8, i8, hk8⟩ := u_known (C := RX8) (T := TX8) (N := 2) (n := 2) htb inX8 (htb _ it_X8)
  obtain ⟨c9, i9, hk9⟩ := u_known (C := RX9) (T := TX9) (N := 14) (n := 14) htb inX9 (htb _ it_X9)
  obtain ⟨c10, i10, hk10⟩ := u_known (C := RX10) (T := TX10) (N := 35) (n := 35) htb inX10 (htb _ it_X10)
  obtain ⟨dC, dI, hKc⟩ : ∃ (dC : Nat → ClassId) (dI : Nat → Nat → Nat), ∀ (k : Nat) (q : vw_C), vwCl[k]? = some q → u_Kn s q.1 q.2.1 q.2.2 (dC k) (dI k) := by
    refine ⟨fun k => if k = 0 then c0 else if k = 1 then c1 else if k = 2 then c2 else if k = 3 then c3 else if k = 4 then c4 else if k = 5 then c5 else if k = 6 then c6 else if k = 7 then c7 else if k = 8 then c8 else if k = 9 then c9 else c10, fun k => if k = 0 then i0 else if k = 1 then i1 else if k = 2 then i2 else if k = 3 then i3 else if k = 4 then i4 else if k = 5 then i5 else if k = 6 then i6 else if k = 7 then i7 else if k = 8 then i8 else if k = 9 then i9 else i10, ?_⟩
    intro k q hq
    match k, hq with
    | 0, hq => cases hq; exact hk0
    | 1, hq => cases hq; exact hk1
    | 2, hq => cases hq; exact hk2
    | 3, hq => cases hq; exact hk3
    | 4, hq => cases hq; exact hk4
    | 5, hq => cases hq; exact hk5
    | 6, hq => cases hq; exact hk6
    | 7, hq => cases hq; exact hk7
    | 8, hq => cases hq; exact hk8
    | 9, hq => cases hq; exact hk9
    | 10, hq => cases hq; exact hk10
    | k + 11, hq => simp [vwCl] at hq
  obtain ⟨cI, kI, mI, f1, f2, f3⟩ := Cond.arrayClass_spec (hq 12 _ rfl)
  obtain ⟨cB, kB, mB, g1, g2, g3⟩ := Cond.arrayClass_spec (hq 13 _ rfl)
  obtain ⟨cZ, kZ, mZ, h1, h2, h3⟩ := Cond.arrayClass_spec (hq 14 _ rfl)
  obtain ⟨oF, cF, kF, j1, j2, j3, j4, j5⟩ := Cond.arrayOver_spec (hq 11 _ rfl)
  obtain ⟨tG, hG, hTG⟩ := va_Tof (f := fun j => .int (grF j)) (A := fun q : Nat => s.heap.size ≤ q) (N := 4) (by decide) (hf _ fl_g1) (va_eqt (hf _ fl_g2)) (fun j hj => va_eqt (hf _ (fl_ge j hj))) hA0
  obtain ⟨tK, hK, hTK⟩ := va_Tof (f := fun j => .int (koF j)) (A := fun q : Nat => s.heap.size ≤ q) (N := 5) (by decide) (hf _ fl_k1) (va_eqt (hf _ fl_k2)) (fun j hj => va_eqt (hf _ (fl_ke j hj))) hA0
  obtain ⟨aK, aV, hS, hSe⟩ := vk_Sof (args := #[Value.ref b]) (s := s) (N := 14) (tm := tmR) (len := sLen) (byt := sByt) (A := fun q : Nat => s.heap.size ≤ q) (by decide) (fun i hi => hf _ (fl_ex i hi)) (fun i hi => hf _ (fl_co i hi)) (fun i hi => hf _ (fl_ar i hi)) (fun i hi => hf _ (fl_le i hi)) (fun i hi j hj => hf _ (fl_el i hi j hj)) (fun i j hi hj hij => (fl_ne i hi j hj hij).elim (fun h => Or.inl (hf _ h)) (fun h => Or.inr (hf _ h))) hA0
  refine ⟨(((dC, dI), l), (cI, cB, cZ, cF), (tG, tK), (aK, aV)), rfl, ⟨hKc, ?_⟩, ?_, fun q hq => va_Nw.of rfl (hts _ (lt_nw q hq)), va_AO.of (hq 11 _ rfl)⟩
  · intro k q hk
    match k, hk with
    | 0, hk => cases hk; exact ⟨fun n z => ⟨fun k h => (by cases h), kI, f2, mI, f3⟩, f1⟩
    | 1, hk => cases hk; exact ⟨fun n z => ⟨fun k h => (by cases h), kB, g2, mB, g3⟩, g1⟩
    | 2, hk => cases hk; exact ⟨fun n z => ⟨fun k h => (by cases h), kZ, h2, mZ, h3⟩, h1⟩
    | 3, hk => cases hk; exact ⟨fun n z => ⟨fun k h => (by cases h), kF, j3, oF, j4⟩, kF, oF, j3, j4, j1, j5⟩
    | k + 4, hk => simp [tyE] at hk
  · exact ⟨⟨va_Zref (hq 0 _ rfl) (hq 4 _ rfl) hG hA0, hTG⟩, ⟨va_Zref (hq 1 _ rfl) (hq 4 _ rfl) hK hA0, hTK⟩, ⟨va_Zof (hq 2 _ rfl) (hq 5 _ rfl) (va_eqi (hf _ fl_c)) hA0, va_Zqof (hq 3 _ rfl) (hq 6 _ rfl) (hf _ fl_f) hA0⟩, ⟨hS, fun i hi => vk_R.of (hts _ (lt_st i hi)) (hSe i hi)⟩, va_Nw.of rfl (hq 7 _ rfl), va_Nw.of rfl (hq 8 _ rfl), va_Nw.of rfl (hq 9 _ rfl), va_Nw.of rfl (hq 10 _ rfl)⟩
