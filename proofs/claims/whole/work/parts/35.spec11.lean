def nxM (n : Nat) : Nat → Nat := fun t => if t = n - 1 then 0 else t + 1
def begF (bt bw bs bg : Nat → Nat) : Nat → Int32 := fun j => if j % 4 = 0 then nI (bt (j / 4)) else if j % 4 = 1 then nI (bw (j / 4)) else if j % 4 = 2 then nI (bs (j / 4)) else nI (bg (j / 4))
section BF
variable {bt bw bs bg : Nat → Nat}
theorem begF_0 (t : Nat) : begF bt bw bs bg (4 * t) = nI (bt t) := by
  unfold begF
  rw [if_pos (by omega), show 4 * t / 4 = t by omega]
theorem begF_1 (t : Nat) : begF bt bw bs bg (4 * t + 1) = nI (bw t) := by
  unfold begF
  rw [if_neg (by omega), if_pos (by omega), show (4 * t + 1) / 4 = t by omega]
theorem begF_2 (t : Nat) : begF bt bw bs bg (4 * t + 2) = nI (bs t) := by
  unfold begF
  rw [if_neg (by omega), if_neg (by omega), if_pos (by omega), show (4 * t + 2) / 4 = t by omega]
theorem begF_3 (t : Nat) : begF bt bw bs bg (4 * t + 3) = nI (bg t) := by
  unfold begF
  rw [if_neg (by omega), if_neg (by omega), if_neg (by omega), show (4 * t + 3) / 4 = t by omega]
theorem begF_w0 (t v : Nat) : upd (begF bt bw bs bg) (4 * t) (nI v) = begF (updn bt t v) bw bs bg := by
  funext j
  simp only [upd, begF, updn]
  repeat' split
  all_goals first | rfl | omega
theorem begF_w1 (t v : Nat) : upd (begF bt bw bs bg) (4 * t + 1) (nI v) = begF bt (updn bw t v) bs bg := by
  funext j
  simp only [upd, begF, updn]
  repeat' split
  all_goals first | rfl | omega
theorem begF_w2 (t v : Nat) : upd (begF bt bw bs bg) (4 * t + 2) (nI v) = begF bt bw (updn bs t v) bg := by
  funext j
  simp only [upd, begF, updn]
  repeat' split
  all_goals first | rfl | omega
theorem begF_w3 (t v : Nat) : upd (begF bt bw bs bg) (4 * t + 3) (nI v) = begF bt bw bs (updn bg t v) := by
  funext j
  simp only [upd, begF, updn]
  repeat' split
  all_goals first | rfl | omega
end BF
theorem nowF_cong {tw wt sk gr tw2 wt2 sk2 gr2 : Nat → Nat} {ch ch2 : Nat → Int32} {yr j : Nat} (h1 : ∀ b, b < 10 → tw b = tw2 b) (h2 : ∀ b, b < 10 → wt b = wt2 b) (h3 : ∀ b, b < 10 → sk b = sk2 b) (h4 : ∀ b, b < 10 → gr b = gr2 b) (h5 : ∀ b, b < 6 → ch b = ch2 b) : nowF tw wt sk gr ch yr j = nowF tw2 wt2 sk2 gr2 ch2 yr j := by
  unfold nowF
  by_cases a1 : j < 10
  · rw [if_pos a1, if_pos a1, h1 j a1]
  rw [if_neg a1, if_neg a1]
  by_cases a2 : j < 20
  · rw [if_pos a2, if_pos a2, h2 _ (by omega)]
  rw [if_neg a2, if_neg a2]
  by_cases a3 : j < 30
  · rw [if_pos a3, if_pos a3, h3 _ (by omega)]
  rw [if_neg a3, if_neg a3]
  by_cases a4 : j < 40
  · rw [if_pos a4, if_pos a4, h4 _ (by omega)]
  rw [if_neg a4, if_neg a4]
  by_cases a5 : j < 46
  · rw [if_pos a5, if_pos a5, h5 _ (by omega)]
  rw [if_neg a5, if_neg a5]
theorem townF_cong {cr rt fd nx cr2 rt2 fd2 nx2 : Nat → Nat} {wn wn2 : Nat → Int32} {j : Nat} (hj : j < 30) (h1 : ∀ b, b < 6 → cr b = cr2 b) (h2 : ∀ b, b < 6 → rt b = rt2 b) (h3 : ∀ b, b < 6 → fd b = fd2 b) (h4 : ∀ b, b < 6 → wn b = wn2 b) (h5 : ∀ b, b < 6 → nx b = nx2 b) : townF cr rt fd wn nx j = townF cr2 rt2 fd2 wn2 nx2 j := by
  unfold townF
  rw [h1 _ (by omega), h2 _ (by omega), h3 _ (by omega), h4 _ (by omega), h5 _ (by omega)]
theorem bits_t {c : Nat → Bool} {n : Nat} (h : c n = true) : bitsI c (n + 1) = bitsI c n ||| (nI 1 <<< (nI n &&& 31)) := by rw [bitsI, if_pos h]
theorem bits_f {c : Nat → Bool} {n : Nat} (h : c n = false) : bitsI c (n + 1) = bitsI c n := by rw [bitsI, h]; rfl
