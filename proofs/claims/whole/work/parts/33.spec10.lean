def scF (st sb sw : Nat → Nat) : Nat → Int32 := fun j => if j % 3 = 0 then nI (st (j / 3)) else if j % 3 = 1 then nI (sb (j / 3)) else nI (sw (j / 3))
def rdF (dw dc : Nat → Nat) : Nat → Int32 := fun j => if j % 2 = 0 then nI (dw (j / 2)) else nI (dc (j / 2))
section SF
variable {st sb sw dw dc : Nat → Nat}
theorem scF_0 (t : Nat) : scF st sb sw (3 * t) = nI (st t) := by
  unfold scF
  rw [if_pos (by omega), show 3 * t / 3 = t by omega]
theorem scF_1 (t : Nat) : scF st sb sw (3 * t + 1) = nI (sb t) := by
  unfold scF
  rw [if_neg (by omega), if_pos (by omega), show (3 * t + 1) / 3 = t by omega]
theorem scF_2 (t : Nat) : scF st sb sw (3 * t + 2) = nI (sw t) := by
  unfold scF
  rw [if_neg (by omega), if_neg (by omega), show (3 * t + 2) / 3 = t by omega]
theorem scF_w0 (t v : Nat) : upd (scF st sb sw) (3 * t) (nI v) = scF (updn st t v) sb sw := by
  funext j
  simp only [upd, scF, updn]
  repeat' split
  all_goals first | rfl | omega
theorem scF_w1 (t v : Nat) : upd (scF st sb sw) (3 * t + 1) (nI v) = scF st (updn sb t v) sw := by
  funext j
  simp only [upd, scF, updn]
  repeat' split
  all_goals first | rfl | omega
theorem scF_w2 (t v : Nat) : upd (scF st sb sw) (3 * t + 2) (nI v) = scF st sb (updn sw t v) := by
  funext j
  simp only [upd, scF, updn]
  repeat' split
  all_goals first | rfl | omega
theorem rdF_0 (t : Nat) : rdF dw dc (2 * t) = nI (dw t) := by
  unfold rdF
  rw [if_pos (by omega), show 2 * t / 2 = t by omega]
theorem rdF_1 (t : Nat) : rdF dw dc (2 * t + 1) = nI (dc t) := by
  unfold rdF
  rw [if_neg (by omega), show (2 * t + 1) / 2 = t by omega]
theorem rdF_w0 (t v : Nat) : upd (rdF dw dc) (2 * t) (nI v) = rdF (updn dw t v) dc := by
  funext j
  simp only [upd, rdF, updn]
  repeat' split
  all_goals first | rfl | omega
theorem rdF_w1 (t v : Nat) : upd (rdF dw dc) (2 * t + 1) (nI v) = rdF dw (updn dc t v) := by
  funext j
  simp only [upd, rdF, updn]
  repeat' split
  all_goals first | rfl | omega
end SF
theorem updn_back (f : Nat → Nat) (k v : Nat) : updn (updn f k v) k (f k) = f := by
  funext j
  simp only [updn]
  repeat' split
  all_goals first | rfl | (subst_vars; rfl)
