/-! What the calls mean, in numbers -/
def fed (w f : Nat) : Nat := max 1 (min 99 (w - 1 + f))
def pnd (k w : Nat) : Nat := if k = 2 then w / 2 else w
def cntN (p : Nat → Bool) : Nat → Nat
  | 0 => 0
  | n + 1 => cntN p n + (if p n then 1 else 0)
theorem cntN_le (p : Nat → Bool) : ∀ n, cntN p n ≤ n
  | 0 => Nat.le_refl 0
  | n + 1 => by
    have := cntN_le p n
    unfold cntN
    split <;> omega
def isK (k x : Nat) : Bool := decide (x = 0 ∨ x = k + 1 ∨ (x = 1 ∧ k < 3))
theorem pnd_le (k w : Nat) : pnd k w ≤ w := by
  unfold pnd
  split
  · exact Nat.div_le_self w 2
  · exact Nat.le_refl w
theorem fed_in (w f : Nat) : 1 ≤ fed w f ∧ fed w f ≤ 99 := by unfold fed; omega
