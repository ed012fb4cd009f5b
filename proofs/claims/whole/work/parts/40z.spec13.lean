theorem rowT_ge {c : Nat → Nat → Bool} {nb dn : Nat} {T : Nat → Nat} {s : Nat} : ∀ {n : Nat}, s < n → rowT c nb dn T n s = rowV c nb dn (rowT c nb dn T s) s
  | 0, h => absurd h (Nat.not_lt_zero s)
  | n + 1, h => by
    rw [rowT]
    by_cases hs : s = n
    · subst hs; rw [updn_s]
    · rw [updn_n hs]; exact rowT_ge (by omega)
theorem rsum_le {T : Nat → Nat} {c : Nat → Bool} {s B : Nat} (h : ∀ b, s.testBit b = true → T (xb s b) ≤ B) : ∀ n, rsum T c s n ≤ n * B
  | 0 => by simp [rsum]
  | n + 1 => by
    have ih := rsum_le (c := c) h n
    have e : (n + 1) * B = n * B + B := Nat.succ_mul n B
    rw [rsum]
    split
    · rename_i hb
      rw [Bool.and_eq_true] at hb
      have := h n hb.1
      omega
    · omega
theorem xb_bit (s b i : Nat) : (xb s b).testBit i = (s.testBit i ^^ decide (b = i)) := by
  unfold xb
  rw [Nat.testBit_xor, Nat.testBit_two_pow]
theorem xb_succ (s b : Nat) : xb s (b + 1) = 2 * xb (s / 2) b + s % 2 := by
  have e : 2 ^ (b + 1) / 2 = 2 ^ b := by rw [Nat.pow_succ, Nat.mul_div_cancel _ (by decide)]
  have e2 : 2 ^ (b + 1) % 2 = 0 := by rw [Nat.pow_succ, Nat.mul_mod_left]
  have h1 : xb s (b + 1) / 2 = xb (s / 2) b := by unfold xb; rw [Nat.xor_div_two, e]
  have h2 : (xb s (b + 1) % 2 = 1) ↔ s % 2 = 1 := by
    unfold xb
    rw [Nat.xor_mod_two_eq_one, e2]
    simp
  omega
theorem xb_less : ∀ {b s : Nat}, s.testBit b = true → xb s b < s
  | 0, s, h => by
    have h1 : s % 2 = 1 := by simpa [Nat.testBit_zero] using h
    have h2 : ¬ (xb s 0 % 2 = 1) := by
      unfold xb
      rw [Nat.xor_mod_two_eq_one]
      simp [h1]
    have h3 : xb s 0 / 2 = s / 2 := by
      unfold xb
      rw [Nat.xor_div_two]
      simp
    omega
  | b + 1, s, h => by
    rw [xb_succ]
    have h1 : (s / 2).testBit b = true := by rw [Nat.testBit_succ] at h; exact h
    have := xb_less h1
    omega
theorem cntN_flip {p q : Nat → Bool} {b : Nat} (hp : p b = true) (hq : q b = false) (h : ∀ i, i ≠ b → q i = p i) : ∀ {n : Nat}, cntN q n + (if b < n then 1 else 0) = cntN p n
  | 0 => by simp [cntN]
  | n + 1 => by
    have ih := cntN_flip hp hq h (n := n)
    rw [cntN, cntN]
    by_cases hb : n = b
    · subst hb
      rw [hp, hq]
      rw [if_neg (Nat.lt_irrefl n)] at ih
      simp at ih ⊢
      exact ih
    · rw [h n hb]
      by_cases h2 : b < n
      · rw [if_pos h2] at ih
        rw [if_pos (Nat.lt_succ_of_lt h2)]
        omega
      · rw [if_neg h2] at ih
        rw [if_neg (show ¬ b < n + 1 by omega)]
        omega
theorem popc_xb {s b : Nat} (hb : b < 10) (h : s.testBit b = true) : popc (xb s b) + 1 = popc s := by
  unfold popc
  have := cntN_flip (p := fun i => s.testBit i) (q := fun i => (xb s b).testBit i) (b := b) h (by show (xb s b).testBit b = false; rw [xb_bit, h]; simp) (fun i hi => by show (xb s b).testBit i = s.testBit i; rw [xb_bit]; have z : ¬ b = i := fun z => hi z.symm; simp [z]) (n := 10)
  rw [if_pos hb] at this
  exact this
/-- the rows that a set can be, as a number of their own -/
def rowA (c : Nat → Nat → Bool) (nb dn s : Nat) : Nat := rowT c nb dn (fun _ => 0) (s + 1) s
theorem rsum_cong {T T2 : Nat → Nat} {c c2 : Nat → Bool} {s : Nat} : ∀ {n : Nat}, (∀ b, b < n → s.testBit b = true → T (xb s b) = T2 (xb s b)) → (∀ b, b < n → c b = c2 b) → rsum T c s n = rsum T2 c2 s n
  | 0, _, _ => rfl
  | n + 1, h, hc => by
    rw [rsum, rsum, rsum_cong (fun b hb => h b (by omega)) (fun b hb => hc b (by omega)), hc n (by omega)]
    by_cases hb : s.testBit n = true
    · rw [h n (by omega) hb]
    · simp [hb]
theorem rowV_cong {c : Nat → Nat → Bool} {nb dn : Nat} {T T2 : Nat → Nat} {s : Nat} (h : ∀ j, j < s → T j = T2 j) : rowV c nb dn T s = rowV c nb dn T2 s := by
  unfold rowV
  rw [rsum_cong (fun b hb hs => h _ (xb_less hs)) (fun b hb => rfl)]
theorem rowT_A (c : Nat → Nat → Bool) (nb dn : Nat) (T : Nat → Nat) : ∀ (s n : Nat), s < n → rowT c nb dn T n s = rowA c nb dn s := by
  intro s
  induction s using Nat.strongRecOn with
  | ind s ih =>
    intro n hn
    rw [rowT_ge hn]
    unfold rowA
    rw [rowT_ge (Nat.lt_succ_self s)]
    apply rowV_cong
    intro j hj
    rw [ih j hj s hj]
    unfold rowA
    rw [rowT_ge hj, rowT_ge (Nat.lt_succ_self j)]
theorem rowA_eq (c : Nat → Nat → Bool) (nb dn s : Nat) : rowA c nb dn s = rowV c nb dn (rowA c nb dn) s := by
  show rowT c nb dn (fun _ => 0) (s + 1) s = _
  rw [rowT_ge (Nat.lt_succ_self s)]
  exact rowV_cong (fun j hj => rowT_A c nb dn _ j s hj)
theorem rsum_le2 {T : Nat → Nat} {c : Nat → Bool} {s B : Nat} : ∀ n, (∀ b, b < n → s.testBit b = true → T (xb s b) ≤ B) → rsum T c s n ≤ n * B
  | 0, _ => by simp [rsum]
  | n + 1, h => by
    have ih := rsum_le2 (c := c) n (fun b hb => h b (by omega))
    have e : (n + 1) * B = n * B + B := Nat.succ_mul n B
    rw [rsum]
    split
    · rename_i hb
      rw [Bool.and_eq_true] at hb
      have := h n (by omega) hb.1
      omega
    · omega
theorem rowA_le {c : Nat → Nat → Bool} {nb dn : Nat} (hnb : nb ≤ 10) : ∀ s, rowA c nb dn s ≤ 10 ^ popc s := by
  intro s
  induction s using Nat.strongRecOn with
  | ind s ih =>
    rw [rowA_eq]
    unfold rowV
    split
    · exact Nat.one_le_pow _ _ (by decide)
    · split
      · exact Nat.zero_le _
      · by_cases h0 : popc s = 0
        · have h := rsum_le2 (T := rowA c nb dn) (c := c (popc s - 1)) (s := s) (B := 0) nb (fun b hb hs => by
            have := popc_xb (show b < 10 by omega) hs
            omega)
          rw [Nat.mul_zero] at h
          exact Nat.le_trans h (Nat.zero_le _)
        · have h := rsum_le2 (T := rowA c nb dn) (c := c (popc s - 1)) (s := s) (B := 10 ^ (popc s - 1)) nb (fun b hb hs => by
            have h1 := popc_xb (show b < 10 by omega) hs
            have h2 := ih (xb s b) (xb_less hs)
            rw [show popc (xb s b) = popc s - 1 by omega] at h2
            exact h2)
          refine Nat.le_trans h ?_
          have e : 10 ^ popc s = 10 ^ (popc s - 1) * 10 := by rw [← Nat.pow_succ]; congr 1; omega
          rw [e, Nat.mul_comm]
          exact Nat.mul_le_mul_left _ hnb
theorem rowA_bd {c : Nat → Nat → Bool} {nb dn : Nat} (hdn : dn ≤ 6) (hnb : nb ≤ 10) (s : Nat) : rowA c nb dn s ≤ 1000000 := by
  by_cases h : popc s ≤ 6
  · exact Nat.le_trans (rowA_le hnb s) (Nat.pow_le_pow_right (by decide) h)
  · rw [rowA_eq]
    unfold rowV
    split
    · decide
    · rw [if_pos (by omega)]
      exact Nat.zero_le _
theorem rowT_bd {c : Nat → Nat → Bool} {nb dn : Nat} {T : Nat → Nat} {s : Nat} (hdn : dn ≤ 6) (hnb : nb ≤ 10) (hs : s < p2 nb) : rowT c nb dn T (p2 nb) s ≤ 1000000 := by
  rw [rowT_A c nb dn T s _ hs]
  exact rowA_bd hdn hnb s
theorem bits_none : ∀ n, bitsI (fun _ => false) n = nI 0
  | 0 => rfl
  | n + 1 => by rw [bits_f rfl, bits_none n]
theorem wS_0 (T : Nat → Nat) (cl : Nat → Bool) (dn : Nat) {nb : Nat} (_ : nb ≤ 10) : bitsI (wS T cl dn 0) nb = nI 0 := bits_none nb
def wq (x : Int32) (dn : Nat) : Option (Option Nat) := if x = -1 then some none else (tn x dn).map some
theorem wq_some {x : Int32} {dn : Nat} {o : Option Nat} (h : wq x dn = some o) : (x = -1 ∧ o = none) ∨ ∃ i, i < dn ∧ x = nI i ∧ o = some i := by
  unfold wq at h
  by_cases hx : x = -1
  · rw [if_pos hx] at h
    cases h
    exact Or.inl ⟨hx, rfl⟩
  · rw [if_neg hx] at h
    cases ht : tn x dn with
    | none => rw [ht] at h; cases h
    | some i =>
      rw [ht] at h
      cases h
      exact Or.inr ⟨i, (tn_some ht).1, (tn_some ht).2, rfl⟩
theorem wq_in {x : Int32} {dn : Nat} (hdn : dn ≤ 6) : ninB x (-1) (nI dn - nI 1) = (wq x dn).isNone := by
  have hm : (-1 : Int32).toInt = -1 := by decide
  have hd : (nI dn - nI 1).toInt = (dn : Int) - 1 := by
    have := pk_sub_toInt (a := dn) (b := 1) (by omega) (by omega)
    rw [this]
    rfl
  unfold wq
  by_cases hx : x = -1
  · subst hx
    rw [if_pos rfl]
    unfold ninB
    rw [Bool.or_eq_false_iff.mpr]
    · rfl
    · simp only [decide_eq_false_iff_not, Int32.lt_iff_toInt_lt, hm, hd]
      omega
  · rw [if_neg hx]
    have hx2 : x.toInt ≠ -1 := fun z => hx (Int32.toInt_inj.mp (z.trans hm.symm))
    rw [Bool.eq_iff_iff]
    unfold ninB
    simp only [Bool.or_eq_true, decide_eq_true_eq, Int32.lt_iff_toInt_lt, hm, hd]
    unfold tn
    by_cases hc : 0 ≤ x.toInt ∧ x.toInt < (dn : Int)
    · rw [if_pos hc]
      simp
      omega
    · rw [if_neg hc]
      simp
      omega
def opWhoC (nb dn : Nat) (sk wt dw dc T : Nat → Nat) (x : Int32) : Int32 := match wq x dn with
  | none => -3
  | some none => nI (cS (rowT (fun k => fitB sk wt dw dc (piS (dn - 1) dn k)) nb dn T (p2 nb)) dn (p2 nb))
  | some (some i) => bitsI (wS (rowT (fun k => fitB sk wt dw dc (piS i dn k)) nb dn T (p2 nb)) (fitB sk wt dw dc i) dn (p2 nb)) nb
