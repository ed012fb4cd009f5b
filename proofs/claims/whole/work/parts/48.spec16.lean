/-! The reference's ring -/
def qf (r : Nat → Nat) : Nat → Nat := fun k => r k - 1
theorem qf_s {r : Nat → Nat} {d v : Nat} : qf (updn r d (v + 1)) d = v := by
  unfold qf
  rw [updn_s]
  rfl
theorem qf_n {r : Nat → Nat} {d v k : Nat} (h : k ≠ d) : qf (updn r d v) k = qf r k := by
  unfold qf
  rw [updn_n h]
theorem qf_I {r : Nat → Nat} {k : Nat} (h : 1 ≤ r k) : nI (r k) - 1 = nI (qf r k) := rw_pos h
theorem qf_a {r r2 : Nat → Nat} {n : Nat} (h : agr r r2 n) : agr (qf r) (qf r2) n := fun k hk => by unfold qf; rw [h k hk]
def onB (tw q : Nat → Nat) (d n : Nat) : Bool := decide (tw (q 0) < tw (q d)) && allN (fun k => decide (k = 0) || !decide (tw (q k) = tw (q d))) n
theorem onB_s (tw q : Nat → Nat) (d n : Nat) : onB tw q d (n + 1) = (onB tw q d n && (decide (n = 0) || !decide (tw (q n) = tw (q d)))) := by
  unfold onB
  rw [allN, Bool.and_assoc]
theorem onB_1 (tw q : Nat → Nat) (d : Nat) : onB tw q d 1 = decide (tw (q 0) < tw (q d)) := by
  rw [onB_s]
  unfold onB
  simp [allN]
theorem onB_c {tw q q2 : Nat → Nat} {d : Nat} (h : agr q q2 (d + 1)) : onB tw q d d = onB tw q2 d d := by
  unfold onB
  rw [h 0 (by omega), h d (by omega)]
  congr 1
  exact allN_cong (fun i hi => by rw [h i (by omega)])
def cheS (wo q : Nat → Nat) (size : Nat) : Nat → Nat
  | 0 => 0
  | k + 1 => cheS wo q size k + owe wo (q ((k + size - 1) % size)) (q k)
theorem cheS_le {wo q : Nat → Nat} {size : Nat} (hwo : ∀ k, k < size → wo (q k) < 1000) : ∀ k, k ≤ size → cheS wo q size k ≤ 1000 * k
  | 0, _ => Nat.le_refl 0
  | k + 1, hk => by
    have h1 := cheS_le hwo k (by omega)
    have h2 := hwo _ (Nat.mod_lt (k + size - 1) (show 0 < size by omega))
    rw [cheS]
    unfold owe
    omega
theorem cheS_c {wo q q2 : Nat → Nat} {size : Nat} (h : agr q q2 size) : ∀ k, k ≤ size → cheS wo q size k = cheS wo q2 size k
  | 0, _ => rfl
  | k + 1, hk => by
    rw [cheS, cheS, cheS_c h k (by omega), h k (by omega), h _ (Nat.mod_lt (k + size - 1) (show 0 < size by omega))]
section RR
variable (tw sk : Nat → Nat) (wn : Nat → Int32) (wo : Nat → Nat)
def okR (d : Nat) (r : Nat → Nat) : Bool := decide (d = 0) || (onB tw (qf r) d d && wanB sk wn (qf r (d - 1)) (tw (qf r d)))
def visR (d : Nat) (r : Nat → Nat) (B : BT) : BT := if clsB tw sk wn (qf r) (d + 1) then takeB (d + 1) (cheS wo (qf r) (d + 1) (d + 1)) (qf r) B else B
end RR
theorem okR_c (tw sk : Nat → Nat) (wn : Nat → Int32) : ∀ d r r2, agr r r2 (d + 1) → okR tw sk wn d r = okR tw sk wn d r2 := by
  intro d r r2 h
  have h1 := qf_a h
  unfold okR
  rw [onB_c h1, h1 d (by omega), h1 (d - 1) (by omega)]
theorem visR_c (tw sk : Nat → Nat) (wn : Nat → Int32) (wo : Nat → Nat) : ∀ (d : Nat) (s : BT) (r r2 : Nat → Nat), agr r r2 (d + 1) → visR tw sk wn wo d r s = visR tw sk wn wo d r2 s := by
  intro d s r r2 h
  have h1 := qf_a h
  unfold visR takeB clsB
  rw [cheS_c h1 _ (Nat.le_refl _), mpN_c h1, h1 0 (by omega), h1 (d + 1 - 1) (by omega)]
theorem visR_ok {tw sk : Nat → Nat} {wn : Nat → Int32} {wo : Nat → Nat} {d : Nat} {r : Nat → Nat} {B : BT} (hd : d < 6) (hwo : ∀ k, k < d + 1 → wo (qf r k) < 1000) (hB : okBt B) : okBt (visR tw sk wn wo d r B) := by
  have h1 := cheS_le hwo (d + 1) (Nat.le_refl _)
  unfold visR
  split
  · exact takeB_ok (by omega) (by omega) hB
  · exact hB
def szI (n : Nat) : Int32 := if n = 0 then -1 else nI n
theorem szI_s (n : Nat) : szI (n + 1) = nI (n + 1) := if_neg (Nat.succ_ne_zero n)
theorem szI_n {n : Nat} (h : ¬ n = 0) : szI n = nI n := if_neg h
theorem szI_0 {n : Nat} (hn : n ≤ 6) : szI n = -1 ↔ n = 0 := by
  constructor
  · intro h
    by_cases h0 : n = 0
    · exact h0
    · rw [szI_n h0] at h
      exact absurd h (nI_m1 (by omega))
  · rintro rfl
    rfl
theorem le0s {a b : Nat} (ha : a < 1000) (hb : b < 1000) (h : nI a - nI b ≤ 0) : a - b = 0 := by
  have h1 := pk_sub_toInt (a := a) (b := b) (by omega) (by omega)
  have hz : (0 : Int32).toInt = 0 := by decide
  rw [Int32.le_iff_toInt_le, h1, hz] at h
  omega
theorem gt0s {a b : Nat} (ha : a < 1000) (hb : b < 1000) (h : ¬ nI a - nI b ≤ 0) : nI a - nI b = nI (a - b) := by
  have h1 := pk_sub_toInt (a := a) (b := b) (by omega) (by omega)
  have hz : (0 : Int32).toInt = 0 := by decide
  rw [Int32.le_iff_toInt_le, h1, hz] at h
  exact pk_sub (by omega)
