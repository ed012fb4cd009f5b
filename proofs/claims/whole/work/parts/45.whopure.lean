/-! Who is who: both ways of counting agree -/
def sumN (f : Nat → Nat) : Nat → Nat
  | 0 => 0
  | n + 1 => sumN f n + f n
theorem sumN_cong {f g : Nat → Nat} : ∀ {n : Nat}, (∀ i, i < n → f i = g i) → sumN f n = sumN g n
  | 0, _ => rfl
  | n + 1, h => by rw [sumN, sumN, sumN_cong (fun i hi => h i (by omega)), h n (by omega)]
theorem sumN_add (f g : Nat → Nat) : ∀ n, sumN (fun i => f i + g i) n = sumN f n + sumN g n
  | 0 => rfl
  | n + 1 => by rw [sumN, sumN, sumN, sumN_add f g n]; omega
theorem sumN_zero : ∀ n, sumN (fun _ => 0) n = 0
  | 0 => rfl
  | n + 1 => by rw [sumN, sumN_zero n]
theorem sumN_swap (f : Nat → Nat → Nat) (m : Nat) : ∀ n, sumN (fun s => sumN (fun b => f s b) m) n = sumN (fun b => sumN (fun s => f s b) n) m
  | 0 => by
    have : (fun b => sumN (fun s => f s b) 0) = fun _ => 0 := rfl
    rw [this, sumN_zero]
    rfl
  | n + 1 => by
    rw [sumN, sumN_swap f m n, ← sumN_add]
    rfl
theorem sumN_mul (c : Nat) (f : Nat → Nat) : ∀ n, c * sumN f n = sumN (fun i => c * f i) n
  | 0 => rfl
  | n + 1 => by rw [sumN, sumN, Nat.mul_add, sumN_mul c f n]
theorem sumN_two (g : Nat → Nat) : ∀ m, sumN g (2 * m) = sumN (fun s => g (2 * s) + g (2 * s + 1)) m
  | 0 => rfl
  | m + 1 => by
    rw [show 2 * (m + 1) = 2 * m + 1 + 1 by omega, sumN, sumN, sumN_two g m, sumN]
    omega
theorem xb_0 (s : Nat) : xb (2 * s) 0 = 2 * s + 1 ∧ xb (2 * s + 1) 0 = 2 * s := by
  have h : ∀ s, (xb s 0 % 2 = 1 ↔ ¬ s % 2 = 1) ∧ xb s 0 / 2 = s / 2 := by
    intro s
    constructor
    · unfold xb
      rw [Nat.xor_mod_two_eq_one]
      simp
    · unfold xb
      rw [Nat.xor_div_two]
      simp
  have h1 := h (2 * s)
  have h2 := h (2 * s + 1)
  omega
theorem sum_xb : ∀ {n b : Nat} (g : Nat → Nat), b < n → sumN (fun s => g (xb s b)) (2 ^ n) = sumN g (2 ^ n)
  | 0, b, g, h => absurd h (Nat.not_lt_zero b)
  | n + 1, 0, g, _ => by
    rw [Nat.pow_succ, Nat.mul_comm, sumN_two, sumN_two]
    refine sumN_cong (fun s _ => ?_)
    rw [(xb_0 s).1, (xb_0 s).2]
    omega
  | n + 1, b + 1, g, h => by
    rw [Nat.pow_succ, Nat.mul_comm, sumN_two, sumN_two]
    rw [← sum_xb (fun s => g (2 * s) + g (2 * s + 1)) (show b < n by omega)]
    refine sumN_cong (fun s _ => ?_)
    rw [xb_succ, xb_succ, show 2 * s / 2 = s by omega, show 2 * s % 2 = 0 by omega, show (2 * s + 1) / 2 = s by omega, show (2 * s + 1) % 2 = 1 by omega]
    rfl
theorem xb_xb (s b : Nat) : xb (xb s b) b = s := by
  unfold xb
  rw [Nat.xor_assoc, Nat.xor_self, Nat.xor_zero]
theorem rsum_sum (T : Nat → Nat) (c : Nat → Bool) (s : Nat) : ∀ n, rsum T c s n = sumN (fun b => if s.testBit b && c b then T (xb s b) else 0) n
  | 0 => rfl
  | n + 1 => by
    rw [rsum, sumN, ← rsum_sum T c s n]
    split <;> simp
def ff (fit : Nat → Nat → Bool) (nb dn : Nat) : Nat → Nat → Nat
  | 0, _ => 1
  | rem + 1, S => sumN (fun b => if !S.testBit b && fit (dn - (rem + 1)) b then ff fit nb dn rem (xb S b) else 0) nb
def MK (r : Nat → Nat) (d S : Nat) : Prop := ∀ b, S.testBit b = true ↔ ∃ k, k < d ∧ r k = b + 1
theorem MK_s {r : Nat → Nat} {d S b : Nat} (h : MK r d S) (hb : S.testBit b = false) : MK (updn r d (b + 1)) (d + 1) (xb S b) := by
  intro i
  rw [xb_bit]
  by_cases hi : b = i
  · subst hi
    rw [hb]
    simp
    exact ⟨d, by omega, updn_s⟩
  · simp only [hi, decide_false, Bool.xor_false]
    rw [h i]
    constructor
    · rintro ⟨k, hk, e⟩
      exact ⟨k, by omega, by rw [updn_n (by omega)]; exact e⟩
    · rintro ⟨k, hk, e⟩
      by_cases hkd : k = d
      · subst hkd
        rw [updn_s] at e
        omega
      · rw [updn_n hkd] at e
        exact ⟨k, by omega, e⟩
theorem frB_iff {r : Nat → Nat} {d : Nat} : frB r d = true ↔ ∀ k, k < d → r k ≠ r d := by
  unfold frB
  rw [allN_iff]
  constructor
  · intro h k hk e
    have := h k hk
    simp [e] at this
  · intro h k hk
    simp [h k hk]
theorem frB_MK {r : Nat → Nat} {d S b : Nat} (h : MK r d S) : frB (updn r d (b + 1)) d = !S.testBit b := by
  rw [Bool.eq_iff_iff, frB_iff]
  constructor
  · intro h1
    rw [Bool.not_eq_true']
    cases hb : S.testBit b with
    | false => rfl
    | true =>
      obtain ⟨k, hk, e⟩ := (h b).mp hb
      exact absurd (by rw [updn_n (by omega), updn_s]; exact e) (h1 k hk)
  · intro h1 k hk e
    rw [updn_n (by omega), updn_s] at e
    have := (h b).mpr ⟨k, hk, e⟩
    rw [this] at h1
    cases h1
theorem foldN_cnt {σ : Type} {F : Nat → Nat × σ → Nat × σ} {g : Nat → Nat} : ∀ {n : Nat}, (∀ b s, b < n → (F b s).1 = s.1 + g b) → ∀ s, (foldN F n s).1 = s.1 + sumN g n
  | 0, _, s => rfl
  | n + 1, h, s => by rw [foldN, h n _ (by omega), foldN_cnt (fun b s hb => h b s (by omega)), sumN]; omega
theorem dfs_cnt {fit : Nat → Nat → Bool} {o : Option Nat} {nb dn : Nat} : ∀ {rem : Nat} {r : Nat → Nat} {S : Nat}, rem ≤ dn → MK r (dn - rem) S → ∀ s, (dfs (okW fit) (lfW o) nb dn rem r s).1 = s.1 + ff fit nb dn rem S
  | 0, r, S, _, _, s => rfl
  | rem + 1, r, S, hr, h, s => by
    rw [dfs, ff]
    refine foldN_cnt (fun b s hb => ?_) s
    have hk : okW fit (dn - (rem + 1)) (updn r (dn - (rem + 1)) (b + 1)) = (!S.testBit b && fit (dn - (rem + 1)) b) := by
      unfold okW
      rw [frB_MK h, updn_s]
      rfl
    rw [hk]
    by_cases hc : (!S.testBit b && fit (dn - (rem + 1)) b) = true
    · rw [if_pos hc, if_pos hc]
      rw [Bool.and_eq_true, Bool.not_eq_true'] at hc
      have h2 := MK_s h hc.1
      rw [show dn - (rem + 1) + 1 = dn - rem by omega] at h2
      exact dfs_cnt (by omega) h2 s
    · rw [if_neg hc, if_neg hc]
      rfl
theorem popc_xb2 {s b : Nat} (hb : b < 10) (h : s.testBit b = false) : popc (xb s b) = popc s + 1 := by
  have h1 : (xb s b).testBit b = true := by rw [xb_bit, h]; simp
  have := popc_xb hb h1
  rw [xb_xb] at this
  exact this.symm
section DC
variable {fit : Nat → Nat → Bool} {nb dn : Nat}
def TT (fit : Nat → Nat → Bool) (nb dn k : Nat) : Nat := sumN (fun S => if popc S = k then rowA fit nb dn S * ff fit nb dn (dn - k) S else 0) (2 ^ nb)
theorem TT_step (hnb : nb ≤ 10) {k : Nat} (hk : k < dn) : TT fit nb dn k = TT fit nb dn (k + 1) := by
  obtain ⟨rem, hrem⟩ : ∃ rem, dn - k = rem + 1 := ⟨dn - k - 1, by omega⟩
  have hk2 : dn - (rem + 1) = k := by omega
  have hk3 : dn - (k + 1) = rem := by omega
  have e1 : TT fit nb dn k = sumN (fun S => sumN (fun b => if popc S = k ∧ S.testBit b = false ∧ fit k b = true then rowA fit nb dn S * ff fit nb dn rem (xb S b) else 0) nb) (2 ^ nb) := by
    unfold TT
    refine sumN_cong (fun S _ => ?_)
    rw [hrem, ff, hk2, sumN_mul]
    by_cases hp : popc S = k
    · rw [if_pos hp]
      refine sumN_cong (fun b _ => ?_)
      cases h1 : S.testBit b <;> cases h2 : fit k b <;> simp [hp]
    · rw [if_neg hp]
      rw [show (fun b => if popc S = k ∧ S.testBit b = false ∧ fit k b = true then rowA fit nb dn S * ff fit nb dn rem (xb S b) else 0) = fun _ => 0 from funext fun b => if_neg (fun z => hp z.1), sumN_zero]
  have e2 : TT fit nb dn (k + 1) = sumN (fun S => sumN (fun b => if popc (xb S b) = k ∧ (xb S b).testBit b = false ∧ fit k b = true then rowA fit nb dn (xb S b) * ff fit nb dn rem (xb (xb S b) b) else 0) nb) (2 ^ nb) := by
    unfold TT
    refine sumN_cong (fun S _ => ?_)
    rw [hk3]
    by_cases hp : popc S = k + 1
    · rw [if_pos hp]
      have hA : rowA fit nb dn S = sumN (fun b => if S.testBit b && fit k b then rowA fit nb dn (xb S b) else 0) nb := by
        rw [rowA_eq]
        unfold rowV
        rw [if_neg (fun z => by rw [z] at hp; exact absurd hp (by rw [show popc 0 = 0 by decide]; omega)), if_neg (by omega), rsum_sum, show popc S - 1 = k by omega]
      rw [hA, Nat.mul_comm, sumN_mul]
      refine sumN_cong (fun b hb => ?_)
      rw [xb_xb, xb_bit]
      cases h1 : S.testBit b
      · simp
      · have := popc_xb (show b < 10 by omega) h1
        cases h2 : fit k b
        · simp
        · simp [show popc (xb S b) = k by omega, Nat.mul_comm]
    · rw [if_neg hp]
      rw [sumN_cong (g := fun _ => 0), sumN_zero]
      intro b hb
      rw [if_neg]
      rintro ⟨z1, z2, -⟩
      have := popc_xb2 (show b < 10 by omega) z2
      rw [xb_xb] at this
      omega
  rw [e1, e2]
  refine (sumN_swap _ _ _).trans (Eq.trans ?_ (sumN_swap _ _ _).symm)
  refine sumN_cong (fun b hb => ?_)
  exact (sum_xb (fun S => if popc S = k ∧ S.testBit b = false ∧ fit k b = true then rowA fit nb dn S * ff fit nb dn rem (xb S b) else 0) hb).symm
theorem TT_all (hnb : nb ≤ 10) : ∀ k, k ≤ dn → TT fit nb dn 0 = TT fit nb dn k
  | 0, _ => rfl
  | k + 1, hk => by rw [TT_all hnb k (by omega), TT_step hnb (by omega)]
theorem sumN_first {g : Nat → Nat} : ∀ {n : Nat}, 0 < n → (∀ i, 0 < i → i < n → g i = 0) → sumN g n = g 0
  | 0, h, _ => absurd h (Nat.lt_irrefl 0)
  | 1, _, _ => by simp [sumN]
  | n + 2, _, h => by
    rw [sumN, sumN_first (n := n + 1) (by omega) (fun i h1 h2 => h i h1 (by omega)), h (n + 1) (by omega) (by omega), Nat.add_zero]
theorem TT_0 (hnb : nb ≤ 10) : TT fit nb dn 0 = ff fit nb dn dn 0 := by
  unfold TT
  have h := p2_in hnb
  unfold p2 at h
  rw [sumN_first (by omega) (fun i h1 h2 => if_neg (by have := popc_pos i (by omega) h1; omega))]
  rw [if_pos (by decide), rowA_eq]
  unfold rowV
  rw [if_pos rfl, Nat.one_mul]
  rfl
theorem cS_sum (T : Nat → Nat) (d : Nat) : ∀ n, cS T d n = sumN (fun s => if popc s = d then T s else 0) n
  | 0 => rfl
  | n + 1 => by
    rw [cS, sumN, ← cS_sum T d n]
    split <;> simp
theorem who_count (hnb : nb ≤ 10) {T : Nat → Nat} : cS (rowT fit nb dn T (p2 nb)) dn (p2 nb) = (dfs (okW fit) (lfW none) nb dn dn (fun _ => 0) (0, fun _ => false)).1 := by
  rw [dfs_cnt (S := 0) (Nat.le_refl _) (fun b => by simp)]
  rw [← TT_0 hnb, TT_all hnb dn (Nat.le_refl _), Nat.zero_add, cS_sum]
  unfold TT
  show sumN _ (2 ^ nb) = _
  refine sumN_cong (fun S hS => ?_)
  rw [rowT_A fit nb dn T S (p2 nb) hS, Nat.sub_self]
  show _ = if popc S = dn then rowA fit nb dn S * 1 else 0
  rw [Nat.mul_one]
end DC
/-- a row of p boys, each where he can be -/
def VR (c : Nat → Nat → Bool) (nb p : Nat) (q : Nat → Nat) : Prop := ∀ k, k < p → 1 ≤ q k ∧ q k ≤ nb ∧ (∀ j, j < k → q j ≠ q k) ∧ c k (q k - 1) = true
theorem okW_iff {c : Nat → Nat → Bool} {k : Nat} {q : Nat → Nat} : okW c k q = true ↔ (∀ j, j < k → q j ≠ q k) ∧ c k (q k - 1) = true := by
  unfold okW
  rw [Bool.and_eq_true, frB_iff]
theorem foldN_any {σ : Type} {F : Nat → σ → σ} {P : Nat → Prop} {Q : σ → Prop} : ∀ {n : Nat}, (∀ b s, b < n → (Q (F b s) ↔ Q s ∨ P b)) → ∀ s, Q (foldN F n s) ↔ Q s ∨ ∃ b, b < n ∧ P b
  | 0, _, s => by simp [foldN]
  | n + 1, h, s => by
    rw [foldN, h n _ (by omega), foldN_any (fun b s hb => h b s (by omega))]
    constructor
    · rintro ((h1 | ⟨b, hb, hp⟩) | h1)
      · exact Or.inl h1
      · exact Or.inr ⟨b, by omega, hp⟩
      · exact Or.inr ⟨n, by omega, h1⟩
    · rintro (h1 | ⟨b, hb, hp⟩)
      · exact Or.inl (Or.inl h1)
      · rcases Nat.lt_succ_iff_lt_or_eq.mp hb with h2 | h2
        · exact Or.inl (Or.inr ⟨b, h2, hp⟩)
        · subst h2; exact Or.inr hp
theorem dfs_set {fit : Nat → Nat → Bool} {i nb dn b0 : Nat} (hi : i < dn) : ∀ {rem : Nat} {r : Nat → Nat}, rem ≤ dn → ∀ s, (dfs (okW fit) (lfW (some i)) nb dn rem r s).2 b0 = true ↔ s.2 b0 = true ∨ ∃ q, agr q r (dn - rem) ∧ (∀ k, dn - rem ≤ k → k < dn → 1 ≤ q k ∧ q k ≤ nb ∧ okW fit k q = true) ∧ b0 = q i - 1
  | 0, r, _, s => by
    show (s.2 b0 || decide (b0 = r i - 1)) = true ↔ _
    rw [Bool.or_eq_true, decide_eq_true_eq]
    constructor
    · rintro (h | h)
      · exact Or.inl h
      · exact Or.inr ⟨r, fun k _ => rfl, fun k h1 h2 => absurd h2 (by omega), h⟩
    · rintro (h | ⟨q, h1, -, h3⟩)
      · exact Or.inl h
      · exact Or.inr (by rw [h3, h1 i (by omega)])
  | rem + 1, r, hr, s => by
    rw [dfs]
    rw [foldN_any (Q := fun s : Nat × (Nat → Bool) => s.2 b0 = true) (P := fun b => okW fit (dn - (rem + 1)) (updn r (dn - (rem + 1)) (b + 1)) = true ∧ ∃ q, agr q (updn r (dn - (rem + 1)) (b + 1)) (dn - rem) ∧ (∀ k, dn - rem ≤ k → k < dn → 1 ≤ q k ∧ q k ≤ nb ∧ okW fit k q = true) ∧ b0 = q i - 1)]
    · apply or_congr Iff.rfl
      constructor
      · rintro ⟨b, hb, hk, q, h1, h2, h3⟩
        refine ⟨q, fun k hk => ?_, fun k hk1 hk2 => ?_, h3⟩
        · rw [h1 k (by omega), updn_n (by omega)]
        · by_cases he : k = dn - (rem + 1)
          · subst he
            have e := h1 (dn - (rem + 1)) (by omega)
            rw [updn_s] at e
            refine ⟨by omega, by omega, ?_⟩
            rw [okW_c fit _ q _ (show agr q _ (dn - (rem + 1) + 1) by rw [show dn - (rem + 1) + 1 = dn - rem by omega]; exact h1)]
            exact hk
          · exact h2 k (by omega) hk2
      · rintro ⟨q, h1, h2, h3⟩
        have hd := h2 (dn - (rem + 1)) (Nat.le_refl _) (by omega)
        have ha : agr q (updn r (dn - (rem + 1)) (q (dn - (rem + 1)) - 1 + 1)) (dn - rem) := by
          intro k hk
          by_cases he : k = dn - (rem + 1)
          · subst he; rw [updn_s]; omega
          · rw [updn_n he]; exact h1 k (by omega)
        refine ⟨q (dn - (rem + 1)) - 1, by omega, ?_, q, ha, fun k hk1 hk2 => h2 k (by omega) hk2, h3⟩
        rw [← okW_c fit _ q _ (show agr q _ (dn - (rem + 1) + 1) by rw [show dn - (rem + 1) + 1 = dn - rem by omega]; exact ha)]
        exact hd.2.2
    · intro b s hb
      by_cases hk : okW fit (dn - (rem + 1)) (updn r (dn - (rem + 1)) (b + 1)) = true
      · rw [if_pos hk, dfs_set hi (by omega) s]
        simp [hk]
      · rw [if_neg hk]
        simp [hk]
theorem dfs_set0 {fit : Nat → Nat → Bool} {i nb dn b0 : Nat} (hi : i < dn) : (dfs (okW fit) (lfW (some i)) nb dn dn (fun _ => 0) (0, fun _ => false)).2 b0 = true ↔ ∃ q, VR fit nb dn q ∧ b0 = q i - 1 := by
  rw [dfs_set hi (Nat.le_refl _)]
  constructor
  · rintro (h | ⟨q, -, h2, h3⟩)
    · cases h
    · refine ⟨q, fun k hk => ?_, h3⟩
      obtain ⟨a1, a2, a3⟩ := h2 k (by omega) hk
      exact ⟨a1, a2, okW_iff.mp a3⟩
  · rintro ⟨q, h1, h3⟩
    refine Or.inr ⟨q, fun k hk => absurd hk (by omega), fun k _ hk => ?_, h3⟩
    obtain ⟨a1, a2, a3⟩ := h1 k hk
    exact ⟨a1, a2, okW_iff.mpr a3⟩
theorem sumN_pos {f : Nat → Nat} : ∀ {n : Nat}, 0 < sumN f n ↔ ∃ b, b < n ∧ 0 < f b
  | 0 => by simp [sumN]
  | n + 1 => by
    rw [sumN]
    constructor
    · intro h
      by_cases h1 : 0 < sumN f n
      · obtain ⟨b, hb, hp⟩ := sumN_pos.mp h1
        exact ⟨b, by omega, hp⟩
      · exact ⟨n, by omega, by omega⟩
    · rintro ⟨b, hb, hp⟩
      rcases Nat.lt_succ_iff_lt_or_eq.mp hb with h | h
      · have := sumN_pos.mpr ⟨b, h, hp⟩
        omega
      · subst h; omega
theorem rowA_pos {c : Nat → Nat → Bool} {nb dn : Nat} (hnb : nb ≤ 10) : ∀ S, S < 1024 → popc S ≤ dn → (0 < rowA c nb dn S ↔ ∃ q, VR c nb (popc S) q ∧ MK q (popc S) S) := by
  intro S
  induction S using Nat.strongRecOn with
  | ind S ih =>
    intro hS hp
    rw [rowA_eq]
    unfold rowV
    by_cases h0 : S = 0
    · subst h0
      rw [if_pos rfl]
      have e : popc 0 = 0 := by decide
      rw [e]
      refine ⟨fun _ => ⟨fun _ => 0, fun k hk => absurd hk (Nat.not_lt_zero k), fun b => by simp⟩, fun _ => by decide⟩
    · have hpos := popc_pos S hS (by omega)
      rw [if_neg h0, if_neg (by omega), rsum_sum, sumN_pos]
      constructor
      · rintro ⟨b, hb, h1⟩
        by_cases hc : (S.testBit b && c (popc S - 1) b) = true
        · rw [if_pos hc] at h1
          rw [Bool.and_eq_true] at hc
          have hx := popc_xb (show b < 10 by omega) hc.1
          obtain ⟨q, hq, hm⟩ := (ih (xb S b) (xb_less hc.1) (by have := xb_less hc.1; omega) (by omega)).mp h1
          have hpx : popc (xb S b) = popc S - 1 := by omega
          rw [hpx] at hq hm
          have hbf : (xb S b).testBit b = false := by rw [xb_bit, hc.1]; simp
          refine ⟨updn q (popc S - 1) (b + 1), ?_, ?_⟩
          · intro k hk
            by_cases he : k = popc S - 1
            · subst he
              rw [updn_s]
              refine ⟨by omega, by omega, fun j hj e => ?_, hc.2⟩
              rw [updn_n (by omega)] at e
              have := (hm b).mpr ⟨j, hj, e⟩
              rw [hbf] at this
              cases this
            · obtain ⟨a1, a2, a3, a4⟩ := hq k (by omega)
              rw [updn_n he]
              refine ⟨a1, a2, fun j hj e => ?_, a4⟩
              rw [updn_n (by omega)] at e
              exact a3 j hj e
          · have h2 := MK_s hm hbf
            rw [xb_xb, show popc S - 1 + 1 = popc S by omega] at h2
            exact h2
        · rw [if_neg hc] at h1
          exact absurd h1 (Nat.lt_irrefl 0)
      · rintro ⟨q, hq, hm⟩
        obtain ⟨a1, a2, a3, a4⟩ := hq (popc S - 1) (by omega)
        have hb : S.testBit (q (popc S - 1) - 1) = true := (hm _).mpr ⟨popc S - 1, by omega, by omega⟩
        have hx := popc_xb (show q (popc S - 1) - 1 < 10 by omega) hb
        refine ⟨q (popc S - 1) - 1, by omega, ?_⟩
        rw [if_pos (by rw [hb, a4]; rfl)]
        refine (ih _ (xb_less hb) (by have := xb_less hb; omega) (by omega)).mpr ⟨q, ?_, ?_⟩
        · intro k hk
          exact hq k (by omega)
        · intro b
          rw [xb_bit]
          by_cases he : q (popc S - 1) - 1 = b
          · rw [he, decide_eq_true rfl]
            rw [he] at hb
            rw [hb]
            constructor
            · intro z; cases z
            · rintro ⟨k, hk, e⟩
              rw [he] at hx
              exact absurd (show q k = q (popc S - 1) by omega) (a3 k (by omega))
          · rw [decide_eq_false he, Bool.xor_false, hm b]
            constructor
            · rintro ⟨k, hk, e⟩
              refine ⟨k, ?_, e⟩
              by_cases hk2 : k = popc S - 1
              · subst hk2; omega
              · omega
            · rintro ⟨k, hk, e⟩
              exact ⟨k, by omega, e⟩
def msk (q : Nat → Nat) : Nat → Nat
  | 0 => 0
  | d + 1 => xb (msk q d) (q d - 1)
theorem msk_ok {q : Nat → Nat} {nb : Nat} (hnb : nb ≤ 10) : ∀ p, (∀ k, k < p → 1 ≤ q k ∧ q k ≤ nb ∧ ∀ j, j < k → q j ≠ q k) → MK q p (msk q p) ∧ popc (msk q p) = p ∧ msk q p < 1024
  | 0, _ => ⟨fun b => by simp [msk], show popc 0 = 0 by decide, show 0 < 1024 by decide⟩
  | p + 1, h => by
    obtain ⟨i1, i2, i3⟩ := msk_ok hnb p (fun k hk => h k (by omega))
    obtain ⟨a1, a2, a3⟩ := h p (by omega)
    have hf : (msk q p).testBit (q p - 1) = false := by
      cases hb : (msk q p).testBit (q p - 1) with
      | false => rfl
      | true =>
        obtain ⟨k, hk, e⟩ := (i1 _).mp hb
        exact absurd (show q k = q p by omega) (a3 k hk)
    have h2 := MK_s i1 hf
    rw [show updn q p (q p - 1 + 1) = q from by rw [show q p - 1 + 1 = q p by omega]; exact updn_id q p] at h2
    exact ⟨h2, by rw [msk, popc_xb2 (by omega) hf, i2], xb_lt i3 (by omega)⟩
theorem piS_pi {i dn k : Nat} (hi : i < dn) (hk : k < dn) : piS i dn (piS i dn k) = k := by
  unfold piS
  repeat' split
  all_goals omega
theorem VR_ne {c : Nat → Nat → Bool} {nb p : Nat} {q : Nat → Nat} (h : VR c nb p q) {j k : Nat} (hj : j < p) (hk : k < p) (hne : j ≠ k) : q j ≠ q k := by
  rcases Nat.lt_or_gt_of_ne hne with hl | hl
  · exact (h k hk).2.2.1 j hl
  · exact fun e => (h j hj).2.2.1 k hl e.symm
theorem who_set {fit : Nat → Nat → Bool} {nb dn i : Nat} {T : Nat → Nat} (hnb : nb ≤ 10) (hi : i < dn) {b : Nat} (hb : b < nb) : wS (rowT (fun k => fit (piS i dn k)) nb dn T (p2 nb)) (fit i) dn (p2 nb) b = (dfs (okW fit) (lfW (some i)) nb dn dn (fun _ => 0) (0, fun _ => false)).2 b := by
  rw [Bool.eq_iff_iff, dfs_set0 hi]
  unfold wS
  rw [anyN_iff]
  have hp2 := p2_in hnb
  constructor
  · rintro ⟨S, hS, h⟩
    rw [Bool.and_eq_true, decide_eq_true_eq, Bool.and_eq_true, Bool.not_eq_true', rowT_A _ nb dn T S _ hS] at h
    obtain ⟨⟨h1, h2⟩, h3, h4⟩ := h
    obtain ⟨q, hq, hm⟩ := (rowA_pos hnb S (by omega) (by omega)).mp h2
    have hps : popc S = dn - 1 := by omega
    rw [hps] at hq hm
    have hno : ∀ k, k < dn - 1 → q k ≠ b + 1 := fun k hk e => by
      have := (hm b).mpr ⟨k, hk, e⟩
      rw [h4] at this
      cases this
    have hpi : ∀ k, k < dn → k ≠ i → piS i dn k < dn - 1 := fun k hk hki => by
      unfold piS
      repeat' split
      all_goals omega
    refine ⟨fun k => if k = i then b + 1 else q (piS i dn k), fun k hk => ?_, by simp⟩
    by_cases hki : k = i
    · subst hki
      simp only [if_true]
      refine ⟨by omega, by omega, fun j hj => ?_, h3⟩
      rw [if_neg (by omega)]
      exact hno _ (hpi j (by omega) (by omega))
    · simp only [hki, if_false]
      obtain ⟨a1, a2, a3, a4⟩ := hq (piS i dn k) (hpi k hk hki)
      refine ⟨a1, a2, fun j hj => ?_, ?_⟩
      · by_cases hji : j = i
        · rw [if_pos hji]
          exact fun e => hno _ (hpi k hk hki) e.symm
        · rw [if_neg hji]
          exact VR_ne hq (hpi j (by omega) hji) (hpi k hk hki) (fun e => by
            have := congrArg (piS i dn) e
            rw [piS_pi hi (by omega), piS_pi hi hk] at this
            omega)
      · have a4 : fit (piS i dn (piS i dn k)) (q (piS i dn k) - 1) = true := a4
        rw [piS_pi hi hk] at a4
        exact a4
  · rintro ⟨Q, hQ, he⟩
    have hpl : ∀ k, k < dn - 1 → piS i dn k < dn ∧ piS i dn k ≠ i := fun k hk => by
      unfold piS
      refine ⟨?_, ?_⟩
      · repeat' split
        all_goals omega
      · repeat' split
        all_goals omega
    have hq : VR (fun k => fit (piS i dn k)) nb (dn - 1) (fun k => Q (piS i dn k)) := by
      intro k hk
      obtain ⟨a1, a2, a3, a4⟩ := hQ (piS i dn k) (hpl k hk).1
      exact ⟨a1, a2, fun j hj => VR_ne hQ (hpl j (by omega)).1 (hpl k hk).1 (fun e => by
        have := congrArg (piS i dn) e
        rw [piS_pi hi (by omega), piS_pi hi (by omega)] at this
        omega), a4⟩
    obtain ⟨m1, m2, m3⟩ := msk_ok hnb (dn - 1) (fun k hk => ⟨(hq k hk).1, (hq k hk).2.1, (hq k hk).2.2.1⟩)
    have hlt : msk (fun k => Q (piS i dn k)) (dn - 1) < p2 nb := by
      apply Nat.lt_pow_two_of_testBit
      intro j hj
      cases hb2 : (msk (fun k => Q (piS i dn k)) (dn - 1)).testBit j with
      | false => rfl
      | true =>
        obtain ⟨k, hk, e⟩ := (m1 j).mp hb2
        have := (hq k hk).2.1
        omega
    obtain ⟨b1, b2, b3, b4⟩ := hQ i hi
    refine ⟨_, hlt, ?_⟩
    rw [Bool.and_eq_true, decide_eq_true_eq, Bool.and_eq_true, Bool.not_eq_true', rowT_A _ nb dn T _ _ hlt]
    refine ⟨⟨by omega, ?_⟩, by rw [he]; exact b4, ?_⟩
    · refine (rowA_pos hnb _ m3 (by omega)).mpr ⟨_, by rw [m2]; exact hq, by rw [m2]; exact m1⟩
    · cases hb2 : (msk (fun k => Q (piS i dn k)) (dn - 1)).testBit b with
      | false => rfl
      | true =>
        obtain ⟨k, hk, e⟩ := (m1 b).mp hb2
        have e : Q (piS i dn k) = b + 1 := e
        exact absurd (show Q (piS i dn k) = Q i by omega) (VR_ne hQ (hpl k hk).1 hi (hpl k hk).2)
theorem who_eq {nb dn : Nat} {sk wt dw dc T : Nat → Nat} {x : Int32} (hnb : nb ≤ 10) : opWhoC nb dn sk wt dw dc T x = opWhoM nb dn sk wt dw dc x := by
  unfold opWhoC opWhoM
  cases h : wq x dn with
  | none => rfl
  | some o =>
    cases o with
    | none =>
      have e : (fun k => fitB sk wt dw dc (piS (dn - 1) dn k)) = fitB sk wt dw dc := by
        funext k
        have z : piS (dn - 1) dn k = k := by
          unfold piS
          repeat' split
          all_goals omega
        rw [z]
      show nI (cS (rowT (fun k => fitB sk wt dw dc (piS (dn - 1) dn k)) nb dn T (p2 nb)) dn (p2 nb)) = _
      rw [e, who_count hnb]
    | some i =>
      rcases wq_some h with ⟨-, z⟩ | ⟨j, hj, -, z⟩
      · cases z
      · cases z
        exact bitsI_cong (fun b hb => who_set hnb hj hb)
