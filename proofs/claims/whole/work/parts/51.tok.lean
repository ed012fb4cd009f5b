/-! Texts, token by token -/
def fm (c : Nat) : Nat := if c = 32 then 1 else if 97 ≤ c ∧ c ≤ 122 then 2 else if 48 ≤ c ∧ c ≤ 57 then 3 else 4
def fmA (tx : Nat → Nat) (tl p : Nat) : Nat := if p < tl then fm (tx p) else 0
def rl (tx : Nat → Nat) (tl k : Nat) : Nat → Nat → Nat
  | 0, _ => 0
  | f + 1, p => if fmA tx tl p = k then rl tx tl k f (p + 1) + 1 else 0
def cnt (tx : Nat → Nat) (tl k p : Nat) : Nat := rl tx tl k (tl - p) p
theorem fm_1 {c : Nat} : fm c = 1 ↔ c = 32 := by
  unfold fm
  repeat' split
  all_goals omega
theorem fm_2 {c : Nat} : fm c = 2 ↔ 97 ≤ c ∧ c ≤ 122 := by
  unfold fm
  repeat' split
  all_goals omega
theorem fm_3 {c : Nat} : fm c = 3 ↔ 48 ≤ c ∧ c ≤ 57 := by
  unfold fm
  repeat' split
  all_goals omega
theorem fm_in (c : Nat) : 1 ≤ fm c ∧ fm c ≤ 4 := by
  unfold fm
  repeat' split
  all_goals omega
section TOK
variable {tx : Nat → Nat} {tl : Nat}
theorem fmA_lt {p : Nat} (h : p < tl) : fmA tx tl p = fm (tx p) := if_pos h
theorem fmA_ge {p : Nat} (h : ¬ p < tl) : fmA tx tl p = 0 := if_neg h
theorem fmA_0 {p : Nat} : fmA tx tl p = 0 ↔ ¬ p < tl := by
  constructor
  · intro h z
    have := fm_in (tx p)
    rw [fmA_lt z] at h
    omega
  · exact fmA_ge
theorem fmA_k {p k : Nat} (hk : 1 ≤ k) (h : fmA tx tl p = k) : p < tl ∧ fm (tx p) = k := by
  by_cases z : p < tl
  · rw [fmA_lt z] at h; exact ⟨z, h⟩
  · rw [fmA_ge z] at h; omega
theorem fmA_le (p : Nat) : fmA tx tl p ≤ 4 := by
  unfold fmA
  split
  · exact (fm_in _).2
  · omega
theorem rl_lt {k : Nat} : ∀ {f p i : Nat}, i < rl tx tl k f p → fmA tx tl (p + i) = k
  | 0, p, i, h => absurd h (Nat.not_lt_zero i)
  | f + 1, p, i, h => by
    rw [rl] at h
    by_cases hc : fmA tx tl p = k
    · rw [if_pos hc] at h
      cases i with
      | zero => exact hc
      | succ i =>
        have := rl_lt (k := k) (f := f) (p := p + 1) (i := i) (by omega)
        rw [show p + (i + 1) = p + 1 + i by omega]
        exact this
    · rw [if_neg hc] at h; exact absurd h (Nat.not_lt_zero i)
theorem rl_ge {k : Nat} (hk : 1 ≤ k) : ∀ {f p : Nat}, tl - p ≤ f → ¬ fmA tx tl (p + rl tx tl k f p) = k
  | 0, p, h => by
    rw [rl, Nat.add_zero, fmA_ge (by omega)]
    omega
  | f + 1, p, h => by
    rw [rl]
    by_cases hc : fmA tx tl p = k
    · rw [if_pos hc, show p + (rl tx tl k f (p + 1) + 1) = p + 1 + rl tx tl k f (p + 1) by omega]
      exact rl_ge hk (by omega)
    · rw [if_neg hc, Nat.add_zero]; exact hc
theorem cnt_lt {k p i : Nat} (h : i < cnt tx tl k p) : fmA tx tl (p + i) = k := rl_lt h
theorem cnt_ge {k p : Nat} (hk : 1 ≤ k) : ¬ fmA tx tl (p + cnt tx tl k p) = k := rl_ge hk (Nat.le_refl _)
theorem cnt_in {k p i : Nat} (hk : 1 ≤ k) (h : i < cnt tx tl k p) : p + i < tl ∧ fm (tx (p + i)) = k := fmA_k hk (cnt_lt h)
theorem cnt_le {k p : Nat} (hk : 1 ≤ k) (hp : p ≤ tl) : p + cnt tx tl k p ≤ tl := by
  rcases Nat.eq_zero_or_pos (cnt tx tl k p) with h | h
  · omega
  · have := (cnt_in hk (show cnt tx tl k p - 1 < cnt tx tl k p by omega)).1
    omega
theorem cnt_pos {k p : Nat} (hk : 1 ≤ k) (h : fmA tx tl p = k) : 1 ≤ cnt tx tl k p := by
  rcases Nat.eq_zero_or_pos (cnt tx tl k p) with z | z
  · have := cnt_ge (tx := tx) (tl := tl) (p := p) hk
    rw [z, Nat.add_zero] at this
    exact absurd h this
  · exact z
theorem cnt_uni {k p n : Nat} (hk : 1 ≤ k) (h1 : ∀ i, i < n → fmA tx tl (p + i) = k) (h2 : ¬ fmA tx tl (p + n) = k) : cnt tx tl k p = n := by
  rcases Nat.lt_trichotomy (cnt tx tl k p) n with h | h | h
  · exact absurd (h1 _ h) (cnt_ge hk)
  · exact h
  · exact absurd (cnt_lt h) h2
end TOK
def tsk (tx : Nat → Nat) (tl e : Nat) : Nat := e + cnt tx tl 1 e
def ten (tx : Nat → Nat) (tl s : Nat) : Nat := if fmA tx tl s = 2 then s + cnt tx tl 2 s else if fmA tx tl s = 3 then s + cnt tx tl 3 s else min (s + 1) tl
def hN (f : Nat → Nat) : Nat → Nat
  | 0 => 0
  | n + 1 => 27 * hN f n + (f n - 96)
def dgN (f : Nat → Nat) : Nat → Nat
  | 0 => 0
  | n + 1 => dgN f n * 10 + (f n - 48)
def sh (tx : Nat → Nat) (s : Nat) : Nat → Nat := fun i => tx (s + i)
def lI (n : Nat) : Int64 := Int64.ofNat n
def tokV (tx : Nat → Nat) (tl s : Nat) : Int64 := if fmA tx tl s = 0 then -2 else if fmA tx tl s = 2 then (if cnt tx tl 2 s ≤ 9 then lI (hN (sh tx s) (cnt tx tl 2 s)) else -4) else if fmA tx tl s = 3 then (if cnt tx tl 3 s ≤ 3 then -1 else -4) else if tx s = 59 then -3 else -4
def nvl (tx : Nat → Nat) (tl s : Nat) : Nat := dgN (sh tx s) (cnt tx tl 3 s)
def numB (tx : Nat → Nat) (tl e lo hi : Nat) : Bool := decide (fmA tx tl (tsk tx tl e) = 3 ∧ cnt tx tl 3 (tsk tx tl e) ≤ 3 ∧ lo ≤ nvl tx tl (tsk tx tl e) ∧ nvl tx tl (tsk tx tl e) ≤ hi)
section TOK2
variable {tx : Nat → Nat} {tl : Nat}
theorem tsk_le {e : Nat} (h : e ≤ tl) : tsk tx tl e ≤ tl := cnt_le (by decide) h
theorem tsk_ge (e : Nat) : e ≤ tsk tx tl e := Nat.le_add_right _ _
theorem tsk_f (e : Nat) : ¬ fmA tx tl (tsk tx tl e) = 1 := cnt_ge (by decide)
theorem ten_le {s : Nat} (h : s ≤ tl) : ten tx tl s ≤ tl := by
  unfold ten
  split
  · exact cnt_le (by decide) h
  · split
    · exact cnt_le (by decide) h
    · omega
theorem ten_2 {s : Nat} (h : fmA tx tl s = 2) : ten tx tl s = s + cnt tx tl 2 s := if_pos h
theorem ten_3 {s : Nat} (h : fmA tx tl s = 3) : ten tx tl s = s + cnt tx tl 3 s := by
  unfold ten
  rw [if_neg (by omega), if_pos h]
theorem ten_4 {s : Nat} (h : ¬ fmA tx tl s = 2) (h2 : ¬ fmA tx tl s = 3) : ten tx tl s = min (s + 1) tl := by
  unfold ten
  rw [if_neg h, if_neg h2]
theorem ten_ge {s : Nat} (h : s ≤ tl) : s ≤ ten tx tl s := by
  unfold ten
  split
  · omega
  · split <;> omega
theorem nt_le {e : Nat} (h : e ≤ tl) : ten tx tl (tsk tx tl e) ≤ tl := ten_le (tsk_le h)
theorem hN_lt {f : Nat → Nat} : ∀ {n : Nat}, (∀ i, i < n → f i ≤ 122) → hN f n < 27 ^ n
  | 0, _ => Nat.one_pos
  | n + 1, h => by
    have h1 := hN_lt (n := n) (fun i hi => h i (by omega))
    have h2 := h n (by omega)
    rw [hN, Nat.pow_succ]
    omega
theorem hN_b {f : Nat → Nat} {n : Nat} (h : ∀ i, i < n → f i ≤ 122) (hn : n ≤ 9) : hN f n < 7625597484987 := Nat.lt_of_lt_of_le (hN_lt h) (Nat.le_trans (Nat.pow_le_pow_right (by decide) hn) (by decide))
theorem hN_inj {f g : Nat → Nat} : ∀ {n m : Nat}, (∀ i, i < n → 97 ≤ f i ∧ f i ≤ 122) → (∀ i, i < m → 97 ≤ g i ∧ g i ≤ 122) → hN f n = hN g m → n = m ∧ ∀ i, i < n → f i = g i
  | 0, 0, _, _, _ => ⟨rfl, fun i hi => absurd hi (Nat.not_lt_zero i)⟩
  | 0, m + 1, _, hg, h => by
    have := hg m (by omega)
    rw [hN, hN] at h
    omega
  | n + 1, 0, hf, _, h => by
    have := hf n (by omega)
    rw [hN, hN] at h
    omega
  | n + 1, m + 1, hf, hg, h => by
    have a := hf n (by omega)
    have b := hg m (by omega)
    rw [hN, hN] at h
    have e1 : hN f n = hN g m := by omega
    obtain ⟨e2, e3⟩ := hN_inj (fun i hi => hf i (by omega)) (fun i hi => hg i (by omega)) e1
    subst e2
    refine ⟨rfl, fun i hi => ?_⟩
    by_cases hi2 : i = n
    · subst hi2; omega
    · exact e3 i (by omega)
theorem hN_c {f g : Nat → Nat} : ∀ {n : Nat}, (∀ i, i < n → f i = g i) → hN f n = hN g n
  | 0, _ => rfl
  | n + 1, h => by rw [hN, hN, hN_c (fun i hi => h i (by omega)), h n (by omega)]
theorem dgN_lt {f : Nat → Nat} : ∀ {n : Nat}, (∀ i, i < n → f i ≤ 57) → dgN f n < 10 ^ n
  | 0, _ => Nat.one_pos
  | n + 1, h => by
    have h1 := dgN_lt (n := n) (fun i hi => h i (by omega))
    have h2 := h n (by omega)
    rw [dgN, Nat.pow_succ]
    omega
theorem dgN_b {f : Nat → Nat} {n : Nat} (h : ∀ i, i < n → f i ≤ 57) (hn : n ≤ 3) : dgN f n < 1000 := Nat.lt_of_lt_of_le (dgN_lt h) (Nat.le_trans (Nat.pow_le_pow_right (by decide) hn) (by decide))
theorem dig_in {s i : Nat} (h : i < cnt tx tl 3 s) : s + i < tl ∧ 48 ≤ sh tx s i ∧ sh tx s i ≤ 57 := by
  have h1 := cnt_in (by decide) h
  exact ⟨h1.1, fm_3.mp h1.2⟩
theorem let_in {s i : Nat} (h : i < cnt tx tl 2 s) : s + i < tl ∧ 97 ≤ sh tx s i ∧ sh tx s i ≤ 122 := by
  have h1 := cnt_in (by decide) h
  exact ⟨h1.1, fm_2.mp h1.2⟩
theorem nvl_lt {s : Nat} (h : cnt tx tl 3 s ≤ 3) : nvl tx tl s < 1000 := dgN_b (fun _ hi => (dig_in hi).2.2) h
theorem lI_inj {a b : Nat} (ha : a < 9223372036854775808) (hb : b < 9223372036854775808) (h : lI a = lI b) : a = b := by
  have h1 := congrArg Int64.toInt h
  unfold lI at h1
  rw [Int64.toInt_ofNat_of_lt (by omega), Int64.toInt_ofNat_of_lt (by omega)] at h1
  omega
theorem lI_neg {a : Nat} {x : Int64} (ha : a < 9223372036854775808) (hx : x.toInt < 0) : ¬ lI a = x := by
  intro h
  have h1 := congrArg Int64.toInt h
  unfold lI at h1
  rw [Int64.toInt_ofNat_of_lt (by omega)] at h1
  omega
theorem lI_step {a c : Nat} (hc : 97 ≤ c) (hc2 : c ≤ 122) : ((27 : Int64) * lI a + (nI c).toInt64) - 96 = lI (27 * a + (c - 96)) := by
  have h1 : (nI c).toInt64 = lI c := by
    apply Int64.toInt_inj.mp
    rw [Int32.toInt_toInt64, nI_toInt (by omega)]
    unfold lI
    rw [Int64.toInt_ofNat_of_lt (by omega)]
  rw [h1]
  unfold lI
  have h2 : Int64.ofNat (27 * a + (c - 96)) + Int64.ofNat 96 = Int64.ofNat 27 * Int64.ofNat a + Int64.ofNat c := by
    rw [← Int64.ofNat_mul, ← Int64.ofNat_add, ← Int64.ofNat_add]
    congr 1
    omega
  have h3 : (27 : Int64) = Int64.ofNat 27 := rfl
  have h4 : (96 : Int64) = Int64.ofNat 96 := rfl
  rw [h3, h4, ← h2]
  grind
theorem tok_m2 {s : Nat} : tokV tx tl s = -2 ↔ fmA tx tl s = 0 := by
  unfold tokV
  by_cases h0 : fmA tx tl s = 0
  · rw [if_pos h0]; exact ⟨fun _ => h0, fun _ => rfl⟩
  · rw [if_neg h0]
    refine ⟨fun h => ?_, fun h => absurd h h0⟩
    repeat' split at h
    · exact absurd h (lI_neg (Nat.lt_trans (hN_b (fun i hi => (let_in hi).2.2) (by assumption)) (by decide)) (by decide))
    all_goals exact absurd h (by decide)
theorem tok_m1 {s : Nat} : tokV tx tl s = -1 ↔ fmA tx tl s = 3 ∧ cnt tx tl 3 s ≤ 3 := by
  unfold tokV
  by_cases h0 : fmA tx tl s = 0
  · rw [if_pos h0]; exact ⟨fun h => absurd h (by decide), fun h => by omega⟩
  · rw [if_neg h0]
    by_cases h2 : fmA tx tl s = 2
    · rw [if_pos h2]
      refine ⟨fun h => ?_, fun h => by omega⟩
      split at h
      · exact absurd h (lI_neg (Nat.lt_trans (hN_b (fun i hi => (let_in hi).2.2) (by assumption)) (by decide)) (by decide))
      · exact absurd h (by decide)
    · rw [if_neg h2]
      by_cases h3 : fmA tx tl s = 3
      · rw [if_pos h3]
        split
        · exact ⟨fun _ => ⟨h3, by assumption⟩, fun _ => rfl⟩
        · exact ⟨fun h => absurd h (by decide), fun h => absurd h.2 (by assumption)⟩
      · rw [if_neg h3]
        refine ⟨fun h => ?_, fun h => absurd h.1 h3⟩
        split at h <;> exact absurd h (by decide)
theorem tok_m3 {e : Nat} : tokV tx tl (tsk tx tl e) = -3 ↔ tsk tx tl e < tl ∧ tx (tsk tx tl e) = 59 := by
  have hb := tsk_f (tx := tx) (tl := tl) e
  generalize tsk tx tl e = s at *
  unfold tokV
  by_cases h0 : fmA tx tl s = 0
  · rw [if_pos h0]; exact ⟨fun h => absurd h (by decide), fun h => absurd h.1 (fmA_0.mp h0)⟩
  · rw [if_neg h0]
    have hlt : s < tl := Classical.byContradiction (fun z => h0 (fmA_0.mpr z))
    by_cases h2 : fmA tx tl s = 2
    · rw [if_pos h2]
      refine ⟨fun h => ?_, fun h => ?_⟩
      · split at h
        · exact absurd h (lI_neg (Nat.lt_trans (hN_b (fun i hi => (let_in hi).2.2) (by assumption)) (by decide)) (by decide))
        · exact absurd h (by decide)
      · have := fm_2.mp (fmA_k (by decide) h2).2
        omega
    · rw [if_neg h2]
      by_cases h3 : fmA tx tl s = 3
      · rw [if_pos h3]
        refine ⟨fun h => ?_, fun h => ?_⟩
        · split at h <;> exact absurd h (by decide)
        · have := fm_3.mp (fmA_k (by decide) h3).2
          omega
      · rw [if_neg h3]
        refine ⟨fun h => ?_, fun h => if_pos h.2⟩
        split at h
        · exact ⟨hlt, by assumption⟩
        · exact absurd h (by decide)
end TOK2
def HW : List Int64 := [174869447, 405230, 453836, 279875, 8740238, 129450, 158523, 6465065272, 4351291, 6559778, 6476969, 286880, 10334396, 131360]
def sNat (w : Nat) : Nat → Nat := fun j => (([[108, 101, 97, 103, 117, 101], [116, 111, 119, 110], [119, 97, 110, 116], [110, 101, 120, 116], [112, 108, 97, 105, 110], [102, 111, 111, 108], [104, 97, 108, 102], [112, 114, 111, 100, 105, 103, 121], [104, 101, 97, 118, 121], [108, 105, 103, 104, 116], [108, 101, 97, 115, 116], [110, 111, 110, 101], [115, 108, 97, 99, 107], [102, 114, 101, 101]] : List (List Nat)).getD w []).getD j 0
def chI (w j : Nat) : Int32 := (sByt.getD w []).getD j 0
def lenW (w : Nat) : Nat := sLen.getD w 0
theorem chI_eq : ∀ w, w < 14 → ∀ j, j < lenW w → chI w j = nI (sNat w j) := by decide +kernel
theorem sNat_in : ∀ w, w < 14 → ∀ j, j < lenW w → 97 ≤ sNat w j ∧ sNat w j ≤ 122 := by decide +kernel
theorem lenW_in : ∀ w, w < 14 → 1 ≤ lenW w ∧ lenW w ≤ 9 := by decide +kernel
theorem hN_HW : ∀ w, w < 14 → lI (hN (sNat w) (lenW w)) = HW.getD w 0 := by decide +kernel
theorem HW_ne : ∀ w, w < 14 → HW.getD w 0 ≠ -1 ∧ HW.getD w 0 ≠ -2 ∧ HW.getD w 0 ≠ -3 ∧ HW.getD w 0 ≠ -4 := by decide +kernel
def inH (tx : Nat → Nat) (tl s e w : Nat) : Bool := decide (e - s = lenW w) && allN (fun j => decide (sgn tx tl (s + j) = chI w j)) (lenW w)
theorem sgn_eq {tx : Nat → Nat} {tl p c : Nat} (htx : ∀ j, j < tl → tx j < 256) (hc : c < 256) : sgn tx tl p = nI c ↔ p < tl ∧ tx p = c := by
  unfold sgn
  by_cases h : p < tl
  · rw [if_pos h]
    have := htx p h
    constructor
    · intro z
      have z1 := congrArg Int32.toInt z
      rw [nI_toInt (by omega), nI_toInt (by omega)] at z1
      exact ⟨h, by omega⟩
    · rintro ⟨_, z⟩
      rw [z]
  · rw [if_neg h]
    exact ⟨fun z => absurd z.symm (nI_m1 (by omega)), fun z => absurd z.1 h⟩
theorem inH_tok {tx : Nat → Nat} {tl s w : Nat} (htx : ∀ j, j < tl → tx j < 256) (hs : s ≤ tl) (hw : w < 14) : inH tx tl s (ten tx tl s) w = true ↔ tokV tx tl s = HW.getD w 0 := by
  have hL := lenW_in w hw
  have hg := sNat_in w hw
  have hc := chI_eq w hw
  unfold inH
  rw [Bool.and_eq_true, decide_eq_true_eq, allN_t]
  constructor
  · rintro ⟨h1, h2⟩
    have h3 : ∀ j, j < lenW w → s + j < tl ∧ tx (s + j) = sNat w j := fun j hj => by
      have := of_decide_eq_true (h2 j hj)
      rw [hc j hj] at this
      exact (sgn_eq htx (by have := hg j hj; omega)).mp this
    have h4 := h3 0 (by omega)
    have h5 := hg 0 (by omega)
    have h6 : fmA tx tl s = 2 := by
      rw [fmA_lt (show s < tl by have := h4.1; omega)]
      refine fm_2.mpr ?_
      have := h4.2
      rw [Nat.add_zero] at this
      omega
    rw [ten_2 h6] at h1
    have h7 : cnt tx tl 2 s = lenW w := by omega
    unfold tokV
    rw [if_neg (by omega), if_pos h6, if_pos (by omega), h7, ← hN_HW w hw, hN_c (f := sh tx s) (fun i hi => (h3 i hi).2)]
  · intro h
    have hne := HW_ne w hw
    have h6 : fmA tx tl s = 2 ∧ cnt tx tl 2 s ≤ 9 := by
      unfold tokV at h
      repeat' split at h
      · exact absurd h.symm hne.2.1
      · exact ⟨by assumption, by assumption⟩
      · exact absurd h.symm hne.2.2.2
      · exact absurd h.symm hne.1
      · exact absurd h.symm hne.2.2.2
      · exact absurd h.symm hne.2.2.1
      · exact absurd h.symm hne.2.2.2
    unfold tokV at h
    rw [if_neg (by omega), if_pos h6.1, if_pos h6.2, ← hN_HW w hw] at h
    have hb1 := hN_b (f := sh tx s) (fun i hi => (let_in hi).2.2) h6.2
    have hb2 := hN_b (f := sNat w) (n := lenW w) (fun i hi => (hg i hi).2) hL.2
    obtain ⟨e1, e2⟩ := hN_inj (fun i hi => (let_in hi).2) hg (lI_inj (by omega) (by omega) h)
    refine ⟨by rw [ten_2 h6.1, e1]; omega, fun j hj => ?_⟩
    rw [decide_eq_true_eq, hc j hj]
    have h7 := let_in (tx := tx) (tl := tl) (s := s) (i := j) (by omega)
    exact (sgn_eq htx (by have := hg j hj; omega)).mpr ⟨h7.1, e2 j (by omega)⟩
/-- the word's number, as the reference counts them -/
def wdM (t : Int64) : Option Nat := if t = 8740238 then some 0 else if t = 129450 then some 1 else if t = 158523 then some 2 else if t = 6465065272 then some 3 else if t = 4351291 then some 4 else if t = 6559778 then some 5 else if t = 6476969 then some 6 else if t = 286880 then some 7 else if t = 174869447 then some 8 else if t = 405230 then some 9 else if t = 453836 then some 10 else if t = 279875 then some 11 else if t = 10334396 then some 12 else if t = 131360 then some 13 else none
def cwO (o : Option Nat) : Option Nat := match o with
  | none => none
  | some k => if k < 8 then some (k + 4) else if k < 12 then some (k - 8) else some k
theorem wd_cases (t : Int64) : t = 8740238 ∨ t = 129450 ∨ t = 158523 ∨ t = 6465065272 ∨ t = 4351291 ∨ t = 6559778 ∨ t = 6476969 ∨ t = 286880 ∨ t = 174869447 ∨ t = 405230 ∨ t = 453836 ∨ t = 279875 ∨ t = 10334396 ∨ t = 131360 ∨ (wdM t = none ∧ ¬ t = 8740238 ∧ ¬ t = 129450 ∧ ¬ t = 158523 ∧ ¬ t = 6465065272 ∧ ¬ t = 4351291 ∧ ¬ t = 6559778 ∧ ¬ t = 6476969 ∧ ¬ t = 286880 ∧ ¬ t = 174869447 ∧ ¬ t = 405230 ∧ ¬ t = 453836 ∧ ¬ t = 279875 ∧ ¬ t = 10334396 ∧ ¬ t = 131360) := by
  by_cases h0 : t = 8740238
  · exact Or.inl h0
  right
  by_cases h1 : t = 129450
  · exact Or.inl h1
  right
  by_cases h2 : t = 158523
  · exact Or.inl h2
  right
  by_cases h3 : t = 6465065272
  · exact Or.inl h3
  right
  by_cases h4 : t = 4351291
  · exact Or.inl h4
  right
  by_cases h5 : t = 6559778
  · exact Or.inl h5
  right
  by_cases h6 : t = 6476969
  · exact Or.inl h6
  right
  by_cases h7 : t = 286880
  · exact Or.inl h7
  right
  by_cases h8 : t = 174869447
  · exact Or.inl h8
  right
  by_cases h9 : t = 405230
  · exact Or.inl h9
  right
  by_cases h10 : t = 453836
  · exact Or.inl h10
  right
  by_cases h11 : t = 279875
  · exact Or.inl h11
  right
  by_cases h12 : t = 10334396
  · exact Or.inl h12
  right
  by_cases h13 : t = 131360
  · exact Or.inl h13
  right
  refine ⟨?_, h0, h1, h2, h3, h4, h5, h6, h7, h8, h9, h10, h11, h12, h13⟩
  unfold wdM
  rw [if_neg h0, if_neg h1, if_neg h2, if_neg h3, if_neg h4, if_neg h5, if_neg h6, if_neg h7, if_neg h8, if_neg h9, if_neg h10, if_neg h11, if_neg h12, if_neg h13]
theorem fstN_c {c d : Nat → Bool} : ∀ {n : Nat}, (∀ i, i < n → c i = d i) → fstN c n = fstN d n
  | 0, _ => rfl
  | n + 1, h => by rw [fstN, fstN, fstN_c (fun i hi => h i (by omega)), h n (by omega)]
def wdC (tx : Nat → Nat) (tl s e : Nat) : Option Nat := fstN (fun w => !inH tx tl s e w) 14
theorem wd_first (t : Int64) : fstN (fun w => !decide (t = HW.getD w 0)) 14 = cwO (wdM t) := by
  rcases wd_cases t with rfl | rfl | rfl | rfl | rfl | rfl | rfl | rfl | rfl | rfl | rfl | rfl | rfl | rfl | ⟨hn, a0, a1, a2, a3, a4, a5, a6, a7, a8, a9, a10, a11, a12, a13⟩
  iterate 14 (first | decide +kernel | skip)
  rw [hn]
  simp [fstN, HW, a0, a1, a2, a3, a4, a5, a6, a7, a8, a9, a10, a11, a12, a13, cwO]
theorem wdC_M {tx : Nat → Nat} {tl s : Nat} (htx : ∀ j, j < tl → tx j < 256) (hs : s ≤ tl) : wdC tx tl s (ten tx tl s) = cwO (wdM (tokV tx tl s)) := by
  rw [← wd_first]
  unfold wdC
  refine fstN_c (fun w hw => ?_)
  congr 1
  rw [Bool.eq_iff_iff, decide_eq_true_eq]
  exact inH_tok htx hs hw
