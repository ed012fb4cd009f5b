/-! Bits -/
theorem shl_p : ∀ n, n < 31 → nI 1 <<< (nI n &&& 31) = nI (2 ^ n) := by decide
theorem nI_bit {k i : Nat} (hk : k < 4294967296) : (nI k).toBitVec.getLsbD i = k.testBit i := by
  unfold BitVec.getLsbD
  rw [pk_tn hk]
theorem bitsI_get {c : Nat → Bool} {i : Nat} : ∀ {n : Nat}, n ≤ 31 → (bitsI c n).toBitVec.getLsbD i = (decide (i < n) && c i)
  | 0, _ => by rw [bitsI, nI_bit (by decide)]; simp
  | n + 1, hn => by
    have ih := bitsI_get (c := c) (i := i) (n := n) (by omega)
    rw [bitsI]
    by_cases hc : c n = true
    · rw [if_pos hc, Int32.toBitVec_or, BitVec.getLsbD_or, ih, shl_p n (by omega), nI_bit (Nat.lt_trans (Nat.pow_lt_pow_right (by decide) (show n < 31 by omega)) (by decide)), Nat.testBit_two_pow]
      by_cases h1 : i = n
      · subst h1; simp [hc]
      · have h2 : ¬ n = i := fun z => h1 z.symm
        by_cases h3 : i < n
        · simp [h2, h3, Nat.lt_succ_of_lt h3]
        · have h4 : ¬ i < n + 1 := by omega
          simp [h2, h3, h4]
    · rw [if_neg hc, ih]
      by_cases h1 : i = n
      · subst h1; simp at hc; simp [hc]
      · by_cases h3 : i < n
        · simp [h3, Nat.lt_succ_of_lt h3]
        · have h4 : ¬ i < n + 1 := by omega
          simp [h3, h4]
theorem i32_ext {x y : Int32} (h : ∀ i, i < 32 → x.toBitVec.getLsbD i = y.toBitVec.getLsbD i) : x = y := Int32.toBitVec_inj.mp (BitVec.eq_of_getLsbD_eq (fun i hi => h i hi))
theorem shr_m : ∀ b, b < 32 → ((nI b &&& 31).toBitVec.smod 32) = BitVec.ofNat 32 b := by decide
theorem shr_get {x : Int32} {b i : Nat} (hb : b < 32) (hi : i + b < 32) : (x >>> (nI b &&& 31)).toBitVec.getLsbD i = x.toBitVec.getLsbD (b + i) := by
  have e : (x >>> (nI b &&& 31)).toBitVec = x.toBitVec.sshiftRight b := by
    rw [Int32.toBitVec_shiftRight, shr_m b hb, BitVec.sshiftRight_eq']
    congr 1
    simp
    omega
  rw [e, BitVec.getLsbD_sshiftRight]
  have h1 : ¬ 32 ≤ i := by omega
  have h2 : b + i < 32 := by omega
  simp [h1, h2]
theorem bit_1 {x : Int32} {b : Nat} (hb : b < 32) : ((x >>> (nI b &&& 31)) &&& nI 1 = nI 1) ↔ x.toBitVec.getLsbD b = true := by
  constructor
  · intro h
    have h1 := congrArg (fun z : Int32 => z.toBitVec.getLsbD 0) h
    simp only [Int32.toBitVec_and, BitVec.getLsbD_and] at h1
    rw [shr_get hb (by omega), nI_bit (by decide)] at h1
    simpa using h1
  · intro h
    apply i32_ext
    intro i hi
    rw [Int32.toBitVec_and, BitVec.getLsbD_and, nI_bit (by decide)]
    by_cases h0 : i = 0
    · subst h0
      rw [shr_get hb (by omega), Nat.add_zero, h]
      rfl
    · have : Nat.testBit 1 i = false := by rw [show (1 : Nat) = 2 ^ 0 from rfl, Nat.testBit_two_pow]; simp; omega
      rw [this, Bool.and_false]
theorem bit_0 {x : Int32} {b : Nat} (hb : b < 32) : ((x >>> (nI b &&& 31)) &&& nI 1 = nI 0) ↔ x.toBitVec.getLsbD b = false := by
  constructor
  · intro h
    cases h1 : x.toBitVec.getLsbD b with
    | false => rfl
    | true =>
      have := (bit_1 hb).mpr h1
      rw [h] at this
      exact absurd this (by decide)
  · intro h
    apply i32_ext
    intro i hi
    rw [Int32.toBitVec_and, BitVec.getLsbD_and, nI_bit (by decide), nI_bit (by decide)]
    by_cases h0 : i = 0
    · subst h0
      rw [shr_get hb (by omega), Nat.add_zero, h]
      rfl
    · have : Nat.testBit 1 i = false := by rw [show (1 : Nat) = 2 ^ 0 from rfl, Nat.testBit_two_pow]; simp; omega
      rw [this, Bool.and_false]
      simp
def popc (s : Nat) : Nat := cntN (fun b => s.testBit b) 10
def xb (s b : Nat) : Nat := s ^^^ 2 ^ b
def p2 (n : Nat) : Nat := 2 ^ n
theorem p2_in {n : Nat} (h : n ≤ 10) : 1 ≤ p2 n ∧ p2 n ≤ 1024 := ⟨Nat.one_le_two_pow, by
  have := Nat.pow_le_pow_right (n := 2) (by decide) h
  exact this⟩
theorem p2_lt {b : Nat} (h : b < 10) : 2 ^ b < 1024 := by
  have := Nat.pow_lt_pow_right (a := 2) (by decide) h
  exact this
theorem xb_lt {s b : Nat} (hs : s < 1024) (hb : b < 10) : xb s b < 1024 := Nat.xor_lt_two_pow (n := 10) hs (p2_lt hb)
theorem xb_I {s b : Nat} (hs : s < 1024) (hb : b < 10) : nI s ^^^ (nI 1 <<< (nI b &&& 31)) = nI (xb s b) := by
  rw [shl_p b (by omega)]
  apply i32_ext
  intro i hi
  have h1 := p2_lt hb
  have h2 := xb_lt hs hb
  rw [Int32.toBitVec_xor, BitVec.getLsbD_xor, nI_bit (by omega), nI_bit (by omega), nI_bit (by omega)]
  unfold xb
  rw [Nat.testBit_xor]
theorem tst {s b nb : Nat} {c : Nat → Bool} (hs : s < 1024) (hnb : nb ≤ 10) (hb : b < nb) : (((nI s &&& bitsI c nb) >>> (nI b &&& 31)) &&& nI 1 = nI 1) ↔ (s.testBit b && c b) = true := by
  rw [bit_1 (by omega), Int32.toBitVec_and, BitVec.getLsbD_and, nI_bit (by omega), bitsI_get (by omega)]
  simp [hb]
theorem orAnd {s nb : Nat} {a c : Nat → Bool} (hs : s < 1024) (hnb : nb ≤ 10) : bitsI a nb ||| (bitsI c nb &&& (nI s ^^^ (-1))) = bitsI (fun b => a b || (c b && !s.testBit b)) nb := by
  apply i32_ext
  intro i hi
  rw [Int32.toBitVec_or, BitVec.getLsbD_or, Int32.toBitVec_and, BitVec.getLsbD_and, Int32.toBitVec_xor, BitVec.getLsbD_xor, nI_bit (by omega), bitsI_get (by omega), bitsI_get (by omega), bitsI_get (by omega)]
  have : (-1 : Int32).toBitVec.getLsbD i = true := by
    have e : (-1 : Int32).toBitVec = BitVec.allOnes 32 := by decide
    rw [e, BitVec.getLsbD_allOnes]
    simp [hi]
  rw [this]
  by_cases h : i < nb
  · simp [h]
  · simp [h]
theorem orBit {nb x : Nat} {a : Nat → Bool} (hnb : nb ≤ 10) (hx : x < nb) : bitsI a nb ||| (nI 1 <<< (nI x &&& 31)) = bitsI (fun b => a b || decide (b = x)) nb := by
  have h1 := p2_lt (b := x) (by omega)
  rw [shl_p x (by omega)]
  apply i32_ext
  intro i hi
  rw [Int32.toBitVec_or, BitVec.getLsbD_or, nI_bit (by omega), bitsI_get (by omega), bitsI_get (by omega), Nat.testBit_two_pow]
  by_cases h : i = x
  · subst h; simp [hx]
  · have h2 : ¬ x = i := fun z => h z.symm
    simp [h, h2]
theorem bcI : ∀ s, s < 1024 → ∀ v1 v2 v3 v4 v5 : Int32, v1 = nI s - ((((nI s).toUInt32 >>> ((nI 1).toUInt32 &&& Int32.toUInt32 31)).toInt32) &&& nI 1431655765) → v2 = (v1 &&& nI 858993459) + (((v1.toUInt32 >>> ((nI 2).toUInt32 &&& Int32.toUInt32 31)).toInt32) &&& nI 858993459) → v3 = (v2 + ((v2.toUInt32 >>> ((nI 4).toUInt32 &&& Int32.toUInt32 31)).toInt32)) &&& nI 252645135 → v4 = v3 + ((v3.toUInt32 >>> ((nI 8).toUInt32 &&& Int32.toUInt32 31)).toInt32) → v5 = v4 + ((v4.toUInt32 >>> ((nI 16).toUInt32 &&& Int32.toUInt32 31)).toInt32) → v5 &&& nI 63 = nI (popc s) := by
  have h : ∀ s, s < 1024 → (let v1 := nI s - ((((nI s).toUInt32 >>> ((nI 1).toUInt32 &&& Int32.toUInt32 31)).toInt32) &&& nI 1431655765); let v2 := (v1 &&& nI 858993459) + (((v1.toUInt32 >>> ((nI 2).toUInt32 &&& Int32.toUInt32 31)).toInt32) &&& nI 858993459); let v3 := (v2 + ((v2.toUInt32 >>> ((nI 4).toUInt32 &&& Int32.toUInt32 31)).toInt32)) &&& nI 252645135; let v4 := v3 + ((v3.toUInt32 >>> ((nI 8).toUInt32 &&& Int32.toUInt32 31)).toInt32); let v5 := v4 + ((v4.toUInt32 >>> ((nI 16).toUInt32 &&& Int32.toUInt32 31)).toInt32); v5 &&& nI 63 = nI (popc s)) := by decide +kernel
  intro s hs v1 v2 v3 v4 v5 e1 e2 e3 e4 e5
  subst e1
  subst e2
  subst e3
  subst e4
  subst e5
  exact h s hs
/-! Who is who -/
def fitB (sk wt dw dc : Nat → Nat) (k b : Nat) : Bool := decide (sk b = dc k ∧ wt b ≤ dw k + 1 ∧ dw k ≤ wt b + 1)
theorem abs1 {a b : Nat} (ha : a < 1000) (hb : b < 1000) : ((if 0 ≤ nI a - nI b then nI a - nI b else 0 - (nI a - nI b)) ≤ nI 1) ↔ a ≤ b + 1 ∧ b ≤ a + 1 := by
  have h1 := pk_sub_toInt (a := a) (b := b) (by omega) (by omega)
  have hz : (0 : Int32).toInt = 0 := by decide
  rw [Int32.le_iff_toInt_le, nI_toInt (by decide)]
  by_cases h0 : (0 : Int32) ≤ nI a - nI b
  · rw [if_pos h0]
    rw [Int32.le_iff_toInt_le, hz] at h0
    omega
  · rw [if_neg h0]
    rw [Int32.le_iff_toInt_le, hz] at h0
    have e : (0 - (nI a - nI b)).toInt = - (nI a - nI b).toInt := by
      rw [Int32.toInt_sub, hz, h1]
      rw [Int.bmod_eq_of_le] <;> omega
    rw [e]
    omega
theorem in1 {a b : Nat} (ha : a < 1000) (hb : b < 1000) : ninB (nI a - nI b) (-1) (nI 1) = !decide (a ≤ b + 1 ∧ b ≤ a + 1) := by
  have h1 := pk_sub_toInt (a := a) (b := b) (by omega) (by omega)
  have h2 : (-1 : Int32).toInt = -1 := by decide
  have h3 := nI_toInt (n := 1) (by decide)
  rw [Bool.eq_iff_iff]
  unfold ninB
  simp only [Bool.or_eq_true, decide_eq_true_eq, Int32.lt_iff_toInt_lt, h1, h2, h3, Bool.not_eq_true', decide_eq_false_iff_not]
  omega
def rsum (T : Nat → Nat) (c : Nat → Bool) (s : Nat) : Nat → Nat
  | 0 => 0
  | b + 1 => if s.testBit b && c b then rsum T c s b + T (xb s b) else rsum T c s b
theorem rsum_t {T : Nat → Nat} {c : Nat → Bool} {s b : Nat} (h : (s.testBit b && c b) = true) : rsum T c s (b + 1) = rsum T c s b + T (xb s b) := by rw [rsum, if_pos h]
theorem rsum_f {T : Nat → Nat} {c : Nat → Bool} {s b : Nat} (h : ¬ (s.testBit b && c b) = true) : rsum T c s (b + 1) = rsum T c s b := by rw [rsum, if_neg h]
def rowV (c : Nat → Nat → Bool) (nb dn : Nat) (T : Nat → Nat) (s : Nat) : Nat := if s = 0 then 1 else if dn < popc s then 0 else rsum T (c (popc s - 1)) s nb
def rowT (c : Nat → Nat → Bool) (nb dn : Nat) (T : Nat → Nat) : Nat → (Nat → Nat)
  | 0 => T
  | s + 1 => updn (rowT c nb dn T s) s (rowV c nb dn (rowT c nb dn T s) s)
def piS (la dn k : Nat) : Nat := if k = dn - 1 then la else if k = la then dn - 1 else k
def cS (T : Nat → Nat) (dn : Nat) : Nat → Nat
  | 0 => 0
  | s + 1 => if popc s = dn then cS T dn s + T s else cS T dn s
def wS (T : Nat → Nat) (cl : Nat → Bool) (dn s : Nat) : Nat → Bool := fun b => anyN (fun s => decide (popc s + 1 = dn ∧ 0 < T s) && (cl b && !s.testBit b)) s
theorem popc_pos : ∀ s, s < 1024 → 0 < s → 0 < popc s := by decide +kernel
theorem popc_le (s : Nat) : popc s ≤ 10 := cntN_le _ 10
