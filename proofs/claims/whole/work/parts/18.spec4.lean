theorem ninB_tn' {x : Int32} {n : Nat} (hn : n < 2147483648) : ninB x (nI 0) (nI n - nI 1) = (tn x n).isNone := by
  rcases Nat.eq_zero_or_pos n with rfl | h0
  · have e : nI 0 - nI 1 = (-1 : Int32) := by decide
    rw [e]
    have h1 : tn x 0 = none := by
      unfold tn
      rw [if_neg]
      omega
    rw [h1]
    unfold ninB
    have h2 : (-1 : Int32).toInt = -1 := by decide
    by_cases h : x < nI 0
    · simp [h]
    · have h3 : ¬ x.toInt < 0 := fun z => h ((nI_lt_iff (by decide)).mpr z)
      have h4 : (-1 : Int32) < x := Int32.lt_iff_toInt_lt.mpr (by rw [h2]; omega)
      simp [h4]
  · rw [pk_sub h0]
    exact ninB_tn h0 hn
theorem rn_ok {x : Int32} {a b : Nat} (ha : a < 2147483648) (hb : b < 2147483648) (h1 : ¬ x < nI a) (h2 : x ≤ nI b) : ∃ k, rn x a b = some k := by
  apply isNone_f
  rw [← ninB_rn ha hb]
  have h3 : ¬ nI b < x := Int32.not_lt.mpr h2
  simp [ninB, h1, h3]
theorem rn_lo {x : Int32} {a b : Nat} (ha : a < 2147483648) (hb : b < 2147483648) (h1 : x < nI a) : rn x a b = none := by
  apply isNone_t
  rw [← ninB_rn ha hb]
  simp [ninB, h1]
theorem rn_hi {x : Int32} {a b : Nat} (ha : a < 2147483648) (hb : b < 2147483648) (h1 : ¬ x ≤ nI b) : rn x a b = none := by
  apply isNone_t
  rw [← ninB_rn ha hb]
  have h3 : nI b < x := Int32.not_le.mp h1
  simp [ninB, h3]
theorem tn_out {x : Int32} {n : Nat} {m : Int} (h : tn x n = none) (hm : m + 1 = (n : Int)) : x.toInt < 0 ∨ m < x.toInt := by
  unfold tn at h
  by_cases hc : 0 ≤ x.toInt ∧ x.toInt < (n : Int)
  · rw [if_pos hc] at h; cases h
  · omega
theorem tn_of_rn {x : Int32} {n j : Nat} (h : rn x 0 n = some j) : tn x (n + 1) = some j := by
  obtain ⟨-, h2, rfl⟩ := rn_some h
  have := (show nI j = nI j from rfl)
  unfold rn at h
  unfold tn
  by_cases hc : ((0 : Nat) : Int) ≤ (nI j).toInt ∧ (nI j).toInt ≤ (n : Int)
  · rw [if_pos hc] at h
    rw [if_pos (by omega)]
    exact h
  · rw [if_neg hc] at h; cases h
/-- the i-th byte of a long -/
def byN (x : Int64) (i : Nat) : Nat := (((x >>> ((nI (8 * i)).toInt64 &&& 63)) &&& (255 : Int64)).toBitVec.toNat)
theorem byN_lt (x : Int64) (i : Nat) : byN x i < 256 := by
  unfold byN
  rw [Int64.toBitVec_and, BitVec.toNat_and]
  have h : ((255 : Int64).toBitVec.toNat) = 255 := by decide
  rw [h]
  exact Nat.lt_succ_of_le Nat.and_le_right
theorem byN_val (x : Int64) (i : Nat) : ((x >>> ((nI (8 * i)).toInt64 &&& 63)) &&& (255 : Int64)).toInt32 = nI (byN x i) := by
  have hlt := byN_lt x i
  unfold byN at *
  generalize ((x >>> ((nI (8 * i)).toInt64 &&& 63)) &&& (255 : Int64)) = y at *
  apply Int32.toBitVec_inj.mp
  apply BitVec.eq_of_toNat_eq
  rw [show (nI (y.toBitVec.toNat)).toBitVec.toNat = y.toBitVec.toNat from pk_tn (by omega)]
  have e : y.toInt32.toBitVec = y.toBitVec.signExtend 32 := by first | rfl | simp [Int64.toInt32]
  rw [e]
  have hs : (y.toBitVec.signExtend 32) = BitVec.truncate 32 y.toBitVec := by
    apply BitVec.signExtend_eq_setWidth_of_le
    decide
  rw [hs]
  simp
  omega
def wrT (tx : Nat → Nat) (tl : Nat) (x : Int64) : Nat → (Nat → Nat)
  | 0 => tx
  | i + 1 => updn (wrT tx tl x i) (tl + i) (byN x i)
def opWrite (tl : Nat) (tx : Nat → Nat) (x : Int64) (n : Int32) : Int32 × Nat × (Nat → Nat) := match rn n 1 8 with
  | none => (-3, tl, tx)
  | some k => if 200 < tl + k then (-5, tl, tx) else (nI (tl + k), tl + k, wrT tx tl x k)
def opTown (nt nb : Nat) (cr rt fd nx tw : Nat → Nat) (wn ch : Nat → Int32) (x what : Int32) : Int32 := match tn x nt with
  | none => -2
  | some t => match tn what 7 with
    | none => -3
    | some k => if k = 0 then nI (cr t) else if k = 1 then nI (rt t) else if k = 2 then nI (fd t) else if k = 3 then wn t else if k = 4 then nI (nx t) else if k = 5 then nI 10000000 + ch t else nI (cntN (fun b => decide (tw b = t)) nb)
def opBoy (nb : Nat) (kd tw wt sk gr rt : Nat → Nat) (x what : Int32) : Int32 := match tn x nb with
  | none => -2
  | some b => match tn what 6 with
    | none => -3
    | some k => if k = 0 then nI (kd b) else if k = 1 then nI (tw b) else if k = 2 then nI (wt b) else if k = 3 then nI (sk b) else if k = 4 then nI (gr b) else nI (worN kd tw wt rt b)
def opAs (nb : Nat) (kd wt : Nat → Nat) (x y : Int32) : Int32 := match tn x nb with
  | none => -2
  | some b => match rn y 0 4 with
    | none => -3
    | some k => if isK (kd b) k then nI (pnd (kd b) (wt b)) else -4
def opGive (nb nt en : Nat) (tw eb eg : Nat → Nat) (x y : Int32) : Int32 × Nat × (Nat → Nat) × (Nat → Nat) := match tn x nb with
  | none => (-2, en, eb, eg)
  | some b => match tn y nt with
    | none => (-2, en, eb, eg)
    | some t => if tw b = t then (-3, en, eb, eg) else if hasE eb b en then (-4, en, eb, eg) else if 8 ≤ en then (-5, en, eb, eg) else (nI (en + 1), en + 1, updn eb en b, updn eg en t)
def opBalance (nt en : Nat) (kd tw wt rt eb eg : Nat → Nat) (x : Int32) : Int32 := match tn x nt with
  | none => -2
  | some t => nI 10000000 + balL kd tw wt rt eb eg t en
def clo (sl en : Nat) (kd tw wt rt eb eg : Nat → Nat) (t : Nat) : Bool := decide (cmS tw eb eg t en = 0 ∧ absI (balL kd tw wt rt eb eg t en) ≤ nI sl)
/-- the first of the first n for which c fails, else none -/
def fstN (c : Nat → Bool) : Nat → Option Nat
  | 0 => none
  | n + 1 => match fstN c n with
    | some t => some t
    | none => if c n then none else some n
theorem fstN_s {c : Nat → Bool} {n : Nat} (h : fstN c n = none) (h2 : c n = true) : fstN c (n + 1) = none := by rw [fstN, h]; simp [h2]
theorem fstN_hit {c : Nat → Bool} {i : Nat} (h : fstN c i = none) (h2 : c i = false) : ∀ {n : Nat}, i < n → fstN c n = some i
  | 0, hn => absurd hn (Nat.not_lt_zero i)
  | n + 1, hn => by
    rw [fstN]
    by_cases hi : i = n
    · subst hi; rw [h]; simp [h2]
    · rw [fstN_hit h h2 (n := n) (by omega)]
def opJudge (nt sl en : Nat) (kd tw wt rt eb eg : Nat → Nat) : Int32 := oI (fstN (clo sl en kd tw wt rt eb eg) nt)
def opDeal (nt sl en : Nat) (kd tw wt rt eb eg : Nat → Nat) (ch : Nat → Int32) : Int32 × Nat × (Nat → Nat) × (Nat → Int32) := match fstN (clo sl en kd tw wt rt eb eg) nt with
  | some _ => (-4, en, tw, ch)
  | none => (nI en, 0, twG tw eb eg en, chD ch (fun t => balL kd tw wt rt eb eg t en) nt)
def opGo (P : LG) (s : YS) (yr en : Nat) (x : Int32) : Int32 × YS × Nat × Nat := match rn x 1 99 with
  | none => (-3, s, yr, en)
  | some n => if 999 < yr + n then (-5, s, yr, en) else (nI (yr + n), years P n s, yr + n, 0)
def opLater (P : LG) (s : YS) (x y z : Int32) : Int32 := match tn x P.1.1 with
  | none => -2
  | some b => match rn y 0 99 with
    | none => -3
    | some n => match rn z 0 3 with
      | none => -3
      | some k => if k = 0 then nI ((years P n s).1 b) else if k = 1 then nI ((years P n s).2.1 b) else if k = 2 then nI ((years P n s).2.2.1 b) else nI ((years P n s).2.2.2.1 b)
/-- bits of the first n for which c holds -/
def bitsI (c : Nat → Bool) : Nat → Int32
  | 0 => nI 0
  | n + 1 => if c n then bitsI c n ||| (nI 1 <<< (nI n &&& 31)) else bitsI c n
def opWithout (P : LG) (s : YS) (y : Int32) : Int32 := match rn y 0 99 with
  | none => -3
  | some n => bitsI (fun t => decide (cntN (fun b => decide ((years P n s).1 b = t)) P.1.1 = 0)) P.1.2.1
def opOwed (P : LG) (s : YS) (x y : Int32) : Int32 := match tn x P.1.2.1 with
  | none => -2
  | some t => match rn y 0 99 with
    | none => -3
    | some n => nI 10000000 + (years P n s).2.2.2.2 t
def fedI (f : Nat) (w : Nat) : Nat → Nat
  | 0 => w
  | n + 1 => fed (fedI f w n) f
def opGainers (P : LG) (s : YS) (x y z : Int32) : Int32 := match tn x P.1.2.1 with
  | none => -2
  | some t => match rn y 1 9 with
    | none => -3
    | some r => match rn z 1 99 with
      | none => -3
      | some n => bitsI (fun o => decide ((years (P.1, P.2.1, P.2.2.1, (fun k => if k = t then r else P.2.2.2.1 k), P.2.2.2.2.1, P.2.2.2.2.2) n s).2.2.2.2 o < (years P n s).2.2.2.2 o)) P.1.2.1
