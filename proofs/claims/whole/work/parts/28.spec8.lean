theorem gsE_slt {eb eg : Nat → Nat} {nt b o : Nat} : ∀ {n : Nat}, (∀ i, i < n → eg i < nt) → gsE eb eg n b = some o → o < nt
  | 0, _, h => by cases h
  | n + 1, hg, h => by
    have h : updO (gsE eb eg n) (eb n) (some (eg n)) b = some o := h
    unfold updO at h
    by_cases hb : b = eb n
    · rw [if_pos hb] at h; cases h; exact hg n (by omega)
    · rw [if_neg hb] at h; exact gsE_slt (fun i hi => hg i (by omega)) h
theorem has_none {eb eg : Nat → Nat} {n b : Nat} (h : gsE eb eg n b = none) : hasE eb b n = false := by rw [← gsE_has eb eg b n, h]; rfl
theorem has_some {eb eg : Nat → Nat} {n b o : Nat} (h : gsE eb eg n b = some o) : hasE eb b n = true := by rw [← gsE_has eb eg b n, h]; rfl
theorem sumI_bd {f : Nat → Int32} {c : Nat} : ∀ {n : Nat}, (∀ i, i < n → -(c : Int) ≤ (f i).toInt ∧ (f i).toInt ≤ (c : Int)) → n * c < 2147483648 → -((n * c : Nat) : Int) ≤ (sumI f n).toInt ∧ (sumI f n).toInt ≤ ((n * c : Nat) : Int)
  | 0, _, _ => by simp [sumI]
  | n + 1, h, hb => by
    have e : (n + 1) * c = n * c + c := Nat.succ_mul n c
    have ih := sumI_bd (f := f) (c := c) (n := n) (fun i hi => h i (by omega)) (by omega)
    have h1 := h n (by omega)
    rw [sumI]
    have hs : (sumI f n + f n).toInt = (sumI f n).toInt + (f n).toInt := by
      rw [Int32.toInt_add]
      apply Int.bmod_eq_of_le <;> omega
    rw [hs]
    omega
theorem balL_bd {en : Nat} {kd tw wt rt eb eg : Nat → Nat} (hen : en ≤ 8) (h : ∀ i, i < en → worN kd tw wt rt (eb i) < 1000) (t : Nat) : -8000 ≤ (balL kd tw wt rt eb eg t en).toInt ∧ (balL kd tw wt rt eb eg t en).toInt ≤ 8000 := by
  have h1 : ∀ i, i < en → -((1000 : Nat) : Int) ≤ (cmI t (tw (eb i)) (eg i) * nI (worN kd tw wt rt (eb i))).toInt ∧ (cmI t (tw (eb i)) (eg i) * nI (worN kd tw wt rt (eb i))).toInt ≤ ((1000 : Nat) : Int) := by
    intro i hi
    have hw := h i hi
    generalize worN kd tw wt rt (eb i) = w at hw ⊢
    have hx := nI_toInt (n := w) (by omega)
    unfold cmI
    split
    · rw [Int32.one_mul, hx]; omega
    · split
      · have hn : (-1 : Int32) * nI w = - nI w := by rw [Int32.neg_mul, Int32.one_mul]
        rw [hn, sb_negT (by omega)]; omega
      · rw [Int32.zero_mul]; decide
  have h2 := sumI_bd (n := en) h1 (by omega)
  unfold balL
  omega
theorem abs_in {x : Int32} {sl : Nat} (hsl : sl < 1000) (h : -8000 ≤ x.toInt ∧ x.toInt ≤ 8000) : absI x ≤ nI sl ↔ ninB x (-(nI sl)) (nI sl) = false := by
  have hs := nI_toInt (n := sl) (by omega)
  have hn := sb_negT (w := sl) (by omega)
  unfold absI ninB
  have hz : (0 : Int32).toInt = 0 := by decide
  simp only [Bool.or_eq_false_iff, decide_eq_false_iff_not, Int32.lt_iff_toInt_lt, Int32.le_iff_toInt_le, hn, hs, hz]
  by_cases h0 : (0 : Int) ≤ x.toInt
  · rw [if_pos h0]
    omega
  · rw [if_neg h0]
    have e : (0 - x).toInt = - x.toInt := by
      rw [Int32.toInt_sub, hz]
      rw [Int.bmod_eq_of_le] <;> omega
    rw [e]
    omega
theorem clo_t {nb nt sl en : Nat} {kd tw wt rt eb eg : Nat → Nat} {t : Nat} (hE : okE nb nt en tw eb eg) (hsl : sl < 1000) (hw : ∀ i, i < en → worN kd tw wt rt (eb i) < 1000) : clo sl en kd tw wt rt eb eg t = true ↔ cmM (gsE eb eg en) tw t nb = 0 ∧ ninB (balM (gsE eb eg en) kd tw wt rt t nb) (-(nI sl)) (nI sl) = false := by
  rw [cmM_S hE, balM_L hE]
  unfold clo
  rw [decide_eq_true_eq, abs_in hsl (balL_bd hE.1 hw t)]
theorem bst_tk {lw : Nat} {kd tw wt gr : Nat → Nat} {t n : Nat} (h1 : tw n = t) (h2 : kd n ≠ 3) (h3 : ratO lw wt gr n (bst lw kd tw wt gr t n) = true) : bst lw kd tw wt gr t (n + 1) = some n := by rw [bst, if_pos ⟨h1, h2, h3⟩]
theorem bst_sk {lw : Nat} {kd tw wt gr : Nat → Nat} {t n : Nat} (h : tw n ≠ t ∨ kd n = 3 ∨ ratO lw wt gr n (bst lw kd tw wt gr t n) = false) : bst lw kd tw wt gr t (n + 1) = bst lw kd tw wt gr t n := by
  rw [bst, if_neg]
  rintro ⟨h1, h2, h3⟩
  rcases h with h | h | h
  · exact h h1
  · exact h2 h
  · rw [h] at h3; cases h3
theorem sub_le0 {a b : Nat} (ha : a < 1000) (hb : b < 1000) : nI a - nI b ≤ 0 ↔ a ≤ b := by
  rw [Int32.le_iff_toInt_le, pk_sub_toInt (by omega) (by omega)]
  have hz : (0 : Int32).toInt = 0 := by decide
  rw [hz]
  omega
def snt (lw : Nat) (kd tw wt gr : Nat → Nat) (nb t : Nat) : Option Nat := if lw = 3 then none else bst lw kd tw wt gr t nb
theorem snt_ok {lw : Nat} {kd tw wt gr : Nat → Nat} {nb t b : Nat} (h : snt lw kd tw wt gr nb t = some b) : tw b = t ∧ b < nb := by
  unfold snt at h
  split at h
  · cases h
  · exact ⟨(bst_lt h).2.1, (bst_lt h).1⟩
theorem lent_yT {nb nt lw : Nat} {kd cr rt fd nx tw wt sk gr : Nat → Nat} {ch : Nat → Int32} : mpN (twO (gsT (fun t => snt lw kd tw (yW ((nb, nt, lw), kd, cr, rt, fd, nx) (tw, wt, sk, gr, ch)) (yG ((nb, nt, lw), kd, cr, rt, fd, nx) (tw, wt, sk, gr, ch)) nb t) nx nt) tw) tw nb = yT ((nb, nt, lw), kd, cr, rt, fd, nx) (tw, wt, sk, gr, ch) := by
  rw [lent_T (fun t b h => (snt_ok h).2)]
  unfold yT
  by_cases h : lw = 3
  · rw [if_pos h]
    have e : (fun t => snt lw kd tw (yW ((nb, nt, lw), kd, cr, rt, fd, nx) (tw, wt, sk, gr, ch)) (yG ((nb, nt, lw), kd, cr, rt, fd, nx) (tw, wt, sk, gr, ch)) nb t) = fun _ => none := by
      funext t; unfold snt; rw [if_pos h]
    rw [e, lenT_none]
  · rw [if_neg h]
    have e : (fun t => snt lw kd tw (yW ((nb, nt, lw), kd, cr, rt, fd, nx) (tw, wt, sk, gr, ch)) (yG ((nb, nt, lw), kd, cr, rt, fd, nx) (tw, wt, sk, gr, ch)) nb t) = ySent ((nb, nt, lw), kd, cr, rt, fd, nx) (tw, wt, sk, gr, ch) := by
      funext t; unfold snt ySent; rw [if_neg h]
    rw [e]
theorem lent_yC {nb nt lw : Nat} {kd cr rt fd nx tw wt sk gr : Nat → Nat} {ch : Nat → Int32} (hnx : ∀ t, t < nt → nx t < nt) : chD ch (fun t => balM (gsT (fun t => snt lw kd tw (yW ((nb, nt, lw), kd, cr, rt, fd, nx) (tw, wt, sk, gr, ch)) (yG ((nb, nt, lw), kd, cr, rt, fd, nx) (tw, wt, sk, gr, ch)) nb t) nx nt) kd tw (yW ((nb, nt, lw), kd, cr, rt, fd, nx) (tw, wt, sk, gr, ch)) rt t nb) nt = yC ((nb, nt, lw), kd, cr, rt, fd, nx) (tw, wt, sk, gr, ch) := by
  rw [lent_C (fun t b h => snt_ok h) hnx]
  unfold yC
  by_cases h : lw = 3
  · rw [if_pos h]
    have e : (fun t => snt lw kd tw (yW ((nb, nt, lw), kd, cr, rt, fd, nx) (tw, wt, sk, gr, ch)) (yG ((nb, nt, lw), kd, cr, rt, fd, nx) (tw, wt, sk, gr, ch)) nb t) = fun _ => none := by
      funext t; unfold snt; rw [if_pos h]
    rw [e, lenC_none]
  · rw [if_neg h]
    have e : (fun t => snt lw kd tw (yW ((nb, nt, lw), kd, cr, rt, fd, nx) (tw, wt, sk, gr, ch)) (yG ((nb, nt, lw), kd, cr, rt, fd, nx) (tw, wt, sk, gr, ch)) nb t) = ySent ((nb, nt, lw), kd, cr, rt, fd, nx) (tw, wt, sk, gr, ch) := by
      funext t; unfold snt ySent; rw [if_neg h]
    rw [e]
