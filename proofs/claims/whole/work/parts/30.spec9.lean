theorem cpy_s (f g : Nat → Int32) (sp dp i : Nat) : upd (va_cpy f g sp dp i) (dp + i) (f (sp + i)) = va_cpy f g sp dp (i + 1) := by
  funext j
  unfold upd va_cpy
  by_cases h : j = dp + i
  · subst h
    rw [if_pos rfl, if_pos (by omega), show dp + i - dp = i by omega]
  · rw [if_neg h]
    by_cases h2 : dp ≤ j ∧ j < dp + i
    · rw [if_pos h2, if_pos (by omega)]
    · rw [if_neg h2, if_neg (by omega)]
theorem cpy_0 (f g : Nat → Int32) (sp dp : Nat) : va_cpy f g sp dp 0 = g := by
  funext j
  unfold va_cpy
  rw [if_neg (by omega)]
def imF (a b : Nat → Int32) : Nat → Int32 := fun j => if j < 47 then a j else b (j - 47)
theorem im_k0 (n a b : Nat → Int32) (j : Nat) : va_cpy n (imF a b) 0 0 47 j = imF n b j := by
  unfold va_cpy imF
  by_cases h : j < 47
  · rw [if_pos (by omega), if_pos h, show 0 + (j - 0) = j by omega]
  · rw [if_neg (by omega), if_neg h, if_neg h]
theorem im_k1 (n a b : Nat → Int32) (j : Nat) (hj : j < 94) : va_cpy n (imF a b) 0 47 47 j = imF a n j := by
  unfold va_cpy imF
  by_cases h : j < 47
  · rw [if_neg (by omega), if_pos h, if_pos h]
  · rw [if_pos (by omega), if_neg h, show 0 + (j - 47) = j - 47 by omega]
theorem im_b0 (n a b : Nat → Int32) (j : Nat) (hj : j < 47) : va_cpy (imF a b) n 0 0 47 j = a j := by
  unfold va_cpy imF
  rw [if_pos (by omega), if_pos (by omega), show 0 + (j - 0) = j by omega]
theorem im_b1 (n a b : Nat → Int32) (j : Nat) (hj : j < 47) : va_cpy (imF a b) n 47 0 47 j = b j := by
  unfold va_cpy imF
  rw [if_pos (by omega), if_neg (by omega), show 47 + (j - 0) - 47 = j by omega]
theorem cp_all (n a : Nat → Int32) (j : Nat) (hj : j < 47) : va_cpy n a 0 0 47 j = n j := by
  unfold va_cpy
  rw [if_pos (by omega), show 0 + (j - 0) = j by omega]
abbrev nowY (yr : Nat) (s : YS) : Nat → Int32 := nowF s.1 s.2.1 s.2.2.1 s.2.2.2.1 s.2.2.2.2 yr
def gofM (kd tw wt rt : Nat → Nat) (t n p f : Nat) : Nat → Int32
  | 0 => nI 0
  | b + 1 => if tw b = t then gofM kd tw wt rt t n p f b + (nI (pnd (kd b) (fedI f (wt b) n) * rt t) - nI (p * f * n)) else gofM kd tw wt rt t n p f b
theorem gofM_eq (nb : Nat) (kd tw wt rt : Nat → Nat) (t n p f : Nat) : ∀ b, gofM kd tw wt rt t n p f b = nI (gofP nb kd tw wt t n f b * rt t) - nI (p * f * cntN (fun b => decide (tw b = t)) b * n)
  | 0 => by simp [gofM, gofP, cntN]; rfl
  | b + 1 => by
    rw [gofM, gofP, cntN, gofM_eq nb kd tw wt rt t n p f b]
    by_cases h : tw b = t
    · simp only [h, if_true, decide_true, eq_self]
      rw [Nat.add_mul, ← nI_add, Nat.mul_add, Nat.add_mul, ← nI_add, Nat.mul_one]
      grind
    · simp only [h, if_false, decide_false, Bool.false_eq_true, Nat.add_zero]
theorem gof_M (nb : Nat) (kd tw wt rt : Nat → Nat) (t n p f : Nat) : gofM kd tw wt rt t n p f nb = gof nb kd tw wt rt t n p f := gofM_eq nb kd tw wt rt t n p f nb
theorem payB_val (g : Nat → Int32) : ∀ i, (payB g i).2 = g (payB g i).1
  | 0 => rfl
  | i + 1 => by
    rw [payB]
    split
    · rfl
    · exact payB_val g i
theorem payB_le (g : Nat → Int32) : ∀ i, (payB g i).1 ≤ i
  | 0 => Nat.le_refl 0
  | i + 1 => by
    rw [payB]
    split
    · exact Nat.le_refl _
    · exact Nat.le_succ_of_le (payB_le g i)
def wsM (tw : Nat → Nat) (nt : Nat) : Nat → Int32
  | 0 => (nI 1 <<< (nI nt &&& 31)) - nI 1
  | b + 1 => wsM tw nt b &&& ((nI 1 <<< (nI (tw b) &&& 31)) ^^^ (-1))
theorem bits_0 : ∀ nt, nt < 7 → bitsI (fun _ => true) nt = (nI 1 <<< (nI nt &&& 31)) - nI 1 := by decide
theorem bitsI_cong {c d : Nat → Bool} : ∀ {n : Nat}, (∀ i, i < n → c i = d i) → bitsI c n = bitsI d n
  | 0, _ => rfl
  | n + 1, h => by rw [bitsI, bitsI, bitsI_cong (fun i hi => h i (by omega)), h n (by omega)]
theorem bits_and_t : ∀ x, x < 6 → ∀ a b c d e f : Bool, bitsI (fun t => (match t with | 0 => a | 1 => b | 2 => c | 3 => d | 4 => e | _ => f) && !decide (t = x)) 6 = bitsI (fun t => match t with | 0 => a | 1 => b | 2 => c | 3 => d | 4 => e | _ => f) 6 &&& ((nI 1 <<< (nI x &&& 31)) ^^^ (-1)) := by decide
theorem bits_ext {c : Nat → Bool} {n : Nat} : ∀ k, (∀ i, n ≤ i → c i = false) → bitsI c (n + k) = bitsI c n
  | 0, _ => rfl
  | k + 1, h => by
    show bitsI c (n + k + 1) = _
    rw [bitsI, h (n + k) (by omega), if_neg (by decide), bits_ext k h]
theorem bits_pad (c : Nat → Bool) {n : Nat} (hn : n ≤ 6) : bitsI c n = bitsI (fun t => c t && decide (t < n)) 6 := by
  obtain ⟨k, hk⟩ : ∃ k, 6 = n + k := ⟨6 - n, by omega⟩
  rw [hk, bits_ext k (fun i hi => by simp; omega)]
  exact bitsI_cong (fun i hi => by simp [hi])
theorem bits_and (c : Nat → Bool) {n x : Nat} (hn : n ≤ 6) (hx : x < 6) : bitsI (fun t => c t && !decide (t = x)) n = bitsI c n &&& ((nI 1 <<< (nI x &&& 31)) ^^^ (-1)) := by
  rw [bits_pad _ hn, bits_pad c hn]
  have h := bits_and_t x hx (c 0 && decide (0 < n)) (c 1 && decide (1 < n)) (c 2 && decide (2 < n)) (c 3 && decide (3 < n)) (c 4 && decide (4 < n)) (c 5 && decide (5 < n))
  have e : ∀ t, t < 6 → (match t with | 0 => c 0 && decide (0 < n) | 1 => c 1 && decide (1 < n) | 2 => c 2 && decide (2 < n) | 3 => c 3 && decide (3 < n) | 4 => c 4 && decide (4 < n) | _ => c 5 && decide (5 < n)) = (c t && decide (t < n)) := by
    intro t ht
    rcases (show t = 0 ∨ t = 1 ∨ t = 2 ∨ t = 3 ∨ t = 4 ∨ t = 5 by omega) with rfl | rfl | rfl | rfl | rfl | rfl <;> rfl
  have h1 : bitsI (fun t => c t && decide (t < n)) 6 = _ := (bitsI_cong (fun i hi => (e i hi).symm))
  rw [h1, ← h]
  refine bitsI_cong (fun i hi => ?_)
  rw [e i hi]
  cases c i <;> cases decide (i < n) <;> simp
theorem wsM_bits {tw : Nat → Nat} {nt : Nat} (hnt : nt ≤ 6) : ∀ b, (∀ j, j < b → tw j < 6) → wsM tw nt b = bitsI (fun t => decide (cntN (fun b => decide (tw b = t)) b = 0)) nt
  | 0, _ => by rw [wsM, ← bits_0 nt (by omega)]; exact bitsI_cong (fun i hi => by simp [cntN])
  | b + 1, h => by
    rw [wsM, wsM_bits hnt b (fun j hj => h j (by omega)), ← bits_and _ hnt (h b (by omega))]
    refine bitsI_cong (fun t ht => ?_)
    rw [cntN]
    by_cases hb : tw b = t
    · simp [hb]
    · have : ¬ t = tw b := fun z => hb z.symm
      simp [hb, this]
theorem or_0 (x : Int32) : x ||| nI 0 = x := by rw [nI_0]; exact Int32.or_zero
