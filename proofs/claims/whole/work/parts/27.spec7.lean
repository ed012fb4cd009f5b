/-! Sums over who goes where -/
theorem i_zero_add (x : Int32) : nI 0 + x = x := by rw [nI_0]; exact Int32.zero_add x
def mG (F : Nat → Nat → Int32) (b : Nat) (o : Option Nat) : Int32 := match o with
  | none => 0
  | some o => F b o
def sumG (F : Nat → Nat → Int32) (g : Nat → Option Nat) : Nat → Int32 := sumI (fun b => mG F b (g b))
theorem sumG_s (F : Nat → Nat → Int32) (g : Nat → Option Nat) (n : Nat) : sumG F g (n + 1) = sumG F g n + mG F n (g n) := rfl
theorem mG_n (F : Nat → Nat → Int32) (b : Nat) : mG F b none = 0 := rfl
theorem mG_s (F : Nat → Nat → Int32) (b o : Nat) : mG F b (some o) = F b o := rfl
theorem sumI_cong {f f2 : Nat → Int32} : ∀ {n : Nat}, (∀ i, i < n → f i = f2 i) → sumI f n = sumI f2 n
  | 0, _ => rfl
  | n + 1, h => by rw [sumI, sumI, sumI_cong (fun i hi => h i (by omega)), h n (by omega)]
theorem sumI_zero : ∀ (n : Nat), sumI (fun _ => 0) n = 0
  | 0 => rfl
  | n + 1 => by rw [sumI, sumI_zero n]; rfl
theorem sumG_none (F : Nat → Nat → Int32) (n : Nat) : sumG F (fun _ => none) n = 0 := sumI_zero n
theorem sumG_upd {F : Nat → Nat → Int32} {g : Nat → Option Nat} {b o : Nat} (hg : g b = none) : ∀ {n : Nat}, b < n → sumG F (updO g b (some o)) n = sumG F g n + F b o
  | 0, h => absurd h (Nat.not_lt_zero b)
  | n + 1, h => by
    rw [sumG_s, sumG_s]
    by_cases hb : b = n
    · subst hb
      have e : sumG F (updO g b (some o)) b = sumG F g b := sumI_cong (fun i hi => by
        have : updO g b (some o) i = g i := if_neg (by omega)
        rw [this])
      have e2 : updO g b (some o) b = some o := if_pos rfl
      rw [e, e2, hg, mG_n, mG_s, Int32.add_zero]
    · have e2 : updO g b (some o) n = g n := if_neg (fun z => hb z.symm)
      rw [sumG_upd hg (n := n) (by omega), e2]
      rw [Int32.add_assoc, Int32.add_assoc, Int32.add_comm (F b o)]
theorem balM_sum (g : Nat → Option Nat) (kd tw wt rt : Nat → Nat) (t : Nat) : ∀ n, balM g kd tw wt rt t n = sumG (fun b o => (if o = t then nI (worN kd tw wt rt b) else nI 0) - (if tw b = t then nI (worN kd tw wt rt b) else nI 0)) g n
  | 0 => nI_0
  | n + 1 => by
    rw [balM, sumG_s, ← balM_sum g kd tw wt rt t n]
    cases g n with
    | none => rw [mG_n, Int32.add_zero]
    | some o => rw [mG_s]; grind
theorem cmM_sum (g : Nat → Option Nat) (tw : Nat → Nat) (t : Nat) : ∀ n, cmM g tw t n = sumG (fun b o => (if o = t then nI 1 else nI 0) - (if tw b = t then nI 1 else nI 0)) g n
  | 0 => nI_0
  | n + 1 => by
    rw [cmM, sumG_s, ← cmM_sum g tw t n]
    cases g n with
    | none => rw [mG_n, Int32.add_zero]
    | some o => rw [mG_s]; grind
/-- the exchange as who goes where -/
def gsE (eb eg : Nat → Nat) : Nat → (Nat → Option Nat)
  | 0 => fun _ => none
  | n + 1 => updO (gsE eb eg n) (eb n) (some (eg n))
theorem gsE_has (eb eg : Nat → Nat) (b : Nat) : ∀ n, (gsE eb eg n b).isSome = hasE eb b n
  | 0 => rfl
  | n + 1 => by
    rw [gsE, hasE]
    unfold updO
    by_cases h : b = eb n
    · rw [if_pos h]; simp [h]
    · rw [if_neg h, gsE_has eb eg b n]
      have h2 : ¬ eb n = b := fun z => h z.symm
      simp [h2]
theorem gsE_cong {eb eg eb2 eg2 : Nat → Nat} : ∀ {n : Nat}, (∀ i, i < n → eb i = eb2 i ∧ eg i = eg2 i) → gsE eb eg n = gsE eb2 eg2 n
  | 0, _ => rfl
  | n + 1, h => by rw [gsE, gsE, gsE_cong (fun i hi => h i (by omega)), (h n (by omega)).1, (h n (by omega)).2]
theorem gsE_push (eb eg : Nat → Nat) (n b t : Nat) : gsE (updn eb n b) (updn eg n t) (n + 1) = updO (gsE eb eg n) b (some t) := by
  rw [gsE, updn_s, updn_s, gsE_cong (eb2 := eb) (eg2 := eg) (fun i hi => ⟨updn_n (by omega), updn_n (by omega)⟩)]
def okE (nb nt en : Nat) (tw eb eg : Nat → Nat) : Prop := en ≤ 8 ∧ (∀ i, i < en → eb i < nb) ∧ (∀ i, i < en → eg i < nt) ∧ (∀ i, i < en → eg i ≠ tw (eb i)) ∧ ∀ i, i < en → hasE eb (eb i) i = false
theorem sumG_gsE {F : Nat → Nat → Int32} {eb eg : Nat → Nat} {nb : Nat} : ∀ {n : Nat}, (∀ i, i < n → eb i < nb) → (∀ i, i < n → hasE eb (eb i) i = false) → sumG F (gsE eb eg n) nb = sumI (fun i => F (eb i) (eg i)) n
  | 0, _, _ => sumG_none F nb
  | n + 1, h1, h2 => by
    have hn : gsE eb eg n (eb n) = none := by
      have := gsE_has eb eg (eb n) n
      rw [h2 n (by omega)] at this
      cases hg : gsE eb eg n (eb n) with
      | none => rfl
      | some o => rw [hg] at this; cases this
    rw [gsE, sumG_upd hn (h1 n (by omega)), sumG_gsE (fun i hi => h1 i (by omega)) (fun i hi => h2 i (by omega)), sumI]
theorem cmI_mul {t o g : Nat} {w : Int32} (h : g ≠ o) : (if g = t then w else nI 0) - (if o = t then w else nI 0) = cmI t o g * w := by
  unfold cmI
  by_cases h1 : g = t
  · have h2 : ¬ o = t := fun z => h (h1.trans z.symm)
    rw [if_pos h1, if_neg h2, if_pos h1, Int32.one_mul, nI_0, Int32.sub_zero]
  · by_cases h2 : o = t
    · rw [if_neg h1, if_pos h2, if_neg h1, if_pos h2, nI_0, Int32.zero_sub, Int32.neg_mul, Int32.one_mul]
    · rw [if_neg h1, if_neg h2, if_neg h1, if_neg h2, nI_0, Int32.zero_mul, Int32.sub_zero]
theorem balM_L {nb nt en : Nat} {kd tw wt rt eb eg : Nat → Nat} (h : okE nb nt en tw eb eg) (t : Nat) : balM (gsE eb eg en) kd tw wt rt t nb = balL kd tw wt rt eb eg t en := by
  rw [balM_sum, sumG_gsE h.2.1 h.2.2.2.2]
  exact sumI_cong (fun i hi => cmI_mul (h.2.2.2.1 i hi))
theorem cmM_S {nb nt en : Nat} {tw eb eg : Nat → Nat} (h : okE nb nt en tw eb eg) (t : Nat) : cmM (gsE eb eg en) tw t nb = cmS tw eb eg t en := by
  rw [cmM_sum, sumG_gsE h.2.1 h.2.2.2.2]
  refine sumI_cong (fun i hi => ?_)
  have := cmI_mul (t := t) (w := nI 1) (h.2.2.2.1 i hi)
  rw [this, show nI 1 = (1 : Int32) from rfl, Int32.mul_one]
theorem twO_upd (g : Nat → Option Nat) (tw : Nat → Nat) (c o : Nat) : twO (updO g c (some o)) tw = updn (twO g tw) c o := by
  funext b
  by_cases h : b = c
  · subst h; simp [twO, updO, updn]
  · simp [twO, updO, updn, h]
theorem twO_gsE (tw eb eg : Nat → Nat) : ∀ n, twO (gsE eb eg n) tw = twG tw eb eg n
  | 0 => rfl
  | n + 1 => by rw [twG, gsE, twO_upd, twO_gsE tw eb eg n]
theorem gsE_lt {eb eg : Nat → Nat} {nb : Nat} : ∀ {n : Nat}, (∀ i, i < n → eb i < nb) → ∀ b, nb ≤ b → gsE eb eg n b = none
  | 0, _, b, _ => rfl
  | n + 1, h, b, hb => by
    rw [gsE]
    unfold updO
    rw [if_neg (fun z => by have := h n (by omega); omega)]
    exact gsE_lt (fun i hi => h i (by omega)) b hb
theorem mpN_twO {g : Nat → Option Nat} {tw : Nat → Nat} {nb : Nat} (h : ∀ b, nb ≤ b → g b = none) : mpN (twO g tw) tw nb = twO g tw := by
  funext b
  unfold mpN
  by_cases hb : b < nb
  · rw [if_pos hb]
  · rw [if_neg hb]
    unfold twO
    rw [h b (by omega)]
theorem gsT_S {S : Nat → Option Nat} {nx tw : Nat → Nat} (hS : ∀ t b, S t = some b → tw b = t) : ∀ {k b : Nat}, gsT S nx k b ≠ none → tw b < k
  | 0, b, h => absurd rfl h
  | k + 1, b, h => by
    rw [gsT] at h
    cases hs : S k with
    | none => rw [hs] at h; exact Nat.lt_succ_of_lt (gsT_S hS h)
    | some c =>
      rw [hs] at h
      have h : updO (gsT S nx k) c (some (nx k)) b ≠ none := h
      unfold updO at h
      by_cases hb : b = c
      · subst hb; rw [hS k b hs]; exact Nat.lt_succ_self k
      · rw [if_neg hb] at h; exact Nat.lt_succ_of_lt (gsT_S hS h)
theorem gsT_nb {S : Nat → Option Nat} {nx : Nat → Nat} {nb : Nat} (hS : ∀ t b, S t = some b → b < nb) : ∀ k b, nb ≤ b → gsT S nx k b = none
  | 0, b, _ => rfl
  | k + 1, b, hb => by
    rw [gsT]
    cases hs : S k with
    | none => exact gsT_nb hS k b hb
    | some c =>
      show updO (gsT S nx k) c (some (nx k)) b = none
      unfold updO
      rw [if_neg (fun z => by have := hS k c hs; omega)]
      exact gsT_nb hS k b hb
theorem twO_gsT (S : Nat → Option Nat) (nx tw : Nat → Nat) : ∀ k, twO (gsT S nx k) tw = lenT S nx tw k
  | 0 => rfl
  | k + 1 => by
    rw [lenT, gsT]
    cases hs : S k with
    | none => exact twO_gsT S nx tw k
    | some c =>
      show twO (updO (gsT S nx k) c (some (nx k))) tw = updn (lenT S nx tw k) c (nx k)
      rw [← twO_gsT S nx tw k]
      funext b
      unfold twO updO updn
      by_cases h : b = c
      · rw [if_pos h, if_pos h]
      · rw [if_neg h, if_neg h]
def mS (F : Nat → Nat → Int32) (x : Nat) (o : Option Nat) : Int32 := match o with
  | none => 0
  | some b => F b x
def sumS (F : Nat → Nat → Int32) (S : Nat → Option Nat) (nx : Nat → Nat) : Nat → Int32 := sumI (fun s => mS F (nx s) (S s))
theorem sumS_s (F : Nat → Nat → Int32) (S : Nat → Option Nat) (nx : Nat → Nat) (n : Nat) : sumS F S nx (n + 1) = sumS F S nx n + mS F (nx n) (S n) := rfl
theorem mS_n (F : Nat → Nat → Int32) (x : Nat) : mS F x none = 0 := rfl
theorem mS_s (F : Nat → Nat → Int32) (x b : Nat) : mS F x (some b) = F b x := rfl
theorem sumG_gsT {F : Nat → Nat → Int32} {S : Nat → Option Nat} {nx tw : Nat → Nat} {nb : Nat} (hS : ∀ t b, S t = some b → tw b = t ∧ b < nb) : ∀ k, sumG F (gsT S nx k) nb = sumS F S nx k
  | 0 => sumG_none F nb
  | k + 1 => by
    rw [gsT, sumS_s, ← sumG_gsT hS k]
    cases hs : S k with
    | none => rw [mS_n, Int32.add_zero]
    | some c =>
      rw [mS_s]
      have hn : gsT S nx k c = none := by
        cases hg : gsT S nx k c with
        | none => rfl
        | some o =>
          have h1 := gsT_S (fun t b h => (hS t b h).1) (nx := nx) (k := k) (b := c) (by rw [hg]; exact fun z => by cases z)
          have h2 := (hS k c hs).1
          omega
      exact sumG_upd hn (hS k c hs).2
theorem lenT_same {S : Nat → Option Nat} {nx tw : Nat → Nat} (hS : ∀ t b, S t = some b → tw b = t) {b : Nat} : ∀ k, k ≤ tw b → lenT S nx tw k b = tw b
  | 0, _ => rfl
  | k + 1, hk => by
    rw [lenT]
    cases hs : S k with
    | none => exact lenT_same hS k (by omega)
    | some c =>
      show updn (lenT S nx tw k) c (nx k) b = tw b
      rw [updn_n (fun z => by subst z; have := hS k b hs; omega)]
      exact lenT_same hS k (by omega)
theorem lenC_sum {S : Nat → Option Nat} {kd wt rt nx tw : Nat → Nat} {ch : Nat → Int32} (hS : ∀ t b, S t = some b → tw b = t) (t : Nat) : ∀ k, lenC S kd wt rt nx tw ch k t = ch t - sumS (fun b o => (if o = t then nI (worN kd tw wt rt b) else nI 0) - (if tw b = t then nI (worN kd tw wt rt b) else nI 0)) S nx k
  | 0 => by show ch t = ch t - 0; rw [Int32.sub_zero]
  | k + 1 => by
    have ih := lenC_sum (S := S) (kd := kd) (wt := wt) (rt := rt) (nx := nx) (ch := ch) hS t k
    rw [lenC, sumS_s]
    cases hs : S k with
    | none => rw [mS_n, Int32.add_zero]; exact ih
    | some c =>
      rw [mS_s]
      have h1 := hS k c hs
      have h2 : lenT S nx tw k c = tw c := lenT_same hS k (by omega)
      have hw : nI (pnd (kd c) (wt c) * rt (lenT S nx tw k c)) = nI (worN kd tw wt rt c) := by rw [h2]; rfl
      show upd (upd (lenC S kd wt rt nx tw ch k) k (lenC S kd wt rt nx tw ch k k + nI (pnd (kd c) (wt c) * rt (lenT S nx tw k c)))) (nx k) (upd (lenC S kd wt rt nx tw ch k) k (lenC S kd wt rt nx tw ch k k + nI (pnd (kd c) (wt c) * rt (lenT S nx tw k c))) (nx k) - nI (pnd (kd c) (wt c) * rt (lenT S nx tw k c))) t = _
      rw [hw, h1]
      generalize nI (worN kd tw wt rt c) = w
      generalize hL : lenC S kd wt rt nx tw ch k = L at ih ⊢
      generalize sumS _ S nx k = Z at ih ⊢
      show _ = ch t - (Z + ((if nx k = t then w else nI 0) - (if k = t then w else nI 0)))
      rw [nI_0]
      by_cases ha : t = nx k
      · rw [if_pos ha.symm]
        rw [ha, pk_us]
        by_cases hb : nx k = k
        · rw [hb, pk_us, if_pos rfl, ← hb, ← ha, ih]
          grind
        · rw [pk_un hb, if_neg (fun z => hb z.symm), ← ha, ih]
          grind
      · rw [if_neg (fun z => ha z.symm), pk_un ha]
        by_cases hb : t = k
        · rw [hb, pk_us, if_pos rfl, ← hb, ih]
          grind
        · rw [pk_un hb, if_neg (fun z => hb z.symm), ih]
          grind
theorem sumS_zero {F : Nat → Nat → Int32} {S : Nat → Option Nat} {nx : Nat → Nat} : ∀ k, (∀ s b, s < k → S s = some b → F b (nx s) = 0) → sumS F S nx k = 0
  | 0, _ => rfl
  | k + 1, h => by
    rw [sumS_s, sumS_zero k (fun s b hs => h s b (by omega))]
    cases hs : S k with
    | none => rfl
    | some c => rw [mS_s, h k c (by omega) hs]; rfl
/-- the cheese of a Lent, by who goes where -/
theorem lent_C {S : Nat → Option Nat} {kd wt rt nx tw : Nat → Nat} {ch : Nat → Int32} {nb nt : Nat} (hS : ∀ t b, S t = some b → tw b = t ∧ b < nb) (hnx : ∀ t, t < nt → nx t < nt) : chD ch (fun t => balM (gsT S nx nt) kd tw wt rt t nb) nt = lenC S kd wt rt nx tw ch nt := by
  funext t
  rw [lenC_sum (fun t b h => (hS t b h).1)]
  unfold chD
  by_cases ht : t < nt
  · rw [if_pos ht]
    show ch t - balM (gsT S nx nt) kd tw wt rt t nb = _
    rw [balM_sum, sumG_gsT hS]
  · rw [if_neg ht, sumS_zero nt]
    · rw [Int32.sub_zero]
    · intro s b hs hb
      have h1 := (hS s b hb).1
      have h2 := hnx s hs
      show (if nx s = t then _ else nI 0) - (if tw b = t then _ else nI 0) = 0
      rw [if_neg (by omega), if_neg (by omega), nI_0]
      decide
theorem lent_T {S : Nat → Option Nat} {nx tw : Nat → Nat} {nb nt : Nat} (hS : ∀ t b, S t = some b → b < nb) : mpN (twO (gsT S nx nt) tw) tw nb = lenT S nx tw nt := by
  rw [mpN_twO (gsT_nb hS nt), twO_gsT]
theorem lenT_none {nx tw : Nat → Nat} : ∀ k, lenT (fun _ => none) nx tw k = tw
  | 0 => rfl
  | k + 1 => lenT_none k
theorem lenC_none {kd wt rt nx tw : Nat → Nat} {ch : Nat → Int32} : ∀ k, lenC (fun _ => none) kd wt rt nx tw ch k = ch
  | 0 => rfl
  | k + 1 => lenC_none k
