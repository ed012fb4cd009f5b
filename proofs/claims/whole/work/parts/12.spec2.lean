theorem ixVs {f : Nat → Nat} {j v : Nat} (h : j < 2147483648) : nA (updn f j v) (nI j).toNatClampNeg = nI v := by rw [nI_clamp h]; exact congrArg nI updn_s
theorem ixVr {f : Nat → Int32} {j : Nat} {x : Int32} (h : j < 2147483648) : upd f j x (nI j).toNatClampNeg = x := by rw [nI_clamp h]; exact pk_us
theorem g_top {E : EN} {M : MF} {ws : va_W} {pc : Nat} {lv : List (Nat × Value)} {st : List Value} {x y : Int32} (h : x = y) (k : G E M ws pc lv (.int y :: st)) : G E M ws pc lv (.int x :: st) := by rw [h]; exact k
def sumI (f : Nat → Int32) : Nat → Int32
  | 0 => 0
  | n + 1 => sumI f n + f n
def cmI (t o g : Nat) : Int32 := if g = t then 1 else if o = t then -1 else 0
def worN (kd tw wt rt : Nat → Nat) (b : Nat) : Nat := pnd (kd b) (wt b) * rt (tw b)
def balL (kd tw wt rt eb eg : Nat → Nat) (t n : Nat) : Int32 := sumI (fun i => cmI t (tw (eb i)) (eg i) * nI (worN kd tw wt rt (eb i))) n
def cmS (tw eb eg : Nat → Nat) (t n : Nat) : Int32 := sumI (fun i => cmI t (tw (eb i)) (eg i)) n
def absI (x : Int32) : Int32 := if 0 ≤ x then x else 0 - x
def chD (ch bl : Nat → Int32) (i : Nat) : Nat → Int32 := fun t => if t < i then ch t - bl t else ch t
theorem chD_0 (ch bl : Nat → Int32) : chD ch bl 0 = ch := by funext t; simp [chD]
theorem chD_s (ch bl : Nat → Int32) (i : Nat) : chD ch bl (i + 1) = upd (chD ch bl i) i (chD ch bl i i - bl i) := by
  funext t
  unfold chD upd
  by_cases h : t = i
  · subst h; simp
  · by_cases h2 : t < i
    · simp [h, h2, Nat.lt_succ_of_lt h2]
    · have h3 : ¬ t < i + 1 := by omega
      simp [h, h2, h3]
def twG (tw eb eg : Nat → Nat) : Nat → (Nat → Nat)
  | 0 => tw
  | n + 1 => updn (twG tw eb eg n) (eb n) (eg n)
def hasE (eb : Nat → Nat) (b : Nat) : Nat → Bool
  | 0 => false
  | n + 1 => hasE eb b n || decide (eb n = b)
theorem hasE_t {eb : Nat → Nat} {b i : Nat} : ∀ {n : Nat}, i < n → eb i = b → hasE eb b n = true
  | 0, h, _ => absurd h (Nat.not_lt_zero i)
  | n + 1, h, e => by
    unfold hasE
    by_cases h2 : i = n
    · subst h2; simp [e]
    · rw [hasE_t (n := n) (by omega) e]; rfl
def grwN (k : Nat) : Nat := if k = 1 then 0 else if k = 3 then 2 else 1
theorem grF_nI {k : Nat} (h : k < 4) : grF k = nI (grwN k) := by
  rcases (show k = 0 ∨ k = 1 ∨ k = 2 ∨ k = 3 by omega) with rfl | rfl | rfl | rfl <;> decide
theorem grwN_le (k : Nat) : grwN k ≤ 2 := by unfold grwN; split <;> (try split) <;> omega
def trS (s g c : Nat) : Nat := if s = c then s else if g - 1 = 0 then c else s
def trG (k s g c : Nat) : Nat := if s = c then min 9 (g + grwN k) else g - 1
theorem max0 {g : Nat} (h : g < 1000) : (if nI 0 < nI g - nI 1 then nI g - nI 1 else nI 0) = nI (g - 1) := by
  rcases Nat.eq_zero_or_pos g with rfl | hp
  · decide
  · rw [pk_sub hp]
    by_cases h1 : g = 1
    · subst h1; decide
    · rw [if_pos ((nI_ltI (by decide) (by omega)).mpr (by omega))]
def oI (o : Option Nat) : Int32 := match o with
  | none => -1
  | some b => nI b
abbrev oA (f : Nat → Option Nat) : Nat → Int32 := fun j => oI (f j)
def updO (f : Nat → Option Nat) (k : Nat) (v : Option Nat) : Nat → Option Nat := fun j => if j = k then v else f j
theorem upd_oA (f : Nat → Option Nat) (k v : Nat) : upd (oA f) k (nI v) = oA (updO f k (some v)) := by
  funext j
  by_cases h : j = k
  · subst h; simp [upd, oA, updO, oI]
  · simp [upd, oA, updO, h]
def rath (lw : Nat) (wt gr : Nat → Nat) (n m : Nat) : Bool := if lw = 0 then decide (wt m < wt n) else if lw = 1 then decide (wt n < wt m) else decide (gr n < gr m)
def ratO (lw : Nat) (wt gr : Nat → Nat) (n : Nat) : Option Nat → Bool
  | none => true
  | some m => rath lw wt gr n m
/-- the one that a town sends, of the first n boys -/
def bst (lw : Nat) (kd tw wt gr : Nat → Nat) (t : Nat) : Nat → Option Nat
  | 0 => none
  | n + 1 => if tw n = t ∧ kd n ≠ 3 ∧ ratO lw wt gr n (bst lw kd tw wt gr t n) = true then some n else bst lw kd tw wt gr t n
theorem bst_lt {lw : Nat} {kd tw wt gr : Nat → Nat} {t m : Nat} : ∀ {n : Nat}, bst lw kd tw wt gr t n = some m → m < n ∧ tw m = t ∧ kd m ≠ 3
  | 0, h => by simp [bst] at h
  | n + 1, h => by
    unfold bst at h
    split at h
    · rename_i hc
      cases h
      exact ⟨Nat.lt_succ_self _, hc.1, hc.2.1⟩
    · obtain ⟨h1, h2⟩ := bst_lt h
      exact ⟨by omega, h2⟩
theorem bst_skip {lw : Nat} {kd tw wt gr : Nat → Nat} {n : Nat} (h : kd n = 3 ∨ ∃ m, bst lw kd tw wt gr (tw n) n = some m ∧ rath lw wt gr n m = false) : (fun t => bst lw kd tw wt gr t (n + 1)) = fun t => bst lw kd tw wt gr t n := by
  funext t
  show bst lw kd tw wt gr t (n + 1) = _
  rw [bst, if_neg]
  rintro ⟨h1, h2, h3⟩
  rcases h with h | ⟨m, h4, h5⟩
  · exact h2 h
  · rw [← h1, h4] at h3
    simp [ratO, h5] at h3
theorem bst_take {lw : Nat} {kd tw wt gr : Nat → Nat} {n : Nat} (hk : kd n ≠ 3) (h : bst lw kd tw wt gr (tw n) n = none ∨ ∃ m, bst lw kd tw wt gr (tw n) n = some m ∧ rath lw wt gr n m = true) : (fun t => bst lw kd tw wt gr t (n + 1)) = updO (fun t => bst lw kd tw wt gr t n) (tw n) (some n) := by
  funext t
  show bst lw kd tw wt gr t (n + 1) = _
  unfold updO
  by_cases ht : t = tw n
  · subst ht
    rw [if_pos rfl, bst, if_pos]
    refine ⟨rfl, hk, ?_⟩
    rcases h with h | ⟨m, h4, h5⟩
    · rw [h]; rfl
    · rw [h4]; exact h5
  · rw [if_neg ht, bst, if_neg]
    rintro ⟨h1, -, -⟩
    exact ht h1.symm
