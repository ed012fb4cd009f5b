/-! Scales -/
def xF (st : Nat → Nat) (x : Int32) (i : Nat) : Bool := decide (nI (st i) = x)
def aV (st sw : Nat → Nat) (x m : Int32) (i : Nat) : Int32 := nI (sw i) - (if xF st x i then m else nI 0)
def allN (c : Nat → Bool) : Nat → Bool
  | 0 => true
  | n + 1 => allN c n && c n
def anyN (c : Nat → Bool) : Nat → Bool
  | 0 => false
  | n + 1 => anyN c n || c n
def pOk (st sb sw : Nat → Nat) (x m : Int32) (i j : Nat) : Bool := decide (¬ sb i = sb j ∨ aV st sw x m i = aV st sw x m j)
def shS (st sb sw : Nat → Nat) (x m : Int32) (n : Nat) : Bool := allN (fun i => allN (pOk st sb sw x m i) i) n
def moI (k : Nat) : Int32 := nI k - 200
theorem moI_s (k : Nat) : moI (k + 1) = moI k + 1 := by
  unfold moI
  rw [← nI_add, show nI 1 = (1 : Int32) from rfl]
  grind
def erJ (st sb sw : Nat → Nat) (x : Int32) (i : Nat) (e : Int32) : Nat → Int32
  | 0 => e
  | j + 1 => if sb i = sb j ∧ xF st x i = true ∧ xF st x j = false then nI (sw i) - nI (sw j) else erJ st sb sw x i e j
def erI (st sb sw : Nat → Nat) (x : Int32) (n : Nat) : Nat → Int32
  | 0 => nI 0
  | i + 1 => erJ st sb sw x i (erI st sb sw x n i) n
def pairOk (st sb sw : Nat → Nat) (x : Int32) (i j : Nat) (e : Int32) : Bool := if sb i = sb j then (if xF st x i = xF st x j then decide (nI (sw i) - nI (sw j) = 0) else if xF st x i = true then decide (¬ nI (sw i) - nI (sw j) = 0) && (decide (e = 0) || decide (nI (sw i) - nI (sw j) = e)) else true) else true
def prow (st sb sw : Nat → Nat) (x : Int32) (n i : Nat) : Nat → Bool := fun j => pairOk st sb sw x i j (erJ st sb sw x i (erI st sb sw x n i) j)
def rowB (st sb sw : Nat → Nat) (x : Int32) (n : Nat) : Nat → Bool := fun i => (fstN (prow st sb sw x n i) n).isNone
def cB (st sb sw : Nat → Nat) (x : Int32) (n : Nat) : Bool := (fstN (rowB st sb sw x n) n).isNone
theorem cB_hit {st sb sw : Nat → Nat} {x : Int32} {n i j : Nat} (h1 : fstN (rowB st sb sw x n) i = none) (hi : i < n) (h2 : fstN (prow st sb sw x n i) j = none) (hj : j < n) (h3 : prow st sb sw x n i j = false) : cB st sb sw x n = false := by
  have h4 : rowB st sb sw x n i = false := by
    unfold rowB
    rw [fstN_hit h2 h3 hj]
    rfl
  unfold cB
  rw [fstN_hit h1 h4 hi]
  rfl
theorem xF_t {st : Nat → Nat} {x : Int32} {i : Nat} (h : nI (st i) = x) : xF st x i = true := decide_eq_true h
theorem xF_f {st : Nat → Nat} {x : Int32} {i : Nat} (h : ¬ nI (st i) = x) : xF st x i = false := decide_eq_false h
theorem erJ_s {st sb sw : Nat → Nat} {x : Int32} {i j : Nat} {e : Int32} (h : ¬ (sb i = sb j ∧ xF st x i = true ∧ xF st x j = false)) : erJ st sb sw x i e (j + 1) = erJ st sb sw x i e j := by rw [erJ, if_neg h]
theorem erJ_t {st sb sw : Nat → Nat} {x : Int32} {i j : Nat} {e : Int32} (h : sb i = sb j ∧ xF st x i = true ∧ xF st x j = false) : erJ st sb sw x i e (j + 1) = nI (sw i) - nI (sw j) := by rw [erJ, if_pos h]
def opScalesC (nt sn : Nat) (st sb sw : Nat → Nat) (x : Int32) : Int32 := match rn x 0 1 with
  | none => -3
  | some k => if k = 1 then bI (cB st sb sw (-1) sn) else bitsI (fun t => cB st sb sw (nI t) sn) nt
def shA (st sb sw : Nat → Nat) (sn t : Nat) : Nat → Bool := anyN (fun k => !decide (moI k = 0) && shS st sb sw (nI t) (moI k) sn)
def opScalesM (nt sn : Nat) (st sb sw : Nat → Nat) (x : Int32) : Int32 := match rn x 0 1 with
  | none => -3
  | some k => if k = 1 then bI (shS st sb sw (-1) (nI 0) sn) else bitsI (fun t => shA st sb sw sn t 401) nt
theorem moI_lt : ∀ k, k < 401 → moI k < nI 201 := by decide +kernel
