/-! Lines of a text -/
theorem exOrM {E : EN} {M : MF} {ws : va_W} {q : Nat} {lv : List (Nat × Value)} {rest : List Value} {r1 r2 : Option Value} {is : List Nat} {P1 P2 : Prop} {w1 w2 : va_W} (ha : ascB 0 is = true) (k1 : P1 → G E M (putM 0 ws is w1) q lv (r1.toList ++ rest)) (k2 : P2 → G E M (putM 0 ws is w2) q lv (r2.toList ++ rest)) : ∀ (r : Option Value) (w' : va_W), (P1 ∧ xQ r1 w1 r w') ∨ (P2 ∧ xQ r2 w2 r w') → G E M (putAt ws is w') q lv (r.toList ++ rest) := by
  rintro r w' (⟨h, rfl, rfl⟩ | ⟨h, rfl, rfl⟩)
  · rw [putAt_M ha]; exact k1 h
  · rw [putAt_M ha]; exact k2 h
theorem exOrE {α β : Type} {E : EN} {M : MF} {ws : va_W} {q : Nat} {lv : List (Nat × Value)} {rest : List Value} {r1 r2 : Option Value} {is : List Nat} {P1 : α → Prop} {P2 : β → Prop} {w1 : α → va_W} {w2 : β → va_W} (ha : ascB 0 is = true) (k1 : ∀ a, P1 a → G E M (putM 0 ws is (w1 a)) q lv (r1.toList ++ rest)) (k2 : ∀ b, P2 b → G E M (putM 0 ws is (w2 b)) q lv (r2.toList ++ rest)) : ∀ (r : Option Value) (w' : va_W), (∃ a, P1 a ∧ xQ r1 (w1 a) r w') ∨ (∃ b, P2 b ∧ xQ r2 (w2 b) r w') → G E M (putAt ws is w') q lv (r.toList ++ rest) := by
  rintro r w' (⟨a, h, rfl, rfl⟩ | ⟨a, h, rfl, rfl⟩)
  · rw [putAt_M ha]; exact k1 a h
  · rw [putAt_M ha]; exact k2 a h
theorem g_loopW {E : EN} {M : MF} (n : Nat) (wF : Nat → va_W) (lF : Nat → List (Nat × Value)) {pc : Nat} {st : List Value} (a : Nat) (step : ∀ i, a ≤ i → i < n → G E M (wF (i + 1)) pc (lF (i + 1)) st → G E M (wF i) pc (lF i) st) (exit : G E M (wF n) pc (lF n) st) (ha : a ≤ n) : G E M (wF a) pc (lF a) st := by
  have h : ∀ k i, a ≤ i → i + k = n → G E M (wF i) pc (lF i) st := by
    intro k
    induction k with
    | zero => intro i _ hi; have e : i = n := hi; rw [e]; exact exit
    | succ k ih => intro i h1 hi; exact step i h1 (by omega) (ih (i + 1) (by omega) (by omega))
  exact h (n - a) a (Nat.le_refl _) (by omega)
abbrev LN : Type := Nat × List Nat
def bd (k nt : Nat) : List (Nat × Nat) := if k < 4 then [(0, nt - 1), (1, 99), (0, 3), (0, 9)] else if k < 8 then [] else if k = 8 then [(2, 6)] else if k = 9 then [(0, nt - 1), (0, 3), (1, 9), (0, 3)] else if k = 10 then [(0, nt - 1), (0, 3)] else if k = 11 then [(0, nt - 1), (0, nt - 1)] else if k = 12 then [(0, 999)] else []
def nums (tx : Nat → Nat) (tl : Nat) : List (Nat × Nat) → Nat → Nat → Sum Nat (List Nat × Nat × Nat)
  | [], e, s => .inr ([], e, s)
  | b :: l, e, _ => if numB tx tl e b.1 b.2 then (match nums tx tl l (ten tx tl (tsk tx tl e)) (tsk tx tl e) with
    | .inl s => .inl s
    | .inr x => .inr (nvl tx tl (tsk tx tl e) :: x.1, x.2)) else .inl (tsk tx tl e)
def lineK (tx : Nat → Nat) (tl k nt nb e s : Nat) : Sum Nat (LN × Nat) := if k < 4 ∧ 10 ≤ nb then .inl s else match nums tx tl (bd k nt) e s with
  | .inl s => .inl s
  | .inr x => if k = 11 ∧ x.1.getD 0 0 = x.1.getD 1 0 then .inl x.2.2 else .inr ((k, x.1), x.2.1)
def lineP (tx : Nat → Nat) (tl nt nb e : Nat) : Sum Nat (LN × Nat) := match wdM (tokV tx tl (tsk tx tl e)) with
  | none => .inl (tsk tx tl e)
  | some k => lineK tx tl k nt nb (ten tx tl (tsk tx tl e)) (tsk tx tl e)
/-- a league as texts make it: ((towns, law, slack, boys), (craft, rate, food, want, next), (kind, town, weight, skill, grade)) -/
abbrev LSt : Type := (Nat × Nat × Nat × Nat) × ((Nat → Nat) × (Nat → Nat) × (Nat → Nat) × (Nat → Int32) × (Nat → Nat)) × ((Nat → Nat) × (Nat → Nat) × (Nat → Nat) × (Nat → Nat) × (Nat → Nat))
def doL (nxf : Nat → Nat → Nat) (l : LN) (D : LSt) : LSt :=
  if l.1 < 4 then ((D.1.1, D.1.2.1, D.1.2.2.1, D.1.2.2.2 + 1), D.2.1, (updn D.2.2.1 D.1.2.2.2 l.1, updn D.2.2.2.1 D.1.2.2.2 (l.2.getD 0 0), updn D.2.2.2.2.1 D.1.2.2.2 (l.2.getD 1 0), updn D.2.2.2.2.2.1 D.1.2.2.2 (l.2.getD 2 0), updn D.2.2.2.2.2.2 D.1.2.2.2 (l.2.getD 3 0)))
  else if l.1 < 8 then ((D.1.1, l.1 - 4, D.1.2.2.1, D.1.2.2.2), D.2.1, D.2.2)
  else if l.1 = 8 then ((l.2.getD 0 0, 0, 0, 0), (fun _ => 0, fun _ => 1, fun _ => 1, fun _ => -1, nxf (l.2.getD 0 0)), D.2.2)
  else if l.1 = 9 then (D.1, (updn D.2.1.1 (l.2.getD 0 0) (l.2.getD 1 0), updn D.2.1.2.1 (l.2.getD 0 0) (l.2.getD 2 0), updn D.2.1.2.2.1 (l.2.getD 0 0) (l.2.getD 3 0), D.2.1.2.2.2.1, D.2.1.2.2.2.2), D.2.2)
  else if l.1 = 10 then (D.1, (D.2.1.1, D.2.1.2.1, D.2.1.2.2.1, upd D.2.1.2.2.2.1 (l.2.getD 0 0) (nI (l.2.getD 1 0)), D.2.1.2.2.2.2), D.2.2)
  else if l.1 = 11 then (D.1, (D.2.1.1, D.2.1.2.1, D.2.1.2.2.1, D.2.1.2.2.2.1, updn D.2.1.2.2.2.2 (l.2.getD 0 0) (l.2.getD 1 0)), D.2.2)
  else if l.1 = 12 then ((D.1.1, D.1.2.1, l.2.getD 0 0, D.1.2.2.2), D.2.1, D.2.2)
  else ((D.1.1, D.1.2.1, D.1.2.2.1, 0), D.2.1, D.2.2)
/-- at most f lines from e on: the fault's place, or the lines -/
def prs (tx : Nat → Nat) (tl : Nat) : Nat → Nat → Nat → Nat → Sum Nat (List LN)
  | 0, e, _, _ => .inl e
  | f + 1, e, nt, nb => match lineP tx tl nt nb e with
    | .inl s => .inl s
    | .inr x => if fmA tx tl (tsk tx tl x.2) = 0 then .inr [x.1] else if tx (tsk tx tl x.2) = 59 ∧ ¬ f = 0 then (match prs tx tl f (ten tx tl (tsk tx tl x.2)) (if x.1.1 = 8 then x.1.2.getD 0 0 else nt) (if x.1.1 < 4 then nb + 1 else if x.1.1 = 8 ∨ x.1.1 = 13 then 0 else nb) with
      | .inl s => .inl s
      | .inr l => .inr (x.1 :: l)) else .inl (tsk tx tl x.2)
theorem doL_nt (nxf : Nat → Nat → Nat) (l : LN) (D : LSt) : (doL nxf l D).1.1 = if l.1 = 8 then l.2.getD 0 0 else D.1.1 := by
  unfold doL
  repeat' split
  all_goals first | rfl | omega
theorem doL_nb (nxf : Nat → Nat → Nat) (l : LN) (D : LSt) (h : l.1 < 14) : (doL nxf l D).1.2.2.2 = if l.1 < 4 then D.1.2.2.2 + 1 else if l.1 = 8 ∨ l.1 = 13 then 0 else D.1.2.2.2 := by
  unfold doL
  repeat' split
  all_goals first | rfl | omega
theorem numB_t {tx : Nat → Nat} {tl e lo hi : Nat} (h : numB tx tl e lo hi = true) : lo ≤ nvl tx tl (tsk tx tl e) ∧ nvl tx tl (tsk tx tl e) ≤ hi := (of_decide_eq_true h).2.2
theorem wdM_all (t : Int64) : (wdM t).all (fun k => decide (k < 14)) = true := by
  rcases wd_cases t with rfl | rfl | rfl | rfl | rfl | rfl | rfl | rfl | rfl | rfl | rfl | rfl | rfl | rfl | ⟨hn, -⟩
  iterate 14 (first | decide +kernel | skip)
  rw [hn]
  rfl
theorem wdM_lt {t : Int64} {k : Nat} (h : wdM t = some k) : k < 14 := by
  have h1 := wdM_all t
  rw [h] at h1
  exact of_decide_eq_true h1
