def putM : Nat → va_W → List Nat → va_W → va_W
  | _, [], _, _ => []
  | k, c :: ws, i :: is, d :: ds => if k = i then d :: putM (k + 1) ws is ds else c :: putM (k + 1) ws (i :: is) (d :: ds)
  | _, c :: ws, [], _ => c :: ws
  | _, c :: ws, _ :: _, [] => c :: ws
def ascB : Nat → List Nat → Bool
  | _, [] => true
  | k, i :: is => decide (k ≤ i) && ascB (i + 1) is
theorem ascB_le : ∀ {is : List Nat} {k : Nat}, ascB k is = true → ∀ i ∈ is, k ≤ i
  | [], _, _, i, hi => by cases hi
  | j :: is, k, h, i, hi => by
    unfold ascB at h
    simp only [Bool.and_eq_true, decide_eq_true_eq] at h
    rcases List.mem_cons.mp hi with rfl | hi
    · exact h.1
    · have := ascB_le h.2 i hi
      omega
theorem putAt_nil : ∀ (is : List Nat) (cs : va_W), putAt [] is cs = []
  | [], cs => by cases cs <;> rfl
  | i :: is, [] => rfl
  | i :: is, c :: cs => putAt_nil is cs
theorem putAt_sh : ∀ (js : List Nat) (d : Nat × va_E) (ws ds : va_W), putAt (d :: ws) (js.map (· + 1)) ds = d :: putAt ws js ds
  | [], d, ws, ds => by cases ds <;> rfl
  | j :: js, d, ws, [] => rfl
  | j :: js, d, ws, e :: es => putAt_sh js d (ws.set j e) es
theorem map_sub1 {is : List Nat} {k : Nat} (h : ∀ i ∈ is, k + 1 ≤ i) : is.map (· - k) = (is.map (· - (k + 1))).map (· + 1) := by
  rw [List.map_map]
  apply List.map_congr_left
  intro i hi
  have := h i hi
  show i - k = i - (k + 1) + 1
  omega
theorem putAt_M' : ∀ (ws : va_W) (k : Nat) (is : List Nat) (cs : va_W), ascB k is = true → putAt ws (is.map (· - k)) cs = putM k ws is cs
  | [], k, is, cs, _ => by rw [putAt_nil]; cases is <;> cases cs <;> rfl
  | c :: ws, k, [], cs, _ => by cases cs <;> rfl
  | c :: ws, k, i :: is, [], _ => rfl
  | c :: ws, k, i :: is, d :: ds, h => by
    have h0 := h
    unfold ascB at h
    simp only [Bool.and_eq_true, decide_eq_true_eq] at h
    rw [putM]
    by_cases hk : k = i
    · subst hk
      rw [if_pos rfl]
      have e : (k :: is).map (· - k) = 0 :: is.map (· - k) := by simp
      rw [e]
      show putAt (d :: ws) (is.map (· - k)) ds = _
      rw [map_sub1 (ascB_le h.2), putAt_sh, putAt_M' ws (k + 1) is ds h.2]
    · rw [if_neg hk]
      have h2 : ascB (k + 1) (i :: is) = true := by
        unfold ascB
        simp only [Bool.and_eq_true, decide_eq_true_eq]
        exact ⟨by omega, h.2⟩
      rw [map_sub1 (ascB_le h2), putAt_sh, putAt_M' ws (k + 1) (i :: is) (d :: ds) h2]
theorem putAt_M {ws cs : va_W} {is : List Nat} (h : ascB 0 is = true) : putAt ws is cs = putM 0 ws is cs := by
  have e : is.map (· - 0) = is := by simp
  rw [← putAt_M' ws 0 is cs h, e]
theorem exKM {E : EN} {M : MF} {ws ws' w0 : va_W} {q : Nat} {lv : List (Nat × Value)} {st' rest : List Value} {r0 : Option Value} {is : List Nat} (ha : ascB 0 is = true) (h : putM 0 ws is w0 = ws') (h2 : r0.toList ++ rest = st') (k : G E M ws' q lv st') : ∀ (r : Option Value) (w' : va_W), xQ r0 w0 r w' → G E M (putAt ws is w') q lv (r.toList ++ rest) := exK ((putAt_M ha).trans h) h2 k
