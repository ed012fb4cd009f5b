theorem allN_iff {c : Nat → Bool} : ∀ {n : Nat}, allN c n = true ↔ ∀ i, i < n → c i = true
  | 0 => by simp [allN]
  | n + 1 => by
    rw [allN, Bool.and_eq_true, allN_iff (n := n)]
    constructor
    · rintro ⟨h1, h2⟩ i hi
      rcases Nat.lt_succ_iff_lt_or_eq.mp hi with h | h
      · exact h1 i h
      · rw [h]; exact h2
    · intro h
      exact ⟨fun i hi => h i (by omega), h n (by omega)⟩
theorem anyN_iff {c : Nat → Bool} : ∀ {n : Nat}, anyN c n = true ↔ ∃ i, i < n ∧ c i = true
  | 0 => by simp [anyN]
  | n + 1 => by
    rw [anyN, Bool.or_eq_true, anyN_iff (n := n)]
    constructor
    · rintro (⟨i, h1, h2⟩ | h)
      · exact ⟨i, by omega, h2⟩
      · exact ⟨n, by omega, h⟩
    · rintro ⟨i, h1, h2⟩
      rcases Nat.lt_succ_iff_lt_or_eq.mp h1 with h | h
      · exact Or.inl ⟨i, h, h2⟩
      · rw [h] at h2; exact Or.inr h2
theorem fstN_none {c : Nat → Bool} : ∀ {n : Nat}, fstN c n = none ↔ ∀ i, i < n → c i = true
  | 0 => by simp [fstN]
  | n + 1 => by
    rw [fstN]
    constructor
    · intro h i hi
      cases h1 : fstN c n with
      | some t => rw [h1] at h; cases h
      | none =>
        rw [h1] at h
        rcases Nat.lt_succ_iff_lt_or_eq.mp hi with h2 | h2
        · exact fstN_none.mp h1 i h2
        · subst h2
          cases h3 : c i with
          | true => rfl
          | false => simp [h3] at h
    · intro h
      rw [fstN_none.mpr (fun i hi => h i (by omega))]
      simp [h n (by omega)]
section SCP
variable {st sb sw : Nat → Nat} {x : Int32} {n : Nat}
theorem cB_iff : cB st sb sw x n = true ↔ ∀ i, i < n → ∀ j, j < n → prow st sb sw x n i j = true := by
  unfold cB
  rw [Option.isNone_iff_eq_none, fstN_none]
  constructor
  · intro h i hi j hj
    have h1 := h i hi
    unfold rowB at h1
    rw [Option.isNone_iff_eq_none, fstN_none] at h1
    exact h1 j hj
  · intro h i hi
    unfold rowB
    rw [Option.isNone_iff_eq_none, fstN_none]
    exact h i hi
theorem shS_iff {m : Int32} : shS st sb sw x m n = true ↔ ∀ i, i < n → ∀ j, j < n → sb i = sb j → aV st sw x m i = aV st sw x m j := by
  unfold shS
  rw [allN_iff]
  constructor
  · intro h i hi j hj e
    rcases Nat.lt_trichotomy i j with hl | hl | hl
    · have h1 := allN_iff.mp (h j hj) i hl
      simp only [pOk, decide_eq_true_eq] at h1
      rcases h1 with h1 | h1
      · exact absurd e.symm h1
      · exact h1.symm
    · rw [hl]
    · have h1 := allN_iff.mp (h i hi) j hl
      simp only [pOk, decide_eq_true_eq] at h1
      rcases h1 with h1 | h1
      · exact absurd e h1
      · exact h1
  · intro h i hi
    refine allN_iff.mpr (fun j hj => ?_)
    simp only [pOk, decide_eq_true_eq]
    by_cases e : sb i = sb j
    · exact Or.inr (h i hi j (by omega) e)
    · exact Or.inl e
theorem keepJ {i : Nat} (H : ∀ j, j < n → prow st sb sw x n i j = true) {j : Nat} (h0 : ¬ erJ st sb sw x i (erI st sb sw x n i) j = 0) : ∀ d, j + d ≤ n → erJ st sb sw x i (erI st sb sw x n i) (j + d) = erJ st sb sw x i (erI st sb sw x n i) j
  | 0, _ => rfl
  | d + 1, hd => by
    have ih := keepJ H h0 d (by omega)
    rw [← Nat.add_assoc]
    by_cases hm : sb i = sb (j + d) ∧ xF st x i = true ∧ xF st x (j + d) = false
    · rw [erJ_t hm]
      have h1 := H (j + d) (by omega)
      simp only [prow, pairOk, hm.1, hm.2.1, hm.2.2, if_true, Bool.and_eq_true, Bool.or_eq_true, decide_eq_true_eq, ih] at h1
      simp at h1
      rcases h1.2 with h2 | h2
      · exact absurd h2 h0
      · exact h2
    · rw [erJ_s hm]; exact ih
theorem keepI (H : ∀ i, i < n → ∀ j, j < n → prow st sb sw x n i j = true) {i : Nat} (h0 : ¬ erI st sb sw x n i = 0) : ∀ d, i + d ≤ n → erI st sb sw x n (i + d) = erI st sb sw x n i
  | 0, _ => rfl
  | d + 1, hd => by
    have ih := keepI H h0 d (by omega)
    rw [← Nat.add_assoc, erI]
    have h1 := keepJ (H (i + d) (by omega)) (j := 0) (by rw [erJ, ih]; exact h0) n (by omega)
    rw [Nat.zero_add] at h1
    rw [h1, erJ, ih]
theorem mixE (H : ∀ i, i < n → ∀ j, j < n → prow st sb sw x n i j = true) {i j : Nat} (hi : i < n) (hj : j < n) (hm : sb i = sb j ∧ xF st x i = true ∧ xF st x j = false) : nI (sw i) - nI (sw j) = erI st sb sw x n n ∧ ¬ erI st sb sw x n n = 0 := by
  have h1 := H i hi j hj
  simp only [prow, pairOk, hm.1, hm.2.1, hm.2.2, if_true] at h1
  simp at h1
  have h2 : ¬ erJ st sb sw x i (erI st sb sw x n i) (j + 1) = 0 := by rw [erJ_t hm]; exact h1.1
  have h3 := keepJ (H i hi) h2 (n - (j + 1)) (by omega)
  rw [show j + 1 + (n - (j + 1)) = n by omega, erJ_t hm] at h3
  have h4 : erI st sb sw x n (i + 1) = nI (sw i) - nI (sw j) := by rw [erI]; exact h3
  have h5 := keepI H (i := i + 1) (by rw [h4]; exact h1.1) (n - (i + 1)) (by omega)
  rw [show i + 1 + (n - (i + 1)) = n by omega, h4] at h5
  exact ⟨h5.symm, by rw [h5]; exact h1.1⟩
theorem gap_mo {a b : Nat} (ha : a < 200) (hb : b < 200) : ∃ k, k < 401 ∧ nI a - nI b = moI k := by
  refine ⟨200 + a - b, by omega, ?_⟩
  unfold moI
  rw [← pk_sub (a := 200 + a) (by omega), ← nI_add, show nI 200 = (200 : Int32) from rfl]
  grind
theorem erJ_mo (hw : ∀ j, j < n → sw j < 200) {i : Nat} (hi : i < n) {e : Int32} (he : ∃ k, k < 401 ∧ e = moI k) : ∀ j, j ≤ n → ∃ k, k < 401 ∧ erJ st sb sw x i e j = moI k
  | 0, _ => he
  | j + 1, hj => by
    rw [erJ]
    split
    · exact gap_mo (hw i hi) (hw j (by omega))
    · exact erJ_mo hw hi he j (by omega)
theorem erI_mo (hw : ∀ j, j < n → sw j < 200) : ∀ i, i ≤ n → ∃ k, k < 401 ∧ erI st sb sw x n i = moI k
  | 0, _ => ⟨200, by omega, by rw [erI]; decide⟩
  | i + 1, hi => by rw [erI]; exact erJ_mo hw (by omega) (erI_mo hw i (by omega)) n (Nat.le_refl n)
theorem sub_eq0 {a b : Int32} : a - b = 0 ↔ a = b := by
  constructor
  · intro h; grind
  · intro h; grind
theorem cB_same (H : ∀ i, i < n → ∀ j, j < n → prow st sb sw x n i j = true) {i j : Nat} (hi : i < n) (hj : j < n) (e : sb i = sb j) (h : xF st x i = xF st x j) : nI (sw i) = nI (sw j) := by
  have h1 := H i hi j hj
  simp only [prow, pairOk, e, h, if_true, decide_eq_true_eq] at h1
  exact sub_eq0.mp h1
theorem cB_to (H : cB st sb sw x n = true) {m : Int32} (hm : ¬ erI st sb sw x n n = 0 → m = erI st sb sw x n n) : shS st sb sw x m n = true := by
  have H := cB_iff.mp H
  refine shS_iff.mpr (fun i hi j hj e => ?_)
  unfold aV
  cases hxi : xF st x i <;> cases hxj : xF st x j
  · rw [cB_same H hi hj e (by rw [hxi, hxj])]
  · obtain ⟨h1, h2⟩ := mixE H hj hi ⟨e.symm, hxj, hxi⟩
    rw [hm h2, ← h1]
    simp only [Bool.false_eq_true, if_false, if_true, nI_0]
    grind
  · obtain ⟨h1, h2⟩ := mixE H hi hj ⟨e, hxi, hxj⟩
    rw [hm h2, ← h1]
    simp only [Bool.false_eq_true, if_false, if_true, nI_0]
    grind
  · rw [cB_same H hi hj e (by rw [hxi, hxj])]
theorem sh_gap {m : Int32} (H : shS st sb sw x m n = true) {i j : Nat} (hi : i < n) (hj : j < n) (e : sb i = sb j) : (xF st x i = xF st x j → nI (sw i) - nI (sw j) = 0) ∧ (xF st x i = true → xF st x j = false → nI (sw i) - nI (sw j) = m) := by
  have h := shS_iff.mp H i hi j hj e
  unfold aV at h
  constructor
  · intro hx
    rw [hx] at h
    grind
  · intro h1 h2
    rw [h1, h2] at h
    simp only [Bool.false_eq_true, if_false, if_true, nI_0] at h
    grind
theorem erJ_in {m : Int32} (H : shS st sb sw x m n = true) {i : Nat} (hi : i < n) {e : Int32} (he : e = 0 ∨ e = m) : ∀ j, j ≤ n → erJ st sb sw x i e j = 0 ∨ erJ st sb sw x i e j = m
  | 0, _ => he
  | j + 1, hj => by
    rw [erJ]
    split
    · rename_i h
      exact Or.inr ((sh_gap H hi (by omega) h.1).2 h.2.1 h.2.2)
    · exact erJ_in H hi he j (by omega)
theorem erI_in {m : Int32} (H : shS st sb sw x m n = true) : ∀ i, i ≤ n → erI st sb sw x n i = 0 ∨ erI st sb sw x n i = m
  | 0, _ => Or.inl nI_0
  | i + 1, hi => by rw [erI]; exact erJ_in H (by omega) (erI_in H i (by omega)) n (Nat.le_refl n)
theorem cB_of {m : Int32} (H : shS st sb sw x m n = true) (hm : ¬ m = 0 ∨ ∀ i, i < n → xF st x i = false) : cB st sb sw x n = true := by
  refine cB_iff.mpr (fun i hi j hj => ?_)
  unfold prow pairOk
  by_cases e : sb i = sb j
  · rw [if_pos e]
    by_cases hx : xF st x i = xF st x j
    · rw [if_pos hx]
      exact decide_eq_true ((sh_gap H hi hj e).1 hx)
    · rw [if_neg hx]
      by_cases hi1 : xF st x i = true
      · rw [if_pos hi1]
        have hj1 : xF st x j = false := by
          cases h : xF st x j with
          | false => rfl
          | true => exact absurd (hi1.trans h.symm) hx
        have hg := (sh_gap H hi hj e).2 hi1 hj1
        have hm : ¬ m = 0 := by
          rcases hm with h | h
          · exact h
          · rw [h i hi] at hi1; cases hi1
        rw [hg]
        rcases erJ_in H hi (erI_in H i (by omega)) j (by omega) with h | h
        · simp [h, hm]
        · simp [h, hm]
      · rw [if_neg hi1]
  · rw [if_neg e]
end SCP
theorem cB_shA {st sb sw : Nat → Nat} {n t : Nat} (hw : ∀ j, j < n → sw j < 200) : cB st sb sw (nI t) n = shA st sb sw n t 401 := by
  rw [Bool.eq_iff_iff]
  unfold shA
  rw [anyN_iff]
  constructor
  · intro H
    by_cases h0 : erI st sb sw (nI t) n n = 0
    · refine ⟨201, by omega, ?_⟩
      have : ¬ moI 201 = 0 := by decide
      rw [cB_to H (fun h => absurd h0 h), decide_eq_false this]
      rfl
    · obtain ⟨k, hk, e⟩ := erI_mo (st := st) (sb := sb) (x := nI t) hw n (Nat.le_refl n)
      refine ⟨k, hk, ?_⟩
      rw [cB_to H (fun _ => e.symm), decide_eq_false (by rw [← e]; exact h0)]
      rfl
  · rintro ⟨k, hk, h⟩
    rw [Bool.and_eq_true] at h
    exact cB_of h.2 (Or.inl (by simpa using h.1))
theorem scales_eq {nt sn : Nat} {st sb sw : Nat → Nat} {x : Int32} (hs : ∀ j, j < sn → st j < 1000) (hw : ∀ j, j < sn → sw j < 200) : opScalesC nt sn st sb sw x = opScalesM nt sn st sb sw x := by
  unfold opScalesC opScalesM
  cases rn x 0 1 with
  | none => rfl
  | some k =>
    have hb : (fun t => cB st sb sw (nI t) sn) = fun t => shA st sb sw sn t 401 := by
      funext t; exact cB_shA hw
    have hx : ∀ i, i < sn → xF st (-1) i = false := fun i hi => xF_f (nI_m1 (by have := hs i hi; omega))
    have h1 : cB st sb sw (-1) sn = shS st sb sw (-1) (nI 0) sn := by
      rw [Bool.eq_iff_iff]
      constructor
      · intro H
        refine shS_iff.mpr (fun i hi j hj e => ?_)
        unfold aV
        rw [hx i hi, hx j hj, cB_same (cB_iff.mp H) hi hj e (by rw [hx i hi, hx j hj])]
      · intro H
        exact cB_of H (Or.inr hx)
    show (if k = 1 then bI (cB st sb sw (-1) sn) else bitsI (fun t => cB st sb sw (nI t) sn) nt) = _
    rw [hb, h1]
