theorem exOr1 {β : Type} {E : EN} {M : MF} {ws : va_W} {q : Nat} {lv : List (Nat × Value)} {rest : List Value} {r1 r2 : Option Value} {is : List Nat} {P1 : Prop} {P2 : β → Prop} {w1 : va_W} {w2 : β → va_W} (ha : ascB 0 is = true) (k1 : P1 → G E M (putM 0 ws is w1) q lv (r1.toList ++ rest)) (k2 : ∀ b, P2 b → G E M (putM 0 ws is (w2 b)) q lv (r2.toList ++ rest)) : ∀ (r : Option Value) (w' : va_W), (P1 ∧ xQ r1 w1 r w') ∨ (∃ b, P2 b ∧ xQ r2 (w2 b) r w') → G E M (putAt ws is w') q lv (r.toList ++ rest) := by
  rintro r w' (⟨h, rfl, rfl⟩ | ⟨a, h, rfl, rfl⟩)
  · rw [putAt_M ha]; exact k1 h
  · rw [putAt_M ha]; exact k2 a h
def lineS (tx : Nat → Nat) (tl nt nb s : Nat) : Sum Nat (LN × Nat) := match wdM (tokV tx tl s) with
  | none => .inl s
  | some k => lineK tx tl k nt nb (ten tx tl s) s
theorem lineP_S (tx : Nat → Nat) (tl nt nb e : Nat) : lineP tx tl nt nb e = lineS tx tl nt nb (tsk tx tl e) := rfl
theorem nums_in {tx : Nat → Nat} {tl : Nat} : ∀ {l : List (Nat × Nat)} {e s : Nat} {x : List Nat × Nat × Nat}, nums tx tl l e s = .inr x → e ≤ tl → s ≤ tl → x.2.1 ≤ tl ∧ x.2.2 ≤ tl ∧ ∀ i, i < l.length → (l.getD i (0, 0)).1 ≤ x.1.getD i 0 ∧ x.1.getD i 0 ≤ (l.getD i (0, 0)).2
  | [], e, s, x, h, he, hs => by
    cases h
    exact ⟨he, hs, fun i hi => absurd hi (Nat.not_lt_zero i)⟩
  | b :: l, e, s, x, h, he, hs => by
    rw [nums] at h
    by_cases hb : numB tx tl e b.1 b.2 = true
    · rw [if_pos hb] at h
      cases hr : nums tx tl l (ten tx tl (tsk tx tl e)) (tsk tx tl e) with
      | inl z => rw [hr] at h; cases h
      | inr y =>
        rw [hr] at h
        cases h
        obtain ⟨h1, h2, h3⟩ := nums_in hr (nt_le he) (tsk_le he)
        refine ⟨h1, h2, fun i hi => ?_⟩
        cases i with
        | zero => exact numB_t hb
        | succ i => exact h3 i (by simpa using hi)
    · rw [if_neg hb] at h; cases h
theorem nums_fl {tx : Nat → Nat} {tl : Nat} : ∀ {l : List (Nat × Nat)} {e s z : Nat}, nums tx tl l e s = .inl z → e ≤ tl → z ≤ tl
  | [], e, s, z, h, he => by cases h
  | b :: l, e, s, z, h, he => by
    rw [nums] at h
    by_cases hb : numB tx tl e b.1 b.2 = true
    · rw [if_pos hb] at h
      cases hr : nums tx tl l (ten tx tl (tsk tx tl e)) (tsk tx tl e) with
      | inl y => rw [hr] at h; cases h; exact nums_fl hr (nt_le he)
      | inr y => rw [hr] at h; cases h
    · rw [if_neg hb] at h; cases h; exact tsk_le he
theorem lineK_in {tx : Nat → Nat} {tl k nt nb e s : Nat} {x : LN × Nat} (h : lineK tx tl k nt nb e s = .inr x) (he : e ≤ tl) (hs : s ≤ tl) : x.1.1 = k ∧ x.2 ≤ tl ∧ (k < 4 → nb < 10) ∧ ∀ i, i < (bd k nt).length → ((bd k nt).getD i (0, 0)).1 ≤ x.1.2.getD i 0 ∧ x.1.2.getD i 0 ≤ ((bd k nt).getD i (0, 0)).2 := by
  unfold lineK at h
  by_cases h0 : k < 4 ∧ 10 ≤ nb
  · rw [if_pos h0] at h; cases h
  · rw [if_neg h0] at h
    cases hr : nums tx tl (bd k nt) e s with
    | inl z => rw [hr] at h; cases h
    | inr y =>
      rw [hr] at h
      simp only at h
      split at h
      · cases h
      · cases h
        obtain ⟨h1, h2, h3⟩ := nums_in hr he hs
        exact ⟨rfl, h1, fun z => by omega, h3⟩
theorem lineK_fl {tx : Nat → Nat} {tl k nt nb e s z : Nat} (h : lineK tx tl k nt nb e s = .inl z) (he : e ≤ tl) (hs : s ≤ tl) : z ≤ tl := by
  unfold lineK at h
  by_cases h0 : k < 4 ∧ 10 ≤ nb
  · rw [if_pos h0] at h; cases h; exact hs
  · rw [if_neg h0] at h
    cases hr : nums tx tl (bd k nt) e s with
    | inl y => rw [hr] at h; cases h; exact nums_fl hr he
    | inr y =>
      rw [hr] at h
      simp only at h
      split at h
      · cases h; exact (nums_in hr he hs).2.1
      · cases h
def okD (D : LSt) : Prop := (2 ≤ D.1.1 ∧ D.1.1 ≤ 6 ∧ D.1.2.1 < 4 ∧ D.1.2.2.1 < 1000 ∧ D.1.2.2.2 ≤ 10) ∧ ((∀ j, j < 6 → D.2.1.1 j < 4) ∧ (∀ j, j < 6 → D.2.1.2.1 j < 10) ∧ (∀ j, j < 6 → D.2.1.2.2.1 j < 4) ∧ ∀ j, j < D.1.1 → D.2.1.2.2.2.2 j < D.1.1) ∧ ((∀ j, j < 10 → D.2.2.1 j < 4) ∧ (∀ j, j < 10 → D.2.2.2.1 j < 6) ∧ (∀ j, j < 10 → D.2.2.2.2.1 j < 100) ∧ (∀ j, j < 10 → D.2.2.2.2.2.1 j < 4) ∧ (∀ j, j < 10 → D.2.2.2.2.2.2 j < 10)) ∧ (∀ j, j < D.1.2.2.2 → D.2.2.2.1 j < D.1.1) ∧ ∀ j, j < D.1.2.2.2 → 1 ≤ D.2.2.2.2.1 j
theorem updn_lt {f : Nat → Nat} {k v n B : Nat} (h : ∀ j, j < n → f j < B) (hv : v < B) : ∀ j, j < n → updn f k v j < B := fun j hj => by
  unfold updn
  split
  · exact hv
  · exact h j hj
theorem okD_do {nxf : Nat → Nat → Nat} (hnx : ∀ n t, 2 ≤ n → t < n → nxf n t < n) {D : LSt} {l : LN} (hD : okD D) (hk : l.1 < 14) (hb : l.1 < 4 → D.1.2.2.2 < 10) (h : ∀ i, i < (bd l.1 D.1.1).length → ((bd l.1 D.1.1).getD i (0, 0)).1 ≤ l.2.getD i 0 ∧ l.2.getD i 0 ≤ ((bd l.1 D.1.1).getD i (0, 0)).2) : okD (doL nxf l D) := by
  obtain ⟨⟨n1, n2, n3, n4, n5⟩, ⟨a1, a2, a3, a4⟩, ⟨b1, b2, b3, b4, b5⟩, c1, c2⟩ := hD
  unfold doL
  by_cases k1 : l.1 < 4
  · rw [if_pos k1]
    have e : bd l.1 D.1.1 = [(0, D.1.1 - 1), (1, 99), (0, 3), (0, 9)] := if_pos k1
    rw [e] at h
    have h0 := h 0 (by simp)
    have h1 := h 1 (by simp)
    have h2 := h 2 (by simp)
    have h3 := h 3 (by simp)
    simp at h0 h1 h2 h3
    have hb := hb k1
    refine ⟨⟨n1, n2, n3, n4, by show D.1.2.2.2 + 1 ≤ 10; omega⟩, ⟨a1, a2, a3, a4⟩, ⟨updn_lt b1 k1, updn_lt b2 (by simp; omega), updn_lt b3 (by simp; omega), updn_lt b4 (by simp; omega), updn_lt b5 (by simp; omega)⟩, ?_, ?_⟩
    · intro j hj
      show updn D.2.2.2.1 D.1.2.2.2 (l.2.getD 0 0) j < D.1.1
      unfold updn
      have hj : j < D.1.2.2.2 + 1 := hj
      split
      · simp; omega
      · exact c1 j (by omega)
    · intro j hj
      show 1 ≤ updn D.2.2.2.2.1 D.1.2.2.2 (l.2.getD 1 0) j
      unfold updn
      have hj : j < D.1.2.2.2 + 1 := hj
      split
      · simp; omega
      · exact c2 j (by omega)
  rw [if_neg k1]
  by_cases k2 : l.1 < 8
  · rw [if_pos k2]
    exact ⟨⟨n1, n2, by show l.1 - 4 < 4; omega, n4, n5⟩, ⟨a1, a2, a3, a4⟩, ⟨b1, b2, b3, b4, b5⟩, c1, c2⟩
  rw [if_neg k2]
  by_cases k3 : l.1 = 8
  · rw [if_pos k3]
    rw [k3] at h
    have h0 := h 0 (by simp [bd])
    simp [bd] at h0
    refine ⟨⟨by simp; omega, by simp; omega, show 0 < 4 by decide, show 0 < 1000 by decide, show 0 ≤ 10 by decide⟩, ⟨fun _ _ => show 0 < 4 by decide, fun _ _ => show 1 < 10 by decide, fun _ _ => show 1 < 4 by decide, fun j hj => hnx _ j (by simp; omega) hj⟩, ⟨b1, b2, b3, b4, b5⟩, fun j hj => absurd hj (Nat.not_lt_zero j), fun j hj => absurd hj (Nat.not_lt_zero j)⟩
  rw [if_neg k3]
  by_cases k4 : l.1 = 9
  · rw [if_pos k4]
    rw [k4] at h
    have h0 := h 0 (by simp [bd])
    have h1 := h 1 (by simp [bd])
    have h2 := h 2 (by simp [bd])
    have h3 := h 3 (by simp [bd])
    simp [bd] at h0 h1 h2 h3
    exact ⟨⟨n1, n2, n3, n4, n5⟩, ⟨updn_lt a1 (by simp; omega), updn_lt a2 (by simp; omega), updn_lt a3 (by simp; omega), a4⟩, ⟨b1, b2, b3, b4, b5⟩, c1, c2⟩
  rw [if_neg k4]
  by_cases k5 : l.1 = 10
  · rw [if_pos k5]
    exact ⟨⟨n1, n2, n3, n4, n5⟩, ⟨a1, a2, a3, a4⟩, ⟨b1, b2, b3, b4, b5⟩, c1, c2⟩
  rw [if_neg k5]
  by_cases k6 : l.1 = 11
  · rw [if_pos k6]
    rw [k6] at h
    have h0 := h 0 (by simp [bd])
    have h1 := h 1 (by simp [bd])
    simp [bd] at h0 h1
    exact ⟨⟨n1, n2, n3, n4, n5⟩, ⟨a1, a2, a3, updn_lt a4 (by simp; omega)⟩, ⟨b1, b2, b3, b4, b5⟩, c1, c2⟩
  rw [if_neg k6]
  by_cases k7 : l.1 = 12
  · rw [if_pos k7]
    rw [k7] at h
    have h0 := h 0 (by simp [bd])
    simp [bd] at h0
    exact ⟨⟨n1, n2, n3, by simp; omega, n5⟩, ⟨a1, a2, a3, a4⟩, ⟨b1, b2, b3, b4, b5⟩, c1, c2⟩
  rw [if_neg k7]
  exact ⟨⟨n1, n2, n3, n4, Nat.zero_le _⟩, ⟨a1, a2, a3, a4⟩, ⟨b1, b2, b3, b4, b5⟩, fun j hj => absurd hj (Nat.not_lt_zero j), fun j hj => absurd hj (Nat.not_lt_zero j)⟩
theorem lineS_in {tx : Nat → Nat} {tl nt nb s : Nat} {x : LN × Nat} (h : lineS tx tl nt nb s = .inr x) (hs : s ≤ tl) : x.1.1 < 14 ∧ x.2 ≤ tl ∧ (x.1.1 < 4 → nb < 10) ∧ ∀ i, i < (bd x.1.1 nt).length → ((bd x.1.1 nt).getD i (0, 0)).1 ≤ x.1.2.getD i 0 ∧ x.1.2.getD i 0 ≤ ((bd x.1.1 nt).getD i (0, 0)).2 := by
  unfold lineS at h
  cases hw : wdM (tokV tx tl s) with
  | none => rw [hw] at h; cases h
  | some k =>
    rw [hw] at h
    obtain ⟨h1, h2, h3, h4⟩ := lineK_in h (ten_le hs) hs
    rw [h1]
    exact ⟨wdM_lt hw, h2, h3, h4⟩
theorem lineS_fl {tx : Nat → Nat} {tl nt nb s z : Nat} (h : lineS tx tl nt nb s = .inl z) (hs : s ≤ tl) : z ≤ tl := by
  unfold lineS at h
  cases hw : wdM (tokV tx tl s) with
  | none => rw [hw] at h; cases h; exact hs
  | some k => rw [hw] at h; exact lineK_fl h (ten_le hs) hs
def foldD (nxf : Nat → Nat → Nat) : List LN → LSt → LSt
  | [], D => D
  | l :: r, D => foldD nxf r (doL nxf l D)
theorem foldD_app (nxf : Nat → Nat → Nat) : ∀ (a : List LN) (l : LN) (D : LSt), foldD nxf (a ++ [l]) D = doL nxf l (foldD nxf a D)
  | [], l, D => rfl
  | b :: a, l, D => foldD_app nxf a l (doL nxf b D)
def prsA (tx : Nat → Nat) (tl : Nat) (acc : List LN) (f e nt nb : Nat) : Sum Nat (List LN) := match prs tx tl f e nt nb with
  | .inl s => .inl s
  | .inr l => .inr (acc ++ l)
theorem prsA_f {tx : Nat → Nat} {tl : Nat} {acc : List LN} {f e nt nb s : Nat} (h : lineS tx tl nt nb (tsk tx tl e) = .inl s) : prsA tx tl acc (f + 1) e nt nb = .inl s := by
  unfold prsA
  rw [prs, lineP_S, h]
theorem prsA_e {tx : Nat → Nat} {tl : Nat} {acc : List LN} {f e nt nb : Nat} {x : LN × Nat} (h : lineS tx tl nt nb (tsk tx tl e) = .inr x) (h2 : fmA tx tl (tsk tx tl x.2) = 0) : prsA tx tl acc (f + 1) e nt nb = .inr (acc ++ [x.1]) := by
  unfold prsA
  rw [prs, lineP_S, h]
  simp only
  rw [if_pos h2]
theorem prsA_x {tx : Nat → Nat} {tl : Nat} {acc : List LN} {f e nt nb : Nat} {x : LN × Nat} (h : lineS tx tl nt nb (tsk tx tl e) = .inr x) (h2 : ¬ fmA tx tl (tsk tx tl x.2) = 0) (h3 : ¬ (tx (tsk tx tl x.2) = 59 ∧ ¬ f = 0)) : prsA tx tl acc (f + 1) e nt nb = .inl (tsk tx tl x.2) := by
  unfold prsA
  rw [prs, lineP_S, h]
  simp only
  rw [if_neg h2, if_neg h3]
theorem prsA_s {tx : Nat → Nat} {tl : Nat} {acc : List LN} {f e : Nat} {nxf : Nat → Nat → Nat} {D : LSt} {x : LN × Nat} (h : lineS tx tl D.1.1 D.1.2.2.2 (tsk tx tl e) = .inr x) (hs : tsk tx tl e ≤ tl) (h2 : ¬ fmA tx tl (tsk tx tl x.2) = 0) (h3 : tx (tsk tx tl x.2) = 59) (h4 : ¬ f = 0) : prsA tx tl acc (f + 1) e D.1.1 D.1.2.2.2 = prsA tx tl (acc ++ [x.1]) f (ten tx tl (tsk tx tl x.2)) (doL nxf x.1 D).1.1 (doL nxf x.1 D).1.2.2.2 := by
  have h14 := (lineS_in h hs).1
  unfold prsA
  rw [prs, lineP_S, h]
  simp only
  rw [if_neg h2, if_pos ⟨h3, h4⟩, doL_nt, doL_nb _ _ _ h14]
  cases prs tx tl f (ten tx tl (tsk tx tl x.2)) (if x.1.1 = 8 then x.1.2.getD 0 0 else D.1.1) (if x.1.1 < 4 then D.1.2.2.2 + 1 else if x.1.1 = 8 ∨ x.1.1 = 13 then 0 else D.1.2.2.2) with
  | inl s => rfl
  | inr l => simp
theorem nx0_lt (n t : Nat) (_ : 2 ≤ n) (_ : t < n) : nx0 n t < n := by
  unfold nx0
  split <;> omega
theorem nxM_lt (n t : Nat) (_ : 2 ≤ n) (_ : t < n) : nxM n t < n := by
  unfold nxM
  split <;> omega
theorem g_rec {σ : Type} {E : EN} {M : MF} {pc : Nat} {st : List Value} (P : Nat → σ → Prop) (wF : Nat → σ → va_W) (lF : Nat → σ → List (Nat × Value)) (step : ∀ f s, P f s → (∀ f' s', f = f' + 1 → P f' s' → G E M (wF f' s') pc (lF f' s') st) → G E M (wF f s) pc (lF f s) st) : ∀ f s, P f s → G E M (wF f s) pc (lF f s) st := by
  intro f
  induction f with
  | zero => exact fun s h => step 0 s h (fun f' s' e => by omega)
  | succ f ih => exact fun s h => step (f + 1) s h (fun f' s' e h' => by cases e; exact ih s' h')
theorem prsA_nil (tx : Nat → Nat) (tl f e nt nb : Nat) : prs tx tl f e nt nb = prsA tx tl [] f e nt nb := by
  unfold prsA
  cases prs tx tl f e nt nb <;> rfl
def opFault (R : Sum Nat (List LN)) : Int32 := match R with
  | .inl s => nI s
  | .inr _ => -1
def opLeague (R : Sum Nat (List LN)) : Int32 := match R with
  | .inl _ => -4
  | .inr l => nI l.length
theorem prs_fl {tx : Nat → Nat} {tl : Nat} : ∀ {f e nt nb s : Nat}, prs tx tl f e nt nb = .inl s → e ≤ tl → s ≤ tl
  | 0, e, nt, nb, s, h, he => by cases h; exact he
  | f + 1, e, nt, nb, s, h, he => by
    rw [prs, lineP_S] at h
    cases hr : lineS tx tl nt nb (tsk tx tl e) with
    | inl z => rw [hr] at h; cases h; exact lineS_fl hr (tsk_le he)
    | inr x =>
      rw [hr] at h
      simp only at h
      have h2 := (lineS_in hr (tsk_le he)).2.1
      split at h
      · cases h
      · split at h
        · cases hp : prs tx tl f (ten tx tl (tsk tx tl x.2)) (if x.1.1 = 8 then x.1.2.getD 0 0 else nt) (if x.1.1 < 4 then nb + 1 else if x.1.1 = 8 ∨ x.1.1 = 13 then 0 else nb) with
          | inl z => rw [hp] at h; cases h; exact prs_fl hp (nt_le h2)
          | inr l => rw [hp] at h; cases h
        · cases h; exact tsk_le h2
