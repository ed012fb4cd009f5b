/-! The reference's reader, pure -/
def digV (tx : Nat → Nat) (tl s : Nat) : Nat := if fmA tx tl s = 3 then cnt tx tl 3 s else 0
def numV (tx : Nat → Nat) (tl s : Nat) : Nat := if fmA tx tl s = 3 then dgN (sh tx s) (min (cnt tx tl 3 s) 3) else 0
def tkI (tx : Nat → Nat) (s i : Nat) : Int64 := if i ≤ 9 then lI (hN (sh tx s) i) else -4
theorem tkE {tx : Nat → Nat} {tl s : Nat} (h : s = tl) : ten tx tl s = s ∧ tokV tx tl s = -2 ∧ digV tx tl s = 0 ∧ numV tx tl s = 0 := by
  have h0 : fmA tx tl s = 0 := fmA_ge (by omega)
  refine ⟨?_, tok_m2.mpr h0, if_neg (by omega), if_neg (by omega)⟩
  rw [ten_4 (by omega) (by omega)]
  omega
theorem tkL {tx : Nat → Nat} {tl s : Nat} (h : fmA tx tl s = 2) : ten tx tl s = s + cnt tx tl 2 s ∧ tokV tx tl s = (if cnt tx tl 2 s ≤ 9 then lI (hN (sh tx s) (cnt tx tl 2 s)) else -4) ∧ digV tx tl s = 0 ∧ numV tx tl s = 0 := by
  refine ⟨ten_2 h, ?_, if_neg (by omega), if_neg (by omega)⟩
  unfold tokV
  rw [if_neg (by omega), if_pos h]
theorem tkD {tx : Nat → Nat} {tl s : Nat} (h : fmA tx tl s = 3) : ten tx tl s = s + cnt tx tl 3 s ∧ tokV tx tl s = (if cnt tx tl 3 s ≤ 3 then -1 else -4) ∧ digV tx tl s = cnt tx tl 3 s ∧ numV tx tl s = dgN (sh tx s) (min (cnt tx tl 3 s) 3) := by
  refine ⟨ten_3 h, ?_, if_pos h, if_pos h⟩
  unfold tokV
  rw [if_neg (by omega), if_neg (by omega), if_pos h]
theorem tkO {tx : Nat → Nat} {tl s : Nat} (h0 : s < tl) (h2 : ¬ fm (tx s) = 2) (h3 : ¬ fm (tx s) = 3) : ten tx tl s = s + 1 ∧ tokV tx tl s = (if tx s = 59 then -3 else -4) ∧ digV tx tl s = 0 ∧ numV tx tl s = 0 := by
  have e := fmA_lt (tx := tx) h0
  have e0 : ¬ fmA tx tl s = 0 := fun z => absurd h0 (fmA_0.mp z)
  rw [← e] at h2 h3
  refine ⟨?_, ?_, if_neg h3, if_neg h3⟩
  · rw [ten_4 h2 h3]; omega
  · unfold tokV
    rw [if_neg e0, if_neg h2, if_neg h3]
theorem tkI_s {tx : Nat → Nat} {s i : Nat} (hi : i < 9) (h1 : 97 ≤ sh tx s i) (h2 : sh tx s i ≤ 122) : tkI tx s (i + 1) = ((27 : Int64) * tkI tx s i + (nI (sh tx s i)).toInt64) - 96 := by
  unfold tkI
  rw [if_pos (show i + 1 ≤ 9 by omega), if_pos (show i ≤ 9 by omega), lI_step h1 h2]
  rfl
theorem tkI_x {tx : Nat → Nat} {s i : Nat} (hi : 9 ≤ i) : tkI tx s (i + 1) = -4 := if_neg (by omega)
theorem dg3_s {f : Nat → Nat} {i : Nat} (hi : i < 3) (h : 48 ≤ f i) : dgN f (min (i + 1) 3) = 10 * dgN f (min i 3) + f i - 48 := by
  rw [show min (i + 1) 3 = i + 1 by omega, show min i 3 = i by omega, dgN]
  omega
theorem dg3_x {f : Nat → Nat} {i : Nat} (hi : 3 ≤ i) : dgN f (min (i + 1) 3) = dgN f (min i 3) := by rw [show min (i + 1) 3 = min i 3 by omega]
theorem dg3_b {f : Nat → Nat} {n i : Nat} (h : ∀ i, i < n → f i ≤ 57) (hi : i ≤ n) : dgN f (min i 3) < 1000 := dgN_b (fun j hj => h j (by omega)) (by omega)
theorem numV_n {tx : Nat → Nat} {tl s : Nat} (h : fmA tx tl s = 3 ∧ cnt tx tl 3 s ≤ 3) : numV tx tl s = nvl tx tl s := by
  unfold numV nvl
  rw [if_pos h.1, show min (cnt tx tl 3 s) 3 = cnt tx tl 3 s by omega]
theorem in_dec {a lo hi : Nat} (ha : a < 2147483648) (hlo : lo < 2147483648) (hhi : hi < 2147483648) : bI (!ninB (nI a) (nI lo) (nI hi)) = bI (decide (lo ≤ a ∧ a ≤ hi)) := by
  rw [ninB_rn hlo hhi]
  by_cases h : lo ≤ a ∧ a ≤ hi
  · rw [rn_nI h.1 h.2 hhi, decide_eq_true h]; rfl
  · have h2 : rn (nI a) lo hi = none := by
      unfold rn
      rw [nI_toInt ha, if_neg]
      intro z
      exact h ⟨by omega, by omega⟩
    rw [h2, decide_eq_false h]; rfl
theorem in_2 {c : Nat} (hc : c < 256) : bI (!ninB (nI c) (nI 97) (nI 122)) = bI (decide (fm c = 2)) := by
  rw [in_dec (by omega) (by decide) (by decide), decide_eq_decide.mpr (fm_2 (c := c)).symm]
theorem in_3 {c : Nat} (hc : c < 256) : bI (!ninB (nI c) (nI 48) (nI 57)) = bI (decide (fm c = 3)) := by
  rw [in_dec (by omega) (by decide) (by decide), decide_eq_decide.mpr (fm_3 (c := c)).symm]
/-- the numbers of a line in the row of ints -/
def RdL (rd rd' : Nat → Int32) (w : Nat) (l : List Nat) : Prop := (∀ j, j ≤ w → rd' j = rd j) ∧ ∀ i, i < l.length → rd' (w + 1 + i) = nI (l.getD i 0)
def LnAt (rd : Nat → Int32) (w : Nat) (l : LN) : Prop := rd w = nI l.1 ∧ ∀ i, i < l.2.length → rd (w + 1 + i) = nI (l.2.getD i 0)
theorem rdl0 {rd : Nat → Int32} {w : Nat} : RdL rd rd w [] := ⟨fun _ _ => rfl, fun i hi => absurd hi (Nat.not_lt_zero i)⟩
theorem rdl1 {rd : Nat → Int32} {w a : Nat} : RdL rd (upd rd (w + 1) (nI a)) w [a] := by
  refine ⟨fun j hj => ?_, fun i hi => ?_⟩
  · exact if_neg (by omega)
  · have hi : i < 1 := hi
    obtain rfl : i = 0 := by omega
    exact if_pos rfl
theorem rdl2 {rd : Nat → Int32} {w a b : Nat} : RdL rd (upd (upd rd (w + 1) (nI a)) (w + 2) (nI b)) w [a, b] := by
  refine ⟨fun j hj => ?_, fun i hi => ?_⟩
  · exact (if_neg (by omega)).trans (if_neg (by omega))
  · have hi : i < 2 := hi
    rcases (show i = 0 ∨ i = 1 by omega) with rfl | rfl
    · exact (if_neg (by omega)).trans (if_pos rfl)
    · exact if_pos rfl
theorem rdl4 {rd : Nat → Int32} {w a b c d : Nat} : RdL rd (upd (upd (upd (upd rd (w + 1) (nI a)) (w + 2) (nI b)) (w + 3) (nI c)) (w + 4) (nI d)) w [a, b, c, d] := by
  refine ⟨fun j hj => ?_, fun i hi => ?_⟩
  · exact (if_neg (by omega)).trans ((if_neg (by omega)).trans ((if_neg (by omega)).trans (if_neg (by omega))))
  · have hi : i < 4 := hi
    rcases (show i = 0 ∨ i = 1 ∨ i = 2 ∨ i = 3 by omega) with rfl | rfl | rfl | rfl
    · exact (if_neg (by omega)).trans ((if_neg (by omega)).trans ((if_neg (by omega)).trans (if_pos rfl)))
    · exact (if_neg (by omega)).trans ((if_neg (by omega)).trans (if_pos rfl))
    · exact (if_neg (by omega)).trans (if_pos rfl)
    · exact if_pos rfl
/-- a line done in the row, all before it as it was -/
def RdK (rd rd' : Nat → Int32) (w : Nat) (l : LN) : Prop := (∀ j, j < w → rd' j = rd j) ∧ LnAt rd' w l
theorem rdk {rd rd' : Nat → Int32} {w k : Nat} {l : List Nat} (h : RdL (upd rd w (nI k)) rd' w l) : RdK rd rd' w (k, l) := by
  refine ⟨fun j hj => (h.1 j (by omega)).trans (if_neg (by omega)), (h.1 w (Nat.le_refl w)).trans (if_pos rfl), h.2⟩
def rT (nt : Nat) (l : LN) : Nat := if l.1 = 8 then l.2.getD 0 0 else nt
def rB (nb : Nat) (l : LN) : Nat := if l.1 < 4 then nb + 1 else if l.1 = 8 ∨ l.1 = 13 then 0 else nb
theorem prsA_t {tx : Nat → Nat} {tl : Nat} {acc : List LN} {f e nt nb : Nat} {x : LN × Nat} (h : lineP tx tl nt nb e = .inr x) (h2 : ¬ fmA tx tl (tsk tx tl x.2) = 0) (h3 : tx (tsk tx tl x.2) = 59) (h4 : ¬ f = 0) : prsA tx tl acc (f + 1) e nt nb = prsA tx tl (acc ++ [x.1]) f (ten tx tl (tsk tx tl x.2)) (rT nt x.1) (rB nb x.1) := by
  unfold prsA
  rw [prs, h]
  simp only
  rw [if_neg h2, if_pos ⟨h3, h4⟩]
  unfold rT rB
  cases prs tx tl f (ten tx tl (tsk tx tl x.2)) (if x.1.1 = 8 then x.1.2.getD 0 0 else nt) (if x.1.1 < 4 then nb + 1 else if x.1.1 = 8 ∨ x.1.1 = 13 then 0 else nb) with
  | inl s => rfl
  | inr l => simp
theorem nums_len {tx : Nat → Nat} {tl : Nat} : ∀ {l : List (Nat × Nat)} {e s : Nat} {x : List Nat × Nat × Nat}, nums tx tl l e s = .inr x → x.1.length = l.length
  | [], e, s, x, h => by cases h; rfl
  | b :: l, e, s, x, h => by
    rw [nums] at h
    by_cases hb : numB tx tl e b.1 b.2 = true
    · rw [if_pos hb] at h
      cases hr : nums tx tl l (ten tx tl (tsk tx tl e)) (tsk tx tl e) with
      | inl z => rw [hr] at h; cases h
      | inr y =>
        rw [hr] at h
        cases h
        simp [nums_len hr]
    · rw [if_neg hb] at h; cases h
/-- a line that can stand over D -/
def okLn (D : LSt) (l : LN) : Prop := l.1 < 14 ∧ (l.1 < 4 → D.1.2.2.2 < 10) ∧ l.2.length = (bd l.1 D.1.1).length ∧ ∀ i, i < (bd l.1 D.1.1).length → ((bd l.1 D.1.1).getD i (0, 0)).1 ≤ l.2.getD i 0 ∧ l.2.getD i 0 ≤ ((bd l.1 D.1.1).getD i (0, 0)).2
theorem lineS_len {tx : Nat → Nat} {tl nt nb s : Nat} {x : LN × Nat} (h : lineS tx tl nt nb s = .inr x) : x.1.2.length = (bd x.1.1 nt).length := by
  unfold lineS at h
  cases hw : wdM (tokV tx tl s) with
  | none => rw [hw] at h; cases h
  | some k =>
    rw [hw] at h
    simp only at h
    unfold lineK at h
    by_cases h0 : k < 4 ∧ 10 ≤ nb
    · rw [if_pos h0] at h; cases h
    · rw [if_neg h0] at h
      cases hr : nums tx tl (bd k nt) (ten tx tl s) s with
      | inl z => rw [hr] at h; cases h
      | inr y =>
        rw [hr] at h
        simp only at h
        split at h
        · cases h
        · cases h
          exact nums_len hr
theorem lineS_ok {tx : Nat → Nat} {tl s : Nat} {D : LSt} {x : LN × Nat} (h : lineS tx tl D.1.1 D.1.2.2.2 s = .inr x) (hs : s ≤ tl) : okLn D x.1 := by
  obtain ⟨h1, h2, h3, h4⟩ := lineS_in h hs
  exact ⟨h1, h3, lineS_len h, h4⟩
def okLs (nxf : Nat → Nat → Nat) : List LN → LSt → Prop
  | [], _ => True
  | l :: r, D => okLn D l ∧ okLs nxf r (doL nxf l D)
theorem prs_ok {tx : Nat → Nat} {tl : Nat} (nxf : Nat → Nat → Nat) : ∀ {f e : Nat} {D : LSt} {r : List LN}, prs tx tl f e D.1.1 D.1.2.2.2 = .inr r → e ≤ tl → okLs nxf r D
  | 0, e, D, r, h, he => by cases h
  | f + 1, e, D, r, h, he => by
    rw [prs, lineP_S] at h
    cases hr : lineS tx tl D.1.1 D.1.2.2.2 (tsk tx tl e) with
    | inl z => rw [hr] at h; cases h
    | inr x =>
      rw [hr] at h
      simp only at h
      have ho := lineS_ok hr (tsk_le he)
      have h2 := (lineS_in hr (tsk_le he)).2.1
      split at h
      · cases h; exact ⟨ho, trivial⟩
      · split at h
        · rw [← doL_nt nxf x.1 D, ← doL_nb nxf x.1 D ho.1] at h
          cases hp : prs tx tl f (ten tx tl (tsk tx tl x.2)) (doL nxf x.1 D).1.1 (doL nxf x.1 D).1.2.2.2 with
          | inl z => rw [hp] at h; cases h
          | inr l =>
            rw [hp] at h
            cases h
            exact ⟨ho, prs_ok nxf hp (nt_le h2)⟩
        · cases h
theorem okLn_do {nxf : Nat → Nat → Nat} (hnx : ∀ n t, 2 ≤ n → t < n → nxf n t < n) {D : LSt} {l : LN} (hD : okD D) (h : okLn D l) : okD (doL nxf l D) := okD_do hnx hD h.1 h.2.1 h.2.2.2
theorem okLs_at {nxf : Nat → Nat → Nat} (hnx : ∀ n t, 2 ≤ n → t < n → nxf n t < n) : ∀ {r : List LN} {D : LSt}, okLs nxf r D → okD D → ∀ i, i ≤ r.length → okD (foldD nxf (r.take i) D) ∧ (i < r.length → okLn (foldD nxf (r.take i) D) (r.getD i (0, [])))
  | [], D, _, hD, i, hi => ⟨by rw [List.take_nil]; exact hD, fun h => absurd h (Nat.not_lt_zero i)⟩
  | l :: r, D, h, hD, 0, hi => ⟨hD, fun _ => h.1⟩
  | l :: r, D, h, hD, i + 1, hi => by
    have := okLs_at hnx h.2 (okLn_do hnx hD h.1) i (by simpa using hi)
    exact ⟨this.1, fun h2 => this.2 (by simpa using h2)⟩
theorem foldD_tk {nxf : Nat → Nat → Nat} : ∀ {r : List LN} {D : LSt} {i : Nat}, i < r.length → foldD nxf (r.take (i + 1)) D = doL nxf (r.getD i (0, [])) (foldD nxf (r.take i) D)
  | [], D, i, h => absurd h (Nat.not_lt_zero i)
  | l :: r, D, 0, h => rfl
  | l :: r, D, i + 1, h => foldD_tk (r := r) (D := doL nxf l D) (i := i) (by simpa using h)
theorem gdA {acc : List LN} {l d : LN} : (acc ++ [l]).getD acc.length d = l := by
  rw [List.getD_eq_getElem?_getD, List.getElem?_append_right (Nat.le_refl _), Nat.sub_self]
  rfl
theorem gdB {acc : List LN} {l d : LN} {k : Nat} (h : k < acc.length) : (acc ++ [l]).getD k d = acc.getD k d := by
  rw [List.getD_eq_getElem?_getD, List.getD_eq_getElem?_getD, List.getElem?_append_left h]
/-- the lines stand in the row -/
def RdA (rd : Nat → Int32) (acc : List LN) : Prop := ∀ k, k < acc.length → LnAt rd (5 * k) (acc.getD k (0, []))
theorem RdA_app {rd rd' : Nat → Int32} {acc : List LN} {l : LN} (h : RdA rd acc) (hk : ∀ k, k < acc.length → (acc.getD k (0, [])).2.length ≤ 4) (h2 : RdK rd rd' (5 * acc.length) l) : RdA rd' (acc ++ [l]) := by
  intro k hl
  rw [List.length_append, List.length_singleton] at hl
  by_cases he : k = acc.length
  · subst he
    rw [gdA]
    exact h2.2
  · have hl : k < acc.length := by omega
    rw [gdB hl]
    obtain ⟨a, b⟩ := h k hl
    have hk4 := hk k hl
    exact ⟨(h2.1 _ (by omega)).trans a, fun i hi => (h2.1 _ (by omega)).trans (b i hi)⟩
theorem bd_len (k nt : Nat) : (bd k nt).length ≤ 4 := by
  unfold bd
  repeat' split
  all_goals simp
