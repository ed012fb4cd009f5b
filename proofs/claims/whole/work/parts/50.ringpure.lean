/-! The two rings agree -/
theorem php : ∀ (n m : Nat) (f : Nat → Nat), (∀ i, i < m → f i < n) → (∀ i j, i < j → j < m → f i ≠ f j) → m ≤ n
  | 0, m, f, h1, _ => by
    rcases Nat.eq_zero_or_pos m with rfl | h
    · exact Nat.le_refl 0
    · exact absurd (h1 0 h) (Nat.not_lt_zero _)
  | n + 1, 0, f, _, _ => Nat.zero_le _
  | n + 1, m + 1, f, h1, h2 => by
    have hm := php n m (fun i => if f i = n then f m else f i) (fun i hi => by
      have a1 := h1 i (by omega)
      have a2 := h1 m (by omega)
      have a3 := h2 i m hi (by omega)
      show (if f i = n then f m else f i) < n
      split <;> omega) (fun i j hij hj => by
      have a1 := h2 i j hij (by omega)
      have a2 := h2 i m (by omega) (by omega)
      have a3 := h2 j m hj (by omega)
      show (if f i = n then f m else f i) ≠ (if f j = n then f m else f j)
      split <;> split <;> omega)
    omega
section RP
variable {nb nt : Nat} {tw sk : Nat → Nat} {wn : Nat → Int32} {wo w1 w2 : Nat → Nat}
def extR (nb : Nat) (tw sk : Nat → Nat) (wn : Nat → Int32) (wo : Nat → Nat) : Nat → Nat → (Nat → Nat) → Nat → BT → BT
  | 0, size, q, ch, B => nodeB tw sk wn wo size q ch B
  | f + 1, size, q, ch, B => foldN (fun b B => if chdB tw sk wn q size b then extR nb tw sk wn wo f (size + 1) (updn q size b) (ch + owe wo (q (size - 1)) b) B else B) nb (nodeB tw sk wn wo size q ch B)
theorem foldN_id {σ : Type} {F : Nat → σ → σ} {s : σ} (h : ∀ b, F b s = s) : ∀ n, foldN F n s = s
  | 0 => rfl
  | n + 1 => by rw [foldN, foldN_id h n]; exact h n
theorem nodeB_no {size ch : Nat} {q : Nat → Nat} {B : BT} (h : 0 < B.1 ∧ B.2.1 ≤ ch) : nodeB tw sk wn wo size q ch B = B := by
  unfold nodeB
  split
  · unfold takeB
    rw [if_neg]
    omega
  · rfl
theorem extR_no : ∀ {f size ch : Nat} {q : Nat → Nat} {B : BT}, 0 < B.1 ∧ B.2.1 ≤ ch → extR nb tw sk wn wo f size q ch B = B
  | 0, size, ch, q, B, h => nodeB_no h
  | f + 1, size, ch, q, B, h => by
    rw [extR, nodeB_no h]
    refine foldN_id (fun b => ?_) nb
    split
    · exact extR_no ⟨h.1, by omega⟩
    · rfl
theorem extC_R : ∀ {f size ch : Nat} {q : Nat → Nat} {B : BT}, extC nb tw sk wn wo f size q ch B = extR nb tw sk wn wo f size q ch B
  | 0, size, ch, q, B => by
    rw [extC, extR]
    split
    · rename_i h; rw [nodeB_no h]
    · rfl
  | f + 1, size, ch, q, B => by
    rw [extC]
    split
    · rename_i h; rw [extR_no h]
    · rw [extR]
      refine foldN_cong (fun b s _ => ?_) _
      split
      · exact extC_R
      · rfl
def sim (A B : BT) : Prop := A.1 = B.1 ∧ A.2.1 = B.2.1 ∧ ∀ k, k < A.1 → A.2.2 k = B.2.2 k
theorem foldN_sim {F G : Nat → BT → BT} : ∀ {n : Nat}, (∀ b s t, b < n → sim s t → sim (F b s) (G b t)) → ∀ s t, sim s t → sim (foldN F n s) (foldN G n t)
  | 0, _, s, t, h => h
  | n + 1, h, s, t, hs => h n _ _ (by omega) (foldN_sim (fun b s t hb => h b s t (by omega)) s t hs)
theorem takeB_sim {size ch : Nat} {q q2 : Nat → Nat} {A B : BT} (hq : agr q q2 size) (h : sim A B) : sim (takeB size ch q A) (takeB size ch q2 B) := by
  obtain ⟨h1, h2, h3⟩ := h
  unfold takeB
  by_cases hc : A.1 = 0 ∨ ch < A.2.1
  · rw [if_pos hc, if_pos (by rw [← h1, ← h2]; exact hc)]
    refine ⟨rfl, rfl, fun k hk => ?_⟩
    have hk : k < size := hk
    show mpN q A.2.2 size k = mpN q2 B.2.2 size k
    rw [mpN_lt hk, mpN_lt hk, hq k hk]
  · rw [if_neg hc, if_neg (by rw [← h1, ← h2]; exact hc)]
    exact ⟨h1, h2, h3⟩
def pthS (wo q : Nat → Nat) : Nat → Nat
  | 0 => 0
  | 1 => 0
  | n + 2 => pthS wo q (n + 1) + owe wo (q n) (q (n + 1))
theorem pthS_c {q q2 : Nat → Nat} : ∀ {n : Nat}, agr q q2 n → pthS wo q n = pthS wo q2 n
  | 0, _ => rfl
  | 1, _ => rfl
  | n + 2, h => by rw [pthS, pthS, pthS_c (fun k hk => h k (by omega)), h n (by omega), h (n + 1) (by omega)]
theorem cheS_pth {q : Nat → Nat} {size : Nat} : ∀ {n : Nat}, n + 1 ≤ size → cheS wo q size (n + 1) = owe wo (q (size - 1)) (q 0) + pthS wo q (n + 1)
  | 0, h => by
    rw [cheS, cheS, pthS, Nat.mod_eq_of_lt (by omega), show 0 + size - 1 = size - 1 by omega]
    omega
  | n + 1, h => by
    rw [cheS, cheS_pth (n := n) (by omega), pthS]
    have e : (n + 1 + size - 1) % size = n := by
      rw [show n + 1 + size - 1 = n + size by omega, Nat.add_mod_right, Nat.mod_eq_of_lt (by omega)]
    rw [e]
    omega
def rowI (nb : Nat) (tw q : Nat → Nat) (n : Nat) : Prop := (∀ k, k < n → q k < nb) ∧ ∀ i j, i < j → j < n → tw (q i) ≠ tw (q j)
theorem usdB_f {q : Nat → Nat} {size t : Nat} : usdB tw q size t = false ↔ ∀ k, k < size → tw (q k) ≠ t := by
  unfold usdB
  rw [← Bool.not_eq_true, anyN_iff]
  constructor
  · intro h k hk e
    exact h ⟨k, hk, decide_eq_true e⟩
  · rintro h ⟨k, hk, e⟩
    exact h k hk (of_decide_eq_true e)
theorem allN_t {c : Nat → Bool} : ∀ {n : Nat}, allN c n = true ↔ ∀ i, i < n → c i = true
  | 0 => ⟨fun _ i hi => absurd hi (Nat.not_lt_zero i), fun _ => rfl⟩
  | n + 1 => by
    rw [allN, Bool.and_eq_true, allN_t]
    constructor
    · rintro ⟨h1, h2⟩ i hi
      by_cases e : i = n
      · subst e; exact h2
      · exact h1 i (by omega)
    · intro h
      exact ⟨fun i hi => h i (by omega), h n (by omega)⟩
theorem chd_ok {q r : Nat → Nat} {d b : Nat} (hd : 1 ≤ d) (ha : agr q (qf r) d) : okR tw sk wn d (updn r d (b + 1)) = chdB tw sk wn q d b := by
  have e1 : ∀ k, k < d → qf (updn r d (b + 1)) k = q k := fun k hk => by rw [qf_n (by omega), ha k hk]
  unfold okR chdB onB
  rw [decide_eq_false (show ¬ d = 0 by omega), Bool.false_or, qf_s, e1 0 (by omega), e1 (d - 1) (by omega), ← Bool.and_assoc]
  congr 1
  rw [Bool.eq_iff_iff, Bool.and_eq_true, Bool.and_eq_true, allN_t, Bool.not_eq_true', usdB_f]
  constructor
  · rintro ⟨h1, h2⟩
    refine ⟨h1, fun k hk => ?_⟩
    have h3 := h2 k hk
    have h4 := of_decide_eq_true h1
    rw [e1 k hk] at h3
    by_cases hk0 : k = 0
    · subst hk0; omega
    · simpa [hk0] using h3
  · rintro ⟨h1, h2⟩
    refine ⟨h1, fun k hk => ?_⟩
    have h3 := h2 k hk
    rw [e1 k hk]
    simp [h3]
theorem chdB_t {q : Nat → Nat} {d b : Nat} (h : chdB tw sk wn q d b = true) : ∀ k, k < d → tw (q k) ≠ tw b := by
  unfold chdB at h
  rw [Bool.and_eq_true, Bool.and_eq_true, Bool.not_eq_true'] at h
  exact usdB_f.mp h.2.1
theorem rowI_s {q : Nat → Nat} {d b : Nat} (h : rowI nb tw q d) (hb : b < nb) (hc : ∀ k, k < d → tw (q k) ≠ tw b) : rowI nb tw (updn q d b) (d + 1) := by
  refine ⟨fun k hk => ?_, fun i j hij hj => ?_⟩
  · unfold updn
    split
    · exact hb
    · exact h.1 k (by omega)
  · rw [updn_n (show i ≠ d by omega)]
    by_cases e : j = d
    · subst e; rw [updn_s]; exact hc i (by omega)
    · rw [updn_n e]; exact h.2 i j hij (by omega)
theorem rowI_le {q : Nat → Nat} {d : Nat} (htw : ∀ j, j < nb → tw j < nt) (h : rowI nb tw q d) : d ≤ nt := php nt d (fun k => tw (q k)) (fun i hi => htw _ (h.1 i hi)) (fun i j hij hj => h.2 i j hij hj)
theorem node_sim {q r : Nat → Nat} {d : Nat} {A B : BT} (hw : ∀ j, j < nb → w1 j = w2 j) (ha : agr q (qf r) (d + 1)) (hI : rowI nb tw q (d + 1)) (h : sim A B) : sim (nodeB tw sk wn w1 (d + 1) q (pthS w2 q (d + 1)) A) (visR tw sk wn w2 d r B) := by
  unfold nodeB visR
  have e : clsB tw sk wn q (d + 1) = clsB tw sk wn (qf r) (d + 1) := by
    unfold clsB
    rw [ha 0 (by omega), ha (d + 1 - 1) (by omega)]
  rw [e]
  split
  · have e2 : pthS w2 q (d + 1) + owe w1 (q (d + 1 - 1)) (q 0) = cheS w2 (qf r) (d + 1) (d + 1) := by
      rw [← cheS_c ha _ (Nat.le_refl _), cheS_pth (Nat.le_refl _)]
      unfold owe
      rw [hw _ (hI.1 (d + 1 - 1) (by omega)), hw _ (hI.1 0 (by omega))]
      omega
    rw [e2]
    exact takeB_sim ha h
  · exact h
theorem ext_dfs (htw : ∀ j, j < nb → tw j < nt) (hnt : nt ≤ 6) (hw : ∀ j, j < nb → w1 j = w2 j) : ∀ (rem d f : Nat) (q r : Nat → Nat) (A B : BT), d + 1 + rem = nt → d + 1 + f = 6 → agr q (qf r) (d + 1) → rowI nb tw q (d + 1) → sim A B →
    sim (extR nb tw sk wn w1 f (d + 1) q (pthS w2 q (d + 1)) A) (dfsV (okR tw sk wn) (visR tw sk wn w2) nb nt rem r (visR tw sk wn w2 d r B))
  | 0, d, f, q, r, A, B, h1, h2, ha, hI, h => by
    have hn := node_sim (sk := sk) (wn := wn) hw ha hI h
    cases f with
    | zero => exact hn
    | succ f =>
      rw [extR, dfsV]
      have e : ∀ s, foldN (fun b B => if chdB tw sk wn q (d + 1) b then extR nb tw sk wn w1 f (d + 1 + 1) (updn q (d + 1) b) (pthS w2 q (d + 1) + owe w1 (q (d + 1 - 1)) b) B else B) nb s = foldN (fun _ B => B) nb s := by
        intro s
        refine foldN_cong (fun b s hb => ?_) s
        rw [if_neg]
        intro hc
        have := rowI_le htw (rowI_s hI hb (chdB_t hc))
        omega
      rw [e, foldN_id (fun _ => rfl) nb]
      exact hn
  | rem + 1, d, f, q, r, A, B, h1, h2, ha, hI, h => by
    have hn := node_sim (sk := sk) (wn := wn) hw ha hI h
    cases f with
    | zero => omega
    | succ f =>
      rw [extR, dfsV, show nt - (rem + 1) = d + 1 by omega]
      refine foldN_sim (fun b s t hb hst => ?_) _ _ hn
      rw [chd_ok (by omega) ha]
      split
      · rename_i hc
        have hr := rowI_s hI hb (chdB_t hc)
        have e : pthS w2 q (d + 1) + owe w1 (q (d + 1 - 1)) b = pthS w2 (updn q (d + 1) b) (d + 1 + 1) := by
          rw [pthS, updn_s, updn_n (show d ≠ d + 1 by omega), pthS_c (q := updn q (d + 1) b) (q2 := q) (fun k hk => updn_n (by omega))]
          unfold owe
          rw [hw _ (hI.1 (d + 1 - 1) (by omega)), hw b hb]
          rfl
        rw [e]
        refine ext_dfs htw hnt hw rem (d + 1) f (updn q (d + 1) b) (updn r (d + 1) (b + 1)) s t (by omega) (by omega) (fun k hk => ?_) hr hst
        by_cases hk2 : k = d + 1
        · subst hk2; rw [updn_s, qf_s]
        · rw [updn_n hk2, qf_n hk2]; exact ha k (by omega)
      · exact hst
theorem sk_dfs {be1 be2 : Nat → Nat} (htw : ∀ j, j < nb → tw j < nt) (hnt1 : 1 ≤ nt) (hnt : nt ≤ 6) (hw : ∀ j, j < nb → w1 j = w2 j) : sim (skB nb tw sk wn w1 (0, 0, be1) nb) (dfsV (okR tw sk wn) (visR tw sk wn w2) nb nt nt (fun _ => 0) (0, 0, be2)) := by
  obtain ⟨n, rfl⟩ : ∃ n, nt = n + 1 := ⟨nt - 1, by omega⟩
  unfold skB
  rw [dfsV, show n + 1 - (n + 1) = 0 by omega]
  refine foldN_sim (fun b s t hb hst => ?_) _ _ ⟨rfl, rfl, fun k hk => absurd hk (Nat.not_lt_zero k)⟩
  rw [if_pos (show okR tw sk wn 0 _ = true from rfl), extC_R]
  have ha : agr (updn (fun _ => 0) 0 b) (qf (updn (fun _ => 0) 0 (b + 1))) (0 + 1) := fun k hk => by
    have e : k = 0 := by omega
    subst e
    rw [updn_s, qf_s]
  exact ext_dfs htw hnt hw n 0 5 (updn (fun _ => 0) 0 b) (updn (fun _ => 0) 0 (b + 1)) s t (by omega) rfl ha ⟨fun k hk => by
    have e : k = 0 := by omega
    subst e
    rw [updn_s]
    exact hb, fun i j hij hj => absurd hij (by omega)⟩ hst
theorem ring_agree {be1 be2 kd wt rt wo0 : Nat → Nat} {x : Int32} (htw : ∀ j, j < nb → tw j < nt) (hnt1 : 1 ≤ nt) (hnt : nt ≤ 6) : opRing (skB nb tw sk wn (mpN (worN kd tw wt rt) wo0 nb) (0, 0, be1) nb) x = opRing (dfsV (okR tw sk wn) (visR tw sk wn (worN kd tw wt rt)) nb nt nt (fun _ => 0) (0, 0, be2)) x := by
  obtain ⟨h1, h2, h3⟩ := sk_dfs (sk := sk) (wn := wn) (be1 := be1) (be2 := be2) htw hnt1 hnt (w1 := mpN (worN kd tw wt rt) wo0 nb) (w2 := worN kd tw wt rt) (fun j hj => mpN_lt hj)
  unfold opRing
  cases rq x with
  | none => rfl
  | some k =>
    simp only
    rw [h1, h2]
    split
    · rfl
    · split
      · rename_i h; rw [h3 _ (by rw [h1]; exact h)]
      · rfl
end RP
