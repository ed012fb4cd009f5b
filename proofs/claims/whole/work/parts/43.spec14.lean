theorem nI_decI (x : Int32) : x + Int32.ofInt (-1) = x - 1 := by
  rw [show Int32.ofInt (-1) = (-1 : Int32) by decide]
  grind
theorem who_dfs0 {σ : Type} {ok : Nat → (Nat → Nat) → Bool} {lf : σ → (Nat → Nat) → σ} {nb dn B : Nat} (hB : nb < B) (hok : ∀ d r r2, agr r r2 (d + 1) → ok d r = ok d r2) (hlf : ∀ s r r2, agr r r2 dn → lf s r = lf s r2) (H : Nat → (Nat → Nat) → σ → Prop)
    (step : ∀ d r s, d < dn → (∀ k, r k ≤ B) → r d ≤ nb → (∀ k, k < d → 1 ≤ r k ∧ r k ≤ nb) → (nb ≤ r d → H d (updn r d (r d + 1)) s) → (r d < nb → ok d (updn r d (r d + 1)) = true → d + 1 = dn → H (d + 1) (updn r d (r d + 1)) (lf s (updn r d (r d + 1)))) → (r d < nb → ok d (updn r d (r d + 1)) = true → d + 1 ≠ dn → H (d + 2) (updn (updn r d (r d + 1)) (d + 1) 0) s) → (r d < nb → ok d (updn r d (r d + 1)) = false → H (d + 1) (updn r d (r d + 1)) s) → H (d + 1) r s)
    {r : Nat → Nat} {s : σ} (hr : ∀ k, r k ≤ B) (h0 : r 0 = 0) (hdn : 0 < dn) (exit : ∀ r2, (∀ k, r2 k ≤ B) → H 0 r2 (dfs ok lf nb dn dn (fun _ => 0) s)) : H 1 r s := by
  have h := who_dfs hB hok hlf H step (dn - 1) 0 (by omega) nb r s (by rw [h0]; omega) hr (fun k hk => absurd hk (Nat.not_lt_zero k)) (fun r2 _ hb => by
    rw [show dn - 1 + 1 = dn by omega, dfs_cong hok hlf (rem := dn) (r2 := fun _ => 0) (Nat.le_refl _) (fun k hk => absurd hk (by omega)) s]
    exact exit r2 hb)
  rw [h0, foldN] at h
  exact h
def okW (fit : Nat → Nat → Bool) (d : Nat) (r : Nat → Nat) : Bool := frB r d && fit d (r d - 1)
theorem allN_cong {c c2 : Nat → Bool} : ∀ {n : Nat}, (∀ i, i < n → c i = c2 i) → allN c n = allN c2 n
  | 0, _ => rfl
  | n + 1, h => by rw [allN, allN, allN_cong (fun i hi => h i (by omega)), h n (by omega)]
theorem okW_c (fit : Nat → Nat → Bool) : ∀ d r r2, agr r r2 (d + 1) → okW fit d r = okW fit d r2 := by
  intro d r r2 h
  unfold okW frB
  rw [h d (by omega), allN_cong (fun k hk => by rw [h k (by omega)])]
def lfW (o : Option Nat) (s : Nat × (Nat → Bool)) (r : Nat → Nat) : Nat × (Nat → Bool) := (s.1 + 1, match o with | none => s.2 | some i => fun b => s.2 b || decide (b = r i - 1))
theorem lfW_c {o : Option Nat} {dn : Nat} (ho : ∀ i, o = some i → i < dn) : ∀ s r r2, agr r r2 dn → lfW o s r = lfW o s r2 := by
  intro s r r2 h
  unfold lfW
  cases o with
  | none => rfl
  | some i =>
    have := h i (ho i rfl)
    simp only [this]
def opWhoM (nb dn : Nat) (sk wt dw dc : Nat → Nat) (x : Int32) : Int32 := match wq x dn with
  | none => -3
  | some none => nI (dfs (okW (fitB sk wt dw dc)) (lfW none) nb dn dn (fun _ => 0) (0, fun _ => false)).1
  | some (some i) => bitsI (dfs (okW (fitB sk wt dw dc)) (lfW (some i)) nb dn dn (fun _ => 0) (0, fun _ => false)).2 nb
theorem frB_s {r : Nat → Nat} {d k : Nat} : allN (fun k => !decide (r k = r d)) (k + 1) = (allN (fun k => !decide (r k = r d)) k && !decide (r k = r d)) := rfl
