/-! A search by rows, as the reference goes through them: entries are one more than the boy tried last -/
def rwF (r : Nat → Nat) : Nat → Int32 := fun j => nI (r j) - 1
theorem rwF_w (r : Nat → Nat) (d v : Nat) : upd (rwF r) d (nI v) = rwF (updn r d (v + 1)) := by
  funext j
  unfold upd rwF updn
  split
  · rw [← nI_add, show nI 1 = (1 : Int32) from rfl]; grind
  · rfl
theorem rwF_n (r : Nat → Nat) (d : Nat) : upd (rwF r) d (-1) = rwF (updn r d 0) := by
  funext j
  unfold upd rwF updn
  split
  · decide
  · rfl
theorem rw_inc (v : Nat) : nI v - 1 + nI 1 = nI v := by rw [show nI 1 = (1 : Int32) from rfl]; grind
theorem rw_at {r : Nat → Nat} {d v : Nat} : rwF (updn r d (v + 1)) d = nI v := by
  unfold rwF
  rw [updn_s, ← nI_add, show nI 1 = (1 : Int32) from rfl]
  grind
theorem rw_1 (v : Nat) : nI (v + 1) - 1 = nI v := by rw [← nI_add, show nI 1 = (1 : Int32) from rfl]; grind
theorem rw_pos {v : Nat} (h : 1 ≤ v) : nI v - 1 = nI (v - 1) := by
  obtain ⟨k, rfl⟩ : ∃ k, v = k + 1 := ⟨v - 1, by omega⟩
  rw [rw_1]
  rfl
theorem rw_inj {a b : Nat} (ha : a < 1000) (hb : b < 1000) : (nI a - 1 = nI b - 1) ↔ a = b := by
  constructor
  · intro h
    have h2 : nI a = nI b := by grind
    have h3 := congrArg Int32.toInt h2
    rw [nI_toInt (by omega), nI_toInt (by omega)] at h3
    omega
  · rintro rfl; rfl
def frB (r : Nat → Nat) (d : Nat) : Bool := allN (fun k => !decide (r k = r d)) d
def foldN {σ : Type} (f : Nat → σ → σ) : Nat → σ → σ
  | 0, s => s
  | n + 1, s => f n (foldN f n s)
/-- the search: rem places are open -/
def dfs {σ : Type} (ok : Nat → (Nat → Nat) → Bool) (lf : σ → (Nat → Nat) → σ) (nb dn : Nat) : Nat → (Nat → Nat) → σ → σ
  | 0, r, s => lf s r
  | rem + 1, r, s => foldN (fun b s => if ok (dn - (rem + 1)) (updn r (dn - (rem + 1)) (b + 1)) then dfs ok lf nb dn rem (updn r (dn - (rem + 1)) (b + 1)) s else s) nb s
def agr (r r2 : Nat → Nat) (d : Nat) : Prop := ∀ k, k < d → r k = r2 k
theorem agr_upd {r r2 : Nat → Nat} {d v : Nat} (h : agr r r2 d) : agr (updn r d v) (updn r2 d v) (d + 1) := by
  intro k hk
  unfold updn
  split
  · rfl
  · exact h k (by omega)
theorem foldN_cong {σ : Type} {f g : Nat → σ → σ} : ∀ {n : Nat}, (∀ b s, b < n → f b s = g b s) → ∀ s, foldN f n s = foldN g n s
  | 0, _, s => rfl
  | n + 1, h, s => by rw [foldN, foldN, foldN_cong (fun b s hb => h b s (by omega)), h n _ (by omega)]
theorem dfs_cong {σ : Type} {ok : Nat → (Nat → Nat) → Bool} {lf : σ → (Nat → Nat) → σ} {nb dn : Nat} (hok : ∀ d r r2, agr r r2 (d + 1) → ok d r = ok d r2) (hlf : ∀ s r r2, agr r r2 dn → lf s r = lf s r2) : ∀ {rem : Nat} {r r2 : Nat → Nat}, rem ≤ dn → agr r r2 (dn - rem) → ∀ s, dfs ok lf nb dn rem r s = dfs ok lf nb dn rem r2 s
  | 0, r, r2, _, h, s => hlf s r r2 h
  | rem + 1, r, r2, hr, h, s => by
    rw [dfs, dfs]
    refine foldN_cong (fun b s hb => ?_) s
    have h1 := agr_upd (v := b + 1) h
    rw [hok _ _ _ h1]
    have e : dn - (rem + 1) + 1 = dn - rem := by omega
    rw [e] at h1
    rw [dfs_cong hok hlf (by omega) h1 s]
theorem who_dfs {σ : Type} {ok : Nat → (Nat → Nat) → Bool} {lf : σ → (Nat → Nat) → σ} {nb dn B : Nat} (hB : nb < B) (hok : ∀ d r r2, agr r r2 (d + 1) → ok d r = ok d r2) (hlf : ∀ s r r2, agr r r2 dn → lf s r = lf s r2) (H : Nat → (Nat → Nat) → σ → Prop)
    (step : ∀ d r s, d < dn → (∀ k, r k ≤ B) → r d ≤ nb → (∀ k, k < d → 1 ≤ r k ∧ r k ≤ nb) → (nb ≤ r d → H d (updn r d (r d + 1)) s) → (r d < nb → ok d (updn r d (r d + 1)) = true → d + 1 = dn → H (d + 1) (updn r d (r d + 1)) (lf s (updn r d (r d + 1)))) → (r d < nb → ok d (updn r d (r d + 1)) = true → d + 1 ≠ dn → H (d + 2) (updn (updn r d (r d + 1)) (d + 1) 0) s) → (r d < nb → ok d (updn r d (r d + 1)) = false → H (d + 1) (updn r d (r d + 1)) s) → H (d + 1) r s) :
    ∀ (rem : Nat) (d : Nat), d + (rem + 1) = dn → ∀ (n : Nat) (r : Nat → Nat) (s : σ), n + r d = nb → (∀ k, r k ≤ B) → (∀ k, k < d → 1 ≤ r k ∧ r k ≤ nb) → (∀ r2, agr r2 r d → (∀ k, r2 k ≤ B) → H d r2 (dfs ok lf nb dn (rem + 1) r s)) → H (d + 1) r (foldN (fun b s => if ok d (updn r d (b + 1)) then dfs ok lf nb dn rem (updn r d (b + 1)) s else s) (r d) s) := by
  intro rem
  induction rem with
  | zero =>
    intro d hd n
    induction n with
    | zero =>
      intro r s hn hr hp k0
      refine step d r _ (by omega) hr (by omega) hp (fun _ => ?_) (fun h => absurd h (by omega)) (fun h => absurd h (by omega)) (fun h => absurd h (by omega))
      have := k0 (updn r d (r d + 1)) (fun k hk => updn_n (by omega)) (fun k => by unfold updn; split; omega; exact hr k)
      rw [dfs, show dn - (0 + 1) = d by omega] at this
      rw [show r d = nb by omega] at this ⊢
      exact this
    | succ n ih =>
      intro r s hn hr hp k0
      have hr' : ∀ k, updn r d (r d + 1) k ≤ B := fun k => by unfold updn; split; omega; exact hr k
      have hp' : ∀ k, k < d → 1 ≤ updn r d (r d + 1) k ∧ updn r d (r d + 1) k ≤ nb := fun k hk => by rw [updn_n (by omega)]; exact hp k hk
      have ag : agr (updn r d (r d + 1)) r d := fun k hk => updn_n (by omega)
      have hX := ih (updn r d (r d + 1)) s (by rw [updn_s]; omega) hr' hp' (fun r2 ha hb => by
        rw [dfs_cong hok hlf (rem := 0 + 1) (by omega) (show agr (updn r d (r d + 1)) r (dn - (0 + 1)) by rw [show dn - (0 + 1) = d by omega]; exact ag) s]
        exact k0 r2 (fun k hk => (ha k hk).trans (ag k hk)) hb)
      rw [updn_s, foldN] at hX
      have hF : ∀ b s, (if ok d (updn (updn r d (r d + 1)) d (b + 1)) then dfs ok lf nb dn 0 (updn (updn r d (r d + 1)) d (b + 1)) s else s) = (if ok d (updn r d (b + 1)) then dfs ok lf nb dn 0 (updn r d (b + 1)) s else s) := by
        intro b s
        have a1 := agr_upd (v := b + 1) ag
        rw [hok _ _ _ a1, dfs_cong hok hlf (rem := 0) (by omega) (show agr _ _ (dn - 0) by rw [show dn - 0 = d + 1 by omega]; exact a1) s]
      rw [foldN_cong (fun b s hb => hF b s), hF] at hX
      refine step d r _ (by omega) hr (by omega) hp (fun h => absurd h (by omega)) (fun _ h _ => ?_) (fun _ _ h => absurd (show d + 1 = dn by omega) h) (fun _ h => ?_)
      · rw [h] at hX; exact hX
      · rw [h] at hX; exact hX
  | succ rem ihr =>
    intro d hd n
    induction n with
    | zero =>
      intro r s hn hr hp k0
      refine step d r _ (by omega) hr (by omega) hp (fun _ => ?_) (fun h => absurd h (by omega)) (fun h => absurd h (by omega)) (fun h => absurd h (by omega))
      have := k0 (updn r d (r d + 1)) (fun k hk => updn_n (by omega)) (fun k => by unfold updn; split; omega; exact hr k)
      rw [dfs, show dn - (rem + 1 + 1) = d by omega] at this
      rw [show r d = nb by omega] at this ⊢
      exact this
    | succ n ih =>
      intro r s hn hr hp k0
      have hr' : ∀ k, updn r d (r d + 1) k ≤ B := fun k => by unfold updn; split; omega; exact hr k
      have hp' : ∀ k, k < d → 1 ≤ updn r d (r d + 1) k ∧ updn r d (r d + 1) k ≤ nb := fun k hk => by rw [updn_n (by omega)]; exact hp k hk
      have ag : agr (updn r d (r d + 1)) r d := fun k hk => updn_n (by omega)
      have hcf : ∀ (q : Nat → Nat) (b : Nat) (s : σ), agr q r d → (if ok d (updn q d (b + 1)) then dfs ok lf nb dn (rem + 1) (updn q d (b + 1)) s else s) = (if ok d (updn r d (b + 1)) then dfs ok lf nb dn (rem + 1) (updn r d (b + 1)) s else s) := by
        intro q b s hq
        have a1 := agr_upd (v := b + 1) hq
        rw [hok _ _ _ a1, dfs_cong hok hlf (rem := rem + 1) (by omega) (show agr _ _ (dn - (rem + 1)) by rw [show dn - (rem + 1) = d + 1 by omega]; exact a1) s]
      have hX : ∀ q : Nat → Nat, agr q r d → q d = r d + 1 → (∀ k, q k ≤ B) → H (d + 1) q (foldN (fun b s => if ok d (updn r d (b + 1)) then dfs ok lf nb dn (rem + 1) (updn r d (b + 1)) s else s) (r d + 1) s) := by
        intro q hq hqd hqb
        have h1 := ih q s (by rw [hqd]; omega) hqb (fun k hk => by rw [hq k hk]; exact hp k hk) (fun r2 ha hb => by
          rw [dfs_cong hok hlf (rem := rem + 1 + 1) (by omega) (show agr q r (dn - (rem + 1 + 1)) by rw [show dn - (rem + 1 + 1) = d by omega]; exact hq) s]
          exact k0 r2 (fun k hk => (ha k hk).trans (hq k hk)) hb)
        rw [hqd, foldN_cong (fun b s hb => hcf q b s hq)] at h1
        exact h1
      refine step d r _ (by omega) hr (by omega) hp (fun h => absurd h (by omega)) (fun _ _ h => absurd h (by omega)) (fun hlt hk hne => ?_) (fun _ h => ?_)
      · have h2 := ihr (d + 1) (by omega) nb (updn (updn r d (r d + 1)) (d + 1) 0) (foldN (fun b s => if ok d (updn r d (b + 1)) then dfs ok lf nb dn (rem + 1) (updn r d (b + 1)) s else s) (r d) s) (by rw [updn_s]; omega) (fun k => by unfold updn; split; omega; exact hr' k) (fun k hk => by
            rw [updn_n (by omega)]
            by_cases hkd : k = d
            · subst hkd; rw [updn_s]; omega
            · exact hp' k (by omega)) (fun r2 ha hb => ?_)
        · rw [updn_s, foldN] at h2
          exact h2
        · have h3 := hX r2 (fun k hk => by rw [ha k (by omega), updn_n (by omega)]; exact ag k hk) (by rw [ha d (by omega), updn_n (by omega), updn_s]) hb
          rw [foldN, if_pos hk] at h3
          rw [dfs_cong hok hlf (rem := rem + 1) (r2 := updn r d (r d + 1)) (by omega) (fun k hk => updn_n (by omega)) _]
          exact h3
      · have h3 := hX (updn r d (r d + 1)) ag updn_s hr'
        rw [foldN, h] at h3
        exact h3
