/-! The ring: a search in which each row is looked at, also one that goes on -/
def dfsV {σ : Type} (ok : Nat → (Nat → Nat) → Bool) (vis : Nat → (Nat → Nat) → σ → σ) (nb dn : Nat) : Nat → (Nat → Nat) → σ → σ
  | 0, _, s => s
  | rem + 1, r, s => foldN (fun b s => if ok (dn - (rem + 1)) (updn r (dn - (rem + 1)) (b + 1)) then dfsV ok vis nb dn rem (updn r (dn - (rem + 1)) (b + 1)) (vis (dn - (rem + 1)) (updn r (dn - (rem + 1)) (b + 1)) s) else s) nb s
theorem dfsV_cong {σ : Type} {ok : Nat → (Nat → Nat) → Bool} {vis : Nat → (Nat → Nat) → σ → σ} {nb dn : Nat} (hok : ∀ d r r2, agr r r2 (d + 1) → ok d r = ok d r2) (hvis : ∀ d s r r2, agr r r2 (d + 1) → vis d r s = vis d r2 s) : ∀ {rem : Nat} {r r2 : Nat → Nat}, rem ≤ dn → agr r r2 (dn - rem) → ∀ s, dfsV ok vis nb dn rem r s = dfsV ok vis nb dn rem r2 s
  | 0, r, r2, _, h, s => rfl
  | rem + 1, r, r2, hr, h, s => by
    rw [dfsV, dfsV]
    refine foldN_cong (fun b s hb => ?_) s
    have h1 := agr_upd (v := b + 1) h
    rw [hok _ _ _ h1, hvis _ _ _ _ h1]
    have e : dn - (rem + 1) + 1 = dn - rem := by omega
    rw [e] at h1
    rw [dfsV_cong hok hvis (by omega) h1 _]
theorem ring_dfs {σ : Type} {ok : Nat → (Nat → Nat) → Bool} {vis : Nat → (Nat → Nat) → σ → σ} {nb dn B : Nat} (hB : nb < B) (hok : ∀ d r r2, agr r r2 (d + 1) → ok d r = ok d r2) (hvis : ∀ d s r r2, agr r r2 (d + 1) → vis d r s = vis d r2 s) (H : Nat → (Nat → Nat) → σ → Prop)
    (step : ∀ d r s, d < dn → (∀ k, r k ≤ B) → r d ≤ nb → (∀ k, k < d → 1 ≤ r k ∧ r k ≤ nb) → (nb ≤ r d → H d (updn r d (r d + 1)) s) → (r d < nb → ok d (updn r d (r d + 1)) = true → d + 1 = dn → H (d + 1) (updn r d (r d + 1)) (vis d (updn r d (r d + 1)) s)) → (r d < nb → ok d (updn r d (r d + 1)) = true → d + 1 ≠ dn → H (d + 2) (updn (updn r d (r d + 1)) (d + 1) 0) (vis d (updn r d (r d + 1)) s)) → (r d < nb → ok d (updn r d (r d + 1)) = false → H (d + 1) (updn r d (r d + 1)) s) → H (d + 1) r s) :
    ∀ (rem : Nat) (d : Nat), d + (rem + 1) = dn → ∀ (n : Nat) (r : Nat → Nat) (s : σ), n + r d = nb → (∀ k, r k ≤ B) → (∀ k, k < d → 1 ≤ r k ∧ r k ≤ nb) → (∀ r2, agr r2 r d → (∀ k, r2 k ≤ B) → H d r2 (dfsV ok vis nb dn (rem + 1) r s)) → H (d + 1) r (foldN (fun b s => if ok d (updn r d (b + 1)) then dfsV ok vis nb dn rem (updn r d (b + 1)) (vis d (updn r d (b + 1)) s) else s) (r d) s) := by
  intro rem
  induction rem with
  | zero =>
    intro d hd n
    induction n with
    | zero =>
      intro r s hn hr hp k0
      refine step d r _ (by omega) hr (by omega) hp (fun _ => ?_) (fun h => absurd h (by omega)) (fun h => absurd h (by omega)) (fun h => absurd h (by omega))
      have := k0 (updn r d (r d + 1)) (fun k hk => updn_n (by omega)) (fun k => by unfold updn; split; omega; exact hr k)
      rw [dfsV, show dn - (0 + 1) = d by omega] at this
      rw [show r d = nb by omega] at this ⊢
      exact this
    | succ n ih =>
      intro r s hn hr hp k0
      have hr' : ∀ k, updn r d (r d + 1) k ≤ B := fun k => by unfold updn; split; omega; exact hr k
      have hp' : ∀ k, k < d → 1 ≤ updn r d (r d + 1) k ∧ updn r d (r d + 1) k ≤ nb := fun k hk => by rw [updn_n (by omega)]; exact hp k hk
      have ag : agr (updn r d (r d + 1)) r d := fun k hk => updn_n (by omega)
      have hX := ih (updn r d (r d + 1)) s (by rw [updn_s]; omega) hr' hp' (fun r2 ha hb => by
        rw [dfsV_cong hok hvis (rem := 0 + 1) (by omega) (show agr (updn r d (r d + 1)) r (dn - (0 + 1)) by rw [show dn - (0 + 1) = d by omega]; exact ag) s]
        exact k0 r2 (fun k hk => (ha k hk).trans (ag k hk)) hb)
      rw [updn_s, foldN] at hX
      have hF : ∀ b s, (if ok d (updn (updn r d (r d + 1)) d (b + 1)) then dfsV ok vis nb dn 0 (updn (updn r d (r d + 1)) d (b + 1)) (vis d (updn (updn r d (r d + 1)) d (b + 1)) s) else s) = (if ok d (updn r d (b + 1)) then dfsV ok vis nb dn 0 (updn r d (b + 1)) (vis d (updn r d (b + 1)) s) else s) := by
        intro b s
        have a1 := agr_upd (v := b + 1) ag
        rw [hok _ _ _ a1, hvis _ _ _ _ a1]; rfl
      rw [foldN_cong (fun b s hb => hF b s), hF] at hX
      refine step d r _ (by omega) hr (by omega) hp (fun h => absurd h (by omega)) (fun _ h _ => ?_) (fun _ _ h => absurd (show d + 1 = dn by omega) h) (fun _ h => ?_)
      · rw [h] at hX; exact hX
      · rw [h] at hX; exact hX
  | succ rem ihr =>
    intro d hd n
    induction n with
    | zero =>
      intro r s hn hr hp k0
      refine step d r _ (by omega) hr (by omega) hp (fun _ => ?_) (fun h => absurd h (by omega)) (fun h => absurd h (by omega)) (fun h => absurd h (by omega))
      have := k0 (updn r d (r d + 1)) (fun k hk => updn_n (by omega)) (fun k => by unfold updn; split; omega; exact hr k)
      rw [dfsV, show dn - (rem + 1 + 1) = d by omega] at this
      rw [show r d = nb by omega] at this ⊢
      exact this
    | succ n ih =>
      intro r s hn hr hp k0
      have hr' : ∀ k, updn r d (r d + 1) k ≤ B := fun k => by unfold updn; split; omega; exact hr k
      have hp' : ∀ k, k < d → 1 ≤ updn r d (r d + 1) k ∧ updn r d (r d + 1) k ≤ nb := fun k hk => by rw [updn_n (by omega)]; exact hp k hk
      have ag : agr (updn r d (r d + 1)) r d := fun k hk => updn_n (by omega)
      have hcf : ∀ (q : Nat → Nat) (b : Nat) (s : σ), agr q r d → (if ok d (updn q d (b + 1)) then dfsV ok vis nb dn (rem + 1) (updn q d (b + 1)) (vis d (updn q d (b + 1)) s) else s) = (if ok d (updn r d (b + 1)) then dfsV ok vis nb dn (rem + 1) (updn r d (b + 1)) (vis d (updn r d (b + 1)) s) else s) := by
        intro q b s hq
        have a1 := agr_upd (v := b + 1) hq
        rw [hok _ _ _ a1, hvis _ _ _ _ a1, dfsV_cong hok hvis (rem := rem + 1) (by omega) (show agr _ _ (dn - (rem + 1)) by rw [show dn - (rem + 1) = d + 1 by omega]; exact a1) _]
      have hX : ∀ q : Nat → Nat, agr q r d → q d = r d + 1 → (∀ k, q k ≤ B) → H (d + 1) q (foldN (fun b s => if ok d (updn r d (b + 1)) then dfsV ok vis nb dn (rem + 1) (updn r d (b + 1)) (vis d (updn r d (b + 1)) s) else s) (r d + 1) s) := by
        intro q hq hqd hqb
        have h1 := ih q s (by rw [hqd]; omega) hqb (fun k hk => by rw [hq k hk]; exact hp k hk) (fun r2 ha hb => by
          rw [dfsV_cong hok hvis (rem := rem + 1 + 1) (by omega) (show agr q r (dn - (rem + 1 + 1)) by rw [show dn - (rem + 1 + 1) = d by omega]; exact hq) s]
          exact k0 r2 (fun k hk => (ha k hk).trans (hq k hk)) hb)
        rw [hqd, foldN_cong (fun b s hb => hcf q b s hq)] at h1
        exact h1
      refine step d r _ (by omega) hr (by omega) hp (fun h => absurd h (by omega)) (fun _ _ h => absurd h (by omega)) (fun hlt hk hne => ?_) (fun _ h => ?_)
      · have h2 := ihr (d + 1) (by omega) nb (updn (updn r d (r d + 1)) (d + 1) 0) (vis d (updn r d (r d + 1)) (foldN (fun b s => if ok d (updn r d (b + 1)) then dfsV ok vis nb dn (rem + 1) (updn r d (b + 1)) (vis d (updn r d (b + 1)) s) else s) (r d) s)) (by rw [updn_s]; omega) (fun k => by unfold updn; split; omega; exact hr' k) (fun k hk => by
            rw [updn_n (by omega)]
            by_cases hkd : k = d
            · subst hkd; rw [updn_s]; omega
            · exact hp' k (by omega)) (fun r2 ha hb => ?_)
        · rw [updn_s, foldN] at h2
          exact h2
        · have h3 := hX r2 (fun k hk => by rw [ha k (by omega), updn_n (by omega)]; exact ag k hk) (by rw [ha d (by omega), updn_n (by omega), updn_s]) hb
          rw [foldN, if_pos hk] at h3
          rw [dfsV_cong hok hvis (rem := rem + 1) (r2 := updn r d (r d + 1)) (by omega) (fun k hk => updn_n (by omega)) _]
          exact h3
      · have h3 := hX (updn r d (r d + 1)) ag updn_s hr'
        rw [foldN, h] at h3
        exact h3
theorem ring_dfs0 {σ : Type} {ok : Nat → (Nat → Nat) → Bool} {vis : Nat → (Nat → Nat) → σ → σ} {nb dn B : Nat} (hB : nb < B) (hok : ∀ d r r2, agr r r2 (d + 1) → ok d r = ok d r2) (hvis : ∀ d s r r2, agr r r2 (d + 1) → vis d r s = vis d r2 s) (H : Nat → (Nat → Nat) → σ → Prop)
    (step : ∀ d r s, d < dn → (∀ k, r k ≤ B) → r d ≤ nb → (∀ k, k < d → 1 ≤ r k ∧ r k ≤ nb) → (nb ≤ r d → H d (updn r d (r d + 1)) s) → (r d < nb → ok d (updn r d (r d + 1)) = true → d + 1 = dn → H (d + 1) (updn r d (r d + 1)) (vis d (updn r d (r d + 1)) s)) → (r d < nb → ok d (updn r d (r d + 1)) = true → d + 1 ≠ dn → H (d + 2) (updn (updn r d (r d + 1)) (d + 1) 0) (vis d (updn r d (r d + 1)) s)) → (r d < nb → ok d (updn r d (r d + 1)) = false → H (d + 1) (updn r d (r d + 1)) s) → H (d + 1) r s)
    {r : Nat → Nat} {s : σ} (hr : ∀ k, r k ≤ B) (h0 : r 0 = 0) (hdn : 0 < dn) (exit : ∀ r2, (∀ k, r2 k ≤ B) → H 0 r2 (dfsV ok vis nb dn dn (fun _ => 0) s)) : H 1 r s := by
  have h := ring_dfs hB hok hvis H step (dn - 1) 0 (by omega) nb r s (by rw [h0]; omega) hr (fun k hk => absurd hk (Nat.not_lt_zero k)) (fun r2 _ hb => by
    rw [show dn - 1 + 1 = dn by omega, dfsV_cong hok hvis (rem := dn) (r2 := fun _ => 0) (Nat.le_refl _) (fun k hk => absurd hk (by omega)) s]
    exact exit r2 hb)
  rw [h0, foldN] at h
  exact h
def owe (wo : Nat → Nat) (a b : Nat) : Nat := wo a - wo b
def wanB (sk : Nat → Nat) (wn : Nat → Int32) (b t : Nat) : Bool := decide (nI (sk b) = wn t)
abbrev BT : Type := Nat × Nat × (Nat → Nat)
def takeB (size ch : Nat) (q : Nat → Nat) (B : BT) : BT := if B.1 = 0 ∨ ch < B.2.1 then (size, ch, mpN q B.2.2 size) else B
def usdB (tw q : Nat → Nat) (size t : Nat) : Bool := anyN (fun k => decide (tw (q k) = t)) size
section RG
variable (nb : Nat) (tw sk : Nat → Nat) (wn : Nat → Int32) (wo : Nat → Nat)
def chdB (q : Nat → Nat) (size b : Nat) : Bool := decide (tw (q 0) < tw b) && (!usdB tw q size (tw b) && wanB sk wn (q (size - 1)) (tw b))
def clsB (q : Nat → Nat) (size : Nat) : Bool := decide (1 < size) && wanB sk wn (q (size - 1)) (tw (q 0))
def nodeB (size : Nat) (q : Nat → Nat) (ch : Nat) (B : BT) : BT := if clsB tw sk wn q size then takeB size (ch + owe wo (q (size - 1)) (q 0)) q B else B
def extC : Nat → Nat → (Nat → Nat) → Nat → BT → BT
  | 0, size, q, ch, B => if 0 < B.1 ∧ B.2.1 ≤ ch then B else nodeB tw sk wn wo size q ch B
  | f + 1, size, q, ch, B => if 0 < B.1 ∧ B.2.1 ≤ ch then B else foldN (fun b B => if chdB tw sk wn q size b then extC f (size + 1) (updn q size b) (ch + owe wo (q (size - 1)) b) B else B) nb (nodeB tw sk wn wo size q ch B)
def extF (f size : Nat) (q : Nat → Nat) (ch : Nat) (B : BT) (n : Nat) : BT := foldN (fun b B => if chdB tw sk wn q size b then extC nb tw sk wn wo f (size + 1) (updn q size b) (ch + owe wo (q (size - 1)) b) B else B) n B
end RG
def okBt (B : BT) : Prop := B.1 ≤ 6 ∧ B.2.1 ≤ 7000
theorem g_copyP {E : EN} {M : MF} {ws : va_W} {pc q : Nat} {lv : List (Nat × Value)} {st : List Value} {ws' : va_W} {own : String} {index a a0 n k : Nat} {f g : Nat → Nat} (hown : M.1.1 = own) (hlink : Cond.methodLink own index arraycopyName ∈ TB) (q0 q1 : Nat) (ha0 : ws[q0]? = some (a0, .inl (E.2.1.1, n, .inl (nA f)))) (ha1 : ws[q1]? = some (a, .inl (E.2.1.1, n, .inl (nA g)))) (hn : n < 1000) (hk : k ≤ n) (hd : 1 ≤ M.2.1.2) (hroom : (st.map fun v => v.category).sum + (nativeFrameWords "java/lang/System" "arraycopy" 5 + 11) ≤ 64 * M.2.1.2)
    (hws : ws.set q1 (a, .inl (E.2.1.1, n, .inl (nA (mpN f g k)))) = ws') (hdg : decode M.1.2.1 pc = .ok (.invokestatic index, 3)) (hq : pc + 3 = q) (kk : G E M ws' q lv st) : G E M ws pc lv (.int (nI k) :: .int (nI 0) :: .ref a :: .int (nI 0) :: .ref a0 :: st) := by
  have z0 : (nI 0).toNatClampNeg = 0 := by decide
  have zn : (nI k).toNatClampNeg = k := nI_clamp (by omega)
  have e : va_cpy (nA f) (nA g) 0 0 k = nA (mpN f g k) := by
    funext j
    unfold va_cpy
    simp only [nA, mpN]
    by_cases h : j < k
    · rw [if_pos (by omega), if_pos h, show 0 + (j - 0) = j by omega]
    · rw [if_neg (by omega), if_neg h]
  exact g_copy (index := index) (ws' := ws') hown hlink mv_copy mt_copy mi_J10 q0 q1 ha0 ha1 (by decide) (by decide) (nI_pos (by omega)) (by rw [z0, zn]; omega) (by rw [z0, zn]; omega) hd hroom (by rw [z0, zn]; exact e) hws hdg hq kk
theorem exKP {α : Type} {E : EN} {M : MF} {ws : va_W} {q : Nat} {lv : List (Nat × Value)} {rest : List Value} {r0 : Option Value} {is : List Nat} {P : α → Prop} {w0 : α → va_W} (k : ∀ j, P j → G E M (putAt ws is (w0 j)) q lv (r0.toList ++ rest)) : ∀ (r : Option Value) (w' : va_W), (∃ j, P j ∧ xQ r0 (w0 j) r w') → G E M (putAt ws is w') q lv (r.toList ++ rest) := by
  rintro r w' ⟨j, hj, rfl, rfl⟩
  exact k j hj
theorem max0s {a b : Nat} (ha : a < 1000) (hb : b < 1000) : (if nI 0 < nI a - nI b then nI a - nI b else nI 0) = nI (a - b) := by
  by_cases h : b ≤ a
  · rw [pk_sub h]
    by_cases h1 : a - b = 0
    · rw [h1]; rfl
    · rw [if_pos ((nI_ltI (by decide) (by omega)).mpr (by omega))]
  · have h1 := pk_sub_toInt (a := a) (b := b) (by omega) (by omega)
    rw [if_neg, show a - b = 0 by omega]
    rw [nI_gt_iff (by decide), h1]
    omega
theorem takeB_ok {size ch : Nat} {q : Nat → Nat} {B : BT} (h1 : size ≤ 6) (h2 : ch ≤ 7000) (hB : okBt B) : okBt (takeB size ch q B) := by
  unfold takeB
  split
  · exact ⟨h1, h2⟩
  · exact hB
section RG2
variable {nb : Nat} {tw sk : Nat → Nat} {wn : Nat → Int32} {wo : Nat → Nat}
theorem owe_le (hwo : ∀ j, j < nb → wo j < 1000) {a b : Nat} (ha : a < nb) : owe wo a b ≤ 1000 := by
  have := hwo a ha
  unfold owe
  omega
theorem nodeB_ok (hwo : ∀ j, j < nb → wo j < 1000) {size ch : Nat} {q : Nat → Nat} {B : BT} (h1 : size ≤ 6) (h0 : 1 ≤ size) (hq : ∀ k, k < size → q k < nb) (h2 : ch ≤ 1000 * (size - 1)) (hB : okBt B) : okBt (nodeB tw sk wn wo size q ch B) := by
  unfold nodeB
  split
  · have := owe_le hwo (b := q 0) (hq (size - 1) (by omega))
    exact takeB_ok h1 (by omega) hB
  · exact hB
theorem foldN_inv {σ : Type} {F : Nat → σ → σ} {I : σ → Prop} : ∀ {n : Nat}, (∀ b s, b < n → I s → I (F b s)) → ∀ s, I s → I (foldN F n s)
  | 0, _, s, h => h
  | n + 1, h, s, hs => h n _ (by omega) (foldN_inv (fun b s hb => h b s (by omega)) s hs)
theorem extC_ok (hwo : ∀ j, j < nb → wo j < 1000) : ∀ {f size : Nat} {q : Nat → Nat} {ch : Nat} {B : BT}, size + f = 6 → 1 ≤ size → (∀ k, k < size → q k < nb) → ch ≤ 1000 * (size - 1) → okBt B → okBt (extC nb tw sk wn wo f size q ch B)
  | 0, size, q, ch, B, hs, h0, hq, hc, hB => by
    rw [extC]
    split
    · exact hB
    · exact nodeB_ok hwo (by omega) h0 hq hc hB
  | f + 1, size, q, ch, B, hs, h0, hq, hc, hB => by
    rw [extC]
    split
    · exact hB
    · refine foldN_inv (fun b s hb hI => ?_) _ (nodeB_ok hwo (by omega) h0 hq hc hB)
      split
      · have := owe_le hwo (b := b) (hq (size - 1) (by omega))
        exact extC_ok hwo (by omega) (by omega) (fun k hk => by unfold updn; split; omega; exact hq k (by omega)) (by omega) hI
      · exact hI
theorem usdB_c {q q2 : Nat → Nat} {size t : Nat} (h : agr q q2 size) : usdB tw q size t = usdB tw q2 size t := by
  rw [Bool.eq_iff_iff]
  unfold usdB
  rw [anyN_iff, anyN_iff]
  constructor
  · rintro ⟨i, hi, e⟩
    exact ⟨i, hi, by rw [← h i hi]; exact e⟩
  · rintro ⟨i, hi, e⟩
    exact ⟨i, hi, by rw [h i hi]; exact e⟩
theorem chdB_c {q q2 : Nat → Nat} {size b : Nat} (h0 : 1 ≤ size) (h : agr q q2 size) : chdB tw sk wn q size b = chdB tw sk wn q2 size b := by
  unfold chdB
  rw [usdB_c h, h 0 (by omega), h (size - 1) (by omega)]
theorem mpN_c {q q2 : Nat → Nat} {be : Nat → Nat} {size : Nat} (h : agr q q2 size) : mpN q be size = mpN q2 be size := by
  funext j
  unfold mpN
  split
  · rename_i hj; exact h j hj
  · rfl
theorem takeB_c {q q2 : Nat → Nat} {size ch : Nat} {B : BT} (h : agr q q2 size) : takeB size ch q B = takeB size ch q2 B := by
  unfold takeB
  rw [mpN_c h]
theorem nodeB_c {q q2 : Nat → Nat} {size ch : Nat} {B : BT} (h0 : 1 ≤ size) (h : agr q q2 size) : nodeB tw sk wn wo size q ch B = nodeB tw sk wn wo size q2 ch B := by
  unfold nodeB clsB
  rw [h 0 (by omega), h (size - 1) (by omega), takeB_c h]
theorem extC_c : ∀ {f size : Nat} {q q2 : Nat → Nat} {ch : Nat} {B : BT}, 1 ≤ size → agr q q2 size → extC nb tw sk wn wo f size q ch B = extC nb tw sk wn wo f size q2 ch B
  | 0, size, q, q2, ch, B, h0, h => by rw [extC, extC, nodeB_c h0 h]
  | f + 1, size, q, q2, ch, B, h0, h => by
    rw [extC, extC, nodeB_c h0 h]
    split
    · rfl
    · refine foldN_cong (fun b s hb => ?_) _
      rw [chdB_c h0 h, h (size - 1) (by omega), extC_c (by omega) (agr_upd h)]
theorem extC_s {f size ch : Nat} {q : Nat → Nat} {B : BT} (h : ¬ (0 < B.1 ∧ B.2.1 ≤ ch)) : extC nb tw sk wn wo (f + 1) size q ch B = extF nb tw sk wn wo f size q ch (nodeB tw sk wn wo size q ch B) nb := by
  rw [extC, if_neg h]
  rfl
theorem extF_t {f size ch b : Nat} {q : Nat → Nat} {B : BT} (h : chdB tw sk wn q size b = true) : extF nb tw sk wn wo f size q ch B (b + 1) = extC nb tw sk wn wo f (size + 1) (updn q size b) (ch + owe wo (q (size - 1)) b) (extF nb tw sk wn wo f size q ch B b) := by
  unfold extF
  rw [foldN, if_pos h]
theorem extF_f {f size ch b : Nat} {q : Nat → Nat} {B : BT} (h : chdB tw sk wn q size b = false) : extF nb tw sk wn wo f size q ch B (b + 1) = extF nb tw sk wn wo f size q ch B b := by
  unfold extF
  rw [foldN, h]
  rfl
theorem extF_ok (hwo : ∀ j, j < nb → wo j < 1000) {f size ch : Nat} {q : Nat → Nat} {B : BT} (hs : size + (f + 1) = 6) (h0 : 1 ≤ size) (hq : ∀ k, k < size → q k < nb) (hc : ch ≤ 1000 * (size - 1)) (hB : okBt B) {n : Nat} (hn : n ≤ nb) : okBt (extF nb tw sk wn wo f size q ch B n) := by
  unfold extF
  refine foldN_inv (fun b s hb hI => ?_) _ hB
  split
  · have := owe_le hwo (b := b) (hq (size - 1) (by omega))
    exact extC_ok hwo (by omega) (by omega) (fun k hk => by unfold updn; split; omega; exact hq k (by omega)) (by omega) hI
  · exact hI
end RG2
theorem nI_le0 {a : Nat} (h : a < 2147483648) : nI a ≤ 0 ↔ a = 0 := by
  rw [Int32.le_iff_toInt_le, nI_toInt h]
  have hz : (0 : Int32).toInt = 0 := by decide
  rw [hz]
  omega
theorem usd_bit {c : Nat → Bool} {t : Nat} (ht : t < 6) : ((bitsI c 6 >>> (nI t &&& 31)) &&& nI 1 = 0) ↔ c t = false := by
  rw [← nI_0, bit_0 (by omega), bitsI_get (by omega)]
  simp [ht]
theorem usd_or {tw q r : Nat → Nat} {size b : Nat} (h : agr q r size) (hb : tw b < 6) : bitsI (usdB tw r size) 6 ||| (nI 1 <<< (nI (tw b) &&& 31)) = bitsI (usdB tw (updn q size b) (size + 1)) 6 := by
  rw [orBit (by decide) hb]
  refine bitsI_cong (fun t ht => ?_)
  unfold usdB
  rw [anyN, updn_s]
  have e := usdB_c (tw := tw) (t := t) (show agr (updn q size b) r size from fun k hk => by rw [updn_n (by omega)]; exact h k hk)
  unfold usdB at e
  rw [e]
  congr 1
  rw [Bool.eq_iff_iff, decide_eq_true_eq, decide_eq_true_eq]
  exact ⟨fun z => z.symm, fun z => z.symm⟩
theorem usd_1 {tw q : Nat → Nat} {b : Nat} (hb : tw b < 6) : nI 1 <<< (nI (tw b) &&& 31) = bitsI (usdB tw (updn q 0 b) 1) 6 := by
  rw [← usd_or (tw := tw) (r := q) (size := 0) (fun k hk => absurd hk (Nat.not_lt_zero k)) hb]
  have e : bitsI (usdB tw q 0) 6 = nI 0 := bits_none 6
  rw [e, nI_0]
  exact (Int32.zero_or).symm
def skB (nb : Nat) (tw sk : Nat → Nat) (wn : Nat → Int32) (wo : Nat → Nat) (B : BT) (n : Nat) : BT := foldN (fun b B => extC nb tw sk wn wo 5 1 (updn (fun _ => 0) 0 b) 0 B) n B
theorem skB_ok {nb : Nat} {tw sk : Nat → Nat} {wn : Nat → Int32} {wo : Nat → Nat} {B : BT} (hwo : ∀ j, j < nb → wo j < 1000) (hB : okBt B) {n : Nat} (hn : n ≤ nb) : okBt (skB nb tw sk wn wo B n) := by
  unfold skB
  refine foldN_inv (fun b s hb hI => extC_ok hwo (by omega) (by omega) (fun k hk => ?_) (by omega) hI) _ hB
  have e : k = 0 := by omega
  subst e
  rw [updn_s]
  omega
def rq (x : Int32) : Option Nat := match tn x 2 with
  | some k => some k
  | none => rn x 10 15
def opRing (B : BT) (x : Int32) : Int32 := match rq x with
  | none => -3
  | some k => if k < 2 then (if B.1 = 0 then -1 else if k = 0 then nI B.2.1 else nI B.1) else if k - 10 < B.1 then nI (B.2.2 (k - 10)) else -1
theorem exKPM {α : Type} {E : EN} {M : MF} {ws : va_W} {q : Nat} {lv : List (Nat × Value)} {rest : List Value} {r0 : Option Value} {is : List Nat} {P : α → Prop} {w0 : α → va_W} (ha : ascB 0 is = true) (k : ∀ j, P j → G E M (putM 0 ws is (w0 j)) q lv (r0.toList ++ rest)) : ∀ (r : Option Value) (w' : va_W), (∃ j, P j ∧ xQ r0 (w0 j) r w') → G E M (putAt ws is w') q lv (r.toList ++ rest) := by
  rintro r w' ⟨j, hj, rfl, rfl⟩
  rw [putAt_M ha]
  exact k j hj
theorem rq_none {x : Int32} (h : rq x = none) : ¬ x = 0 ∧ ¬ x = nI 1 ∧ (¬ x < nI 10 → nI 16 ≤ x) := by
  unfold rq at h
  cases h1 : tn x 2 with
  | some k => rw [h1] at h; cases h
  | none =>
    rw [h1] at h
    have h2 : rn x 10 15 = none := h
    have h3 := tn_out h1 (m := 1) rfl
    refine ⟨fun z => ?_, fun z => ?_, fun z => ?_⟩
    · subst z; revert h3; decide
    · subst z; revert h3; decide
    · rw [nI_lt_iff (by decide)] at z
      unfold rn at h2
      by_cases hc : ((10 : Nat) : Int) ≤ x.toInt ∧ x.toInt ≤ ((15 : Nat) : Int)
      · rw [if_pos hc] at h2; cases h2
      · rw [Int32.le_iff_toInt_le, nI_toInt (by decide)]
        omega
theorem rq_some {x : Int32} {k : Nat} (h : rq x = some k) : (x = nI k) ∧ (k = 0 ∨ k = 1 ∨ (10 ≤ k ∧ k ≤ 15)) := by
  unfold rq at h
  cases h1 : tn x 2 with
  | some j =>
    rw [h1] at h
    cases h
    have := tn_some h1
    exact ⟨this.2, by omega⟩
  | none =>
    rw [h1] at h
    have h2 : rn x 10 15 = some k := h
    have := rn_some h2
    exact ⟨this.2.2, by omega⟩
theorem worN_lt {kd tw wt rt : Nat → Nat} {b : Nat} (_ : ∀ j, j < 10 → kd j < 4) (htw : ∀ j, j < 10 → tw j < 6) (hwt : ∀ j, j < 10 → wt j < 100) (hrt : ∀ j, j < 6 → rt j < 10) (hb : b < 10) : worN kd tw wt rt b < 1000 := by
  have h1 := pnd_le (kd b) (wt b)
  have h2 := hwt b hb
  have h3 := hrt _ (htw b hb)
  unfold worN
  have : pnd (kd b) (wt b) * rt (tw b) ≤ 99 * 9 := Nat.mul_le_mul (by omega) (by omega)
  omega
