/-! What holds between the calls, and that each call keeps it -/
def okK (nb nt : Nat) (kd : Nat → Nat) (K : KT) : Prop := K.1 = true → (K.2.1 = nb ∧ K.2.2.2.1 = kd) ∧ K.2.2.1 ≤ 999 ∧ okY K.2.2.2.2 ∧ okB nb nt K.2.2.2.2
abbrev mkD (nt lw sl nb : Nat) (cr rt fd : Nat → Nat) (wn : Nat → Int32) (nx kd bto bwo bso bgo : Nat → Nat) : LSt := ((nt, lw, sl, nb), (cr, rt, fd, wn, nx), (kd, bto, bwo, bso, bgo))
def Inv (nt lw sl nb : Nat) (cr rt fd : Nat → Nat) (wn : Nat → Int32) (nx kd bto bwo bso bgo nxm : Nat → Nat) (tl : Nat) (tx : Nat → Nat) (yr : Nat) (tw wt sk gr : Nat → Nat) (ch : Nat → Int32) (en : Nat) (eb eg : Nat → Nat) (sn : Nat) (st_ sb sw : Nat → Nat) (dn : Nat) (dw dc : Nat → Nat) (K0 K1 : KT) : Prop :=
  okD (mkD nt lw sl nb cr rt fd wn nx kd bto bwo bso bgo) ∧ (∀ j, j < nt → nxm j = nx j) ∧ (tl ≤ 200 ∧ ∀ j, j < tl → tx j < 256) ∧ yr ≤ 999 ∧ (okY (tw, wt, sk, gr, ch) ∧ okB nb nt (tw, wt, sk, gr, ch)) ∧ okE nb nt en tw eb eg ∧ (sn ≤ 12 ∧ (∀ j, j < 12 → sb j < 100) ∧ ∀ j, j < sn → st_ j < 1000 ∧ sw j < 200) ∧ (dn ≤ 6 ∧ (∀ j, j < 6 → dw j < 1000) ∧ ∀ j, j < 6 → dc j < 1000) ∧ okK nb nt kd K0 ∧ okK nb nt kd K1
theorem lenT_c {S : Nat → Option Nat} {nx nx' tw : Nat → Nat} {nt : Nat} (h : ∀ t, t < nt → nx' t = nx t) : ∀ t, t ≤ nt → lenT S nx' tw t = lenT S nx tw t
  | 0, _ => rfl
  | t + 1, ht => by
    rw [lenT, lenT, lenT_c h t (by omega), h t (by omega)]
theorem lenC_c {S : Nat → Option Nat} {kd wt rt nx nx' tw : Nat → Nat} {ch : Nat → Int32} {nt : Nat} (h : ∀ t, t < nt → nx' t = nx t) : ∀ t, t ≤ nt → lenC S kd wt rt nx' tw ch t = lenC S kd wt rt nx tw ch t
  | 0, _ => rfl
  | t + 1, ht => by
    rw [lenC, lenC, lenC_c h t (by omega), h t (by omega), lenT_c h t (by omega)]
theorem year1_c {nb nt lw : Nat} {kd cr rt fd nx nx' : Nat → Nat} (h : ∀ t, t < nt → nx' t = nx t) (s : YS) : year1 ((nb, nt, lw), kd, cr, rt, fd, nx') s = year1 ((nb, nt, lw), kd, cr, rt, fd, nx) s := by
  have e1 : yT ((nb, nt, lw), kd, cr, rt, fd, nx') s = yT ((nb, nt, lw), kd, cr, rt, fd, nx) s := by
    show (if lw = 3 then s.1 else lenT _ nx' s.1 nt) = (if lw = 3 then s.1 else lenT _ nx s.1 nt)
    rw [lenT_c h nt (Nat.le_refl nt)]
    rfl
  have e2 : yC ((nb, nt, lw), kd, cr, rt, fd, nx') s = yC ((nb, nt, lw), kd, cr, rt, fd, nx) s := by
    show (if lw = 3 then s.2.2.2.2 else lenC _ kd _ rt nx' s.1 s.2.2.2.2 nt) = (if lw = 3 then s.2.2.2.2 else lenC _ kd _ rt nx s.1 s.2.2.2.2 nt)
    rw [lenC_c h nt (Nat.le_refl nt)]
    rfl
  unfold year1
  rw [e1, e2]
  rfl
theorem years_c {nb nt lw : Nat} {kd cr rt fd nx nx' : Nat → Nat} (h : ∀ t, t < nt → nx' t = nx t) (s : YS) : ∀ n, years ((nb, nt, lw), kd, cr, rt, fd, nx') n s = years ((nb, nt, lw), kd, cr, rt, fd, nx) n s
  | 0 => rfl
  | n + 1 => by rw [years, years, years_c h s n, year1_c h]
theorem opGo_c {nb nt lw : Nat} {kd cr rt fd nx nx' : Nat → Nat} (h : ∀ t, t < nt → nx' t = nx t) (s : YS) (yr en : Nat) (x : Int32) : opGo ((nb, nt, lw), kd, cr, rt, fd, nx') s yr en x = opGo ((nb, nt, lw), kd, cr, rt, fd, nx) s yr en x := by
  unfold opGo
  cases rn x 1 99 with
  | none => rfl
  | some n => simp only; rw [years_c h]
theorem opLater_c {nb nt lw : Nat} {kd cr rt fd nx nx' : Nat → Nat} (h : ∀ t, t < nt → nx' t = nx t) (s : YS) (x y z : Int32) : opLater ((nb, nt, lw), kd, cr, rt, fd, nx') s x y z = opLater ((nb, nt, lw), kd, cr, rt, fd, nx) s x y z := by
  unfold opLater
  cases tn x nb with
  | none => rfl
  | some b =>
    cases rn y 0 99 with
    | none => rfl
    | some n => simp only; rw [years_c h]
theorem opWithout_c {nb nt lw : Nat} {kd cr rt fd nx nx' : Nat → Nat} (h : ∀ t, t < nt → nx' t = nx t) (s : YS) (y : Int32) : opWithout ((nb, nt, lw), kd, cr, rt, fd, nx') s y = opWithout ((nb, nt, lw), kd, cr, rt, fd, nx) s y := by
  unfold opWithout
  cases rn y 0 99 with
  | none => rfl
  | some n => simp only; rw [years_c h]
theorem opOwed_c {nb nt lw : Nat} {kd cr rt fd nx nx' : Nat → Nat} (h : ∀ t, t < nt → nx' t = nx t) (s : YS) (x y : Int32) : opOwed ((nb, nt, lw), kd, cr, rt, fd, nx') s x y = opOwed ((nb, nt, lw), kd, cr, rt, fd, nx) s x y := by
  unfold opOwed
  simp only
  cases tn x nt with
  | none => rfl
  | some b =>
    cases rn y 0 99 with
    | none => rfl
    | some n => simp only; rw [years_c h]
theorem opGainers_c {nb nt lw : Nat} {kd cr rt fd nx nx' : Nat → Nat} (h : ∀ t, t < nt → nx' t = nx t) (s : YS) (x y z : Int32) : opGainers ((nb, nt, lw), kd, cr, rt, fd, nx') s x y z = opGainers ((nb, nt, lw), kd, cr, rt, fd, nx) s x y z := by
  unfold opGainers
  simp only
  cases tn x nt with
  | none => rfl
  | some t =>
    cases rn y 1 9 with
    | none => rfl
    | some r =>
      cases rn z 1 99 with
      | none => rfl
      | some n => simp only; rw [years_c h, years_c h]
theorem opTown_c {nt nb : Nat} {cr rt fd nx nx' tw : Nat → Nat} {wn ch : Nat → Int32} (h : ∀ t, t < nt → nx' t = nx t) (x y : Int32) : opTown nt nb cr rt fd nx' tw wn ch x y = opTown nt nb cr rt fd nx tw wn ch x y := by
  unfold opTown
  cases ht : tn x nt with
  | none => rfl
  | some t => simp only; rw [h t (tn_some ht).1]
theorem okE_0 {nb nt : Nat} {tw eb eg : Nat → Nat} : okE nb nt 0 tw eb eg := ⟨by omega, fun i h => absurd h (Nat.not_lt_zero i), fun i h => absurd h (Nat.not_lt_zero i), fun i h => absurd h (Nat.not_lt_zero i), fun i h => absurd h (Nat.not_lt_zero i)⟩
theorem hasE_c {eb eb' : Nat → Nat} {b : Nat} : ∀ {n : Nat}, (∀ i, i < n → eb i = eb' i) → hasE eb b n = hasE eb' b n
  | 0, _ => rfl
  | n + 1, h => by rw [hasE, hasE, hasE_c (fun i hi => h i (by omega)), h n (by omega)]
section INV
variable {nt lw sl nb : Nat} {cr rt fd : Nat → Nat} {wn : Nat → Int32} {nx kd bto bwo bso bgo nxm : Nat → Nat} {tl : Nat} {tx : Nat → Nat} {yr : Nat} {tw wt sk gr : Nat → Nat} {ch : Nat → Int32} {en : Nat} {eb eg : Nat → Nat} {sn : Nat} {st_ sb sw : Nat → Nat} {dn : Nat} {dw dc : Nat → Nat} {K0 K1 : KT}
theorem inv_write (I : Inv nt lw sl nb cr rt fd wn nx kd bto bwo bso bgo nxm tl tx yr tw wt sk gr ch en eb eg sn st_ sb sw dn dw dc K0 K1) (x : Int64) (n : Int32) : Inv nt lw sl nb cr rt fd wn nx kd bto bwo bso bgo nxm (opWrite tl tx x n).2.1 (opWrite tl tx x n).2.2 yr tw wt sk gr ch en eb eg sn st_ sb sw dn dw dc K0 K1 := by
  obtain ⟨i1, i2, ⟨i3, i4⟩, i5⟩ := I
  refine ⟨i1, i2, ?_, i5⟩
  unfold opWrite
  cases rn n 1 8 with
  | none => exact ⟨i3, i4⟩
  | some k =>
    simp only
    split
    · exact ⟨i3, i4⟩
    · refine ⟨by show tl + k ≤ 200; omega, ?_⟩
      have h : ∀ m, ∀ j, j < tl + m → wrT tx tl x m j < 256 := by
        intro m
        induction m with
        | zero => exact i4
        | succ m ih =>
          intro j hj
          show updn (wrT tx tl x m) (tl + m) (byN x m) j < 256
          unfold updn
          split
          · exact byN_lt x m
          · exact ih j (by omega)
      exact h k
theorem inv_erase (I : Inv nt lw sl nb cr rt fd wn nx kd bto bwo bso bgo nxm tl tx yr tw wt sk gr ch en eb eg sn st_ sb sw dn dw dc K0 K1) : Inv nt lw sl nb cr rt fd wn nx kd bto bwo bso bgo nxm 0 tx yr tw wt sk gr ch en eb eg sn st_ sb sw dn dw dc K0 K1 := by
  obtain ⟨i1, i2, -, i5⟩ := I
  exact ⟨i1, i2, ⟨by omega, fun j h => absurd h (Nat.not_lt_zero j)⟩, i5⟩
theorem inv_give (I : Inv nt lw sl nb cr rt fd wn nx kd bto bwo bso bgo nxm tl tx yr tw wt sk gr ch en eb eg sn st_ sb sw dn dw dc K0 K1) (x y : Int32) : Inv nt lw sl nb cr rt fd wn nx kd bto bwo bso bgo nxm tl tx yr tw wt sk gr ch (opGive nb nt en tw eb eg x y).2.1 (opGive nb nt en tw eb eg x y).2.2.1 (opGive nb nt en tw eb eg x y).2.2.2 sn st_ sb sw dn dw dc K0 K1 := by
  obtain ⟨i1, i2, i3, i4, i5, i6, i7⟩ := I
  refine ⟨i1, i2, i3, i4, i5, ?_, i7⟩
  unfold opGive
  cases hb : tn x nb with
  | none => exact i6
  | some b =>
    cases ht : tn y nt with
    | none => exact i6
    | some t =>
      simp only
      split
      · exact i6
      · rename_i h1
        split
        · exact i6
        · rename_i h2
          split
          · exact i6
          · rename_i h3
            obtain ⟨e1, e2, e3, e4, e5⟩ := i6
            have hb1 := (tn_some hb).1
            have ht1 := (tn_some ht).1
            refine ⟨by show en + 1 ≤ 8; omega, fun i hi => ?_, fun i hi => ?_, fun i hi => ?_, fun i hi => ?_⟩
            · show updn eb en b i < nb
              unfold updn
              have hi : i < en + 1 := hi
              split
              · exact hb1
              · exact e2 i (by omega)
            · show updn eg en t i < nt
              unfold updn
              have hi : i < en + 1 := hi
              split
              · exact ht1
              · exact e3 i (by omega)
            · show updn eg en t i ≠ tw (updn eb en b i)
              have hi : i < en + 1 := hi
              unfold updn
              split
              · exact fun z => h1 z.symm
              · exact e4 i (by omega)
            · show hasE (updn eb en b) (updn eb en b i) i = false
              have hi : i < en + 1 := hi
              rw [hasE_c (eb' := eb) (fun j hj => updn_n (by omega))]
              by_cases hie : i = en
              · subst hie
                rw [updn_s]
                simpa using h2
              · rw [updn_n hie]
                exact e5 i (by omega)
theorem inv_drop (I : Inv nt lw sl nb cr rt fd wn nx kd bto bwo bso bgo nxm tl tx yr tw wt sk gr ch en eb eg sn st_ sb sw dn dw dc K0 K1) : Inv nt lw sl nb cr rt fd wn nx kd bto bwo bso bgo nxm tl tx yr tw wt sk gr ch 0 eb eg sn st_ sb sw dn dw dc K0 K1 := by
  obtain ⟨i1, i2, i3, i4, i5, i6, i7⟩ := I
  exact ⟨i1, i2, i3, i4, i5, okE_0, i7⟩
theorem twG_in {nb nt : Nat} {tw eb eg : Nat → Nat} {N : Nat} (hb : ∀ j, j < N → tw j < nt) : ∀ {n : Nat}, (∀ i, i < n → eg i < nt) → ∀ j, j < N → twG tw eb eg n j < nt
  | 0, _, j, hj => hb j hj
  | n + 1, h, j, hj => by
    show updn (twG tw eb eg n) (eb n) (eg n) j < nt
    unfold updn
    split
    · exact h n (by omega)
    · exact twG_in (nb := nb) hb (fun i hi => h i (by omega)) j hj
theorem inv_deal (I : Inv nt lw sl nb cr rt fd wn nx kd bto bwo bso bgo nxm tl tx yr tw wt sk gr ch en eb eg sn st_ sb sw dn dw dc K0 K1) : Inv nt lw sl nb cr rt fd wn nx kd bto bwo bso bgo nxm tl tx yr (opDeal nt sl en kd tw wt rt eb eg ch).2.2.1 wt sk gr (opDeal nt sl en kd tw wt rt eb eg ch).2.2.2 (opDeal nt sl en kd tw wt rt eb eg ch).2.1 eb eg sn st_ sb sw dn dw dc K0 K1 := by
  obtain ⟨i1, i2, i3, i4, ⟨i5, i5b⟩, i6, i7⟩ := I
  unfold opDeal
  cases fstN (clo sl en kd tw wt rt eb eg) nt with
  | some t => exact ⟨i1, i2, i3, i4, ⟨i5, i5b⟩, i6, i7⟩
  | none =>
    have hnt := i1.1.2.1
    refine ⟨i1, i2, i3, i4, ⟨⟨fun j hj => ?_, i5.2⟩, fun j hj => ?_, i5b.2⟩, okE_0, i7⟩
    · exact twG_in (nb := nb) (N := 10) i5.1 (fun i hi => Nat.lt_of_lt_of_le (i6.2.2.1 i hi) hnt) j hj
    · exact twG_in (nb := nb) (N := nb) i5b.1 (fun i hi => i6.2.2.1 i hi) j hj
theorem inv_okL (I : Inv nt lw sl nb cr rt fd wn nx kd bto bwo bso bgo nxm tl tx yr tw wt sk gr ch en eb eg sn st_ sb sw dn dw dc K0 K1) : okL ((nb, nt, lw), kd, cr, rt, fd, nx) ∧ okL ((nb, nt, lw), kd, cr, rt, fd, nxm) := by
  obtain ⟨⟨⟨a1, a2, a3, a4, a5⟩, ⟨b1, b2, b3, b4⟩, ⟨c1, -⟩, -⟩, h, -⟩ := I
  exact ⟨⟨a5, a2, a3, c1, b1, b2, b3, b4⟩, ⟨a5, a2, a3, c1, b1, b2, b3, fun j hj => by show nxm j < nt; rw [h j hj]; exact b4 j hj⟩⟩
theorem inv_go (I : Inv nt lw sl nb cr rt fd wn nx kd bto bwo bso bgo nxm tl tx yr tw wt sk gr ch en eb eg sn st_ sb sw dn dw dc K0 K1) (x : Int32) : Inv nt lw sl nb cr rt fd wn nx kd bto bwo bso bgo nxm tl tx (opGo ((nb, nt, lw), kd, cr, rt, fd, nx) (tw, wt, sk, gr, ch) yr en x).2.2.1 (opGo ((nb, nt, lw), kd, cr, rt, fd, nx) (tw, wt, sk, gr, ch) yr en x).2.1.1 (opGo ((nb, nt, lw), kd, cr, rt, fd, nx) (tw, wt, sk, gr, ch) yr en x).2.1.2.1 (opGo ((nb, nt, lw), kd, cr, rt, fd, nx) (tw, wt, sk, gr, ch) yr en x).2.1.2.2.1 (opGo ((nb, nt, lw), kd, cr, rt, fd, nx) (tw, wt, sk, gr, ch) yr en x).2.1.2.2.2.1 (opGo ((nb, nt, lw), kd, cr, rt, fd, nx) (tw, wt, sk, gr, ch) yr en x).2.1.2.2.2.2 (opGo ((nb, nt, lw), kd, cr, rt, fd, nx) (tw, wt, sk, gr, ch) yr en x).2.2.2 eb eg sn st_ sb sw dn dw dc K0 K1 := by
  have hP := (inv_okL I).1
  obtain ⟨i1, i2, i3, i4, ⟨i5, i5b⟩, i6, i7⟩ := I
  unfold opGo
  cases rn x 1 99 with
  | none => exact ⟨i1, i2, i3, i4, ⟨i5, i5b⟩, i6, i7⟩
  | some n =>
    simp only
    split
    · exact ⟨i1, i2, i3, i4, ⟨i5, i5b⟩, i6, i7⟩
    · have h := years_ok hP i5 i5b n
      exact ⟨i1, i2, i3, by show yr + n ≤ 999; omega, h, okE_0, i7⟩
theorem inv_keep (I : Inv nt lw sl nb cr rt fd wn nx kd bto bwo bso bgo nxm tl tx yr tw wt sk gr ch en eb eg sn st_ sb sw dn dw dc K0 K1) (x : Int32) : Inv nt lw sl nb cr rt fd wn nx kd bto bwo bso bgo nxm tl tx yr tw wt sk gr ch en eb eg sn st_ sb sw dn dw dc (opKeep (nb, yr, kd, tw, wt, sk, gr, ch) K0 K1 x).2.1 (opKeep (nb, yr, kd, tw, wt, sk, gr, ch) K0 K1 x).2.2 := by
  obtain ⟨i1, i2, i3, i4, i5, i6, i7, i8, i9, i10⟩ := I
  have hk : okK nb nt kd (true, nb, yr, kd, tw, wt, sk, gr, ch) := fun _ => ⟨⟨rfl, rfl⟩, i4, i5.1, i5.2⟩
  refine ⟨i1, i2, i3, i4, i5, i6, i7, i8, ?_⟩
  unfold opKeep
  cases rn x 0 1 with
  | none => exact ⟨i9, i10⟩
  | some k =>
    simp only
    split
    · exact ⟨hk, i10⟩
    · exact ⟨i9, hk⟩
/-- what comes back has the boys that there are -/
theorem back_nb (I : Inv nt lw sl nb cr rt fd wn nx kd bto bwo bso bgo nxm tl tx yr tw wt sk gr ch en eb eg sn st_ sb sw dn dw dc K0 K1) (x : Int32) : (opBack (nb, yr, kd, tw, wt, sk, gr, ch) en K0 K1 x).2.1.1 = nb ∧ (opBack (nb, yr, kd, tw, wt, sk, gr, ch) en K0 K1 x).2.1.2.2.1 = kd := by
  obtain ⟨i1, i2, i3, i4, i5, i6, i7, i8, i9, i10⟩ := I
  unfold opBack
  cases rn x 0 1 with
  | none => exact ⟨rfl, rfl⟩
  | some k =>
    simp only
    split
    · split
      · rename_i h; exact (i9 h).1
      · exact ⟨rfl, rfl⟩
    · split
      · rename_i h; exact (i10 h).1
      · exact ⟨rfl, rfl⟩
theorem inv_back (I : Inv nt lw sl nb cr rt fd wn nx kd bto bwo bso bgo nxm tl tx yr tw wt sk gr ch en eb eg sn st_ sb sw dn dw dc K0 K1) (x : Int32) : Inv nt lw sl nb cr rt fd wn nx kd bto bwo bso bgo nxm tl tx (opBack (nb, yr, kd, tw, wt, sk, gr, ch) en K0 K1 x).2.1.2.1 (opBack (nb, yr, kd, tw, wt, sk, gr, ch) en K0 K1 x).2.1.2.2.2.1 (opBack (nb, yr, kd, tw, wt, sk, gr, ch) en K0 K1 x).2.1.2.2.2.2.1 (opBack (nb, yr, kd, tw, wt, sk, gr, ch) en K0 K1 x).2.1.2.2.2.2.2.1 (opBack (nb, yr, kd, tw, wt, sk, gr, ch) en K0 K1 x).2.1.2.2.2.2.2.2.1 (opBack (nb, yr, kd, tw, wt, sk, gr, ch) en K0 K1 x).2.1.2.2.2.2.2.2.2 (opBack (nb, yr, kd, tw, wt, sk, gr, ch) en K0 K1 x).2.2 eb eg sn st_ sb sw dn dw dc K0 K1 := by
  obtain ⟨i1, i2, i3, i4, i5, i6, i7, i8, i9, i10⟩ := I
  unfold opBack
  cases rn x 0 1 with
  | none => exact ⟨i1, i2, i3, i4, i5, i6, i7, i8, i9, i10⟩
  | some k =>
    simp only
    split
    · split
      · rename_i h; exact ⟨i1, i2, i3, (i9 h).2.1, (i9 h).2.2, okE_0, i7, i8, i9, i10⟩
      · exact ⟨i1, i2, i3, i4, i5, i6, i7, i8, i9, i10⟩
    · split
      · rename_i h; exact ⟨i1, i2, i3, (i10 h).2.1, (i10 h).2.2, okE_0, i7, i8, i9, i10⟩
      · exact ⟨i1, i2, i3, i4, i5, i6, i7, i8, i9, i10⟩
theorem inv_weigh (I : Inv nt lw sl nb cr rt fd wn nx kd bto bwo bso bgo nxm tl tx yr tw wt sk gr ch en eb eg sn st_ sb sw dn dw dc K0 K1) (x y z : Int32) : Inv nt lw sl nb cr rt fd wn nx kd bto bwo bso bgo nxm tl tx yr tw wt sk gr ch en eb eg (opWeigh nt nb sn st_ sb sw x y z).2.1 (opWeigh nt nb sn st_ sb sw x y z).2.2.1 (opWeigh nt nb sn st_ sb sw x y z).2.2.2.1 (opWeigh nt nb sn st_ sb sw x y z).2.2.2.2 dn dw dc K0 K1 := by
  obtain ⟨i1, i2, i3, i4, i5, i6, ⟨i7, i7b, i7c⟩, i8⟩ := I
  refine ⟨i1, i2, i3, i4, i5, i6, ?_, i8⟩
  have hnt := i1.1.2.1
  have hnb := i1.1.2.2.2.2
  unfold opWeigh
  cases ht : tn x nt with
  | none => exact ⟨i7, i7b, i7c⟩
  | some t =>
    cases hb : tn y nb with
    | none => exact ⟨i7, i7b, i7c⟩
    | some b =>
      cases hw : rn z 0 199 with
      | none => exact ⟨i7, i7b, i7c⟩
      | some w =>
        simp only
        split
        · exact ⟨i7, i7b, i7c⟩
        · have h1 := (tn_some ht).1
          have h2 := (tn_some hb).1
          have h3 := (rn_some hw).2.1
          have hnt : nt ≤ 6 := hnt
          have hnb : nb ≤ 10 := hnb
          refine ⟨by show sn + 1 ≤ 12; omega, updn_lt i7b (by omega), fun j hj => ?_⟩
          have hj : j < sn + 1 := hj
          show updn st_ sn t j < 1000 ∧ updn sw sn w j < 200
          unfold updn
          split
          · omega
          · exact i7c j (by omega)
theorem inv_forget (I : Inv nt lw sl nb cr rt fd wn nx kd bto bwo bso bgo nxm tl tx yr tw wt sk gr ch en eb eg sn st_ sb sw dn dw dc K0 K1) : Inv nt lw sl nb cr rt fd wn nx kd bto bwo bso bgo nxm tl tx yr tw wt sk gr ch en eb eg 0 st_ sb sw dn dw dc K0 K1 := by
  obtain ⟨i1, i2, i3, i4, i5, i6, ⟨i7, i7b, i7c⟩, i8⟩ := I
  exact ⟨i1, i2, i3, i4, i5, i6, ⟨by omega, i7b, fun j h => absurd h (Nat.not_lt_zero j)⟩, i8⟩
theorem inv_road (I : Inv nt lw sl nb cr rt fd wn nx kd bto bwo bso bgo nxm tl tx yr tw wt sk gr ch en eb eg sn st_ sb sw dn dw dc K0 K1) (x y : Int32) : Inv nt lw sl nb cr rt fd wn nx kd bto bwo bso bgo nxm tl tx yr tw wt sk gr ch en eb eg sn st_ sb sw (opRoad dn dw dc x y).2.1 (opRoad dn dw dc x y).2.2.1 (opRoad dn dw dc x y).2.2.2 K0 K1 := by
  obtain ⟨i1, i2, i3, i4, i5, i6, i7, ⟨i8, i8b, i8c⟩, i9⟩ := I
  refine ⟨i1, i2, i3, i4, i5, i6, i7, ?_, i9⟩
  unfold opRoad
  cases hw : rn x 1 99 with
  | none => exact ⟨i8, i8b, i8c⟩
  | some w =>
    cases hc : rn y 0 3 with
    | none => exact ⟨i8, i8b, i8c⟩
    | some c =>
      simp only
      split
      · exact ⟨i8, i8b, i8c⟩
      · have h1 := (rn_some hw).2.1
        have h2 := (rn_some hc).2.1
        exact ⟨by show dn + 1 ≤ 6; omega, updn_lt i8b (by omega), updn_lt i8c (by omega)⟩
theorem inv_arrive (I : Inv nt lw sl nb cr rt fd wn nx kd bto bwo bso bgo nxm tl tx yr tw wt sk gr ch en eb eg sn st_ sb sw dn dw dc K0 K1) : Inv nt lw sl nb cr rt fd wn nx kd bto bwo bso bgo nxm tl tx yr tw wt sk gr ch en eb eg sn st_ sb sw 0 dw dc K0 K1 := by
  obtain ⟨i1, i2, i3, i4, i5, i6, i7, ⟨i8, i8b, i8c⟩, i9⟩ := I
  exact ⟨i1, i2, i3, i4, i5, i6, i7, ⟨by omega, i8b, i8c⟩, i9⟩
end INV
/-- the reference's league beside the class's: all the same but next towns that there are not -/
abbrev mkM (B : LSt) (n : Nat → Nat) : LSt := (B.1, (B.2.1.1, B.2.1.2.1, B.2.1.2.2.1, B.2.1.2.2.2.1, n), B.2.2)
theorem doL_rel {B : LSt} {n : Nat → Nat} {l : LN} (h : ∀ j, j < B.1.1 → n j = B.2.1.2.2.2.2 j) (ho : okLn B l) : ∃ n', doL nxM l (mkM B n) = mkM (doL nx0 l B) n' ∧ ∀ j, j < (doL nx0 l B).1.1 → n' j = (doL nx0 l B).2.1.2.2.2.2 j := by
  unfold doL
  by_cases k1 : l.1 < 4
  · rw [if_pos k1, if_pos k1]; exact ⟨n, rfl, h⟩
  rw [if_neg k1, if_neg k1]
  by_cases k2 : l.1 < 8
  · rw [if_pos k2, if_pos k2]; exact ⟨n, rfl, h⟩
  rw [if_neg k2, if_neg k2]
  by_cases k3 : l.1 = 8
  · rw [if_pos k3, if_pos k3]
    refine ⟨nxM (l.2.getD 0 0), rfl, fun j hj => ?_⟩
    have hj : j < l.2.getD 0 0 := hj
    show nxM (l.2.getD 0 0) j = nx0 (l.2.getD 0 0) j
    unfold nxM nx0
    split
    · rw [if_neg (by omega)]
    · rw [if_pos (by omega)]
  rw [if_neg k3, if_neg k3]
  by_cases k4 : l.1 = 9
  · rw [if_pos k4, if_pos k4]; exact ⟨n, rfl, h⟩
  rw [if_neg k4, if_neg k4]
  by_cases k5 : l.1 = 10
  · rw [if_pos k5, if_pos k5]; exact ⟨n, rfl, h⟩
  rw [if_neg k5, if_neg k5]
  by_cases k6 : l.1 = 11
  · rw [if_pos k6, if_pos k6]
    refine ⟨updn n (l.2.getD 0 0) (l.2.getD 1 0), rfl, fun j hj => ?_⟩
    show updn n (l.2.getD 0 0) (l.2.getD 1 0) j = updn B.2.1.2.2.2.2 (l.2.getD 0 0) (l.2.getD 1 0) j
    unfold updn
    split
    · rfl
    · exact h j hj
  rw [if_neg k6, if_neg k6]
  by_cases k7 : l.1 = 12
  · rw [if_pos k7, if_pos k7]; exact ⟨n, rfl, h⟩
  rw [if_neg k7, if_neg k7]
  exact ⟨n, rfl, h⟩
theorem foldD_rel : ∀ {r : List LN} {B : LSt} {n : Nat → Nat}, (∀ j, j < B.1.1 → n j = B.2.1.2.2.2.2 j) → okLs nx0 r B → ∃ n', foldD nxM r (mkM B n) = mkM (foldD nx0 r B) n' ∧ ∀ j, j < (foldD nx0 r B).1.1 → n' j = (foldD nx0 r B).2.1.2.2.2.2 j
  | [], B, n, h, _ => ⟨n, rfl, h⟩
  | l :: r, B, n, h, ho => by
    obtain ⟨n', e, h'⟩ := doL_rel h ho.1
    obtain ⟨n2, e2, h2⟩ := foldD_rel h' ho.2
    exact ⟨n2, by show foldD nxM r (doL nxM l (mkM B n)) = _; rw [e]; exact e2, h2⟩
theorem okD_fold {r : List LN} {B : LSt} (h : okLs nx0 r B) (hB : okD B) : okD (foldD nx0 r B) := by
  have := (okLs_at nx0_lt h hB r.length (Nat.le_refl _)).1
  rw [List.take_length] at this
  exact this
