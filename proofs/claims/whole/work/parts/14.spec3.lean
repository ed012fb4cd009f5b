theorem g_loopG {E : EN} {M : MF} {σ : Type} (n : Nat) (I : Nat → σ → Prop) (wF : Nat → σ → va_W) (lF : Nat → σ → List (Nat × Value)) {pc : Nat} {st : List Value} (step : ∀ i s, i < n → I i s → (∀ s', I (i + 1) s' → G E M (wF (i + 1) s') pc (lF (i + 1) s') st) → G E M (wF i s) pc (lF i s) st) (exit : ∀ s, I n s → G E M (wF n s) pc (lF n s) st) : ∀ i, i ≤ n → ∀ s, I i s → G E M (wF i s) pc (lF i s) st := by
  have h : ∀ k i, i + k = n → ∀ s, I i s → G E M (wF i s) pc (lF i s) st := by
    intro k
    induction k with
    | zero => intro i hi; have e : i = n := hi; subst e; exact exit
    | succ k ih => intro i hi s hs; exact step i s (by omega) hs (ih (i + 1) (by omega))
  exact fun i hi => h (n - i) i (by omega)
theorem g_loopI {E : EN} {M : MF} (n : Nat) (I : Nat → Prop) (wF : Nat → va_W) (lF : Nat → List (Nat × Value)) {pc : Nat} {st : List Value} (step : ∀ i, i < n → I i → (I (i + 1) → G E M (wF (i + 1)) pc (lF (i + 1)) st) → G E M (wF i) pc (lF i) st) (exit : I n → G E M (wF n) pc (lF n) st) : ∀ i, i ≤ n → I i → G E M (wF i) pc (lF i) st := fun i hi h => g_loopG (σ := Unit) n (fun i _ => I i) (fun i _ => wF i) (fun i _ => lF i) (fun i _ h1 h2 h3 => step i h1 h2 (fun h => h3 () h)) (fun _ h => exit h) i hi () h
def mpN (g f : Nat → Nat) (i : Nat) : Nat → Nat := fun b => if b < i then g b else f b
theorem mpN_0 (g f : Nat → Nat) : mpN g f 0 = f := by funext b; simp [mpN]
theorem mpN_at (g f : Nat → Nat) (i : Nat) : mpN g f i i = f i := if_neg (Nat.lt_irrefl i)
theorem mpN_s (g f : Nat → Nat) (i : Nat) : mpN g f (i + 1) = updn (mpN g f i) i (g i) := by
  funext t
  unfold mpN updn
  by_cases h : t = i
  · subst h; simp
  · by_cases h2 : t < i
    · simp [h, h2, Nat.lt_succ_of_lt h2]
    · have h3 : ¬ t < i + 1 := by omega
      simp [h, h2, h3]
theorem mpN_lt {g f : Nat → Nat} {i n : Nat} (h : i < n) : mpN g f n i = g i := if_pos h
theorem updn_id (f : Nat → Nat) (k : Nat) : updn f k (f k) = f := by
  funext j
  by_cases h : j = k
  · subst h; exact updn_s
  · exact updn_n h
def mpR (g : Nat → Int32) (f : Nat → Int32) (i : Nat) : Nat → Int32 := fun b => if b < i then g b else f b
theorem mpR_0 (g f : Nat → Int32) : mpR g f 0 = f := by funext b; simp [mpR]
theorem mpR_at (g f : Nat → Int32) (i : Nat) : mpR g f i i = f i := if_neg (Nat.lt_irrefl i)
theorem mpR_lt {g f : Nat → Int32} {i n : Nat} (h : i < n) : mpR g f n i = g i := if_pos h
theorem mpR_s (g f : Nat → Int32) (i : Nat) : mpR g f (i + 1) = upd (mpR g f i) i (g i) := by
  funext t
  unfold mpR upd
  by_cases h : t = i
  · subst h; simp
  · by_cases h2 : t < i
    · simp [h, h2, Nat.lt_succ_of_lt h2]
    · have h3 : ¬ t < i + 1 := by omega
      simp [h, h2, h3]
def lenT (S : Nat → Option Nat) (nx tw : Nat → Nat) : Nat → (Nat → Nat)
  | 0 => tw
  | t + 1 => match S t with
    | none => lenT S nx tw t
    | some b => updn (lenT S nx tw t) b (nx t)
def lenC (S : Nat → Option Nat) (kd wt rt nx tw : Nat → Nat) (ch : Nat → Int32) : Nat → (Nat → Int32)
  | 0 => ch
  | t + 1 => match S t with
    | none => lenC S kd wt rt nx tw ch t
    | some b => upd (upd (lenC S kd wt rt nx tw ch t) t (lenC S kd wt rt nx tw ch t t + nI (pnd (kd b) (wt b) * rt (lenT S nx tw t b)))) (nx t) (upd (lenC S kd wt rt nx tw ch t) t (lenC S kd wt rt nx tw ch t t + nI (pnd (kd b) (wt b) * rt (lenT S nx tw t b))) (nx t) - nI (pnd (kd b) (wt b) * rt (lenT S nx tw t b)))
theorem lenT_lt {S : Nat → Option Nat} {nx tw : Nat → Nat} {nt : Nat} (hnx : ∀ t, t < nt → nx t < 6) (htw : ∀ j, j < 10 → tw j < 6) : ∀ t, t ≤ nt → ∀ j, j < 10 → lenT S nx tw t j < 6
  | 0, _, j, hj => htw j hj
  | t + 1, ht, j, hj => by
    rw [lenT]
    rcases S t with _ | b
    · exact lenT_lt hnx htw t (by omega) j hj
    · show updn (lenT S nx tw t) b (nx t) j < 6
      by_cases h : j = b
      · subst h; rw [updn_s]; exact hnx t (by omega)
      · rw [updn_n h]; exact lenT_lt hnx htw t (by omega) j hj
/-- what years change: town, weight, skill, grade, cheese -/
abbrev YS : Type := (Nat → Nat) × (Nat → Nat) × (Nat → Nat) × (Nat → Nat) × (Nat → Int32)
abbrev LG : Type := (Nat × Nat × Nat) × (Nat → Nat) × (Nat → Nat) × (Nat → Nat) × (Nat → Nat) × (Nat → Nat)
-- ((nb, nt, lw), kd, cr, rt, fd, nx)
def yW (P : LG) (s : YS) : Nat → Nat := mpN (fun b => fed (s.2.1 b) (P.2.2.2.2.1 (s.1 b))) s.2.1 P.1.1
def yS (P : LG) (s : YS) : Nat → Nat := mpN (fun b => trS (s.2.2.1 b) (s.2.2.2.1 b) (P.2.2.1 (s.1 b))) s.2.2.1 P.1.1
def yG (P : LG) (s : YS) : Nat → Nat := mpN (fun b => trG (P.2.1 b) (s.2.2.1 b) (s.2.2.2.1 b) (P.2.2.1 (s.1 b))) s.2.2.2.1 P.1.1
def ySent (P : LG) (s : YS) : Nat → Option Nat := fun t => bst P.1.2.2 P.2.1 s.1 (yW P s) (yG P s) t P.1.1
def yT (P : LG) (s : YS) : Nat → Nat := if P.1.2.2 = 3 then s.1 else lenT (ySent P s) P.2.2.2.2.2 s.1 P.1.2.1
def yC (P : LG) (s : YS) : Nat → Int32 := if P.1.2.2 = 3 then s.2.2.2.2 else lenC (ySent P s) P.2.1 (yW P s) P.2.2.2.1 P.2.2.2.2.2 s.1 s.2.2.2.2 P.1.2.1
def year1 (P : LG) (s : YS) : YS := (yT P s, yW P s, yS P s, yG P s, yC P s)
def years (P : LG) : Nat → YS → YS
  | 0, s => s
  | n + 1, s => year1 P (years P n s)
def snY (P : LG) (s : YS) (sn : Nat → Int32) : Nat → (Nat → Int32)
  | 0 => sn
  | n + 1 => if P.1.2.2 = 3 then snY P s sn n else oA (ySent P (years P n s))
def okL (P : LG) : Prop := P.1.1 ≤ 10 ∧ P.1.2.1 ≤ 6 ∧ P.1.2.2 < 4 ∧ (∀ j, j < 10 → P.2.1 j < 4) ∧ (∀ j, j < 6 → P.2.2.1 j < 4) ∧ (∀ j, j < 6 → P.2.2.2.1 j < 10) ∧ (∀ j, j < 6 → P.2.2.2.2.1 j < 4) ∧ (∀ j, j < P.1.2.1 → P.2.2.2.2.2 j < P.1.2.1)
def okY (s : YS) : Prop := (∀ j, j < 10 → s.1 j < 6) ∧ (∀ j, j < 10 → s.2.1 j < 100) ∧ (∀ j, j < 10 → s.2.2.1 j < 4) ∧ (∀ j, j < 10 → s.2.2.2.1 j < 10)
def okB (nb : Nat) (nt : Nat) (s : YS) : Prop := (∀ j, j < nb → s.1 j < nt) ∧ (∀ j, j < nb → 1 ≤ s.2.1 j)
theorem trS_lt {s g c n : Nat} (h1 : s < n) (h2 : c < n) : trS s g c < n := by unfold trS; split <;> (try split) <;> assumption
theorem trG_lt {k s g c : Nat} (h : g < 10) : trG k s g c < 10 := by unfold trG; split <;> omega
theorem lenT_nt {S : Nat → Option Nat} {nx tw : Nat → Nat} {nb nt : Nat} (hnx : ∀ t, t < nt → nx t < nt) (htw : ∀ j, j < nb → tw j < nt) : ∀ t, t ≤ nt → ∀ j, j < nb → lenT S nx tw t j < nt
  | 0, _, j, hj => htw j hj
  | t + 1, ht, j, hj => by
    rw [lenT]
    rcases S t with _ | b
    · exact lenT_nt hnx htw t (by omega) j hj
    · show updn (lenT S nx tw t) b (nx t) j < nt
      by_cases h : j = b
      · subst h; rw [updn_s]; exact hnx t (by omega)
      · rw [updn_n h]; exact lenT_nt hnx htw t (by omega) j hj
theorem year1_ok {P : LG} {s : YS} (hP : okL P) (hY : okY s) (hB : okB P.1.1 P.1.2.1 s) : okY (year1 P s) ∧ okB P.1.1 P.1.2.1 (year1 P s) := by
  obtain ⟨p1, p2, p3, p4, p5, p6, p7, p8⟩ := hP
  obtain ⟨y1, y2, y3, y4⟩ := hY
  obtain ⟨b1, b2⟩ := hB
  refine ⟨⟨?_, ?_, ?_, ?_⟩, ?_, ?_⟩
  · intro j hj
    show yT P s j < 6
    unfold yT
    split
    · exact y1 j hj
    · exact lenT_lt (fun t ht => Nat.lt_of_lt_of_le (p8 t ht) p2) y1 _ (Nat.le_refl _) j hj
  · intro j hj
    show yW P s j < 100
    unfold yW mpN
    split
    · exact Nat.lt_succ_of_le (fed_in (s.2.1 j) (P.2.2.2.2.1 (s.1 j))).2
    · exact y2 j hj
  · intro j hj
    show yS P s j < 4
    unfold yS mpN
    split
    · exact trS_lt (y3 j hj) (p5 _ (y1 j hj))
    · exact y3 j hj
  · intro j hj
    show yG P s j < 10
    unfold yG mpN
    split
    · exact trG_lt (y4 j hj)
    · exact y4 j hj
  · intro j hj
    show yT P s j < _
    unfold yT
    split
    · exact b1 j hj
    · exact lenT_nt p8 b1 _ (Nat.le_refl _) j hj
  · intro j hj
    show 1 ≤ yW P s j
    unfold yW mpN
    rw [if_pos hj]
    exact (fed_in _ _).1
theorem years_ok {P : LG} {s : YS} (hP : okL P) (hY : okY s) (hB : okB P.1.1 P.1.2.1 s) : ∀ n, okY (years P n s) ∧ okB P.1.1 P.1.2.1 (years P n s)
  | 0 => ⟨hY, hB⟩
  | n + 1 => year1_ok hP (years_ok hP hY hB n).1 (years_ok hP hY hB n).2
theorem g_less {E : EN} {M : MF} {ws : va_W} {pc : Nat} {lv lv' : List (Nat × Value)} {st : List Value} (k : Nat) (h : lv.take k = lv') (g : G E M ws pc lv' st) : G E M ws pc lv st := by
  subst h
  intro p e s m args below meth c C H locs ls hP hD hS hl
  exact g p e s m args below meth c C H locs ls hP hD hS ⟨hl.1, hl.2.1, fun q hq => hl.2.2 q (List.mem_of_mem_take hq)⟩
theorem nI_m1 {m : Nat} (h : m < 2147483648) : ¬ nI m = -1 := fun e => by
  have h1 := congrArg Int32.toInt e
  rw [nI_toInt h] at h1
  have h2 : (-1 : Int32).toInt = -1 := by decide
  rw [h2] at h1
  omega
