/-! The reference's rows: several of ours in one -/
def townF (cr rt fd : Nat → Nat) (wn : Nat → Int32) (nx : Nat → Nat) : Nat → Int32 := fun j => if j % 5 = 0 then nI (cr (j / 5)) else if j % 5 = 1 then nI (rt (j / 5)) else if j % 5 = 2 then nI (fd (j / 5)) else if j % 5 = 3 then wn (j / 5) else nI (nx (j / 5))
section TF
variable {cr rt fd nx : Nat → Nat} {wn : Nat → Int32}
theorem townF_0 (t : Nat) : townF cr rt fd wn nx (5 * t) = nI (cr t) := by
  unfold townF
  rw [if_pos (by omega), show 5 * t / 5 = t by omega]
theorem townF_1 (t : Nat) : townF cr rt fd wn nx (5 * t + 1) = nI (rt t) := by
  unfold townF
  rw [if_neg (by omega), if_pos (by omega), show (5 * t + 1) / 5 = t by omega]
theorem townF_2 (t : Nat) : townF cr rt fd wn nx (5 * t + 2) = nI (fd t) := by
  unfold townF
  rw [if_neg (by omega), if_neg (by omega), if_pos (by omega), show (5 * t + 2) / 5 = t by omega]
theorem townF_3 (t : Nat) : townF cr rt fd wn nx (5 * t + 3) = wn t := by
  unfold townF
  rw [if_neg (by omega), if_neg (by omega), if_neg (by omega), if_pos (by omega), show (5 * t + 3) / 5 = t by omega]
theorem townF_4 (t : Nat) : townF cr rt fd wn nx (5 * t + 4) = nI (nx t) := by
  unfold townF
  rw [if_neg (by omega), if_neg (by omega), if_neg (by omega), if_neg (by omega), show (5 * t + 4) / 5 = t by omega]
theorem townF_w0 (t v : Nat) : upd (townF cr rt fd wn nx) (5 * t) (nI v) = townF (updn cr t v) rt fd wn nx := by
  funext j
  simp only [upd, townF, updn]
  repeat' split
  all_goals first | rfl | omega
theorem townF_w1 (t v : Nat) : upd (townF cr rt fd wn nx) (5 * t + 1) (nI v) = townF cr (updn rt t v) fd wn nx := by
  funext j
  simp only [upd, townF, updn]
  repeat' split
  all_goals first | rfl | omega
theorem townF_w2 (t v : Nat) : upd (townF cr rt fd wn nx) (5 * t + 2) (nI v) = townF cr rt (updn fd t v) wn nx := by
  funext j
  simp only [upd, townF, updn]
  repeat' split
  all_goals first | rfl | omega
theorem townF_w3 (t : Nat) (v : Int32) : upd (townF cr rt fd wn nx) (5 * t + 3) v = townF cr rt fd (upd wn t v) nx := by
  funext j
  simp only [upd, townF, updn]
  repeat' split
  all_goals first | rfl | omega
theorem townF_w4 (t v : Nat) : upd (townF cr rt fd wn nx) (5 * t + 4) (nI v) = townF cr rt fd wn (updn nx t v) := by
  funext j
  simp only [upd, townF, updn]
  repeat' split
  all_goals first | rfl | omega
end TF
def nowF (tw wt sk gr : Nat → Nat) (ch : Nat → Int32) (yr : Nat) : Nat → Int32 := fun j => if j < 10 then nI (tw j) else if j < 20 then nI (wt (j - 10)) else if j < 30 then nI (sk (j - 20)) else if j < 40 then nI (gr (j - 30)) else if j < 46 then ch (j - 40) else if j = 46 then nI yr else 0
section NF
variable {tw wt sk gr : Nat → Nat} {ch : Nat → Int32} {yr : Nat}
theorem nowF_t {b : Nat} (h : b < 10) : nowF tw wt sk gr ch yr b = nI (tw b) := if_pos h
theorem nowF_w {b : Nat} (h : b < 10) : nowF tw wt sk gr ch yr (10 + b) = nI (wt b) := by
  unfold nowF
  rw [if_neg (by omega), if_pos (by omega), show 10 + b - 10 = b by omega]
theorem nowF_s {b : Nat} (h : b < 10) : nowF tw wt sk gr ch yr (20 + b) = nI (sk b) := by
  unfold nowF
  rw [if_neg (by omega), if_neg (by omega), if_pos (by omega), show 20 + b - 20 = b by omega]
theorem nowF_g {b : Nat} (h : b < 10) : nowF tw wt sk gr ch yr (30 + b) = nI (gr b) := by
  unfold nowF
  rw [if_neg (by omega), if_neg (by omega), if_neg (by omega), if_pos (by omega), show 30 + b - 30 = b by omega]
theorem nowF_c {t : Nat} (h : t < 6) : nowF tw wt sk gr ch yr (40 + t) = ch t := by
  unfold nowF
  rw [if_neg (by omega), if_neg (by omega), if_neg (by omega), if_neg (by omega), if_pos (by omega), show 40 + t - 40 = t by omega]
theorem nowF_y : nowF tw wt sk gr ch yr 46 = nI yr := by
  unfold nowF
  rw [if_neg (by omega), if_neg (by omega), if_neg (by omega), if_neg (by omega), if_neg (by omega), if_pos rfl]
theorem nowF_wt {b : Nat} (v : Nat) (h : b < 10) : upd (nowF tw wt sk gr ch yr) b (nI v) = nowF (updn tw b v) wt sk gr ch yr := by
  funext j
  simp only [upd, nowF, updn]
  repeat' split
  all_goals first | rfl | omega
theorem nowF_ww {b : Nat} (v : Nat) (h : b < 10) : upd (nowF tw wt sk gr ch yr) (10 + b) (nI v) = nowF tw (updn wt b v) sk gr ch yr := by
  funext j
  simp only [upd, nowF, updn]
  repeat' split
  all_goals first | rfl | omega
theorem nowF_ws {b : Nat} (v : Nat) (h : b < 10) : upd (nowF tw wt sk gr ch yr) (20 + b) (nI v) = nowF tw wt (updn sk b v) gr ch yr := by
  funext j
  simp only [upd, nowF, updn]
  repeat' split
  all_goals first | rfl | omega
theorem nowF_wg {b : Nat} (v : Nat) (h : b < 10) : upd (nowF tw wt sk gr ch yr) (30 + b) (nI v) = nowF tw wt sk (updn gr b v) ch yr := by
  funext j
  simp only [upd, nowF, updn]
  repeat' split
  all_goals first | rfl | omega
theorem nowF_wc {t : Nat} (v : Int32) (h : t < 6) : upd (nowF tw wt sk gr ch yr) (40 + t) v = nowF tw wt sk gr (upd ch t v) yr := by
  funext j
  simp only [upd, nowF, updn]
  repeat' split
  all_goals first | rfl | omega
end NF
theorem nowF_wy {tw wt sk gr : Nat → Nat} {ch : Nat → Int32} {yr : Nat} (v : Nat) : upd (nowF tw wt sk gr ch yr) 46 (nI v) = nowF tw wt sk gr ch v := by
  funext j
  simp only [upd, nowF]
  repeat' split
  all_goals first | rfl | omega
/-- the balance as the reference sums it -/
def balM (g : Nat → Option Nat) (kd tw wt rt : Nat → Nat) (t : Nat) : Nat → Int32
  | 0 => nI 0
  | b + 1 => match g b with
    | none => balM g kd tw wt rt t b
    | some o => (balM g kd tw wt rt t b + (if o = t then nI (worN kd tw wt rt b) else nI 0)) - (if tw b = t then nI (worN kd tw wt rt b) else nI 0)
def cmM (g : Nat → Option Nat) (tw : Nat → Nat) (t : Nat) : Nat → Int32
  | 0 => nI 0
  | b + 1 => match g b with
    | none => cmM g tw t b
    | some o => (cmM g tw t b + (if o = t then nI 1 else nI 0)) - (if tw b = t then nI 1 else nI 0)
def twO (g : Nat → Option Nat) (tw : Nat → Nat) : Nat → Nat := fun b => match g b with
  | none => tw b
  | some o => o
def gsT (S : Nat → Option Nat) (nx : Nat → Nat) : Nat → (Nat → Option Nat)
  | 0 => fun _ => none
  | t + 1 => match S t with
    | none => gsT S nx t
    | some b => updO (gsT S nx t) b (some (nx t))
theorem gsT_lt {S : Nat → Option Nat} {nx : Nat → Nat} {nt : Nat} (h : ∀ t, t < nt → nx t < 6) : ∀ t, t ≤ nt → ∀ b o, gsT S nx t b = some o → o < 6
  | 0, _, b, o, ho => by simp [gsT] at ho
  | t + 1, ht, b, o, ho => by
    rw [gsT] at ho
    cases hS : S t with
    | none => rw [hS] at ho; exact gsT_lt h t (by omega) b o ho
    | some c =>
      rw [hS] at ho
      have ho : updO (gsT S nx t) c (some (nx t)) b = some o := ho
      unfold updO at ho
      by_cases hb : b = c
      · rw [if_pos hb] at ho; cases ho; exact h t (by omega)
      · rw [if_neg hb] at ho; exact gsT_lt h t (by omega) b o ho
theorem oI_ne {o : Option Nat} {b : Nat} (h : o = some b) (hb : b < 2147483648) : ¬ oI o = -1 := by rw [h]; exact nI_m1 hb
