abbrev KT : Type := Bool × Nat × Nat × (Nat → Nat) × YS
def ikA (a b : Bool) : Nat → Int32 := fun j => if j = 0 then bI a else if j = 1 then bI b else 0
theorem ikA_w0 (a b : Bool) (v : Bool) : upd (ikA a b) (nI 0).toNatClampNeg (vp_nar .boolean (bI v)) = ikA v b := by
  have e : vp_nar .boolean (bI v) = bI v := by cases v <;> rfl
  rw [e, show (nI 0).toNatClampNeg = 0 by decide]
  funext j
  unfold upd ikA
  by_cases h : j = 0 <;> simp [h]
theorem ikA_w1 (a b : Bool) (v : Bool) : upd (ikA a b) (nI 1).toNatClampNeg (vp_nar .boolean (bI v)) = ikA a v := by
  have e : vp_nar .boolean (bI v) = bI v := by cases v <;> rfl
  rw [e, show (nI 1).toNatClampNeg = 1 by decide]
  funext j
  unfold upd ikA
  by_cases h : j = 1
  · subst h; simp
  · simp [h]
def kpF (y z : Nat) : Nat → Option Nat := fun j => if j = 0 then some y else some z
def opKeep (cur : Nat × Nat × (Nat → Nat) × YS) (K0 K1 : KT) (x : Int32) : Int32 × KT × KT := match rn x 0 1 with
  | none => (-2, K0, K1)
  | some k => if k = 0 then (nI cur.2.1, (true, cur), K1) else (nI cur.2.1, K0, (true, cur))
def opBack (cur : Nat × Nat × (Nat → Nat) × YS) (en : Nat) (K0 K1 : KT) (x : Int32) : Int32 × (Nat × Nat × (Nat → Nat) × YS) × Nat := match rn x 0 1 with
  | none => (-2, cur, en)
  | some k => if k = 0 then (if K0.1 then (nI K0.2.2.1, K0.2, 0) else (-4, cur, en)) else (if K1.1 then (nI K1.2.2.1, K1.2, 0) else (-4, cur, en))
def gofP (nb : Nat) (kd tw wt : Nat → Nat) (t n f : Nat) : Nat → Nat
  | 0 => 0
  | b + 1 => if tw b = t then gofP nb kd tw wt t n f b + pnd (kd b) (fedI f (wt b) n) else gofP nb kd tw wt t n f b
def gof (nb : Nat) (kd tw wt rt : Nat → Nat) (t n p f : Nat) : Int32 := nI (gofP nb kd tw wt t n f nb * rt t) - nI (p * f * cntN (fun b => decide (tw b = t)) nb * n)
/-- the best food and what it comes to, of the first i -/
def payB (g : Nat → Int32) : Nat → Nat × Int32
  | 0 => (0, g 0)
  | i + 1 => if (payB g i).2 < g (i + 1) then (i + 1, g (i + 1)) else payB g i
def opPays (nt nb : Nat) (kd tw wt rt : Nat → Nat) (x y z v : Int32) : Int32 := match tn x nt with
  | none => -2
  | some t => match rn y 1 9 with
    | none => -3
    | some n => match rn z 0 99 with
      | none => -3
      | some p => match rn v 0 1 with
        | none => -3
        | some k => if k = 0 then nI (payB (gof nb kd tw wt rt t n p) 3).1 else nI 10000000 + (payB (gof nb kd tw wt rt t n p) 3).2
def opWeigh (nt nb sn : Nat) (st sb sw : Nat → Nat) (x y z : Int32) : Int32 × Nat × (Nat → Nat) × (Nat → Nat) × (Nat → Nat) := match tn x nt with
  | none => (-2, sn, st, sb, sw)
  | some t => match tn y nb with
    | none => (-2, sn, st, sb, sw)
    | some b => match rn z 0 199 with
      | none => (-3, sn, st, sb, sw)
      | some w => if 12 ≤ sn then (-5, sn, st, sb, sw) else (nI (sn + 1), sn + 1, updn st sn t, updn sb sn b, updn sw sn w)
def opRoad (dn : Nat) (dw dc : Nat → Nat) (x y : Int32) : Int32 × Nat × (Nat → Nat) × (Nat → Nat) := match rn x 1 99 with
  | none => (-3, dn, dw, dc)
  | some w => match rn y 0 3 with
    | none => (-3, dn, dw, dc)
    | some c => if 6 ≤ dn then (-5, dn, dw, dc) else (nI (dn + 1), dn + 1, updn dw dn w, updn dc dn c)
theorem fedI_in {f w : Nat} (h1 : 1 ≤ w) (h2 : w < 100) : ∀ n, 1 ≤ fedI f w n ∧ fedI f w n < 100
  | 0 => ⟨h1, h2⟩
  | n + 1 => ⟨(fed_in _ _).1, Nat.lt_succ_of_le (fed_in _ _).2⟩
theorem gofP_le {nb : Nat} {kd tw wt : Nat → Nat} {t n f : Nat} (h1 : ∀ j, j < nb → 1 ≤ wt j) (h2 : ∀ j, j < 10 → wt j < 100) (hn : nb ≤ 10) : ∀ b, b ≤ nb → gofP nb kd tw wt t n f b ≤ 100 * b
  | 0, _ => Nat.le_refl 0
  | b + 1, hb => by
    have ih := gofP_le (kd := kd) (tw := tw) (t := t) (n := n) (f := f) h1 h2 hn b (by omega)
    have h3 := (fedI_in (f := f) (h1 b (by omega)) (h2 b (by omega)) n).2
    have h4 := pnd_le (kd b) (fedI f (wt b) n)
    unfold gofP
    split <;> omega
