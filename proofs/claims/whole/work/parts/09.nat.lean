/-! Rows over numbers that are naturals: nI n -/
abbrev nA (f : Nat → Nat) : Nat → Int32 := fun j => nI (f j)
def updn (f : Nat → Nat) (k v : Nat) : Nat → Nat := fun j => if j = k then v else f j
theorem updn_s {f : Nat → Nat} {k v : Nat} : updn f k v k = v := if_pos rfl
theorem updn_n {f : Nat → Nat} {k v j : Nat} (h : j ≠ k) : updn f k v j = f j := if_neg h
theorem upd_nA (f : Nat → Nat) (k v : Nat) : upd (nA f) k (nI v) = nA (updn f k v) := by
  funext j
  by_cases h : j = k
  · subst h; simp [upd, nA, updn]
  · simp [upd, nA, updn, h]
theorem ixIn {i : Int32} {j n : Nat} (e : i = nI j) (h : j < n) (hn : n < 2147483648) : vp_in i n := by rw [e]; exact vp_in_nI h hn
theorem ixV {f : Nat → Int32} {i : Int32} {j : Nat} (e : i = nI j) (h : j < 2147483648) : f i.toNatClampNeg = f j := by rw [e, nI_clamp h]
theorem ixU {f : Nat → Int32} {i x : Int32} {j : Nat} (e : i = nI j) (h : j < 2147483648) : upd f i.toNatClampNeg x = upd f j x := by rw [e, nI_clamp h]
theorem ixUn {f : Nat → Nat} {i : Int32} {j v : Nat} (e : i = nI j) (h : j < 2147483648) : upd (nA f) i.toNatClampNeg (nI v) = nA (updn f j v) := by rw [e, nI_clamp h, upd_nA]
theorem nI_inc (a : Nat) : nI a + Int32.ofInt 1 = nI (a + 1) := by
  rw [show Int32.ofInt 1 = (1 : Int32) by decide]; exact nI_1 a
theorem nI_incI (x : Int32) : x + Int32.ofInt 1 = x + 1 := by rw [show Int32.ofInt 1 = (1 : Int32) by decide]
theorem vp_lt {x : Int32} {n : Nat} (h : vp_in x n) : x.toNatClampNeg < n := Nat.not_le.mp fun q => h (Or.inr q)
section GN
variable {E : EN} {M : MF} {ws : va_W} {pc q : Nat} {lv : List (Nat × Value)} {st : List Value}
theorem g_iaddN {a b : Nat} (hdg : decode M.1.2.1 pc = .ok (.iadd, 1)) (hq : pc + 1 = q) (k : G E M ws q lv (.int (nI (a + b)) :: st)) : G E M ws pc lv (.int (nI b) :: .int (nI a) :: st) := g_iadd hdg hq (by rw [nI_add]; exact k)
theorem g_imulN {a b : Nat} (hdg : decode M.1.2.1 pc = .ok (.imul, 1)) (hq : pc + 1 = q) (k : G E M ws q lv (.int (nI (a * b)) :: st)) : G E M ws pc lv (.int (nI b) :: .int (nI a) :: st) := g_imul hdg hq (by rw [pk_mul]; exact k)
theorem g_isubN {a b : Nat} (hdg : decode M.1.2.1 pc = .ok (.isub, 1)) (hq : pc + 1 = q) (h : b ≤ a) (k : G E M ws q lv (.int (nI (a - b)) :: st)) : G E M ws pc lv (.int (nI b) :: .int (nI a) :: st) := g_isub hdg hq (by rw [pk_sub h]; exact k)
theorem g_icmp_eqN {a b : Nat} {off : Int} {t : Nat} (hdg : decode M.1.2.1 pc = .ok (.if_icmp .eq off, 3)) (ht : (pc : Int) + off = (t : Int)) (hq : pc + 3 = q) (ha : a < 2147483648) (hb : b < 2147483648) (kt : a = b → G E M ws t lv st) (kf : ¬ a = b → G E M ws q lv st) : G E M ws pc lv (.int (nI b) :: .int (nI a) :: st) := g_icmp_eq hdg ht hq (fun h => kt ((nI_eq ha hb).mp h)) (fun h => kf (fun z => h ((nI_eq ha hb).mpr z)))
theorem g_icmp_neN {a b : Nat} {off : Int} {t : Nat} (hdg : decode M.1.2.1 pc = .ok (.if_icmp .ne off, 3)) (ht : (pc : Int) + off = (t : Int)) (hq : pc + 3 = q) (ha : a < 2147483648) (hb : b < 2147483648) (kt : ¬ a = b → G E M ws t lv st) (kf : a = b → G E M ws q lv st) : G E M ws pc lv (.int (nI b) :: .int (nI a) :: st) := g_icmp_ne hdg ht hq (fun h => kt (fun z => h ((nI_eq ha hb).mpr z))) (fun h => kf ((nI_eq ha hb).mp h))
theorem g_icmp_ltN {a b : Nat} {off : Int} {t : Nat} (hdg : decode M.1.2.1 pc = .ok (.if_icmp .lt off, 3)) (ht : (pc : Int) + off = (t : Int)) (hq : pc + 3 = q) (ha : a < 2147483648) (hb : b < 2147483648) (kt : a < b → G E M ws t lv st) (kf : ¬ a < b → G E M ws q lv st) : G E M ws pc lv (.int (nI b) :: .int (nI a) :: st) := g_icmp_lt hdg ht hq (fun h => kt ((nI_ltI ha hb).mp h)) (fun h => kf (fun z => h ((nI_ltI ha hb).mpr z)))
theorem g_icmp_geN {a b : Nat} {off : Int} {t : Nat} (hdg : decode M.1.2.1 pc = .ok (.if_icmp .ge off, 3)) (ht : (pc : Int) + off = (t : Int)) (hq : pc + 3 = q) (ha : a < 2147483648) (hb : b < 2147483648) (kt : b ≤ a → G E M ws t lv st) (kf : ¬ b ≤ a → G E M ws q lv st) : G E M ws pc lv (.int (nI b) :: .int (nI a) :: st) := g_icmp_ge hdg ht hq (fun h => kt ((nI_leI hb ha).mp h)) (fun h => kf (fun z => h ((nI_leI hb ha).mpr z)))
theorem g_icmp_gtN {a b : Nat} {off : Int} {t : Nat} (hdg : decode M.1.2.1 pc = .ok (.if_icmp .gt off, 3)) (ht : (pc : Int) + off = (t : Int)) (hq : pc + 3 = q) (ha : a < 2147483648) (hb : b < 2147483648) (kt : b < a → G E M ws t lv st) (kf : ¬ b < a → G E M ws q lv st) : G E M ws pc lv (.int (nI b) :: .int (nI a) :: st) := g_icmp_gt hdg ht hq (fun h => kt ((nI_ltI hb ha).mp h)) (fun h => kf (fun z => h ((nI_ltI hb ha).mpr z)))
theorem g_icmp_leN {a b : Nat} {off : Int} {t : Nat} (hdg : decode M.1.2.1 pc = .ok (.if_icmp .le off, 3)) (ht : (pc : Int) + off = (t : Int)) (hq : pc + 3 = q) (ha : a < 2147483648) (hb : b < 2147483648) (kt : a ≤ b → G E M ws t lv st) (kf : ¬ a ≤ b → G E M ws q lv st) : G E M ws pc lv (.int (nI b) :: .int (nI a) :: st) := g_icmp_le hdg ht hq (fun h => kt ((nI_leI ha hb).mp h)) (fun h => kf (fun z => h ((nI_leI ha hb).mpr z)))
theorem g_if_eqN {a : Nat} {off : Int} {t : Nat} (hdg : decode M.1.2.1 pc = .ok (.ifCond .eq off, 3)) (ht : (pc : Int) + off = (t : Int)) (hq : pc + 3 = q) (ha : a < 2147483648) (kt : a = 0 → G E M ws t lv st) (kf : ¬ a = 0 → G E M ws q lv st) : G E M ws pc lv (.int (nI a) :: st) := g_if_eq hdg ht hq (fun h => kt ((nI_eq ha (by decide)).mp (h.trans nI_0.symm))) (fun h => kf (fun z => h (by rw [z]; exact nI_0)))
theorem g_if_neN {a : Nat} {off : Int} {t : Nat} (hdg : decode M.1.2.1 pc = .ok (.ifCond .ne off, 3)) (ht : (pc : Int) + off = (t : Int)) (hq : pc + 3 = q) (ha : a < 2147483648) (kt : ¬ a = 0 → G E M ws t lv st) (kf : a = 0 → G E M ws q lv st) : G E M ws pc lv (.int (nI a) :: st) := g_if_ne hdg ht hq (fun h => kt (fun z => h (by rw [z]; exact nI_0))) (fun h => kf ((nI_eq ha (by decide)).mp (h.trans nI_0.symm)))
theorem g_mmaxN {own : String} {index a b : Nat} (hown : M.1.1 = own) (hlink : Cond.methodLink own index Lib.Math.max.name ∈ TB) (hd : 1 ≤ M.2.1.2) (hroom : (st.map fun v => v.category).sum + 13 ≤ 64 * M.2.1.2) (ha : a < 2147483648) (hb : b < 2147483648) (hdg : decode M.1.2.1 pc = .ok (.invokestatic index, 3)) (hq : pc + 3 = q) (k : G E M ws q lv (.int (nI (max a b)) :: st)) : G E M ws pc lv (.int (nI b) :: .int (nI a) :: st) := g_mmax hown hlink mt_mmax mi_J9 mc_mmax hd hroom hdg hq (by
  have e : (if nI a < nI b then nI b else nI a) = nI (max a b) := by
    by_cases h : a < b
    · rw [if_pos ((nI_ltI ha hb).mpr h), Nat.max_eq_right (Nat.le_of_lt h)]
    · rw [if_neg (fun z => h ((nI_ltI ha hb).mp z)), Nat.max_eq_left (Nat.not_lt.mp h)]
  rw [e]; exact k)
theorem g_mminN {own : String} {index a b : Nat} (hown : M.1.1 = own) (hlink : Cond.methodLink own index Lib.Math.min.name ∈ TB) (hd : 1 ≤ M.2.1.2) (hroom : (st.map fun v => v.category).sum + 13 ≤ 64 * M.2.1.2) (ha : a < 2147483648) (hb : b < 2147483648) (hdg : decode M.1.2.1 pc = .ok (.invokestatic index, 3)) (hq : pc + 3 = q) (k : G E M ws q lv (.int (nI (min a b)) :: st)) : G E M ws pc lv (.int (nI b) :: .int (nI a) :: st) := g_mmin hown hlink mt_mmin mi_J9 mc_mmin hd hroom hdg hq (by
  have e : (if nI b < nI a then nI b else nI a) = nI (min a b) := by
    by_cases h : b < a
    · rw [if_pos ((nI_ltI hb ha).mpr h), Nat.min_eq_right (Nat.le_of_lt h)]
    · rw [if_neg (fun z => h ((nI_ltI hb ha).mp z)), Nat.min_eq_left (Nat.not_lt.mp h)]
  rw [e]; exact k)
theorem g_grldN {j : Nat} (hj : j < 4) (hdg : decode M.1.2.1 pc = .ok (.iaload, 1)) (hq : pc + 1 = q) (k : G E M ws q lv (.int (grF j) :: st)) : G E M ws pc lv (.int (nI j) :: .ref E.2.2.1.1 :: st) := g_grld (vp_in_nI hj (by decide)) hdg hq (by rw [nI_clamp (by omega)]; exact k)
theorem g_koldN {j : Nat} (hj : j < 5) (hdg : decode M.1.2.1 pc = .ok (.iaload, 1)) (hq : pc + 1 = q) (k : G E M ws q lv (.int (koF j) :: st)) : G E M ws pc lv (.int (nI j) :: .ref E.2.2.1.2 :: st) := g_kold (vp_in_nI hj (by decide)) hdg hq (by rw [nI_clamp (by omega)]; exact k)
theorem arrV_cong {cA : ClassId} {n : Nat} {f g : Nat → Value} (h : ∀ j, j < n → f j = g j) : arrV cA n f = arrV cA n g := by
  have e : (Array.ofFn fun j : Fin n => f j) = (Array.ofFn fun j : Fin n => g j) := by
    congr 1
    funext j
    exact h j j.isLt
  first
    | (unfold arrV; congr 1; done)
    | (unfold arrV; simp only [e])
    | (unfold arrV; congr 1; apply Array.ext <;> simp_all)
theorem g_cong {ws' : va_W} {a n : Nat} {cA : ClassId} {f : Nat → Int32} (g : Nat → Int32) (p0 : Nat) (he : ws[p0]? = some (a, .inl (cA, n, .inl f))) (h : ∀ j, j < n → f j = g j) (hws : ws.set p0 (a, .inl (cA, n, .inl g)) = ws') (k : G E M ws' pc lv st) : G E M ws pc lv st := by
  subst hws
  intro p e s m args below meth c C H locs ls hP hD hS hl
  refine k p e s m args below meth c C H locs ls ?_ (hD.set he) hS hl
  refine hP.set hD he ?_ (fun q _ => rfl)
  have h1 := hP p0 _ he
  show H[a]? = some (vp_cell cA (n, .inl g))
  rw [vp_cell_i, ← arrV_cong (cA := cA) (n := n) (f := fun j => .int (f j)) (fun j hj => by rw [h j hj])]
  exact h1
theorem g_copyW {ws' : va_W} {own : String} {index a a0 n : Nat} {f g : Nat → Int32} (hown : M.1.1 = own) (hlink : Cond.methodLink own index arraycopyName ∈ TB) (q0 q1 : Nat) (ha0 : ws[q0]? = some (a0, .inl (E.2.1.1, n, .inl f))) (ha1 : ws[q1]? = some (a, .inl (E.2.1.1, n, .inl g))) (hn : n < 2147483648) (hz : ¬ nI n < 0) (hd : 1 ≤ M.2.1.2) (hroom : (st.map fun v => v.category).sum + (nativeFrameWords "java/lang/System" "arraycopy" 5 + 11) ≤ 64 * M.2.1.2)
    (hws : ws.set q1 (a, .inl (E.2.1.1, n, .inl f)) = ws') (hdg : decode M.1.2.1 pc = .ok (.invokestatic index, 3)) (hq : pc + 3 = q) (k : G E M ws' q lv st) : G E M ws pc lv (.int (nI n) :: .int (nI 0) :: .ref a :: .int (nI 0) :: .ref a0 :: st) := by
  have z0 : (nI 0).toNatClampNeg = 0 := by decide
  have zn : (nI n).toNatClampNeg = n := nI_clamp hn
  refine g_copy (index := index) (ws' := ws.set q1 (a, .inl (E.2.1.1, n, .inl (va_cpy f g 0 0 n)))) hown hlink mv_copy mt_copy mi_J10 q0 q1 ha0 ha1 (by decide) (by decide) hz (by rw [z0, zn]; omega) (by rw [z0, zn]; omega) hd hroom (by rw [z0, zn]) rfl hdg hq ?_
  have hl : q1 < ws.length := (List.getElem?_eq_some_iff.mp ha1).1
  refine g_cong (f := va_cpy f g 0 0 n) (a := a) (n := n) (cA := E.2.1.1) f q1 (by rw [List.getElem?_set, if_pos rfl, if_pos hl]) (fun j hj => sb_cpy0 hj) (by rw [List.set_set]; exact hws) k
end GN
theorem narZ {x : Int32} (h : x = 0 ∨ x = 1) : narrow .boolean (.int x) = .int x := by rcases h with rfl | rfl <;> rfl
theorem xr {ws w0 : va_W} {v r : Int32} (h : v = r) (h2 : ws = w0 := by rfl) : xQ (some (.int r)) w0 (some (.int v)) ws := by rw [h, h2]; exact ⟨rfl, rfl⟩
theorem xv {ws w0 : va_W} (h2 : ws = w0 := by rfl) : xQ none w0 none ws := ⟨rfl, h2⟩
def bI (b : Bool) : Int32 := if b then 1 else 0
theorem bI_01 (b : Bool) : bI b = 0 ∨ bI b = 1 := by cases b <;> simp [bI]
theorem g_idivN {E : EN} {M : MF} {ws : va_W} {pc q : Nat} {lv : List (Nat × Value)} {st : List Value} {a d : Nat} (hdg : decode M.1.2.1 pc = .ok (.idiv, 1)) (hq : pc + 1 = q) (ha : a < 2147483648) (h0 : 0 < d) (hd : d < 2147483648) (k : G E M ws q lv (.int (nI (a / d)) :: st)) : G E M ws pc lv (.int (nI d) :: .int (nI a) :: st) := g_idiv hdg hq (nI_ne0 h0 hd) (by rw [pk_div ha h0 hd]; exact k)
theorem g_iremN {E : EN} {M : MF} {ws : va_W} {pc q : Nat} {lv : List (Nat × Value)} {st : List Value} {a d : Nat} (hdg : decode M.1.2.1 pc = .ok (.irem, 1)) (hq : pc + 1 = q) (ha : a < 2147483648) (h0 : 0 < d) (hd : d < 2147483648) (k : G E M ws q lv (.int (nI (a % d)) :: st)) : G E M ws pc lv (.int (nI d) :: .int (nI a) :: st) := g_irem hdg hq (nI_ne0 h0 hd) (by rw [pk_rem ha h0 hd]; exact k)
def ninB (x a b : Int32) : Bool := decide (x < a) || decide (b < x)
/-- x as a natural from a to b -/
def rn (x : Int32) (a b : Nat) : Option Nat := if (a : Int) ≤ x.toInt ∧ x.toInt ≤ (b : Int) then some x.toInt.toNat else none
def tn (x : Int32) (n : Nat) : Option Nat := if 0 ≤ x.toInt ∧ x.toInt < (n : Int) then some x.toInt.toNat else none
theorem nI_lt_iff {x : Int32} {a : Nat} (ha : a < 2147483648) : x < nI a ↔ x.toInt < (a : Int) := by rw [Int32.lt_iff_toInt_lt, nI_toInt ha]
theorem nI_gt_iff {x : Int32} {a : Nat} (ha : a < 2147483648) : nI a < x ↔ (a : Int) < x.toInt := by rw [Int32.lt_iff_toInt_lt, nI_toInt ha]
theorem ninB_rn {x : Int32} {a b : Nat} (ha : a < 2147483648) (hb : b < 2147483648) : ninB x (nI a) (nI b) = (rn x a b).isNone := by
  unfold ninB rn
  by_cases h : (a : Int) ≤ x.toInt ∧ x.toInt ≤ (b : Int)
  · rw [if_pos h]
    have h1 : ¬ x < nI a := fun z => by have := (nI_lt_iff ha).mp z; omega
    have h2 : ¬ nI b < x := fun z => by have := (nI_gt_iff hb).mp z; omega
    simp [h1, h2]
  · rw [if_neg h]
    by_cases h1 : x < nI a
    · simp [h1]
    · have h2 : nI b < x := (nI_gt_iff hb).mpr (by
        have : ¬ x.toInt < (a : Int) := fun z => h1 ((nI_lt_iff ha).mpr z)
        omega)
      simp [h2]
theorem ninB_tn {x : Int32} {n : Nat} (h0 : 1 ≤ n) (hn : n < 2147483648) : ninB x (nI 0) (nI (n - 1)) = (tn x n).isNone := by
  rw [ninB_rn (by decide) (by omega)]
  unfold rn tn
  have e : ((0 : Nat) : Int) ≤ x.toInt ∧ x.toInt ≤ ((n - 1 : Nat) : Int) ↔ 0 ≤ x.toInt ∧ x.toInt < (n : Int) := by omega
  by_cases h : 0 ≤ x.toInt ∧ x.toInt < (n : Int)
  · rw [if_pos h, if_pos (e.mpr h)]
  · rw [if_neg h, if_neg (fun z => h (e.mp z))]
theorem ofInt_toInt' (x : Int32) (h : 0 ≤ x.toInt) : x = nI x.toInt.toNat := by
  apply Int32.toInt_inj.mp
  have hb : x.toInt.toNat < 2147483648 := by have := x.toInt_lt; omega
  rw [nI_toInt hb]
  omega
theorem tn_some {x : Int32} {n j : Nat} (h : tn x n = some j) : j < n ∧ x = nI j := by
  unfold tn at h
  by_cases hc : 0 ≤ x.toInt ∧ x.toInt < (n : Int)
  · rw [if_pos hc] at h
    cases h
    exact ⟨by omega, ofInt_toInt' x hc.1⟩
  · rw [if_neg hc] at h; cases h
theorem rn_some {x : Int32} {a b j : Nat} (h : rn x a b = some j) : a ≤ j ∧ j ≤ b ∧ x = nI j := by
  unfold rn at h
  by_cases hc : (a : Int) ≤ x.toInt ∧ x.toInt ≤ (b : Int)
  · rw [if_pos hc] at h
    cases h
    exact ⟨by omega, by omega, ofInt_toInt' x (by omega)⟩
  · rw [if_neg hc] at h; cases h
theorem tn_nI {n j : Nat} (h : j < n) (hn : n < 2147483648) : tn (nI j) n = some j := by
  unfold tn
  rw [nI_toInt (by omega), if_pos (by omega)]
  simp
theorem rn_nI {a b j : Nat} (h : a ≤ j) (h2 : j ≤ b) (hn : b < 2147483648) : rn (nI j) a b = some j := by
  unfold rn
  rw [nI_toInt (by omega), if_pos (by omega)]
  simp
theorem bI_eq0 {b : Bool} : bI b = 0 ↔ b = false := by cases b <;> simp [bI]
theorem bI_ne0 {b : Bool} : ¬ bI b = 0 ↔ b = true := by cases b <;> simp [bI]
theorem isNone_f {α : Type} {o : Option α} (h : o.isNone = false) : ∃ a, o = some a := by cases o with
  | none => cases h
  | some a => exact ⟨a, rfl⟩
theorem isNone_t {α : Type} {o : Option α} (h : o.isNone = true) : o = none := by cases o with
  | none => rfl
  | some a => cases h
theorem g_grldC {E : EN} {M : MF} {ws : va_W} {pc q : Nat} {lv : List (Nat × Value)} {st : List Value} {j : Nat} {v : Int32} (hj : j < 4) (hv : grF j = v) (hdg : decode M.1.2.1 pc = .ok (.iaload, 1)) (hq : pc + 1 = q) (k : G E M ws q lv (.int v :: st)) : G E M ws pc lv (.int (nI j) :: .ref E.2.2.1.1 :: st) := g_grldN hj hdg hq (by rw [hv]; exact k)
theorem g_koldC {E : EN} {M : MF} {ws : va_W} {pc q : Nat} {lv : List (Nat × Value)} {st : List Value} {j : Nat} {v : Int32} (hj : j < 5) (hv : koF j = v) (hdg : decode M.1.2.1 pc = .ok (.iaload, 1)) (hq : pc + 1 = q) (k : G E M ws q lv (.int v :: st)) : G E M ws pc lv (.int (nI j) :: .ref E.2.2.1.2 :: st) := g_koldN hj hdg hq (by rw [hv]; exact k)
theorem bI_t {p : Prop} [Decidable p] (h : p) : nI 1 = bI (decide p) := by rw [decide_eq_true h]; rfl
theorem bI_f {p : Prop} [Decidable p] (h : ¬ p) : nI 0 = bI (decide p) := by rw [decide_eq_false h]; rfl
theorem g_kolenN {E : EN} {M : MF} {ws : va_W} {pc q : Nat} {lv : List (Nat × Value)} {st : List Value} (hdg : decode M.1.2.1 pc = .ok (.arraylength, 1)) (hq : pc + 1 = q) (k : G E M ws q lv (.int (nI 5) :: st)) : G E M ws pc lv (.ref E.2.2.1.2 :: st) := g_kolen hdg hq k
