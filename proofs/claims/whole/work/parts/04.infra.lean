/-! The judgement G of this proof: a method's run from a place on, over a world of cells, with all that is the same at every step put away once. -/
def TB : List Cond := lw_tbl.filter goodWord
theorem tb_good : GoodIn TB TB := goodIn_sub (fun w h => h) (List.all_eq_true.mpr fun w h => (List.mem_filter.mp h).2)
theorem tb_in {w : Cond} (i : Nat) (h : lw_tbl[i]? = some w) (g : goodWord w = true) : w ∈ TB := List.mem_filter.mpr ⟨List.mem_of_getElem? h, g⟩
theorem tb_sub {ws : List Cond} (h : ws.all (fun w => decide (w ∈ lw_tbl) && goodWord w) = true) : ∀ w ∈ ws, w ∈ TB := fun w hw => by
  have h1 := List.all_eq_true.mp h w hw
  simp only [Bool.and_eq_true, decide_eq_true_eq] at h1
  exact List.mem_filter.mpr ⟨h1.1, h1.2⟩
def rmD (d : Nat) : Room := { frames := d, cells := 0, slots := 0, locals := 64 * d }
def sIdx : List Nat := [152, 154, 156, 157, 158, 160, 162, 164, 166, 168, 170, 172, 174, 175]
def sTxt : List String := ["league", "town", "want", "next", "plain", "fool", "half", "prodigy", "heavy", "light", "least", "none", "slack", "free"]
def sLen : List Nat := [6, 4, 4, 4, 5, 4, 4, 7, 5, 5, 5, 4, 5, 4]
def sByt : List (List Int32) := [[108, 101, 97, 103, 117, 101], [116, 111, 119, 110], [119, 97, 110, 116], [110, 101, 120, 116], [112, 108, 97, 105, 110], [102, 111, 111, 108], [104, 97, 108, 102], [112, 114, 111, 100, 105, 103, 121], [104, 101, 97, 118, 121], [108, 105, 103, 104, 116], [108, 101, 97, 115, 116], [110, 111, 110, 101], [115, 108, 97, 99, 107], [102, 114, 101, 101]]
def grF : Nat → Int32 := fun j => ([1, 0, 1, 2] : List Int32).getD j 0
def koF : Nat → Int32 := fun j => ([-1, 0, 1, 1, 0] : List Int32).getD j 0
/-- what stays the same in a run: classes' numbers, array classes, the launch, the statics' and Strings' addresses -/
abbrev EN : Type := (va_G × Launch) × (ClassId × ClassId × ClassId × ClassId) × (Nat × Nat) × ((Nat → Nat) × (Nat → Nat))
def tyE (E : EN) : List (ClassId × FieldType) := [(E.2.1.1, .int), (E.2.1.2.1, .byte), (E.2.1.2.2.1, .boolean), (E.2.1.2.2.2, .object "PoundBoys$Folk")]
def nestW : List Cond := [.methodLinkNest "PoundBoys$Folk" 43 yX9_poundsOf "PoundBoys", .methodLinkNest "PoundBoys$Calendar" 32 yX9_fedWeight "PoundBoys"]
def amb (E : EN) (A : Nat → Prop) (U : State) (H : Heap) : Prop :=
  (va_Z "PoundBoys" "GROWTH" "[I" (.ref E.2.2.1.1) A U H ∧ va_T .int E.2.2.1.1 4 (fun j => .int (grF j)) A U H) ∧ (va_Z "PoundBoys" "KIND_OVER" "[I" (.ref E.2.2.1.2) A U H ∧ va_T .int E.2.2.1.2 5 (fun j => .int (koF j)) A U H) ∧
  (va_Z "java/lang/String" "COMPACT_STRINGS" "Z" (.int 1) A U H ∧ va_Zq "jdk/internal/util/Preconditions" "SIOOBE_FORMATTER" "Ljava/util/function/BiFunction;" A U H) ∧
  (vk_S 14 sLen sByt E.2.2.2.1 E.2.2.2.2 A U H ∧ ∀ i, i < 14 → vk_R "PoundBoys$Reader" (sIdx.getD i 0) (sTxt.getD i "") (E.2.2.2.1 i) U) ∧
  (va_Nw (.methodLinkNest "PoundBoys$Folk" 43 yX9_poundsOf "PoundBoys") U ∧ va_Nw (.methodLinkNest "PoundBoys$Calendar" 32 yX9_fedWeight "PoundBoys") U ∧ va_Nw (.fieldLinkNest "PoundBoys$Folk" 51 "PoundBoys" "KIND_OVER" "[I" "PoundBoys") U ∧ va_Nw (.fieldLinkNest "PoundBoys$Calendar" 56 "PoundBoys" "GROWTH" "[I" "PoundBoys") U)
theorem amb.moved {E : EN} {A : Nat → Prop} {u U : State} {H : Heap} (hW : u.WarmedH U.vm) (h : amb E A u H) : amb E A U H := by
  obtain ⟨⟨a1, a2⟩, ⟨b1, b2⟩, ⟨c1, c2⟩, ⟨d1, d2⟩, e1, e2, e3, e4⟩ := h
  exact ⟨⟨va_Z.moved hW.alike a1, va_T.moved hW.alike a2⟩, ⟨va_Z.moved hW.alike b1, va_T.moved hW.alike b2⟩, ⟨va_Z.moved hW.alike c1, va_Zq.moved hW.alike c2⟩, ⟨vk_S.moved hW.alike d1, fun i hi => vk_R.warm hW (d2 i hi)⟩, va_Nw.warmM hW e1, va_Nw.warmM hW e2, va_Nw.warmF hW e3, va_Nw.warmF hW e4⟩
theorem amb.same {E : EN} {A : Nat → Prop} {u U : State} {H : Heap} (hv : U.vm = u.vm) (h : amb E A u H) : amb E A U H := by
  obtain ⟨⟨a1, a2⟩, ⟨b1, b2⟩, ⟨c1, c2⟩, ⟨d1, d2⟩, e1, e2, e3, e4⟩ := h
  have hA : u.vm.Alike U.vm := by rw [hv]; exact Vm.Alike.refl u.vm
  exact ⟨⟨va_Z.moved hA a1, va_T.moved hA a2⟩, ⟨va_Z.moved hA b1, va_T.moved hA b2⟩, ⟨va_Z.moved hA c1, va_Zq.moved hA c2⟩, ⟨vk_S.moved hA d1, fun i hi => vk_R.same hv (d2 i hi)⟩, va_Nw.same rfl hv.symm e1, va_Nw.same rfl hv.symm e2, va_Nw.same rfl hv.symm e3, va_Nw.same rfl hv.symm e4⟩
theorem amb.kept {E : EN} {A : Nat → Prop} {U : State} {H H1 : Heap} (h : amb E A U H) (hq : ∀ a : Nat, a < H.size → ¬ A a → H1[a]? = H[a]?) : amb E A U H1 := by
  obtain ⟨⟨a1, a2⟩, ⟨b1, b2⟩, ⟨c1, c2⟩, ⟨d1, d2⟩, e⟩ := h
  exact ⟨⟨a1.kept hq, a2.kept hq⟩, ⟨b1.kept hq, b2.kept hq⟩, ⟨c1.kept hq, c2.kept hq⟩, ⟨d1.kept hq, d2⟩, e⟩
theorem amb.narrow {E : EN} {A B : Nat → Prop} {U : State} {H : Heap} (h : amb E A U H) (hAB : ∀ q, B q → A q) : amb E B U H := by
  obtain ⟨⟨a1, a2⟩, ⟨b1, b2⟩, ⟨c1, c2⟩, ⟨d1, d2⟩, e⟩ := h
  exact ⟨⟨a1.narrow hAB, a2.narrow hAB⟩, ⟨b1.narrow hAB, b2.narrow hAB⟩, ⟨c1.narrow hAB, c2.narrow hAB⟩, ⟨d1.narrow hAB, d2⟩, e⟩
/-- a method's end: its answer and the cells -/
def QD (E : EN) (Qr : Option Value → va_W → Prop) (w0 : List Nat) (A : Nat → Prop) : Array Value → State → Outcome → State → Prop := fun _ st oc t =>
  (∃ (r : Option Value) (w' : va_W), oc = .returned r ∧ Qr r w' ∧ w'.map Prod.fst = w0 ∧ va_P E.1.1 vwCl w' t.heap ∧ va_D A w') ∧ va_F A st t
def PC (E : EN) (w : va_W) (sz : Nat) : State → Prop := fun U => U.heap.size = sz ∧ va_P E.1.1 vwCl w U.heap ∧ va_K E.1.1 vwCl (tyE E) U ∧ va_D (fun _ => True) w ∧ amb E (va_A w sz) U U.heap
/-- the contract of a method -/
def CT (E : EN) (y : MethodName) (b : ByteArray) (nL : Nat) (rt : Option FieldType) (d : Nat) (av : List Value) (w : va_W) (Qr : Option Value → va_W → Prop) : Prop :=
  ∀ sz : Nat, Met E.1.2 y (.code y b nL rt :: TB) (rmD d) (va_Pc av (PC E w sz)) (QD E Qr (w.map Prod.fst) (va_A w sz)) 0 0 (va_A w sz)
def Cx (E : EN) (own : String) (cc : ByteArray) (nL : Nat) (rt : Option FieldType) (A : Nat → Prop) (p : Program) (s : State) (m : MethodId) (args : Array Value) (meth : Method) (c : Code) : Prop :=
  p.tables.exec = Jvm.exec ∧ c.code = cc ∧ meth.sig.returnType = rt ∧ c.maxLocals = nL ∧ s.vm.findClass own = some m.cls ∧ (∀ w ∈ TB, w.before args s = true) ∧ va_K E.1.1 vwCl (tyE E) s ∧ amb E A s s.heap ∧ (∀ q, s.heap.size ≤ q → A q) ∧ meth.locks = false
/-- what a method's frame is: its class, code, locals, return type, depth of room, its cells, its end, its cells' addresses -/
abbrev MF : Type := (String × ByteArray × Nat) × (Option FieldType × Nat) × (Nat → Prop) × (Option Value → va_W → Prop) × List Nat
def G (E : EN) (M : MF) (ws : va_W) (pc : Nat) (lv : List (Nat × Value)) (st : List Value) : Prop :=
  ∀ (p : Program) (e : Env) (s : State) (m : MethodId) (args : Array Value) (below : List Frame) (meth : Method) (c : Code), Cx E M.1.1 M.1.2.1 M.1.2.2 M.2.1.1 M.2.2.1 p s m args meth c →
  ∀ (H : Heap) (locs : List Loc) (ls : Array Slot), va_P E.1.1 vwCl ws H → va_D M.2.2.1 ws → va_S M.2.2.1 s.heap H locs → lv_has ls M.1.2.2 lv →
  W p E.1.2 e (rmD M.2.1.2) s m args below meth c H locs 0 0 (MQ below (QD E M.2.2.2.1 M.2.2.2.2 M.2.2.1) args s 0 0 M.2.2.1) (F0 m pc ls st)
theorem ct_of {E : EN} {y : MethodName} {b : ByteArray} {nL : Nat} {rt : Option FieldType} {d : Nat} {av : List Value} {w : va_W} {Qr : Option Value → va_W → Prop} (hy : plainName y.cls = true) (hlen : (lg_sl av).length ≤ nL) {lv : List (Nat × Value)} (hlv : lv_args 0 av = lv)
    (k : ∀ A : Nat → Prop, G E ((y.cls, b, nL), (rt, d), A, Qr, w.map Prod.fst) w 0 lv []) : CT E y b nL rt d av w Qr := by
  intro sz
  refine Met.ofW (cc := b) (maxL := nL) (ret := rt) hy rfl ?_
  intro p e s m args below meth c s₁ B hml hv
  obtain ⟨rfl, hsz, hP, hK, hD0, hamb⟩ := hv
  have hts : ∀ w ∈ TB, w.before av.toArray s = true := fun w hw => atoms_spec (ws := .code y b nL rt :: TB) B.pre w (List.mem_cons_of_mem _ hw)
  have hown : s.vm.findClass y.cls = some m.cls := findClass_of_methodNamed B.named
  subst hsz
  have hl := lv_entry av (n := nL) hlen
  rw [hlv] at hl
  rw [lg_entry_eq]
  exact k (va_A w s.heap.size) p e s m av.toArray below meth c ⟨B.exec, B.bytes, B.returns, hml, hown, hts, hK, hamb, fun q h => Or.inr h, B.notSynchronized⟩ s.heap [] _ hP hD0.self va_S.rf hl
theorem g_eq {E : EN} {M : MF} {ws ws' : va_W} {pc : Nat} {lv lv' : List (Nat × Value)} {st st' : List Value} (k : G E M ws' pc lv' st') (h1 : ws = ws') (h2 : lv = lv') (h3 : st = st') : G E M ws pc lv st := by rw [h1, h2, h3]; exact k
def lget : List (Nat × Value) → Nat → Option Value
  | [], _ => none
  | (k, v) :: r, i => if k = i then some v else lget r i
theorem lget_mem : ∀ {lv : List (Nat × Value)} {i : Nat} {v : Value}, lget lv i = some v → (i, v) ∈ lv
  | [], i, v, h => by simp [lget] at h
  | (k, u) :: r, i, v, h => by
    unfold lget at h
    by_cases hk : k = i
    · rw [if_pos hk] at h
      cases h
      rw [hk]
      exact List.mem_cons_self
    · rw [if_neg hk] at h
      exact List.mem_cons_of_mem _ (lget_mem h)
theorem lget_has {ls : Array Slot} {nL : Nat} {lv : List (Nat × Value)} {i : Nat} {v : Value} (h : lv_has ls nL lv) (hg : lget lv i = some v) : ls[i]? = some (.val v) := h.2.2 (i, v) (lget_mem hg)
def lok (i : Nat) (q : Nat × Value) : Bool := !(q.1 == i) && !(q.1 + 1 == i && q.2.category == 2)
def lset : List (Nat × Value) → Nat → Value → List (Nat × Value)
  | [], i, v => [(i, v)]
  | (k, u) :: r, i, v => if k = i then (i, v) :: r.filter (lok i) else if k + 1 = i ∧ u.category = 2 then lset r i v else (k, u) :: lset r i v
theorem lset_mem : ∀ {lv : List (Nat × Value)} {i : Nat} {v : Value} {q : Nat × Value}, q ∈ lset lv i v → q ∈ (i, v) :: lv.filter (lok i)
  | [], i, v, q, h => by simpa [lset] using h
  | (k, u) :: r, i, v, q, h => by
    unfold lset at h
    by_cases hk : k = i
    · rw [if_pos hk] at h
      rcases List.mem_cons.mp h with h | h
      · rw [h]; exact List.mem_cons_self
      · refine List.mem_cons_of_mem _ ?_
        rw [List.filter_cons]
        split
        · exact List.mem_cons_of_mem _ h
        · exact h
    · rw [if_neg hk] at h
      by_cases hc : k + 1 = i ∧ u.category = 2
      · rw [if_pos hc] at h
        rcases List.mem_cons.mp (lset_mem h) with h | h
        · rw [h]; exact List.mem_cons_self
        · refine List.mem_cons_of_mem _ ?_
          rw [List.filter_cons]
          split
          · exact List.mem_cons_of_mem _ h
          · exact h
      · rw [if_neg hc] at h
        rcases List.mem_cons.mp h with h | h
        · rw [h]
          refine List.mem_cons_of_mem _ ?_
          rw [List.filter_cons, if_pos]
          · exact List.mem_cons_self
          · by_cases h1 : k + 1 = i
            · have h2 : ¬ u.category = 2 := fun e => hc ⟨h1, e⟩
              simp [lok, hk, h2]
            · simp [lok, hk, h1]
        · rcases List.mem_cons.mp (lset_mem h) with h | h
          · rw [h]; exact List.mem_cons_self
          · refine List.mem_cons_of_mem _ ?_
            rw [List.filter_cons]
            split
            · exact List.mem_cons_of_mem _ h
            · exact h
theorem lset_has {ls : Array Slot} {nL : Nat} {lv : List (Nat × Value)} {i : Nat} {v : Value} (h : lv_has ls nL ((i, v) :: lv.filter (lok i))) : lv_has ls nL (lset lv i v) := ⟨h.1, h.2.1, fun q hq => h.2.2 q (lset_mem hq)⟩
